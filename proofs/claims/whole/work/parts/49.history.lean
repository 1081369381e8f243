set_option maxHeartbeats 4000000 in
set_option maxRecDepth 100000 in
theorem kX1_begin {d : Dt} {nx : Nat} (hnx : nx < 9) (h1 : d.1 148 1 = nI nx) : CV mX1_begin 3 [.ref 148, .ref 0] d (fun d' => CPk 11 (2 + nx) 0 d d') := by
  show AW mX1_begin 3 true (PVx (fun d' => CPk 11 (2 + nx) 0 d d') nX) 0 0 0 [(0, .ref 148), (1, .ref 0)] [] (HP d)
  refine aw_aload_n dX1_begin_0 rfl ?_
  refine aw_gf dX1_begin_1 (hp_148 _) rfl fX1_11 (by decide) rfl ?_
  refine aw_aload_n dX1_begin_4 rfl ?_
  refine aw_gf dX1_begin_5 (hp_148 _) rfl fX1_16 (by decide) rfl ?_
  rw [h1]
  refine aw_aald (r := 12 * (2 + nx)) dX1_begin_8 (hp_149 _) rfl (vp_in_nI (show nx < 9 by omega) (by decide)) (by show some (24 + 12 * (nI (nx)).toNatClampNeg) = _; rw [nI_clamp (show nx < 2 ^ 31 by omega)]; exact congrArg some (by omega)) ?_
  refine aw_aload_n dX1_begin_9 rfl ?_
  refine aw_cVv dX1_begin_10 oX4_copyFrom vX4_copyFrom rfl lX1_20 (kX4_copyFrom (a := 2 + nx) (b := 0) (by omega) (by decide) (by omega)) rfl (hps_0 (a := 2 + nx) (by omega) _) rfl rfl rfl (Nat.le_of_ble_eq_true rfl) (by decide) (Nat.le_of_ble_eq_true rfl) ?_
  rintro d1 hc
  exact aw_endV dX1_begin_13 rfl hc

set_option maxHeartbeats 4000000 in
set_option maxRecDepth 100000 in
theorem kX1_cancel {d : Dt} {nx : Nat} (hnx : nx < 9) (h1 : d.1 148 1 = nI nx) : CV mX1_cancel 3 [.ref 148, .ref 0] d (fun d' => CPk 11 0 (2 + nx) d d') := by
  show AW mX1_cancel 3 true (PVx (fun d' => CPk 11 0 (2 + nx) d d') nX) 0 0 0 [(0, .ref 148), (1, .ref 0)] [] (HP d)
  refine aw_aload_n dX1_cancel_0 rfl ?_
  refine aw_aload_n dX1_cancel_1 rfl ?_
  refine aw_gf dX1_cancel_2 (hp_148 _) rfl fX1_11 (by decide) rfl ?_
  refine aw_aload_n dX1_cancel_5 rfl ?_
  refine aw_gf dX1_cancel_6 (hp_148 _) rfl fX1_16 (by decide) rfl ?_
  rw [h1]
  refine aw_aald (r := 12 * (2 + nx)) dX1_cancel_9 (hp_149 _) rfl (vp_in_nI (show nx < 9 by omega) (by decide)) (by show some (24 + 12 * (nI (nx)).toNatClampNeg) = _; rw [nI_clamp (show nx < 2 ^ 31 by omega)]; exact congrArg some (by omega)) ?_
  refine aw_cVv dX1_cancel_10 oX4_copyFrom vX4_copyFrom rfl lX1_20 (kX4_copyFrom (a := 0) (b := 2 + nx) (by decide) (by omega) (by omega)) rfl (hp_0 _) rfl rfl rfl (Nat.le_of_ble_eq_true rfl) (by decide) (Nat.le_of_ble_eq_true rfl) ?_
  rintro d1 hc
  exact aw_endV dX1_cancel_13 rfl hc

set_option maxHeartbeats 4000000 in
set_option maxRecDepth 100000 in
theorem kX1_clear {d : Dt} : CV mX1_clear 1 [.ref 148] d (fun d' => d' = dI d 148 (upd (d.1 148) 2 0)) := by
  show AW mX1_clear 1 true (PVx (fun d' => d' = dI d 148 (upd (d.1 148) 2 0)) nX) 0 0 0 [(0, .ref 148)] [] (HP d)
  refine aw_aload_n dX1_clear_0 rfl ?_
  refine aw_iconst (v := 0) dX1_clear_1 (by decide) ?_
  refine aw_putI (ci := 1) (j := 2) .int dX1_clear_2 fX1_24 rfl (by decide) rfl tyX1 tyX1_ok nmX1 rfl rfl rfl (hp_148 _) (Nat.le_of_ble_eq_true rfl) rfl ?_
  exact aw_endV dX1_clear_5 rfl rfl

set_option maxHeartbeats 4000000 in
set_option maxRecDepth 100000 in
theorem kX1_finish {d : Dt} {nx : Nat} (hnx : nx < 9) (h1 : d.1 148 1 = nI nx) {cn : Nat} (hcn : cn ≤ 8) (h2 : d.1 148 2 = nI cn) : CV mX1_finish 2 [.ref 148] d (fun d' => d' = dI (dI d 148 (upd (d.1 148) 1 (nI (if nx + 1 < 9 then nx + 1 else 0)))) 148 (upd ((dI d 148 (upd (d.1 148) 1 (nI (if nx + 1 < 9 then nx + 1 else 0)))).1 148) 2 (nI (if cn + 1 ≤ 8 then cn + 1 else 8)))) := by
  show AW mX1_finish 2 true (PVx (fun d' => d' = dI (dI d 148 (upd (d.1 148) 1 (nI (if nx + 1 < 9 then nx + 1 else 0)))) 148 (upd ((dI d 148 (upd (d.1 148) 1 (nI (if nx + 1 < 9 then nx + 1 else 0)))).1 148) 2 (nI (if cn + 1 ≤ 8 then cn + 1 else 8)))) nX) 0 0 0 [(0, .ref 148)] [] (HP d)
  refine aw_aload_n dX1_finish_0 rfl ?_
  refine aw_join (P := fun v => v = nI (if nx + 1 < 9 then nx + 1 else 0)) 22 (fun v hv22 => ?_) (fun kJ22 => ?_)
  · subst hv22
    refine aw_putI (ci := 1) (j := 1) .int dX1_finish_22 fX1_16 rfl (by decide) rfl tyX1 tyX1_ok nmX1 rfl rfl rfl (hp_148 _) (Nat.le_of_ble_eq_true rfl) rfl ?_
    refine aw_aload_n dX1_finish_25 rfl ?_
    refine aw_aload_n dX1_finish_26 rfl ?_
    refine aw_gf dX1_finish_27 (hp_148 _) rfl fX1_24 (by decide) rfl ?_
    refine aw_iconst (v := 1) dX1_finish_30 (by decide) ?_
    refine aw_iadd dX1_finish_31 ?_
    refine aw_bipush (v := 8) dX1_finish_32 (by decide) ?_
    rw [dI_s]
    rw [show upd (d.1 148) 1 (nI (if nx + 1 < 9 then nx + 1 else 0)) 2 = nI cn from by simp only [upd]; rw [if_neg (by decide)]; exact h2, nI_1]
    refine aw_mmin dX1_finish_34 lX1_27 (by decide) (Nat.le_of_ble_eq_true rfl) (v := nI (if cn + 1 ≤ 8 then cn + 1 else 8)) (by by_cases e : cn + 1 ≤ 8; rw [if_neg (fun z => by have := (lt_nI (show (8 : Int32) = nI 8 from rfl) rfl (by omega) (by omega)).mp z; omega), if_pos e]; rw [if_pos ((lt_nI (show (8 : Int32) = nI 8 from rfl) rfl (by omega) (by omega)).mpr (by omega)), if_neg e]; rfl) ?_
    refine aw_putI (ci := 1) (j := 2) .int dX1_finish_37 fX1_24 rfl (by decide) rfl tyX1 tyX1_ok nmX1 rfl rfl rfl (hp_148 _) (Nat.le_of_ble_eq_true rfl) rfl ?_
    exact aw_endV dX1_finish_40 rfl (by simp only [dI_s, dI_dI])
  · refine aw_aload_n dX1_finish_1 rfl ?_
    refine aw_gf dX1_finish_2 (hp_148 _) rfl fX1_16 (by decide) rfl ?_
    refine aw_iconst (v := 1) dX1_finish_5 (by decide) ?_
    refine aw_iadd dX1_finish_6 ?_
    refine aw_bipush (v := 9) dX1_finish_7 (by decide) ?_
    refine aw_icmp_ge 21 dX1_finish_9 (by decide) (fun c9 => ?_) (fun c9 => ?_)
    · refine aw_iconst (v := 0) dX1_finish_21 (by decide) ?_
      exact kJ22 _ (by rw [h1, nI_1] at c9; have := (le_nI (show (9 : Int32) = nI 9 from rfl) rfl (by omega) (by omega)).mp c9; rw [if_neg (by omega)]; rfl)
    · refine aw_aload_n dX1_finish_12 rfl ?_
      refine aw_gf dX1_finish_13 (hp_148 _) rfl fX1_16 (by decide) rfl ?_
      refine aw_iconst (v := 1) dX1_finish_16 (by decide) ?_
      refine aw_iadd dX1_finish_17 ?_
      refine aw_goto (tgt := 22) dX1_finish_18 (by decide) ?_
      exact kJ22 _ (by rw [h1, nI_1] at c9 ⊢; have := mt (le_nI (show (9 : Int32) = nI 9 from rfl) (rfl : nI (nx + 1) = nI (nx + 1)) (by omega) (by omega)).mpr c9; rw [if_pos (by omega)])

set_option maxHeartbeats 4000000 in
set_option maxRecDepth 100000 in
theorem kX1_stepBack {d : Dt} {nx : Nat} (hnx : nx < 9) (h1 : d.1 148 1 = nI nx) {cn : Nat} (hcn : 1 ≤ cn) (h2 : d.1 148 2 = nI cn) : CV mX1_stepBack 3 [.ref 148, .ref 0] d (fun d' => ∃ d1, d1 = dI (dI d 148 (upd (d.1 148) 1 (nI (if 0 < nx then nx - 1 else 8)))) 148 (upd ((dI d 148 (upd (d.1 148) 1 (nI (if 0 < nx then nx - 1 else 8)))).1 148) 2 (nI (cn - 1))) ∧ CPk 11 0 (2 + (if 0 < nx then nx - 1 else 8)) d1 d') := by
  show AW mX1_stepBack 3 true (PVx (fun d' => ∃ d1, d1 = dI (dI d 148 (upd (d.1 148) 1 (nI (if 0 < nx then nx - 1 else 8)))) 148 (upd ((dI d 148 (upd (d.1 148) 1 (nI (if 0 < nx then nx - 1 else 8)))).1 148) 2 (nI (cn - 1))) ∧ CPk 11 0 (2 + (if 0 < nx then nx - 1 else 8)) d1 d') nX) 0 0 0 [(0, .ref 148), (1, .ref 0)] [] (HP d)
  refine aw_aload_n dX1_stepBack_0 rfl ?_
  refine aw_join (P := fun v => v = nI (if 0 < nx then nx - 1 else 8)) 19 (fun v hv19 => ?_) (fun kJ19 => ?_)
  · subst hv19
    refine aw_putI (ci := 1) (j := 1) .int dX1_stepBack_19 fX1_16 rfl (by decide) rfl tyX1 tyX1_ok nmX1 rfl rfl rfl (hp_148 _) (Nat.le_of_ble_eq_true rfl) rfl ?_
    refine aw_aload_n dX1_stepBack_22 rfl ?_
    refine aw_dup dX1_stepBack_23 rfl ?_
    refine aw_gf dX1_stepBack_24 (hp_148 _) rfl fX1_24 (by decide) rfl ?_
    rw [show (dI d 148 (upd (d.1 148) 1 (nI (if 0 < nx then nx - 1 else 8)))).1 148 2 = nI cn from by rw [dI_s]; simp only [upd]; rw [if_neg (by decide)]; exact h2]
    refine aw_iconst (v := 1) dX1_stepBack_27 (by decide) ?_
    refine aw_isub dX1_stepBack_28 ?_
    rw [show nI cn - 1 = nI (cn - 1) from tv_s hcn]
    refine aw_putI (ci := 1) (j := 2) .int dX1_stepBack_29 fX1_24 rfl (by decide) rfl tyX1 tyX1_ok nmX1 rfl rfl rfl (hp_148 _) (Nat.le_of_ble_eq_true rfl) rfl ?_
    generalize hd1 : dI (dI d 148 (upd (d.1 148) 1 (nI (if 0 < nx then nx - 1 else 8)))) 148 (upd ((dI d 148 (upd (d.1 148) 1 (nI (if 0 < nx then nx - 1 else 8)))).1 148) 2 (nI (cn - 1))) = d1
    have h11 : d1.1 148 1 = nI (if 0 < nx then nx - 1 else 8) := by rw [← hd1, dI_s]; simp only [upd]; rw [if_neg (by decide), dI_s]; simp only [upd, if_true]
    refine aw_aload_n dX1_stepBack_32 rfl ?_
    refine aw_aload_n dX1_stepBack_33 rfl ?_
    refine aw_gf dX1_stepBack_34 (hp_148 _) rfl fX1_11 (by decide) rfl ?_
    refine aw_aload_n dX1_stepBack_37 rfl ?_
    refine aw_gf dX1_stepBack_38 (hp_148 _) rfl fX1_16 (by decide) rfl ?_
    rw [h11]
    refine aw_aald (r := 12 * (2 + (if 0 < nx then nx - 1 else 8))) dX1_stepBack_41 (hp_149 _) rfl (vp_in_nI (show (if 0 < nx then nx - 1 else 8) < 9 by split <;> omega) (by decide)) (by show some (24 + 12 * (nI ((if 0 < nx then nx - 1 else 8))).toNatClampNeg) = _; rw [nI_clamp (show (if 0 < nx then nx - 1 else 8) < 2 ^ 31 by split <;> omega)]; exact congrArg some (by omega)) ?_
    refine aw_cVv dX1_stepBack_42 oX4_copyFrom vX4_copyFrom rfl lX1_20 (kX4_copyFrom (a := 0) (b := 2 + (if 0 < nx then nx - 1 else 8)) (by decide) (by split <;> omega) (by omega)) rfl (hp_0 _) rfl rfl rfl (Nat.le_of_ble_eq_true rfl) (by decide) (Nat.le_of_ble_eq_true rfl) ?_
    rintro d2 hc
    exact aw_endV dX1_stepBack_45 rfl ⟨d1, rfl, hc⟩
  · refine aw_aload_n dX1_stepBack_1 rfl ?_
    refine aw_gf dX1_stepBack_2 (hp_148 _) rfl fX1_16 (by decide) rfl ?_
    refine aw_if_le 17 dX1_stepBack_5 (by decide) (fun c5 => ?_) (fun c5 => ?_)
    · refine aw_bipush (v := 8) dX1_stepBack_17 (by decide) ?_
      exact kJ19 _ (by rw [h1] at c5; have := (le_nI rfl (show (0 : Int32) = nI 0 from rfl) (by omega) (by omega)).mp c5; rw [if_neg (by omega)]; rfl)
    · refine aw_aload_n dX1_stepBack_8 rfl ?_
      refine aw_gf dX1_stepBack_9 (hp_148 _) rfl fX1_16 (by decide) rfl ?_
      refine aw_iconst (v := 1) dX1_stepBack_12 (by decide) ?_
      refine aw_isub dX1_stepBack_13 ?_
      refine aw_goto (tgt := 19) dX1_stepBack_14 (by decide) ?_
      exact kJ19 _ (by rw [h1] at c5 ⊢; have := mt (le_nI (rfl : nI nx = nI nx) (show (0 : Int32) = nI 0 from rfl) (by omega) (by omega)).mpr c5; rw [if_pos (by omega), tv_s (by omega)])

set_option maxHeartbeats 4000000 in
set_option maxRecDepth 100000 in
theorem kX7_remember {d : Dt} {y : Sy} (h : CC d y) : CV mX7_remember 4 [.ref 132] d (fun d' => fC d d' ∧ CC d' (push2 y y.1 y.2.2.2.1)) := by
  show AW mX7_remember 4 true (PVx (fun d' => fC d d' ∧ CC d' (push2 y y.1 y.2.2.2.1)) nX) 0 0 0 [(0, .ref 132)] [] (HP d)
  obtain ⟨⟨hk, ok⟩, ⟨nx, hnx, h1, h2, h3, h5⟩, hS, hW, hT⟩ := h
  refine aw_aload_n dX7_remember_0 rfl ?_
  refine aw_gf dX7_remember_1 (hp_132 _) rfl fX7_38 (by decide) rfl ?_
  refine aw_aload_n dX7_remember_4 rfl ?_
  refine aw_gf dX7_remember_5 (hp_132 _) rfl fX7_12 (by decide) rfl ?_
  refine aw_cVv dX7_remember_8 oX1_begin vX1_begin rfl lX7_268 (kX1_begin hnx h1) rfl (hp_148 _) rfl rfl rfl (Nat.le_of_ble_eq_true rfl) (by decide) (Nat.le_of_ble_eq_true rfl) ?_
  rintro d1 hc
  have h11 : d1.1 148 1 = nI nx := by rw [CP_out hc (by omega)]; exact h1
  have h12 : d1.1 148 2 = nI y.2.1.length := by rw [CP_out hc (by omega)]; exact h2
  refine aw_aload_n dX7_remember_11 rfl ?_
  refine aw_gf dX7_remember_12 (hp_132 _) rfl fX7_38 (by decide) rfl ?_
  refine aw_cVv dX7_remember_15 oX1_finish vX1_finish rfl lX7_277 (kX1_finish hnx h11 h3 h12) rfl (hp_148 _) rfl rfl rfl (Nat.le_of_ble_eq_true rfl) (by decide) (Nat.le_of_ble_eq_true rfl) ?_
  rintro _ rfl
  have e : ∀ (f g : Nat → Int32) i, i ≠ 148 → (dI (dI d1 148 f) 148 g).1 i = d1.1 i := fun f g i hi => by rw [dI_n _ _ hi, dI_n _ _ hi]
  refine aw_endV dX7_remember_18 rfl ⟨fC_dI (fC_dI ⟨fun i hi => ⟨CP_out hc (by omega), by rw [hc.1]⟩, by rw [hc.1]⟩ (by decide) _) (by decide) _, ⟨KS_k hk (fun j hj => by rw [e _ _ _ (by omega), CP_out hc (by omega)]), ok⟩, ?_, SC_k hS (fun i a b => by rw [e _ _ _ (by omega), CP_out hc (by omega)]) (by rw [e _ _ _ (by decide), CP_out hc (by omega)]), ⟨by rw [e _ _ _ (by decide), CP_out hc (by omega)]; exact hW.1, hW.2⟩, ?_⟩
  · refine HC_push hnx h3 h5 hk ok hc (fun i a b => e _ _ i (by omega)) ?_ ?_
    · rw [dI_s]; simp only [upd]; rw [if_neg (by decide), dI_s]; simp only [upd, if_true]
    · rw [dI_s]; simp only [upd, if_true]
  · show TP _ _ y.2.2.2.2
    rw [e _ _ 151 (by decide), e _ _ 150 (by decide), CP_out hc (by omega), CP_out hc (by omega)]
    exact hT
