theorem ful_s {q : St} (h : 1 ≤ 2 ^ q 0 1) {S : Nat} : S ≤ fulQ q ↔ S < 2 ^ q 0 1 := by unfold fulQ; omega
theorem ful_le (q : St) : fulQ q + 1 = 2 ^ q 0 1 := by have := Nat.two_pow_pos (q 0 1); unfold fulQ; omega
theorem PC_e {d d' : Dt} {q : St} {s T : Nat} (h : PC d q s T) (e1 : d'.2.1 145 T = d.2.1 145 T) (e2 : d'.1 146 T = d.1 146 T) : PC d' q s T := ⟨e1.trans h.1, e2.trans h.2⟩
theorem PC_nc {d : Dt} {q : St} (hm : q 0 1 ≤ 12) {s T : Nat} (hT : T < 2 ^ q 0 1) (hc : clB q T = false) (h : PC d q s T) : PC d q (s + 1) T := by
  have e1 := cnt_nc (tl := tl0) (s := s) hc
  have e2 := cnt_nc (tl := tl0) (s := s + 1) hc
  exact ⟨by rw [h.1, e1, e2], by rw [h.2, fst_cnt hm hT e1, fst_cnt hm hT e2]⟩
theorem PC_0s {d : Dt} {q : St} (hm : q 0 1 ≤ 8) {s : Nat} (h : PC d q s 0) : PC d q (s + 1) 0 := by
  have hp := p2_256 hm
  have hc : ∀ n, cntQ q tl0 n 0 = 1 := by
    intro n
    induction n with
    | zero => rfl
    | succ n ih =>
      show (if clB q 0 = true then sN (2 ^ q 0 1) (cntF q tl0 (cntQ q tl0 n) n 0) else 0) = 1
      rw [if_pos (cl_0 q), sN_cut (n := 1) hp.1 (fun k h1 _ => by unfold cntF; exact if_neg (fun z => by rw [Nat.and_zero] at z; omega))]
      show 0 + cntF q tl0 (cntQ q tl0 n) n 0 0 = 1
      unfold cntF
      rw [if_pos ⟨Nat.zero_and _, rg_0 q _, tlB0 q _ _⟩, lacks_z (by omega), ih]
  have hw : ∀ n w, Wc q n 0 w ↔ w = 0 := by
    intro n
    induction n with
    | zero => intro w; rw [Wc_0]; exact ⟨fun z => z.2, fun z => ⟨rfl, z⟩⟩
    | succ n ih =>
      intro w
      rw [Wc_s hm (by omega)]
      constructor
      · rintro ⟨_, P, w', h1, _, h3, h4⟩
        have e : P = 0 := by rw [Nat.and_zero] at h1; exact h1.symm
        subst e
        rw [lacks_z (by omega), ih] at h3
        rw [h4, h3, dig_0, Nat.mul_zero]
      · rintro rfl
        exact ⟨cl_0 q, 0, 0, Nat.zero_and _, rg_0 q _, by rw [lacks_z (by omega), ih], by rw [dig_0, Nat.mul_zero]⟩
  have hf : ∀ n, fstQ q n 0 = 1 := fun n => MinOf.uniq (mnOf_spec (Wc q n 0)) (Or.inr ⟨0, rfl, (hw n 0).mpr rfl, fun _ _ => Nat.zero_le _⟩)
  exact ⟨by rw [h.1, hc, hc], by rw [h.2, hf, hf]⟩
set_option maxHeartbeats 4000000 in
set_option maxRecDepth 100000 in
theorem kX3_addStation {q : St} {d : Dt} (hs : KS 0 d q) (ok : QOK q) (h8 : q 0 1 ≤ 8) (hPD : PD d q) {s : Nat} (hs7 : s < 8) (hPC : ∀ T, T < 2 ^ q 0 1 → PC d q s T) : CV mX3_addStation 4 [.ref 138, .int (nI s)] d (fun d' => fP d d' ∧ PD d' q ∧ ∀ T, T < 2 ^ q 0 1 → PC d' q (s + 1) T) := by
  show AW mX3_addStation 4 true (PVx (fun d' => fP d d' ∧ PD d' q ∧ ∀ T, T < 2 ^ q 0 1 → PC d' q (s + 1) T) nX) 0 0 0 [(0, .ref 138), (1, .int (nI s))] [] (HP d)
  have h12 := ok.2.1
  have hp12 := pow12 h12
  obtain ⟨hN1, hN2⟩ := p2_256 h8
  have K : ∀ (S : Nat) (d1 : Dt), S < 2 ^ q 0 1 → fP d d1 → PD d1 q → (∀ T, T < 2 ^ q 0 1 → (T ≤ S → PC d1 q s T) ∧ (S < T → PC d1 q (s + 1) T)) → AW mX3_addStation 4 true (PVx (fun d' => fP d d' ∧ PD d' q ∧ ∀ T, T < 2 ^ q 0 1 → PC d' q (s + 1) T) nX) 0 0 5 [(0, .ref 138), (1, .int (nI s)), (2, .int (nI S))] [] (HP d1) := by
    intro S
    induction S with
    | zero =>
      intro d1 hS f1 pd1 hin
      refine aw_iload_n dX3_addStation_5 rfl ?_
      refine aw_if_le 30 dX3_addStation_6 (by decide) (fun c6 => ?_) (fun c6 => (c6 (by decide)).elim)
      exact aw_endV dX3_addStation_30 rfl ⟨f1, pd1, fun T hT => by
        rcases Nat.eq_zero_or_pos T with e | e
        · subst e; exact PC_0s h8 ((hin 0 hT).1 (Nat.le_refl _))
        · exact (hin T hT).2 e⟩
    | succ S ih =>
      intro d1 hS f1 pd1 hin
      have hs1 : KS 0 d1 q := KS_P hs f1
      have hcl9 := (pd1.2 (S + 1) hS).2.1
      refine aw_iload_n dX3_addStation_5 rfl ?_
      refine aw_if_le 30 dX3_addStation_6 (by decide) (fun c6 => (show False from nI_ne0 (show 0 < S + 1 by omega) (by omega) (Int32.le_antisymm c6 (nI_pos' (by omega)))).elim) (fun c6 => ?_)
      refine aw_aload_n dX3_addStation_9 rfl ?_
      refine aw_gf dX3_addStation_10 (hp_138 _) rfl fX3_22 (by decide) rfl ?_
      refine aw_iload_n dX3_addStation_13 rfl ?_
      refine aw_zaldN dX3_addStation_14 (hp_144 _) rfl (S + 1) (by first | rfl | (simp only [li_0, li_1, li_2, li_3, li_4, li_5, li_7, li_8, li_9, li_11, li_12, li_16, li_17, li_31, li_32, li_60, li_77, li_80, li_89, li_99, li_101, li_112, li_113, li_256, li_999, li_1023, nI_add, pk_mul])) (by omega) (by decide) ?_
      refine aw_if_eq 24 dX3_addStation_15 (by decide) (fun c15 => ?_) (fun c15 => ?_)
      · refine aw_inc (c := (-1)) dX3_addStation_24 (by decide) rfl (by decide) rfl ?_
        refine aw_goto (tgt := 5) dX3_addStation_27 (by decide) ?_
        rw [tv_d, show nI (S + 1) - 1 = nI S from by rw [tv_s (by omega), Nat.add_sub_cancel]]
        exact ih d1 (by omega) f1 pd1 (fun T hT => ⟨fun h => (hin T hT).1 (by omega), fun h => by
          by_cases e : T = S + 1
          · rw [e]; exact PC_nc h12 hS (b2i_eq.mp (by rw [← hcl9]; exact c15)) ((hin (S + 1) hS).1 (Nat.le_refl _))
          · exact (hin T hT).2 (by omega)⟩)
      · refine aw_aload_n dX3_addStation_18 rfl ?_
        refine aw_iload_n dX3_addStation_19 rfl ?_
        refine aw_iload_n dX3_addStation_20 rfl ?_
        refine aw_cVv dX3_addStation_21 oX3_extend vX3_extend rfl lX3_104 (kX3_extend hs1 ok h8 (S := S + 1) hS pd1 hs7 (b2i_ne.mp (by rw [← hcl9]; exact c15)) (by omega) (fun T hT => (hin T (by omega)).1 hT)) rfl (hp_138 _) rfl rfl rfl (Nat.le_of_ble_eq_true rfl) (by decide) (Nat.le_of_ble_eq_true rfl) ?_
        rintro d2 ⟨f2, pd2, hp2, ho⟩
        refine aw_inc (c := (-1)) dX3_addStation_24 (by decide) rfl (by decide) rfl ?_
        refine aw_goto (tgt := 5) dX3_addStation_27 (by decide) ?_
        rw [tv_d, show nI (S + 1) - 1 = nI S from by rw [tv_s (by omega), Nat.add_sub_cancel]]
        exact ih d2 (by omega) (fP_t f1 f2) pd2 (fun T hT => ⟨fun h => PC_e ((hin T hT).1 (by omega)) (ho T (by omega)).1 (ho T (by omega)).2, fun h => by
          by_cases e : T = S + 1
          · rw [e]; exact hp2
          · exact PC_e ((hin T hT).2 (by omega)) (ho T e).1 (ho T e).2⟩)
  refine aw_aload_n dX3_addStation_0 rfl ?_
  refine aw_gf dX3_addStation_1 (hp_138 _) rfl fX3_43 (by decide) rfl ?_
  refine aw_istore_n dX3_addStation_4 (by decide) rfl ?_
  rw [hPD.1]
  exact K (fulQ q) d (ful_lt q) (fP_r d) hPD (fun T hT => ⟨fun _ => hPC T hT, fun h => absurd h (by have := (ful_s hN1).mpr hT; omega)⟩)

set_option maxHeartbeats 4000000 in
set_option maxRecDepth 100000 in
theorem kX3_prepare {q : St} {d : Dt} (hs : KS 0 d q) (ok : QOK q) (h8 : q 0 1 ≤ 8) : CV mX3_prepare 5 [.ref 138] d (fun d' => fP d d' ∧ PD d' q ∧ ∀ T, T < 2 ^ q 0 1 → PC d' q 0 T) := by
  show AW mX3_prepare 5 true (PVx (fun d' => fP d d' ∧ PD d' q ∧ ∀ T, T < 2 ^ q 0 1 → PC d' q 0 T) nX) 0 0 0 [(0, .ref 138)] [] (HP d)
  have h12 := ok.2.1
  have hp12 := pow12 h12
  obtain ⟨hN1, hN2⟩ := p2_256 h8
  have hful := ful_le q
  refine aw_aload_n dX3_prepare_0 rfl ?_
  refine aw_iconst (v := 1) dX3_prepare_1 (by decide) ?_
  refine aw_aload_n dX3_prepare_2 rfl ?_
  refine aw_gf dX3_prepare_3 (hp_138 _) rfl fX3_36 (by decide) rfl ?_
  refine aw_gf dX3_prepare_6 (hp_0 _) rfl fX3_55 (by decide) rfl ?_
  refine aw_bipush (v := 8) dX3_prepare_9 (by decide) ?_
  rw [show d.1 0 1 = nI (q 0 1) from hs 0 1 (by decide) (by decide)]
  refine aw_mmin dX3_prepare_11 lX3_60 (by decide) (Nat.le_of_ble_eq_true rfl) (v := nI (q 0 1)) (by rw [if_neg (fun z => by have := (lt_nI (show (8 : Int32) = nI 8 from rfl) rfl (by omega) (by omega)).mp z; omega)]) ?_
  refine aw_ishl dX3_prepare_14 ?_
  refine aw_iconst (v := 1) dX3_prepare_15 (by decide) ?_
  refine aw_isub dX3_prepare_16 ?_
  rw [nI_sh1 (q 0 1) (by omega), show (1 : Int32) = nI 1 from rfl, pk_sub (by omega), show 2 ^ q 0 1 - 1 = fulQ q from rfl]
  refine aw_putI (ci := 3) (j := 7) .int dX3_prepare_17 fX3_43 rfl (by decide) rfl tyX3 tyX3_ok nmX3 rfl rfl rfl (hp_138 _) (Nat.le_of_ble_eq_true rfl) rfl ?_
  refine aw_iconst (v := 0) dX3_prepare_20 (by decide) ?_
  refine aw_istore_n dX3_prepare_21 (by decide) rfl ?_
  have L22 : ∀ S, S ≤ 2 ^ q 0 1 → ∀ (d1 : Dt) (v1 : Int32), fP d d1 → d1.1 138 7 = nI (fulQ q) → (∀ T, T < S → d1.1 143 T = nI (ndQ q T) ∧ d1.1 144 T = b2i (clB q T) ∧ d1.1 147 T = nI (dig T) ∧ d1.2.1 145 T = 0 ∧ d1.1 146 T = -1) → v1 = nI S → AW mX3_prepare 5 true (PVx (fun d' => fP d d' ∧ PD d' q ∧ ∀ T, T < 2 ^ q 0 1 → PC d' q 0 T) nX) 0 0 22 [(0, .ref 138), (1, .int v1)] [] (HP d1) := by
    refine up_ind (fun S hj ih => ?_)
    rintro d1 _ f1 h7 htb rfl; have hs1 : KS 0 d1 q := KS_P hs f1
    refine aw_iload_n dX3_prepare_22 rfl ?_
    refine aw_aload_n dX3_prepare_23 rfl ?_
    refine aw_gf dX3_prepare_24 (hp_138 _) rfl fX3_43 (by decide) rfl ?_
    rw [h7]
    refine aw_icmp_gt 82 dX3_prepare_27 (by decide) (fun c27 => ?_) (fun c27 => ?_)
    · have hge : 2 ^ q 0 1 ≤ S := (((lt_nI (rfl : nI (fulQ q) = nI (fulQ q)) rfl (by omega) (by omega)).trans (show fulQ q < S ↔ 2 ^ q 0 1 ≤ S by omega))).mp c27
      have hj2 : S = 2 ^ q 0 1 := by omega
      subst hj2
      refine aw_aload_n dX3_prepare_82 rfl ?_
      refine aw_gf dX3_prepare_83 (hp_138 _) rfl fX3_26 (by decide) rfl ?_
      refine aw_iconst (v := 0) dX3_prepare_86 (by decide) ?_
      refine aw_lconst (v := 1) dX3_prepare_87 (by decide) ?_
      refine aw_lastN dX3_prepare_88 hp_145 (0) rfl (by omega) (by decide)  ?_
      refine aw_aload_n dX3_prepare_89 rfl ?_
      refine aw_gf dX3_prepare_90 (hp_138 _) rfl fX3_30 (by decide) rfl ?_
      refine aw_iconst (v := 0) dX3_prepare_93 (by decide) ?_
      refine aw_iconst (v := 0) dX3_prepare_94 (by decide) ?_
      refine aw_iastN dX3_prepare_95 hp_146 (0) rfl (by omega) (by decide)  ?_
      refine aw_endV dX3_prepare_96 rfl ⟨fP_dI (fP_dL f1 _) (by decide) _, PD_k ⟨h7, fun S hS => ⟨(htb S hS).1, (htb S hS).2.1, (htb S hS).2.2.1⟩⟩ (by rw [dI_n _ _ (by decide), dL_1]) (by rw [dI_n _ _ (by decide), dL_1]) (by rw [dI_n _ _ (by decide), dL_1]) (by rw [dI_n _ _ (by decide), dL_1]), fun T hT => ?_⟩
      obtain ⟨p1, p2⟩ := PC_0 h12 hT
      obtain ⟨-, -, -, w4, w5⟩ := htb T hT
      refine ⟨?_, ?_⟩
      · rw [dI_2, dL_s, upL, p1]
        by_cases e : T = 0
        · rw [if_pos e, if_pos e]; rfl
        · rw [if_neg e, if_neg e, w4]; rfl
      · rw [dI_s, p2, dL_1]
        simp only [upd]
        by_cases e : T = 0
        · rw [if_pos e, if_pos e]; rfl
        · rw [if_neg e, if_neg e, w5]; rfl
    · have hlt : S < 2 ^ q 0 1 := Nat.lt_of_not_le (fun z => c27 ((((lt_nI (rfl : nI (fulQ q) = nI (fulQ q)) rfl (by omega) (by omega)).trans (show fulQ q < S ↔ 2 ^ q 0 1 ≤ S by omega))).mpr z))
      refine aw_aload_n dX3_prepare_30 rfl ?_
      refine aw_gf dX3_prepare_31 (hp_138 _) rfl fX3_18 (by decide) rfl ?_
      refine aw_iload_n dX3_prepare_34 rfl ?_
      refine aw_aload_n dX3_prepare_35 rfl ?_
      refine aw_iload_n dX3_prepare_36 rfl ?_
      refine aw_cVI dX3_prepare_37 oX3_copiesNeeded vX3_copiesNeeded rfl lX3_66 (kX3_copiesNeeded hs1 ok h8 (S := S) hlt) rfl (hp_138 _) rfl rfl rfl (Nat.le_of_ble_eq_true rfl) (by decide) (Nat.le_of_ble_eq_true rfl) ?_
      rintro _ d2 ⟨f2, rfl⟩
      have hs2 : KS 0 d2 q := KS_P hs1 (fW_P f2)
      refine aw_iastN dX3_prepare_40 hp_143 (S) rfl (by omega) (by decide)  ?_
      refine aw_aload_n dX3_prepare_41 rfl ?_
      refine aw_gf dX3_prepare_42 (hp_138 _) rfl fX3_22 (by decide) rfl ?_
      refine aw_iload_n dX3_prepare_45 rfl ?_
      refine aw_aload_n dX3_prepare_46 rfl ?_
      refine aw_iload_n dX3_prepare_47 rfl ?_
      refine aw_cVP dX3_prepare_48 oX3_hasAllAhead vX3_hasAllAhead rfl lX3_69 (kX3_hasAllAhead (q := q) (KS_o hs2 (Or.inr (by decide)) _) ok h8 (S := S) hlt) rfl (hp_138 _) rfl rfl rfl (Nat.le_of_ble_eq_true rfl) (by decide) (Nat.le_of_ble_eq_true rfl) ?_
      refine aw_zastN dX3_prepare_51 hp_144 (S) rfl (by omega) (by decide) (b2i_nar _) ?_
      refine aw_aload_n dX3_prepare_52 rfl ?_
      refine aw_gf dX3_prepare_53 (hp_138 _) rfl fX3_33 (by decide) rfl ?_
      refine aw_iload_n dX3_prepare_56 rfl ?_
      refine aw_iload_n dX3_prepare_57 rfl ?_
      refine aw_cSP dX3_prepare_58 oX3_digitsOf sX3_digitsOf rfl lX3_73 (kX3_digitsOf (S := S) (by omega)) rfl rfl (Nat.le_of_ble_eq_true rfl) (by decide) (Nat.le_of_ble_eq_true rfl) ?_
      refine aw_iastN dX3_prepare_61 hp_147 (S) rfl (by omega) (by decide)  ?_
      refine aw_aload_n dX3_prepare_62 rfl ?_
      refine aw_gf dX3_prepare_63 (hp_138 _) rfl fX3_26 (by decide) rfl ?_
      refine aw_iload_n dX3_prepare_66 rfl ?_
      refine aw_lconst (v := 0) dX3_prepare_67 (by decide) ?_
      refine aw_lastN dX3_prepare_68 hp_145 (S) rfl (by omega) (by decide)  ?_
      refine aw_aload_n dX3_prepare_69 rfl ?_
      refine aw_gf dX3_prepare_70 (hp_138 _) rfl fX3_30 (by decide) rfl ?_
      refine aw_iload_n dX3_prepare_73 rfl ?_
      refine aw_iconst (v := (-1)) dX3_prepare_74 (by decide) ?_
      refine aw_iastN dX3_prepare_75 hp_146 (S) rfl (by omega) (by decide)  ?_
      refine aw_inc (c := 1) dX3_prepare_76 (by decide) rfl (by decide) rfl ?_
      refine aw_goto (tgt := 22) dX3_prepare_79 (by decide) ?_
      refine ih hlt _ _ (fP_dI (fP_dL (fP_dI (fP_dI (fP_dI (fP_t f1 (fW_P f2)) (by decide) _) (by decide) _) (by decide) _) _) (by decide) _) ?_ (fun T hT => ?_) (nI_1 S)
      · rw [dI_n _ _ (by decide), dL_1, dI_n _ _ (by decide), dI_n _ _ (by decide), dI_n _ _ (by decide), f2.2 138 (by decide)]; exact h7
      · rw [dI_s]
        simp only [dI_n _ _ (show 143 ≠ 146 by decide), dI_n _ _ (show 144 ≠ 146 by decide), dI_n _ _ (show 147 ≠ 146 by decide), dI_2, dL_1, dL_s, dI_s, dI_n _ _ (show 143 ≠ 147 by decide), dI_n _ _ (show 144 ≠ 147 by decide), dI_n _ _ (show 143 ≠ 144 by decide), dI_n _ _ (show 144 ≠ 143 by decide), dI_n _ _ (show 147 ≠ 144 by decide), dI_n _ _ (show 147 ≠ 143 by decide), dI_n _ _ (show 146 ≠ 147 by decide), dI_n _ _ (show 146 ≠ 144 by decide), dI_n _ _ (show 146 ≠ 143 by decide), upL, upd]
        by_cases e : T = S
        · subst e
          simp only [if_true]
          exact ⟨trivial, trivial, trivial, trivial, trivial⟩
        · obtain ⟨w1, w2, w3, w4, w5⟩ := htb T (by omega)
          simp only [if_neg e]
          rw [f2.2 143 (by decide), f2.2 144 (by decide), f2.2 146 (by decide), f2.2 147 (by decide), f2.1]
          exact ⟨w1, w2, w3, w4, w5⟩
  exact L22 0 (Nat.zero_le _) _ _ (fP_dI (fP_r d) (by decide) _) (by rw [dI_s]; simp only [upd, if_true]) (fun T hT => absurd hT (Nat.not_lt_zero _)) rfl

set_option maxHeartbeats 4000000 in
set_option maxRecDepth 100000 in
theorem kX3_findLeast {q : St} {d : Dt} (hs : KS 0 d q) (ok : QOK q) (h8 : q 0 1 ≤ 8) : CI mX3_findLeast 6 [.ref 138] d (fun x d' => fP d d' ∧ x = pv (lstQ q 9) ∧ d'.1 138 7 = nI (fulQ q) ∧ (lstQ q 9 ≠ 0 → d'.1 146 (fulQ q) = pv (fstQ q (lstQ q 9 - 1) (fulQ q)))) := by
  show AW mX3_findLeast 6 true (PIx (fun x d' => fP d d' ∧ x = pv (lstQ q 9) ∧ d'.1 138 7 = nI (fulQ q) ∧ (lstQ q 9 ≠ 0 → d'.1 146 (fulQ q) = pv (fstQ q (lstQ q 9 - 1) (fulQ q)))) nX) 0 0 0 [(0, .ref 138)] [] (HP d)
  have h12 := ok.2.1
  have hp12 := pow12 h12
  obtain ⟨hN1, hN2⟩ := p2_256 h8
  have hful := ful_lt q
  refine aw_aload_n dX3_findLeast_0 rfl ?_
  refine aw_cVv dX3_findLeast_1 oX3_prepare vX3_prepare rfl lX3_40 (kX3_prepare hs ok h8) rfl (hp_138 _) rfl rfl rfl (Nat.le_of_ble_eq_true rfl) (by decide) (Nat.le_of_ble_eq_true rfl) ?_
  rintro d0 ⟨f0, pd0, pc0⟩
  refine aw_iconst (v := 0) dX3_findLeast_4 (by decide) ?_
  refine aw_istore_n dX3_findLeast_5 (by decide) rfl ?_
  have L6 : ∀ j, j ≤ 8 → ∀ (d1 : Dt) (v1 : Int32), fP d d1 → PD d1 q → (∀ T, T < 2 ^ q 0 1 → PC d1 q j T) → lstQ q 9 = lstQ q (9 - j) → v1 = nI j → AW mX3_findLeast 6 true (PIx (fun x d' => fP d d' ∧ x = pv (lstQ q 9) ∧ d'.1 138 7 = nI (fulQ q) ∧ (lstQ q 9 ≠ 0 → d'.1 146 (fulQ q) = pv (fstQ q (lstQ q 9 - 1) (fulQ q)))) nX) 0 0 6 [(0, .ref 138), (1, .int v1)] [] (HP d1) := by
    refine up_ind (fun j hj ih => ?_)
    rintro d1 _ f1 pd1 pc1 hls rfl; have hs1 : KS 0 d1 q := KS_P hs f1
    refine aw_iload_n dX3_findLeast_6 rfl ?_
    refine aw_bipush (v := 8) dX3_findLeast_7 (by decide) ?_
    refine aw_icmp_ge 39 dX3_findLeast_9 (by decide) (fun c9 => ?_) (fun c9 => ?_)
    · have hge : 8 ≤ j := (le_nI (show (8 : Int32) = nI 8 from rfl) rfl (by omega) (by omega)).mp c9
      have hj2 : j = 8 := by omega
      subst hj2
      refine aw_aload_n dX3_findLeast_39 rfl ?_
      refine aw_gf dX3_findLeast_40 (hp_138 _) rfl fX3_26 (by decide) rfl ?_
      refine aw_aload_n dX3_findLeast_43 rfl ?_
      refine aw_gf dX3_findLeast_44 (hp_138 _) rfl fX3_43 (by decide) rfl ?_
      refine aw_laldN dX3_findLeast_47 (hp_145 _) rfl (fulQ q) pd1.1 (by omega) (by decide) ?_
      refine aw_lconst (v := 0) dX3_findLeast_48 (by decide) ?_
      refine aw_lcmp dX3_findLeast_49 ?_
      refine aw_if_le 58 dX3_findLeast_50 (by decide) (fun c50 => ?_) (fun c50 => ?_)
      · refine aw_iconst (v := (-1)) dX3_findLeast_58 (by decide) ?_
        rw [(pc1 _ hful).1, lg_cmp_le, lN_pos (by have := cntQ_lt q tl0 h8 (s := 8) (by omega) (ful_lt q); omega)] at c50
        have e9 : lstQ q 9 = 0 := by
          rw [hls]
          show (if 0 < cntQ q tl0 8 (fulQ q) then 9 else 0) = _
          rw [if_neg (by omega)]
        exact aw_endI dX3_findLeast_59 rfl ⟨f1, by rw [e9]; rfl, pd1.1, fun z => absurd e9 z⟩
      · refine aw_bipush (v := 8) dX3_findLeast_53 (by decide) ?_
        refine aw_goto (tgt := 59) dX3_findLeast_55 (by decide) ?_
        rw [(pc1 _ hful).1, lg_cmp_le, lN_pos (by have := cntQ_lt q tl0 h8 (s := 8) (by omega) (ful_lt q); omega)] at c50
        have e9 : lstQ q 9 = 9 := by
          rw [hls]
          show (if 0 < cntQ q tl0 8 (fulQ q) then 9 else 0) = _
          rw [if_pos (by omega)]
        exact aw_endI dX3_findLeast_59 rfl ⟨f1, by rw [e9]; rfl, pd1.1, fun _ => by rw [e9]; exact (pc1 _ hful).2⟩
    · have hlt : j < 8 := Nat.lt_of_not_le (fun z => c9 ((le_nI (show (8 : Int32) = nI 8 from rfl) rfl (by omega) (by omega)).mpr z))
      have e8 : lstQ q (9 - j) = if 0 < cntQ q tl0 j (fulQ q) then j + 1 else lstQ q (8 - j) := by
        rw [show 9 - j = (8 - j) + 1 by omega]
        simp only [lstQ]
        rw [show 8 - (8 - j) = j by omega, show 9 - (8 - j) = j + 1 by omega]
      have hcl := cntQ_lt q tl0 h8 (s := j) (by omega) (ful_lt q)
      refine aw_aload_n dX3_findLeast_12 rfl ?_
      refine aw_gf dX3_findLeast_13 (hp_138 _) rfl fX3_26 (by decide) rfl ?_
      refine aw_aload_n dX3_findLeast_16 rfl ?_
      refine aw_gf dX3_findLeast_17 (hp_138 _) rfl fX3_43 (by decide) rfl ?_
      refine aw_laldN dX3_findLeast_20 (hp_145 _) rfl (fulQ q) pd1.1 (by omega) (by decide) ?_
      refine aw_lconst (v := 0) dX3_findLeast_21 (by decide) ?_
      refine aw_lcmp dX3_findLeast_22 ?_
      refine aw_if_le 28 dX3_findLeast_23 (by decide) (fun c23 => ?_) (fun c23 => ?_)
      · refine aw_aload_n dX3_findLeast_28 rfl ?_
        refine aw_iload_n dX3_findLeast_29 rfl ?_
        refine aw_cVv dX3_findLeast_30 oX3_addStation vX3_addStation rfl lX3_47 (kX3_addStation hs1 ok h8 pd1 (s := j) hlt pc1) rfl (hp_138 _) rfl rfl rfl (Nat.le_of_ble_eq_true rfl) (by decide) (Nat.le_of_ble_eq_true rfl) ?_
        rintro d2 ⟨f2, pd2, pc2⟩
        refine aw_inc (c := 1) dX3_findLeast_33 (by decide) rfl (by decide) rfl ?_
        refine aw_goto (tgt := 6) dX3_findLeast_36 (by decide) ?_
        rw [(pc1 _ hful).1, lg_cmp_le, lN_pos (by omega)] at c23
        exact ih hlt _ _ (fP_t f1 f2) pd2 pc2 (by rw [hls, e8, if_neg (by omega), show 9 - (j + 1) = 8 - j by omega]) (nI_1 j)
      · refine aw_iload_n dX3_findLeast_26 rfl ?_
        rw [(pc1 _ hful).1, lg_cmp_le, lN_pos (by omega)] at c23
        have e9 : lstQ q 9 = j + 1 := by rw [hls, e8, if_pos (by omega)]
        exact aw_endI dX3_findLeast_27 rfl ⟨f1, by rw [e9, pv_s], pd1.1, fun _ => by rw [e9, Nat.add_sub_cancel]; exact (pc1 _ hful).2⟩
  exact L6 0 (Nat.zero_le _) _ _ f0 pd0 pc0 rfl rfl

set_option maxHeartbeats 4000000 in
set_option maxRecDepth 100000 in
theorem kX3_countLines {q : St} {d : Dt} (hs : KS 0 d q) (ok : QOK q) (h8 : q 0 1 ≤ 8) {n : Nat} (hn : n ≤ 8) : CL mX3_countLines 6 [.ref 138, .int (nI n)] d (fun x d' => fP d d' ∧ x = lN (cntQ q tl0 n (fulQ q))) := by
  show AW mX3_countLines 6 true (PLx (fun x d' => fP d d' ∧ x = lN (cntQ q tl0 n (fulQ q))) nX) 0 0 0 [(0, .ref 138), (1, .int (nI n))] [] (HP d)
  have h12 := ok.2.1
  have hp12 := pow12 h12
  obtain ⟨hN1, hN2⟩ := p2_256 h8
  have hful := ful_lt q
  refine aw_aload_n dX3_countLines_0 rfl ?_
  refine aw_cVv dX3_countLines_1 oX3_prepare vX3_prepare rfl lX3_40 (kX3_prepare hs ok h8) rfl (hp_138 _) rfl rfl rfl (Nat.le_of_ble_eq_true rfl) (by decide) (Nat.le_of_ble_eq_true rfl) ?_
  rintro d0 ⟨f0, pd0, pc0⟩
  refine aw_iconst (v := 0) dX3_countLines_4 (by decide) ?_
  refine aw_istore_n dX3_countLines_5 (by decide) rfl ?_
  have L6 : ∀ j, j ≤ n → ∀ (d1 : Dt) (v1 : Int32), fP d d1 → PD d1 q → (∀ T, T < 2 ^ q 0 1 → PC d1 q j T) → v1 = nI j → AW mX3_countLines 6 true (PLx (fun x d' => fP d d' ∧ x = lN (cntQ q tl0 n (fulQ q))) nX) 0 0 6 [(0, .ref 138), (1, .int (nI n)), (2, .int v1)] [] (HP d1) := by
    refine up_ind (fun j hj ih => ?_)
    rintro d1 _ f1 pd1 pc1 rfl; have hs1 : KS 0 d1 q := KS_P hs f1
    refine aw_iload_n dX3_countLines_6 rfl ?_
    refine aw_iload_n dX3_countLines_7 rfl ?_
    refine aw_icmp_ge 28 dX3_countLines_8 (by decide) (fun c8 => ?_) (fun c8 => ?_)
    · have hge : n ≤ j := (le_nI rfl rfl (by omega) (by omega)).mp c8
      have hj2 : j = n := by omega
      subst hj2
      refine aw_aload_n dX3_countLines_28 rfl ?_
      refine aw_gf dX3_countLines_29 (hp_138 _) rfl fX3_26 (by decide) rfl ?_
      refine aw_aload_n dX3_countLines_32 rfl ?_
      refine aw_gf dX3_countLines_33 (hp_138 _) rfl fX3_43 (by decide) rfl ?_
      refine aw_laldN dX3_countLines_36 (hp_145 _) rfl (fulQ q) pd1.1 (by omega) (by decide) ?_
      exact aw_endL dX3_countLines_37 rfl ⟨f1, (pc1 _ hful).1⟩
    · have hlt : j < n := Nat.lt_of_not_le (fun z => c8 ((le_nI rfl rfl (by omega) (by omega)).mpr z))
      refine aw_iload_n dX3_countLines_11 rfl ?_
      refine aw_bipush (v := 8) dX3_countLines_12 (by decide) ?_
      refine aw_icmp_ge 28 dX3_countLines_14 (by decide) (fun c14 => (show False from absurd ((le_nI (show (8 : Int32) = nI 8 from rfl) rfl (by omega) (by omega)).mp c14) (by omega)).elim) (fun c14 => ?_)
      refine aw_aload_n dX3_countLines_17 rfl ?_
      refine aw_iload_n dX3_countLines_18 rfl ?_
      refine aw_cVv dX3_countLines_19 oX3_addStation vX3_addStation rfl lX3_47 (kX3_addStation hs1 ok h8 pd1 (s := j) (by omega) pc1) rfl (hp_138 _) rfl rfl rfl (Nat.le_of_ble_eq_true rfl) (by decide) (Nat.le_of_ble_eq_true rfl) ?_
      rintro d2 ⟨f2, pd2, pc2⟩
      refine aw_inc (c := 1) dX3_countLines_22 (by decide) rfl (by decide) rfl ?_
      refine aw_goto (tgt := 6) dX3_countLines_25 (by decide) ?_
      exact ih hlt _ _ (fP_t f1 f2) pd2 pc2 (nI_1 j)
  exact L6 0 (Nat.zero_le _) _ _ f0 pd0 pc0 rfl

theorem sh7 : ∀ t, t < 8 → ((nI (3 * (7 - t)) &&& 31).toBitVec.smod 32).toNat = 3 * (7 - t) := by decide +kernel
theorem dgt_sh {w t : Nat} (hw : w < 2 ^ 31) (ht : t < 8) : (nI w >>> (nI (3 * (7 - t)) &&& 31)) &&& 7 = nI (dgt w t) := by
  rw [pk_shrN hw _ _ (sh7 t ht)]
  have h1 : w / 2 ^ (3 * (7 - t)) < 2 ^ 32 := Nat.lt_of_le_of_lt (Nat.div_le_self _ _) (by omega)
  have h2 : nI (w / 2 ^ (3 * (7 - t))) &&& 7 = nI (w / 2 ^ (3 * (7 - t)) % 2 ^ 3) := pk_andN h1 3 (by decide)
  rw [h2]
  unfold dgt
  rw [show (8 : Nat) = 2 ^ 3 from rfl, ← Nat.pow_mul]
set_option maxHeartbeats 4000000 in
set_option maxRecDepth 100000 in
theorem kX3_stationOf {q : St} {d : Dt} (h8 : q 0 1 ≤ 8) (h7 : d.1 138 7 = nI (fulQ q)) {w t : Nat} (hw : w < 2 ^ 31) (hf : d.1 146 (fulQ q) = nI w) (ht : t < 8) : CP mX3_stationOf 2 [.ref 138, .int (nI t)] d (nI (dgt w t)) := by
  show AW mX3_stationOf 2 true (PIx (fun y d' => y = nI (dgt w t) ∧ d' = d) nX) 0 0 0 [(0, .ref 138), (1, .int (nI t))] [] (HP d)
  have hN := p2_256 h8
  have hfl := ful_lt q
  refine aw_aload_n dX3_stationOf_0 rfl ?_
  refine aw_gf dX3_stationOf_1 (hp_138 _) rfl fX3_30 (by decide) rfl ?_
  refine aw_aload_n dX3_stationOf_4 rfl ?_
  refine aw_gf dX3_stationOf_5 (hp_138 _) rfl fX3_43 (by decide) rfl ?_
  refine aw_ialdN dX3_stationOf_8 (hp_146 _) rfl (fulQ q) h7 (by omega) (by decide) ?_
  rw [hf]
  refine aw_iload_n dX3_stationOf_9 rfl ?_
  refine aw_cSP dX3_stationOf_10 oX3_digitShift sX3_digitShift rfl lX3_51 (kX3_digitShift ht) rfl rfl (Nat.le_of_ble_eq_true rfl) (by decide) (Nat.le_of_ble_eq_true rfl) ?_
  refine aw_ishr dX3_stationOf_13 ?_
  refine aw_bipush (v := 7) dX3_stationOf_14 (by decide) ?_
  refine aw_iand dX3_stationOf_16 ?_
  exact aw_endI dX3_stationOf_17 rfl ⟨dgt_sh hw ht, rfl⟩
