set_option maxHeartbeats 4000000 in
set_option maxRecDepth 100000 in
theorem kX5_tasksIn {q : St} {d : Dt} (hs : KS 0 d q) (ok : QOK q) {lo hi : Int32} : CP mX5_tasksIn 2 [.ref 133, .int lo, .int hi] d (nI (tiI q lo hi)) := by
  show AW mX5_tasksIn 2 true (PIx (fun y d' => y = nI (tiI q lo hi) ∧ d' = d) nX) 0 0 0 [(0, .ref 133), (1, .int lo), (2, .int hi)] [] (HP d)
  refine aw_iconst (v := 0) dX5_tasksIn_0 (by decide) ?_
  refine aw_istore_n dX5_tasksIn_1 (by decide) rfl ?_
  refine aw_iconst (v := 0) dX5_tasksIn_2 (by decide) ?_
  refine aw_istore dX5_tasksIn_3 (by decide) rfl ?_
  have L5 : ∀ j, j ≤ 12 → ∀ (v1 v2 : Int32), v1 = nI (oN j (fun t => if lo ≤ pv (q 6 t) ∧ pv (q 6 t) ≤ hi then 2 ^ t else 0)) → v2 = nI j → AW mX5_tasksIn 2 true (PIx (fun y d' => y = nI (tiI q lo hi) ∧ d' = d) nX) 0 0 5 [(0, .ref 133), (1, .int lo), (2, .int hi), (3, .int v1), (4, .int v2)] [] (HP d) := by
    refine up_ind (fun j hj ih => ?_)
    rintro _ _ rfl rfl
    refine aw_iload dX5_tasksIn_5 rfl ?_
    refine aw_bipush (v := 12) dX5_tasksIn_7 (by decide) ?_
    refine aw_icmp_ge 47 dX5_tasksIn_9 (by decide) (fun c9 => ?_) (fun c9 => ?_)
    · have hge : 12 ≤ j := (le_nI (show (12 : Int32) = nI 12 from rfl) rfl (by omega) (by omega)).mp c9
      have hj2 : j = 12 := by omega
      subst hj2
      refine aw_iload_n dX5_tasksIn_47 rfl ?_
      exact aw_endI dX5_tasksIn_48 rfl ⟨rfl, rfl⟩
    · have hlt : j < 12 := Nat.lt_of_not_le (fun z => c9 ((le_nI (show (12 : Int32) = nI 12 from rfl) rfl (by omega) (by omega)).mpr z))
      refine aw_iload_n dX5_tasksIn_12 rfl ?_
      refine aw_aload_n dX5_tasksIn_13 rfl ?_
      refine aw_gf dX5_tasksIn_14 (hp_133 _) rfl fX5_18 (by decide) rfl ?_
      refine aw_gf dX5_tasksIn_17 (hp_0 _) rfl fX5_22 (by decide) rfl ?_
      refine aw_iload dX5_tasksIn_20 rfl ?_
      refine aw_ialdN dX5_tasksIn_22 (hp_6 _) rfl (j) (by first | rfl | (simp only [li_0, li_1, li_2, li_3, li_4, li_5, li_7, li_8, li_9, li_11, li_12, li_16, li_17, li_31, li_32, li_60, li_77, li_80, li_89, li_99, li_101, li_112, li_113, li_256, li_999, li_1023, nI_add, pk_mul])) (by omega) (by decide) ?_
      rw [show d.1 6 j = pv (q 6 j) from hs 6 j (by decide) (show j < 12 by omega)]
      refine aw_iload_n dX5_tasksIn_23 rfl ?_
      refine aw_iload_n dX5_tasksIn_24 rfl ?_
      refine aw_cSNP dX5_tasksIn_25 oX7_isIn sX7_isIn lX5_28 kX7_isIn rfl rfl (Nat.le_of_ble_eq_true rfl) (by decide) (Nat.le_of_ble_eq_true rfl) ?_
      refine aw_if_eq 38 dX5_tasksIn_28 (by decide) (fun c28 => ?_) (fun c28 => ?_)
      · refine aw_iconst (v := 0) dX5_tasksIn_38 (by decide) ?_
        refine aw_ior dX5_tasksIn_39 ?_
        refine aw_istore_n dX5_tasksIn_40 (by decide) rfl ?_
        refine aw_inc (c := 1) dX5_tasksIn_41 (by decide) rfl (by decide) rfl ?_
        refine aw_goto (tgt := 5) dX5_tasksIn_44 (by decide) ?_
        exact ih hlt _ _ (by simp only [oN]; rw [if_neg (b2d_f c28), show (0 : Int32) = nI 0 from rfl, nI_or]) (nI_1 j)
      · refine aw_iconst (v := 1) dX5_tasksIn_31 (by decide) ?_
        refine aw_iload dX5_tasksIn_32 rfl ?_
        refine aw_ishl dX5_tasksIn_34 ?_
        refine aw_goto (tgt := 39) dX5_tasksIn_35 (by decide) ?_
        refine aw_ior dX5_tasksIn_39 ?_
        refine aw_istore_n dX5_tasksIn_40 (by decide) rfl ?_
        refine aw_inc (c := 1) dX5_tasksIn_41 (by decide) rfl (by decide) rfl ?_
        refine aw_goto (tgt := 5) dX5_tasksIn_44 (by decide) ?_
        exact ih hlt _ _ (by simp only [oN]; rw [if_pos (b2d_t c28), nI_sh1 j (by omega), nI_or]) (nI_1 j)
  exact L5 0 (Nat.zero_le _) _ _ rfl rfl

set_option maxHeartbeats 4000000 in
set_option maxRecDepth 100000 in
theorem kX5_placed {q : St} {d : Dt} (hs : KS 0 d q) (ok : QOK q) : CP mX5_placed 3 [.ref 133] d (nI (tiI q 0 7)) := by
  show AW mX5_placed 3 true (PIx (fun y d' => y = nI (tiI q 0 7) ∧ d' = d) nX) 0 0 0 [(0, .ref 133)] [] (HP d)
  refine aw_aload_n dX5_placed_0 rfl ?_
  refine aw_iconst (v := 0) dX5_placed_1 (by decide) ?_
  refine aw_bipush (v := 7) dX5_placed_2 (by decide) ?_
  refine aw_cVP dX5_placed_4 oX5_tasksIn vX5_tasksIn rfl lX5_32 (kX5_tasksIn hs ok) rfl (hp_133 _) rfl rfl rfl (Nat.le_of_ble_eq_true rfl) (by decide) (Nat.le_of_ble_eq_true rfl) ?_
  exact aw_endI dX5_placed_7 rfl ⟨rfl, rfl⟩

set_option maxHeartbeats 4000000 in
set_option maxRecDepth 100000 in
theorem kX5_isUsed {q : St} {d : Dt} (hs : KS 0 d q) (ok : QOK q) {s : Nat} (h8 : s < 8) : CP mX5_isUsed 3 [.ref 133, .int (nI s)] d (b2i (decide (stn q s ≠ 0))) := by
  show AW mX5_isUsed 3 true (PIx (fun y d' => y = b2i (decide (stn q s ≠ 0)) ∧ d' = d) nX) 0 0 0 [(0, .ref 133), (1, .int (nI s))] [] (HP d)
  have h12 := ok.2.1
  have hp12 := pow12 h12
  have hst := stn_lt ok s
  refine aw_aload_n dX5_isUsed_0 rfl ?_
  refine aw_iload_n dX5_isUsed_1 rfl ?_
  refine aw_iload_n dX5_isUsed_2 rfl ?_
  refine aw_cVP dX5_isUsed_3 oX5_tasksIn vX5_tasksIn rfl lX5_32 (by have z := kX5_tasksIn hs ok (lo := nI s) (hi := nI s); rw [tiI_s ok h8] at z; exact z) rfl (hp_133 _) rfl rfl rfl (Nat.le_of_ble_eq_true rfl) (by decide) (Nat.le_of_ble_eq_true rfl) ?_
  refine aw_if_eq 13 dX5_isUsed_6 (by decide) (fun c6 => ?_) (fun c6 => ?_)
  · refine aw_iconst (v := 0) dX5_isUsed_13 (by decide) ?_
    exact aw_endZ dX5_isUsed_14 rfl (by decide) ⟨by rw [b2i_f (fun z => z (nI_inj (by omega) (by omega) (c6 : nI (stn q s) = nI 0)))], rfl⟩
  · refine aw_iconst (v := 1) dX5_isUsed_9 (by decide) ?_
    refine aw_goto (tgt := 14) dX5_isUsed_10 (by decide) ?_
    exact aw_endZ dX5_isUsed_14 rfl (by decide) ⟨by rw [b2i_t (fun z => c6 (by rw [z]; rfl))], rfl⟩

set_option maxHeartbeats 4000000 in
set_option maxRecDepth 100000 in
theorem kX5_workIn {q : St} {d : Dt} (hs : KS 0 d q) (ok : QOK q) {s : Nat} (h8 : s < 8) : CR mX5_workIn 3 [.ref 133, .int (nI s)] d (fun v d' => v = .ref 134 ∧ fW 134 d d' ∧ WR 134 d' q (stn q s)) := by
  show AW mX5_workIn 3 true (PRx (fun v d' => v = .ref 134 ∧ fW 134 d d' ∧ WR 134 d' q (stn q s)) nX) 0 0 0 [(0, .ref 133), (1, .int (nI s))] [] (HP d)
  have h12 := ok.2.1
  have hp12 := pow12 h12
  refine aw_aload_n dX5_workIn_0 rfl ?_
  refine aw_gf dX5_workIn_1 (hp_133 _) rfl fX5_12 (by decide) rfl ?_
  refine aw_aload_n dX5_workIn_4 rfl ?_
  refine aw_gf dX5_workIn_5 (hp_133 _) rfl fX5_18 (by decide) rfl ?_
  refine aw_aload_n dX5_workIn_8 rfl ?_
  refine aw_iload_n dX5_workIn_9 rfl ?_
  refine aw_iload_n dX5_workIn_10 rfl ?_
  refine aw_cVP dX5_workIn_11 oX5_tasksIn vX5_tasksIn rfl lX5_32 (by have z := kX5_tasksIn hs ok (lo := nI s) (hi := nI s); rw [tiI_s ok h8] at z; exact z) rfl (hp_133 _) rfl rfl rfl (Nat.le_of_ble_eq_true rfl) (by decide) (Nat.le_of_ble_eq_true rfl) ?_
  refine aw_cVv dX5_workIn_14 oX6_measure vX6_measure rfl lX5_36 (kX6_measure hs ok (Or.inl rfl) (stn_lt ok s)) rfl (hp_134 _) rfl rfl rfl (Nat.le_of_ble_eq_true rfl) (by decide) (Nat.le_of_ble_eq_true rfl) ?_
  rintro d1 ⟨f1, r1⟩
  refine aw_aload_n dX5_workIn_17 rfl ?_
  refine aw_gf dX5_workIn_18 (hp_133 _) rfl fX5_12 (by decide) rfl ?_
  exact aw_endR dX5_workIn_21 rfl ⟨rfl, f1, r1⟩

set_option maxHeartbeats 4000000 in
set_option maxRecDepth 100000 in
theorem kX5_loadOf {q : St} {d : Dt} (hs : KS 0 d q) (ok : QOK q) {s : Nat} (h8 : s < 8) : CI mX5_loadOf 4 [.ref 133, .int (nI s)] d (fun x d' => fW 134 d d' ∧ x = nI (ld q (stn q s))) := by
  show AW mX5_loadOf 4 true (PIx (fun x d' => fW 134 d d' ∧ x = nI (ld q (stn q s))) nX) 0 0 0 [(0, .ref 133), (1, .int (nI s))] [] (HP d)
  refine aw_aload_n dX5_loadOf_0 rfl ?_
  refine aw_iload_n dX5_loadOf_1 rfl ?_
  refine aw_cVR dX5_loadOf_2 oX5_workIn vX5_workIn rfl lX5_40 (kX5_workIn hs ok h8) rfl (hp_133 _) rfl rfl rfl (Nat.le_of_ble_eq_true rfl) (by decide) (Nat.le_of_ble_eq_true rfl) ?_
  rintro _ d1 ⟨rfl, f1, r1⟩
  have hs1 : KS 0 d1 q := KS_W (by decide) hs f1
  refine aw_gf dX5_loadOf_5 (hp_134 _) rfl fX5_44 (by decide) rfl ?_
  exact aw_endI dX5_loadOf_8 rfl ⟨f1, r1.2.2.1⟩

set_option maxHeartbeats 4000000 in
set_option maxRecDepth 100000 in
theorem kX5_lackOf {q : St} {d : Dt} (hs : KS 0 d q) (ok : QOK q) {s : Nat} (h8 : s < 8) : CI mX5_lackOf 4 [.ref 133, .int (nI s)] d (fun x d' => fW 134 d d' ∧ x = lackV q s) := by
  show AW mX5_lackOf 4 true (PIx (fun x d' => fW 134 d d' ∧ x = lackV q s) nX) 0 0 0 [(0, .ref 133), (1, .int (nI s))] [] (HP d)
  refine aw_aload_n dX5_lackOf_0 rfl ?_
  refine aw_iload_n dX5_lackOf_1 rfl ?_
  refine aw_cVR dX5_lackOf_2 oX5_workIn vX5_workIn rfl lX5_40 (kX5_workIn hs ok h8) rfl (hp_133 _) rfl rfl rfl (Nat.le_of_ble_eq_true rfl) (by decide) (Nat.le_of_ble_eq_true rfl) ?_
  rintro _ d1 ⟨rfl, f1, r1⟩
  have hs1 : KS 0 d1 q := KS_W (by decide) hs f1
  refine aw_aload_n dX5_lackOf_5 rfl ?_
  refine aw_gf dX5_lackOf_6 (hp_133 _) rfl fX5_18 (by decide) rfl ?_
  refine aw_aload_n dX5_lackOf_9 rfl ?_
  refine aw_gf dX5_lackOf_10 (hp_133 _) rfl fX5_18 (by decide) rfl ?_
  refine aw_gf dX5_lackOf_13 (hp_0 _) rfl fX5_48 (by decide) rfl ?_
  refine aw_iload_n dX5_lackOf_16 rfl ?_
  refine aw_ialdN dX5_lackOf_17 (hp_3 _) rfl (s) (by first | rfl | (simp only [li_0, li_1, li_2, li_3, li_4, li_5, li_7, li_8, li_9, li_11, li_12, li_16, li_17, li_31, li_32, li_60, li_77, li_80, li_89, li_99, li_101, li_112, li_113, li_256, li_999, li_1023, nI_add, pk_mul])) (by omega) (by decide) ?_
  rw [show d1.1 3 s = nI (q 3 s) from hs1 3 s (by decide) (show s < 8 by omega)]
  refine aw_cVP dX5_lackOf_18 oX6_lack vX6_lack rfl lX5_51 (kX6_lack hs1 ok (Or.inl rfl) (stn_lt ok s) r1 (c := q 3 s)) rfl (hp_134 _) rfl rfl rfl (Nat.le_of_ble_eq_true rfl) (by decide) (Nat.le_of_ble_eq_true rfl) ?_
  exact aw_endI dX5_lackOf_21 rfl ⟨f1, rfl⟩

set_option maxHeartbeats 4000000 in
set_option maxRecDepth 100000 in
theorem kX5_isFitting {q : St} {d : Dt} (hs : KS 0 d q) (ok : QOK q) {s : Nat} (h8 : s < 8) : CI mX5_isFitting 4 [.ref 133, .int (nI s)] d (fun x d' => fW 134 d d' ∧ x = b2i (fitB q (stn q s) (q 3 s))) := by
  show AW mX5_isFitting 4 true (PIx (fun x d' => fW 134 d d' ∧ x = b2i (fitB q (stn q s) (q 3 s))) nX) 0 0 0 [(0, .ref 133), (1, .int (nI s))] [] (HP d)
  refine aw_aload_n dX5_isFitting_0 rfl ?_
  refine aw_iload_n dX5_isFitting_1 rfl ?_
  refine aw_cVR dX5_isFitting_2 oX5_workIn vX5_workIn rfl lX5_40 (kX5_workIn hs ok h8) rfl (hp_133 _) rfl rfl rfl (Nat.le_of_ble_eq_true rfl) (by decide) (Nat.le_of_ble_eq_true rfl) ?_
  rintro _ d1 ⟨rfl, f1, r1⟩
  have hs1 : KS 0 d1 q := KS_W (by decide) hs f1
  refine aw_aload_n dX5_isFitting_5 rfl ?_
  refine aw_gf dX5_isFitting_6 (hp_133 _) rfl fX5_18 (by decide) rfl ?_
  refine aw_aload_n dX5_isFitting_9 rfl ?_
  refine aw_gf dX5_isFitting_10 (hp_133 _) rfl fX5_18 (by decide) rfl ?_
  refine aw_gf dX5_isFitting_13 (hp_0 _) rfl fX5_48 (by decide) rfl ?_
  refine aw_iload_n dX5_isFitting_16 rfl ?_
  refine aw_ialdN dX5_isFitting_17 (hp_3 _) rfl (s) (by first | rfl | (simp only [li_0, li_1, li_2, li_3, li_4, li_5, li_7, li_8, li_9, li_11, li_12, li_16, li_17, li_31, li_32, li_60, li_77, li_80, li_89, li_99, li_101, li_112, li_113, li_256, li_999, li_1023, nI_add, pk_mul])) (by omega) (by decide) ?_
  rw [show d1.1 3 s = nI (q 3 s) from hs1 3 s (by decide) (show s < 8 by omega)]
  refine aw_cVP dX5_isFitting_18 oX6_fits vX6_fits rfl lX5_55 (kX6_fits hs1 ok (Or.inl rfl) (stn_lt ok s) r1 (c := q 3 s) (ok.2.2.2.2.1 s h8).2) rfl (hp_134 _) rfl rfl rfl (Nat.le_of_ble_eq_true rfl) (by decide) (Nat.le_of_ble_eq_true rfl) ?_
  exact aw_endZ dX5_isFitting_21 rfl (b2i_nar _) ⟨f1, rfl⟩

set_option maxHeartbeats 4000000 in
set_option maxRecDepth 100000 in
theorem kX5_refusal {q : St} {d : Dt} (hs : KS 0 d q) (ok : QOK q) {t s : Nat} (ht : t < q 0 1) (h8 : s < 8) : CI mX5_refusal 4 [.ref 133, .int (nI t), .int (nI s)] d (fun x d' => fW 134 d d' ∧ x = nI (refQ q t s)) := by
  show AW mX5_refusal 4 true (PIx (fun x d' => fW 134 d d' ∧ x = nI (refQ q t s)) nX) 0 0 0 [(0, .ref 133), (1, .int (nI t)), (2, .int (nI s))] [] (HP d)
  have h12 := ok.2.1
  have hp12 := pow12 h12
  have ht12 : t < 12 := by omega
  have hq := q78_lt ok ht12
  have hst := stn_lt ok s
  have hto := or_p2_lt hst ht
  refine aw_aload_n dX5_refusal_0 rfl ?_
  refine aw_iconst (v := 0) dX5_refusal_1 (by decide) ?_
  refine aw_iload_n dX5_refusal_2 rfl ?_
  refine aw_iconst (v := 1) dX5_refusal_3 (by decide) ?_
  refine aw_isub dX5_refusal_4 ?_
  refine aw_cVP dX5_refusal_5 oX5_tasksIn vX5_tasksIn rfl lX5_32 (kX5_tasksIn hs ok) rfl (hp_133 _) rfl rfl rfl (Nat.le_of_ble_eq_true rfl) (by decide) (Nat.le_of_ble_eq_true rfl) ?_
  refine aw_istore_n dX5_refusal_8 (by decide) rfl ?_
  refine aw_aload_n dX5_refusal_9 rfl ?_
  refine aw_iload_n dX5_refusal_10 rfl ?_
  refine aw_iload_n dX5_refusal_11 rfl ?_
  refine aw_cVP dX5_refusal_12 oX5_tasksIn vX5_tasksIn rfl lX5_32 (by have z := kX5_tasksIn hs ok (lo := nI s) (hi := nI s); rw [tiI_s ok h8] at z; exact z) rfl (hp_133 _) rfl rfl rfl (Nat.le_of_ble_eq_true rfl) (by decide) (Nat.le_of_ble_eq_true rfl) ?_
  refine aw_istore dX5_refusal_15 (by decide) rfl ?_
  refine aw_aload_n dX5_refusal_17 rfl ?_
  refine aw_iload_n dX5_refusal_18 rfl ?_
  refine aw_iconst (v := 1) dX5_refusal_19 (by decide) ?_
  refine aw_iadd dX5_refusal_20 ?_
  refine aw_bipush (v := 7) dX5_refusal_21 (by decide) ?_
  refine aw_cVP dX5_refusal_23 oX5_tasksIn vX5_tasksIn rfl lX5_32 (kX5_tasksIn hs ok) rfl (hp_133 _) rfl rfl rfl (Nat.le_of_ble_eq_true rfl) (by decide) (Nat.le_of_ble_eq_true rfl) ?_
  refine aw_istore dX5_refusal_26 (by decide) rfl ?_
  refine aw_aload_n dX5_refusal_28 rfl ?_
  refine aw_gf dX5_refusal_29 (hp_133 _) rfl fX5_18 (by decide) rfl ?_
  refine aw_gf dX5_refusal_32 (hp_0 _) rfl fX5_59 (by decide) rfl ?_
  refine aw_iload_n dX5_refusal_35 rfl ?_
  refine aw_ialdN dX5_refusal_36 (hp_8 _) rfl (t) (by first | rfl | (simp only [li_0, li_1, li_2, li_3, li_4, li_5, li_7, li_8, li_9, li_11, li_12, li_16, li_17, li_31, li_32, li_60, li_77, li_80, li_89, li_99, li_101, li_112, li_113, li_256, li_999, li_1023, nI_add, pk_mul])) (by omega) (by decide) ?_
  rw [show d.1 8 (t) = nI (q 8 (t)) from hs 8 (t) (by decide) (show (t) < 12 by omega)]
  refine aw_iload dX5_refusal_37 rfl ?_
  refine aw_iand dX5_refusal_39 ?_
  rw [nI_and]
  refine aw_if_eq 45 dX5_refusal_40 (by decide) (fun c40 => ?_) (fun c40 => ?_)
  · refine aw_aload_n dX5_refusal_45 rfl ?_
    refine aw_gf dX5_refusal_46 (hp_133 _) rfl fX5_18 (by decide) rfl ?_
    refine aw_gf dX5_refusal_49 (hp_0 _) rfl fX5_62 (by decide) rfl ?_
    refine aw_iload_n dX5_refusal_52 rfl ?_
    refine aw_ialdN dX5_refusal_53 (hp_9 _) rfl (t) (by first | rfl | (simp only [li_0, li_1, li_2, li_3, li_4, li_5, li_7, li_8, li_9, li_11, li_12, li_16, li_17, li_31, li_32, li_60, li_77, li_80, li_89, li_99, li_101, li_112, li_113, li_256, li_999, li_1023, nI_add, pk_mul])) (by omega) (by decide) ?_
    rw [show d.1 9 (t) = nI (q 9 (t)) from hs 9 (t) (by decide) (show (t) < 12 by omega)]
    refine aw_iload_n dX5_refusal_54 rfl ?_
    refine aw_iand dX5_refusal_55 ?_
    rw [nI_and]
    refine aw_if_eq 61 dX5_refusal_56 (by decide) (fun c56 => ?_) (fun c56 => ?_)
    · refine aw_aload_n dX5_refusal_61 rfl ?_
      refine aw_gf dX5_refusal_62 (hp_133 _) rfl fX5_18 (by decide) rfl ?_
      refine aw_gf dX5_refusal_65 (hp_0 _) rfl fX5_65 (by decide) rfl ?_
      refine aw_iload_n dX5_refusal_68 rfl ?_
      refine aw_ialdN dX5_refusal_69 (hp_10 _) rfl (t) (by first | rfl | (simp only [li_0, li_1, li_2, li_3, li_4, li_5, li_7, li_8, li_9, li_11, li_12, li_16, li_17, li_31, li_32, li_60, li_77, li_80, li_89, li_99, li_101, li_112, li_113, li_256, li_999, li_1023, nI_add, pk_mul])) (by omega) (by decide) ?_
      rw [show d.1 10 (t) = nI (q 10 (t)) from hs 10 (t) (by decide) (show (t) < 12 by omega)]
      refine aw_iload dX5_refusal_70 rfl ?_
      refine aw_iand dX5_refusal_72 ?_
      rw [nI_and]
      refine aw_if_eq 78 dX5_refusal_73 (by decide) (fun c73 => ?_) (fun c73 => ?_)
      · refine aw_aload_n dX5_refusal_78 rfl ?_
        refine aw_gf dX5_refusal_79 (hp_133 _) rfl fX5_18 (by decide) rfl ?_
        refine aw_gf dX5_refusal_82 (hp_0 _) rfl fX5_68 (by decide) rfl ?_
        refine aw_iload_n dX5_refusal_85 rfl ?_
        refine aw_ialdN dX5_refusal_86 (hp_11 _) rfl (t) (by first | rfl | (simp only [li_0, li_1, li_2, li_3, li_4, li_5, li_7, li_8, li_9, li_11, li_12, li_16, li_17, li_31, li_32, li_60, li_77, li_80, li_89, li_99, li_101, li_112, li_113, li_256, li_999, li_1023, nI_add, pk_mul])) (by omega) (by decide) ?_
        rw [show d.1 11 (t) = nI (q 11 (t)) from hs 11 (t) (by decide) (show (t) < 12 by omega)]
        refine aw_iload_n dX5_refusal_87 rfl ?_
        refine aw_iload dX5_refusal_88 rfl ?_
        refine aw_ior dX5_refusal_90 ?_
        refine aw_iand dX5_refusal_91 ?_
        rw [nI_or, nI_and]
        refine aw_if_eq 97 dX5_refusal_92 (by decide) (fun c92 => ?_) (fun c92 => ?_)
        · refine aw_aload_n dX5_refusal_97 rfl ?_
          refine aw_gf dX5_refusal_98 (hp_133 _) rfl fX5_12 (by decide) rfl ?_
          refine aw_aload_n dX5_refusal_101 rfl ?_
          refine aw_gf dX5_refusal_102 (hp_133 _) rfl fX5_18 (by decide) rfl ?_
          refine aw_iload dX5_refusal_105 rfl ?_
          refine aw_iconst (v := 1) dX5_refusal_107 (by decide) ?_
          refine aw_iload_n dX5_refusal_108 rfl ?_
          refine aw_ishl dX5_refusal_109 ?_
          refine aw_ior dX5_refusal_110 ?_
          rw [nI_sh1 t (by omega), nI_or]
          refine aw_cVv dX5_refusal_111 oX6_measure vX6_measure rfl lX5_36 (kX6_measure hs ok (Or.inl rfl) (S := stn q s ||| 2 ^ t) hto) rfl (hp_134 _) rfl rfl rfl (Nat.le_of_ble_eq_true rfl) (by decide) (Nat.le_of_ble_eq_true rfl) ?_
          rintro d1 ⟨f1, r1⟩
          have hs1 : KS 0 d1 q := KS_W (by decide) hs f1
          refine aw_aload_n dX5_refusal_114 rfl ?_
          refine aw_gf dX5_refusal_115 (hp_133 _) rfl fX5_12 (by decide) rfl ?_
          refine aw_aload_n dX5_refusal_118 rfl ?_
          refine aw_gf dX5_refusal_119 (hp_133 _) rfl fX5_18 (by decide) rfl ?_
          refine aw_cVP dX5_refusal_122 oX6_isWithinToolLimit vX6_isWithinToolLimit rfl lX5_71 (kX6_isWithinToolLimit hs1 ok (Or.inl rfl) hto r1) rfl (hp_134 _) rfl rfl rfl (Nat.le_of_ble_eq_true rfl) (by decide) (Nat.le_of_ble_eq_true rfl) ?_
          refine aw_if_ne 130 dX5_refusal_125 (by decide) (fun c125 => ?_) (fun c125 => ?_)
          · refine aw_aload_n dX5_refusal_130 rfl ?_
            refine aw_gf dX5_refusal_131 (hp_133 _) rfl fX5_12 (by decide) rfl ?_
            refine aw_aload_n dX5_refusal_134 rfl ?_
            refine aw_gf dX5_refusal_135 (hp_133 _) rfl fX5_18 (by decide) rfl ?_
            refine aw_aload_n dX5_refusal_138 rfl ?_
            refine aw_gf dX5_refusal_139 (hp_133 _) rfl fX5_18 (by decide) rfl ?_
            refine aw_gf dX5_refusal_142 (hp_0 _) rfl fX5_48 (by decide) rfl ?_
            refine aw_iload_n dX5_refusal_145 rfl ?_
            refine aw_ialdN dX5_refusal_146 (hp_3 _) rfl (s) (by first | rfl | (simp only [li_0, li_1, li_2, li_3, li_4, li_5, li_7, li_8, li_9, li_11, li_12, li_16, li_17, li_31, li_32, li_60, li_77, li_80, li_89, li_99, li_101, li_112, li_113, li_256, li_999, li_1023, nI_add, pk_mul])) (by omega) (by decide) ?_
            rw [show d1.1 3 s = nI (q 3 s) from hs1 3 s (by decide) (show s < 8 by omega)]
            refine aw_cVP dX5_refusal_147 oX6_fits vX6_fits rfl lX5_55 (kX6_fits hs1 ok (Or.inl rfl) hto r1 (c := q 3 s) (ok.2.2.2.2.1 s h8).2) rfl (hp_134 _) rfl rfl rfl (Nat.le_of_ble_eq_true rfl) (by decide) (Nat.le_of_ble_eq_true rfl) ?_
            refine aw_if_eq 157 dX5_refusal_150 (by decide) (fun c150 => ?_) (fun c150 => ?_)
            · refine aw_bipush (v := 6) dX5_refusal_157 (by decide) ?_
              exact aw_endI dX5_refusal_159 rfl ⟨f1, by unfold refQ; rw [if_neg (fun z => (hi_iff ok ht12 h8).mpr z (nI_inj (Nat.lt_of_le_of_lt Nat.and_le_left (by omega)) (by omega) (c40 : _ = nI 0))), if_neg (fun z => (lo_iff ok ht12 h8).mpr z (nI_inj (Nat.lt_of_le_of_lt Nat.and_le_left (by omega)) (by omega) (c56 : _ = nI 0))), if_neg (fun z => (ap_iff ok ht12).mp z (nI_inj (Nat.lt_of_le_of_lt Nat.and_le_left (by omega)) (by omega) (c73 : _ = nI 0))), if_neg (fun z => (to_iff ok ht12 h8).mpr z (nI_inj (Nat.lt_of_le_of_lt Nat.and_le_left (by omega)) (by omega) (c92 : _ = nI 0))), if_neg (Nat.not_lt.mpr (b2d_t c125)), if_neg (by rw [b2i_eq.mp c150]; exact Bool.false_ne_true)]; rfl⟩
            · refine aw_iconst (v := 0) dX5_refusal_153 (by decide) ?_
              refine aw_goto (tgt := 159) dX5_refusal_154 (by decide) ?_
              exact aw_endI dX5_refusal_159 rfl ⟨f1, by unfold refQ; rw [if_neg (fun z => (hi_iff ok ht12 h8).mpr z (nI_inj (Nat.lt_of_le_of_lt Nat.and_le_left (by omega)) (by omega) (c40 : _ = nI 0))), if_neg (fun z => (lo_iff ok ht12 h8).mpr z (nI_inj (Nat.lt_of_le_of_lt Nat.and_le_left (by omega)) (by omega) (c56 : _ = nI 0))), if_neg (fun z => (ap_iff ok ht12).mp z (nI_inj (Nat.lt_of_le_of_lt Nat.and_le_left (by omega)) (by omega) (c73 : _ = nI 0))), if_neg (fun z => (to_iff ok ht12 h8).mpr z (nI_inj (Nat.lt_of_le_of_lt Nat.and_le_left (by omega)) (by omega) (c92 : _ = nI 0))), if_neg (Nat.not_lt.mpr (b2d_t c125)), if_pos (b2i_ne.mp c150)]; rfl⟩
          · refine aw_iconst (v := 5) dX5_refusal_128 (by decide) ?_
            exact aw_endI dX5_refusal_129 rfl ⟨f1, by unfold refQ; rw [if_neg (fun z => (hi_iff ok ht12 h8).mpr z (nI_inj (Nat.lt_of_le_of_lt Nat.and_le_left (by omega)) (by omega) (c40 : _ = nI 0))), if_neg (fun z => (lo_iff ok ht12 h8).mpr z (nI_inj (Nat.lt_of_le_of_lt Nat.and_le_left (by omega)) (by omega) (c56 : _ = nI 0))), if_neg (fun z => (ap_iff ok ht12).mp z (nI_inj (Nat.lt_of_le_of_lt Nat.and_le_left (by omega)) (by omega) (c73 : _ = nI 0))), if_neg (fun z => (to_iff ok ht12 h8).mpr z (nI_inj (Nat.lt_of_le_of_lt Nat.and_le_left (by omega)) (by omega) (c92 : _ = nI 0))), if_pos (Nat.lt_of_not_le (b2d_f c125))]; rfl⟩
        · refine aw_iconst (v := 4) dX5_refusal_95 (by decide) ?_
          exact aw_endI dX5_refusal_96 rfl ⟨fW_r _ _, by unfold refQ; rw [if_neg (fun z => (hi_iff ok ht12 h8).mpr z (nI_inj (Nat.lt_of_le_of_lt Nat.and_le_left (by omega)) (by omega) (c40 : _ = nI 0))), if_neg (fun z => (lo_iff ok ht12 h8).mpr z (nI_inj (Nat.lt_of_le_of_lt Nat.and_le_left (by omega)) (by omega) (c56 : _ = nI 0))), if_neg (fun z => (ap_iff ok ht12).mp z (nI_inj (Nat.lt_of_le_of_lt Nat.and_le_left (by omega)) (by omega) (c73 : _ = nI 0))), if_pos ((to_iff ok ht12 h8).mp (fun z => c92 (by rw [z]; rfl)))]; rfl⟩
      · refine aw_iconst (v := 3) dX5_refusal_76 (by decide) ?_
        exact aw_endI dX5_refusal_77 rfl ⟨fW_r _ _, by unfold refQ; rw [if_neg (fun z => (hi_iff ok ht12 h8).mpr z (nI_inj (Nat.lt_of_le_of_lt Nat.and_le_left (by omega)) (by omega) (c40 : _ = nI 0))), if_neg (fun z => (lo_iff ok ht12 h8).mpr z (nI_inj (Nat.lt_of_le_of_lt Nat.and_le_left (by omega)) (by omega) (c56 : _ = nI 0))), if_pos ((ap_iff ok ht12).mpr (fun z => c73 (by rw [z]; rfl)))]; rfl⟩
    · refine aw_iconst (v := 2) dX5_refusal_59 (by decide) ?_
      exact aw_endI dX5_refusal_60 rfl ⟨fW_r _ _, by unfold refQ; rw [if_neg (fun z => (hi_iff ok ht12 h8).mpr z (nI_inj (Nat.lt_of_le_of_lt Nat.and_le_left (by omega)) (by omega) (c40 : _ = nI 0))), if_pos ((lo_iff ok ht12 h8).mp (fun z => c56 (by rw [z]; rfl)))]; rfl⟩
  · refine aw_iconst (v := 1) dX5_refusal_43 (by decide) ?_
    exact aw_endI dX5_refusal_44 rfl ⟨fW_r _ _, by unfold refQ; rw [if_pos ((hi_iff ok ht12 h8).mp (fun z => c40 (by rw [z]; rfl)))]; rfl⟩

set_option maxHeartbeats 4000000 in
set_option maxRecDepth 100000 in
theorem kX5_lowestFor {q : St} {d : Dt} (hs : KS 0 d q) (ok : QOK q) {t : Nat} (ht : t < q 0 1) : CI mX5_lowestFor 5 [.ref 133, .int (nI t)] d (fun x d' => fW 134 d d' ∧ x = pv (lowQ q t 8)) := by
  show AW mX5_lowestFor 5 true (PIx (fun x d' => fW 134 d d' ∧ x = pv (lowQ q t 8)) nX) 0 0 0 [(0, .ref 133), (1, .int (nI t))] [] (HP d)
  refine aw_iconst (v := 0) dX5_lowestFor_0 (by decide) ?_
  refine aw_istore_n dX5_lowestFor_1 (by decide) rfl ?_
  have L2 : ∀ j, j ≤ 8 → ∀ (d1 : Dt) (v2 : Int32), fW 134 d d1 → lowQ q t 8 = lowQ q t (8 - j) → v2 = nI j → AW mX5_lowestFor 5 true (PIx (fun x d' => fW 134 d d' ∧ x = pv (lowQ q t 8)) nX) 0 0 2 [(0, .ref 133), (1, .int (nI t)), (2, .int v2)] [] (HP d1) := by
    refine up_ind (fun j hj ih => ?_)
    rintro d1 _ f1 hlw rfl; have hs1 : KS 0 d1 q := KS_W (by decide) hs f1
    refine aw_iload_n dX5_lowestFor_2 rfl ?_
    refine aw_bipush (v := 8) dX5_lowestFor_3 (by decide) ?_
    refine aw_icmp_ge 25 dX5_lowestFor_5 (by decide) (fun c5 => ?_) (fun c5 => ?_)
    · have hge : 8 ≤ j := (le_nI (show (8 : Int32) = nI 8 from rfl) rfl (by omega) (by omega)).mp c5
      have hj2 : j = 8 := by omega
      subst hj2
      refine aw_iconst (v := (-1)) dX5_lowestFor_25 (by decide) ?_
      exact aw_endI dX5_lowestFor_26 rfl ⟨f1, by rw [hlw]; rfl⟩
    · have hlt : j < 8 := Nat.lt_of_not_le (fun z => c5 ((le_nI (show (8 : Int32) = nI 8 from rfl) rfl (by omega) (by omega)).mpr z))
      have e8 : lowQ q t (8 - j) = if refQ q t j = 0 then j + 1 else lowQ q t (7 - j) := by rw [show 8 - j = (7 - j) + 1 by omega]; simp only [lowQ]; rw [show 7 - (7 - j) = j by omega, show 8 - (7 - j) = j + 1 by omega]
      refine aw_aload_n dX5_lowestFor_8 rfl ?_
      refine aw_iload_n dX5_lowestFor_9 rfl ?_
      refine aw_iload_n dX5_lowestFor_10 rfl ?_
      refine aw_cVI dX5_lowestFor_11 oX5_refusal vX5_refusal rfl lX5_75 (kX5_refusal hs1 ok ht hlt) rfl (hp_133 _) rfl rfl rfl (Nat.le_of_ble_eq_true rfl) (by decide) (Nat.le_of_ble_eq_true rfl) ?_
      rintro _ d2 ⟨f2, rfl⟩
      have hrl := refQ_le q t j
      refine aw_if_ne 19 dX5_lowestFor_14 (by decide) (fun c14 => ?_) (fun c14 => ?_)
      · refine aw_inc (c := 1) dX5_lowestFor_19 (by decide) rfl (by decide) rfl ?_
        refine aw_goto (tgt := 2) dX5_lowestFor_22 (by decide) ?_
        exact ih hlt _ _ (fW_t f1 f2) (by rw [hlw, e8, if_neg (fun z => c14 (by rw [z]; rfl)), show 8 - (j + 1) = 7 - j by omega]) (nI_1 j)
      · refine aw_iload_n dX5_lowestFor_17 rfl ?_
        exact aw_endI dX5_lowestFor_18 rfl ⟨fW_t f1 f2, by rw [hlw, e8, if_pos (show refQ q t j = 0 from nI_inj (by omega) (by omega) (c14 : _ = nI 0)), pv_s]⟩
  exact L2 0 (Nat.zero_le _) _ _ (fW_r _ _) rfl rfl

set_option maxHeartbeats 4000000 in
set_option maxRecDepth 100000 in
theorem kX5_nextToFill {q : St} {d : Dt} (hs : KS 0 d q) (ok : QOK q) {p : Nat} (hp : p < 4) : CP mX5_nextToFill 4 [.ref 133, .int (nI p)] d (nI (ntQ q p (q 0 1) - 1)) := by
  show AW mX5_nextToFill 4 true (PIx (fun y d' => y = nI (ntQ q p (q 0 1) - 1) ∧ d' = d) nX) 0 0 0 [(0, .ref 133), (1, .int (nI p))] [] (HP d)
  have h12 := ok.2.1
  have hp12 := pow12 h12
  have htl := tiI_lt q 0 7
  refine aw_aload_n dX5_nextToFill_0 rfl ?_
  refine aw_cVP dX5_nextToFill_1 oX5_placed vX5_placed rfl lX5_91 (kX5_placed hs ok) rfl (hp_133 _) rfl rfl rfl (Nat.le_of_ble_eq_true rfl) (by decide) (Nat.le_of_ble_eq_true rfl) ?_
  refine aw_istore_n dX5_nextToFill_4 (by decide) rfl ?_
  refine aw_iconst (v := 0) dX5_nextToFill_5 (by decide) ?_
  refine aw_istore_n dX5_nextToFill_6 (by decide) rfl ?_
  refine aw_iconst (v := (-1)) dX5_nextToFill_7 (by decide) ?_
  refine aw_istore dX5_nextToFill_8 (by decide) rfl ?_
  refine aw_iconst (v := 0) dX5_nextToFill_10 (by decide) ?_
  refine aw_istore dX5_nextToFill_11 (by decide) rfl ?_
  have L13 : ∀ j, j ≤ q 0 1 → ∀ (v3 v4 v5 : Int32), v3 = nI (ntQ q p j - 1) → v4 = (if ntQ q p j = 0 then -1 else nI (prio q (ntQ q p j - 1) p)) → v5 = nI j → AW mX5_nextToFill 4 true (PIx (fun y d' => y = nI (ntQ q p (q 0 1) - 1) ∧ d' = d) nX) 0 0 13 [(0, .ref 133), (1, .int (nI p)), (2, .int (nI (tiI q 0 7))), (3, .int v3), (4, .int v4), (5, .int v5)] [] (HP d) := by
    refine up_ind (fun j hj ih => ?_)
    rintro _ _ _ rfl rfl rfl
    refine aw_iload dX5_nextToFill_13 rfl ?_
    refine aw_aload_n dX5_nextToFill_15 rfl ?_
    refine aw_gf dX5_nextToFill_16 (hp_133 _) rfl fX5_18 (by decide) rfl ?_
    refine aw_gf dX5_nextToFill_19 (hp_0 _) rfl fX5_81 (by decide) rfl ?_
    refine aw_icmp_ge 92 dX5_nextToFill_22 (by decide) (fun c22 => ?_) (fun c22 => ?_)
    · have hge : q 0 1 ≤ j := (le_nI (hs 0 1 (by decide) (by decide)) rfl (by omega) (by omega)).mp c22
      have hj2 : j = q 0 1 := by omega
      subst hj2
      refine aw_iload_n dX5_nextToFill_92 rfl ?_
      exact aw_endI dX5_nextToFill_93 rfl ⟨rfl, rfl⟩
    · have hlt : j < q 0 1 := Nat.lt_of_not_le (fun z => c22 ((le_nI (hs 0 1 (by decide) (by decide)) rfl (by omega) (by omega)).mpr z))
      have h8j := q8_lt ok (show j < 12 by omega)
      have hnl := ntQ_le q p j
      have hpj := prio_le ok (show j < 12 by omega) p
      have hpn := prio_le ok (show ntQ q p j - 1 < 12 by omega) p
      refine aw_iload_n dX5_nextToFill_25 rfl ?_
      refine aw_iload dX5_nextToFill_26 rfl ?_
      refine aw_cSNP dX5_nextToFill_28 oX7_has sX7_has lX5_95 (kX7_hasN (s := tiI q 0 7) (k := j) (by omega) (by omega)) rfl rfl (Nat.le_of_ble_eq_true rfl) (by decide) (Nat.le_of_ble_eq_true rfl) ?_
      refine aw_if_ne 86 dX5_nextToFill_31 (by decide) (fun c31 => ?_) (fun c31 => ?_)
      · refine aw_inc (c := 1) dX5_nextToFill_86 (by decide) rfl (by decide) rfl ?_
        refine aw_goto (tgt := 13) dX5_nextToFill_89 (by decide) ?_
        have hi : ntQ q p (j + 1) = if (freQ q).testBit j = true ∧ q 8 j &&& freQ q = 0 ∧ (ntQ q p j = 0 ∨ prio q (ntQ q p j - 1) p < prio q j p) then j + 1 else ntQ q p j := rfl
        have hz : (freQ q).testBit j = false := by
          cases hb : (freQ q).testBit j with
          | false => rfl
          | true => exact absurd (by rw [(fre_iff ok hlt).mp hb]; rfl) c31
        rw [if_neg (fun z => by rw [hz] at z; cases z.1)] at hi
        exact aw_pick [0, 1, 2, 3, 4, 5] (ih hlt _ _ _ (by rw [hi]) (by rw [hi]) (nI_1 j))
      · refine aw_aload_n dX5_nextToFill_34 rfl ?_
        refine aw_gf dX5_nextToFill_35 (hp_133 _) rfl fX5_18 (by decide) rfl ?_
        refine aw_gf dX5_nextToFill_38 (hp_0 _) rfl fX5_59 (by decide) rfl ?_
        refine aw_iload dX5_nextToFill_41 rfl ?_
        refine aw_ialdN dX5_nextToFill_43 (hp_8 _) rfl (j) (by first | rfl | (simp only [li_0, li_1, li_2, li_3, li_4, li_5, li_7, li_8, li_9, li_11, li_12, li_16, li_17, li_31, li_32, li_60, li_77, li_80, li_89, li_99, li_101, li_112, li_113, li_256, li_999, li_1023, nI_add, pk_mul])) (by omega) (by decide) ?_
        rw [show d.1 8 (j) = nI (q 8 (j)) from hs 8 (j) (by decide) (show (j) < 12 by omega)]
        refine aw_iload_n dX5_nextToFill_44 rfl ?_
        refine aw_iconst (v := (-1)) dX5_nextToFill_45 (by decide) ?_
        refine aw_ixor dX5_nextToFill_46 ?_
        refine aw_iand dX5_nextToFill_47 ?_
        rw [nI_lacks (by omega) htl]
        refine aw_if_ne 86 dX5_nextToFill_48 (by decide) (fun c48 => ?_) (fun c48 => ?_)
        · refine aw_inc (c := 1) dX5_nextToFill_86 (by decide) rfl (by decide) rfl ?_
          refine aw_goto (tgt := 13) dX5_nextToFill_89 (by decide) ?_
          have hi : ntQ q p (j + 1) = if (freQ q).testBit j = true ∧ q 8 j &&& freQ q = 0 ∧ (ntQ q p j = 0 ∨ prio q (ntQ q p j - 1) p < prio q j p) then j + 1 else ntQ q p j := rfl
          have hfr : (freQ q).testBit j = true := (fre_iff ok hlt).mpr (b2i_eq.mp c31)
          rw [if_neg (fun z => c48 (by rw [lack_fre ok (by omega), z.2.1]; rfl))] at hi
          exact aw_pick [0, 1, 2, 3, 4, 5] (ih hlt _ _ _ (by rw [hi]) (by rw [hi]) (nI_1 j))
        · refine aw_aload_n dX5_nextToFill_51 rfl ?_
          refine aw_gf dX5_nextToFill_52 (hp_133 _) rfl fX5_18 (by decide) rfl ?_
          refine aw_iload dX5_nextToFill_55 rfl ?_
          refine aw_iload_n dX5_nextToFill_57 rfl ?_
          refine aw_cVP dX5_nextToFill_58 oX4_priorityOf vX4_priorityOf rfl lX5_99 (kX4_priorityOf hs ok (t := j) (p := p) (by omega) hp) rfl (hp_0 _) rfl rfl rfl (Nat.le_of_ble_eq_true rfl) (by decide) (Nat.le_of_ble_eq_true rfl) ?_
          refine aw_istore dX5_nextToFill_61 (by decide) rfl ?_
          refine aw_iload dX5_nextToFill_63 rfl ?_
          refine aw_iload dX5_nextToFill_65 rfl ?_
          refine aw_icmp_le 75 dX5_nextToFill_67 (by decide) (fun c67 => ?_) (fun c67 => ?_)
          · refine aw_iload_n dX5_nextToFill_75 rfl ?_
            refine aw_istore_n dX5_nextToFill_76 (by decide) rfl ?_
            refine aw_iload dX5_nextToFill_77 rfl ?_
            refine aw_iload dX5_nextToFill_79 rfl ?_
            refine aw_mmax dX5_nextToFill_81 lX5_102 (by decide) (Nat.le_of_ble_eq_true rfl) (v := (if (if ntQ q p j = 0 then -1 else nI (prio q (ntQ q p j - 1) p)) < nI (prio q j p) then nI (prio q j p) else (if ntQ q p j = 0 then -1 else nI (prio q (ntQ q p j - 1) p)))) rfl ?_
            refine aw_istore dX5_nextToFill_84 (by decide) rfl ?_
            refine aw_inc (c := 1) dX5_nextToFill_86 (by decide) rfl (by decide) rfl ?_
            refine aw_goto (tgt := 13) dX5_nextToFill_89 (by decide) ?_
            have hi : ntQ q p (j + 1) = if (freQ q).testBit j = true ∧ q 8 j &&& freQ q = 0 ∧ (ntQ q p j = 0 ∨ prio q (ntQ q p j - 1) p < prio q j p) then j + 1 else ntQ q p j := rfl
            have hfr : (freQ q).testBit j = true := (fre_iff ok hlt).mpr (b2i_eq.mp c31)
            have ha0 : q 8 j &&& freQ q = 0 := by rw [← lack_fre ok (by omega)]; exact nI_inj (Nat.lt_of_le_of_lt Nat.and_le_left (by omega)) (by omega) (c48 : nI (lacks (q 8 j) (tiI q 0 7)) = nI 0)
            have hn : ¬ (ntQ q p j = 0 ∨ prio q (ntQ q p j - 1) p < prio q j p) := by
              rintro (z | z)
              · rw [if_pos z] at c67; exact absurd c67 (by rw [Int32.le_iff_toInt_le, nI_toInt (by omega), show (-1 : Int32).toInt = -1 from by decide]; omega)
              · by_cases e : ntQ q p j = 0
                · rw [if_pos e] at c67; exact absurd c67 (by rw [Int32.le_iff_toInt_le, nI_toInt (by omega), show (-1 : Int32).toInt = -1 from by decide]; omega)
                · rw [if_neg e, le_nI rfl rfl (by omega) (by omega)] at c67; omega
            rw [if_neg (fun z => hn z.2.2)] at hi
            have hne : ntQ q p j ≠ 0 := fun z => hn (Or.inl z)
            exact aw_pick [0, 1, 2, 3, 4, 5] (ih hlt _ _ _ (by rw [hi]) (by rw [hi, if_neg hne]; rw [if_neg hne] at c67; rw [if_neg (fun z => by rw [lt_nI rfl rfl (by omega) (by omega)] at z; exact hn (Or.inr z))]) (nI_1 j))
          · refine aw_iload dX5_nextToFill_70 rfl ?_
            refine aw_goto (tgt := 76) dX5_nextToFill_72 (by decide) ?_
            refine aw_istore_n dX5_nextToFill_76 (by decide) rfl ?_
            refine aw_iload dX5_nextToFill_77 rfl ?_
            refine aw_iload dX5_nextToFill_79 rfl ?_
            refine aw_mmax dX5_nextToFill_81 lX5_102 (by decide) (Nat.le_of_ble_eq_true rfl) (v := (if (if ntQ q p j = 0 then -1 else nI (prio q (ntQ q p j - 1) p)) < nI (prio q j p) then nI (prio q j p) else (if ntQ q p j = 0 then -1 else nI (prio q (ntQ q p j - 1) p)))) rfl ?_
            refine aw_istore dX5_nextToFill_84 (by decide) rfl ?_
            refine aw_inc (c := 1) dX5_nextToFill_86 (by decide) rfl (by decide) rfl ?_
            refine aw_goto (tgt := 13) dX5_nextToFill_89 (by decide) ?_
            have hi : ntQ q p (j + 1) = if (freQ q).testBit j = true ∧ q 8 j &&& freQ q = 0 ∧ (ntQ q p j = 0 ∨ prio q (ntQ q p j - 1) p < prio q j p) then j + 1 else ntQ q p j := rfl
            have hfr : (freQ q).testBit j = true := (fre_iff ok hlt).mpr (b2i_eq.mp c31)
            have ha0 : q 8 j &&& freQ q = 0 := by rw [← lack_fre ok (by omega)]; exact nI_inj (Nat.lt_of_le_of_lt Nat.and_le_left (by omega)) (by omega) (c48 : nI (lacks (q 8 j) (tiI q 0 7)) = nI 0)
            have hy : ntQ q p j = 0 ∨ prio q (ntQ q p j - 1) p < prio q j p := by
              by_cases e : ntQ q p j = 0
              · exact Or.inl e
              · rw [if_neg e] at c67
                have := mt (le_nI (rfl : nI (prio q j p) = _) (rfl : nI (prio q (ntQ q p j - 1) p) = _) (by omega) (by omega)).mpr c67
                exact Or.inr (by omega)
            rw [if_pos ⟨hfr, ha0, hy⟩] at hi
            exact aw_pick [0, 1, 2, 3, 4, 5] (ih hlt _ _ _ (by rw [hi, Nat.add_sub_cancel]) (by
              rw [hi, if_neg (Nat.succ_ne_zero j), Nat.add_sub_cancel]
              by_cases e : ntQ q p j = 0
              · rw [if_pos e, if_pos (by rw [Int32.lt_iff_toInt_lt, nI_toInt (by omega), show (-1 : Int32).toInt = -1 from by decide]; omega)]
              · rw [if_neg e, if_pos ((lt_nI rfl rfl (by omega) (by omega)).mpr (hy.elim (fun z => absurd z e) id))]) (nI_1 j))
  exact L13 0 (Nat.zero_le _) _ _ _ rfl rfl rfl
