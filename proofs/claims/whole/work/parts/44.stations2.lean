set_option maxHeartbeats 4000000 in
set_option maxRecDepth 100000 in
theorem kX5_countUsed {q : St} {d : Dt} (hs : KS 0 d q) (ok : QOK q) : CP mX5_countUsed 4 [.ref 133] d (nI (ovQ q 0)) := by
  show AW mX5_countUsed 4 true (PIx (fun y d' => y = nI (ovQ q 0) ∧ d' = d) nX) 0 0 0 [(0, .ref 133)] [] (HP d)
  refine aw_iconst (v := 0) dX5_countUsed_0 (by decide) ?_
  refine aw_istore_n dX5_countUsed_1 (by decide) rfl ?_
  refine aw_iconst (v := 0) dX5_countUsed_2 (by decide) ?_
  refine aw_istore_n dX5_countUsed_3 (by decide) rfl ?_
  have L4 : ∀ j, j ≤ 8 → ∀ (v1 v2 : Int32), v1 = nI (sN j (ovF q 0)) → v2 = nI j → AW mX5_countUsed 4 true (PIx (fun y d' => y = nI (ovQ q 0) ∧ d' = d) nX) 0 0 4 [(0, .ref 133), (1, .int v1), (2, .int v2)] [] (HP d) := by
    refine up_ind (fun j hj ih => ?_)
    rintro _ _ rfl rfl
    refine aw_iload_n dX5_countUsed_4 rfl ?_
    refine aw_bipush (v := 8) dX5_countUsed_5 (by decide) ?_
    refine aw_icmp_ge 32 dX5_countUsed_7 (by decide) (fun c7 => ?_) (fun c7 => ?_)
    · have hge : 8 ≤ j := (le_nI (show (8 : Int32) = nI 8 from rfl) rfl (by omega) (by omega)).mp c7
      have hj2 : j = 8 := by omega
      subst hj2
      refine aw_iload_n dX5_countUsed_32 rfl ?_
      exact aw_endI dX5_countUsed_33 rfl ⟨rfl, rfl⟩
    · have hlt : j < 8 := Nat.lt_of_not_le (fun z => c7 ((le_nI (show (8 : Int32) = nI 8 from rfl) rfl (by omega) (by omega)).mpr z))
      refine aw_iload_n dX5_countUsed_10 rfl ?_
      refine aw_aload_n dX5_countUsed_11 rfl ?_
      refine aw_iload_n dX5_countUsed_12 rfl ?_
      refine aw_cVP dX5_countUsed_13 oX5_isUsed vX5_isUsed rfl lX5_107 (kX5_isUsed hs ok hlt) rfl (hp_133 _) rfl rfl rfl (Nat.le_of_ble_eq_true rfl) (by decide) (Nat.le_of_ble_eq_true rfl) ?_
      refine aw_if_eq 23 dX5_countUsed_16 (by decide) (fun c16 => ?_) (fun c16 => ?_)
      · refine aw_iconst (v := 0) dX5_countUsed_23 (by decide) ?_
        refine aw_iadd dX5_countUsed_24 ?_
        refine aw_istore_n dX5_countUsed_25 (by decide) rfl ?_
        refine aw_inc (c := 1) dX5_countUsed_26 (by decide) rfl (by decide) rfl ?_
        refine aw_goto (tgt := 4) dX5_countUsed_29 (by decide) ?_
        exact ih hlt _ _ (by simp only [sN, ovF]; rw [if_neg (b2d_f c16)]; exact nI_add _ 0) (nI_1 j)
      · refine aw_iconst (v := 1) dX5_countUsed_19 (by decide) ?_
        refine aw_goto (tgt := 24) dX5_countUsed_20 (by decide) ?_
        refine aw_iadd dX5_countUsed_24 ?_
        refine aw_istore_n dX5_countUsed_25 (by decide) rfl ?_
        refine aw_inc (c := 1) dX5_countUsed_26 (by decide) rfl (by decide) rfl ?_
        refine aw_goto (tgt := 4) dX5_countUsed_29 (by decide) ?_
        exact ih hlt _ _ (by simp only [sN, ovF]; rw [if_pos (b2d_t c16)]; exact nI_add _ 1) (nI_1 j)
  exact L4 0 (Nat.zero_le _) _ _ rfl rfl

set_option maxHeartbeats 4000000 in
set_option maxRecDepth 100000 in
theorem kX5_usedCopies {q : St} {d : Dt} (hs : KS 0 d q) (ok : QOK q) : CP mX5_usedCopies 4 [.ref 133] d (nI (ovQ q 1)) := by
  show AW mX5_usedCopies 4 true (PIx (fun y d' => y = nI (ovQ q 1) ∧ d' = d) nX) 0 0 0 [(0, .ref 133)] [] (HP d)
  refine aw_iconst (v := 0) dX5_usedCopies_0 (by decide) ?_
  refine aw_istore_n dX5_usedCopies_1 (by decide) rfl ?_
  refine aw_iconst (v := 0) dX5_usedCopies_2 (by decide) ?_
  refine aw_istore_n dX5_usedCopies_3 (by decide) rfl ?_
  have L4 : ∀ j, j ≤ 8 → ∀ (v1 v2 : Int32), v1 = nI (sN j (ovF q 1)) → v2 = nI j → AW mX5_usedCopies 4 true (PIx (fun y d' => y = nI (ovQ q 1) ∧ d' = d) nX) 0 0 4 [(0, .ref 133), (1, .int v1), (2, .int v2)] [] (HP d) := by
    refine up_ind (fun j hj ih => ?_)
    rintro _ _ rfl rfl
    refine aw_iload_n dX5_usedCopies_4 rfl ?_
    refine aw_bipush (v := 8) dX5_usedCopies_5 (by decide) ?_
    refine aw_icmp_ge 40 dX5_usedCopies_7 (by decide) (fun c7 => ?_) (fun c7 => ?_)
    · have hge : 8 ≤ j := (le_nI (show (8 : Int32) = nI 8 from rfl) rfl (by omega) (by omega)).mp c7
      have hj2 : j = 8 := by omega
      subst hj2
      refine aw_iload_n dX5_usedCopies_40 rfl ?_
      exact aw_endI dX5_usedCopies_41 rfl ⟨rfl, rfl⟩
    · have hlt : j < 8 := Nat.lt_of_not_le (fun z => c7 ((le_nI (show (8 : Int32) = nI 8 from rfl) rfl (by omega) (by omega)).mpr z))
      refine aw_iload_n dX5_usedCopies_10 rfl ?_
      refine aw_aload_n dX5_usedCopies_11 rfl ?_
      refine aw_iload_n dX5_usedCopies_12 rfl ?_
      refine aw_cVP dX5_usedCopies_13 oX5_isUsed vX5_isUsed rfl lX5_107 (kX5_isUsed hs ok hlt) rfl (hp_133 _) rfl rfl rfl (Nat.le_of_ble_eq_true rfl) (by decide) (Nat.le_of_ble_eq_true rfl) ?_
      refine aw_if_eq 31 dX5_usedCopies_16 (by decide) (fun c16 => ?_) (fun c16 => ?_)
      · refine aw_iconst (v := 0) dX5_usedCopies_31 (by decide) ?_
        refine aw_iadd dX5_usedCopies_32 ?_
        refine aw_istore_n dX5_usedCopies_33 (by decide) rfl ?_
        refine aw_inc (c := 1) dX5_usedCopies_34 (by decide) rfl (by decide) rfl ?_
        refine aw_goto (tgt := 4) dX5_usedCopies_37 (by decide) ?_
        exact ih hlt _ _ (by simp only [sN, ovF]; rw [if_neg (b2d_f c16)]; exact nI_add _ 0) (nI_1 j)
      · refine aw_aload_n dX5_usedCopies_19 rfl ?_
        refine aw_gf dX5_usedCopies_20 (hp_133 _) rfl fX5_18 (by decide) rfl ?_
        refine aw_gf dX5_usedCopies_23 (hp_0 _) rfl fX5_48 (by decide) rfl ?_
        refine aw_iload_n dX5_usedCopies_26 rfl ?_
        refine aw_ialdN dX5_usedCopies_27 (hp_3 _) rfl (j) (by first | rfl | (simp only [li_0, li_1, li_2, li_3, li_4, li_5, li_7, li_8, li_9, li_11, li_12, li_16, li_17, li_31, li_32, li_60, li_77, li_80, li_89, li_99, li_101, li_112, li_113, li_256, li_999, li_1023, nI_add, pk_mul])) (by omega) (by decide) ?_
        rw [show d.1 3 (j) = nI (q 3 (j)) from hs 3 (j) (by decide) (show (j) < 8 by omega)]
        refine aw_goto (tgt := 32) dX5_usedCopies_28 (by decide) ?_
        refine aw_iadd dX5_usedCopies_32 ?_
        refine aw_istore_n dX5_usedCopies_33 (by decide) rfl ?_
        refine aw_inc (c := 1) dX5_usedCopies_34 (by decide) rfl (by decide) rfl ?_
        refine aw_goto (tgt := 4) dX5_usedCopies_37 (by decide) ?_
        exact ih hlt _ _ (by simp only [sN, ovF]; rw [if_pos (b2d_t c16)]; exact nI_add _ _) (nI_1 j)
  exact L4 0 (Nat.zero_le _) _ _ rfl rfl

set_option maxHeartbeats 4000000 in
set_option maxRecDepth 100000 in
theorem kX5_sumOfLoads {q : St} {d : Dt} (hs : KS 0 d q) (ok : QOK q) : CI mX5_sumOfLoads 5 [.ref 133] d (fun x d' => fW 134 d d' ∧ x = nI (ovQ q 4)) := by
  show AW mX5_sumOfLoads 5 true (PIx (fun x d' => fW 134 d d' ∧ x = nI (ovQ q 4)) nX) 0 0 0 [(0, .ref 133)] [] (HP d)
  refine aw_iconst (v := 0) dX5_sumOfLoads_0 (by decide) ?_
  refine aw_istore_n dX5_sumOfLoads_1 (by decide) rfl ?_
  refine aw_iconst (v := 0) dX5_sumOfLoads_2 (by decide) ?_
  refine aw_istore_n dX5_sumOfLoads_3 (by decide) rfl ?_
  have L4 : ∀ j, j ≤ 8 → ∀ (d1 : Dt) (v1 v2 : Int32), fW 134 d d1 → v1 = nI (sN j (ovF q 4)) → v2 = nI j → AW mX5_sumOfLoads 5 true (PIx (fun x d' => fW 134 d d' ∧ x = nI (ovQ q 4)) nX) 0 0 4 [(0, .ref 133), (1, .int v1), (2, .int v2)] [] (HP d1) := by
    refine up_ind (fun j hj ih => ?_)
    rintro d1 _ _ f1 rfl rfl; have hs1 : KS 0 d1 q := KS_W (by decide) hs f1
    refine aw_iload_n dX5_sumOfLoads_4 rfl ?_
    refine aw_bipush (v := 8) dX5_sumOfLoads_5 (by decide) ?_
    refine aw_icmp_ge 24 dX5_sumOfLoads_7 (by decide) (fun c7 => ?_) (fun c7 => ?_)
    · have hge : 8 ≤ j := (le_nI (show (8 : Int32) = nI 8 from rfl) rfl (by omega) (by omega)).mp c7
      have hj2 : j = 8 := by omega
      subst hj2
      refine aw_iload_n dX5_sumOfLoads_24 rfl ?_
      exact aw_endI dX5_sumOfLoads_25 rfl ⟨f1, rfl⟩
    · have hlt : j < 8 := Nat.lt_of_not_le (fun z => c7 ((le_nI (show (8 : Int32) = nI 8 from rfl) rfl (by omega) (by omega)).mpr z))
      refine aw_iload_n dX5_sumOfLoads_10 rfl ?_
      refine aw_aload_n dX5_sumOfLoads_11 rfl ?_
      refine aw_iload_n dX5_sumOfLoads_12 rfl ?_
      refine aw_cVI dX5_sumOfLoads_13 oX5_loadOf vX5_loadOf rfl lX5_111 (kX5_loadOf hs1 ok hlt) rfl (hp_133 _) rfl rfl rfl (Nat.le_of_ble_eq_true rfl) (by decide) (Nat.le_of_ble_eq_true rfl) ?_
      rintro _ d2 ⟨f2, rfl⟩
      refine aw_iadd dX5_sumOfLoads_16 ?_
      refine aw_istore_n dX5_sumOfLoads_17 (by decide) rfl ?_
      refine aw_inc (c := 1) dX5_sumOfLoads_18 (by decide) rfl (by decide) rfl ?_
      refine aw_goto (tgt := 4) dX5_sumOfLoads_21 (by decide) ?_
      exact ih hlt _ _ _ (fW_t f1 f2) (nI_add _ _) (nI_1 j)
  exact L4 0 (Nat.zero_le _) _ _ _ (fW_r _ _) rfl rfl

set_option maxHeartbeats 4000000 in
set_option maxRecDepth 100000 in
theorem kX5_countUnfitting {q : St} {d : Dt} (hs : KS 0 d q) (ok : QOK q) : CI mX5_countUnfitting 5 [.ref 133] d (fun x d' => fW 134 d d' ∧ x = nI (ovQ q 6)) := by
  show AW mX5_countUnfitting 5 true (PIx (fun x d' => fW 134 d d' ∧ x = nI (ovQ q 6)) nX) 0 0 0 [(0, .ref 133)] [] (HP d)
  refine aw_iconst (v := 0) dX5_countUnfitting_0 (by decide) ?_
  refine aw_istore_n dX5_countUnfitting_1 (by decide) rfl ?_
  refine aw_iconst (v := 0) dX5_countUnfitting_2 (by decide) ?_
  refine aw_istore_n dX5_countUnfitting_3 (by decide) rfl ?_
  have L4 : ∀ j, j ≤ 8 → ∀ (d1 : Dt) (v1 v2 : Int32), fW 134 d d1 → v1 = nI (sN j (ovF q 6)) → v2 = nI j → AW mX5_countUnfitting 5 true (PIx (fun x d' => fW 134 d d' ∧ x = nI (ovQ q 6)) nX) 0 0 4 [(0, .ref 133), (1, .int v1), (2, .int v2)] [] (HP d1) := by
    refine up_ind (fun j hj ih => ?_)
    rintro d1 _ _ f1 rfl rfl; have hs1 : KS 0 d1 q := KS_W (by decide) hs f1
    refine aw_iload_n dX5_countUnfitting_4 rfl ?_
    refine aw_bipush (v := 8) dX5_countUnfitting_5 (by decide) ?_
    refine aw_icmp_ge 32 dX5_countUnfitting_7 (by decide) (fun c7 => ?_) (fun c7 => ?_)
    · have hge : 8 ≤ j := (le_nI (show (8 : Int32) = nI 8 from rfl) rfl (by omega) (by omega)).mp c7
      have hj2 : j = 8 := by omega
      subst hj2
      refine aw_iload_n dX5_countUnfitting_32 rfl ?_
      exact aw_endI dX5_countUnfitting_33 rfl ⟨f1, rfl⟩
    · have hlt : j < 8 := Nat.lt_of_not_le (fun z => c7 ((le_nI (show (8 : Int32) = nI 8 from rfl) rfl (by omega) (by omega)).mpr z))
      refine aw_iload_n dX5_countUnfitting_10 rfl ?_
      refine aw_aload_n dX5_countUnfitting_11 rfl ?_
      refine aw_iload_n dX5_countUnfitting_12 rfl ?_
      refine aw_cVI dX5_countUnfitting_13 oX5_isFitting vX5_isFitting rfl lX5_117 (kX5_isFitting hs1 ok hlt) rfl (hp_133 _) rfl rfl rfl (Nat.le_of_ble_eq_true rfl) (by decide) (Nat.le_of_ble_eq_true rfl) ?_
      rintro _ d2 ⟨f2, rfl⟩
      refine aw_if_eq 23 dX5_countUnfitting_16 (by decide) (fun c16 => ?_) (fun c16 => ?_)
      · refine aw_iconst (v := 1) dX5_countUnfitting_23 (by decide) ?_
        refine aw_iadd dX5_countUnfitting_24 ?_
        refine aw_istore_n dX5_countUnfitting_25 (by decide) rfl ?_
        refine aw_inc (c := 1) dX5_countUnfitting_26 (by decide) rfl (by decide) rfl ?_
        refine aw_goto (tgt := 4) dX5_countUnfitting_29 (by decide) ?_
        exact ih hlt _ _ _ (fW_t f1 f2) (by simp only [sN, ovF]; rw [if_neg (by rw [b2i_eq.mp c16]; exact Bool.false_ne_true)]; exact nI_add _ 1) (nI_1 j)
      · refine aw_iconst (v := 0) dX5_countUnfitting_19 (by decide) ?_
        refine aw_goto (tgt := 24) dX5_countUnfitting_20 (by decide) ?_
        refine aw_iadd dX5_countUnfitting_24 ?_
        refine aw_istore_n dX5_countUnfitting_25 (by decide) rfl ?_
        refine aw_inc (c := 1) dX5_countUnfitting_26 (by decide) rfl (by decide) rfl ?_
        refine aw_goto (tgt := 4) dX5_countUnfitting_29 (by decide) ?_
        exact ih hlt _ _ _ (fW_t f1 f2) (by simp only [sN, ovF]; rw [if_pos (b2i_ne.mp c16)]; exact nI_add _ 0) (nI_1 j)
  exact L4 0 (Nat.zero_le _) _ _ _ (fW_r _ _) rfl rfl

set_option maxHeartbeats 4000000 in
set_option maxRecDepth 100000 in
theorem kX5_sumOfSquares {q : St} {d : Dt} (hs : KS 0 d q) (ok : QOK q) : CL mX5_sumOfSquares 5 [.ref 133] d (fun x d' => fW 134 d d' ∧ x = unL q 8) := by
  show AW mX5_sumOfSquares 5 true (PLx (fun x d' => fW 134 d d' ∧ x = unL q 8) nX) 0 0 0 [(0, .ref 133)] [] (HP d)
  refine aw_lconst (v := 0) dX5_sumOfSquares_0 (by decide) ?_
  refine aw_lstore_n dX5_sumOfSquares_1 (by decide) rfl rfl ?_
  refine aw_iconst (v := 0) dX5_sumOfSquares_2 (by decide) ?_
  refine aw_istore_n dX5_sumOfSquares_3 (by decide) rfl ?_
  have L4 : ∀ j, j ≤ 8 → ∀ (d1 : Dt) (v1 : Int64) (v2 : Int32), fW 134 d d1 → v1 = unL q j → v2 = nI j → AW mX5_sumOfSquares 5 true (PLx (fun x d' => fW 134 d d' ∧ x = unL q 8) nX) 0 0 4 [(0, .ref 133), (1, .long v1), (3, .int v2)] [] (HP d1) := by
    refine up_ind (fun j hj ih => ?_)
    rintro d1 _ _ f1 rfl rfl; have hs1 : KS 0 d1 q := KS_W (by decide) hs f1
    refine aw_iload_n dX5_sumOfSquares_4 rfl ?_
    refine aw_bipush (v := 8) dX5_sumOfSquares_5 (by decide) ?_
    refine aw_icmp_ge 44 dX5_sumOfSquares_7 (by decide) (fun c7 => ?_) (fun c7 => ?_)
    · have hge : 8 ≤ j := (le_nI (show (8 : Int32) = nI 8 from rfl) rfl (by omega) (by omega)).mp c7
      have hj2 : j = 8 := by omega
      subst hj2
      refine aw_lload_n dX5_sumOfSquares_44 rfl ?_
      exact aw_endL dX5_sumOfSquares_45 rfl ⟨f1, rfl⟩
    · have hlt : j < 8 := Nat.lt_of_not_le (fun z => c7 ((le_nI (show (8 : Int32) = nI 8 from rfl) rfl (by omega) (by omega)).mpr z))
      refine aw_aload_n dX5_sumOfSquares_10 rfl ?_
      refine aw_iload_n dX5_sumOfSquares_11 rfl ?_
      refine aw_cVP dX5_sumOfSquares_12 oX5_isUsed vX5_isUsed rfl lX5_107 (kX5_isUsed hs1 ok hlt) rfl (hp_133 _) rfl rfl rfl (Nat.le_of_ble_eq_true rfl) (by decide) (Nat.le_of_ble_eq_true rfl) ?_
      refine aw_if_eq 27 dX5_sumOfSquares_15 (by decide) (fun c15 => ?_) (fun c15 => ?_)
      · refine aw_lconst (v := 0) dX5_sumOfSquares_27 (by decide) ?_
        refine aw_lstore dX5_sumOfSquares_28 (by decide) rfl rfl ?_
        refine aw_lload_n dX5_sumOfSquares_30 rfl ?_
        refine aw_lload dX5_sumOfSquares_31 rfl ?_
        refine aw_lload dX5_sumOfSquares_33 rfl ?_
        refine aw_lmul dX5_sumOfSquares_35 ?_
        refine aw_ladd dX5_sumOfSquares_36 ?_
        refine aw_lstore_n dX5_sumOfSquares_37 (by decide) rfl rfl ?_
        refine aw_inc (c := 1) dX5_sumOfSquares_38 (by decide) rfl (by decide) rfl ?_
        refine aw_goto (tgt := 4) dX5_sumOfSquares_41 (by decide) ?_
        have hz : stn q j = 0 := Decidable.of_not_not (b2d_f c15)
        exact aw_pick [0, 1, 2] (ih hlt _ _ _ f1 (by rw [show unL q (j + 1) = unL q j + (if stn q j = 0 then 0 else (lackV q j).toInt64) * (if stn q j = 0 then 0 else (lackV q j).toInt64) from rfl, if_pos hz]) (nI_1 j))
      · refine aw_aload_n dX5_sumOfSquares_18 rfl ?_
        refine aw_iload_n dX5_sumOfSquares_19 rfl ?_
        refine aw_cVI dX5_sumOfSquares_20 oX5_lackOf vX5_lackOf rfl lX5_120 (kX5_lackOf hs1 ok hlt) rfl (hp_133 _) rfl rfl rfl (Nat.le_of_ble_eq_true rfl) (by decide) (Nat.le_of_ble_eq_true rfl) ?_
        rintro _ d2 ⟨f2, rfl⟩
        refine aw_i2l dX5_sumOfSquares_23 ?_
        refine aw_goto (tgt := 28) dX5_sumOfSquares_24 (by decide) ?_
        refine aw_lstore dX5_sumOfSquares_28 (by decide) rfl rfl ?_
        refine aw_lload_n dX5_sumOfSquares_30 rfl ?_
        refine aw_lload dX5_sumOfSquares_31 rfl ?_
        refine aw_lload dX5_sumOfSquares_33 rfl ?_
        refine aw_lmul dX5_sumOfSquares_35 ?_
        refine aw_ladd dX5_sumOfSquares_36 ?_
        refine aw_lstore_n dX5_sumOfSquares_37 (by decide) rfl rfl ?_
        refine aw_inc (c := 1) dX5_sumOfSquares_38 (by decide) rfl (by decide) rfl ?_
        refine aw_goto (tgt := 4) dX5_sumOfSquares_41 (by decide) ?_
        exact aw_pick [0, 1, 2] (ih hlt _ _ _ (fW_t f1 f2) (by rw [show unL q (j + 1) = unL q j + (if stn q j = 0 then 0 else (lackV q j).toInt64) * (if stn q j = 0 then 0 else (lackV q j).toInt64) from rfl, if_neg (b2d_t c15)]) (nI_1 j))
  exact L4 0 (Nat.zero_le _) _ _ _ (fW_r _ _) rfl rfl

set_option maxHeartbeats 4000000 in
set_option maxRecDepth 100000 in
theorem kX5_countRefused {q : St} {d : Dt} (hs : KS 0 d q) (ok : QOK q) : CI mX5_countRefused 5 [.ref 133] d (fun x d' => fW 134 d d' ∧ x = nI (rfdQ q)) := by
  show AW mX5_countRefused 5 true (PIx (fun x d' => fW 134 d d' ∧ x = nI (rfdQ q)) nX) 0 0 0 [(0, .ref 133)] [] (HP d)
  have h12 := ok.2.1
  have hp12 := pow12 h12
  refine aw_iconst (v := 0) dX5_countRefused_0 (by decide) ?_
  refine aw_istore_n dX5_countRefused_1 (by decide) rfl ?_
  refine aw_iconst (v := 0) dX5_countRefused_2 (by decide) ?_
  refine aw_istore_n dX5_countRefused_3 (by decide) rfl ?_
  have L4 : ∀ j, j ≤ q 0 1 → ∀ (d1 : Dt) (v1 v2 : Int32), fW 134 d d1 → v1 = nI (sN j (fun t => if 1 ≤ q 6 t ∧ refQ q t (q 6 t - 1) ≠ 0 then 1 else 0)) → v2 = nI j → AW mX5_countRefused 5 true (PIx (fun x d' => fW 134 d d' ∧ x = nI (rfdQ q)) nX) 0 0 4 [(0, .ref 133), (1, .int v1), (2, .int v2)] [] (HP d1) := by
    refine up_ind (fun j hj ih => ?_)
    rintro d1 _ _ f1 rfl rfl; have hs1 : KS 0 d1 q := KS_W (by decide) hs f1
    refine aw_iload_n dX5_countRefused_4 rfl ?_
    refine aw_aload_n dX5_countRefused_5 rfl ?_
    refine aw_gf dX5_countRefused_6 (hp_133 _) rfl fX5_18 (by decide) rfl ?_
    refine aw_gf dX5_countRefused_9 (hp_0 _) rfl fX5_81 (by decide) rfl ?_
    refine aw_icmp_ge 55 dX5_countRefused_12 (by decide) (fun c12 => ?_) (fun c12 => ?_)
    · have hge : q 0 1 ≤ j := (le_nI (hs1 0 1 (by decide) (by decide)) rfl (by omega) (by omega)).mp c12
      have hj2 : j = q 0 1 := by omega
      subst hj2
      refine aw_iload_n dX5_countRefused_55 rfl ?_
      exact aw_endI dX5_countRefused_56 rfl ⟨f1, rfl⟩
    · have hlt : j < q 0 1 := Nat.lt_of_not_le (fun z => c12 ((le_nI (hs1 0 1 (by decide) (by decide)) rfl (by omega) (by omega)).mpr z))
      have h6 := (ok.2.2.2.2.2.2.1 j (by omega)).2
      refine aw_aload_n dX5_countRefused_15 rfl ?_
      refine aw_gf dX5_countRefused_16 (hp_133 _) rfl fX5_18 (by decide) rfl ?_
      refine aw_gf dX5_countRefused_19 (hp_0 _) rfl fX5_22 (by decide) rfl ?_
      refine aw_iload_n dX5_countRefused_22 rfl ?_
      refine aw_ialdN dX5_countRefused_23 (hp_6 _) rfl (j) (by first | rfl | (simp only [li_0, li_1, li_2, li_3, li_4, li_5, li_7, li_8, li_9, li_11, li_12, li_16, li_17, li_31, li_32, li_60, li_77, li_80, li_89, li_99, li_101, li_112, li_113, li_256, li_999, li_1023, nI_add, pk_mul])) (by omega) (by decide) ?_
      rw [show d1.1 6 j = pv (q 6 j) from hs1 6 j (by decide) (show j < 12 by omega)]
      refine aw_istore_n dX5_countRefused_24 (by decide) rfl ?_
      refine aw_iload_n dX5_countRefused_25 rfl ?_
      refine aw_iload_n dX5_countRefused_26 rfl ?_
      refine aw_cSNP dX5_countRefused_27 oX7_isStation sX7_isStation lX5_114 kX7_isStation rfl rfl (Nat.le_of_ble_eq_true rfl) (by decide) (Nat.le_of_ble_eq_true rfl) ?_
      refine aw_if_eq 46 dX5_countRefused_30 (by decide) (fun c30 => ?_) (fun c30 => ?_)
      · refine aw_iconst (v := 0) dX5_countRefused_46 (by decide) ?_
        refine aw_iadd dX5_countRefused_47 ?_
        refine aw_istore_n dX5_countRefused_48 (by decide) rfl ?_
        refine aw_inc (c := 1) dX5_countRefused_49 (by decide) rfl (by decide) rfl ?_
        refine aw_goto (tgt := 4) dX5_countRefused_52 (by decide) ?_
        have hz := b2d_f c30
        exact aw_pick [0, 1, 2] (ih hlt _ _ _ f1 (by simp only [sN]; rw [if_neg (fun z => hz ⟨(pv_ge h6 (show 0 < 100 by omega)).mpr (by omega), (pv_le h6 (show 7 < 100 by omega)).mpr (by omega)⟩)]; exact nI_add _ 0) (nI_1 j))
      · have hz := b2d_t c30
        have h61 : 1 ≤ q 6 j := (pv_ge h6 (show 0 < 100 by omega)).mp hz.1
        rw [show pv (q 6 j) = nI (q 6 j - 1) from if_neg (by omega)]
        refine aw_aload_n dX5_countRefused_33 rfl ?_
        refine aw_iload_n dX5_countRefused_34 rfl ?_
        refine aw_iload_n dX5_countRefused_35 rfl ?_
        refine aw_cVI dX5_countRefused_36 oX5_refusal vX5_refusal rfl lX5_75 (kX5_refusal hs1 ok (t := j) (s := q 6 j - 1) hlt (by omega)) rfl (hp_133 _) rfl rfl rfl (Nat.le_of_ble_eq_true rfl) (by decide) (Nat.le_of_ble_eq_true rfl) ?_
        rintro _ d2 ⟨f2, rfl⟩
        have hrl := refQ_le q j (q 6 j - 1)
        refine aw_if_eq 46 dX5_countRefused_39 (by decide) (fun c39 => ?_) (fun c39 => ?_)
        · refine aw_iconst (v := 0) dX5_countRefused_46 (by decide) ?_
          refine aw_iadd dX5_countRefused_47 ?_
          refine aw_istore_n dX5_countRefused_48 (by decide) rfl ?_
          refine aw_inc (c := 1) dX5_countRefused_49 (by decide) rfl (by decide) rfl ?_
          refine aw_goto (tgt := 4) dX5_countRefused_52 (by decide) ?_
          exact aw_pick [0, 1, 2] (ih hlt _ _ _ (fW_t f1 f2) (by simp only [sN]; rw [if_neg (fun z => z.2 (nI_inj (by omega) (by omega) (c39 : nI _ = nI 0)))]; exact nI_add _ 0) (nI_1 j))
        · refine aw_iconst (v := 1) dX5_countRefused_42 (by decide) ?_
          refine aw_goto (tgt := 47) dX5_countRefused_43 (by decide) ?_
          refine aw_iadd dX5_countRefused_47 ?_
          refine aw_istore_n dX5_countRefused_48 (by decide) rfl ?_
          refine aw_inc (c := 1) dX5_countRefused_49 (by decide) rfl (by decide) rfl ?_
          refine aw_goto (tgt := 4) dX5_countRefused_52 (by decide) ?_
          exact aw_pick [0, 1, 2] (ih hlt _ _ _ (fW_t f1 f2) (by simp only [sN]; rw [if_pos ⟨by omega, fun z => c39 (by rw [z]; rfl)⟩]; exact nI_add _ 1) (nI_1 j))
  exact L4 0 (Nat.zero_le _) _ _ _ (fW_r _ _) rfl rfl

set_option maxHeartbeats 4000000 in
set_option maxRecDepth 100000 in
theorem kX5_busiest {q : St} {d : Dt} (hs : KS 0 d q) (ok : QOK q) : CI mX5_busiest 5 [.ref 133] d (fun x d' => fW 134 d d' ∧ x = nI (buQ q 7)) := by
  show AW mX5_busiest 5 true (PIx (fun x d' => fW 134 d d' ∧ x = nI (buQ q 7)) nX) 0 0 0 [(0, .ref 133)] [] (HP d)
  have h12 := ok.2.1
  have hp12 := pow12 h12
  refine aw_iconst (v := 0) dX5_busiest_0 (by decide) ?_
  refine aw_istore_n dX5_busiest_1 (by decide) rfl ?_
  refine aw_aload_n dX5_busiest_2 rfl ?_
  refine aw_iconst (v := 0) dX5_busiest_3 (by decide) ?_
  refine aw_cVI dX5_busiest_4 oX5_loadOf vX5_loadOf rfl lX5_111 (kX5_loadOf hs ok (s := 0) (by decide)) rfl (hp_133 _) rfl rfl rfl (Nat.le_of_ble_eq_true rfl) (by decide) (Nat.le_of_ble_eq_true rfl) ?_
  rintro _ d0 ⟨f0, rfl⟩
  refine aw_istore_n dX5_busiest_7 (by decide) rfl ?_
  refine aw_iconst (v := 1) dX5_busiest_8 (by decide) ?_
  refine aw_istore_n dX5_busiest_9 (by decide) rfl ?_
  have L10 : ∀ j, j ≤ 7 → ∀ (d1 : Dt) (v1 v2 v3 : Int32), fW 134 d d1 → v1 = nI (buQ q j) → v2 = nI (ld q (stn q (buQ q j))) → v3 = nI (j + 1) → AW mX5_busiest 5 true (PIx (fun x d' => fW 134 d d' ∧ x = nI (buQ q 7)) nX) 0 0 10 [(0, .ref 133), (1, .int v1), (2, .int v2), (3, .int v3)] [] (HP d1) := by
    refine up_ind (fun j hj ih => ?_)
    rintro d1 _ _ _ f1 rfl rfl rfl; have hs1 : KS 0 d1 q := KS_W (by decide) hs f1
    refine aw_iload_n dX5_busiest_10 rfl ?_
    refine aw_bipush (v := 8) dX5_busiest_11 (by decide) ?_
    refine aw_icmp_ge 60 dX5_busiest_13 (by decide) (fun c13 => ?_) (fun c13 => ?_)
    · have hge : 8 ≤ j + 1 := (le_nI (show (8 : Int32) = nI 8 from rfl) rfl (by omega) (by omega)).mp c13
      have hj2 : j = 7 := by omega
      subst hj2
      refine aw_iload_n dX5_busiest_60 rfl ?_
      exact aw_endI dX5_busiest_61 rfl ⟨f1, rfl⟩
    · have hlt : j < 7 := by have := mt (le_nI (show (8 : Int32) = nI 8 from rfl) (rfl : nI (j + 1) = nI (j + 1)) (by omega) (by omega)).mpr c13; omega
      have hb := buQ_lt q (show j ≤ 7 by omega)
      have hl1 := ld_le ok (stn_lt ok (j + 1))
      have hl2 := ld_le ok (stn_lt ok (buQ q j))
      have hc1 := ok.2.2.2.2.1 (j + 1) (by omega)
      have hc2 := ok.2.2.2.2.1 (buQ q j) (by omega)
      have hp1 : ld q (stn q (j + 1)) * q 3 (buQ q j) ≤ 38556 * 3 := Nat.mul_le_mul hl1 hc2.2
      have hp2 : ld q (stn q (buQ q j)) * q 3 (j + 1) ≤ 38556 * 3 := Nat.mul_le_mul hl2 hc1.2
      refine aw_aload_n dX5_busiest_16 rfl ?_
      refine aw_iload_n dX5_busiest_17 rfl ?_
      refine aw_cVI dX5_busiest_18 oX5_loadOf vX5_loadOf rfl lX5_111 (kX5_loadOf hs1 ok (s := j + 1) (by omega)) rfl (hp_133 _) rfl rfl rfl (Nat.le_of_ble_eq_true rfl) (by decide) (Nat.le_of_ble_eq_true rfl) ?_
      rintro _ d2 ⟨f2, rfl⟩
      have hs2 : KS 0 d2 q := KS_W (by decide) hs1 f2
      refine aw_istore dX5_busiest_21 (by decide) rfl ?_
      refine aw_iload dX5_busiest_23 rfl ?_
      refine aw_aload_n dX5_busiest_25 rfl ?_
      refine aw_gf dX5_busiest_26 (hp_133 _) rfl fX5_18 (by decide) rfl ?_
      refine aw_gf dX5_busiest_29 (hp_0 _) rfl fX5_48 (by decide) rfl ?_
      refine aw_iload_n dX5_busiest_32 rfl ?_
      refine aw_ialdN dX5_busiest_33 (hp_3 _) rfl (buQ q j) (by first | rfl | (simp only [li_0, li_1, li_2, li_3, li_4, li_5, li_7, li_8, li_9, li_11, li_12, li_16, li_17, li_31, li_32, li_60, li_77, li_80, li_89, li_99, li_101, li_112, li_113, li_256, li_999, li_1023, nI_add, pk_mul])) (by omega) (by decide) ?_
      rw [show d2.1 3 (buQ q j) = nI (q 3 (buQ q j)) from hs2 3 (buQ q j) (by decide) (show buQ q j < 8 by omega)]
      refine aw_imul dX5_busiest_34 ?_
      refine aw_iload_n dX5_busiest_35 rfl ?_
      refine aw_aload_n dX5_busiest_36 rfl ?_
      refine aw_gf dX5_busiest_37 (hp_133 _) rfl fX5_18 (by decide) rfl ?_
      refine aw_gf dX5_busiest_40 (hp_0 _) rfl fX5_48 (by decide) rfl ?_
      refine aw_iload_n dX5_busiest_43 rfl ?_
      refine aw_ialdN dX5_busiest_44 (hp_3 _) rfl (j + 1) (by first | rfl | (simp only [li_0, li_1, li_2, li_3, li_4, li_5, li_7, li_8, li_9, li_11, li_12, li_16, li_17, li_31, li_32, li_60, li_77, li_80, li_89, li_99, li_101, li_112, li_113, li_256, li_999, li_1023, nI_add, pk_mul])) (by omega) (by decide) ?_
      rw [show d2.1 3 (j + 1) = nI (q 3 (j + 1)) from hs2 3 (j + 1) (by decide) (show j + 1 < 8 by omega)]
      refine aw_imul dX5_busiest_45 ?_
      rw [pk_mul, pk_mul]
      refine aw_icmp_le 54 dX5_busiest_46 (by decide) (fun c46 => ?_) (fun c46 => ?_)
      · refine aw_inc (c := 1) dX5_busiest_54 (by decide) rfl (by decide) rfl ?_
        refine aw_goto (tgt := 10) dX5_busiest_57 (by decide) ?_
        rw [le_nI rfl rfl (by omega) (by omega)] at c46
        have hb1 : buQ q (j + 1) = buQ q j := if_neg (by omega)
        exact aw_pick [0, 1, 2, 3] (ih hlt _ _ _ _ (fW_t f1 f2) (by rw [hb1]) (by rw [hb1]) (by rw [nI_1]))
      · refine aw_iload_n dX5_busiest_49 rfl ?_
        refine aw_istore_n dX5_busiest_50 (by decide) rfl ?_
        refine aw_iload dX5_busiest_51 rfl ?_
        refine aw_istore_n dX5_busiest_53 (by decide) rfl ?_
        refine aw_inc (c := 1) dX5_busiest_54 (by decide) rfl (by decide) rfl ?_
        refine aw_goto (tgt := 10) dX5_busiest_57 (by decide) ?_
        rw [le_nI rfl rfl (by omega) (by omega)] at c46
        have hb1 : buQ q (j + 1) = j + 1 := if_pos (by omega)
        exact aw_pick [0, 1, 2, 3] (ih hlt _ _ _ _ (fW_t f1 f2) (by rw [hb1]) (by rw [hb1]) (by rw [nI_1]))
  exact L10 0 (Nat.zero_le _) _ _ _ _ f0 rfl rfl rfl

theorem filF_0 {p f : Nat} {q : St} (h : ntQ q p (q 0 1) = 0) : filF p (f + 1) q = (0, q) := if_pos h
theorem filF_n {p f : Nat} {q : St} (h : ntQ q p (q 0 1) ≠ 0) (h2 : lowQ q (ntQ q p (q 0 1) - 1) 8 = 0) : filF p (f + 1) q = (refQ q (ntQ q p (q 0 1) - 1) 7, q) := by
  show (if _ then _ else if _ then _ else _) = _
  rw [if_neg h, if_pos h2]
theorem filF_s {p f : Nat} {q : St} (h : ntQ q p (q 0 1) ≠ 0) (h2 : lowQ q (ntQ q p (q 0 1) - 1) 8 ≠ 0) : filF p (f + 1) q = filF p f (up q 6 (ntQ q p (q 0 1) - 1) (lowQ q (ntQ q p (q 0 1) - 1) 8)) := by
  show (if _ then _ else if _ then _ else _) = _
  rw [if_neg h, if_neg h2]
theorem filF_z {p f : Nat} {q : St} (h : freQ q = 0) : filF p f q = (0, q) := by
  cases f with
  | zero => rfl
  | succ f => exact filF_0 (ntQ_0 p h _)
theorem QOK_clrP {q : St} (ok : QOK q) : QOK (clrP q) := by
  have := QOK_clrJ ok (q 0 1) (Nat.le_refl _)
  rw [clrJ_n ok] at this
  exact this
set_option maxHeartbeats 4000000 in
set_option maxRecDepth 100000 in
theorem kX5_fillBy {q : St} {d : Dt} (hs : KS 0 d q) (ok : QOK q) {p : Nat} (hp : p < 4) : CI mX5_fillBy 6 [.ref 133, .int (nI p)] d (fun x d' => fNW d d' ∧ x = nI (filF p 12 (clrP q)).1 ∧ ((filF p 12 (clrP q)).1 = 0 → KS 0 d' (filF p 12 (clrP q)).2 ∧ QOK (filF p 12 (clrP q)).2)) := by
  show AW mX5_fillBy 6 true (PIx (fun x d' => fNW d d' ∧ x = nI (filF p 12 (clrP q)).1 ∧ ((filF p 12 (clrP q)).1 = 0 → KS 0 d' (filF p 12 (clrP q)).2 ∧ QOK (filF p 12 (clrP q)).2)) nX) 0 0 0 [(0, .ref 133), (1, .int (nI p))] [] (HP d)
  have h12 := ok.2.1
  have hp12 := pow12 h12
  refine aw_aload_n dX5_fillBy_0 rfl ?_
  refine aw_gf dX5_fillBy_1 (hp_133 _) rfl fX5_18 (by decide) rfl ?_
  refine aw_cVv dX5_fillBy_4 oX4_takeAllOut vX4_takeAllOut rfl lX5_78 (kX4_takeAllOut hs ok) rfl (hp_0 _) rfl rfl rfl (Nat.le_of_ble_eq_true rfl) (by decide) (Nat.le_of_ble_eq_true rfl) ?_
  rintro d0 ⟨f0, k0⟩
  refine aw_iconst (v := 0) dX5_fillBy_7 (by decide) ?_
  refine aw_istore_n dX5_fillBy_8 (by decide) rfl ?_
  have L9 : ∀ c, c ≤ q 0 1 → ∀ (q1 : St) (d1 : Dt) (v2 : Int32), fNW d d1 → KS 0 d1 q1 → QOK q1 → q1 0 1 = q 0 1 → pcx (freQ q1) = q 0 1 - c → filF p (12 - c) q1 = filF p 12 (clrP q) → v2 = nI c → AW mX5_fillBy 6 true (PIx (fun x d' => fNW d d' ∧ x = nI (filF p 12 (clrP q)).1 ∧ ((filF p 12 (clrP q)).1 = 0 → KS 0 d' (filF p 12 (clrP q)).2 ∧ QOK (filF p 12 (clrP q)).2)) nX) 0 0 9 [(0, .ref 133), (1, .int (nI p)), (2, .int v2)] [] (HP d1) := by
    refine up_ind (fun c hj ih => ?_)
    rintro q1 d1 _ f1 ks1 ok1 h01 hpc hF rfl
    refine aw_iload_n dX5_fillBy_9 rfl ?_
    refine aw_aload_n dX5_fillBy_10 rfl ?_
    refine aw_gf dX5_fillBy_11 (hp_133 _) rfl fX5_18 (by decide) rfl ?_
    refine aw_gf dX5_fillBy_14 (hp_0 _) rfl fX5_81 (by decide) rfl ?_
    refine aw_icmp_ge 64 dX5_fillBy_17 (by decide) (fun c17 => ?_) (fun c17 => ?_)
    · have hge : q 0 1 ≤ c := (le_nI (by rw [show d1.1 0 1 = nI (q1 0 1) from ks1 0 1 (by decide) (by decide), h01]) rfl (by omega) (by omega)).mp c17
      have hj2 : c = q 0 1 := by omega
      subst hj2
      refine aw_iconst (v := 0) dX5_fillBy_64 (by decide) ?_
      rw [filF_z (show freQ q1 = 0 from pcx_0 (by have := freQ_lt q1; have := pow12 ok1.2.1; omega) (by omega))] at hF
      exact aw_endI dX5_fillBy_65 rfl ⟨f1, by rw [← hF]; rfl, by rw [← hF]; exact fun _ => ⟨ks1, ok1⟩⟩
    · have hlt : c < q 0 1 := Nat.lt_of_not_le (fun z => c17 ((le_nI (by rw [show d1.1 0 1 = nI (q1 0 1) from ks1 0 1 (by decide) (by decide), h01]) rfl (by omega) (by omega)).mpr z))
      have h01q : q1 0 1 = q 0 1 := h01
      have hfl := freQ_lt q1
      have hp1 := pow12 ok1.2.1
      have hfne : freQ q1 ≠ 0 := fun z => by rw [z] at hpc; have : pcx 0 = 0 := (by decide +kernel); omega
      have hn0 := ntQ_ne ok1 p hfne
      have hnle := ntQ_le q1 p (q1 0 1)
      have hbit := ntQ_bit _ hn0
      have hlow := lowQ_le q1 (ntQ q1 p (q1 0 1) - 1) 8 (Nat.le_refl _)
      have ht1 : ntQ q1 p (q1 0 1) - 1 < q1 0 1 := by omega
      skip
      refine aw_aload_n dX5_fillBy_20 rfl ?_
      refine aw_iload_n dX5_fillBy_21 rfl ?_
      refine aw_cVP dX5_fillBy_22 oX5_nextToFill vX5_nextToFill rfl lX5_84 (kX5_nextToFill ks1 ok1 hp) rfl (hp_133 _) rfl rfl rfl (Nat.le_of_ble_eq_true rfl) (by decide) (Nat.le_of_ble_eq_true rfl) ?_
      refine aw_istore_n dX5_fillBy_25 (by decide) rfl ?_
      refine aw_aload_n dX5_fillBy_26 rfl ?_
      refine aw_iload_n dX5_fillBy_27 rfl ?_
      refine aw_cVI dX5_fillBy_28 oX5_lowestFor vX5_lowestFor rfl lX5_88 (kX5_lowestFor ks1 ok1 ht1) rfl (hp_133 _) rfl rfl rfl (Nat.le_of_ble_eq_true rfl) (by decide) (Nat.le_of_ble_eq_true rfl) ?_
      rintro _ d2 ⟨f2, rfl⟩
      have ks2 : KS 0 d2 q1 := KS_W (by decide) ks1 f2
      refine aw_istore dX5_fillBy_31 (by decide) rfl ?_
      refine aw_iload dX5_fillBy_33 rfl ?_
      refine aw_iconst (v := (-1)) dX5_fillBy_35 (by decide) ?_
      refine aw_icmp_ne 47 dX5_fillBy_36 (by decide) (fun c36 => ?_) (fun c36 => ?_)
      · have hl0 : lowQ q1 (ntQ q1 p (q1 0 1) - 1) 8 ≠ 0 := fun z => c36 ((pv_m1g (by omega)).mpr z)
        obtain ⟨s8, hs8⟩ : ∃ s, lowQ q1 (ntQ q1 p (q1 0 1) - 1) 8 = s + 1 := ⟨lowQ q1 (ntQ q1 p (q1 0 1) - 1) 8 - 1, by omega⟩
        refine aw_aload_n dX5_fillBy_47 rfl ?_
        refine aw_gf dX5_fillBy_48 (hp_133 _) rfl fX5_18 (by decide) rfl ?_
        refine aw_gf dX5_fillBy_51 (hp_0 _) rfl fX5_22 (by decide) rfl ?_
        refine aw_iload_n dX5_fillBy_54 rfl ?_
        refine aw_iload dX5_fillBy_55 rfl ?_
        refine aw_iastN dX5_fillBy_57 hp_6 (ntQ q1 p (q1 0 1) - 1) rfl (by omega) (by decide)  ?_
        refine aw_inc (c := 1) dX5_fillBy_58 (by decide) rfl (by decide) rfl ?_
        refine aw_goto (tgt := 9) dX5_fillBy_61 (by decide) ?_
        rw [show 12 - c = (11 - c) + 1 by omega, filF_s hn0 hl0] at hF
        refine aw_pick [0, 1, 2] (ih hlt (up q1 6 (ntQ q1 p (q1 0 1) - 1) (lowQ q1 (ntQ q1 p (q1 0 1) - 1) 8)) _ _ (fNW_t f1 (fNW_t (fW_NW f2) (fN_NW (fN_dI (fN_r d2) (by decide) _)))) (KS_up ks2 (j := 6) (k := ntQ q1 p (q1 0 1) - 1) (v := lowQ q1 (ntQ q1 p (q1 0 1) - 1) 8) rfl rfl) (QOK_6 ok1 ht1 hlow) (by rw [up_01 q1 (by omega)]; exact h01) ?_ (by rw [show 12 - (c + 1) = 11 - c by omega]; exact hF) (nI_1 c))
        rw [hs8, freQ_up ok1]
        have := pcx_clr (a := freQ q1) (k := ntQ q1 p (q1 0 1) - 1) (by omega) hbit
        omega
      · refine aw_aload_n dX5_fillBy_39 rfl ?_
        refine aw_iload_n dX5_fillBy_40 rfl ?_
        refine aw_bipush (v := 7) dX5_fillBy_41 (by decide) ?_
        refine aw_cVI dX5_fillBy_43 oX5_refusal vX5_refusal rfl lX5_75 (kX5_refusal ks2 ok1 ht1 (s := 7) (by decide)) rfl (hp_133 _) rfl rfl rfl (Nat.le_of_ble_eq_true rfl) (by decide) (Nat.le_of_ble_eq_true rfl) ?_
        rintro _ d3 ⟨f3, rfl⟩
        have hl0 : lowQ q1 (ntQ q1 p (q1 0 1) - 1) 8 = 0 := (pv_m1g (by omega)).mp c36
        rw [show 12 - c = (11 - c) + 1 by omega, filF_n hn0 hl0] at hF
        exact aw_endI dX5_fillBy_46 rfl ⟨fNW_t f1 (fNW_t (fW_NW f2) (fW_NW f3)), by rw [← hF], by rw [← hF]; exact fun z => absurd z (lowQ_0 7 hl0 (by decide))⟩
  exact L9 0 (Nat.zero_le _) (clrP q) _ _ (fN_NW f0) k0 (QOK_clrP ok) rfl (by rw [freQ_clr ok, pcx_all _ h12]; rfl) rfl rfl
