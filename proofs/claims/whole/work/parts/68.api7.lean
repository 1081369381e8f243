set_option maxHeartbeats 4000000 in
set_option maxRecDepth 100000 in
theorem kX7_whyNot {y : Sy} {d : Dt} (hC : CC d y) (hE : ∀ x, CK mX7_checkElement exE x) : AO mX7_whyNot 16 [.ref 132] d [exE] (oWhyNot y) := by
  show AW mX7_whyNot 16 true (PIx (PO d (oWhyNot y)) (XO d [exE] (oWhyNot y))) 4 24 0 [(0, .ref 132)] [] (HP d)
  have hs := hC.1.1
  have ok := hC.1.2
  have h12 := ok.2.1
  have hw := hC.2.2.2.1.1
  have hw6 := hC.2.2.2.1.2
  refine aw_join (P := fun v => v = b2i (decide (y.2.2.2.1 ≠ 0))) 12 (fun v hv12 => ?_) (fun kJ12 => ?_)
  · subst hv12
    refine aw_ck dX7_whyNot_12 oX7_checkElement sX7_checkElement rfl lX7_148 (hE _) (Nat.le_of_ble_eq_true rfl) (by decide) (Nat.le_of_ble_eq_true rfl) (by decide) (by decide) (fun x12 => ?_) (fun x12 => ?_)
    · exact (by unfold oWhyNot; rw [if_pos (Classical.not_not.mp (b2d_f x12))]; exact ⟨fC_r d, hC, Nat.succ_ne_zero _, rfl⟩)
    refine aw_aload_n dX7_whyNot_15 rfl ?_
    refine aw_gf dX7_whyNot_16 (hp_132 _) rfl fX7_191 (by decide) rfl ?_
    exact aw_endI dX7_whyNot_19 rfl (by unfold oWhyNot; rw [if_neg (b2d_t x12)]; exact PO_v (fC_r d) hC hw)
  · refine aw_aload_n dX7_whyNot_0 rfl ?_
    refine aw_gf dX7_whyNot_1 (hp_132 _) rfl fX7_191 (by decide) rfl ?_
    refine aw_if_eq 11 dX7_whyNot_4 (by decide) (fun c4 => ?_) (fun c4 => ?_)
    · refine aw_iconst (v := 0) dX7_whyNot_11 (by decide) ?_
      exact kJ12 _ (by rw [hw] at c4; exact (b2i_f (fun z => z (nI_inj (by omega) (by omega) (c4 : nI y.2.2.2.1 = nI 0)))).symm)
    · refine aw_iconst (v := 1) dX7_whyNot_7 (by decide) ?_
      refine aw_goto (tgt := 12) dX7_whyNot_8 (by decide) ?_
      exact kJ12 _ (by rw [hw] at c4; exact (b2i_t (fun z => c4 (by rw [z]; rfl))).symm)

set_option maxHeartbeats 4000000 in
set_option maxRecDepth 100000 in
theorem kX7_sequence {y : Sy} {d : Dt} (hC : CC d y) (hE : ∀ x, CK mX7_checkElement exE x) {s k : Int32} : AO mX7_sequence 16 [.ref 132, .int s, .int k] d [exI, exE] (oSequence y s k) := by
  show AW mX7_sequence 16 true (PIx (PO d (oSequence y s k)) (XO d [exI, exE] (oSequence y s k))) 4 24 0 [(0, .ref 132), (1, .int s), (2, .int k)] [] (HP d)
  have hs := hC.1.1
  have ok := hC.1.2
  have h12 := ok.2.1
  refine aw_iload_n dX7_sequence_0 rfl ?_
  refine aw_cSP dX7_sequence_1 oX7_isStation sX7_isStation rfl lX7_82 kX7_isStation rfl rfl (Nat.le_of_ble_eq_true rfl) (by decide) (Nat.le_of_ble_eq_true rfl) ?_
  refine aw_ck dX7_sequence_4 oX7_checkIndex sX7_checkIndex rfl lX7_64 kX7_checkIndex (Nat.le_of_ble_eq_true rfl) (by decide) (Nat.le_of_ble_eq_true rfl) (by decide) (by decide) (fun x4 => ?_) (fun x4 => ?_)
  · exact (by unfold oSequence; rw [if_neg (b2d_f x4)]; exact ⟨fC_r d, hC, Nat.succ_ne_zero _, rfl⟩)
  have hg := b2d_t x4
  obtain ⟨n, rfl, hn1, hn2⟩ := in_nI (a := 0) (b := 7) rfl rfl (by decide) (by decide) (hg)
  refine aw_aload_n dX7_sequence_7 rfl ?_
  refine aw_gf dX7_sequence_8 (hp_132 _) rfl fX7_24 (by decide) rfl ?_
  refine aw_iload_n dX7_sequence_11 rfl ?_
  refine aw_cVR dX7_sequence_12 oX5_workIn vX5_workIn rfl lX7_203 (kX5_workIn hs ok (s := n) (by omega)) rfl (hp_133 _) rfl rfl rfl (Nat.le_of_ble_eq_true rfl) (by decide) (Nat.le_of_ble_eq_true rfl) ?_
  rintro _ d1 ⟨rfl, g1, hW⟩
  have hL12 := ordL_len y.1 (stn y.1 n)
  refine aw_astore_n dX7_sequence_15 (by decide) rfl ?_
  refine aw_iload_n dX7_sequence_16 rfl ?_
  refine aw_iconst (v := 0) dX7_sequence_17 (by decide) ?_
  refine aw_aload_n dX7_sequence_18 rfl ?_
  refine aw_gf dX7_sequence_19 (hp_134 _) rfl fX7_218 (by decide) rfl ?_
  rw [hW.1.1]
  refine aw_iconst (v := 1) dX7_sequence_22 (by decide) ?_
  refine aw_isub dX7_sequence_23 ?_
  refine aw_cSP dX7_sequence_24 oX7_isIn sX7_isIn rfl lX7_49 kX7_isIn rfl rfl (Nat.le_of_ble_eq_true rfl) (by decide) (Nat.le_of_ble_eq_true rfl) ?_
  refine aw_ck dX7_sequence_27 oX7_checkElement sX7_checkElement rfl lX7_148 (hE _) (Nat.le_of_ble_eq_true rfl) (by decide) (Nat.le_of_ble_eq_true rfl) (by decide) (by decide) (fun x27 => ?_) (fun x27 => ?_)
  · exact (by unfold oSequence; rw [if_pos hg, ivn (by omega), if_neg (b2d_f x27)]; exact ⟨fW_C g1, CC_W hC g1, Nat.succ_ne_zero _, rfl⟩)
  have hg2 := b2d_t x27
  obtain ⟨j, rfl, hj⟩ : ∃ j, k = nI j ∧ j < (ordL y.1 (stn y.1 n)).length := by
    by_cases h0 : (ordL y.1 (stn y.1 n)).length = 0
    · rw [h0] at hg2; exact absurd (Int32.le_trans hg2.1 hg2.2) (by decide)
    · obtain ⟨j, h1, -, h2⟩ := in_nI (a := 0) (b := (ordL y.1 (stn y.1 n)).length - 1) rfl (tv_s (by omega)) (by omega) (by omega) hg2
      exact ⟨j, h1, by omega⟩
  refine aw_aload_n dX7_sequence_30 rfl ?_
  refine aw_gf dX7_sequence_31 (hp_134 _) rfl fX7_221 (by decide) rfl ?_
  refine aw_iload_n dX7_sequence_34 rfl ?_
  refine aw_ialdN dX7_sequence_35 (hp_135 _) rfl (j) (by first | rfl | (simp only [li_0, li_1, li_2, li_3, li_4, li_5, li_7, li_8, li_9, li_11, li_12, li_16, li_17, li_31, li_32, li_60, li_77, li_80, li_89, li_99, li_101, li_112, li_113, li_256, li_999, li_1023, nI_add, pk_mul])) (by omega) (by decide) ?_
  exact aw_endI dX7_sequence_36 rfl (by unfold oSequence; rw [if_pos hg, ivn (by omega), if_pos hg2, ivn (by omega)]; exact PO_v (fW_C g1) (CC_W hC g1) (hW.1.2 j hj))

set_option maxHeartbeats 4000000 in
set_option maxRecDepth 100000 in
theorem kX7_least {y : Sy} {d : Dt} (hC : CC d y) (hE : ∀ x, CK mX7_checkElement exE x) : AO mX7_least 16 [.ref 132] d [exS, exE] (oLeast y) := by
  show AW mX7_least 16 true (PIx (PO d (oLeast y)) (XO d [exS, exE] (oLeast y))) 4 24 0 [(0, .ref 132)] [] (HP d)
  have hs := hC.1.1
  have ok := hC.1.2
  have h12 := ok.2.1
  have hl9 := (lstQ_in y.1 9 (Nat.le_refl _)).1
  refine aw_join (P := fun v => v = b2i (decide (y.1 0 1 ≤ 8))) 17 (fun v hv17 => ?_) (fun kJ17 => ?_)
  · subst hv17
    refine aw_ck dX7_least_17 oX7_checkState sX7_checkState rfl lX7_96 kX7_checkState (Nat.le_of_ble_eq_true rfl) (by decide) (Nat.le_of_ble_eq_true rfl) (by decide) (by decide) (fun x17 => ?_) (fun x17 => ?_)
    · exact (by unfold oLeast; rw [if_pos (by have := b2d_f x17; omega)]; exact ⟨fC_r d, hC, Nat.succ_ne_zero _, rfl⟩)
    have h8 := b2d_t x17
    refine aw_aload_n dX7_least_20 rfl ?_
    refine aw_gf dX7_least_21 (hp_132 _) rfl fX7_31 (by decide) rfl ?_
    refine aw_cVI dX7_least_24 oX3_findLeast vX3_findLeast rfl lX7_280 (kX3_findLeast hs ok h8) rfl (hp_138 _) rfl rfl rfl (Nat.le_of_ble_eq_true rfl) (by decide) (Nat.le_of_ble_eq_true rfl) ?_
    rintro _ d1 ⟨g1, rfl, -, -⟩
    refine aw_istore_n dX7_least_27 (by decide) rfl ?_
    refine aw_join (P := fun v => v = b2i (decide (lstQ y.1 9 ≠ 0))) 37 (fun v hv37 => ?_) (fun kJ37 => ?_)
    · subst hv37
      refine aw_ck dX7_least_37 oX7_checkElement sX7_checkElement rfl lX7_148 (hE _) (Nat.le_of_ble_eq_true rfl) (by decide) (Nat.le_of_ble_eq_true rfl) (by decide) (by decide) (fun x37 => ?_) (fun x37 => ?_)
      · exact (by unfold oLeast; rw [if_neg (by omega), if_pos (Classical.not_not.mp (b2d_f x37))]; exact ⟨fP_C g1, CC_P hC g1, Nat.succ_ne_zero _, rfl⟩)
      refine aw_iload_n dX7_least_40 rfl ?_
      exact aw_endI dX7_least_41 rfl (by unfold oLeast; rw [if_neg (by omega), if_neg (b2d_t x37)]; exact PO_v (fP_C g1) (CC_P hC g1) (if_neg (b2d_t x37)))
    · refine aw_iload_n dX7_least_28 rfl ?_
      refine aw_if_lt 36 dX7_least_29 (by decide) (fun c29 => ?_) (fun c29 => ?_)
      · refine aw_iconst (v := 0) dX7_least_36 (by decide) ?_
        exact kJ37 _ (b2i_f (fun z => z ((lst_lt0 hl9).mp c29))).symm
      · refine aw_iconst (v := 1) dX7_least_32 (by decide) ?_
        refine aw_goto (tgt := 37) dX7_least_33 (by decide) ?_
        exact kJ37 _ (b2i_t (fun z => c29 ((lst_lt0 hl9).mpr z))).symm
  · refine aw_aload_n dX7_least_0 rfl ?_
    refine aw_gf dX7_least_1 (hp_132 _) rfl fX7_12 (by decide) rfl ?_
    refine aw_gf dX7_least_4 (hp_0 _) rfl fX7_93 (by decide) rfl ?_
    refine aw_bipush (v := 8) dX7_least_7 (by decide) ?_
    refine aw_icmp_gt 16 dX7_least_9 (by decide) (fun c9 => ?_) (fun c9 => ?_)
    · refine aw_iconst (v := 0) dX7_least_16 (by decide) ?_
      exact kJ17 _ (by rw [show d.1 0 (1) = nI (y.1 0 (1)) from hs 0 (1) (by decide) (show (1) < 2 by omega)] at c9; exact (b2i_f (fun z => by have := (lt_nI (show (8 : Int32) = nI 8 from rfl) rfl (by omega) (by omega)).mp c9; omega)).symm)
    · refine aw_iconst (v := 1) dX7_least_12 (by decide) ?_
      refine aw_goto (tgt := 17) dX7_least_13 (by decide) ?_
      exact kJ17 _ (by rw [show d.1 0 (1) = nI (y.1 0 (1)) from hs 0 (1) (by decide) (show (1) < 2 by omega)] at c9; exact (b2i_t (by have := mt (lt_nI (show (8 : Int32) = nI 8 from rfl) (rfl : nI (y.1 0 1) = _) (by omega) (by omega)).mpr c9; omega)).symm)

set_option maxHeartbeats 4000000 in
set_option maxRecDepth 100000 in
theorem kX7_drop {y : Sy} {d : Dt} (hC : CC d y) (hE : ∀ x, CK mX7_checkElement exE x) {a b : Int32} : AO mX7_drop 16 [.ref 132, .int a, .int b] d [exI, exE] (oDrop y a b) := by
  show AW mX7_drop 16 true (PIx (PO d (oDrop y a b)) (XO d [exI, exE] (oDrop y a b))) 4 24 0 [(0, .ref 132), (1, .int a), (2, .int b)] [] (HP d)
  have hs := hC.1.1
  have ok := hC.1.2
  have h12 := ok.2.1
  refine aw_join (P := fun v => v = b2i (decide (tkI y.1 a ∧ tkI y.1 b))) 27 (fun v hv27 => ?_) (fun kJ27 => ?_)
  · subst hv27
    refine aw_ck dX7_drop_27 oX7_checkIndex sX7_checkIndex rfl lX7_64 kX7_checkIndex (Nat.le_of_ble_eq_true rfl) (by decide) (Nat.le_of_ble_eq_true rfl) (by decide) (by decide) (fun x27 => ?_) (fun x27 => ?_)
    · exact (by unfold oDrop; rw [if_neg (b2d_f x27)]; exact ⟨fC_r d, hC, Nat.succ_ne_zero _, rfl⟩)
    have hg := b2d_t x27
    obtain ⟨k, rfl, hk⟩ := tk_nI h12 (hg.1)
    obtain ⟨n, rfl, hn⟩ := tk_nI h12 (hg.2)
    have hpk : pk y.1 k n ≤ 2 := by unfold pk; (repeat' split) <;> omega
    refine aw_join (P := fun v => v = nI (if lnk y.1 k n = true then 1 else 0)) 59 (fun v hv59 => ?_) (fun kJ59 => ?_)
    · subst hv59
      refine aw_istore_n dX7_drop_59 (by decide) rfl ?_
      refine aw_join (P := fun v => v = nI (if pk y.1 k n ≠ 0 then 2 else 0)) 77 (fun v hv77 => ?_) (fun kJ77 => ?_)
      · subst hv77
        refine aw_istore dX7_drop_77 (by decide) rfl ?_
        refine aw_join (P := fun v => v = b2i (decide (¬ (lnk y.1 k n = false ∧ pk y.1 k n = 0)))) 91 (fun v hv91 => ?_) (fun kJ91 => ?_)
        · subst hv91
          refine aw_ck dX7_drop_91 oX7_checkElement sX7_checkElement rfl lX7_148 (hE _) (Nat.le_of_ble_eq_true rfl) (by decide) (Nat.le_of_ble_eq_true rfl) (by decide) (by decide) (fun x91 => ?_) (fun x91 => ?_)
          · exact (by unfold oDrop; rw [if_pos hg, ivn (by omega), ivn (by omega), if_pos (Classical.not_not.mp (b2d_f x91))]; exact ⟨fC_r d, hC, Nat.succ_ne_zero _, rfl⟩)
          have hno := b2d_t x91
          have hne : k ≠ n := fun z => hno (by subst z; exact ok_same ok hk)
          obtain ⟨ok0, okD⟩ := QOK_drq ok hk hn hne
          refine aw_aload_n dX7_drop_94 rfl ?_
          refine aw_cVv dX7_drop_95 oX7_remember vX7_remember rfl lX7_57 (kX7_remember hC) rfl (hp_132 _) rfl rfl rfl (Nat.le_of_ble_eq_true rfl) (by decide) (Nat.le_of_ble_eq_true rfl) ?_
          rintro d1 ⟨f1, hC1⟩
          have hs1 : KS 0 d1 y.1 := hC1.1.1
          refine aw_aload_n dX7_drop_98 rfl ?_
          refine aw_gf dX7_drop_99 (hp_132 _) rfl fX7_12 (by decide) rfl ?_
          refine aw_iload_n dX7_drop_102 rfl ?_
          refine aw_iload_n dX7_drop_103 rfl ?_
          refine aw_cVv dX7_drop_104 oX4_unlink vX4_unlink rfl lX7_151 (kX4_unlink (q := y.1) hs1 ok hk hn hne) rfl (hp_0 _) rfl rfl rfl (Nat.le_of_ble_eq_true rfl) (by decide) (Nat.le_of_ble_eq_true rfl) ?_
          rintro d2 ⟨g2, hs2⟩
          refine aw_aload_n dX7_drop_107 rfl ?_
          refine aw_gf dX7_drop_108 (hp_132 _) rfl fX7_12 (by decide) rfl ?_
          refine aw_iload_n dX7_drop_111 rfl ?_
          refine aw_iload_n dX7_drop_112 rfl ?_
          refine aw_cVv dX7_drop_113 oX4_unpair vX4_unpair rfl lX7_154 (kX4_unpair (q := clq (up (up y.1 7 n (clr (y.1 7 n) k)) 7 k (clr (y.1 7 k) n))) hs2 ok0 hk hn hne) rfl (hp_0 _) rfl rfl rfl (Nat.le_of_ble_eq_true rfl) (by decide) (Nat.le_of_ble_eq_true rfl) ?_
          rintro d3 ⟨g3, hs3⟩
          refine aw_iload_n dX7_drop_116 rfl ?_
          refine aw_iload dX7_drop_117 rfl ?_
          refine aw_iadd dX7_drop_119 ?_
          rw [nI_add]
          exact aw_endI dX7_drop_120 rfl (by unfold oDrop; rw [if_pos hg, ivn (by omega), ivn (by omega), if_neg hno]; exact PO_ch hC1 f1 (fN_NW (fN_t g2 g3)) hs3 okD rfl)
        · refine aw_iload_n dX7_drop_79 rfl ?_
          refine aw_iload dX7_drop_80 rfl ?_
          refine aw_iadd dX7_drop_82 ?_
          rw [nI_add]
          refine aw_if_le 90 dX7_drop_83 (by decide) (fun c83 => ?_) (fun c83 => ?_)
          · refine aw_iconst (v := 0) dX7_drop_90 (by decide) ?_
            exact kJ91 _ (by have h3 : (if lnk y.1 k n = true then 1 else 0) + (if pk y.1 k n ≠ 0 then 2 else 0) ≤ 3 := (by split <;> split <;> omega); have h4 := (le_nI rfl (show (0 : Int32) = nI 0 from rfl) (by omega) (by omega)).mp c83; exact (b2i_f (fun z => z (dr_0.mp (by omega)))).symm)
          · refine aw_iconst (v := 1) dX7_drop_86 (by decide) ?_
            refine aw_goto (tgt := 91) dX7_drop_87 (by decide) ?_
            exact kJ91 _ (by have h3 : (if lnk y.1 k n = true then 1 else 0) + (if pk y.1 k n ≠ 0 then 2 else 0) ≤ 3 := (by split <;> split <;> omega); exact (b2i_t (fun z => c83 (by rw [dr_0.mpr z]; decide))).symm)
      · refine aw_aload_n dX7_drop_60 rfl ?_
        refine aw_gf dX7_drop_61 (hp_132 _) rfl fX7_12 (by decide) rfl ?_
        refine aw_iload_n dX7_drop_64 rfl ?_
        refine aw_iload_n dX7_drop_65 rfl ?_
        refine aw_cVP dX7_drop_66 oX4_pairKind vX4_pairKind rfl lX7_140 (kX4_pairKind hs ok (a := k) (b := n) (by omega) (by omega)) rfl (hp_0 _) rfl rfl rfl (Nat.le_of_ble_eq_true rfl) (by decide) (Nat.le_of_ble_eq_true rfl) ?_
        refine aw_if_eq 76 dX7_drop_69 (by decide) (fun c69 => ?_) (fun c69 => ?_)
        · refine aw_iconst (v := 0) dX7_drop_76 (by decide) ?_
          exact kJ77 _ (by rw [if_neg (fun z => z (nI_inj (by omega) (by omega) (c69 : nI (pk y.1 k n) = nI 0)))]; rfl)
        · refine aw_iconst (v := 2) dX7_drop_72 (by decide) ?_
          refine aw_goto (tgt := 77) dX7_drop_73 (by decide) ?_
          exact kJ77 _ (by rw [if_pos (fun z => c69 (by rw [z]; rfl))]; rfl)
    · refine aw_aload_n dX7_drop_30 rfl ?_
      refine aw_gf dX7_drop_31 (hp_132 _) rfl fX7_12 (by decide) rfl ?_
      refine aw_iload_n dX7_drop_34 rfl ?_
      refine aw_iload_n dX7_drop_35 rfl ?_
      refine aw_cVP dX7_drop_36 oX4_isDirectlyBefore vX4_isDirectlyBefore rfl lX7_118 (kX4_isDirectlyBefore hs ok (a := k) (b := n) (by omega) (by omega)) rfl (hp_0 _) rfl rfl rfl (Nat.le_of_ble_eq_true rfl) (by decide) (Nat.le_of_ble_eq_true rfl) ?_
      refine aw_if_ne 54 dX7_drop_39 (by decide) (fun c39 => ?_) (fun c39 => ?_)
      · refine aw_iconst (v := 1) dX7_drop_54 (by decide) ?_
        refine aw_goto (tgt := 59) dX7_drop_55 (by decide) ?_
        exact kJ59 _ (by rw [if_pos (by unfold lnk; rw [b2i_ne.mp c39]; rfl)]; rfl)
      · refine aw_aload_n dX7_drop_42 rfl ?_
        refine aw_gf dX7_drop_43 (hp_132 _) rfl fX7_12 (by decide) rfl ?_
        refine aw_iload_n dX7_drop_46 rfl ?_
        refine aw_iload_n dX7_drop_47 rfl ?_
        refine aw_cVP dX7_drop_48 oX4_isDirectlyBefore vX4_isDirectlyBefore rfl lX7_118 (kX4_isDirectlyBefore hs ok (a := n) (b := k) (by omega) (by omega)) rfl (hp_0 _) rfl rfl rfl (Nat.le_of_ble_eq_true rfl) (by decide) (Nat.le_of_ble_eq_true rfl) ?_
        refine aw_if_eq 58 dX7_drop_51 (by decide) (fun c51 => ?_) (fun c51 => ?_)
        · refine aw_iconst (v := 0) dX7_drop_58 (by decide) ?_
          exact kJ59 _ (by rw [if_neg (by unfold lnk; rw [b2i_eq.mp c51, show (y.1 7 n).testBit k = false by cases hh : (y.1 7 n).testBit k with | true => rw [hh] at c39; exact absurd c39 (by decide) | false => rfl]; decide)]; rfl)
        · refine aw_iconst (v := 1) dX7_drop_54 (by decide) ?_
          refine aw_goto (tgt := 59) dX7_drop_55 (by decide) ?_
          exact kJ59 _ (by rw [if_pos (by unfold lnk; rw [b2i_ne.mp c51, Bool.or_true])]; rfl)
  · refine aw_aload_n dX7_drop_0 rfl ?_
    refine aw_gf dX7_drop_1 (hp_132 _) rfl fX7_12 (by decide) rfl ?_
    refine aw_iload_n dX7_drop_4 rfl ?_
    refine aw_cVP dX7_drop_5 oX4_hasTask vX4_hasTask rfl lX7_103 (kX4_hasT hs) rfl (hp_0 _) rfl rfl rfl (Nat.le_of_ble_eq_true rfl) (by decide) (Nat.le_of_ble_eq_true rfl) ?_
    refine aw_if_eq 26 dX7_drop_8 (by decide) (fun c8 => ?_) (fun c8 => ?_)
    · refine aw_iconst (v := 0) dX7_drop_26 (by decide) ?_
      exact kJ27 _ (b2i_f (fun z => b2d_f c8 z.1)).symm
    · refine aw_aload_n dX7_drop_11 rfl ?_
      refine aw_gf dX7_drop_12 (hp_132 _) rfl fX7_12 (by decide) rfl ?_
      refine aw_iload_n dX7_drop_15 rfl ?_
      refine aw_cVP dX7_drop_16 oX4_hasTask vX4_hasTask rfl lX7_103 (kX4_hasT hs) rfl (hp_0 _) rfl rfl rfl (Nat.le_of_ble_eq_true rfl) (by decide) (Nat.le_of_ble_eq_true rfl) ?_
      refine aw_if_eq 26 dX7_drop_19 (by decide) (fun c19 => ?_) (fun c19 => ?_)
      · refine aw_iconst (v := 0) dX7_drop_26 (by decide) ?_
        exact kJ27 _ (b2i_f (fun z => b2d_f c19 z.2)).symm
      · refine aw_iconst (v := 1) dX7_drop_22 (by decide) ?_
        refine aw_goto (tgt := 27) dX7_drop_23 (by decide) ?_
        exact kJ27 _ (b2i_t ⟨b2d_t c8, b2d_t c19⟩).symm
