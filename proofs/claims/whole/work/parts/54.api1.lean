set_option maxHeartbeats 4000000 in
set_option maxRecDepth 100000 in
theorem kX7_setModels {y : Sy} {d : Dt} (hC : CC d y) {c : Int32} : AO mX7_setModels 16 [.ref 132, .int c] d [exA] (oSetModels y c) := by
  show AW mX7_setModels 16 true (PIx (PO d (oSetModels y c)) (XO d [exA] (oSetModels y c))) 4 24 0 [(0, .ref 132), (1, .int c)] [] (HP d)
  have hs := hC.1.1
  have ok := hC.1.2
  have h12 := ok.2.1
  refine aw_iload_n dX7_setModels_0 rfl ?_
  refine aw_iconst (v := 1) dX7_setModels_1 (by decide) ?_
  refine aw_iconst (v := 3) dX7_setModels_2 (by decide) ?_
  refine aw_cSP dX7_setModels_3 oX7_isIn sX7_isIn rfl lX7_49 kX7_isIn rfl rfl (Nat.le_of_ble_eq_true rfl) (by decide) (Nat.le_of_ble_eq_true rfl) ?_
  refine aw_ck dX7_setModels_6 oX7_checkArgument sX7_checkArgument rfl lX7_53 kX7_checkArgument (Nat.le_of_ble_eq_true rfl) (by decide) (Nat.le_of_ble_eq_true rfl) (by decide) (by decide) (fun x6 => ?_) (fun x6 => ?_)
  · exact (by unfold oSetModels; rw [if_neg (b2d_f x6)]; exact ⟨fC_r d, hC, Nat.succ_ne_zero _, rfl⟩)
  have hg := b2d_t x6
  obtain ⟨n, rfl, hn1, hn2⟩ := in_nI (a := 1) (b := 3) rfl rfl (by decide) (by decide) (b2d_t x6)
  refine aw_aload_n dX7_setModels_9 rfl ?_
  refine aw_cVv dX7_setModels_10 oX7_remember vX7_remember rfl lX7_57 (kX7_remember hC) rfl (hp_132 _) rfl rfl rfl (Nat.le_of_ble_eq_true rfl) (by decide) (Nat.le_of_ble_eq_true rfl) ?_
  rintro d1 ⟨f1, hC1⟩
  have hs1 : KS 0 d1 y.1 := hC1.1.1
  refine aw_aload_n dX7_setModels_13 rfl ?_
  refine aw_gf dX7_setModels_14 (hp_132 _) rfl fX7_12 (by decide) rfl ?_
  refine aw_gf dX7_setModels_17 (hp_0 _) rfl fX7_60 (by decide) rfl ?_
  rw [show d1.1 0 (0) = nI (y.1 0 (0)) from hs1 0 (0) (by decide) (show (0) < 2 by omega)]
  refine aw_istore_n dX7_setModels_20 (by decide) rfl ?_
  refine aw_aload_n dX7_setModels_21 rfl ?_
  refine aw_gf dX7_setModels_22 (hp_132 _) rfl fX7_12 (by decide) rfl ?_
  refine aw_iload_n dX7_setModels_25 rfl ?_
  refine aw_putI (ci := 4) (j := 0) .int dX7_setModels_26 fX7_60 rfl (by decide) rfl tyX4 tyX4_ok nmX4 rfl rfl rfl (hp_0 _) (Nat.le_of_ble_eq_true rfl) rfl ?_
  refine aw_iload_n dX7_setModels_29 rfl ?_
  exact aw_endI dX7_setModels_30 rfl (by unfold oSetModels; rw [if_pos hg, ivn (by omega)]; exact PO_ch hC1 f1 (fN_NW (fN_dI (fN_r d1) (by decide) _)) (KS_up hs1 (j := 0) (k := 0) (v := n) rfl rfl) (QOK_up ok (by decide) (by omega) ⟨fun _ => ⟨hn1, hn2⟩, fun z => absurd z (by decide), fun z => absurd z (by decide), fun z => absurd z (by decide), fun z => absurd z (by decide), fun z => absurd z (by decide), fun z => absurd z (by decide), fun z => absurd z (by decide)⟩) rfl)

set_option maxHeartbeats 4000000 in
set_option maxRecDepth 100000 in
theorem kX7_setDemand {y : Sy} {d : Dt} (hC : CC d y) {m c : Int32} : AO mX7_setDemand 16 [.ref 132, .int m, .int c] d [exI, exA] (oSetDemand y m c) := by
  show AW mX7_setDemand 16 true (PIx (PO d (oSetDemand y m c)) (XO d [exI, exA] (oSetDemand y m c))) 4 24 0 [(0, .ref 132), (1, .int m), (2, .int c)] [] (HP d)
  have hs := hC.1.1
  have ok := hC.1.2
  have h12 := ok.2.1
  refine aw_iload_n dX7_setDemand_0 rfl ?_
  refine aw_iconst (v := 0) dX7_setDemand_1 (by decide) ?_
  refine aw_iconst (v := 2) dX7_setDemand_2 (by decide) ?_
  refine aw_cSP dX7_setDemand_3 oX7_isIn sX7_isIn rfl lX7_49 kX7_isIn rfl rfl (Nat.le_of_ble_eq_true rfl) (by decide) (Nat.le_of_ble_eq_true rfl) ?_
  refine aw_ck dX7_setDemand_6 oX7_checkIndex sX7_checkIndex rfl lX7_64 kX7_checkIndex (Nat.le_of_ble_eq_true rfl) (by decide) (Nat.le_of_ble_eq_true rfl) (by decide) (by decide) (fun x6 => ?_) (fun x6 => ?_)
  · exact (by unfold oSetDemand; rw [if_neg (b2d_f x6)]; exact ⟨fC_r d, hC, Nat.succ_ne_zero _, rfl⟩)
  refine aw_iload_n dX7_setDemand_9 rfl ?_
  refine aw_iconst (v := 1) dX7_setDemand_10 (by decide) ?_
  refine aw_bipush (v := 9) dX7_setDemand_11 (by decide) ?_
  refine aw_cSP dX7_setDemand_13 oX7_isIn sX7_isIn rfl lX7_49 kX7_isIn rfl rfl (Nat.le_of_ble_eq_true rfl) (by decide) (Nat.le_of_ble_eq_true rfl) ?_
  refine aw_ck dX7_setDemand_16 oX7_checkArgument sX7_checkArgument rfl lX7_53 kX7_checkArgument (Nat.le_of_ble_eq_true rfl) (by decide) (Nat.le_of_ble_eq_true rfl) (by decide) (by decide) (fun x16 => ?_) (fun x16 => ?_)
  · exact (by unfold oSetDemand; rw [if_pos (b2d_t x6), if_neg (b2d_f x16)]; exact ⟨fC_r d, hC, Nat.succ_ne_zero _, rfl⟩)
  have hg1 := b2d_t x6
  have hg2 := b2d_t x16
  obtain ⟨k, rfl, hk1, hk2⟩ := in_nI (a := 0) (b := 2) rfl rfl (by decide) (by decide) (b2d_t x6)
  obtain ⟨n, rfl, hn1, hn2⟩ := in_nI (a := 1) (b := 9) rfl rfl (by decide) (by decide) (b2d_t x16)
  refine aw_aload_n dX7_setDemand_19 rfl ?_
  refine aw_cVv dX7_setDemand_20 oX7_remember vX7_remember rfl lX7_57 (kX7_remember hC) rfl (hp_132 _) rfl rfl rfl (Nat.le_of_ble_eq_true rfl) (by decide) (Nat.le_of_ble_eq_true rfl) ?_
  rintro d1 ⟨f1, hC1⟩
  have hs1 : KS 0 d1 y.1 := hC1.1.1
  refine aw_aload_n dX7_setDemand_23 rfl ?_
  refine aw_gf dX7_setDemand_24 (hp_132 _) rfl fX7_12 (by decide) rfl ?_
  refine aw_gf dX7_setDemand_27 (hp_0 _) rfl fX7_67 (by decide) rfl ?_
  refine aw_iload_n dX7_setDemand_30 rfl ?_
  refine aw_ialdN dX7_setDemand_31 (hp_1 _) rfl (k) (by first | rfl | (simp only [li_0, li_1, li_2, li_3, li_4, li_5, li_7, li_8, li_9, li_11, li_12, li_16, li_17, li_31, li_32, li_60, li_77, li_80, li_89, li_99, li_101, li_112, li_113, li_256, li_999, li_1023, nI_add, pk_mul])) (by omega) (by decide) ?_
  rw [show d1.1 1 (k) = nI (y.1 1 (k)) from hs1 1 (k) (by decide) (show (k) < 3 by omega)]
  refine aw_istore_n dX7_setDemand_32 (by decide) rfl ?_
  refine aw_aload_n dX7_setDemand_33 rfl ?_
  refine aw_gf dX7_setDemand_34 (hp_132 _) rfl fX7_12 (by decide) rfl ?_
  refine aw_gf dX7_setDemand_37 (hp_0 _) rfl fX7_67 (by decide) rfl ?_
  refine aw_iload_n dX7_setDemand_40 rfl ?_
  refine aw_iload_n dX7_setDemand_41 rfl ?_
  refine aw_iastN dX7_setDemand_42 hp_1 (k) (by first | rfl | (simp only [li_0, li_1, li_2, li_3, li_4, li_5, li_7, li_8, li_9, li_11, li_12, li_16, li_17, li_31, li_32, li_60, li_77, li_80, li_89, li_99, li_101, li_112, li_113, li_256, li_999, li_1023, nI_add, pk_mul])) (by omega) (by decide)  ?_
  refine aw_iload_n dX7_setDemand_43 rfl ?_
  exact aw_endI dX7_setDemand_44 rfl (by unfold oSetDemand; rw [if_pos hg1, if_pos hg2, ivn (by omega), ivn (by omega)]; exact PO_ch hC1 f1 (fN_NW (fN_dI (fN_r d1) (by decide) _)) (KS_up hs1 (j := 1) (k := k) (v := n) rfl rfl) (QOK_up ok (by decide) (by omega) ⟨fun z => absurd z (by decide), fun _ => ⟨hn1, hn2⟩, fun z => absurd z (by decide), fun z => absurd z (by decide), fun z => absurd z (by decide), fun z => absurd z (by decide), fun z => absurd z (by decide), fun z => absurd z (by decide)⟩) rfl)

set_option maxHeartbeats 4000000 in
set_option maxRecDepth 100000 in
theorem kX7_setCopies {y : Sy} {d : Dt} (hC : CC d y) {m c : Int32} : AO mX7_setCopies 16 [.ref 132, .int m, .int c] d [exI, exA] (oSetCopies y m c) := by
  show AW mX7_setCopies 16 true (PIx (PO d (oSetCopies y m c)) (XO d [exI, exA] (oSetCopies y m c))) 4 24 0 [(0, .ref 132), (1, .int m), (2, .int c)] [] (HP d)
  have hs := hC.1.1
  have ok := hC.1.2
  have h12 := ok.2.1
  refine aw_iload_n dX7_setCopies_0 rfl ?_
  refine aw_cSP dX7_setCopies_1 oX7_isStation sX7_isStation rfl lX7_82 kX7_isStation rfl rfl (Nat.le_of_ble_eq_true rfl) (by decide) (Nat.le_of_ble_eq_true rfl) ?_
  refine aw_ck dX7_setCopies_4 oX7_checkIndex sX7_checkIndex rfl lX7_64 kX7_checkIndex (Nat.le_of_ble_eq_true rfl) (by decide) (Nat.le_of_ble_eq_true rfl) (by decide) (by decide) (fun x4 => ?_) (fun x4 => ?_)
  · exact (by unfold oSetCopies; rw [if_neg (b2d_f x4)]; exact ⟨fC_r d, hC, Nat.succ_ne_zero _, rfl⟩)
  refine aw_iload_n dX7_setCopies_7 rfl ?_
  refine aw_iconst (v := 1) dX7_setCopies_8 (by decide) ?_
  refine aw_iconst (v := 3) dX7_setCopies_9 (by decide) ?_
  refine aw_cSP dX7_setCopies_10 oX7_isIn sX7_isIn rfl lX7_49 kX7_isIn rfl rfl (Nat.le_of_ble_eq_true rfl) (by decide) (Nat.le_of_ble_eq_true rfl) ?_
  refine aw_ck dX7_setCopies_13 oX7_checkArgument sX7_checkArgument rfl lX7_53 kX7_checkArgument (Nat.le_of_ble_eq_true rfl) (by decide) (Nat.le_of_ble_eq_true rfl) (by decide) (by decide) (fun x13 => ?_) (fun x13 => ?_)
  · exact (by unfold oSetCopies; rw [if_pos (b2d_t x4), if_neg (b2d_f x13)]; exact ⟨fC_r d, hC, Nat.succ_ne_zero _, rfl⟩)
  have hg1 := b2d_t x4
  have hg2 := b2d_t x13
  obtain ⟨k, rfl, hk1, hk2⟩ := in_nI (a := 0) (b := 7) rfl rfl (by decide) (by decide) (b2d_t x4)
  obtain ⟨n, rfl, hn1, hn2⟩ := in_nI (a := 1) (b := 3) rfl rfl (by decide) (by decide) (b2d_t x13)
  refine aw_aload_n dX7_setCopies_16 rfl ?_
  refine aw_cVv dX7_setCopies_17 oX7_remember vX7_remember rfl lX7_57 (kX7_remember hC) rfl (hp_132 _) rfl rfl rfl (Nat.le_of_ble_eq_true rfl) (by decide) (Nat.le_of_ble_eq_true rfl) ?_
  rintro d1 ⟨f1, hC1⟩
  have hs1 : KS 0 d1 y.1 := hC1.1.1
  refine aw_aload_n dX7_setCopies_20 rfl ?_
  refine aw_gf dX7_setCopies_21 (hp_132 _) rfl fX7_12 (by decide) rfl ?_
  refine aw_gf dX7_setCopies_24 (hp_0 _) rfl fX7_86 (by decide) rfl ?_
  refine aw_iload_n dX7_setCopies_27 rfl ?_
  refine aw_ialdN dX7_setCopies_28 (hp_3 _) rfl (k) (by first | rfl | (simp only [li_0, li_1, li_2, li_3, li_4, li_5, li_7, li_8, li_9, li_11, li_12, li_16, li_17, li_31, li_32, li_60, li_77, li_80, li_89, li_99, li_101, li_112, li_113, li_256, li_999, li_1023, nI_add, pk_mul])) (by omega) (by decide) ?_
  rw [show d1.1 3 (k) = nI (y.1 3 (k)) from hs1 3 (k) (by decide) (show (k) < 8 by omega)]
  refine aw_istore_n dX7_setCopies_29 (by decide) rfl ?_
  refine aw_aload_n dX7_setCopies_30 rfl ?_
  refine aw_gf dX7_setCopies_31 (hp_132 _) rfl fX7_12 (by decide) rfl ?_
  refine aw_gf dX7_setCopies_34 (hp_0 _) rfl fX7_86 (by decide) rfl ?_
  refine aw_iload_n dX7_setCopies_37 rfl ?_
  refine aw_iload_n dX7_setCopies_38 rfl ?_
  refine aw_iastN dX7_setCopies_39 hp_3 (k) (by first | rfl | (simp only [li_0, li_1, li_2, li_3, li_4, li_5, li_7, li_8, li_9, li_11, li_12, li_16, li_17, li_31, li_32, li_60, li_77, li_80, li_89, li_99, li_101, li_112, li_113, li_256, li_999, li_1023, nI_add, pk_mul])) (by omega) (by decide)  ?_
  refine aw_iload_n dX7_setCopies_40 rfl ?_
  exact aw_endI dX7_setCopies_41 rfl (by unfold oSetCopies; rw [if_pos hg1, if_pos hg2, ivn (by omega), ivn (by omega)]; exact PO_ch hC1 f1 (fN_NW (fN_dI (fN_r d1) (by decide) _)) (KS_up hs1 (j := 3) (k := k) (v := n) rfl rfl) (QOK_up ok (by decide) (by omega) ⟨fun z => absurd z (by decide), fun z => absurd z (by decide), fun z => absurd z (by decide), fun _ => ⟨hn1, hn2⟩, fun z => absurd z (by decide), fun z => absurd z (by decide), fun z => absurd z (by decide), fun z => absurd z (by decide)⟩) rfl)

set_option maxHeartbeats 4000000 in
set_option maxRecDepth 100000 in
theorem kX7_setTime {y : Sy} {d : Dt} (hC : CC d y) {t m c : Int32} : AO mX7_setTime 16 [.ref 132, .int t, .int m, .int c] d [exI, exA] (oSetTime y t m c) := by
  show AW mX7_setTime 16 true (PIx (PO d (oSetTime y t m c)) (XO d [exI, exA] (oSetTime y t m c))) 4 24 0 [(0, .ref 132), (1, .int t), (2, .int m), (3, .int c)] [] (HP d)
  have hs := hC.1.1
  have ok := hC.1.2
  have h12 := ok.2.1
  refine aw_join (P := fun v => v = b2i (decide (tkI y.1 t ∧ gI 0 2 m))) 25 (fun v hv25 => ?_) (fun kJ25 => ?_)
  · subst hv25
    refine aw_ck dX7_setTime_25 oX7_checkIndex sX7_checkIndex rfl lX7_64 kX7_checkIndex (Nat.le_of_ble_eq_true rfl) (by decide) (Nat.le_of_ble_eq_true rfl) (by decide) (by decide) (fun x25 => ?_) (fun x25 => ?_)
    · exact (by unfold oSetTime; rw [if_neg (b2d_f x25)]; exact ⟨fC_r d, hC, Nat.succ_ne_zero _, rfl⟩)
    refine aw_iload_n dX7_setTime_28 rfl ?_
    refine aw_cSP dX7_setTime_29 oX7_isTime sX7_isTime rfl lX7_106 kX7_isTime rfl rfl (Nat.le_of_ble_eq_true rfl) (by decide) (Nat.le_of_ble_eq_true rfl) ?_
    refine aw_ck dX7_setTime_32 oX7_checkArgument sX7_checkArgument rfl lX7_53 kX7_checkArgument (Nat.le_of_ble_eq_true rfl) (by decide) (Nat.le_of_ble_eq_true rfl) (by decide) (by decide) (fun x32 => ?_) (fun x32 => ?_)
    · exact (by unfold oSetTime; rw [if_pos (b2d_t x25), if_neg (b2d_f x32)]; exact ⟨fC_r d, hC, Nat.succ_ne_zero _, rfl⟩)
    have hg1 := b2d_t x25
    have hg3 := b2d_t x32
    obtain ⟨k, rfl, hk⟩ := tk_nI h12 ((b2d_t x25).1)
    obtain ⟨i, rfl, hi1, hi2⟩ := in_nI (a := 0) (b := 2) rfl rfl (by decide) (by decide) ((b2d_t x25).2)
    obtain ⟨n, rfl, hn1, hn2⟩ := in_nI (a := 0) (b := 99) rfl rfl (by decide) (by decide) (b2d_t x32)
    refine aw_aload_n dX7_setTime_35 rfl ?_
    refine aw_cVv dX7_setTime_36 oX7_remember vX7_remember rfl lX7_57 (kX7_remember hC) rfl (hp_132 _) rfl rfl rfl (Nat.le_of_ble_eq_true rfl) (by decide) (Nat.le_of_ble_eq_true rfl) ?_
    rintro d1 ⟨f1, hC1⟩
    have hs1 : KS 0 d1 y.1 := hC1.1.1
    refine aw_aload_n dX7_setTime_39 rfl ?_
    refine aw_gf dX7_setTime_40 (hp_132 _) rfl fX7_12 (by decide) rfl ?_
    refine aw_gf dX7_setTime_43 (hp_0 _) rfl fX7_109 (by decide) rfl ?_
    refine aw_iload_n dX7_setTime_46 rfl ?_
    refine aw_iconst (v := 3) dX7_setTime_47 (by decide) ?_
    refine aw_imul dX7_setTime_48 ?_
    refine aw_iload_n dX7_setTime_49 rfl ?_
    refine aw_iadd dX7_setTime_50 ?_
    refine aw_ialdN dX7_setTime_51 (hp_4 _) rfl (3 * k + i) (by rw [show (3 : Int32) = nI 3 from rfl, pk_mul, nI_add]; exact congrArg nI (by omega)) (by omega) (by decide) ?_
    rw [show d1.1 4 (3 * k + i) = nI (y.1 4 (3 * k + i)) from hs1 4 (3 * k + i) (by decide) (show (3 * k + i) < 36 by omega)]
    refine aw_istore dX7_setTime_52 (by decide) rfl ?_
    refine aw_aload_n dX7_setTime_54 rfl ?_
    refine aw_gf dX7_setTime_55 (hp_132 _) rfl fX7_12 (by decide) rfl ?_
    refine aw_gf dX7_setTime_58 (hp_0 _) rfl fX7_109 (by decide) rfl ?_
    refine aw_iload_n dX7_setTime_61 rfl ?_
    refine aw_iconst (v := 3) dX7_setTime_62 (by decide) ?_
    refine aw_imul dX7_setTime_63 ?_
    refine aw_iload_n dX7_setTime_64 rfl ?_
    refine aw_iadd dX7_setTime_65 ?_
    refine aw_iload_n dX7_setTime_66 rfl ?_
    refine aw_iastN dX7_setTime_67 hp_4 (3 * k + i) (by rw [show (3 : Int32) = nI 3 from rfl, pk_mul, nI_add]; exact congrArg nI (by omega)) (by omega) (by decide)  ?_
    refine aw_iload dX7_setTime_68 rfl ?_
    exact aw_endI dX7_setTime_70 rfl (by unfold oSetTime; rw [if_pos hg1, if_pos hg3, ivn (by omega), ivn (by omega), ivn (by omega)]; exact PO_ch hC1 f1 (fN_NW (fN_dI (fN_r d1) (by decide) _)) (KS_up hs1 (j := 4) (k := (3 * k + i)) (v := n) rfl rfl) (QOK_up ok (by decide) (by omega) ⟨fun z => absurd z (by decide), fun z => absurd z (by decide), fun z => absurd z (by decide), fun z => absurd z (by decide), fun _ => hn2, fun z => absurd z (by decide), fun z => absurd z (by decide), fun z => absurd z (by decide)⟩) rfl)
  · refine aw_aload_n dX7_setTime_0 rfl ?_
    refine aw_gf dX7_setTime_1 (hp_132 _) rfl fX7_12 (by decide) rfl ?_
    refine aw_iload_n dX7_setTime_4 rfl ?_
    refine aw_cVP dX7_setTime_5 oX4_hasTask vX4_hasTask rfl lX7_103 (kX4_hasT hs) rfl (hp_0 _) rfl rfl rfl (Nat.le_of_ble_eq_true rfl) (by decide) (Nat.le_of_ble_eq_true rfl) ?_
    refine aw_if_eq 24 dX7_setTime_8 (by decide) (fun c8 => ?_) (fun c8 => ?_)
    · refine aw_iconst (v := 0) dX7_setTime_24 (by decide) ?_
      exact kJ25 _ (b2i_f (fun z => b2d_f c8 z.1)).symm
    · refine aw_iload_n dX7_setTime_11 rfl ?_
      refine aw_iconst (v := 0) dX7_setTime_12 (by decide) ?_
      refine aw_iconst (v := 2) dX7_setTime_13 (by decide) ?_
      refine aw_cSP dX7_setTime_14 oX7_isIn sX7_isIn rfl lX7_49 kX7_isIn rfl rfl (Nat.le_of_ble_eq_true rfl) (by decide) (Nat.le_of_ble_eq_true rfl) ?_
      refine aw_if_eq 24 dX7_setTime_17 (by decide) (fun c17 => ?_) (fun c17 => ?_)
      · refine aw_iconst (v := 0) dX7_setTime_24 (by decide) ?_
        exact kJ25 _ (b2i_f (fun z => b2d_f c17 z.2)).symm
      · refine aw_iconst (v := 1) dX7_setTime_20 (by decide) ?_
        refine aw_goto (tgt := 25) dX7_setTime_21 (by decide) ?_
        exact kJ25 _ (b2i_t ⟨b2d_t c8, b2d_t c17⟩).symm

set_option maxHeartbeats 4000000 in
set_option maxRecDepth 100000 in
theorem kX7_setTool {y : Sy} {d : Dt} (hC : CC d y) {t c : Int32} : AO mX7_setTool 16 [.ref 132, .int t, .int c] d [exI, exA] (oSetTool y t c) := by
  show AW mX7_setTool 16 true (PIx (PO d (oSetTool y t c)) (XO d [exI, exA] (oSetTool y t c))) 4 24 0 [(0, .ref 132), (1, .int t), (2, .int c)] [] (HP d)
  have hs := hC.1.1
  have ok := hC.1.2
  have h12 := ok.2.1
  refine aw_aload_n dX7_setTool_0 rfl ?_
  refine aw_gf dX7_setTool_1 (hp_132 _) rfl fX7_12 (by decide) rfl ?_
  refine aw_iload_n dX7_setTool_4 rfl ?_
  refine aw_cVP dX7_setTool_5 oX4_hasTask vX4_hasTask rfl lX7_103 (kX4_hasT hs) rfl (hp_0 _) rfl rfl rfl (Nat.le_of_ble_eq_true rfl) (by decide) (Nat.le_of_ble_eq_true rfl) ?_
  refine aw_ck dX7_setTool_8 oX7_checkIndex sX7_checkIndex rfl lX7_64 kX7_checkIndex (Nat.le_of_ble_eq_true rfl) (by decide) (Nat.le_of_ble_eq_true rfl) (by decide) (by decide) (fun x8 => ?_) (fun x8 => ?_)
  · exact (by unfold oSetTool; rw [if_neg (b2d_f x8)]; exact ⟨fC_r d, hC, Nat.succ_ne_zero _, rfl⟩)
  refine aw_iload_n dX7_setTool_11 rfl ?_
  refine aw_cSP dX7_setTool_12 oX7_isTool sX7_isTool rfl lX7_112 kX7_isTool rfl rfl (Nat.le_of_ble_eq_true rfl) (by decide) (Nat.le_of_ble_eq_true rfl) ?_
  refine aw_ck dX7_setTool_15 oX7_checkArgument sX7_checkArgument rfl lX7_53 kX7_checkArgument (Nat.le_of_ble_eq_true rfl) (by decide) (Nat.le_of_ble_eq_true rfl) (by decide) (by decide) (fun x15 => ?_) (fun x15 => ?_)
  · exact (by unfold oSetTool; rw [if_pos (b2d_t x8), if_neg (b2d_f x15)]; exact ⟨fC_r d, hC, Nat.succ_ne_zero _, rfl⟩)
  have hg1 := b2d_t x8
  have hg2 := b2d_t x15
  obtain ⟨k, rfl, hk⟩ := tk_nI h12 (b2d_t x8)
  obtain ⟨n, rfl, hn1, hn2⟩ := in_nI (a := 0) (b := 5) rfl rfl (by decide) (by decide) (b2d_t x15)
  refine aw_aload_n dX7_setTool_18 rfl ?_
  refine aw_cVv dX7_setTool_19 oX7_remember vX7_remember rfl lX7_57 (kX7_remember hC) rfl (hp_132 _) rfl rfl rfl (Nat.le_of_ble_eq_true rfl) (by decide) (Nat.le_of_ble_eq_true rfl) ?_
  rintro d1 ⟨f1, hC1⟩
  have hs1 : KS 0 d1 y.1 := hC1.1.1
  refine aw_aload_n dX7_setTool_22 rfl ?_
  refine aw_gf dX7_setTool_23 (hp_132 _) rfl fX7_12 (by decide) rfl ?_
  refine aw_gf dX7_setTool_26 (hp_0 _) rfl fX7_115 (by decide) rfl ?_
  refine aw_iload_n dX7_setTool_29 rfl ?_
  refine aw_ialdN dX7_setTool_30 (hp_5 _) rfl (k) (by first | rfl | (simp only [li_0, li_1, li_2, li_3, li_4, li_5, li_7, li_8, li_9, li_11, li_12, li_16, li_17, li_31, li_32, li_60, li_77, li_80, li_89, li_99, li_101, li_112, li_113, li_256, li_999, li_1023, nI_add, pk_mul])) (by omega) (by decide) ?_
  rw [show d1.1 5 (k) = nI (y.1 5 (k)) from hs1 5 (k) (by decide) (show (k) < 12 by omega)]
  refine aw_istore_n dX7_setTool_31 (by decide) rfl ?_
  refine aw_aload_n dX7_setTool_32 rfl ?_
  refine aw_gf dX7_setTool_33 (hp_132 _) rfl fX7_12 (by decide) rfl ?_
  refine aw_gf dX7_setTool_36 (hp_0 _) rfl fX7_115 (by decide) rfl ?_
  refine aw_iload_n dX7_setTool_39 rfl ?_
  refine aw_iload_n dX7_setTool_40 rfl ?_
  refine aw_iastN dX7_setTool_41 hp_5 (k) (by first | rfl | (simp only [li_0, li_1, li_2, li_3, li_4, li_5, li_7, li_8, li_9, li_11, li_12, li_16, li_17, li_31, li_32, li_60, li_77, li_80, li_89, li_99, li_101, li_112, li_113, li_256, li_999, li_1023, nI_add, pk_mul])) (by omega) (by decide)  ?_
  refine aw_iload_n dX7_setTool_42 rfl ?_
  exact aw_endI dX7_setTool_43 rfl (by unfold oSetTool; rw [if_pos hg1, if_pos hg2, ivn (by omega), ivn (by omega)]; exact PO_ch hC1 f1 (fN_NW (fN_dI (fN_r d1) (by decide) _)) (KS_up hs1 (j := 5) (k := k) (v := n) rfl rfl) (QOK_up ok (by decide) (by omega) ⟨fun z => absurd z (by decide), fun z => absurd z (by decide), fun z => absurd z (by decide), fun z => absurd z (by decide), fun z => absurd z (by decide), fun _ => hn2, fun z => absurd z (by decide), fun z => absurd z (by decide)⟩) rfl)

set_option maxHeartbeats 4000000 in
set_option maxRecDepth 100000 in
theorem kX7_size {y : Sy} {d : Dt} (hC : CC d y) : AO mX7_size 16 [.ref 132] d [] (oSize y) := by
  show AW mX7_size 16 true (PIx (PO d (oSize y)) (XO d [] (oSize y))) 4 24 0 [(0, .ref 132)] [] (HP d)
  have hs := hC.1.1
  have ok := hC.1.2
  have h12 := ok.2.1
  refine aw_aload_n dX7_size_0 rfl ?_
  refine aw_gf dX7_size_1 (hp_132 _) rfl fX7_12 (by decide) rfl ?_
  refine aw_gf dX7_size_4 (hp_0 _) rfl fX7_93 (by decide) rfl ?_
  exact aw_endI dX7_size_7 rfl ⟨fC_r d, hC, rfl, hs 0 1 (by decide) (by decide)⟩

set_option maxHeartbeats 4000000 in
set_option maxRecDepth 100000 in
theorem kX7_priority {y : Sy} {d : Dt} (hC : CC d y) {t p : Int32} : AO mX7_priority 16 [.ref 132, .int t, .int p] d [exI, exA] (oPriority y t p) := by
  show AW mX7_priority 16 true (PIx (PO d (oPriority y t p)) (XO d [exI, exA] (oPriority y t p))) 4 24 0 [(0, .ref 132), (1, .int t), (2, .int p)] [] (HP d)
  have hs := hC.1.1
  have ok := hC.1.2
  have h12 := ok.2.1
  refine aw_aload_n dX7_priority_0 rfl ?_
  refine aw_gf dX7_priority_1 (hp_132 _) rfl fX7_12 (by decide) rfl ?_
  refine aw_iload_n dX7_priority_4 rfl ?_
  refine aw_cVP dX7_priority_5 oX4_hasTask vX4_hasTask rfl lX7_103 (kX4_hasT hs) rfl (hp_0 _) rfl rfl rfl (Nat.le_of_ble_eq_true rfl) (by decide) (Nat.le_of_ble_eq_true rfl) ?_
  refine aw_ck dX7_priority_8 oX7_checkIndex sX7_checkIndex rfl lX7_64 kX7_checkIndex (Nat.le_of_ble_eq_true rfl) (by decide) (Nat.le_of_ble_eq_true rfl) (by decide) (by decide) (fun x8 => ?_) (fun x8 => ?_)
  · exact (by unfold oPriority; rw [if_neg (b2d_f x8)]; exact ⟨fC_r d, hC, Nat.succ_ne_zero _, rfl⟩)
  refine aw_iload_n dX7_priority_11 rfl ?_
  refine aw_cSP dX7_priority_12 oX7_isPriority sX7_isPriority rfl lX7_178 kX7_isPriority rfl rfl (Nat.le_of_ble_eq_true rfl) (by decide) (Nat.le_of_ble_eq_true rfl) ?_
  refine aw_ck dX7_priority_15 oX7_checkArgument sX7_checkArgument rfl lX7_53 kX7_checkArgument (Nat.le_of_ble_eq_true rfl) (by decide) (Nat.le_of_ble_eq_true rfl) (by decide) (by decide) (fun x15 => ?_) (fun x15 => ?_)
  · exact (by unfold oPriority; rw [if_pos (b2d_t x8), if_neg (b2d_f x15)]; exact ⟨fC_r d, hC, Nat.succ_ne_zero _, rfl⟩)
  have hg1 := b2d_t x8
  have hg2 := b2d_t x15
  obtain ⟨k, rfl, hk⟩ := tk_nI h12 (b2d_t x8)
  obtain ⟨n, rfl, hn1, hn2⟩ := in_nI (a := 0) (b := 3) rfl rfl (by decide) (by decide) (b2d_t x15)
  refine aw_aload_n dX7_priority_18 rfl ?_
  refine aw_gf dX7_priority_19 (hp_132 _) rfl fX7_12 (by decide) rfl ?_
  refine aw_iload_n dX7_priority_22 rfl ?_
  refine aw_iload_n dX7_priority_23 rfl ?_
  refine aw_cVP dX7_priority_24 oX4_priorityOf vX4_priorityOf rfl lX7_181 (kX4_priorityOf hs ok (t := k) (p := n) (by omega) (by omega)) rfl (hp_0 _) rfl rfl rfl (Nat.le_of_ble_eq_true rfl) (by decide) (Nat.le_of_ble_eq_true rfl) ?_
  exact aw_endI dX7_priority_27 rfl (by unfold oPriority; rw [if_pos hg1, if_pos hg2, ivn (by omega), ivn (by omega)]; exact ⟨fC_r d, hC, rfl, rfl⟩)
