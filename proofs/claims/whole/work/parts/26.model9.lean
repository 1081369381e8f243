set_option maxHeartbeats 4000000 in
set_option maxRecDepth 100000 in
theorem kX8_setModels {y : Sy} {d : Dt} (hM : MR d y) {c : Int32} : CI mX8_setModels 3 [.ref 160, .int c] d (fun x d' => RO d d' x (oSetModels y c)) := by
  show AW mX8_setModels 3 true (PIx (fun x d' => RO d d' x (oSetModels y c)) nX) 0 0 0 [(0, .ref 160), (1, .int c)] [] (HP d)
  have ok := hM.1.2
  have hr := hM.1.1
  have h12 := ok.2.1
  refine aw_aload_n dX8_setModels_0 rfl ?_
  refine aw_cVv dX8_setModels_1 oX8_remembers vX8_remembers rfl lX8_84 (kX8_rem hM) rfl (hp_160 _) rfl rfl rfl (Nat.le_of_ble_eq_true rfl) (by decide) (Nat.le_of_ble_eq_true rfl) ?_
  rintro d1 ⟨hm0, -⟩
  have hr0 := hm0.2.2.2.1.1
  refine aw_aload_n dX8_setModels_4 rfl ?_
  refine aw_gf dX8_setModels_5 (hp_160 _) rfl fX8_7 (by decide) rfl ?_
  refine aw_iconst (v := 0) dX8_setModels_8 (by decide) ?_
  refine aw_ialdN dX8_setModels_9 (hp_161 _) rfl (0) (by first | rfl | (simp only [li_0, li_1, li_2, li_3, li_4, li_5, li_7, li_8, li_9, li_11, li_12, li_16, li_17, li_31, li_32, li_60, li_77, li_80, li_89, li_99, li_101, li_112, li_113, li_256, li_999, li_1023, nI_add, pk_mul])) (by omega) (by decide) ?_
  refine aw_istore_n dX8_setModels_10 (by decide) rfl ?_
  refine aw_iload_n dX8_setModels_11 rfl ?_
  refine aw_iconst (v := 1) dX8_setModels_12 (by decide) ?_
  refine aw_iconst (v := 3) dX8_setModels_13 (by decide) ?_
  refine aw_cSP dX8_setModels_14 oX8_in sX8_in rfl lX8_74 kX8_in rfl rfl (Nat.le_of_ble_eq_true rfl) (by decide) (Nat.le_of_ble_eq_true rfl) ?_
  refine aw_if_ne 26 dX8_setModels_17 (by decide) (fun c17 => ?_) (fun c17 => ?_)
  · have hg := b2d_t c17
    obtain ⟨n, rfl, hn1, hn2⟩ := in_nI (a := 1) (b := 3) rfl rfl (by decide) (by decide) (b2d_t c17)
    refine aw_aload_n dX8_setModels_26 rfl ?_
    refine aw_gf dX8_setModels_27 (hp_160 _) rfl fX8_7 (by decide) rfl ?_
    refine aw_iconst (v := 0) dX8_setModels_30 (by decide) ?_
    refine aw_iload_n dX8_setModels_31 rfl ?_
    refine aw_iastN dX8_setModels_32 hp_161 (0) (by first | rfl | (simp only [li_0, li_1, li_2, li_3, li_4, li_5, li_7, li_8, li_9, li_11, li_12, li_16, li_17, li_31, li_32, li_60, li_77, li_80, li_89, li_99, li_101, li_112, li_113, li_256, li_999, li_1023, nI_add, pk_mul])) (by omega) (by decide)  ?_
    refine aw_aload_n dX8_setModels_33 rfl ?_
    refine aw_aload_n dX8_setModels_34 rfl ?_
    refine aw_iload_n dX8_setModels_35 rfl ?_
    refine aw_cVI dX8_setModels_36 oX8_done vX8_done rfl lX8_91 kX8_done rfl (hp_160 _) rfl rfl rfl (Nat.le_of_ble_eq_true rfl) (by decide) (Nat.le_of_ble_eq_true rfl) ?_
    rintro _ d8 ⟨rfl, rfl⟩
    refine aw_cVI dX8_setModels_39 oX8_changed vX8_changed rfl lX8_94 (kX8_changed (MC_7 (MC_g hm0 (j := 0) (k := 0) (v := n) (by decide) (show 0 < 1 by omega) rfl rfl (QOK_up ok (by decide) (by omega) ⟨fun _ => ⟨hn1, hn2⟩, fun z => absurd z (by decide), fun z => absurd z (by decide), fun z => absurd z (by decide), fun z => absurd z (by decide), fun z => absurd z (by decide), fun z => absurd z (by decide), fun z => absurd z (by decide)⟩)) 0) 0 (by decide) (by rw [dI_s]; rfl)) rfl (hp_160 _) rfl rfl rfl (Nat.le_of_ble_eq_true rfl) (by decide) (Nat.le_of_ble_eq_true rfl) ?_
    rintro _ d2 ⟨rfl, hC⟩
    exact aw_endI dX8_setModels_42 rfl (by unfold oSetModels; rw [if_pos hg, ivn (by omega)]; exact RO_ch hC hr0.1.1)
  · refine aw_aload_n dX8_setModels_20 rfl ?_
    refine aw_iconst (v := 1) dX8_setModels_21 (by decide) ?_
    refine aw_cVI dX8_setModels_22 oX8_fails vX8_fails rfl lX8_87 kX8_fails rfl (hp_160 _) rfl rfl rfl (Nat.le_of_ble_eq_true rfl) (by decide) (Nat.le_of_ble_eq_true rfl) ?_
    rintro _ d9 ⟨rfl, rfl⟩
    exact aw_endI dX8_setModels_25 rfl (by unfold oSetModels; rw [if_neg (b2d_f c17)]; exact RO_f2 hm0 rfl (by decide))

set_option maxHeartbeats 4000000 in
set_option maxRecDepth 100000 in
theorem kX8_setDemand {y : Sy} {d : Dt} (hM : MR d y) {m c : Int32} : CI mX8_setDemand 3 [.ref 160, .int m, .int c] d (fun x d' => RO d d' x (oSetDemand y m c)) := by
  show AW mX8_setDemand 3 true (PIx (fun x d' => RO d d' x (oSetDemand y m c)) nX) 0 0 0 [(0, .ref 160), (1, .int m), (2, .int c)] [] (HP d)
  have ok := hM.1.2
  have hr := hM.1.1
  have h12 := ok.2.1
  refine aw_iload_n dX8_setDemand_0 rfl ?_
  refine aw_iconst (v := 0) dX8_setDemand_1 (by decide) ?_
  refine aw_iconst (v := 2) dX8_setDemand_2 (by decide) ?_
  refine aw_cSP dX8_setDemand_3 oX8_in sX8_in rfl lX8_74 kX8_in rfl rfl (Nat.le_of_ble_eq_true rfl) (by decide) (Nat.le_of_ble_eq_true rfl) ?_
  refine aw_if_eq 19 dX8_setDemand_6 (by decide) (fun c6 => ?_) (fun c6 => ?_)
  · refine aw_aload_n dX8_setDemand_19 rfl ?_
    refine aw_iload_n dX8_setDemand_20 rfl ?_
    refine aw_iconst (v := 0) dX8_setDemand_21 (by decide) ?_
    refine aw_iconst (v := 2) dX8_setDemand_22 (by decide) ?_
    refine aw_cSP dX8_setDemand_23 oX8_in sX8_in rfl lX8_74 kX8_in rfl rfl (Nat.le_of_ble_eq_true rfl) (by decide) (Nat.le_of_ble_eq_true rfl) ?_
    refine aw_if_ne 33 dX8_setDemand_26 (by decide) (fun c26 => ?_) (fun c26 => ?_)
    · refine aw_iconst (v := 2) dX8_setDemand_33 (by decide) ?_
      refine aw_cVI dX8_setDemand_34 oX8_fails vX8_fails rfl lX8_87 kX8_fails rfl (hp_160 _) rfl rfl rfl (Nat.le_of_ble_eq_true rfl) (by decide) (Nat.le_of_ble_eq_true rfl) ?_
      rintro _ d9 ⟨rfl, rfl⟩
      exact (c26 c6).elim
    · refine aw_iconst (v := 1) dX8_setDemand_29 (by decide) ?_
      refine aw_goto (tgt := 34) dX8_setDemand_30 (by decide) ?_
      refine aw_cVI dX8_setDemand_34 oX8_fails vX8_fails rfl lX8_87 kX8_fails rfl (hp_160 _) rfl rfl rfl (Nat.le_of_ble_eq_true rfl) (by decide) (Nat.le_of_ble_eq_true rfl) ?_
      rintro _ d9 ⟨rfl, rfl⟩
      exact aw_endI dX8_setDemand_37 rfl (by unfold oSetDemand; rw [if_neg (b2d_f c6)]; exact RO_f hM (mS_r d) rfl (by decide))
  · refine aw_iload_n dX8_setDemand_9 rfl ?_
    refine aw_iconst (v := 1) dX8_setDemand_10 (by decide) ?_
    refine aw_bipush (v := 9) dX8_setDemand_11 (by decide) ?_
    refine aw_cSP dX8_setDemand_13 oX8_in sX8_in rfl lX8_74 kX8_in rfl rfl (Nat.le_of_ble_eq_true rfl) (by decide) (Nat.le_of_ble_eq_true rfl) ?_
    refine aw_if_ne 38 dX8_setDemand_16 (by decide) (fun c16 => ?_) (fun c16 => ?_)
    · have hg1 := b2d_t c6
      have hg2 := b2d_t c16
      obtain ⟨k, rfl, hk1, hk2⟩ := in_nI (a := 0) (b := 2) rfl rfl (by decide) (by decide) (b2d_t c6)
      obtain ⟨n, rfl, hn1, hn2⟩ := in_nI (a := 1) (b := 9) rfl rfl (by decide) (by decide) (b2d_t c16)
      refine aw_aload_n dX8_setDemand_38 rfl ?_
      refine aw_cVv dX8_setDemand_39 oX8_remembers vX8_remembers rfl lX8_84 (kX8_rem hM) rfl (hp_160 _) rfl rfl rfl (Nat.le_of_ble_eq_true rfl) (by decide) (Nat.le_of_ble_eq_true rfl) ?_
      rintro d1 ⟨hm0, -⟩
      have hr0 := hm0.2.2.2.1.1
      refine aw_aload_n dX8_setDemand_42 rfl ?_
      refine aw_gf dX8_setDemand_43 (hp_160 _) rfl fX8_7 (by decide) rfl ?_
      refine aw_iconst (v := 1) dX8_setDemand_46 (by decide) ?_
      refine aw_iload_n dX8_setDemand_47 rfl ?_
      refine aw_iadd dX8_setDemand_48 ?_
      refine aw_ialdN dX8_setDemand_49 (hp_161 _) rfl (1 + k) (by first | rfl | (simp only [li_0, li_1, li_2, li_3, li_4, li_5, li_7, li_8, li_9, li_11, li_12, li_16, li_17, li_31, li_32, li_60, li_77, li_80, li_89, li_99, li_101, li_112, li_113, li_256, li_999, li_1023, nI_add, pk_mul])) (by omega) (by decide) ?_
      refine aw_istore_n dX8_setDemand_50 (by decide) rfl ?_
      refine aw_aload_n dX8_setDemand_51 rfl ?_
      refine aw_gf dX8_setDemand_52 (hp_160 _) rfl fX8_7 (by decide) rfl ?_
      refine aw_iconst (v := 1) dX8_setDemand_55 (by decide) ?_
      refine aw_iload_n dX8_setDemand_56 rfl ?_
      refine aw_iadd dX8_setDemand_57 ?_
      refine aw_iload_n dX8_setDemand_58 rfl ?_
      refine aw_iastN dX8_setDemand_59 hp_161 (1 + k) (by first | rfl | (simp only [li_0, li_1, li_2, li_3, li_4, li_5, li_7, li_8, li_9, li_11, li_12, li_16, li_17, li_31, li_32, li_60, li_77, li_80, li_89, li_99, li_101, li_112, li_113, li_256, li_999, li_1023, nI_add, pk_mul])) (by omega) (by decide)  ?_
      refine aw_aload_n dX8_setDemand_60 rfl ?_
      refine aw_aload_n dX8_setDemand_61 rfl ?_
      refine aw_iload_n dX8_setDemand_62 rfl ?_
      refine aw_cVI dX8_setDemand_63 oX8_done vX8_done rfl lX8_91 kX8_done rfl (hp_160 _) rfl rfl rfl (Nat.le_of_ble_eq_true rfl) (by decide) (Nat.le_of_ble_eq_true rfl) ?_
      rintro _ d8 ⟨rfl, rfl⟩
      refine aw_cVI dX8_setDemand_66 oX8_changed vX8_changed rfl lX8_94 (kX8_changed (MC_7 (MC_g hm0 (j := 1) (k := k) (v := n) (by decide) (show k < 3 by omega) rfl rfl (QOK_up ok (by decide) (by omega) ⟨fun z => absurd z (by decide), fun _ => ⟨hn1, hn2⟩, fun z => absurd z (by decide), fun z => absurd z (by decide), fun z => absurd z (by decide), fun z => absurd z (by decide), fun z => absurd z (by decide), fun z => absurd z (by decide)⟩)) 0) 0 (by decide) (by rw [dI_s]; rfl)) rfl (hp_160 _) rfl rfl rfl (Nat.le_of_ble_eq_true rfl) (by decide) (Nat.le_of_ble_eq_true rfl) ?_
      rintro _ d2 ⟨rfl, hC⟩
      exact aw_endI dX8_setDemand_69 rfl (by unfold oSetDemand; rw [if_pos hg1, if_pos hg2, ivn (by omega), ivn (by omega)]; exact RO_ch hC (hr0.2.1 k (by omega)))
    · refine aw_aload_n dX8_setDemand_19 rfl ?_
      refine aw_iload_n dX8_setDemand_20 rfl ?_
      refine aw_iconst (v := 0) dX8_setDemand_21 (by decide) ?_
      refine aw_iconst (v := 2) dX8_setDemand_22 (by decide) ?_
      refine aw_cSP dX8_setDemand_23 oX8_in sX8_in rfl lX8_74 kX8_in rfl rfl (Nat.le_of_ble_eq_true rfl) (by decide) (Nat.le_of_ble_eq_true rfl) ?_
      refine aw_if_ne 33 dX8_setDemand_26 (by decide) (fun c26 => ?_) (fun c26 => ?_)
      · refine aw_iconst (v := 2) dX8_setDemand_33 (by decide) ?_
        refine aw_cVI dX8_setDemand_34 oX8_fails vX8_fails rfl lX8_87 kX8_fails rfl (hp_160 _) rfl rfl rfl (Nat.le_of_ble_eq_true rfl) (by decide) (Nat.le_of_ble_eq_true rfl) ?_
        rintro _ d9 ⟨rfl, rfl⟩
        exact aw_endI dX8_setDemand_37 rfl (by unfold oSetDemand; rw [if_pos (b2d_t c6), if_neg (b2d_f c16)]; exact RO_f hM (mS_r d) rfl (by decide))
      · refine aw_iconst (v := 1) dX8_setDemand_29 (by decide) ?_
        refine aw_goto (tgt := 34) dX8_setDemand_30 (by decide) ?_
        refine aw_cVI dX8_setDemand_34 oX8_fails vX8_fails rfl lX8_87 kX8_fails rfl (hp_160 _) rfl rfl rfl (Nat.le_of_ble_eq_true rfl) (by decide) (Nat.le_of_ble_eq_true rfl) ?_
        rintro _ d9 ⟨rfl, rfl⟩
        exact (c6 c26).elim

set_option maxHeartbeats 4000000 in
set_option maxRecDepth 100000 in
theorem kX8_setCopies {y : Sy} {d : Dt} (hM : MR d y) {m c : Int32} : CI mX8_setCopies 3 [.ref 160, .int m, .int c] d (fun x d' => RO d d' x (oSetCopies y m c)) := by
  show AW mX8_setCopies 3 true (PIx (fun x d' => RO d d' x (oSetCopies y m c)) nX) 0 0 0 [(0, .ref 160), (1, .int m), (2, .int c)] [] (HP d)
  have ok := hM.1.2
  have hr := hM.1.1
  have h12 := ok.2.1
  refine aw_iload_n dX8_setCopies_0 rfl ?_
  refine aw_cSP dX8_setCopies_1 oX8_isStation sX8_isStation rfl lX8_109 kX8_isStation rfl rfl (Nat.le_of_ble_eq_true rfl) (by decide) (Nat.le_of_ble_eq_true rfl) ?_
  refine aw_if_eq 16 dX8_setCopies_4 (by decide) (fun c4 => ?_) (fun c4 => ?_)
  · refine aw_aload_n dX8_setCopies_16 rfl ?_
    refine aw_iload_n dX8_setCopies_17 rfl ?_
    refine aw_cSP dX8_setCopies_18 oX8_isStation sX8_isStation rfl lX8_109 kX8_isStation rfl rfl (Nat.le_of_ble_eq_true rfl) (by decide) (Nat.le_of_ble_eq_true rfl) ?_
    refine aw_if_ne 28 dX8_setCopies_21 (by decide) (fun c21 => ?_) (fun c21 => ?_)
    · refine aw_iconst (v := 2) dX8_setCopies_28 (by decide) ?_
      refine aw_cVI dX8_setCopies_29 oX8_fails vX8_fails rfl lX8_87 kX8_fails rfl (hp_160 _) rfl rfl rfl (Nat.le_of_ble_eq_true rfl) (by decide) (Nat.le_of_ble_eq_true rfl) ?_
      rintro _ d9 ⟨rfl, rfl⟩
      exact (c21 c4).elim
    · refine aw_iconst (v := 1) dX8_setCopies_24 (by decide) ?_
      refine aw_goto (tgt := 29) dX8_setCopies_25 (by decide) ?_
      refine aw_cVI dX8_setCopies_29 oX8_fails vX8_fails rfl lX8_87 kX8_fails rfl (hp_160 _) rfl rfl rfl (Nat.le_of_ble_eq_true rfl) (by decide) (Nat.le_of_ble_eq_true rfl) ?_
      rintro _ d9 ⟨rfl, rfl⟩
      exact aw_endI dX8_setCopies_32 rfl (by unfold oSetCopies; rw [if_neg (b2d_f c4)]; exact RO_f hM (mS_r d) rfl (by decide))
  · refine aw_iload_n dX8_setCopies_7 rfl ?_
    refine aw_iconst (v := 1) dX8_setCopies_8 (by decide) ?_
    refine aw_iconst (v := 3) dX8_setCopies_9 (by decide) ?_
    refine aw_cSP dX8_setCopies_10 oX8_in sX8_in rfl lX8_74 kX8_in rfl rfl (Nat.le_of_ble_eq_true rfl) (by decide) (Nat.le_of_ble_eq_true rfl) ?_
    refine aw_if_ne 33 dX8_setCopies_13 (by decide) (fun c13 => ?_) (fun c13 => ?_)
    · have hg1 := b2d_t c4
      have hg2 := b2d_t c13
      obtain ⟨k, rfl, hk1, hk2⟩ := in_nI (a := 0) (b := 7) rfl rfl (by decide) (by decide) (b2d_t c4)
      obtain ⟨n, rfl, hn1, hn2⟩ := in_nI (a := 1) (b := 3) rfl rfl (by decide) (by decide) (b2d_t c13)
      refine aw_aload_n dX8_setCopies_33 rfl ?_
      refine aw_cVv dX8_setCopies_34 oX8_remembers vX8_remembers rfl lX8_84 (kX8_rem hM) rfl (hp_160 _) rfl rfl rfl (Nat.le_of_ble_eq_true rfl) (by decide) (Nat.le_of_ble_eq_true rfl) ?_
      rintro d1 ⟨hm0, -⟩
      have hr0 := hm0.2.2.2.1.1
      refine aw_aload_n dX8_setCopies_37 rfl ?_
      refine aw_gf dX8_setCopies_38 (hp_160 _) rfl fX8_7 (by decide) rfl ?_
      refine aw_bipush (v := 8) dX8_setCopies_41 (by decide) ?_
      refine aw_iload_n dX8_setCopies_43 rfl ?_
      refine aw_iadd dX8_setCopies_44 ?_
      refine aw_ialdN dX8_setCopies_45 (hp_161 _) rfl (8 + k) (by first | rfl | (simp only [li_0, li_1, li_2, li_3, li_4, li_5, li_7, li_8, li_9, li_11, li_12, li_16, li_17, li_31, li_32, li_60, li_77, li_80, li_89, li_99, li_101, li_112, li_113, li_256, li_999, li_1023, nI_add, pk_mul])) (by omega) (by decide) ?_
      refine aw_istore_n dX8_setCopies_46 (by decide) rfl ?_
      refine aw_aload_n dX8_setCopies_47 rfl ?_
      refine aw_gf dX8_setCopies_48 (hp_160 _) rfl fX8_7 (by decide) rfl ?_
      refine aw_bipush (v := 8) dX8_setCopies_51 (by decide) ?_
      refine aw_iload_n dX8_setCopies_53 rfl ?_
      refine aw_iadd dX8_setCopies_54 ?_
      refine aw_iload_n dX8_setCopies_55 rfl ?_
      refine aw_iastN dX8_setCopies_56 hp_161 (8 + k) (by first | rfl | (simp only [li_0, li_1, li_2, li_3, li_4, li_5, li_7, li_8, li_9, li_11, li_12, li_16, li_17, li_31, li_32, li_60, li_77, li_80, li_89, li_99, li_101, li_112, li_113, li_256, li_999, li_1023, nI_add, pk_mul])) (by omega) (by decide)  ?_
      refine aw_aload_n dX8_setCopies_57 rfl ?_
      refine aw_aload_n dX8_setCopies_58 rfl ?_
      refine aw_iload_n dX8_setCopies_59 rfl ?_
      refine aw_cVI dX8_setCopies_60 oX8_done vX8_done rfl lX8_91 kX8_done rfl (hp_160 _) rfl rfl rfl (Nat.le_of_ble_eq_true rfl) (by decide) (Nat.le_of_ble_eq_true rfl) ?_
      rintro _ d8 ⟨rfl, rfl⟩
      refine aw_cVI dX8_setCopies_63 oX8_changed vX8_changed rfl lX8_94 (kX8_changed (MC_7 (MC_g hm0 (j := 3) (k := k) (v := n) (by decide) (show k < 8 by omega) rfl rfl (QOK_up ok (by decide) (by omega) ⟨fun z => absurd z (by decide), fun z => absurd z (by decide), fun z => absurd z (by decide), fun _ => ⟨hn1, hn2⟩, fun z => absurd z (by decide), fun z => absurd z (by decide), fun z => absurd z (by decide), fun z => absurd z (by decide)⟩)) 0) 0 (by decide) (by rw [dI_s]; rfl)) rfl (hp_160 _) rfl rfl rfl (Nat.le_of_ble_eq_true rfl) (by decide) (Nat.le_of_ble_eq_true rfl) ?_
      rintro _ d2 ⟨rfl, hC⟩
      exact aw_endI dX8_setCopies_66 rfl (by unfold oSetCopies; rw [if_pos hg1, if_pos hg2, ivn (by omega), ivn (by omega)]; exact RO_ch hC (hr0.2.2.2.1 k (by omega)))
    · refine aw_aload_n dX8_setCopies_16 rfl ?_
      refine aw_iload_n dX8_setCopies_17 rfl ?_
      refine aw_cSP dX8_setCopies_18 oX8_isStation sX8_isStation rfl lX8_109 kX8_isStation rfl rfl (Nat.le_of_ble_eq_true rfl) (by decide) (Nat.le_of_ble_eq_true rfl) ?_
      refine aw_if_ne 28 dX8_setCopies_21 (by decide) (fun c21 => ?_) (fun c21 => ?_)
      · refine aw_iconst (v := 2) dX8_setCopies_28 (by decide) ?_
        refine aw_cVI dX8_setCopies_29 oX8_fails vX8_fails rfl lX8_87 kX8_fails rfl (hp_160 _) rfl rfl rfl (Nat.le_of_ble_eq_true rfl) (by decide) (Nat.le_of_ble_eq_true rfl) ?_
        rintro _ d9 ⟨rfl, rfl⟩
        exact aw_endI dX8_setCopies_32 rfl (by unfold oSetCopies; rw [if_pos (b2d_t c4), if_neg (b2d_f c13)]; exact RO_f hM (mS_r d) rfl (by decide))
      · refine aw_iconst (v := 1) dX8_setCopies_24 (by decide) ?_
        refine aw_goto (tgt := 29) dX8_setCopies_25 (by decide) ?_
        refine aw_cVI dX8_setCopies_29 oX8_fails vX8_fails rfl lX8_87 kX8_fails rfl (hp_160 _) rfl rfl rfl (Nat.le_of_ble_eq_true rfl) (by decide) (Nat.le_of_ble_eq_true rfl) ?_
        rintro _ d9 ⟨rfl, rfl⟩
        exact (c4 c21).elim

set_option maxHeartbeats 4000000 in
set_option maxRecDepth 100000 in
theorem kX8_setTime {y : Sy} {d : Dt} (hM : MR d y) {t m c : Int32} : CI mX8_setTime 3 [.ref 160, .int t, .int m, .int c] d (fun x d' => RO d d' x (oSetTime y t m c)) := by
  show AW mX8_setTime 3 true (PIx (fun x d' => RO d d' x (oSetTime y t m c)) nX) 0 0 0 [(0, .ref 160), (1, .int t), (2, .int m), (3, .int c)] [] (HP d)
  have ok := hM.1.2
  have hr := hM.1.1
  have h12 := ok.2.1
  refine aw_aload_n dX8_setTime_0 rfl ?_
  refine aw_iload_n dX8_setTime_1 rfl ?_
  refine aw_cVP dX8_setTime_2 oX8_isTask vX8_isTask rfl lX8_121 (kT8 hM.1.1) rfl (hp_160 _) rfl rfl rfl (Nat.le_of_ble_eq_true rfl) (by decide) (Nat.le_of_ble_eq_true rfl) ?_
  refine aw_if_eq 17 dX8_setTime_5 (by decide) (fun c5 => ?_) (fun c5 => ?_)
  · refine aw_aload_n dX8_setTime_17 rfl ?_
    refine aw_iconst (v := 1) dX8_setTime_18 (by decide) ?_
    refine aw_cVI dX8_setTime_19 oX8_fails vX8_fails rfl lX8_87 kX8_fails rfl (hp_160 _) rfl rfl rfl (Nat.le_of_ble_eq_true rfl) (by decide) (Nat.le_of_ble_eq_true rfl) ?_
    rintro _ d9 ⟨rfl, rfl⟩
    exact aw_endI dX8_setTime_22 rfl (by unfold oSetTime; rw [if_neg (fun z => b2d_f c5 z.1)]; exact RO_f hM (mS_r d) rfl (by decide))
  · refine aw_iload_n dX8_setTime_8 rfl ?_
    refine aw_iconst (v := 0) dX8_setTime_9 (by decide) ?_
    refine aw_iconst (v := 2) dX8_setTime_10 (by decide) ?_
    refine aw_cSP dX8_setTime_11 oX8_in sX8_in rfl lX8_74 kX8_in rfl rfl (Nat.le_of_ble_eq_true rfl) (by decide) (Nat.le_of_ble_eq_true rfl) ?_
    refine aw_if_ne 23 dX8_setTime_14 (by decide) (fun c14 => ?_) (fun c14 => ?_)
    · refine aw_iload_n dX8_setTime_23 rfl ?_
      refine aw_iconst (v := 0) dX8_setTime_24 (by decide) ?_
      refine aw_bipush (v := 99) dX8_setTime_25 (by decide) ?_
      refine aw_cSP dX8_setTime_27 oX8_in sX8_in rfl lX8_74 kX8_in rfl rfl (Nat.le_of_ble_eq_true rfl) (by decide) (Nat.le_of_ble_eq_true rfl) ?_
      refine aw_if_ne 39 dX8_setTime_30 (by decide) (fun c30 => ?_) (fun c30 => ?_)
      · have hg1 := b2d_t c5
        have hg2 := b2d_t c14
        have hg3 := b2d_t c30
        obtain ⟨k, rfl, hk⟩ := tk_nI h12 (b2d_t c5)
        obtain ⟨i, rfl, hi1, hi2⟩ := in_nI (a := 0) (b := 2) rfl rfl (by decide) (by decide) (b2d_t c14)
        obtain ⟨n, rfl, hn1, hn2⟩ := in_nI (a := 0) (b := 99) rfl rfl (by decide) (by decide) (b2d_t c30)
        refine aw_aload_n dX8_setTime_39 rfl ?_
        refine aw_cVv dX8_setTime_40 oX8_remembers vX8_remembers rfl lX8_84 (kX8_rem hM) rfl (hp_160 _) rfl rfl rfl (Nat.le_of_ble_eq_true rfl) (by decide) (Nat.le_of_ble_eq_true rfl) ?_
        rintro d1 ⟨hm0, -⟩
        have hr0 := hm0.2.2.2.1.1
        refine aw_aload_n dX8_setTime_43 rfl ?_
        refine aw_iload_n dX8_setTime_44 rfl ?_
        refine aw_iload_n dX8_setTime_45 rfl ?_
        refine aw_cVP dX8_setTime_46 oX8_of vX8_of rfl lX8_124 (kX8_of (t := k) (w := i) (by omega) (by omega)) rfl (hp_160 _) rfl rfl rfl (Nat.le_of_ble_eq_true rfl) (by decide) (Nat.le_of_ble_eq_true rfl) ?_
        refine aw_istore dX8_setTime_49 (by decide) rfl ?_
        refine aw_aload_n dX8_setTime_51 rfl ?_
        refine aw_iload_n dX8_setTime_52 rfl ?_
        refine aw_iload_n dX8_setTime_53 rfl ?_
        refine aw_iload_n dX8_setTime_54 rfl ?_
        refine aw_cVv dX8_setTime_55 oX8_sets vX8_sets rfl lX8_113 (kX8_sets (t := k) (w := i) (by omega) (by omega)) rfl (hp_160 _) rfl rfl rfl (Nat.le_of_ble_eq_true rfl) (by decide) (Nat.le_of_ble_eq_true rfl) ?_
        rintro d7 rfl
        refine aw_aload_n dX8_setTime_58 rfl ?_
        refine aw_aload_n dX8_setTime_59 rfl ?_
        refine aw_iload dX8_setTime_60 rfl ?_
        refine aw_cVI dX8_setTime_62 oX8_done vX8_done rfl lX8_91 kX8_done rfl (hp_160 _) rfl rfl rfl (Nat.le_of_ble_eq_true rfl) (by decide) (Nat.le_of_ble_eq_true rfl) ?_
        rintro _ d8 ⟨rfl, rfl⟩
        refine aw_cVI dX8_setTime_65 oX8_changed vX8_changed rfl lX8_94 (kX8_changed (MC_7 (MC_g hm0 (j := 4) (k := (3 * k + i)) (v := n) (by decide) (show (3 * k + i) < 36 by omega) (by show 17 + 5 * k + i = 17 + 5 * ((3 * k + i) / 3) + (3 * k + i) % 3; omega) rfl (QOK_up ok (by decide) (by omega) ⟨fun z => absurd z (by decide), fun z => absurd z (by decide), fun z => absurd z (by decide), fun z => absurd z (by decide), fun _ => hn2, fun z => absurd z (by decide), fun z => absurd z (by decide), fun z => absurd z (by decide)⟩)) 0) 0 (by decide) (by rw [dI_s]; rfl)) rfl (hp_160 _) rfl rfl rfl (Nat.le_of_ble_eq_true rfl) (by decide) (Nat.le_of_ble_eq_true rfl) ?_
        rintro _ d2 ⟨rfl, hC⟩
        exact aw_endI dX8_setTime_68 rfl (by unfold oSetTime; rw [if_pos ⟨hg1, hg2⟩, if_pos hg3, ivn (by omega), ivn (by omega), ivn (by omega)]; exact RO_ch hC ((hr0.2.2.2.2.1 k hk).1 i (by omega)))
      · refine aw_aload_n dX8_setTime_33 rfl ?_
        refine aw_iconst (v := 2) dX8_setTime_34 (by decide) ?_
        refine aw_cVI dX8_setTime_35 oX8_fails vX8_fails rfl lX8_87 kX8_fails rfl (hp_160 _) rfl rfl rfl (Nat.le_of_ble_eq_true rfl) (by decide) (Nat.le_of_ble_eq_true rfl) ?_
        rintro _ d9 ⟨rfl, rfl⟩
        exact aw_endI dX8_setTime_38 rfl (by unfold oSetTime; rw [if_pos ⟨b2d_t c5, b2d_t c14⟩, if_neg (b2d_f c30)]; exact RO_f hM (mS_r d) rfl (by decide))
    · refine aw_aload_n dX8_setTime_17 rfl ?_
      refine aw_iconst (v := 1) dX8_setTime_18 (by decide) ?_
      refine aw_cVI dX8_setTime_19 oX8_fails vX8_fails rfl lX8_87 kX8_fails rfl (hp_160 _) rfl rfl rfl (Nat.le_of_ble_eq_true rfl) (by decide) (Nat.le_of_ble_eq_true rfl) ?_
      rintro _ d9 ⟨rfl, rfl⟩
      exact aw_endI dX8_setTime_22 rfl (by unfold oSetTime; rw [if_neg (fun z => b2d_f c14 z.2)]; exact RO_f hM (mS_r d) rfl (by decide))

set_option maxHeartbeats 4000000 in
set_option maxRecDepth 100000 in
theorem kX8_setTool {y : Sy} {d : Dt} (hM : MR d y) {t c : Int32} : CI mX8_setTool 3 [.ref 160, .int t, .int c] d (fun x d' => RO d d' x (oSetTool y t c)) := by
  show AW mX8_setTool 3 true (PIx (fun x d' => RO d d' x (oSetTool y t c)) nX) 0 0 0 [(0, .ref 160), (1, .int t), (2, .int c)] [] (HP d)
  have ok := hM.1.2
  have hr := hM.1.1
  have h12 := ok.2.1
  refine aw_aload_n dX8_setTool_0 rfl ?_
  refine aw_iload_n dX8_setTool_1 rfl ?_
  refine aw_cVP dX8_setTool_2 oX8_isTask vX8_isTask rfl lX8_121 (kT8 hM.1.1) rfl (hp_160 _) rfl rfl rfl (Nat.le_of_ble_eq_true rfl) (by decide) (Nat.le_of_ble_eq_true rfl) ?_
  refine aw_if_eq 17 dX8_setTool_5 (by decide) (fun c5 => ?_) (fun c5 => ?_)
  · refine aw_aload_n dX8_setTool_17 rfl ?_
    refine aw_aload_n dX8_setTool_18 rfl ?_
    refine aw_iload_n dX8_setTool_19 rfl ?_
    refine aw_cVP dX8_setTool_20 oX8_isTask vX8_isTask rfl lX8_121 (kT8 hM.1.1) rfl (hp_160 _) rfl rfl rfl (Nat.le_of_ble_eq_true rfl) (by decide) (Nat.le_of_ble_eq_true rfl) ?_
    refine aw_if_ne 30 dX8_setTool_23 (by decide) (fun c23 => ?_) (fun c23 => ?_)
    · refine aw_iconst (v := 2) dX8_setTool_30 (by decide) ?_
      refine aw_cVI dX8_setTool_31 oX8_fails vX8_fails rfl lX8_87 kX8_fails rfl (hp_160 _) rfl rfl rfl (Nat.le_of_ble_eq_true rfl) (by decide) (Nat.le_of_ble_eq_true rfl) ?_
      rintro _ d9 ⟨rfl, rfl⟩
      exact (c23 c5).elim
    · refine aw_iconst (v := 1) dX8_setTool_26 (by decide) ?_
      refine aw_goto (tgt := 31) dX8_setTool_27 (by decide) ?_
      refine aw_cVI dX8_setTool_31 oX8_fails vX8_fails rfl lX8_87 kX8_fails rfl (hp_160 _) rfl rfl rfl (Nat.le_of_ble_eq_true rfl) (by decide) (Nat.le_of_ble_eq_true rfl) ?_
      rintro _ d9 ⟨rfl, rfl⟩
      exact aw_endI dX8_setTool_34 rfl (by unfold oSetTool; rw [if_neg (b2d_f c5)]; exact RO_f hM (mS_r d) rfl (by decide))
  · refine aw_iload_n dX8_setTool_8 rfl ?_
    refine aw_iconst (v := 0) dX8_setTool_9 (by decide) ?_
    refine aw_iconst (v := 5) dX8_setTool_10 (by decide) ?_
    refine aw_cSP dX8_setTool_11 oX8_in sX8_in rfl lX8_74 kX8_in rfl rfl (Nat.le_of_ble_eq_true rfl) (by decide) (Nat.le_of_ble_eq_true rfl) ?_
    refine aw_if_ne 35 dX8_setTool_14 (by decide) (fun c14 => ?_) (fun c14 => ?_)
    · have hg1 := b2d_t c5
      have hg2 := b2d_t c14
      obtain ⟨k, rfl, hk⟩ := tk_nI h12 (b2d_t c5)
      obtain ⟨n, rfl, hn1, hn2⟩ := in_nI (a := 0) (b := 5) rfl rfl (by decide) (by decide) (b2d_t c14)
      refine aw_aload_n dX8_setTool_35 rfl ?_
      refine aw_cVv dX8_setTool_36 oX8_remembers vX8_remembers rfl lX8_84 (kX8_rem hM) rfl (hp_160 _) rfl rfl rfl (Nat.le_of_ble_eq_true rfl) (by decide) (Nat.le_of_ble_eq_true rfl) ?_
      rintro d1 ⟨hm0, -⟩
      have hr0 := hm0.2.2.2.1.1
      refine aw_aload_n dX8_setTool_39 rfl ?_
      refine aw_iload_n dX8_setTool_40 rfl ?_
      refine aw_iconst (v := 3) dX8_setTool_41 (by decide) ?_
      refine aw_cVP dX8_setTool_42 oX8_of vX8_of rfl lX8_124 (kX8_of (t := k) (w := 3) (by omega) (by omega)) rfl (hp_160 _) rfl rfl rfl (Nat.le_of_ble_eq_true rfl) (by decide) (Nat.le_of_ble_eq_true rfl) ?_
      refine aw_istore_n dX8_setTool_45 (by decide) rfl ?_
      refine aw_aload_n dX8_setTool_46 rfl ?_
      refine aw_iload_n dX8_setTool_47 rfl ?_
      refine aw_iconst (v := 3) dX8_setTool_48 (by decide) ?_
      refine aw_iload_n dX8_setTool_49 rfl ?_
      refine aw_cVv dX8_setTool_50 oX8_sets vX8_sets rfl lX8_113 (kX8_sets (t := k) (w := 3) (by omega) (by omega)) rfl (hp_160 _) rfl rfl rfl (Nat.le_of_ble_eq_true rfl) (by decide) (Nat.le_of_ble_eq_true rfl) ?_
      rintro d7 rfl
      refine aw_aload_n dX8_setTool_53 rfl ?_
      refine aw_aload_n dX8_setTool_54 rfl ?_
      refine aw_iload_n dX8_setTool_55 rfl ?_
      refine aw_cVI dX8_setTool_56 oX8_done vX8_done rfl lX8_91 kX8_done rfl (hp_160 _) rfl rfl rfl (Nat.le_of_ble_eq_true rfl) (by decide) (Nat.le_of_ble_eq_true rfl) ?_
      rintro _ d8 ⟨rfl, rfl⟩
      refine aw_cVI dX8_setTool_59 oX8_changed vX8_changed rfl lX8_94 (kX8_changed (MC_7 (MC_g hm0 (j := 5) (k := k) (v := n) (by decide) (show k < 12 by omega) rfl rfl (QOK_up ok (by decide) (by omega) ⟨fun z => absurd z (by decide), fun z => absurd z (by decide), fun z => absurd z (by decide), fun z => absurd z (by decide), fun z => absurd z (by decide), fun _ => hn2, fun z => absurd z (by decide), fun z => absurd z (by decide)⟩)) 0) 0 (by decide) (by rw [dI_s]; rfl)) rfl (hp_160 _) rfl rfl rfl (Nat.le_of_ble_eq_true rfl) (by decide) (Nat.le_of_ble_eq_true rfl) ?_
      rintro _ d2 ⟨rfl, hC⟩
      exact aw_endI dX8_setTool_62 rfl (by unfold oSetTool; rw [if_pos hg1, if_pos hg2, ivn (by omega), ivn (by omega)]; exact RO_ch hC (hr0.2.2.2.2.1 k hk).2.1)
    · refine aw_aload_n dX8_setTool_17 rfl ?_
      refine aw_aload_n dX8_setTool_18 rfl ?_
      refine aw_iload_n dX8_setTool_19 rfl ?_
      refine aw_cVP dX8_setTool_20 oX8_isTask vX8_isTask rfl lX8_121 (kT8 hM.1.1) rfl (hp_160 _) rfl rfl rfl (Nat.le_of_ble_eq_true rfl) (by decide) (Nat.le_of_ble_eq_true rfl) ?_
      refine aw_if_ne 30 dX8_setTool_23 (by decide) (fun c23 => ?_) (fun c23 => ?_)
      · refine aw_iconst (v := 2) dX8_setTool_30 (by decide) ?_
        refine aw_cVI dX8_setTool_31 oX8_fails vX8_fails rfl lX8_87 kX8_fails rfl (hp_160 _) rfl rfl rfl (Nat.le_of_ble_eq_true rfl) (by decide) (Nat.le_of_ble_eq_true rfl) ?_
        rintro _ d9 ⟨rfl, rfl⟩
        exact aw_endI dX8_setTool_34 rfl (by unfold oSetTool; rw [if_pos (b2d_t c5), if_neg (b2d_f c14)]; exact RO_f hM (mS_r d) rfl (by decide))
      · refine aw_iconst (v := 1) dX8_setTool_26 (by decide) ?_
        refine aw_goto (tgt := 31) dX8_setTool_27 (by decide) ?_
        refine aw_cVI dX8_setTool_31 oX8_fails vX8_fails rfl lX8_87 kX8_fails rfl (hp_160 _) rfl rfl rfl (Nat.le_of_ble_eq_true rfl) (by decide) (Nat.le_of_ble_eq_true rfl) ?_
        rintro _ d9 ⟨rfl, rfl⟩
        exact (c5 c23).elim

set_option maxHeartbeats 4000000 in
set_option maxRecDepth 100000 in
theorem kX8_isRule {a b : Int32} {d : Dt} : CP mX8_isRule 2 [.int a, .int b] d (b2i (decide (rlB a b))) := by
  show AW mX8_isRule 2 true (PIx (fun y d' => y = b2i (decide (rlB a b)) ∧ d' = d) nX) 0 0 0 [(0, .int a), (1, .int b)] [] (HP d)
  by_cases h0 : a = 0
  · subst h0
    refine aw_iload_n dX8_isRule_0 rfl ?_
    refine aw_tabIn (off := 27) (tgt := 28) dX8_isRule_1 (by decide) (by decide) (by decide) (by decide) ?_
    refine aw_iload_n dX8_isRule_28 rfl ?_
    refine aw_bipush (v := 10) dX8_isRule_29 (by decide) ?_
    refine aw_sipush (v := 999) dX8_isRule_31 (by decide) ?_
    refine aw_cSP dX8_isRule_34 oX8_in sX8_in rfl lX8_74 kX8_in rfl rfl (Nat.le_of_ble_eq_true rfl) (by decide) (Nat.le_of_ble_eq_true rfl) ?_
    exact aw_endZ dX8_isRule_37 rfl (by first | exact b2i_nar _ | decide) (by exact ⟨bde ⟨fun z => Or.inl ⟨rfl, z⟩, fun z => by rcases z with z | z | z | z; exact z.2; exact absurd z.1 (by decide); exact absurd z.1 (by decide); exact absurd z.1 (by decide)⟩, rfl⟩)
  by_cases h1 : a = 1
  · subst h1
    refine aw_iload_n dX8_isRule_0 rfl ?_
    refine aw_tabIn (off := 37) (tgt := 38) dX8_isRule_1 (by decide) (by decide) (by decide) (by decide) ?_
    refine aw_iload_n dX8_isRule_38 rfl ?_
    refine aw_iconst (v := 0) dX8_isRule_39 (by decide) ?_
    refine aw_bipush (v := 20) dX8_isRule_40 (by decide) ?_
    refine aw_cSP dX8_isRule_42 oX8_in sX8_in rfl lX8_74 kX8_in rfl rfl (Nat.le_of_ble_eq_true rfl) (by decide) (Nat.le_of_ble_eq_true rfl) ?_
    exact aw_endZ dX8_isRule_45 rfl (by first | exact b2i_nar _ | decide) (by exact ⟨bde ⟨fun z => Or.inr (Or.inl ⟨rfl, z⟩), fun z => by rcases z with z | z | z | z; exact absurd z.1 (by decide); exact z.2; exact absurd z.1 (by decide); exact absurd z.1 (by decide)⟩, rfl⟩)
  by_cases h2 : a = 2
  · subst h2
    refine aw_iload_n dX8_isRule_0 rfl ?_
    refine aw_tabIn (off := 45) (tgt := 46) dX8_isRule_1 (by decide) (by decide) (by decide) (by decide) ?_
    refine aw_iload_n dX8_isRule_46 rfl ?_
    refine aw_iconst (v := 1) dX8_isRule_47 (by decide) ?_
    refine aw_iconst (v := 5) dX8_isRule_48 (by decide) ?_
    refine aw_cSP dX8_isRule_49 oX8_in sX8_in rfl lX8_74 kX8_in rfl rfl (Nat.le_of_ble_eq_true rfl) (by decide) (Nat.le_of_ble_eq_true rfl) ?_
    exact aw_endZ dX8_isRule_52 rfl (by first | exact b2i_nar _ | decide) (by exact ⟨bde ⟨fun z => Or.inr (Or.inr (Or.inl ⟨rfl, z⟩)), fun z => by rcases z with z | z | z | z; exact absurd z.1 (by decide); exact absurd z.1 (by decide); exact z.2; exact absurd z.1 (by decide)⟩, rfl⟩)
  refine aw_iload_n dX8_isRule_0 rfl ?_
  refine aw_tabOut (tgt := 53) dX8_isRule_1 (tab3 h0 h1 h2) (by decide) ?_
  refine aw_iload_n dX8_isRule_53 rfl ?_
  refine aw_iconst (v := 3) dX8_isRule_54 (by decide) ?_
  refine aw_icmp_ne 71 dX8_isRule_55 (by decide) (fun c55 => ?_) (fun c55 => ?_)
  · refine aw_iconst (v := 0) dX8_isRule_71 (by decide) ?_
    exact aw_endZ dX8_isRule_72 rfl (by first | exact b2i_nar _ | decide) (by exact ⟨(b2i_f (fun z => by rcases z with z | z | z | z; exact h0 z.1; exact h1 z.1; exact h2 z.1; exact c55 z.1)).symm, rfl⟩)
  · refine aw_iload_n dX8_isRule_58 rfl ?_
    refine aw_iconst (v := 0) dX8_isRule_59 (by decide) ?_
    refine aw_iconst (v := 1) dX8_isRule_60 (by decide) ?_
    refine aw_cSP dX8_isRule_61 oX8_in sX8_in rfl lX8_74 kX8_in rfl rfl (Nat.le_of_ble_eq_true rfl) (by decide) (Nat.le_of_ble_eq_true rfl) ?_
    refine aw_if_eq 71 dX8_isRule_64 (by decide) (fun c64 => ?_) (fun c64 => ?_)
    · refine aw_iconst (v := 0) dX8_isRule_71 (by decide) ?_
      exact aw_endZ dX8_isRule_72 rfl (by first | exact b2i_nar _ | decide) (by exact ⟨(b2i_f (fun z => by rcases z with z | z | z | z; exact h0 z.1; exact h1 z.1; exact h2 z.1; exact b2d_f c64 z.2)).symm, rfl⟩)
    · refine aw_iconst (v := 1) dX8_isRule_67 (by decide) ?_
      refine aw_goto (tgt := 72) dX8_isRule_68 (by decide) ?_
      exact aw_endZ dX8_isRule_72 rfl (by first | exact b2i_nar _ | decide) (by exact ⟨(b2i_t (Or.inr (Or.inr (Or.inr ⟨c55, b2d_t c64⟩)))).symm, rfl⟩)

set_option maxHeartbeats 4000000 in
set_option maxRecDepth 100000 in
theorem kX8_setsRule {q : St} {w : Nat} {d : Dt} (hr : RR (d.1 161) q) (ok : QOK q) (hw : d.1 160 6 = nI w) (hw6 : w ≤ 6) {a b : Int32} : CI mX8_setsRule 3 [.ref 160, .int a, .int b] d (fun x d' => IO d d' x (iRule q w a b)) := by
  show AW mX8_setsRule 3 true (PIx (fun x d' => IO d d' x (iRule q w a b)) nX) 0 0 0 [(0, .ref 160), (1, .int a), (2, .int b)] [] (HP d)
  have h12 := ok.2.1
  have hp12 := pow12 h12
  refine aw_iload_n dX8_setsRule_0 rfl ?_
  refine aw_iload_n dX8_setsRule_1 rfl ?_
  refine aw_cSP dX8_setsRule_2 oX8_isRule sX8_isRule rfl lX8_97 kX8_isRule rfl rfl (Nat.le_of_ble_eq_true rfl) (by decide) (Nat.le_of_ble_eq_true rfl) ?_
  refine aw_if_ne 14 dX8_setsRule_5 (by decide) (fun c5 => ?_) (fun c5 => ?_)
  · have hg := b2d_t c5
    obtain ⟨k, n, rfl, rfl, hk, hq, hkn⟩ := rl_nI ok (b2d_t c5)
    refine aw_aload_n dX8_setsRule_14 rfl ?_
    refine aw_gf dX8_setsRule_15 (hp_160 _) rfl fX8_7 (by decide) rfl ?_
    refine aw_iconst (v := 4) dX8_setsRule_18 (by decide) ?_
    refine aw_iload_n dX8_setsRule_19 rfl ?_
    refine aw_iadd dX8_setsRule_20 ?_
    refine aw_ialdN dX8_setsRule_21 (hp_161 _) rfl (4 + k) (by first | rfl | (simp only [li_0, li_1, li_2, li_3, li_4, li_5, li_7, li_8, li_9, li_11, li_12, li_16, li_17, li_31, li_32, li_60, li_77, li_80, li_89, li_99, li_101, li_112, li_113, li_256, li_999, li_1023, nI_add, pk_mul])) (by omega) (by decide) ?_
    refine aw_istore_n dX8_setsRule_22 (by decide) rfl ?_
    refine aw_aload_n dX8_setsRule_23 rfl ?_
    refine aw_gf dX8_setsRule_24 (hp_160 _) rfl fX8_7 (by decide) rfl ?_
    refine aw_iconst (v := 4) dX8_setsRule_27 (by decide) ?_
    refine aw_iload_n dX8_setsRule_28 rfl ?_
    refine aw_iadd dX8_setsRule_29 ?_
    refine aw_iload_n dX8_setsRule_30 rfl ?_
    refine aw_iastN dX8_setsRule_31 hp_161 (4 + k) (by first | rfl | (simp only [li_0, li_1, li_2, li_3, li_4, li_5, li_7, li_8, li_9, li_11, li_12, li_16, li_17, li_31, li_32, li_60, li_77, li_80, li_89, li_99, li_101, li_112, li_113, li_256, li_999, li_1023, nI_add, pk_mul])) (by omega) (by decide)  ?_
    refine aw_aload_n dX8_setsRule_32 rfl ?_
    refine aw_iload_n dX8_setsRule_33 rfl ?_
    refine aw_cVI dX8_setsRule_34 oX8_done vX8_done rfl lX8_91 kX8_done rfl (hp_160 _) rfl rfl rfl (Nat.le_of_ble_eq_true rfl) (by decide) (Nat.le_of_ble_eq_true rfl) ?_
    rintro _ d8 ⟨rfl, rfl⟩
    exact aw_endI dX8_setsRule_37 rfl (by unfold iRule; rw [if_pos hg, ivn (by omega), ivn (by omega)]; exact IO_d (mI_g (mI_r d) _) (by rw [dI_s]; exact RR_up (j := 2) (k := k) (v := n) hr h12 (by decide) hk rfl rfl) hq (by rw [dI_n _ _ (by decide)]; exact hw) hw6 (hr.2.2.1 k hk))
  · refine aw_aload_n dX8_setsRule_8 rfl ?_
    refine aw_iconst (v := 1) dX8_setsRule_9 (by decide) ?_
    refine aw_cVI dX8_setsRule_10 oX8_fails vX8_fails rfl lX8_87 kX8_fails rfl (hp_160 _) rfl rfl rfl (Nat.le_of_ble_eq_true rfl) (by decide) (Nat.le_of_ble_eq_true rfl) ?_
    rintro _ d9 ⟨rfl, rfl⟩
    exact aw_endI dX8_setsRule_13 rfl (by unfold iRule; rw [if_neg (b2d_f c5)]; exact IO_f hr ok hw hw6 rfl (by decide) (by decide))

set_option maxHeartbeats 4000000 in
set_option maxRecDepth 100000 in
theorem kX8_addsTask {q : St} {w : Nat} {d : Dt} (hr : RR (d.1 161) q) (ok : QOK q) (hw : d.1 160 6 = nI w) (hw6 : w ≤ 6) {a b c e : Int32} : CI mX8_addsTask 3 [.ref 160, .int a, .int b, .int c, .int e] d (fun x d' => IO d d' x (iAdd q w a b c e)) := by
  show AW mX8_addsTask 3 true (PIx (fun x d' => IO d d' x (iAdd q w a b c e)) nX) 0 0 0 [(0, .ref 160), (1, .int a), (2, .int b), (3, .int c), (4, .int e)] [] (HP d)
  have h12 := ok.2.1
  have hp12 := pow12 h12
  refine aw_iload_n dX8_addsTask_0 rfl ?_
  refine aw_iconst (v := 0) dX8_addsTask_1 (by decide) ?_
  refine aw_bipush (v := 99) dX8_addsTask_2 (by decide) ?_
  refine aw_cSP dX8_addsTask_4 oX8_in sX8_in rfl lX8_74 kX8_in rfl rfl (Nat.le_of_ble_eq_true rfl) (by decide) (Nat.le_of_ble_eq_true rfl) ?_
  refine aw_if_eq 40 dX8_addsTask_7 (by decide) (fun c7 => ?_) (fun c7 => ?_)
  · refine aw_aload_n dX8_addsTask_40 rfl ?_
    refine aw_iconst (v := 1) dX8_addsTask_41 (by decide) ?_
    refine aw_cVI dX8_addsTask_42 oX8_fails vX8_fails rfl lX8_87 kX8_fails rfl (hp_160 _) rfl rfl rfl (Nat.le_of_ble_eq_true rfl) (by decide) (Nat.le_of_ble_eq_true rfl) ?_
    rintro _ d9 ⟨rfl, rfl⟩
    exact aw_endI dX8_addsTask_45 rfl (by unfold iAdd; rw [if_neg (fun z => b2d_f c7 z.1)]; exact IO_f hr ok hw hw6 rfl (by decide) (by decide))
  · refine aw_iload_n dX8_addsTask_10 rfl ?_
    refine aw_iconst (v := 0) dX8_addsTask_11 (by decide) ?_
    refine aw_bipush (v := 99) dX8_addsTask_12 (by decide) ?_
    refine aw_cSP dX8_addsTask_14 oX8_in sX8_in rfl lX8_74 kX8_in rfl rfl (Nat.le_of_ble_eq_true rfl) (by decide) (Nat.le_of_ble_eq_true rfl) ?_
    refine aw_if_eq 40 dX8_addsTask_17 (by decide) (fun c17 => ?_) (fun c17 => ?_)
    · refine aw_aload_n dX8_addsTask_40 rfl ?_
      refine aw_iconst (v := 1) dX8_addsTask_41 (by decide) ?_
      refine aw_cVI dX8_addsTask_42 oX8_fails vX8_fails rfl lX8_87 kX8_fails rfl (hp_160 _) rfl rfl rfl (Nat.le_of_ble_eq_true rfl) (by decide) (Nat.le_of_ble_eq_true rfl) ?_
      rintro _ d9 ⟨rfl, rfl⟩
      exact aw_endI dX8_addsTask_45 rfl (by unfold iAdd; rw [if_neg (fun z => b2d_f c17 z.2.1)]; exact IO_f hr ok hw hw6 rfl (by decide) (by decide))
    · refine aw_iload_n dX8_addsTask_20 rfl ?_
      refine aw_iconst (v := 0) dX8_addsTask_21 (by decide) ?_
      refine aw_bipush (v := 99) dX8_addsTask_22 (by decide) ?_
      refine aw_cSP dX8_addsTask_24 oX8_in sX8_in rfl lX8_74 kX8_in rfl rfl (Nat.le_of_ble_eq_true rfl) (by decide) (Nat.le_of_ble_eq_true rfl) ?_
      refine aw_if_eq 40 dX8_addsTask_27 (by decide) (fun c27 => ?_) (fun c27 => ?_)
      · refine aw_aload_n dX8_addsTask_40 rfl ?_
        refine aw_iconst (v := 1) dX8_addsTask_41 (by decide) ?_
        refine aw_cVI dX8_addsTask_42 oX8_fails vX8_fails rfl lX8_87 kX8_fails rfl (hp_160 _) rfl rfl rfl (Nat.le_of_ble_eq_true rfl) (by decide) (Nat.le_of_ble_eq_true rfl) ?_
        rintro _ d9 ⟨rfl, rfl⟩
        exact aw_endI dX8_addsTask_45 rfl (by unfold iAdd; rw [if_neg (fun z => b2d_f c27 z.2.2.1)]; exact IO_f hr ok hw hw6 rfl (by decide) (by decide))
      · refine aw_iload dX8_addsTask_30 rfl ?_
        refine aw_iconst (v := 0) dX8_addsTask_32 (by decide) ?_
        refine aw_iconst (v := 5) dX8_addsTask_33 (by decide) ?_
        refine aw_cSP dX8_addsTask_34 oX8_in sX8_in rfl lX8_74 kX8_in rfl rfl (Nat.le_of_ble_eq_true rfl) (by decide) (Nat.le_of_ble_eq_true rfl) ?_
        refine aw_if_ne 46 dX8_addsTask_37 (by decide) (fun c37 => ?_) (fun c37 => ?_)
        · have hg : _ ∧ _ ∧ _ ∧ _ := ⟨b2d_t c7, b2d_t c17, b2d_t c27, b2d_t c37⟩
          obtain ⟨na, rfl, hna1, hna2⟩ := in_nI (a := 0) (b := 99) rfl rfl (by decide) (by decide) (b2d_t c7)
          obtain ⟨nb, rfl, hnb1, hnb2⟩ := in_nI (a := 0) (b := 99) rfl rfl (by decide) (by decide) (b2d_t c17)
          obtain ⟨nc, rfl, hnc1, hnc2⟩ := in_nI (a := 0) (b := 99) rfl rfl (by decide) (by decide) (b2d_t c27)
          obtain ⟨ne, rfl, hne1, hne2⟩ := in_nI (a := 0) (b := 5) rfl rfl (by decide) (by decide) (b2d_t c37)
          refine aw_aload_n dX8_addsTask_46 rfl ?_
          refine aw_gf dX8_addsTask_47 (hp_160 _) rfl fX8_7 (by decide) rfl ?_
          refine aw_bipush (v := 16) dX8_addsTask_50 (by decide) ?_
          refine aw_ialdN dX8_addsTask_52 (hp_161 _) rfl (16) (by first | rfl | (simp only [li_0, li_1, li_2, li_3, li_4, li_5, li_7, li_8, li_9, li_11, li_12, li_16, li_17, li_31, li_32, li_60, li_77, li_80, li_89, li_99, li_101, li_112, li_113, li_256, li_999, li_1023, nI_add, pk_mul])) (by omega) (by decide) ?_
          refine aw_bipush (v := 12) dX8_addsTask_53 (by decide) ?_
          refine aw_icmp_ne 64 dX8_addsTask_55 (by decide) (fun c55 => ?_) (fun c55 => ?_)
          · have hne : q 0 1 ≠ 12 := fun z => c55 (by rw [hr.1.2, z]; rfl)
            have hx16 := hr.1.2
            refine aw_aload_n dX8_addsTask_64 rfl ?_
            refine aw_gf dX8_addsTask_65 (hp_160 _) rfl fX8_7 (by decide) rfl ?_
            refine aw_bipush (v := 16) dX8_addsTask_68 (by decide) ?_
            refine aw_ialdN dX8_addsTask_70 (hp_161 _) rfl (16) (by first | rfl | (simp only [li_0, li_1, li_2, li_3, li_4, li_5, li_7, li_8, li_9, li_11, li_12, li_16, li_17, li_31, li_32, li_60, li_77, li_80, li_89, li_99, li_101, li_112, li_113, li_256, li_999, li_1023, nI_add, pk_mul])) (by omega) (by decide) ?_
            refine aw_istore dX8_addsTask_71 (by decide) rfl ?_
            rw [hx16]
            refine aw_aload_n dX8_addsTask_73 rfl ?_
            refine aw_iload dX8_addsTask_74 rfl ?_
            refine aw_iconst (v := 0) dX8_addsTask_76 (by decide) ?_
            refine aw_iload_n dX8_addsTask_77 rfl ?_
            refine aw_cVv dX8_addsTask_78 oX8_sets vX8_sets rfl lX8_113 (kX8_sets (t := q 0 1) (w := 0) (by omega) (by omega)) rfl (hp_160 _) rfl rfl rfl (Nat.le_of_ble_eq_true rfl) (by decide) (Nat.le_of_ble_eq_true rfl) ?_
            rintro _ rfl
            refine aw_aload_n dX8_addsTask_81 rfl ?_
            refine aw_iload dX8_addsTask_82 rfl ?_
            refine aw_iconst (v := 1) dX8_addsTask_84 (by decide) ?_
            refine aw_iload_n dX8_addsTask_85 rfl ?_
            refine aw_cVv dX8_addsTask_86 oX8_sets vX8_sets rfl lX8_113 (kX8_sets (t := q 0 1) (w := 1) (by omega) (by omega)) rfl (hp_160 _) rfl rfl rfl (Nat.le_of_ble_eq_true rfl) (by decide) (Nat.le_of_ble_eq_true rfl) ?_
            rintro _ rfl
            refine aw_aload_n dX8_addsTask_89 rfl ?_
            refine aw_iload dX8_addsTask_90 rfl ?_
            refine aw_iconst (v := 2) dX8_addsTask_92 (by decide) ?_
            refine aw_iload_n dX8_addsTask_93 rfl ?_
            refine aw_cVv dX8_addsTask_94 oX8_sets vX8_sets rfl lX8_113 (kX8_sets (t := q 0 1) (w := 2) (by omega) (by omega)) rfl (hp_160 _) rfl rfl rfl (Nat.le_of_ble_eq_true rfl) (by decide) (Nat.le_of_ble_eq_true rfl) ?_
            rintro _ rfl
            refine aw_aload_n dX8_addsTask_97 rfl ?_
            refine aw_iload dX8_addsTask_98 rfl ?_
            refine aw_iconst (v := 3) dX8_addsTask_100 (by decide) ?_
            refine aw_iload dX8_addsTask_101 rfl ?_
            refine aw_cVv dX8_addsTask_103 oX8_sets vX8_sets rfl lX8_113 (kX8_sets (t := q 0 1) (w := 3) (by omega) (by omega)) rfl (hp_160 _) rfl rfl rfl (Nat.le_of_ble_eq_true rfl) (by decide) (Nat.le_of_ble_eq_true rfl) ?_
            rintro _ rfl
            refine aw_aload_n dX8_addsTask_106 rfl ?_
            refine aw_iload dX8_addsTask_107 rfl ?_
            refine aw_iconst (v := 4) dX8_addsTask_109 (by decide) ?_
            refine aw_iconst (v := (-1)) dX8_addsTask_110 (by decide) ?_
            refine aw_cVv dX8_addsTask_111 oX8_sets vX8_sets rfl lX8_113 (kX8_sets (t := q 0 1) (w := 4) (by omega) (by omega)) rfl (hp_160 _) rfl rfl rfl (Nat.le_of_ble_eq_true rfl) (by decide) (Nat.le_of_ble_eq_true rfl) ?_
            rintro _ rfl
            refine aw_aload_n dX8_addsTask_114 rfl ?_
            refine aw_gf dX8_addsTask_115 (hp_160 _) rfl fX8_7 (by decide) rfl ?_
            refine aw_bipush (v := 16) dX8_addsTask_118 (by decide) ?_
            refine aw_dup2 dX8_addsTask_120 rfl rfl ?_
            refine aw_ialdN dX8_addsTask_121 (hp_161 _) rfl (16) (by first | rfl | (simp only [li_0, li_1, li_2, li_3, li_4, li_5, li_7, li_8, li_9, li_11, li_12, li_16, li_17, li_31, li_32, li_60, li_77, li_80, li_89, li_99, li_101, li_112, li_113, li_256, li_999, li_1023, nI_add, pk_mul])) (by omega) (by decide) ?_
            refine aw_iconst (v := 1) dX8_addsTask_122 (by decide) ?_
            refine aw_iadd dX8_addsTask_123 ?_
            simp only [dI_dI, dI_s]
            rw [show upd (upd (upd (upd (upd (d.1 161) (17 + 5 * q 0 1 + 0) (nI na)) (17 + 5 * q 0 1 + 1) (nI nb)) (17 + 5 * q 0 1 + 2) (nI nc)) (17 + 5 * q 0 1 + 3) (nI ne)) (17 + 5 * q 0 1 + 4) (-1) 16 = nI (q 0 1) from by simp only [upd]; (repeat rw [if_neg (by omega)]); exact hx16, nI_1]
            refine aw_iastN dX8_addsTask_124 hp_161 (16) (by first | rfl | (simp only [li_0, li_1, li_2, li_3, li_4, li_5, li_7, li_8, li_9, li_11, li_12, li_16, li_17, li_31, li_32, li_60, li_77, li_80, li_89, li_99, li_101, li_112, li_113, li_256, li_999, li_1023, nI_add, pk_mul])) (by omega) (by decide)  ?_
            refine aw_aload_n dX8_addsTask_125 rfl ?_
            refine aw_iload dX8_addsTask_126 rfl ?_
            refine aw_cVI dX8_addsTask_128 oX8_done vX8_done rfl lX8_91 kX8_done rfl (hp_160 _) rfl rfl rfl (Nat.le_of_ble_eq_true rfl) (by decide) (Nat.le_of_ble_eq_true rfl) ?_
            rintro _ d8 ⟨rfl, rfl⟩
            exact aw_endI dX8_addsTask_131 rfl (by unfold iAdd; rw [if_pos hg, if_neg hne, ivn (by omega), ivn (by omega), ivn (by omega), ivn (by omega)]; simp only [dI_dI, dI_s]; exact IO_d (mI_g (mI_r d) _) (by rw [dI_s]; exact RR_add hr ok (by omega) na nb nc ne) (QOK_add ok (by omega) hna2 hnb2 hnc2 hne2) (by rw [dI_n _ _ (by decide)]; exact hw) hw6 rfl)
          · refine aw_aload_n dX8_addsTask_58 rfl ?_
            refine aw_iconst (v := 2) dX8_addsTask_59 (by decide) ?_
            refine aw_cVI dX8_addsTask_60 oX8_fails vX8_fails rfl lX8_87 kX8_fails rfl (hp_160 _) rfl rfl rfl (Nat.le_of_ble_eq_true rfl) (by decide) (Nat.le_of_ble_eq_true rfl) ?_
            rintro _ d9 ⟨rfl, rfl⟩
            exact aw_endI dX8_addsTask_63 rfl (by unfold iAdd; rw [if_pos hg, if_pos (nI_inj (by omega) (by omega) (hr.1.2.symm.trans c55 : nI (q 0 1) = nI 12))]; exact IO_f hr ok hw hw6 rfl (by decide) (by decide))
        · refine aw_aload_n dX8_addsTask_40 rfl ?_
          refine aw_iconst (v := 1) dX8_addsTask_41 (by decide) ?_
          refine aw_cVI dX8_addsTask_42 oX8_fails vX8_fails rfl lX8_87 kX8_fails rfl (hp_160 _) rfl rfl rfl (Nat.le_of_ble_eq_true rfl) (by decide) (Nat.le_of_ble_eq_true rfl) ?_
          rintro _ d9 ⟨rfl, rfl⟩
          exact aw_endI dX8_addsTask_45 rfl (by unfold iAdd; rw [if_neg (fun z => b2d_f c37 z.2.2.2)]; exact IO_f hr ok hw hw6 rfl (by decide) (by decide))
