set_option maxHeartbeats 4000000 in
set_option maxRecDepth 100000 in
theorem kX7_isCarriedOut {q : St} {w : Nat} {d : Dt} (hQ : KQ d q w) {c : Nat} (hc : c < 6) {v : Nat → Nat} (hv : ∀ k, v k < 1000) (h3 : d.1 150 3 = nI c) (hn : ∀ k, k < nN c → d.1 152 k = nI (v k)) : CI mX7_isCarriedOut 9 [.ref 132] d (fun x d' => IQ d d' x (doQ q w c v)) := by
  show AW mX7_isCarriedOut 9 true (PIx (fun x d' => IQ d d' x (doQ q w c v)) nX) 0 0 0 [(0, .ref 132)] [] (HP d)
  have hs := hQ.1
  have ok := hQ.2.1
  have h12 := ok.2.1
  have hv0 := hv 0
  have hv1 := hv 1
  have hv2 := hv 2
  have hv3 := hv 3
  rcases (show c = 0 ∨ c = 1 ∨ c = 2 ∨ c = 3 ∨ c = 4 ∨ c = 5 by omega) with rfl | rfl | rfl | rfl | rfl | rfl
  · refine aw_aload_n dX7_isCarriedOut_0 rfl ?_
    refine aw_gf dX7_isCarriedOut_1 (hp_132 _) rfl fX7_45 (by decide) rfl ?_
    refine aw_gf dX7_isCarriedOut_4 (hp_150 _) rfl fX7_362 (by decide) rfl ?_
    rw [h3, cmdv_n (by omega)]
    refine aw_astore_n dX7_isCarriedOut_7 (by decide) rfl ?_
    refine aw_aload_n dX7_isCarriedOut_8 rfl ?_
    refine aw_gf dX7_isCarriedOut_9 (hp_132 _) rfl fX7_45 (by decide) rfl ?_
    refine aw_gf dX7_isCarriedOut_12 (hp_150 _) rfl fX7_366 (by decide) rfl ?_
    refine aw_iconst (v := 0) dX7_isCarriedOut_15 (by decide) ?_
    refine aw_ialdN dX7_isCarriedOut_16 (hp_152 _) rfl (0) (by first | rfl | (simp only [li_0, li_1, li_2, li_3, li_4, li_5, li_7, li_8, li_9, li_11, li_12, li_16, li_17, li_31, li_32, li_60, li_77, li_80, li_89, li_99, li_101, li_112, li_113, li_256, li_999, li_1023, nI_add, pk_mul])) (by omega) (by decide) ?_
    rw [hn 0 (by decide)]
    refine aw_istore_n dX7_isCarriedOut_17 (by decide) rfl ?_
    refine aw_aload_n dX7_isCarriedOut_18 rfl ?_
    refine aw_gf dX7_isCarriedOut_19 (hp_132 _) rfl fX7_45 (by decide) rfl ?_
    refine aw_gf dX7_isCarriedOut_22 (hp_150 _) rfl fX7_366 (by decide) rfl ?_
    refine aw_iconst (v := 1) dX7_isCarriedOut_25 (by decide) ?_
    refine aw_ialdN dX7_isCarriedOut_26 (hp_152 _) rfl (1) (by first | rfl | (simp only [li_0, li_1, li_2, li_3, li_4, li_5, li_7, li_8, li_9, li_11, li_12, li_16, li_17, li_31, li_32, li_60, li_77, li_80, li_89, li_99, li_101, li_112, li_113, li_256, li_999, li_1023, nI_add, pk_mul])) (by omega) (by decide) ?_
    rw [hn 1 (by decide)]
    refine aw_istore_n dX7_isCarriedOut_27 (by decide) rfl ?_
    refine aw_aload_n dX7_isCarriedOut_28 rfl ?_
    refine aw_getsC dX7_isCarriedOut_29 zc_0 (cok_r (by omega)) fX7_369 ?_
    refine aw_acmp_same (tgt := 60) dX7_isCarriedOut_32 (by decide) ?_
    refine aw_aload_n dX7_isCarriedOut_35 rfl ?_
    refine aw_iload_n dX7_isCarriedOut_36 rfl ?_
    refine aw_iload_n dX7_isCarriedOut_37 rfl ?_
    refine aw_aload_n dX7_isCarriedOut_38 rfl ?_
    refine aw_gf dX7_isCarriedOut_39 (hp_132 _) rfl fX7_45 (by decide) rfl ?_
    refine aw_gf dX7_isCarriedOut_42 (hp_150 _) rfl fX7_366 (by decide) rfl ?_
    refine aw_iconst (v := 2) dX7_isCarriedOut_45 (by decide) ?_
    refine aw_ialdN dX7_isCarriedOut_46 (hp_152 _) rfl (2) (by first | rfl | (simp only [li_0, li_1, li_2, li_3, li_4, li_5, li_7, li_8, li_9, li_11, li_12, li_16, li_17, li_31, li_32, li_60, li_77, li_80, li_89, li_99, li_101, li_112, li_113, li_256, li_999, li_1023, nI_add, pk_mul])) (by omega) (by decide) ?_
    rw [hn 2 (by decide)]
    refine aw_aload_n dX7_isCarriedOut_47 rfl ?_
    refine aw_gf dX7_isCarriedOut_48 (hp_132 _) rfl fX7_45 (by decide) rfl ?_
    refine aw_gf dX7_isCarriedOut_51 (hp_150 _) rfl fX7_366 (by decide) rfl ?_
    refine aw_iconst (v := 3) dX7_isCarriedOut_54 (by decide) ?_
    refine aw_ialdN dX7_isCarriedOut_55 (hp_152 _) rfl (3) (by first | rfl | (simp only [li_0, li_1, li_2, li_3, li_4, li_5, li_7, li_8, li_9, li_11, li_12, li_16, li_17, li_31, li_32, li_60, li_77, li_80, li_89, li_99, li_101, li_112, li_113, li_256, li_999, li_1023, nI_add, pk_mul])) (by omega) (by decide) ?_
    rw [hn 3 (by decide)]
    refine aw_cVI dX7_isCarriedOut_56 oX7_isAdded vX7_isAdded rfl lX7_374 (kX7_isAdded hQ) rfl (hp_132 _) rfl rfl rfl (Nat.le_of_ble_eq_true rfl) (by decide) (Nat.le_of_ble_eq_true rfl) ?_
    rintro x d2 hI
    exact aw_endZ dX7_isCarriedOut_59 rfl (by rw [hI.2.2]; exact b2i_nar _) hI
  · refine aw_aload_n dX7_isCarriedOut_0 rfl ?_
    refine aw_gf dX7_isCarriedOut_1 (hp_132 _) rfl fX7_45 (by decide) rfl ?_
    refine aw_gf dX7_isCarriedOut_4 (hp_150 _) rfl fX7_362 (by decide) rfl ?_
    rw [h3, cmdv_n (by omega)]
    refine aw_astore_n dX7_isCarriedOut_7 (by decide) rfl ?_
    refine aw_aload_n dX7_isCarriedOut_8 rfl ?_
    refine aw_gf dX7_isCarriedOut_9 (hp_132 _) rfl fX7_45 (by decide) rfl ?_
    refine aw_gf dX7_isCarriedOut_12 (hp_150 _) rfl fX7_366 (by decide) rfl ?_
    refine aw_iconst (v := 0) dX7_isCarriedOut_15 (by decide) ?_
    refine aw_ialdN dX7_isCarriedOut_16 (hp_152 _) rfl (0) (by first | rfl | (simp only [li_0, li_1, li_2, li_3, li_4, li_5, li_7, li_8, li_9, li_11, li_12, li_16, li_17, li_31, li_32, li_60, li_77, li_80, li_89, li_99, li_101, li_112, li_113, li_256, li_999, li_1023, nI_add, pk_mul])) (by omega) (by decide) ?_
    rw [hn 0 (by decide)]
    refine aw_istore_n dX7_isCarriedOut_17 (by decide) rfl ?_
    refine aw_aload_n dX7_isCarriedOut_18 rfl ?_
    refine aw_gf dX7_isCarriedOut_19 (hp_132 _) rfl fX7_45 (by decide) rfl ?_
    refine aw_gf dX7_isCarriedOut_22 (hp_150 _) rfl fX7_366 (by decide) rfl ?_
    refine aw_iconst (v := 1) dX7_isCarriedOut_25 (by decide) ?_
    refine aw_ialdN dX7_isCarriedOut_26 (hp_152 _) rfl (1) (by first | rfl | (simp only [li_0, li_1, li_2, li_3, li_4, li_5, li_7, li_8, li_9, li_11, li_12, li_16, li_17, li_31, li_32, li_60, li_77, li_80, li_89, li_99, li_101, li_112, li_113, li_256, li_999, li_1023, nI_add, pk_mul])) (by omega) (by decide) ?_
    rw [hn 1 (by decide)]
    refine aw_istore_n dX7_isCarriedOut_27 (by decide) rfl ?_
    refine aw_aload_n dX7_isCarriedOut_28 rfl ?_
    refine aw_getsC dX7_isCarriedOut_29 zc_0 (cok_r (by omega)) fX7_369 ?_
    refine aw_acmp_diff (i := 1) (j := 0) (tgt := 60) dX7_isCarriedOut_32 (by decide) (fun D s H0 h => Ne.symm (ne_0_1 D s H0 h)) ?_
    refine aw_aload_n dX7_isCarriedOut_60 rfl ?_
    refine aw_getsC dX7_isCarriedOut_61 zc_1 (cok_r (by omega)) fX7_377 ?_
    refine aw_acmp_same (tgt := 74) dX7_isCarriedOut_64 (by decide) ?_
    refine aw_aload_n dX7_isCarriedOut_67 rfl ?_
    refine aw_iload_n dX7_isCarriedOut_68 rfl ?_
    refine aw_iload_n dX7_isCarriedOut_69 rfl ?_
    refine aw_cVI dX7_isCarriedOut_70 oX7_isLinked vX7_isLinked rfl lX7_380 (kX7_isLinked hQ) rfl (hp_132 _) rfl rfl rfl (Nat.le_of_ble_eq_true rfl) (by decide) (Nat.le_of_ble_eq_true rfl) ?_
    rintro x d2 hI
    exact aw_endZ dX7_isCarriedOut_73 rfl (by rw [hI.2.2]; exact b2i_nar _) hI
  · refine aw_aload_n dX7_isCarriedOut_0 rfl ?_
    refine aw_gf dX7_isCarriedOut_1 (hp_132 _) rfl fX7_45 (by decide) rfl ?_
    refine aw_gf dX7_isCarriedOut_4 (hp_150 _) rfl fX7_362 (by decide) rfl ?_
    rw [h3, cmdv_n (by omega)]
    refine aw_astore_n dX7_isCarriedOut_7 (by decide) rfl ?_
    refine aw_aload_n dX7_isCarriedOut_8 rfl ?_
    refine aw_gf dX7_isCarriedOut_9 (hp_132 _) rfl fX7_45 (by decide) rfl ?_
    refine aw_gf dX7_isCarriedOut_12 (hp_150 _) rfl fX7_366 (by decide) rfl ?_
    refine aw_iconst (v := 0) dX7_isCarriedOut_15 (by decide) ?_
    refine aw_ialdN dX7_isCarriedOut_16 (hp_152 _) rfl (0) (by first | rfl | (simp only [li_0, li_1, li_2, li_3, li_4, li_5, li_7, li_8, li_9, li_11, li_12, li_16, li_17, li_31, li_32, li_60, li_77, li_80, li_89, li_99, li_101, li_112, li_113, li_256, li_999, li_1023, nI_add, pk_mul])) (by omega) (by decide) ?_
    rw [hn 0 (by decide)]
    refine aw_istore_n dX7_isCarriedOut_17 (by decide) rfl ?_
    refine aw_aload_n dX7_isCarriedOut_18 rfl ?_
    refine aw_gf dX7_isCarriedOut_19 (hp_132 _) rfl fX7_45 (by decide) rfl ?_
    refine aw_gf dX7_isCarriedOut_22 (hp_150 _) rfl fX7_366 (by decide) rfl ?_
    refine aw_iconst (v := 1) dX7_isCarriedOut_25 (by decide) ?_
    refine aw_ialdN dX7_isCarriedOut_26 (hp_152 _) rfl (1) (by first | rfl | (simp only [li_0, li_1, li_2, li_3, li_4, li_5, li_7, li_8, li_9, li_11, li_12, li_16, li_17, li_31, li_32, li_60, li_77, li_80, li_89, li_99, li_101, li_112, li_113, li_256, li_999, li_1023, nI_add, pk_mul])) (by omega) (by decide) ?_
    rw [hn 1 (by decide)]
    refine aw_istore_n dX7_isCarriedOut_27 (by decide) rfl ?_
    refine aw_aload_n dX7_isCarriedOut_28 rfl ?_
    refine aw_getsC dX7_isCarriedOut_29 zc_0 (cok_r (by omega)) fX7_369 ?_
    refine aw_acmp_diff (i := 2) (j := 0) (tgt := 60) dX7_isCarriedOut_32 (by decide) (fun D s H0 h => Ne.symm (ne_0_2 D s H0 h)) ?_
    refine aw_aload_n dX7_isCarriedOut_60 rfl ?_
    refine aw_getsC dX7_isCarriedOut_61 zc_1 (cok_r (by omega)) fX7_377 ?_
    refine aw_acmp_diff (i := 2) (j := 1) (tgt := 74) dX7_isCarriedOut_64 (by decide) (fun D s H0 h => Ne.symm (ne_1_2 D s H0 h)) ?_
    refine aw_aload_n dX7_isCarriedOut_74 rfl ?_
    refine aw_getsC dX7_isCarriedOut_75 zc_4 (cok_r (by omega)) fX7_383 ?_
    refine aw_acmp_diff (i := 2) (j := 4) (tgt := 88) dX7_isCarriedOut_78 (by decide) ne_2_4 ?_
    refine aw_aload_n dX7_isCarriedOut_88 rfl ?_
    refine aw_getsC dX7_isCarriedOut_89 zc_5 (cok_r (by omega)) fX7_389 ?_
    refine aw_acmp_diff (i := 2) (j := 5) (tgt := 101) dX7_isCarriedOut_92 (by decide) ne_2_5 ?_
    refine aw_aload_n dX7_isCarriedOut_101 rfl ?_
    refine aw_iload_n dX7_isCarriedOut_102 rfl ?_
    refine aw_iload_n dX7_isCarriedOut_103 rfl ?_
    refine aw_aload_n dX7_isCarriedOut_104 rfl ?_
    refine aw_getsC dX7_isCarriedOut_105 zc_2 (cok_r (by omega)) fX7_395 ?_
    refine aw_acmp_same (tgt := 115) dX7_isCarriedOut_108 (by decide) ?_
    refine aw_iconst (v := 1) dX7_isCarriedOut_111 (by decide) ?_
    refine aw_goto (tgt := 116) dX7_isCarriedOut_112 (by decide) ?_
    refine aw_cVI dX7_isCarriedOut_116 oX7_isPaired vX7_isPaired rfl lX7_398 (kX7_isPaired_a hQ) rfl (hp_132 _) rfl rfl rfl (Nat.le_of_ble_eq_true rfl) (by decide) (Nat.le_of_ble_eq_true rfl) ?_
    rintro x d2 hI
    exact aw_endZ dX7_isCarriedOut_119 rfl (by rw [hI.2.2]; exact b2i_nar _) hI
  · refine aw_aload_n dX7_isCarriedOut_0 rfl ?_
    refine aw_gf dX7_isCarriedOut_1 (hp_132 _) rfl fX7_45 (by decide) rfl ?_
    refine aw_gf dX7_isCarriedOut_4 (hp_150 _) rfl fX7_362 (by decide) rfl ?_
    rw [h3, cmdv_n (by omega)]
    refine aw_astore_n dX7_isCarriedOut_7 (by decide) rfl ?_
    refine aw_aload_n dX7_isCarriedOut_8 rfl ?_
    refine aw_gf dX7_isCarriedOut_9 (hp_132 _) rfl fX7_45 (by decide) rfl ?_
    refine aw_gf dX7_isCarriedOut_12 (hp_150 _) rfl fX7_366 (by decide) rfl ?_
    refine aw_iconst (v := 0) dX7_isCarriedOut_15 (by decide) ?_
    refine aw_ialdN dX7_isCarriedOut_16 (hp_152 _) rfl (0) (by first | rfl | (simp only [li_0, li_1, li_2, li_3, li_4, li_5, li_7, li_8, li_9, li_11, li_12, li_16, li_17, li_31, li_32, li_60, li_77, li_80, li_89, li_99, li_101, li_112, li_113, li_256, li_999, li_1023, nI_add, pk_mul])) (by omega) (by decide) ?_
    rw [hn 0 (by decide)]
    refine aw_istore_n dX7_isCarriedOut_17 (by decide) rfl ?_
    refine aw_aload_n dX7_isCarriedOut_18 rfl ?_
    refine aw_gf dX7_isCarriedOut_19 (hp_132 _) rfl fX7_45 (by decide) rfl ?_
    refine aw_gf dX7_isCarriedOut_22 (hp_150 _) rfl fX7_366 (by decide) rfl ?_
    refine aw_iconst (v := 1) dX7_isCarriedOut_25 (by decide) ?_
    refine aw_ialdN dX7_isCarriedOut_26 (hp_152 _) rfl (1) (by first | rfl | (simp only [li_0, li_1, li_2, li_3, li_4, li_5, li_7, li_8, li_9, li_11, li_12, li_16, li_17, li_31, li_32, li_60, li_77, li_80, li_89, li_99, li_101, li_112, li_113, li_256, li_999, li_1023, nI_add, pk_mul])) (by omega) (by decide) ?_
    rw [hn 1 (by decide)]
    refine aw_istore_n dX7_isCarriedOut_27 (by decide) rfl ?_
    refine aw_aload_n dX7_isCarriedOut_28 rfl ?_
    refine aw_getsC dX7_isCarriedOut_29 zc_0 (cok_r (by omega)) fX7_369 ?_
    refine aw_acmp_diff (i := 3) (j := 0) (tgt := 60) dX7_isCarriedOut_32 (by decide) (fun D s H0 h => Ne.symm (ne_0_3 D s H0 h)) ?_
    refine aw_aload_n dX7_isCarriedOut_60 rfl ?_
    refine aw_getsC dX7_isCarriedOut_61 zc_1 (cok_r (by omega)) fX7_377 ?_
    refine aw_acmp_diff (i := 3) (j := 1) (tgt := 74) dX7_isCarriedOut_64 (by decide) (fun D s H0 h => Ne.symm (ne_1_3 D s H0 h)) ?_
    refine aw_aload_n dX7_isCarriedOut_74 rfl ?_
    refine aw_getsC dX7_isCarriedOut_75 zc_4 (cok_r (by omega)) fX7_383 ?_
    refine aw_acmp_diff (i := 3) (j := 4) (tgt := 88) dX7_isCarriedOut_78 (by decide) ne_3_4 ?_
    refine aw_aload_n dX7_isCarriedOut_88 rfl ?_
    refine aw_getsC dX7_isCarriedOut_89 zc_5 (cok_r (by omega)) fX7_389 ?_
    refine aw_acmp_diff (i := 3) (j := 5) (tgt := 101) dX7_isCarriedOut_92 (by decide) ne_3_5 ?_
    refine aw_aload_n dX7_isCarriedOut_101 rfl ?_
    refine aw_iload_n dX7_isCarriedOut_102 rfl ?_
    refine aw_iload_n dX7_isCarriedOut_103 rfl ?_
    refine aw_aload_n dX7_isCarriedOut_104 rfl ?_
    refine aw_getsC dX7_isCarriedOut_105 zc_2 (cok_r (by omega)) fX7_395 ?_
    refine aw_acmp_diff (i := 3) (j := 2) (tgt := 115) dX7_isCarriedOut_108 (by decide) (fun D s H0 h => Ne.symm (ne_2_3 D s H0 h)) ?_
    refine aw_iconst (v := 0) dX7_isCarriedOut_115 (by decide) ?_
    refine aw_cVI dX7_isCarriedOut_116 oX7_isPaired vX7_isPaired rfl lX7_398 (kX7_isPaired_t hQ) rfl (hp_132 _) rfl rfl rfl (Nat.le_of_ble_eq_true rfl) (by decide) (Nat.le_of_ble_eq_true rfl) ?_
    rintro x d2 hI
    exact aw_endZ dX7_isCarriedOut_119 rfl (by rw [hI.2.2]; exact b2i_nar _) hI
  · refine aw_aload_n dX7_isCarriedOut_0 rfl ?_
    refine aw_gf dX7_isCarriedOut_1 (hp_132 _) rfl fX7_45 (by decide) rfl ?_
    refine aw_gf dX7_isCarriedOut_4 (hp_150 _) rfl fX7_362 (by decide) rfl ?_
    rw [h3, cmdv_n (by omega)]
    refine aw_astore_n dX7_isCarriedOut_7 (by decide) rfl ?_
    refine aw_aload_n dX7_isCarriedOut_8 rfl ?_
    refine aw_gf dX7_isCarriedOut_9 (hp_132 _) rfl fX7_45 (by decide) rfl ?_
    refine aw_gf dX7_isCarriedOut_12 (hp_150 _) rfl fX7_366 (by decide) rfl ?_
    refine aw_iconst (v := 0) dX7_isCarriedOut_15 (by decide) ?_
    refine aw_ialdN dX7_isCarriedOut_16 (hp_152 _) rfl (0) (by first | rfl | (simp only [li_0, li_1, li_2, li_3, li_4, li_5, li_7, li_8, li_9, li_11, li_12, li_16, li_17, li_31, li_32, li_60, li_77, li_80, li_89, li_99, li_101, li_112, li_113, li_256, li_999, li_1023, nI_add, pk_mul])) (by omega) (by decide) ?_
    rw [hn 0 (by decide)]
    refine aw_istore_n dX7_isCarriedOut_17 (by decide) rfl ?_
    refine aw_aload_n dX7_isCarriedOut_18 rfl ?_
    refine aw_gf dX7_isCarriedOut_19 (hp_132 _) rfl fX7_45 (by decide) rfl ?_
    refine aw_gf dX7_isCarriedOut_22 (hp_150 _) rfl fX7_366 (by decide) rfl ?_
    refine aw_iconst (v := 1) dX7_isCarriedOut_25 (by decide) ?_
    refine aw_ialdN dX7_isCarriedOut_26 (hp_152 _) rfl (1) (by first | rfl | (simp only [li_0, li_1, li_2, li_3, li_4, li_5, li_7, li_8, li_9, li_11, li_12, li_16, li_17, li_31, li_32, li_60, li_77, li_80, li_89, li_99, li_101, li_112, li_113, li_256, li_999, li_1023, nI_add, pk_mul])) (by omega) (by decide) ?_
    rw [hn 1 (by decide)]
    refine aw_istore_n dX7_isCarriedOut_27 (by decide) rfl ?_
    refine aw_aload_n dX7_isCarriedOut_28 rfl ?_
    refine aw_getsC dX7_isCarriedOut_29 zc_0 (cok_r (by omega)) fX7_369 ?_
    refine aw_acmp_diff (i := 4) (j := 0) (tgt := 60) dX7_isCarriedOut_32 (by decide) (fun D s H0 h => Ne.symm (ne_0_4 D s H0 h)) ?_
    refine aw_aload_n dX7_isCarriedOut_60 rfl ?_
    refine aw_getsC dX7_isCarriedOut_61 zc_1 (cok_r (by omega)) fX7_377 ?_
    refine aw_acmp_diff (i := 4) (j := 1) (tgt := 74) dX7_isCarriedOut_64 (by decide) (fun D s H0 h => Ne.symm (ne_1_4 D s H0 h)) ?_
    refine aw_aload_n dX7_isCarriedOut_74 rfl ?_
    refine aw_getsC dX7_isCarriedOut_75 zc_4 (cok_r (by omega)) fX7_383 ?_
    refine aw_acmp_same (tgt := 88) dX7_isCarriedOut_78 (by decide) ?_
    refine aw_aload_n dX7_isCarriedOut_81 rfl ?_
    refine aw_iload_n dX7_isCarriedOut_82 rfl ?_
    refine aw_iload_n dX7_isCarriedOut_83 rfl ?_
    refine aw_cVI dX7_isCarriedOut_84 oX7_isPut vX7_isPut rfl lX7_386 (kX7_isPut hQ (n := v 1) (by omega)) rfl (hp_132 _) rfl rfl rfl (Nat.le_of_ble_eq_true rfl) (by decide) (Nat.le_of_ble_eq_true rfl) ?_
    rintro x d2 hI
    exact aw_endZ dX7_isCarriedOut_87 rfl (by rw [hI.2.2]; exact b2i_nar _) hI
  · refine aw_aload_n dX7_isCarriedOut_0 rfl ?_
    refine aw_gf dX7_isCarriedOut_1 (hp_132 _) rfl fX7_45 (by decide) rfl ?_
    refine aw_gf dX7_isCarriedOut_4 (hp_150 _) rfl fX7_362 (by decide) rfl ?_
    rw [h3, cmdv_n (by omega)]
    refine aw_astore_n dX7_isCarriedOut_7 (by decide) rfl ?_
    refine aw_aload_n dX7_isCarriedOut_8 rfl ?_
    refine aw_gf dX7_isCarriedOut_9 (hp_132 _) rfl fX7_45 (by decide) rfl ?_
    refine aw_gf dX7_isCarriedOut_12 (hp_150 _) rfl fX7_366 (by decide) rfl ?_
    refine aw_iconst (v := 0) dX7_isCarriedOut_15 (by decide) ?_
    refine aw_ialdN dX7_isCarriedOut_16 (hp_152 _) rfl (0) (by first | rfl | (simp only [li_0, li_1, li_2, li_3, li_4, li_5, li_7, li_8, li_9, li_11, li_12, li_16, li_17, li_31, li_32, li_60, li_77, li_80, li_89, li_99, li_101, li_112, li_113, li_256, li_999, li_1023, nI_add, pk_mul])) (by omega) (by decide) ?_
    rw [hn 0 (by decide)]
    refine aw_istore_n dX7_isCarriedOut_17 (by decide) rfl ?_
    refine aw_aload_n dX7_isCarriedOut_18 rfl ?_
    refine aw_gf dX7_isCarriedOut_19 (hp_132 _) rfl fX7_45 (by decide) rfl ?_
    refine aw_gf dX7_isCarriedOut_22 (hp_150 _) rfl fX7_366 (by decide) rfl ?_
    refine aw_iconst (v := 1) dX7_isCarriedOut_25 (by decide) ?_
    refine aw_ialdN dX7_isCarriedOut_26 (hp_152 _) rfl (1) (by first | rfl | (simp only [li_0, li_1, li_2, li_3, li_4, li_5, li_7, li_8, li_9, li_11, li_12, li_16, li_17, li_31, li_32, li_60, li_77, li_80, li_89, li_99, li_101, li_112, li_113, li_256, li_999, li_1023, nI_add, pk_mul])) (by omega) (by decide) ?_
    refine aw_istore_n dX7_isCarriedOut_27 (by decide) rfl ?_
    refine aw_aload_n dX7_isCarriedOut_28 rfl ?_
    refine aw_getsC dX7_isCarriedOut_29 zc_0 (cok_r (by omega)) fX7_369 ?_
    refine aw_acmp_diff (i := 5) (j := 0) (tgt := 60) dX7_isCarriedOut_32 (by decide) (fun D s H0 h => Ne.symm (ne_0_5 D s H0 h)) ?_
    refine aw_aload_n dX7_isCarriedOut_60 rfl ?_
    refine aw_getsC dX7_isCarriedOut_61 zc_1 (cok_r (by omega)) fX7_377 ?_
    refine aw_acmp_diff (i := 5) (j := 1) (tgt := 74) dX7_isCarriedOut_64 (by decide) (fun D s H0 h => Ne.symm (ne_1_5 D s H0 h)) ?_
    refine aw_aload_n dX7_isCarriedOut_74 rfl ?_
    refine aw_getsC dX7_isCarriedOut_75 zc_4 (cok_r (by omega)) fX7_383 ?_
    refine aw_acmp_diff (i := 5) (j := 4) (tgt := 88) dX7_isCarriedOut_78 (by decide) (fun D s H0 h => Ne.symm (ne_4_5 D s H0 h)) ?_
    refine aw_aload_n dX7_isCarriedOut_88 rfl ?_
    refine aw_getsC dX7_isCarriedOut_89 zc_5 (cok_r (by omega)) fX7_389 ?_
    refine aw_acmp_same (tgt := 101) dX7_isCarriedOut_92 (by decide) ?_
    refine aw_aload_n dX7_isCarriedOut_95 rfl ?_
    refine aw_iload_n dX7_isCarriedOut_96 rfl ?_
    refine aw_cVI dX7_isCarriedOut_97 oX7_isCycleSet vX7_isCycleSet rfl lX7_392 (kX7_isCycleSet hQ) rfl (hp_132 _) rfl rfl rfl (Nat.le_of_ble_eq_true rfl) (by decide) (Nat.le_of_ble_eq_true rfl) ?_
    rintro x d2 hI
    exact aw_endZ dX7_isCarriedOut_100 rfl (by rw [hI.2.2]; exact b2i_nar _) hI


set_option maxHeartbeats 4000000 in
set_option maxRecDepth 100000 in
theorem kX7_carryOutAll {q : St} {w : Nat} {T : List Nat} {d : Dt} (hQ : KQ d q w) (hT : TP (d.1 151) (d.1 150 2) T) (hP0 : (prs T 80 0).1 = true) : CI mX7_carryOutAll 12 [.ref 132] d (fun x d' => fE d d' ∧ x = (if (exe T 80 0 q w 0).1 = true then nI (exe T 80 0 q w 0).2.1 else -1) ∧ (d'.1 132 7 = nI (exe T 80 0 q w 0).2.2.2 ∧ (exe T 80 0 q w 0).2.2.2 ≤ 6) ∧ ((exe T 80 0 q w 0).1 = true → KS 0 d' (exe T 80 0 q w 0).2.2.1 ∧ QOK (exe T 80 0 q w 0).2.2.1 ∧ (exe T 80 0 q w 0).2.1 ≤ 80)) := by
  show AW mX7_carryOutAll 12 true (PIx (fun x d' => fE d d' ∧ x = (if (exe T 80 0 q w 0).1 = true then nI (exe T 80 0 q w 0).2.1 else -1) ∧ (d'.1 132 7 = nI (exe T 80 0 q w 0).2.2.2 ∧ (exe T 80 0 q w 0).2.2.2 ≤ 6) ∧ ((exe T 80 0 q w 0).1 = true → KS 0 d' (exe T 80 0 q w 0).2.2.1 ∧ QOK (exe T 80 0 q w 0).2.2.1 ∧ (exe T 80 0 q w 0).2.1 ≤ 80)) nX) 0 0 0 [(0, .ref 132)] [] (HP d)
  have hl80 := hT.2.1
  have KE : ∀ (i : Nat) (q1 : St) (w1 : Nat) (d1 : Dt), fE d d1 → KQ d1 q1 w1 → i ≤ 80 → exe T 80 0 q w 0 = (true, i, q1, w1) → AW mX7_carryOutAll 12 true (PIx (fun x d' => fE d d' ∧ x = (if (exe T 80 0 q w 0).1 = true then nI (exe T 80 0 q w 0).2.1 else -1) ∧ (d'.1 132 7 = nI (exe T 80 0 q w 0).2.2.2 ∧ (exe T 80 0 q w 0).2.2.2 ≤ 6) ∧ ((exe T 80 0 q w 0).1 = true → KS 0 d' (exe T 80 0 q w 0).2.2.1 ∧ QOK (exe T 80 0 q w 0).2.2.1 ∧ (exe T 80 0 q w 0).2.1 ≤ 80)) nX) 0 0 11 [(0, .ref 132), (1, .int 0), (2, .int (nI i))] [] (HP d1) := by
    intro i q1 w1 d1 hE hQ1 hi hX
    refine aw_iload_n dX7_carryOutAll_11 rfl ?_
    refine aw_if_eq 56 dX7_carryOutAll_12 (by decide) (fun _ => ?_) (fun c12 => (by first | exact absurd c12 (by decide) | exact absurd rfl c12))
    refine aw_iload_n dX7_carryOutAll_56 rfl ?_
    exact aw_endI dX7_carryOutAll_57 rfl (by rw [hX]; exact ⟨hE, rfl, ⟨hQ1.2.2.1, hQ1.2.2.2⟩, fun _ => ⟨hQ1.1, hQ1.2.1, hi⟩⟩)
  have K : ∀ (f i p : Nat) (q1 : St) (w1 : Nat) (d1 : Dt), fE d d1 → RI d1 T p → KQ d1 q1 w1 → i + f = 80 → 2 * i ≤ p → (prs T f p).1 = true → exe T f p q1 w1 i = exe T 80 0 q w 0 → AW mX7_carryOutAll 12 true (PIx (fun x d' => fE d d' ∧ x = (if (exe T 80 0 q w 0).1 = true then nI (exe T 80 0 q w 0).2.1 else -1) ∧ (d'.1 132 7 = nI (exe T 80 0 q w 0).2.2.2 ∧ (exe T 80 0 q w 0).2.2.2 ≤ 6) ∧ ((exe T 80 0 q w 0).1 = true → KS 0 d' (exe T 80 0 q w 0).2.2.1 ∧ QOK (exe T 80 0 q w 0).2.2.1 ∧ (exe T 80 0 q w 0).2.1 ≤ 80)) nX) 0 0 11 [(0, .ref 132), (1, .int 1), (2, .int (nI i))] [] (HP d1) := by
    intro f
    induction f with
    | zero =>
      intro i p q1 w1 d1 hE hrp hQ1 hf h2 hP hX
      have := hrp.2.2
      omega
    | succ f ih =>
      intro i p q1 w1 d1 hE hrp hQ1 hf h2 hP hX
      have hp1 := hrp.2.2
      have hC := prs_g hP
      have hR := rdC_le hp1
      have hR2 := hR.2.2.2 hC
      refine aw_iload_n dX7_carryOutAll_11 rfl ?_
      refine aw_if_eq 56 dX7_carryOutAll_12 (by decide) (fun c12 => (by first | exact absurd c12 (by decide) | exact absurd rfl c12)) (fun _ => ?_)
      refine aw_iload_n dX7_carryOutAll_15 rfl ?_
      refine aw_bipush (v := 80) dX7_carryOutAll_16 (by decide) ?_
      refine aw_icmp_ge 56 dX7_carryOutAll_18 (by decide) (fun c18 => (show False from absurd ((le_nI (show (80 : Int32) = nI 80 from rfl) rfl (by omega) (by omega)).mp c18) (by omega)).elim) (fun c18 => ?_)
      refine aw_aload_n dX7_carryOutAll_21 rfl ?_
      refine aw_gf dX7_carryOutAll_22 (hp_132 _) rfl fX7_45 (by decide) rfl ?_
      refine aw_cVI dX7_carryOutAll_25 oX2_passCommand vX2_passCommand rfl lX7_351 (kX2_passCommand hrp) rfl (hp_150 _) rfl rfl rfl (Nat.le_of_ble_eq_true rfl) (by decide) (Nat.le_of_ble_eq_true rfl) ?_
      rintro _ d2 ⟨hm2, hrp2, rfl, hcm⟩
      obtain ⟨h3, h6, hnm⟩ := hcm hC
      refine aw_if_eq 38 dX7_carryOutAll_28 (by decide) (fun c28 => (show False by rw [hC] at c28; exact absurd c28 (by decide)).elim) (fun c28 => ?_)
      refine aw_aload_n dX7_carryOutAll_31 rfl ?_
      refine aw_cVI dX7_carryOutAll_32 oX7_isCarriedOut vX7_isCarriedOut rfl lX7_355 (kX7_isCarriedOut (KQ_mP hQ1 hm2) h6 hR.2.2.1 h3 hnm) rfl (hp_132 _) rfl rfl rfl (Nat.le_of_ble_eq_true rfl) (by decide) (Nat.le_of_ble_eq_true rfl) ?_
      rintro x d3 hI
      have hx := hI.2.2
      rw [hx]
      refine aw_if_ne 40 dX7_carryOutAll_35 (by decide) (fun c35 => ?_) (fun c35 => ?_)
      · refine aw_inc (c := 1) dX7_carryOutAll_40 (by decide) rfl (by decide) rfl ?_
        refine aw_aload_n dX7_carryOutAll_43 rfl ?_
        refine aw_gf dX7_carryOutAll_44 (hp_132 _) rfl fX7_45 (by decide) rfl ?_
        refine aw_bipush (v := 59) dX7_carryOutAll_47 (by decide) ?_
        refine aw_cVI dX7_carryOutAll_49 oX2_passSign vX2_passSign rfl lX7_358 (kX2_passSign (RI_Q hrp2 hI.1) (c := 59) (by decide) (by decide)) rfl (hp_150 _) rfl rfl rfl (Nat.le_of_ble_eq_true rfl) (by decide) (Nat.le_of_ble_eq_true rfl) ?_
        rintro _ d4 ⟨hm4, hrp4, rfl, -, -⟩
        refine aw_istore_n dX7_carryOutAll_52 (by decide) rfl ?_
        refine aw_goto (tgt := 11) dX7_carryOutAll_53 (by decide) ?_
        have hD := b2d_t c35
        rw [nI_1]
        by_cases h59 : chA T (rdC T p).2.1 = 59
        · rw [if_pos h59] at hrp4
          rw [b2i_t h59]
          have hpT := (chA_pos (T := T) (a := (rdC T p).2.1) (by omega)).1
          exact ih (i + 1) ((rdC T p).2.1 + 1) _ _ d4 (fE_t hE (fE_t (mP_E hm2) (fE_t (fQ_E hI.1) (mP_E hm4)))) hrp4 (KQ_mP hI.2.1 hm4) (by omega) (by omega) (by rw [prs_i ⟨hC, h59⟩] at hP; exact hP) (by rw [← hX]; exact (exe_s hD h59).symm)
        · rw [if_neg h59] at hrp4
          rw [b2i_f h59]
          exact KE (i + 1) _ _ d4 (fE_t hE (fE_t (mP_E hm2) (fE_t (fQ_E hI.1) (mP_E hm4)))) (KQ_mP hI.2.1 hm4) (by omega) (by rw [← hX, exe_e hD h59])
      · refine aw_iconst (v := (-1)) dX7_carryOutAll_38 (by decide) ?_
        exact aw_endI dX7_carryOutAll_39 rfl (by rw [← hX, exe_f (b2d_f c35)]; exact ⟨fE_t hE (fE_t (mP_E hm2) (fQ_E hI.1)), rfl, ⟨hI.2.1.2.2.1, hI.2.1.2.2.2⟩, fun z => absurd z Bool.false_ne_true⟩)
  refine aw_aload_n dX7_carryOutAll_0 rfl ?_
  refine aw_gf dX7_carryOutAll_1 (hp_132 _) rfl fX7_45 (by decide) rfl ?_
  refine aw_cVv dX7_carryOutAll_4 oX2_rewind vX2_rewind rfl lX7_348 (kX2_rewind) rfl (hp_150 _) rfl rfl rfl (Nat.le_of_ble_eq_true rfl) (by decide) (Nat.le_of_ble_eq_true rfl) ?_
  rintro _ rfl
  refine aw_iconst (v := 1) dX7_carryOutAll_7 (by decide) ?_
  refine aw_istore_n dX7_carryOutAll_8 (by decide) rfl ?_
  refine aw_iconst (v := 0) dX7_carryOutAll_9 (by decide) ?_
  refine aw_istore_n dX7_carryOutAll_10 (by decide) rfl ?_
  exact K 80 0 0 q w _ (mP_E (mP_150 (mP_r d) (Or.inr rfl) _)) ⟨by rw [dI_n _ _ (show (151 : Nat) ≠ 150 by decide), dI_s, upd_ne _ _ (by decide)]; exact hT, by rw [dI_s, upd_at]; rfl, Nat.zero_le _⟩ (KQ_mP hQ (mP_150 (mP_r d) (Or.inr rfl) _)) rfl (Nat.le_refl _) hP0 rfl
