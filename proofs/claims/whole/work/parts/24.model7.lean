set_option maxHeartbeats 4000000 in
set_option maxRecDepth 100000 in
theorem kX8_lowest {q : St} {d : Dt} (hr : RR (d.1 161) q) (ok : QOK q) {t : Nat} (ht : t < q 0 1) : CI mX8_lowest 7 [.ref 160, .int (nI t)] d (fun x d' => mS d d' ∧ x = pv (lowQ q t 8)) := by
  show AW mX8_lowest 7 true (PIx (fun x d' => mS d d' ∧ x = pv (lowQ q t 8)) nX) 0 0 0 [(0, .ref 160), (1, .int (nI t))] [] (HP d)
  obtain ⟨⟨okM1, okM2⟩, okn, -⟩ := id ok
  refine aw_iconst (v := 0) dX8_lowest_0 (by decide) ?_
  refine aw_istore_n dX8_lowest_1 (by decide) rfl ?_
  have L2 : ∀ j, j ≤ 8 → ∀ (d1 : Dt) (v2 : Int32), (mS d d1 ∧ lowQ q t 8 = lowQ q t (8 - j)) → v2 = nI j → AW mX8_lowest 7 true (PIx (fun x d' => mS d d' ∧ x = pv (lowQ q t 8)) nX) 0 0 2 [(0, .ref 160), (1, .int (nI t)), (2, .int v2)] [] (HP d1) := by
    refine up_ind (fun j hj ih => ?_)
    rintro d1 _ ⟨hm1, hlw⟩ rfl; have hr1 : RR (d1.1 161) q := by rw [mS_g hm1]; exact hr
    refine aw_iload_n dX8_lowest_2 rfl ?_
    refine aw_bipush (v := 8) dX8_lowest_3 (by decide) ?_
    refine aw_icmp_ge 25 dX8_lowest_5 (by decide) (fun c5 => ?_) (fun c5 => ?_)
    · have hge : 8 ≤ j := (le_nI (show (8 : Int32) = nI 8 from rfl) rfl (by omega) (by omega)).mp c5
      have hj2 : j = 8 := by omega
      subst hj2
      refine aw_iconst (v := (-1)) dX8_lowest_25 (by decide) ?_
      exact aw_endI dX8_lowest_26 rfl ⟨hm1, by rw [hlw]; rfl⟩
    · have hlt : j < 8 := Nat.lt_of_not_le (fun z => c5 ((le_nI (show (8 : Int32) = nI 8 from rfl) rfl (by omega) (by omega)).mpr z))
      have e8 : lowQ q t (8 - j) = if refQ q t j = 0 then j + 1 else lowQ q t (7 - j) := by rw [show 8 - j = (7 - j) + 1 by omega]; simp only [lowQ]; rw [show 7 - (7 - j) = j by omega, show 8 - (7 - j) = j + 1 by omega]
      refine aw_aload_n dX8_lowest_8 rfl ?_
      refine aw_iload_n dX8_lowest_9 rfl ?_
      refine aw_iload_n dX8_lowest_10 rfl ?_
      refine aw_cVI dX8_lowest_11 oX8_refuses vX8_refuses rfl lX8_187 (kX8_refuses hr1 ok ht hlt) rfl (hp_160 _) rfl rfl rfl (Nat.le_of_ble_eq_true rfl) (by decide) (Nat.le_of_ble_eq_true rfl) ?_
      rintro _ d2 ⟨hm2, rfl⟩
      refine aw_if_ne 19 dX8_lowest_14 (by decide) (fun c14 => ?_) (fun c14 => ?_)
      · refine aw_inc (c := 1) dX8_lowest_19 (by decide) rfl (by decide) rfl ?_
        refine aw_goto (tgt := 2) dX8_lowest_22 (by decide) ?_
        exact ih hlt _ _ ⟨mS_t hm1 hm2, by rw [hlw, e8, if_neg (fun z => c14 (by rw [z]; rfl)), show 8 - (j + 1) = 7 - j by omega]⟩ (nI_1 j)
      · refine aw_iload_n dX8_lowest_17 rfl ?_
        exact aw_endI dX8_lowest_18 rfl ⟨mS_t hm1 hm2, by rw [hlw, e8, if_pos ((eq_nI rfl (show (0 : Int32) = nI 0 from rfl) (by have := refQ_le q t j; omega) (by omega)).mp c14)]; rfl⟩
  exact L2 0 (Nat.zero_le _) _ _ ⟨mS_r d, rfl⟩ rfl

set_option maxHeartbeats 4000000 in
set_option maxRecDepth 100000 in
theorem kX8_most {q : St} {d : Dt} (hr : RR (d.1 161) q) (ok : QOK q) {s : Nat} (hs : s < 8) : CP mX8_most 2 [.ref 160, .int (nI s)] d (nI (mostQ q s)) := by
  show AW mX8_most 2 true (PIx (fun y d' => y = nI (mostQ q s) ∧ d' = d) nX) 0 0 0 [(0, .ref 160), (1, .int (nI s))] [] (HP d)
  refine aw_aload_n dX8_most_0 rfl ?_
  refine aw_gf dX8_most_1 (hp_160 _) rfl fX8_7 (by decide) rfl ?_
  refine aw_bipush (v := 8) dX8_most_4 (by decide) ?_
  refine aw_iload_n dX8_most_6 rfl ?_
  refine aw_iadd dX8_most_7 ?_
  refine aw_ialdN dX8_most_8 (hp_161 _) rfl (8 + s) (by first | rfl | (simp only [li_0, li_1, li_2, li_3, li_4, li_5, li_7, li_8, li_9, li_11, li_12, li_16, li_17, li_31, li_32, li_60, li_77, li_80, li_89, li_99, li_101, li_112, li_113, li_256, li_999, li_1023, nI_add, pk_mul])) (by omega) (by decide) ?_
  refine aw_aload_n dX8_most_9 rfl ?_
  refine aw_gf dX8_most_10 (hp_160 _) rfl fX8_7 (by decide) rfl ?_
  refine aw_iconst (v := 4) dX8_most_13 (by decide) ?_
  refine aw_ialdN dX8_most_14 (hp_161 _) rfl (4) (by first | rfl | (simp only [li_0, li_1, li_2, li_3, li_4, li_5, li_7, li_8, li_9, li_11, li_12, li_16, li_17, li_31, li_32, li_60, li_77, li_80, li_89, li_99, li_101, li_112, li_113, li_256, li_999, li_1023, nI_add, pk_mul])) (by omega) (by decide) ?_
  refine aw_imul dX8_most_15 ?_
  refine aw_aload_n dX8_most_16 rfl ?_
  refine aw_cVP dX8_most_17 oX8_totalDemand vX8_totalDemand rfl lX8_105 (kX8_totalDemand hr ok) rfl (hp_160 _) rfl rfl rfl (Nat.le_of_ble_eq_true rfl) (by decide) (Nat.le_of_ble_eq_true rfl) ?_
  refine aw_imul dX8_most_20 ?_
  exact aw_endI dX8_most_21 rfl ⟨by rw [show d.1 161 (8 + s) = nI (q 3 s) from hr.2.2.2.1 s hs, show d.1 161 4 = nI (q 2 0) from hr.2.2.1 0 (by decide), pk_mul, pk_mul]; rfl, rfl⟩

set_option maxHeartbeats 4000000 in
set_option maxRecDepth 100000 in
theorem kX8_lacks {q : St} {d : Dt} (hr : RR (d.1 161) q) (ok : QOK q) {s : Nat} (hs : s < 8) : CI mX8_lacks 5 [.ref 160, .int (nI s)] d (fun x d' => mS d d' ∧ x = lackV q s) := by
  show AW mX8_lacks 5 true (PIx (fun x d' => mS d d' ∧ x = lackV q s) nX) 0 0 0 [(0, .ref 160), (1, .int (nI s))] [] (HP d)
  refine aw_aload_n dX8_lacks_0 rfl ?_
  refine aw_iload_n dX8_lacks_1 rfl ?_
  refine aw_cVP dX8_lacks_2 oX8_most vX8_most rfl lX8_196 (kX8_most hr ok hs) rfl (hp_160 _) rfl rfl rfl (Nat.le_of_ble_eq_true rfl) (by decide) (Nat.le_of_ble_eq_true rfl) ?_
  refine aw_aload_n dX8_lacks_5 rfl ?_
  refine aw_aload_n dX8_lacks_6 rfl ?_
  refine aw_iload_n dX8_lacks_7 rfl ?_
  refine aw_cVP dX8_lacks_8 oX8_inStation vX8_inStation rfl lX8_178 (kX8_inStation hr ok hs) rfl (hp_160 _) rfl rfl rfl (Nat.le_of_ble_eq_true rfl) (by decide) (Nat.le_of_ble_eq_true rfl) ?_
  refine aw_cVI dX8_lacks_11 oX8_loadOf vX8_loadOf rfl lX8_175 (kX8_loadOf hr ok (stn_lt ok s)) rfl (hp_160 _) rfl rfl rfl (Nat.le_of_ble_eq_true rfl) (by decide) (Nat.le_of_ble_eq_true rfl) ?_
  rintro _ d1 ⟨⟨hm1, -⟩, rfl⟩
  refine aw_isub dX8_lacks_14 ?_
  exact aw_endI dX8_lacks_15 rfl ⟨hm1, rfl⟩

set_option maxHeartbeats 4000000 in
set_option maxRecDepth 100000 in
theorem kX8_busiest {q : St} {d : Dt} (hr : RR (d.1 161) q) (ok : QOK q) : CI mX8_busiest 5 [.ref 160] d (fun x d' => mS d d' ∧ x = nI (buQ q 7)) := by
  show AW mX8_busiest 5 true (PIx (fun x d' => mS d d' ∧ x = nI (buQ q 7)) nX) 0 0 0 [(0, .ref 160)] [] (HP d)
  obtain ⟨⟨okM1, okM2⟩, okn, -⟩ := id ok
  refine aw_iconst (v := 0) dX8_busiest_0 (by decide) ?_
  refine aw_istore_n dX8_busiest_1 (by decide) rfl ?_
  refine aw_iconst (v := 1) dX8_busiest_2 (by decide) ?_
  refine aw_istore_n dX8_busiest_3 (by decide) rfl ?_
  have L4 : ∀ j, j ≤ 7 → ∀ (d1 : Dt) (v1 v2 : Int32), (mS d d1 ∧ True) → v1 = nI (buQ q j) → v2 = nI (j + 1) → AW mX8_busiest 5 true (PIx (fun x d' => mS d d' ∧ x = nI (buQ q 7)) nX) 0 0 4 [(0, .ref 160), (1, .int v1), (2, .int v2)] [] (HP d1) := by
    refine up_ind (fun j hj ih => ?_)
    rintro d1 _ _ ⟨hm1, -⟩ rfl rfl; have hr1 : RR (d1.1 161) q := by rw [mS_g hm1]; exact hr
    refine aw_iload_n dX8_busiest_4 rfl ?_
    refine aw_bipush (v := 8) dX8_busiest_5 (by decide) ?_
    refine aw_icmp_ge 74 dX8_busiest_7 (by decide) (fun c7 => ?_) (fun c7 => ?_)
    · have hge : 8 ≤ j + 1 := (le_nI (show (8 : Int32) = nI 8 from rfl) rfl (by omega) (by omega)).mp c7
      have hj2 : j = 7 := by omega
      subst hj2
      refine aw_iload_n dX8_busiest_74 rfl ?_
      exact aw_endI dX8_busiest_75 rfl ⟨hm1, rfl⟩
    · have hlt : j < 7 := by have := mt (le_nI (show (8 : Int32) = nI 8 from rfl) (rfl : nI (j + 1) = nI (j + 1)) (by omega) (by omega)).mpr c7; omega
      have hb := buQ_lt q (show j ≤ 7 by omega)
      have hl1 := ld_le ok (stn_lt ok (j + 1))
      have hl2 := ld_le ok (stn_lt ok (buQ q j))
      have hc1 := ok.2.2.2.2.1 (j + 1) (by omega)
      have hc2 := ok.2.2.2.2.1 (buQ q j) (by omega)
      have hp1 : ld q (stn q (j + 1)) * q 3 (buQ q j) ≤ 38556 * 3 := Nat.mul_le_mul hl1 hc2.2
      have hp2 : ld q (stn q (buQ q j)) * q 3 (j + 1) ≤ 38556 * 3 := Nat.mul_le_mul hl2 hc1.2
      refine aw_aload_n dX8_busiest_10 rfl ?_
      refine aw_aload_n dX8_busiest_11 rfl ?_
      refine aw_iload_n dX8_busiest_12 rfl ?_
      refine aw_cVP dX8_busiest_13 oX8_inStation vX8_inStation rfl lX8_178 (kX8_inStation hr1 ok (s := j + 1) (by omega)) rfl (hp_160 _) rfl rfl rfl (Nat.le_of_ble_eq_true rfl) (by decide) (Nat.le_of_ble_eq_true rfl) ?_
      refine aw_cVI dX8_busiest_16 oX8_loadOf vX8_loadOf rfl lX8_175 (kX8_loadOf hr1 ok (stn_lt ok _)) rfl (hp_160 _) rfl rfl rfl (Nat.le_of_ble_eq_true rfl) (by decide) (Nat.le_of_ble_eq_true rfl) ?_
      rintro _ d2 ⟨⟨hm2, -⟩, rfl⟩
      have hr2 : RR (d2.1 161) q := by rw [mS_g hm2]; exact hr1
      refine aw_i2l dX8_busiest_19 ?_
      refine aw_aload_n dX8_busiest_20 rfl ?_
      refine aw_gf dX8_busiest_21 (hp_160 _) rfl fX8_7 (by decide) rfl ?_
      refine aw_bipush (v := 8) dX8_busiest_24 (by decide) ?_
      refine aw_iload_n dX8_busiest_26 rfl ?_
      refine aw_iadd dX8_busiest_27 ?_
      refine aw_ialdN dX8_busiest_28 (hp_161 _) rfl (8 + buQ q j) (by first | rfl | (simp only [li_0, li_1, li_2, li_3, li_4, li_5, li_7, li_8, li_9, li_11, li_12, li_16, li_17, li_31, li_32, li_60, li_77, li_80, li_89, li_99, li_101, li_112, li_113, li_256, li_999, li_1023, nI_add, pk_mul])) (by omega) (by decide) ?_
      rw [show d2.1 161 (8 + buQ q j) = nI (q 3 (buQ q j)) from hr2.2.2.2.1 _ (by omega)]
      refine aw_i2l dX8_busiest_29 ?_
      refine aw_lmul dX8_busiest_30 ?_
      refine aw_lstore_n dX8_busiest_31 (by decide) rfl rfl ?_
      refine aw_aload_n dX8_busiest_32 rfl ?_
      refine aw_aload_n dX8_busiest_33 rfl ?_
      refine aw_iload_n dX8_busiest_34 rfl ?_
      refine aw_cVP dX8_busiest_35 oX8_inStation vX8_inStation rfl lX8_178 (kX8_inStation hr2 ok (s := buQ q j) (by omega)) rfl (hp_160 _) rfl rfl rfl (Nat.le_of_ble_eq_true rfl) (by decide) (Nat.le_of_ble_eq_true rfl) ?_
      refine aw_cVI dX8_busiest_38 oX8_loadOf vX8_loadOf rfl lX8_175 (kX8_loadOf hr2 ok (stn_lt ok _)) rfl (hp_160 _) rfl rfl rfl (Nat.le_of_ble_eq_true rfl) (by decide) (Nat.le_of_ble_eq_true rfl) ?_
      rintro _ d3 ⟨⟨hm3, -⟩, rfl⟩
      have hr3 : RR (d3.1 161) q := by rw [mS_g hm3]; exact hr2
      refine aw_i2l dX8_busiest_41 ?_
      refine aw_aload_n dX8_busiest_42 rfl ?_
      refine aw_gf dX8_busiest_43 (hp_160 _) rfl fX8_7 (by decide) rfl ?_
      refine aw_bipush (v := 8) dX8_busiest_46 (by decide) ?_
      refine aw_iload_n dX8_busiest_48 rfl ?_
      refine aw_iadd dX8_busiest_49 ?_
      refine aw_ialdN dX8_busiest_50 (hp_161 _) rfl (8 + (j + 1)) (by first | rfl | (simp only [li_0, li_1, li_2, li_3, li_4, li_5, li_7, li_8, li_9, li_11, li_12, li_16, li_17, li_31, li_32, li_60, li_77, li_80, li_89, li_99, li_101, li_112, li_113, li_256, li_999, li_1023, nI_add, pk_mul])) (by omega) (by decide) ?_
      rw [show d3.1 161 (8 + (j + 1)) = nI (q 3 (j + 1)) from hr3.2.2.2.1 _ (by omega)]
      have hx1 : (nI (ld q (stn q (j + 1)))).toInt64 = lN (ld q (stn q (j + 1))) ∧ (nI (q 3 (buQ q j))).toInt64 = lN (q 3 (buQ q j)) := ⟨nI_l (by omega), nI_l (by omega)⟩
      have hx2 : (nI (ld q (stn q (buQ q j)))).toInt64 = lN (ld q (stn q (buQ q j))) ∧ (nI (q 3 (j + 1))).toInt64 = lN (q 3 (j + 1)) := ⟨nI_l (by omega), nI_l (by omega)⟩
      refine aw_i2l dX8_busiest_51 ?_
      refine aw_lmul dX8_busiest_52 ?_
      refine aw_lstore dX8_busiest_53 (by decide) rfl rfl ?_
      refine aw_lload_n dX8_busiest_55 rfl ?_
      refine aw_lload dX8_busiest_56 rfl ?_
      refine aw_lcmp dX8_busiest_58 ?_
      refine aw_if_le 66 dX8_busiest_59 (by decide) (fun c59 => ?_) (fun c59 => ?_)
      · refine aw_iload_n dX8_busiest_66 rfl ?_
        refine aw_istore_n dX8_busiest_67 (by decide) rfl ?_
        refine aw_inc (c := 1) dX8_busiest_68 (by decide) rfl (by decide) rfl ?_
        refine aw_goto (tgt := 4) dX8_busiest_71 (by decide) ?_
        rw [lg_cmp_le, hx1.1, hx1.2, hx2.1, hx2.2, lN_mul, lN_mul, pk_lLE (by omega) (by omega)] at c59
        exact aw_pick [0, 1, 2] (ih hlt _ _ _ ⟨mS_t hm1 (mS_t hm2 hm3), trivial⟩ (by show nI (buQ q j) = nI (buQ q (j + 1)); rw [show buQ q (j + 1) = _ from if_neg (by omega)]) (by rw [nI_1]))
      · refine aw_iload_n dX8_busiest_62 rfl ?_
        refine aw_goto (tgt := 67) dX8_busiest_63 (by decide) ?_
        refine aw_istore_n dX8_busiest_67 (by decide) rfl ?_
        refine aw_inc (c := 1) dX8_busiest_68 (by decide) rfl (by decide) rfl ?_
        refine aw_goto (tgt := 4) dX8_busiest_71 (by decide) ?_
        rw [lg_cmp_le, hx1.1, hx1.2, hx2.1, hx2.2, lN_mul, lN_mul, pk_lLE (by omega) (by omega)] at c59
        exact aw_pick [0, 1, 2] (ih hlt _ _ _ ⟨mS_t hm1 (mS_t hm2 hm3), trivial⟩ (by show nI (j + 1) = nI (buQ q (j + 1)); rw [show buQ q (j + 1) = _ from if_pos (by omega)]) (by rw [nI_1]))
  exact L4 0 (Nat.zero_le _) _ _ _ ⟨mS_r d, trivial⟩ rfl rfl

set_option maxHeartbeats 4000000 in
set_option maxRecDepth 100000 in
theorem kX8_refused {q : St} {d : Dt} (hr : RR (d.1 161) q) (ok : QOK q) : CI mX8_refused 7 [.ref 160] d (fun x d' => mS d d' ∧ x = nI (rfdQ q)) := by
  show AW mX8_refused 7 true (PIx (fun x d' => mS d d' ∧ x = nI (rfdQ q)) nX) 0 0 0 [(0, .ref 160)] [] (HP d)
  obtain ⟨⟨okM1, okM2⟩, okn, -⟩ := id ok
  refine aw_iconst (v := 0) dX8_refused_0 (by decide) ?_
  refine aw_istore_n dX8_refused_1 (by decide) rfl ?_
  refine aw_iconst (v := 0) dX8_refused_2 (by decide) ?_
  refine aw_istore_n dX8_refused_3 (by decide) rfl ?_
  have L4 : ∀ j, j ≤ q 0 1 → ∀ (d1 : Dt) (v1 v2 : Int32), (mS d d1 ∧ True) → v1 = nI (sN j (fun t => if 1 ≤ q 6 t ∧ refQ q t (q 6 t - 1) ≠ 0 then 1 else 0)) → v2 = nI j → AW mX8_refused 7 true (PIx (fun x d' => mS d d' ∧ x = nI (rfdQ q)) nX) 0 0 4 [(0, .ref 160), (1, .int v1), (2, .int v2)] [] (HP d1) := by
    refine up_ind (fun j hj ih => ?_)
    rintro d1 _ _ ⟨hm1, -⟩ rfl rfl; have hr1 : RR (d1.1 161) q := by rw [mS_g hm1]; exact hr
    refine aw_iload_n dX8_refused_4 rfl ?_
    refine aw_aload_n dX8_refused_5 rfl ?_
    refine aw_gf dX8_refused_6 (hp_160 _) rfl fX8_7 (by decide) rfl ?_
    refine aw_bipush (v := 16) dX8_refused_9 (by decide) ?_
    refine aw_ialdN dX8_refused_11 (hp_161 _) rfl (16) (by first | rfl | (simp only [li_0, li_1, li_2, li_3, li_4, li_5, li_7, li_8, li_9, li_11, li_12, li_16, li_17, li_31, li_32, li_60, li_77, li_80, li_89, li_99, li_101, li_112, li_113, li_256, li_999, li_1023, nI_add, pk_mul])) (by omega) (by decide) ?_
    refine aw_icmp_ge 52 dX8_refused_12 (by decide) (fun c12 => ?_) (fun c12 => ?_)
    · have hge : q 0 1 ≤ j := (le_nI hr1.1.2 rfl (by omega) (by omega)).mp c12
      have hj2 : j = q 0 1 := by omega
      subst hj2
      refine aw_iload_n dX8_refused_52 rfl ?_
      exact aw_endI dX8_refused_53 rfl ⟨hm1, rfl⟩
    · have hlt : j < q 0 1 := Nat.lt_of_not_le (fun z => c12 ((le_nI hr1.1.2 rfl (by omega) (by omega)).mpr z))
      have h6 := (ok.2.2.2.2.2.2.1 j (by omega)).2
      have hpl : d1.1 161 (17 + 5 * j + 4) = pv (q 6 j) := (hr1.2.2.2.2.1 j hlt).2.2
      refine aw_iload_n dX8_refused_15 rfl ?_
      refine aw_aload_n dX8_refused_16 rfl ?_
      refine aw_iload_n dX8_refused_17 rfl ?_
      refine aw_iconst (v := 4) dX8_refused_18 (by decide) ?_
      refine aw_cVP dX8_refused_19 oX8_of vX8_of rfl lX8_124 (kX8_of (t := j) (w := 4) (by omega) (by omega)) rfl (hp_160 _) rfl rfl rfl (Nat.le_of_ble_eq_true rfl) (by decide) (Nat.le_of_ble_eq_true rfl) ?_
      refine aw_if_lt 43 dX8_refused_22 (by decide) (fun c22 => ?_) (fun c22 => ?_)
      · refine aw_iconst (v := 0) dX8_refused_43 (by decide) ?_
        refine aw_iadd dX8_refused_44 ?_
        refine aw_istore_n dX8_refused_45 (by decide) rfl ?_
        refine aw_inc (c := 1) dX8_refused_46 (by decide) rfl (by decide) rfl ?_
        refine aw_goto (tgt := 4) dX8_refused_49 (by decide) ?_
        rw [hpl, pv_lt0 h6] at c22
        exact ih hlt _ _ _ ⟨hm1, trivial⟩ (by simp only [sN]; rw [if_neg (by omega)]; exact nI_add _ 0) (nI_1 j)
      · refine aw_aload_n dX8_refused_25 rfl ?_
        refine aw_iload_n dX8_refused_26 rfl ?_
        refine aw_aload_n dX8_refused_27 rfl ?_
        refine aw_iload_n dX8_refused_28 rfl ?_
        refine aw_iconst (v := 4) dX8_refused_29 (by decide) ?_
        refine aw_cVP dX8_refused_30 oX8_of vX8_of rfl lX8_124 (kX8_of (t := j) (w := 4) (by omega) (by omega)) rfl (hp_160 _) rfl rfl rfl (Nat.le_of_ble_eq_true rfl) (by decide) (Nat.le_of_ble_eq_true rfl) ?_
        rw [hpl, pv_lt0 h6] at c22
        rw [hpl, show pv (q 6 j) = nI (q 6 j - 1) from if_neg c22]
        refine aw_cVI dX8_refused_33 oX8_refuses vX8_refuses rfl lX8_187 (kX8_refuses hr1 ok (t := j) (s := q 6 j - 1) hlt (by omega)) rfl (hp_160 _) rfl rfl rfl (Nat.le_of_ble_eq_true rfl) (by decide) (Nat.le_of_ble_eq_true rfl) ?_
        rintro _ d2 ⟨hm2, rfl⟩
        refine aw_if_eq 43 dX8_refused_36 (by decide) (fun c36 => ?_) (fun c36 => ?_)
        · refine aw_iconst (v := 0) dX8_refused_43 (by decide) ?_
          refine aw_iadd dX8_refused_44 ?_
          refine aw_istore_n dX8_refused_45 (by decide) rfl ?_
          refine aw_inc (c := 1) dX8_refused_46 (by decide) rfl (by decide) rfl ?_
          refine aw_goto (tgt := 4) dX8_refused_49 (by decide) ?_
          rw [eq_nI rfl (show (0 : Int32) = nI 0 from rfl) (by have := refQ_le q j (q 6 j - 1); omega) (by omega)] at c36
          exact ih hlt _ _ _ ⟨mS_t hm1 hm2, trivial⟩ (by simp only [sN]; rw [if_neg (fun z => z.2 c36)]; exact nI_add _ 0) (nI_1 j)
        · refine aw_iconst (v := 1) dX8_refused_39 (by decide) ?_
          refine aw_goto (tgt := 44) dX8_refused_40 (by decide) ?_
          refine aw_iadd dX8_refused_44 ?_
          refine aw_istore_n dX8_refused_45 (by decide) rfl ?_
          refine aw_inc (c := 1) dX8_refused_46 (by decide) rfl (by decide) rfl ?_
          refine aw_goto (tgt := 4) dX8_refused_49 (by decide) ?_
          rw [eq_nI rfl (show (0 : Int32) = nI 0 from rfl) (by have := refQ_le q j (q 6 j - 1); omega) (by omega)] at c36
          exact ih hlt _ _ _ ⟨mS_t hm1 hm2, trivial⟩ (by simp only [sN]; rw [if_pos ⟨by omega, c36⟩]; exact nI_add _ 1) (nI_1 j)
  exact L4 0 (Nat.zero_le _) _ _ _ ⟨mS_r d, trivial⟩ rfl rfl

set_option maxHeartbeats 4000000 in
set_option maxRecDepth 100000 in
theorem kX8_overAll_0 {q : St} {d : Dt} (hr : RR (d.1 161) q) (ok : QOK q) : CI mX8_overAll 6 [.ref 160, .int 0] d (fun x d' => mS d d' ∧ x = nI (ovQ q 0)) := by
  show AW mX8_overAll 6 true (PIx (fun x d' => mS d d' ∧ x = nI (ovQ q 0)) nX) 0 0 0 [(0, .ref 160), (1, .int 0)] [] (HP d)
  obtain ⟨⟨okM1, okM2⟩, okn, -⟩ := id ok
  have hp12 := pow12 okn
  refine aw_iconst (v := 0) dX8_overAll_0 (by decide) ?_
  refine aw_istore_n dX8_overAll_1 (by decide) rfl ?_
  refine aw_iconst (v := 0) dX8_overAll_2 (by decide) ?_
  refine aw_istore_n dX8_overAll_3 (by decide) rfl ?_
  have L4 : ∀ j, j ≤ 8 → ∀ (d1 : Dt) (v1 v2 : Int32), (mS d d1 ∧ True) → v1 = nI (sN j (ovF q 0)) → v2 = nI j → AW mX8_overAll 6 true (PIx (fun x d' => mS d d' ∧ x = nI (ovQ q 0)) nX) 0 0 4 [(0, .ref 160), (1, .int 0), (2, .int v1), (3, .int v2)] [] (HP d1) := by
    refine up_ind (fun j hj ih => ?_)
    rintro d1 _ _ ⟨hm1, -⟩ rfl rfl; have hr1 : RR (d1.1 161) q := by rw [mS_g hm1]; exact hr
    refine aw_iload_n dX8_overAll_4 rfl ?_
    refine aw_bipush (v := 8) dX8_overAll_5 (by decide) ?_
    refine aw_icmp_ge 147 dX8_overAll_7 (by decide) (fun c7 => ?_) (fun c7 => ?_)
    · have hge : 8 ≤ j := (le_nI (show (8 : Int32) = nI 8 from rfl) rfl (by omega) (by omega)).mp c7
      have hj2 : j = 8 := by omega
      subst hj2
      refine aw_iload_n dX8_overAll_147 rfl ?_
      exact aw_endI dX8_overAll_148 rfl ⟨hm1, rfl⟩
    · have hlt : j < 8 := Nat.lt_of_not_le (fun z => c7 ((le_nI (show (8 : Int32) = nI 8 from rfl) rfl (by omega) (by omega)).mpr z))
      have hst := stn_lt ok j
      have hcp := ok.2.2.2.2.1 j hlt
      refine aw_aload_n dX8_overAll_10 rfl ?_
      refine aw_iload_n dX8_overAll_11 rfl ?_
      refine aw_cVP dX8_overAll_12 oX8_inStation vX8_inStation rfl lX8_178 (kX8_inStation hr1 ok hlt) rfl (hp_160 _) rfl rfl rfl (Nat.le_of_ble_eq_true rfl) (by decide) (Nat.le_of_ble_eq_true rfl) ?_
      refine aw_istore dX8_overAll_15 (by decide) rfl ?_
      refine aw_iload_n dX8_overAll_17 rfl ?_
      refine aw_tabIn (off := 34) (tgt := 52) dX8_overAll_18 (by decide) (by decide) (by decide) (by decide) ?_
      refine aw_iload_n dX8_overAll_52 rfl ?_
      refine aw_iload dX8_overAll_53 rfl ?_
      refine aw_if_eq 62 dX8_overAll_55 (by decide) (fun c55 => ?_) (fun c55 => ?_)
      · refine aw_iconst (v := 0) dX8_overAll_62 (by decide) ?_
        refine aw_iadd dX8_overAll_63 ?_
        refine aw_istore_n dX8_overAll_64 (by decide) rfl ?_
        refine aw_goto (tgt := 141) dX8_overAll_65 (by decide) ?_
        refine aw_inc (c := 1) dX8_overAll_141 (by decide) rfl (by decide) rfl ?_
        refine aw_goto (tgt := 4) dX8_overAll_144 (by decide) ?_
        rw [eq_nI rfl (show (0 : Int32) = nI 0 from rfl) (by omega) (by omega)] at c55
        exact aw_pick [0, 1, 2, 3] (ih hlt _ _ _ ⟨hm1, trivial⟩ (by simp only [sN, ovF]; rw [if_neg (fun z => z c55)]; exact nI_add _ 0) (nI_1 j))
      · refine aw_iconst (v := 1) dX8_overAll_58 (by decide) ?_
        refine aw_goto (tgt := 63) dX8_overAll_59 (by decide) ?_
        refine aw_iadd dX8_overAll_63 ?_
        refine aw_istore_n dX8_overAll_64 (by decide) rfl ?_
        refine aw_goto (tgt := 141) dX8_overAll_65 (by decide) ?_
        refine aw_inc (c := 1) dX8_overAll_141 (by decide) rfl (by decide) rfl ?_
        refine aw_goto (tgt := 4) dX8_overAll_144 (by decide) ?_
        rw [eq_nI rfl (show (0 : Int32) = nI 0 from rfl) (by omega) (by omega)] at c55
        exact aw_pick [0, 1, 2, 3] (ih hlt _ _ _ ⟨hm1, trivial⟩ (by simp only [sN, ovF]; rw [if_pos c55]; exact nI_add _ 1) (nI_1 j))
  exact L4 0 (Nat.zero_le _) _ _ _ ⟨mS_r d, trivial⟩ rfl rfl

set_option maxHeartbeats 4000000 in
set_option maxRecDepth 100000 in
theorem kX8_overAll_1 {q : St} {d : Dt} (hr : RR (d.1 161) q) (ok : QOK q) : CI mX8_overAll 6 [.ref 160, .int 1] d (fun x d' => mS d d' ∧ x = nI (ovQ q 1)) := by
  show AW mX8_overAll 6 true (PIx (fun x d' => mS d d' ∧ x = nI (ovQ q 1)) nX) 0 0 0 [(0, .ref 160), (1, .int 1)] [] (HP d)
  obtain ⟨⟨okM1, okM2⟩, okn, -⟩ := id ok
  have hp12 := pow12 okn
  refine aw_iconst (v := 0) dX8_overAll_0 (by decide) ?_
  refine aw_istore_n dX8_overAll_1 (by decide) rfl ?_
  refine aw_iconst (v := 0) dX8_overAll_2 (by decide) ?_
  refine aw_istore_n dX8_overAll_3 (by decide) rfl ?_
  have L4 : ∀ j, j ≤ 8 → ∀ (d1 : Dt) (v1 v2 : Int32), (mS d d1 ∧ True) → v1 = nI (sN j (ovF q 1)) → v2 = nI j → AW mX8_overAll 6 true (PIx (fun x d' => mS d d' ∧ x = nI (ovQ q 1)) nX) 0 0 4 [(0, .ref 160), (1, .int 1), (2, .int v1), (3, .int v2)] [] (HP d1) := by
    refine up_ind (fun j hj ih => ?_)
    rintro d1 _ _ ⟨hm1, -⟩ rfl rfl; have hr1 : RR (d1.1 161) q := by rw [mS_g hm1]; exact hr
    refine aw_iload_n dX8_overAll_4 rfl ?_
    refine aw_bipush (v := 8) dX8_overAll_5 (by decide) ?_
    refine aw_icmp_ge 147 dX8_overAll_7 (by decide) (fun c7 => ?_) (fun c7 => ?_)
    · have hge : 8 ≤ j := (le_nI (show (8 : Int32) = nI 8 from rfl) rfl (by omega) (by omega)).mp c7
      have hj2 : j = 8 := by omega
      subst hj2
      refine aw_iload_n dX8_overAll_147 rfl ?_
      exact aw_endI dX8_overAll_148 rfl ⟨hm1, rfl⟩
    · have hlt : j < 8 := Nat.lt_of_not_le (fun z => c7 ((le_nI (show (8 : Int32) = nI 8 from rfl) rfl (by omega) (by omega)).mpr z))
      have hst := stn_lt ok j
      have hcp := ok.2.2.2.2.1 j hlt
      refine aw_aload_n dX8_overAll_10 rfl ?_
      refine aw_iload_n dX8_overAll_11 rfl ?_
      refine aw_cVP dX8_overAll_12 oX8_inStation vX8_inStation rfl lX8_178 (kX8_inStation hr1 ok hlt) rfl (hp_160 _) rfl rfl rfl (Nat.le_of_ble_eq_true rfl) (by decide) (Nat.le_of_ble_eq_true rfl) ?_
      refine aw_istore dX8_overAll_15 (by decide) rfl ?_
      refine aw_iload_n dX8_overAll_17 rfl ?_
      refine aw_tabIn (off := 50) (tgt := 68) dX8_overAll_18 (by decide) (by decide) (by decide) (by decide) ?_
      refine aw_iload_n dX8_overAll_68 rfl ?_
      refine aw_iload dX8_overAll_69 rfl ?_
      refine aw_if_eq 86 dX8_overAll_71 (by decide) (fun c71 => ?_) (fun c71 => ?_)
      · refine aw_iconst (v := 0) dX8_overAll_86 (by decide) ?_
        refine aw_iadd dX8_overAll_87 ?_
        refine aw_istore_n dX8_overAll_88 (by decide) rfl ?_
        refine aw_goto (tgt := 141) dX8_overAll_89 (by decide) ?_
        refine aw_inc (c := 1) dX8_overAll_141 (by decide) rfl (by decide) rfl ?_
        refine aw_goto (tgt := 4) dX8_overAll_144 (by decide) ?_
        rw [eq_nI rfl (show (0 : Int32) = nI 0 from rfl) (by omega) (by omega)] at c71
        exact aw_pick [0, 1, 2, 3] (ih hlt _ _ _ ⟨hm1, trivial⟩ (by simp only [sN, ovF]; rw [if_neg (fun z => z c71)]; exact nI_add _ 0) (nI_1 j))
      · refine aw_aload_n dX8_overAll_74 rfl ?_
        refine aw_gf dX8_overAll_75 (hp_160 _) rfl fX8_7 (by decide) rfl ?_
        refine aw_bipush (v := 8) dX8_overAll_78 (by decide) ?_
        refine aw_iload_n dX8_overAll_80 rfl ?_
        refine aw_iadd dX8_overAll_81 ?_
        refine aw_ialdN dX8_overAll_82 (hp_161 _) rfl (8 + j) (by first | rfl | (simp only [li_0, li_1, li_2, li_3, li_4, li_5, li_7, li_8, li_9, li_11, li_12, li_16, li_17, li_31, li_32, li_60, li_77, li_80, li_89, li_99, li_101, li_112, li_113, li_256, li_999, li_1023, nI_add, pk_mul])) (by omega) (by decide) ?_
        refine aw_goto (tgt := 87) dX8_overAll_83 (by decide) ?_
        refine aw_iadd dX8_overAll_87 ?_
        refine aw_istore_n dX8_overAll_88 (by decide) rfl ?_
        refine aw_goto (tgt := 141) dX8_overAll_89 (by decide) ?_
        refine aw_inc (c := 1) dX8_overAll_141 (by decide) rfl (by decide) rfl ?_
        refine aw_goto (tgt := 4) dX8_overAll_144 (by decide) ?_
        rw [eq_nI rfl (show (0 : Int32) = nI 0 from rfl) (by omega) (by omega)] at c71
        exact aw_pick [0, 1, 2, 3] (ih hlt _ _ _ ⟨hm1, trivial⟩ (by simp only [sN, ovF]; rw [if_pos c71]; rw [show d1.1 161 (8 + j) = nI (q 3 j) from hr1.2.2.2.1 j hlt]; exact nI_add _ _) (nI_1 j))
  exact L4 0 (Nat.zero_le _) _ _ _ ⟨mS_r d, trivial⟩ rfl rfl

set_option maxHeartbeats 4000000 in
set_option maxRecDepth 100000 in
theorem kX8_overAll_2 {q : St} {d : Dt} (hr : RR (d.1 161) q) (ok : QOK q) : CI mX8_overAll 6 [.ref 160, .int 2] d (fun x d' => mS d d' ∧ x = nI (ovQ q 2)) := by
  show AW mX8_overAll 6 true (PIx (fun x d' => mS d d' ∧ x = nI (ovQ q 2)) nX) 0 0 0 [(0, .ref 160), (1, .int 2)] [] (HP d)
  obtain ⟨⟨okM1, okM2⟩, okn, -⟩ := id ok
  have hp12 := pow12 okn
  refine aw_iconst (v := 0) dX8_overAll_0 (by decide) ?_
  refine aw_istore_n dX8_overAll_1 (by decide) rfl ?_
  refine aw_iconst (v := 0) dX8_overAll_2 (by decide) ?_
  refine aw_istore_n dX8_overAll_3 (by decide) rfl ?_
  have L4 : ∀ j, j ≤ 8 → ∀ (d1 : Dt) (v1 v2 : Int32), (mS d d1 ∧ True) → v1 = nI (sN j (ovF q 2)) → v2 = nI j → AW mX8_overAll 6 true (PIx (fun x d' => mS d d' ∧ x = nI (ovQ q 2)) nX) 0 0 4 [(0, .ref 160), (1, .int 2), (2, .int v1), (3, .int v2)] [] (HP d1) := by
    refine up_ind (fun j hj ih => ?_)
    rintro d1 _ _ ⟨hm1, -⟩ rfl rfl; have hr1 : RR (d1.1 161) q := by rw [mS_g hm1]; exact hr
    refine aw_iload_n dX8_overAll_4 rfl ?_
    refine aw_bipush (v := 8) dX8_overAll_5 (by decide) ?_
    refine aw_icmp_ge 147 dX8_overAll_7 (by decide) (fun c7 => ?_) (fun c7 => ?_)
    · have hge : 8 ≤ j := (le_nI (show (8 : Int32) = nI 8 from rfl) rfl (by omega) (by omega)).mp c7
      have hj2 : j = 8 := by omega
      subst hj2
      refine aw_iload_n dX8_overAll_147 rfl ?_
      exact aw_endI dX8_overAll_148 rfl ⟨hm1, rfl⟩
    · have hlt : j < 8 := Nat.lt_of_not_le (fun z => c7 ((le_nI (show (8 : Int32) = nI 8 from rfl) rfl (by omega) (by omega)).mpr z))
      have hst := stn_lt ok j
      have hcp := ok.2.2.2.2.1 j hlt
      refine aw_aload_n dX8_overAll_10 rfl ?_
      refine aw_iload_n dX8_overAll_11 rfl ?_
      refine aw_cVP dX8_overAll_12 oX8_inStation vX8_inStation rfl lX8_178 (kX8_inStation hr1 ok hlt) rfl (hp_160 _) rfl rfl rfl (Nat.le_of_ble_eq_true rfl) (by decide) (Nat.le_of_ble_eq_true rfl) ?_
      refine aw_istore dX8_overAll_15 (by decide) rfl ?_
      refine aw_iload_n dX8_overAll_17 rfl ?_
      refine aw_tabIn (off := 74) (tgt := 92) dX8_overAll_18 (by decide) (by decide) (by decide) (by decide) ?_
      refine aw_iload_n dX8_overAll_92 rfl ?_
      refine aw_iload dX8_overAll_93 rfl ?_
      refine aw_cSP dX8_overAll_95 oX8_many sX8_many rfl lX8_133 (kX8_many (by omega)) rfl rfl (Nat.le_of_ble_eq_true rfl) (by decide) (Nat.le_of_ble_eq_true rfl) ?_
      refine aw_iadd dX8_overAll_98 ?_
      refine aw_istore_n dX8_overAll_99 (by decide) rfl ?_
      refine aw_goto (tgt := 141) dX8_overAll_100 (by decide) ?_
      refine aw_inc (c := 1) dX8_overAll_141 (by decide) rfl (by decide) rfl ?_
      refine aw_goto (tgt := 4) dX8_overAll_144 (by decide) ?_
      exact aw_pick [0, 1, 2, 3] (ih hlt _ _ _ ⟨hm1, trivial⟩ (nI_add _ _) (nI_1 j))
  exact L4 0 (Nat.zero_le _) _ _ _ ⟨mS_r d, trivial⟩ rfl rfl

set_option maxHeartbeats 4000000 in
set_option maxRecDepth 100000 in
theorem kX8_overAll_4 {q : St} {d : Dt} (hr : RR (d.1 161) q) (ok : QOK q) : CI mX8_overAll 6 [.ref 160, .int 4] d (fun x d' => mS d d' ∧ x = nI (ovQ q 4)) := by
  show AW mX8_overAll 6 true (PIx (fun x d' => mS d d' ∧ x = nI (ovQ q 4)) nX) 0 0 0 [(0, .ref 160), (1, .int 4)] [] (HP d)
  obtain ⟨⟨okM1, okM2⟩, okn, -⟩ := id ok
  have hp12 := pow12 okn
  refine aw_iconst (v := 0) dX8_overAll_0 (by decide) ?_
  refine aw_istore_n dX8_overAll_1 (by decide) rfl ?_
  refine aw_iconst (v := 0) dX8_overAll_2 (by decide) ?_
  refine aw_istore_n dX8_overAll_3 (by decide) rfl ?_
  have L4 : ∀ j, j ≤ 8 → ∀ (d1 : Dt) (v1 v2 : Int32), (mS d d1 ∧ True) → v1 = nI (sN j (ovF q 4)) → v2 = nI j → AW mX8_overAll 6 true (PIx (fun x d' => mS d d' ∧ x = nI (ovQ q 4)) nX) 0 0 4 [(0, .ref 160), (1, .int 4), (2, .int v1), (3, .int v2)] [] (HP d1) := by
    refine up_ind (fun j hj ih => ?_)
    rintro d1 _ _ ⟨hm1, -⟩ rfl rfl; have hr1 : RR (d1.1 161) q := by rw [mS_g hm1]; exact hr
    refine aw_iload_n dX8_overAll_4 rfl ?_
    refine aw_bipush (v := 8) dX8_overAll_5 (by decide) ?_
    refine aw_icmp_ge 147 dX8_overAll_7 (by decide) (fun c7 => ?_) (fun c7 => ?_)
    · have hge : 8 ≤ j := (le_nI (show (8 : Int32) = nI 8 from rfl) rfl (by omega) (by omega)).mp c7
      have hj2 : j = 8 := by omega
      subst hj2
      refine aw_iload_n dX8_overAll_147 rfl ?_
      exact aw_endI dX8_overAll_148 rfl ⟨hm1, rfl⟩
    · have hlt : j < 8 := Nat.lt_of_not_le (fun z => c7 ((le_nI (show (8 : Int32) = nI 8 from rfl) rfl (by omega) (by omega)).mpr z))
      have hst := stn_lt ok j
      have hcp := ok.2.2.2.2.1 j hlt
      refine aw_aload_n dX8_overAll_10 rfl ?_
      refine aw_iload_n dX8_overAll_11 rfl ?_
      refine aw_cVP dX8_overAll_12 oX8_inStation vX8_inStation rfl lX8_178 (kX8_inStation hr1 ok hlt) rfl (hp_160 _) rfl rfl rfl (Nat.le_of_ble_eq_true rfl) (by decide) (Nat.le_of_ble_eq_true rfl) ?_
      refine aw_istore dX8_overAll_15 (by decide) rfl ?_
      refine aw_iload_n dX8_overAll_17 rfl ?_
      refine aw_tabIn (off := 85) (tgt := 103) dX8_overAll_18 (by decide) (by decide) (by decide) (by decide) ?_
      refine aw_iload_n dX8_overAll_103 rfl ?_
      refine aw_aload_n dX8_overAll_104 rfl ?_
      refine aw_iload dX8_overAll_105 rfl ?_
      refine aw_cVI dX8_overAll_107 oX8_loadOf vX8_loadOf rfl lX8_175 (kX8_loadOf hr1 ok hst) rfl (hp_160 _) rfl rfl rfl (Nat.le_of_ble_eq_true rfl) (by decide) (Nat.le_of_ble_eq_true rfl) ?_
      rintro _ d2 ⟨⟨hm2, -⟩, rfl⟩
      refine aw_iadd dX8_overAll_110 ?_
      refine aw_istore_n dX8_overAll_111 (by decide) rfl ?_
      refine aw_goto (tgt := 141) dX8_overAll_112 (by decide) ?_
      refine aw_inc (c := 1) dX8_overAll_141 (by decide) rfl (by decide) rfl ?_
      refine aw_goto (tgt := 4) dX8_overAll_144 (by decide) ?_
      exact aw_pick [0, 1, 2, 3] (ih hlt _ _ _ ⟨mS_t hm1 hm2, trivial⟩ (nI_add _ _) (nI_1 j))
  exact L4 0 (Nat.zero_le _) _ _ _ ⟨mS_r d, trivial⟩ rfl rfl

set_option maxHeartbeats 4000000 in
set_option maxRecDepth 100000 in
theorem kX8_overAll_6 {q : St} {d : Dt} (hr : RR (d.1 161) q) (ok : QOK q) : CI mX8_overAll 6 [.ref 160, .int 6] d (fun x d' => mS d d' ∧ x = nI (ovQ q 6)) := by
  show AW mX8_overAll 6 true (PIx (fun x d' => mS d d' ∧ x = nI (ovQ q 6)) nX) 0 0 0 [(0, .ref 160), (1, .int 6)] [] (HP d)
  obtain ⟨⟨okM1, okM2⟩, okn, -⟩ := id ok
  have hp12 := pow12 okn
  refine aw_iconst (v := 0) dX8_overAll_0 (by decide) ?_
  refine aw_istore_n dX8_overAll_1 (by decide) rfl ?_
  refine aw_iconst (v := 0) dX8_overAll_2 (by decide) ?_
  refine aw_istore_n dX8_overAll_3 (by decide) rfl ?_
  have L4 : ∀ j, j ≤ 8 → ∀ (d1 : Dt) (v1 v2 : Int32), (mS d d1 ∧ True) → v1 = nI (sN j (ovF q 6)) → v2 = nI j → AW mX8_overAll 6 true (PIx (fun x d' => mS d d' ∧ x = nI (ovQ q 6)) nX) 0 0 4 [(0, .ref 160), (1, .int 6), (2, .int v1), (3, .int v2)] [] (HP d1) := by
    refine up_ind (fun j hj ih => ?_)
    rintro d1 _ _ ⟨hm1, -⟩ rfl rfl; have hr1 : RR (d1.1 161) q := by rw [mS_g hm1]; exact hr
    refine aw_iload_n dX8_overAll_4 rfl ?_
    refine aw_bipush (v := 8) dX8_overAll_5 (by decide) ?_
    refine aw_icmp_ge 147 dX8_overAll_7 (by decide) (fun c7 => ?_) (fun c7 => ?_)
    · have hge : 8 ≤ j := (le_nI (show (8 : Int32) = nI 8 from rfl) rfl (by omega) (by omega)).mp c7
      have hj2 : j = 8 := by omega
      subst hj2
      refine aw_iload_n dX8_overAll_147 rfl ?_
      exact aw_endI dX8_overAll_148 rfl ⟨hm1, rfl⟩
    · have hlt : j < 8 := Nat.lt_of_not_le (fun z => c7 ((le_nI (show (8 : Int32) = nI 8 from rfl) rfl (by omega) (by omega)).mpr z))
      have hst := stn_lt ok j
      have hcp := ok.2.2.2.2.1 j hlt
      refine aw_aload_n dX8_overAll_10 rfl ?_
      refine aw_iload_n dX8_overAll_11 rfl ?_
      refine aw_cVP dX8_overAll_12 oX8_inStation vX8_inStation rfl lX8_178 (kX8_inStation hr1 ok hlt) rfl (hp_160 _) rfl rfl rfl (Nat.le_of_ble_eq_true rfl) (by decide) (Nat.le_of_ble_eq_true rfl) ?_
      refine aw_istore dX8_overAll_15 (by decide) rfl ?_
      refine aw_iload_n dX8_overAll_17 rfl ?_
      refine aw_tabOut (tgt := 115) dX8_overAll_18 (by decide) (by decide) ?_
      refine aw_iload_n dX8_overAll_115 rfl ?_
      refine aw_aload_n dX8_overAll_116 rfl ?_
      refine aw_iload dX8_overAll_117 rfl ?_
      refine aw_aload_n dX8_overAll_119 rfl ?_
      refine aw_gf dX8_overAll_120 (hp_160 _) rfl fX8_7 (by decide) rfl ?_
      refine aw_bipush (v := 8) dX8_overAll_123 (by decide) ?_
      refine aw_iload_n dX8_overAll_125 rfl ?_
      refine aw_iadd dX8_overAll_126 ?_
      refine aw_ialdN dX8_overAll_127 (hp_161 _) rfl (8 + j) (by first | rfl | (simp only [li_0, li_1, li_2, li_3, li_4, li_5, li_7, li_8, li_9, li_11, li_12, li_16, li_17, li_31, li_32, li_60, li_77, li_80, li_89, li_99, li_101, li_112, li_113, li_256, li_999, li_1023, nI_add, pk_mul])) (by omega) (by decide) ?_
      rw [show d1.1 161 (8 + j) = nI (q 3 j) from hr1.2.2.2.1 j hlt]
      refine aw_cVI dX8_overAll_128 oX8_fits vX8_fits rfl lX8_184 (kX8_fits hr1 ok hst hcp.2) rfl (hp_160 _) rfl rfl rfl (Nat.le_of_ble_eq_true rfl) (by decide) (Nat.le_of_ble_eq_true rfl) ?_
      rintro _ d2 ⟨hm2, rfl⟩
      refine aw_if_eq 138 dX8_overAll_131 (by decide) (fun c131 => ?_) (fun c131 => ?_)
      · refine aw_iconst (v := 1) dX8_overAll_138 (by decide) ?_
        refine aw_iadd dX8_overAll_139 ?_
        refine aw_istore_n dX8_overAll_140 (by decide) rfl ?_
        refine aw_inc (c := 1) dX8_overAll_141 (by decide) rfl (by decide) rfl ?_
        refine aw_goto (tgt := 4) dX8_overAll_144 (by decide) ?_
        exact aw_pick [0, 1, 2, 3] (ih hlt _ _ _ ⟨mS_t hm1 hm2, trivial⟩ (by simp only [sN, ovF]; rw [if_neg (by rw [b2i_eq.mp c131]; exact Bool.false_ne_true)]; exact nI_add _ 1) (nI_1 j))
      · refine aw_iconst (v := 0) dX8_overAll_134 (by decide) ?_
        refine aw_goto (tgt := 139) dX8_overAll_135 (by decide) ?_
        refine aw_iadd dX8_overAll_139 ?_
        refine aw_istore_n dX8_overAll_140 (by decide) rfl ?_
        refine aw_inc (c := 1) dX8_overAll_141 (by decide) rfl (by decide) rfl ?_
        refine aw_goto (tgt := 4) dX8_overAll_144 (by decide) ?_
        exact aw_pick [0, 1, 2, 3] (ih hlt _ _ _ ⟨mS_t hm1 hm2, trivial⟩ (by simp only [sN, ovF]; rw [if_pos (b2i_ne.mp c131)]; exact nI_add _ 0) (nI_1 j))
  exact L4 0 (Nat.zero_le _) _ _ _ ⟨mS_r d, trivial⟩ rfl rfl
