set_option maxHeartbeats 4000000 in
set_option maxRecDepth 100000 in
theorem kX8_in {x lo hi : Int32} {d : Dt} : CP mX8_in 1 [.int x, .int lo, .int hi] d (b2i (decide (lo ≤ x ∧ x ≤ hi))) := by
  show AW mX8_in 1 true (PIx (fun y d' => y = b2i (decide (lo ≤ x ∧ x ≤ hi)) ∧ d' = d) nX) 0 0 0 [(0, .int x), (1, .int lo), (2, .int hi)] [] (HP d)
  refine aw_iload_n dX8_in_0 rfl ?_
  refine aw_iload_n dX8_in_1 rfl ?_
  refine aw_icmp_lt 14 dX8_in_2 (by decide) (fun c2 => ?_) (fun c2 => ?_)
  · refine aw_iconst (v := 0) dX8_in_14 (by decide) ?_
    exact aw_endZ dX8_in_15 rfl (by decide) ⟨by first | (exact (b2i_f (by simp only [Int32.lt_iff_toInt_lt, Int32.le_iff_toInt_le] at *; omega)).symm) | (exact (b2i_t (by simp only [Int32.lt_iff_toInt_lt, Int32.le_iff_toInt_le] at *; omega)).symm), rfl⟩
  · refine aw_iload_n dX8_in_5 rfl ?_
    refine aw_iload_n dX8_in_6 rfl ?_
    refine aw_icmp_gt 14 dX8_in_7 (by decide) (fun c7 => ?_) (fun c7 => ?_)
    · refine aw_iconst (v := 0) dX8_in_14 (by decide) ?_
      exact aw_endZ dX8_in_15 rfl (by decide) ⟨by first | (exact (b2i_f (by simp only [Int32.lt_iff_toInt_lt, Int32.le_iff_toInt_le] at *; omega)).symm) | (exact (b2i_t (by simp only [Int32.lt_iff_toInt_lt, Int32.le_iff_toInt_le] at *; omega)).symm), rfl⟩
    · refine aw_iconst (v := 1) dX8_in_10 (by decide) ?_
      refine aw_goto (tgt := 15) dX8_in_11 (by decide) ?_
      exact aw_endZ dX8_in_15 rfl (by decide) ⟨by first | (exact (b2i_f (by simp only [Int32.lt_iff_toInt_lt, Int32.le_iff_toInt_le] at *; omega)).symm) | (exact (b2i_t (by simp only [Int32.lt_iff_toInt_lt, Int32.le_iff_toInt_le] at *; omega)).symm), rfl⟩

set_option maxHeartbeats 4000000 in
set_option maxRecDepth 100000 in
theorem kX8_has {s k : Int32} {d : Dt} : CP mX8_has 1 [.int s, .int k] d (b2i (hb s k)) := by
  show AW mX8_has 1 true (PIx (fun y d' => y = b2i (hb s k) ∧ d' = d) nX) 0 0 0 [(0, .int s), (1, .int k)] [] (HP d)
  refine aw_iload_n dX8_has_0 rfl ?_
  refine aw_iload_n dX8_has_1 rfl ?_
  refine aw_ishr dX8_has_2 ?_
  refine aw_iconst (v := 1) dX8_has_3 (by decide) ?_
  refine aw_iand dX8_has_4 ?_
  refine aw_iconst (v := 1) dX8_has_5 (by decide) ?_
  refine aw_icmp_ne 13 dX8_has_6 (by decide) (fun c6 => ?_) (fun c6 => ?_)
  · refine aw_iconst (v := 0) dX8_has_13 (by decide) ?_
    exact aw_endZ dX8_has_14 rfl (by decide) ⟨by unfold hb; first | (exact (b2i_f (by assumption)).symm) | (exact (b2i_t (by assumption)).symm), rfl⟩
  · refine aw_iconst (v := 1) dX8_has_9 (by decide) ?_
    refine aw_goto (tgt := 14) dX8_has_10 (by decide) ?_
    exact aw_endZ dX8_has_14 rfl (by decide) ⟨by unfold hb; first | (exact (b2i_f (by assumption)).symm) | (exact (b2i_t (by assumption)).symm), rfl⟩

set_option maxHeartbeats 4000000 in
set_option maxRecDepth 100000 in
theorem kX8_isStation {x : Int32} {d : Dt} : CP mX8_isStation 2 [.int x] d (b2i (decide (0 ≤ x ∧ x ≤ 7))) := by
  show AW mX8_isStation 2 true (PIx (fun y d' => y = b2i (decide (0 ≤ x ∧ x ≤ 7)) ∧ d' = d) nX) 0 0 0 [(0, .int x)] [] (HP d)
  refine aw_iload_n dX8_isStation_0 rfl ?_
  refine aw_iconst (v := 0) dX8_isStation_1 (by decide) ?_
  refine aw_bipush (v := 7) dX8_isStation_2 (by decide) ?_
  refine aw_cSP dX8_isStation_4 oX8_in sX8_in rfl lX8_74 kX8_in rfl rfl (Nat.le_of_ble_eq_true rfl) (by decide) (Nat.le_of_ble_eq_true rfl) ?_
  exact aw_endZ dX8_isStation_7 rfl (by first | exact b2i_nar _ | decide) ⟨rfl, rfl⟩

set_option maxHeartbeats 4000000 in
set_option maxRecDepth 100000 in
theorem kX8_isTask {x : Int32} {d : Dt} : CP mX8_isTask 2 [.ref 160, .int x] d (b2i (decide (0 ≤ x ∧ x ≤ d.1 161 16 - 1))) := by
  show AW mX8_isTask 2 true (PIx (fun y d' => y = b2i (decide (0 ≤ x ∧ x ≤ d.1 161 16 - 1)) ∧ d' = d) nX) 0 0 0 [(0, .ref 160), (1, .int x)] [] (HP d)
  refine aw_iload_n dX8_isTask_0 rfl ?_
  refine aw_iconst (v := 0) dX8_isTask_1 (by decide) ?_
  refine aw_aload_n dX8_isTask_2 rfl ?_
  refine aw_gf dX8_isTask_3 (hp_160 _) rfl fX8_7 (by decide) rfl ?_
  refine aw_bipush (v := 16) dX8_isTask_6 (by decide) ?_
  refine aw_ialdN dX8_isTask_8 (hp_161 _) rfl (16) (by first | rfl | (simp only [li_0, li_1, li_2, li_3, li_4, li_5, li_7, li_8, li_9, li_11, li_12, li_16, li_17, li_31, li_32, li_60, li_77, li_80, li_89, li_99, li_101, li_112, li_113, li_256, li_999, li_1023, nI_add, pk_mul])) (by omega) (by decide) ?_
  refine aw_iconst (v := 1) dX8_isTask_9 (by decide) ?_
  refine aw_isub dX8_isTask_10 ?_
  refine aw_cSP dX8_isTask_11 oX8_in sX8_in rfl lX8_74 kX8_in rfl rfl (Nat.le_of_ble_eq_true rfl) (by decide) (Nat.le_of_ble_eq_true rfl) ?_
  exact aw_endZ dX8_isTask_14 rfl (by first | exact b2i_nar _ | decide) ⟨rfl, rfl⟩

set_option maxHeartbeats 4000000 in
set_option maxRecDepth 100000 in
theorem kX8_of {t w : Nat} (ht : t < 12) (hw : w < 5) {d : Dt} : CP mX8_of 1 [.ref 160, .int (nI t), .int (nI w)] d (d.1 161 (17 + 5 * t + w)) := by
  show AW mX8_of 1 true (PIx (fun y d' => y = d.1 161 (17 + 5 * t + w) ∧ d' = d) nX) 0 0 0 [(0, .ref 160), (1, .int (nI t)), (2, .int (nI w))] [] (HP d)
  refine aw_aload_n dX8_of_0 rfl ?_
  refine aw_gf dX8_of_1 (hp_160 _) rfl fX8_7 (by decide) rfl ?_
  refine aw_bipush (v := 17) dX8_of_4 (by decide) ?_
  refine aw_iconst (v := 5) dX8_of_6 (by decide) ?_
  refine aw_iload_n dX8_of_7 rfl ?_
  refine aw_imul dX8_of_8 ?_
  refine aw_iadd dX8_of_9 ?_
  refine aw_iload_n dX8_of_10 rfl ?_
  refine aw_iadd dX8_of_11 ?_
  refine aw_ialdN dX8_of_12 (hp_161 _) rfl (17 + 5 * t + w) (by first | rfl | (simp only [li_0, li_1, li_2, li_3, li_4, li_5, li_7, li_8, li_9, li_11, li_12, li_16, li_17, li_31, li_32, li_60, li_77, li_80, li_89, li_99, li_101, li_112, li_113, li_256, li_999, li_1023, nI_add, pk_mul])) (by omega) (by decide) ?_
  exact aw_endI dX8_of_13 rfl ⟨rfl, rfl⟩

set_option maxHeartbeats 4000000 in
set_option maxRecDepth 100000 in
theorem kX8_totalDemand {q : St} {d : Dt} (hr : RR (d.1 161) q) (ok : QOK q) : CP mX8_totalDemand 1 [.ref 160] d (nI (td q)) := by
  show AW mX8_totalDemand 1 true (PIx (fun y d' => y = nI (td q) ∧ d' = d) nX) 0 0 0 [(0, .ref 160)] [] (HP d)
  obtain ⟨⟨okM1, okM2⟩, okn, -⟩ := id ok
  refine aw_iconst (v := 0) dX8_totalDemand_0 (by decide) ?_
  refine aw_istore_n dX8_totalDemand_1 (by decide) rfl ?_
  refine aw_iconst (v := 0) dX8_totalDemand_2 (by decide) ?_
  refine aw_istore_n dX8_totalDemand_3 (by decide) rfl ?_
  have L4 : ∀ j, j ≤ q 0 0 → ∀ (v1 v2 : Int32), v1 = nI (sN j (q 1)) → v2 = nI j → AW mX8_totalDemand 1 true (PIx (fun y d' => y = nI (td q) ∧ d' = d) nX) 0 0 4 [(0, .ref 160), (1, .int v1), (2, .int v2)] [] (HP d) := by
    refine up_ind (fun j hj ih => ?_)
    rintro _ _ rfl rfl
    refine aw_iload_n dX8_totalDemand_4 rfl ?_
    refine aw_aload_n dX8_totalDemand_5 rfl ?_
    refine aw_gf dX8_totalDemand_6 (hp_160 _) rfl fX8_7 (by decide) rfl ?_
    refine aw_iconst (v := 0) dX8_totalDemand_9 (by decide) ?_
    refine aw_ialdN dX8_totalDemand_10 (hp_161 _) rfl (0) (by first | rfl | (simp only [li_0, li_1, li_2, li_3, li_4, li_5, li_7, li_8, li_9, li_11, li_12, li_16, li_17, li_31, li_32, li_60, li_77, li_80, li_89, li_99, li_101, li_112, li_113, li_256, li_999, li_1023, nI_add, pk_mul])) (by omega) (by decide) ?_
    refine aw_icmp_ge 31 dX8_totalDemand_11 (by decide) (fun c11 => ?_) (fun c11 => ?_)
    · have hge : q 0 0 ≤ j := (le_nI hr.1.1 rfl (by omega) (by omega)).mp c11
      have hj2 : j = q 0 0 := by omega
      subst hj2
      refine aw_iload_n dX8_totalDemand_31 rfl ?_
      exact aw_endI dX8_totalDemand_32 rfl ⟨rfl, rfl⟩
    · have hlt : j < q 0 0 := Nat.lt_of_not_le (fun z => c11 ((le_nI hr.1.1 rfl (by omega) (by omega)).mpr z))
      refine aw_iload_n dX8_totalDemand_14 rfl ?_
      refine aw_aload_n dX8_totalDemand_15 rfl ?_
      refine aw_gf dX8_totalDemand_16 (hp_160 _) rfl fX8_7 (by decide) rfl ?_
      refine aw_iconst (v := 1) dX8_totalDemand_19 (by decide) ?_
      refine aw_iload_n dX8_totalDemand_20 rfl ?_
      refine aw_iadd dX8_totalDemand_21 ?_
      refine aw_ialdN dX8_totalDemand_22 (hp_161 _) rfl (1 + j) (by first | rfl | (simp only [li_0, li_1, li_2, li_3, li_4, li_5, li_7, li_8, li_9, li_11, li_12, li_16, li_17, li_31, li_32, li_60, li_77, li_80, li_89, li_99, li_101, li_112, li_113, li_256, li_999, li_1023, nI_add, pk_mul])) (by omega) (by decide) ?_
      refine aw_iadd dX8_totalDemand_23 ?_
      refine aw_istore_n dX8_totalDemand_24 (by decide) rfl ?_
      refine aw_inc (c := 1) dX8_totalDemand_25 (by decide) rfl (by decide) rfl ?_
      refine aw_goto (tgt := 4) dX8_totalDemand_28 (by decide) ?_
      exact ih hlt _ _ (by rw [hr.2.1 j (by omega), nI_add]; rfl) (nI_1 j)
  exact L4 0 (Nat.zero_le _) _ _ rfl rfl

set_option maxHeartbeats 4000000 in
set_option maxRecDepth 100000 in
theorem kX8_weighted {q : St} {d : Dt} (hr : RR (d.1 161) q) (ok : QOK q) {t : Nat} (ht : t < q 0 1) : CP mX8_weighted 2 [.ref 160, .int (nI t)] d (nI (wt q t)) := by
  show AW mX8_weighted 2 true (PIx (fun y d' => y = nI (wt q t) ∧ d' = d) nX) 0 0 0 [(0, .ref 160), (1, .int (nI t))] [] (HP d)
  obtain ⟨⟨okM1, okM2⟩, okn, -⟩ := id ok
  refine aw_iconst (v := 0) dX8_weighted_0 (by decide) ?_
  refine aw_istore_n dX8_weighted_1 (by decide) rfl ?_
  refine aw_iconst (v := 0) dX8_weighted_2 (by decide) ?_
  refine aw_istore_n dX8_weighted_3 (by decide) rfl ?_
  have L4 : ∀ j, j ≤ q 0 0 → ∀ (v1 v2 : Int32), v1 = nI (sN j (fun m => q 1 m * q 4 (3 * t + m))) → v2 = nI j → AW mX8_weighted 2 true (PIx (fun y d' => y = nI (wt q t) ∧ d' = d) nX) 0 0 4 [(0, .ref 160), (1, .int (nI t)), (2, .int v1), (3, .int v2)] [] (HP d) := by
    refine up_ind (fun j hj ih => ?_)
    rintro _ _ rfl rfl
    refine aw_iload_n dX8_weighted_4 rfl ?_
    refine aw_aload_n dX8_weighted_5 rfl ?_
    refine aw_gf dX8_weighted_6 (hp_160 _) rfl fX8_7 (by decide) rfl ?_
    refine aw_iconst (v := 0) dX8_weighted_9 (by decide) ?_
    refine aw_ialdN dX8_weighted_10 (hp_161 _) rfl (0) (by first | rfl | (simp only [li_0, li_1, li_2, li_3, li_4, li_5, li_7, li_8, li_9, li_11, li_12, li_16, li_17, li_31, li_32, li_60, li_77, li_80, li_89, li_99, li_101, li_112, li_113, li_256, li_999, li_1023, nI_add, pk_mul])) (by omega) (by decide) ?_
    refine aw_icmp_ge 38 dX8_weighted_11 (by decide) (fun c11 => ?_) (fun c11 => ?_)
    · have hge : q 0 0 ≤ j := (le_nI hr.1.1 rfl (by omega) (by omega)).mp c11
      have hj2 : j = q 0 0 := by omega
      subst hj2
      refine aw_iload_n dX8_weighted_38 rfl ?_
      exact aw_endI dX8_weighted_39 rfl ⟨rfl, rfl⟩
    · have hlt : j < q 0 0 := Nat.lt_of_not_le (fun z => c11 ((le_nI hr.1.1 rfl (by omega) (by omega)).mpr z))
      refine aw_iload_n dX8_weighted_14 rfl ?_
      refine aw_aload_n dX8_weighted_15 rfl ?_
      refine aw_gf dX8_weighted_16 (hp_160 _) rfl fX8_7 (by decide) rfl ?_
      refine aw_iconst (v := 1) dX8_weighted_19 (by decide) ?_
      refine aw_iload_n dX8_weighted_20 rfl ?_
      refine aw_iadd dX8_weighted_21 ?_
      refine aw_ialdN dX8_weighted_22 (hp_161 _) rfl (1 + j) (by first | rfl | (simp only [li_0, li_1, li_2, li_3, li_4, li_5, li_7, li_8, li_9, li_11, li_12, li_16, li_17, li_31, li_32, li_60, li_77, li_80, li_89, li_99, li_101, li_112, li_113, li_256, li_999, li_1023, nI_add, pk_mul])) (by omega) (by decide) ?_
      refine aw_aload_n dX8_weighted_23 rfl ?_
      refine aw_iload_n dX8_weighted_24 rfl ?_
      refine aw_iload_n dX8_weighted_25 rfl ?_
      refine aw_cVP dX8_weighted_26 oX8_of vX8_of rfl lX8_124 (kX8_of (t := t) (w := j) (by omega) (by omega)) rfl (hp_160 _) rfl rfl rfl (Nat.le_of_ble_eq_true rfl) (by decide) (Nat.le_of_ble_eq_true rfl) ?_
      refine aw_imul dX8_weighted_29 ?_
      refine aw_iadd dX8_weighted_30 ?_
      refine aw_istore_n dX8_weighted_31 (by decide) rfl ?_
      refine aw_inc (c := 1) dX8_weighted_32 (by decide) rfl (by decide) rfl ?_
      refine aw_goto (tgt := 4) dX8_weighted_35 (by decide) ?_
      exact ih hlt _ _ (by rw [hr.2.1 j (by omega), (hr.2.2.2.2.1 t ht).1 j (by omega), pk_mul, nI_add]; rfl) (nI_1 j)
  exact L4 0 (Nat.zero_le _) _ _ rfl rfl

set_option maxHeartbeats 4000000 in
set_option maxRecDepth 100000 in
theorem kX8_many {s : Nat} (hs : s < 4096) {d : Dt} : CP mX8_many 2 [.int (nI s)] d (nI (pc s)) := by
  show AW mX8_many 2 true (PIx (fun y d' => y = nI (pc s) ∧ d' = d) nX) 0 0 0 [(0, .int (nI s))] [] (HP d)
  refine aw_iconst (v := 0) dX8_many_0 (by decide) ?_
  refine aw_istore_n dX8_many_1 (by decide) rfl ?_
  refine aw_iconst (v := 0) dX8_many_2 (by decide) ?_
  refine aw_istore_n dX8_many_3 (by decide) rfl ?_
  have L4 : ∀ j, j ≤ 32 → ∀ (v1 v2 : Int32), v1 = nI (sN j (fun k => if s.testBit k = true then 1 else 0)) → v2 = nI j → AW mX8_many 2 true (PIx (fun y d' => y = nI (pc s) ∧ d' = d) nX) 0 0 4 [(0, .int (nI s)), (1, .int v1), (2, .int v2)] [] (HP d) := by
    refine up_ind (fun j hj ih => ?_)
    rintro _ _ rfl rfl
    refine aw_iload_n dX8_many_4 rfl ?_
    refine aw_bipush (v := 32) dX8_many_5 (by decide) ?_
    refine aw_icmp_ge 32 dX8_many_7 (by decide) (fun c7 => ?_) (fun c7 => ?_)
    · have hge : 32 ≤ j := (le_nI li_32 rfl (by omega) (by omega)).mp c7
      have hj2 : j = 32 := by omega
      subst hj2
      refine aw_iload_n dX8_many_32 rfl ?_
      exact aw_endI dX8_many_33 rfl ⟨rfl, rfl⟩
    · have hlt : j < 32 := Nat.lt_of_not_le (fun z => c7 ((le_nI li_32 rfl (by omega) (by omega)).mpr z))
      refine aw_iload_n dX8_many_10 rfl ?_
      refine aw_iload_n dX8_many_11 rfl ?_
      refine aw_iload_n dX8_many_12 rfl ?_
      refine aw_cSP dX8_many_13 oX8_has sX8_has rfl lX8_127 kX8_has rfl rfl (Nat.le_of_ble_eq_true rfl) (by decide) (Nat.le_of_ble_eq_true rfl) ?_
      refine aw_if_eq 23 dX8_many_16 (by decide) (fun c16 => ?_) (fun c16 => ?_)
      · refine aw_iconst (v := 0) dX8_many_23 (by decide) ?_
        refine aw_iadd dX8_many_24 ?_
        refine aw_istore_n dX8_many_25 (by decide) rfl ?_
        refine aw_inc (c := 1) dX8_many_26 (by decide) rfl (by decide) rfl ?_
        refine aw_goto (tgt := 4) dX8_many_29 (by decide) ?_
        exact ih hlt _ _ (by rw [hb_nI (by omega) (by omega)] at c16; (first | (rw [b2i_eq] at c16) | (rw [b2i_ne] at c16)); simp only [sN, c16]; (first | (exact nI_add _ 1) | (exact nI_add _ 0))) (nI_1 j)
      · refine aw_iconst (v := 1) dX8_many_19 (by decide) ?_
        refine aw_goto (tgt := 24) dX8_many_20 (by decide) ?_
        refine aw_iadd dX8_many_24 ?_
        refine aw_istore_n dX8_many_25 (by decide) rfl ?_
        refine aw_inc (c := 1) dX8_many_26 (by decide) rfl (by decide) rfl ?_
        refine aw_goto (tgt := 4) dX8_many_29 (by decide) ?_
        exact ih hlt _ _ (by rw [hb_nI (by omega) (by omega)] at c16; (first | (rw [b2i_eq] at c16) | (rw [b2i_ne] at c16)); simp only [sN, c16]; (first | (exact nI_add _ 1) | (exact nI_add _ 0))) (nI_1 j)
  exact L4 0 (Nat.zero_le _) _ _ rfl rfl

set_option maxHeartbeats 4000000 in
set_option maxRecDepth 100000 in
theorem kX8_aheadOf {q : St} {d : Dt} (hr : RR (d.1 161) q) (ok : QOK q) {t : Nat} (ht : t < 12) : CP mX8_aheadOf 2 [.ref 160, .int (nI t)] d (nI (q 8 t)) := by
  show AW mX8_aheadOf 2 true (PIx (fun y d' => y = nI (q 8 t) ∧ d' = d) nX) 0 0 0 [(0, .ref 160), (1, .int (nI t))] [] (HP d)
  obtain ⟨⟨okM1, okM2⟩, okn, -⟩ := id ok
  have hp12 := pow12 okn
  have E : ∀ S, aGood q t S → stp q (q 0 1) S = S → AW mX8_aheadOf 2 true (PIx (fun y d' => y = nI (q 8 t) ∧ d' = d) nX) 0 0 12 [(0, .ref 160), (1, .int (nI t)), (2, .int (nI S)), (3, .int (nI S))] [] (HP d) := by
    intro S hg he
    refine aw_iload_n dX8_aheadOf_12 rfl ?_
    refine aw_iload_n dX8_aheadOf_13 rfl ?_
    refine aw_icmp_eq 69 dX8_aheadOf_14 (by decide) (fun c14 => ?_) (fun c14 => (c14 rfl).elim)
    refine aw_iload_n dX8_aheadOf_69 rfl ?_
    exact aw_endI dX8_aheadOf_70 rfl ⟨by rw [aGood_e ok ht hg he], rfl⟩
  have K : ∀ (f S : Nat), 4096 - S ≤ f → aGood q t S → ∀ had : Int32, ¬ had = nI S → AW mX8_aheadOf 2 true (PIx (fun y d' => y = nI (q 8 t) ∧ d' = d) nX) 0 0 12 [(0, .ref 160), (1, .int (nI t)), (2, .int (nI S)), (3, .int had)] [] (HP d) := by
    intro f
    induction f with
    | zero =>
      intro S hf hg
      have := hg.1
      omega
    | succ f ihf =>
      intro S hf hg had hne
      have hSlt := hg.1
      refine aw_iload_n dX8_aheadOf_12 rfl ?_
      refine aw_iload_n dX8_aheadOf_13 rfl ?_
      refine aw_icmp_eq 69 dX8_aheadOf_14 (by decide) (fun c14 => (hne c14).elim) (fun c14 => ?_)
      refine aw_iload_n dX8_aheadOf_17 rfl ?_
      refine aw_istore_n dX8_aheadOf_18 (by decide) rfl ?_
      refine aw_iconst (v := 0) dX8_aheadOf_19 (by decide) ?_
      refine aw_istore dX8_aheadOf_20 (by decide) rfl ?_
      have L22 : ∀ j, j ≤ q 0 1 → ∀ (v1 v2 : Int32), v1 = nI (S ||| oN j (fun k => if S.testBit k = true then q 7 k else 0)) → v2 = nI j → AW mX8_aheadOf 2 true (PIx (fun y d' => y = nI (q 8 t) ∧ d' = d) nX) 0 0 22 [(0, .ref 160), (1, .int (nI t)), (2, .int v1), (3, .int (nI S)), (4, .int v2)] [] (HP d) := by
        refine up_ind (fun j hj ih => ?_)
        rintro _ _ rfl rfl
        refine aw_iload dX8_aheadOf_22 rfl ?_
        refine aw_aload_n dX8_aheadOf_24 rfl ?_
        refine aw_gf dX8_aheadOf_25 (hp_160 _) rfl fX8_7 (by decide) rfl ?_
        refine aw_bipush (v := 16) dX8_aheadOf_28 (by decide) ?_
        refine aw_ialdN dX8_aheadOf_30 (hp_161 _) rfl (16) (by first | rfl | (simp only [li_0, li_1, li_2, li_3, li_4, li_5, li_7, li_8, li_9, li_11, li_12, li_16, li_17, li_31, li_32, li_60, li_77, li_80, li_89, li_99, li_101, li_112, li_113, li_256, li_999, li_1023, nI_add, pk_mul])) (by omega) (by decide) ?_
        refine aw_icmp_ge 66 dX8_aheadOf_31 (by decide) (fun c31 => ?_) (fun c31 => ?_)
        · have hge : q 0 1 ≤ j := (le_nI hr.1.2 rfl (by omega) (by omega)).mp c31
          have hj2 : j = q 0 1 := by omega
          subst hj2
          refine aw_goto (tgt := 12) dX8_aheadOf_66 (by decide) ?_
          have hg2 := aGood_s ok hg
          by_cases he : stp q (q 0 1) S = S
          · refine aw_pick [0, 1, 2, 3] ?_
            have e2 := E _ hg he
            rw [show S ||| oN (q 0 1) (fun k => if S.testBit k = true then q 7 k else 0) = S from he]
            exact e2
          · refine aw_pick [0, 1, 2, 3] ?_
            have h1 := stp_ge q (q 0 1) S
            have h2 := hg2.1
            exact ihf _ (by omega) hg2 (nI S) (fun z => he (nI_inj (by omega) (by omega) z).symm)
        · have hlt : j < q 0 1 := Nat.lt_of_not_le (fun z => c31 ((le_nI hr.1.2 rfl (by omega) (by omega)).mpr z))
          refine aw_iload_n dX8_aheadOf_34 rfl ?_
          refine aw_iload_n dX8_aheadOf_35 rfl ?_
          refine aw_iload dX8_aheadOf_36 rfl ?_
          refine aw_cSP dX8_aheadOf_38 oX8_has sX8_has rfl lX8_127 kX8_has rfl rfl (Nat.le_of_ble_eq_true rfl) (by decide) (Nat.le_of_ble_eq_true rfl) ?_
          refine aw_if_eq 57 dX8_aheadOf_41 (by decide) (fun c41 => ?_) (fun c41 => ?_)
          · refine aw_iconst (v := 0) dX8_aheadOf_57 (by decide) ?_
            refine aw_ior dX8_aheadOf_58 ?_
            refine aw_istore_n dX8_aheadOf_59 (by decide) rfl ?_
            refine aw_inc (c := 1) dX8_aheadOf_60 (by decide) rfl (by decide) rfl ?_
            refine aw_goto (tgt := 22) dX8_aheadOf_63 (by decide) ?_
            exact ih hlt _ _ (by rw [hb_nI (by omega) (by omega)] at c41; (first | (rw [b2i_eq] at c41) | (rw [b2i_ne] at c41)); simp only [oN, c41]; (first | (rw [(hr.2.2.2.2.2 j (by omega)).1, nI_or, Nat.or_assoc]; rfl) | (rw [show (0 : Int32) = nI 0 from rfl, nI_or, Nat.or_assoc]; rfl))) (nI_1 j)
          · refine aw_aload_n dX8_aheadOf_44 rfl ?_
            refine aw_gf dX8_aheadOf_45 (hp_160 _) rfl fX8_7 (by decide) rfl ?_
            refine aw_bipush (v := 77) dX8_aheadOf_48 (by decide) ?_
            refine aw_iload dX8_aheadOf_50 rfl ?_
            refine aw_iadd dX8_aheadOf_52 ?_
            refine aw_ialdN dX8_aheadOf_53 (hp_161 _) rfl (77 + j) (by first | rfl | (simp only [li_0, li_1, li_2, li_3, li_4, li_5, li_7, li_8, li_9, li_11, li_12, li_16, li_17, li_31, li_32, li_60, li_77, li_80, li_89, li_99, li_101, li_112, li_113, li_256, li_999, li_1023, nI_add, pk_mul])) (by omega) (by decide) ?_
            refine aw_goto (tgt := 58) dX8_aheadOf_54 (by decide) ?_
            refine aw_ior dX8_aheadOf_58 ?_
            refine aw_istore_n dX8_aheadOf_59 (by decide) rfl ?_
            refine aw_inc (c := 1) dX8_aheadOf_60 (by decide) rfl (by decide) rfl ?_
            refine aw_goto (tgt := 22) dX8_aheadOf_63 (by decide) ?_
            exact ih hlt _ _ (by rw [hb_nI (by omega) (by omega)] at c41; (first | (rw [b2i_eq] at c41) | (rw [b2i_ne] at c41)); simp only [oN, c41]; (first | (rw [(hr.2.2.2.2.2 j (by omega)).1, nI_or, Nat.or_assoc]; rfl) | (rw [show (0 : Int32) = nI 0 from rfl, nI_or, Nat.or_assoc]; rfl))) (nI_1 j)
      exact L22 0 (Nat.zero_le _) _ _ (by rw [show oN 0 (fun k => if S.testBit k = true then q 7 k else 0) = 0 from rfl, Nat.or_zero]) rfl
  refine aw_aload_n dX8_aheadOf_0 rfl ?_
  refine aw_gf dX8_aheadOf_1 (hp_160 _) rfl fX8_7 (by decide) rfl ?_
  refine aw_bipush (v := 77) dX8_aheadOf_4 (by decide) ?_
  refine aw_iload_n dX8_aheadOf_6 rfl ?_
  refine aw_iadd dX8_aheadOf_7 ?_
  refine aw_ialdN dX8_aheadOf_8 (hp_161 _) rfl (77 + t) (by first | rfl | (simp only [li_0, li_1, li_2, li_3, li_4, li_5, li_7, li_8, li_9, li_11, li_12, li_16, li_17, li_31, li_32, li_60, li_77, li_80, li_89, li_99, li_101, li_112, li_113, li_256, li_999, li_1023, nI_add, pk_mul])) (by omega) (by decide) ?_
  refine aw_istore_n dX8_aheadOf_9 (by decide) rfl ?_
  refine aw_iconst (v := (-1)) dX8_aheadOf_10 (by decide) ?_
  refine aw_istore_n dX8_aheadOf_11 (by decide) rfl ?_
  rw [(hr.2.2.2.2.2 t ht).1]
  have hg0 := aGood_0 ok ht
  have h0 := hg0.1
  exact K _ _ (Nat.le_refl _) hg0 (-1) (m1_ne (by omega))
