set_option maxHeartbeats 4000000 in
set_option maxRecDepth 100000 in
theorem kX7_isIn {x lo hi : Int32} {d : Dt} : CP mX7_isIn 1 [.int x, .int lo, .int hi] d (b2i (decide (lo ≤ x ∧ x ≤ hi))) := by
  show AW mX7_isIn 1 true _ 0 0 0 [(0, .int x), (1, .int lo), (2, .int hi)] [] (HP d)
  refine aw_iload_n dX7_isIn_0 rfl ?_
  refine aw_iload_n dX7_isIn_1 rfl ?_
  refine aw_icmp_lt 14 dX7_isIn_2 (by decide) (fun c2 => ?_) (fun c2 => ?_)
  · refine aw_iconst (v := 0) dX7_isIn_14 (by decide) ?_
    exact aw_endZ dX7_isIn_15 rfl (by decide) ⟨by first | (exact (b2i_f (by simp only [Int32.lt_iff_toInt_lt, Int32.le_iff_toInt_le] at *; omega)).symm) | (exact (b2i_t (by simp only [Int32.lt_iff_toInt_lt, Int32.le_iff_toInt_le] at *; omega)).symm), rfl⟩
  · refine aw_iload_n dX7_isIn_5 rfl ?_
    refine aw_iload_n dX7_isIn_6 rfl ?_
    refine aw_icmp_gt 14 dX7_isIn_7 (by decide) (fun c7 => ?_) (fun c7 => ?_)
    · refine aw_iconst (v := 0) dX7_isIn_14 (by decide) ?_
      exact aw_endZ dX7_isIn_15 rfl (by decide) ⟨by first | (exact (b2i_f (by simp only [Int32.lt_iff_toInt_lt, Int32.le_iff_toInt_le] at *; omega)).symm) | (exact (b2i_t (by simp only [Int32.lt_iff_toInt_lt, Int32.le_iff_toInt_le] at *; omega)).symm), rfl⟩
    · refine aw_iconst (v := 1) dX7_isIn_10 (by decide) ?_
      refine aw_goto (tgt := 15) dX7_isIn_11 (by decide) ?_
      exact aw_endZ dX7_isIn_15 rfl (by decide) ⟨by first | (exact (b2i_f (by simp only [Int32.lt_iff_toInt_lt, Int32.le_iff_toInt_le] at *; omega)).symm) | (exact (b2i_t (by simp only [Int32.lt_iff_toInt_lt, Int32.le_iff_toInt_le] at *; omega)).symm), rfl⟩

set_option maxHeartbeats 4000000 in
set_option maxRecDepth 100000 in
theorem kX7_has {s k : Int32} {d : Dt} : CP mX7_has 1 [.int s, .int k] d (b2i (decide ((s >>> (k &&& 31)) &&& 1 ≠ 0))) := by
  show AW mX7_has 1 true _ 0 0 0 [(0, .int s), (1, .int k)] [] (HP d)
  refine aw_iload_n dX7_has_0 rfl ?_
  refine aw_iload_n dX7_has_1 rfl ?_
  refine aw_ishr dX7_has_2 ?_
  refine aw_iconst (v := 1) dX7_has_3 (by decide) ?_
  refine aw_iand dX7_has_4 ?_
  refine aw_if_eq 12 dX7_has_5 (by decide) (fun c5 => ?_) (fun c5 => ?_)
  · refine aw_iconst (v := 0) dX7_has_12 (by decide) ?_
    exact aw_endZ dX7_has_13 rfl (by decide) ⟨by simp_all [b2i], rfl⟩
  · refine aw_iconst (v := 1) dX7_has_8 (by decide) ?_
    refine aw_goto (tgt := 13) dX7_has_9 (by decide) ?_
    exact aw_endZ dX7_has_13 rfl (by decide) ⟨by simp_all [b2i], rfl⟩

set_option maxHeartbeats 4000000 in
set_option maxRecDepth 100000 in
theorem kX7_isStation {x : Int32} {d : Dt} : CP mX7_isStation 2 [.int x] d (b2i (decide (0 ≤ x ∧ x ≤ 7))) := by
  show AW mX7_isStation 2 true _ 0 0 0 [(0, .int x)] [] (HP d)
  refine aw_iload_n dX7_isStation_0 rfl ?_
  refine aw_iconst (v := 0) dX7_isStation_1 (by decide) ?_
  refine aw_bipush (v := 7) dX7_isStation_2 (by decide) ?_
  refine aw_cSP dX7_isStation_4 oX7_isIn sX7_isIn rfl lX7_49 kX7_isIn rfl rfl (Nat.le_of_ble_eq_true rfl) (by decide) (Nat.le_of_ble_eq_true rfl) ?_
  exact aw_endZ dX7_isStation_7 rfl (b2i_nar _) ⟨rfl, rfl⟩

set_option maxHeartbeats 4000000 in
set_option maxRecDepth 100000 in
theorem kX7_isPriority {x : Int32} {d : Dt} : CP mX7_isPriority 2 [.int x] d (b2i (decide (0 ≤ x ∧ x ≤ 3))) := by
  show AW mX7_isPriority 2 true _ 0 0 0 [(0, .int x)] [] (HP d)
  refine aw_iload_n dX7_isPriority_0 rfl ?_
  refine aw_iconst (v := 0) dX7_isPriority_1 (by decide) ?_
  refine aw_iconst (v := 3) dX7_isPriority_2 (by decide) ?_
  refine aw_cSP dX7_isPriority_3 oX7_isIn sX7_isIn rfl lX7_49 kX7_isIn rfl rfl (Nat.le_of_ble_eq_true rfl) (by decide) (Nat.le_of_ble_eq_true rfl) ?_
  exact aw_endZ dX7_isPriority_6 rfl (b2i_nar _) ⟨rfl, rfl⟩

set_option maxHeartbeats 4000000 in
set_option maxRecDepth 100000 in
theorem kX7_isTime {x : Int32} {d : Dt} : CP mX7_isTime 2 [.int x] d (b2i (decide (0 ≤ x ∧ x ≤ 99))) := by
  show AW mX7_isTime 2 true _ 0 0 0 [(0, .int x)] [] (HP d)
  refine aw_iload_n dX7_isTime_0 rfl ?_
  refine aw_iconst (v := 0) dX7_isTime_1 (by decide) ?_
  refine aw_bipush (v := 99) dX7_isTime_2 (by decide) ?_
  refine aw_cSP dX7_isTime_4 oX7_isIn sX7_isIn rfl lX7_49 kX7_isIn rfl rfl (Nat.le_of_ble_eq_true rfl) (by decide) (Nat.le_of_ble_eq_true rfl) ?_
  exact aw_endZ dX7_isTime_7 rfl (b2i_nar _) ⟨rfl, rfl⟩

set_option maxHeartbeats 4000000 in
set_option maxRecDepth 100000 in
theorem kX7_isTool {x : Int32} {d : Dt} : CP mX7_isTool 2 [.int x] d (b2i (decide (0 ≤ x ∧ x ≤ 5))) := by
  show AW mX7_isTool 2 true _ 0 0 0 [(0, .int x)] [] (HP d)
  refine aw_iload_n dX7_isTool_0 rfl ?_
  refine aw_iconst (v := 0) dX7_isTool_1 (by decide) ?_
  refine aw_iconst (v := 5) dX7_isTool_2 (by decide) ?_
  refine aw_cSP dX7_isTool_3 oX7_isIn sX7_isIn rfl lX7_49 kX7_isIn rfl rfl (Nat.le_of_ble_eq_true rfl) (by decide) (Nat.le_of_ble_eq_true rfl) ?_
  exact aw_endZ dX7_isTool_6 rfl (b2i_nar _) ⟨rfl, rfl⟩

set_option maxHeartbeats 4000000 in
set_option maxRecDepth 100000 in
theorem kX4_hasTask {t : Int32} {d : Dt} : CP mX4_hasTask 2 [.ref 0, .int t] d (b2i (decide (0 ≤ t ∧ t ≤ d.1 0 1 - 1))) := by
  show AW mX4_hasTask 2 true _ 0 0 0 [(0, .ref 0), (1, .int t)] [] (HP d)
  refine aw_iload_n dX4_hasTask_0 rfl ?_
  refine aw_iconst (v := 0) dX4_hasTask_1 (by decide) ?_
  refine aw_aload_n dX4_hasTask_2 rfl ?_
  refine aw_gf dX4_hasTask_3 (hp_0 _) rfl fX4_55 (by decide) rfl ?_
  refine aw_iconst (v := 1) dX4_hasTask_6 (by decide) ?_
  refine aw_isub dX4_hasTask_7 ?_
  refine aw_cSNP dX4_hasTask_8 oX7_isIn sX7_isIn lX4_74 kX7_isIn rfl rfl (Nat.le_of_ble_eq_true rfl) (by decide) (Nat.le_of_ble_eq_true rfl) ?_
  exact aw_endZ dX4_hasTask_11 rfl (b2i_nar _) ⟨rfl, rfl⟩
