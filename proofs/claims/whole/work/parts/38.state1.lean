theorem kX7_hasN {s k : Nat} {d : Dt} (hs : s < 2 ^ 31) (hk : k < 32) : CP mX7_has 1 [.int (nI s), .int (nI k)] d (b2i (s.testBit k)) := by
  rw [← hb_b s k hs hk]
  exact kX7_has
theorem kX4_hasT {q : St} {d : Dt} (hs : KS 0 d q) {t : Int32} : CP mX4_hasTask 2 [.ref 0, .int t] d (b2i (decide (tkI q t))) := by
  have := @kX4_hasTask t d
  rw [show d.1 0 1 = nI (q 0 1) from hs 0 1 (by decide) (by decide)] at this
  exact this
theorem q78_lt {q : St} (ok : QOK q) {t : Nat} (ht : t < 12) : q 7 t < 4096 ∧ q 8 t < 4096 ∧ q 9 t < 4096 ∧ q 10 t < 4096 ∧ q 11 t < 4096 := by
  have h := pow12 ok.2.1
  have h1 := ok.2.2.2.2.2.2.2.2.1 t ht
  have h2 := q8_lt ok ht
  have h3 := q9_lt ok ht
  omega
set_option maxHeartbeats 4000000 in
set_option maxRecDepth 100000 in
theorem kX4_totalDemand {q : St} {d : Dt} (hs : KS 0 d q) (ok : QOK q) : CP mX4_totalDemand 1 [.ref 0] d (nI (td q)) := by
  show AW mX4_totalDemand 1 true (PIx (fun y d' => y = nI (td q) ∧ d' = d) nX) 0 0 0 [(0, .ref 0)] [] (HP d)
  obtain ⟨⟨okM1, okM2⟩, okn, -⟩ := id ok
  refine aw_iconst (v := 0) dX4_totalDemand_0 (by decide) ?_
  refine aw_istore_n dX4_totalDemand_1 (by decide) rfl ?_
  refine aw_iconst (v := 0) dX4_totalDemand_2 (by decide) ?_
  refine aw_istore_n dX4_totalDemand_3 (by decide) rfl ?_
  have L4 : ∀ j, j ≤ q 0 0 → ∀ (v1 v2 : Int32), v1 = nI (sN j (q 1)) → v2 = nI j → AW mX4_totalDemand 1 true (PIx (fun y d' => y = nI (td q) ∧ d' = d) nX) 0 0 4 [(0, .ref 0), (1, .int v1), (2, .int v2)] [] (HP d) := by
    refine up_ind (fun j hj ih => ?_)
    rintro _ _ rfl rfl
    refine aw_iload_n dX4_totalDemand_4 rfl ?_
    refine aw_aload_n dX4_totalDemand_5 rfl ?_
    refine aw_gf dX4_totalDemand_6 (hp_0 _) rfl fX4_9 (by decide) rfl ?_
    refine aw_icmp_ge 27 dX4_totalDemand_9 (by decide) (fun c9 => ?_) (fun c9 => ?_)
    · have hge : q 0 0 ≤ j := (le_nI (hs 0 0 (by decide) (by decide)) rfl (by omega) (by omega)).mp c9
      have hj2 : j = q 0 0 := by omega
      subst hj2
      refine aw_iload_n dX4_totalDemand_27 rfl ?_
      exact aw_endI dX4_totalDemand_28 rfl ⟨rfl, rfl⟩
    · have hlt : j < q 0 0 := Nat.lt_of_not_le (fun z => c9 ((le_nI (hs 0 0 (by decide) (by decide)) rfl (by omega) (by omega)).mpr z))
      refine aw_iload_n dX4_totalDemand_12 rfl ?_
      refine aw_aload_n dX4_totalDemand_13 rfl ?_
      refine aw_gf dX4_totalDemand_14 (hp_0 _) rfl fX4_15 (by decide) rfl ?_
      refine aw_iload_n dX4_totalDemand_17 rfl ?_
      refine aw_ialdN dX4_totalDemand_18 (hp_1 _) rfl (j) (by first | rfl | (simp only [li_0, li_1, li_2, li_3, li_4, li_5, li_7, li_8, li_9, li_11, li_12, li_16, li_17, li_31, li_32, li_60, li_77, li_80, li_89, li_99, li_101, li_112, li_113, li_256, li_999, li_1023, nI_add, pk_mul])) (by omega) (by decide) ?_
      rw [show d.1 1 (j) = nI (q 1 (j)) from hs 1 (j) (by decide) (show (j) < 3 by omega)]
      refine aw_iadd dX4_totalDemand_19 ?_
      refine aw_istore_n dX4_totalDemand_20 (by decide) rfl ?_
      refine aw_inc (c := 1) dX4_totalDemand_21 (by decide) rfl (by decide) rfl ?_
      refine aw_goto (tgt := 4) dX4_totalDemand_24 (by decide) ?_
      exact ih hlt _ _ (nI_add _ _) (nI_1 j)
  exact L4 0 (Nat.zero_le _) _ _ rfl rfl

set_option maxHeartbeats 4000000 in
set_option maxRecDepth 100000 in
theorem kX4_capacity {q : St} {d : Dt} (hs : KS 0 d q) (ok : QOK q) {c : Nat} : CP mX4_capacity 2 [.ref 0, .int (nI c)] d (nI (c * q 2 0 * td q)) := by
  show AW mX4_capacity 2 true (PIx (fun y d' => y = nI (c * q 2 0 * td q) ∧ d' = d) nX) 0 0 0 [(0, .ref 0), (1, .int (nI c))] [] (HP d)
  refine aw_iload_n dX4_capacity_0 rfl ?_
  refine aw_aload_n dX4_capacity_1 rfl ?_
  refine aw_gf dX4_capacity_2 (hp_0 _) rfl fX4_19 (by decide) rfl ?_
  refine aw_iconst (v := 0) dX4_capacity_5 (by decide) ?_
  refine aw_ialdN dX4_capacity_6 (hp_2 _) rfl (0) (by first | rfl | (simp only [li_0, li_1, li_2, li_3, li_4, li_5, li_7, li_8, li_9, li_11, li_12, li_16, li_17, li_31, li_32, li_60, li_77, li_80, li_89, li_99, li_101, li_112, li_113, li_256, li_999, li_1023, nI_add, pk_mul])) (by omega) (by decide) ?_
  rw [show d.1 2 (0) = nI (q 2 (0)) from hs 2 (0) (by decide) (show (0) < 4 by omega)]
  refine aw_imul dX4_capacity_7 ?_
  refine aw_aload_n dX4_capacity_8 rfl ?_
  refine aw_cVP dX4_capacity_9 oX4_totalDemand vX4_totalDemand rfl lX4_78 (kX4_totalDemand hs ok) rfl (hp_0 _) rfl rfl rfl (Nat.le_of_ble_eq_true rfl) (by decide) (Nat.le_of_ble_eq_true rfl) ?_
  refine aw_imul dX4_capacity_12 ?_
  exact aw_endI dX4_capacity_13 rfl ⟨by rw [pk_mul, pk_mul], rfl⟩

set_option maxHeartbeats 4000000 in
set_option maxRecDepth 100000 in
theorem kX4_weightedTime {q : St} {d : Dt} (hs : KS 0 d q) (ok : QOK q) {t : Nat} (ht : t < 12) : CP mX4_weightedTime 1 [.ref 0, .int (nI t)] d (nI (wt q t)) := by
  show AW mX4_weightedTime 1 true (PIx (fun y d' => y = nI (wt q t) ∧ d' = d) nX) 0 0 0 [(0, .ref 0), (1, .int (nI t))] [] (HP d)
  obtain ⟨⟨okM1, okM2⟩, okn, -⟩ := id ok
  refine aw_iconst (v := 0) dX4_weightedTime_0 (by decide) ?_
  refine aw_istore_n dX4_weightedTime_1 (by decide) rfl ?_
  refine aw_iconst (v := 0) dX4_weightedTime_2 (by decide) ?_
  refine aw_istore_n dX4_weightedTime_3 (by decide) rfl ?_
  have L4 : ∀ j, j ≤ q 0 0 → ∀ (v1 v2 : Int32), v1 = nI (sN j (fun m => q 1 m * q 4 (3 * t + m))) → v2 = nI j → AW mX4_weightedTime 1 true (PIx (fun y d' => y = nI (wt q t) ∧ d' = d) nX) 0 0 4 [(0, .ref 0), (1, .int (nI t)), (2, .int v1), (3, .int v2)] [] (HP d) := by
    refine up_ind (fun j hj ih => ?_)
    rintro _ _ rfl rfl
    refine aw_iload_n dX4_weightedTime_4 rfl ?_
    refine aw_aload_n dX4_weightedTime_5 rfl ?_
    refine aw_gf dX4_weightedTime_6 (hp_0 _) rfl fX4_9 (by decide) rfl ?_
    refine aw_icmp_ge 38 dX4_weightedTime_9 (by decide) (fun c9 => ?_) (fun c9 => ?_)
    · have hge : q 0 0 ≤ j := (le_nI (hs 0 0 (by decide) (by decide)) rfl (by omega) (by omega)).mp c9
      have hj2 : j = q 0 0 := by omega
      subst hj2
      refine aw_iload_n dX4_weightedTime_38 rfl ?_
      exact aw_endI dX4_weightedTime_39 rfl ⟨rfl, rfl⟩
    · have hlt : j < q 0 0 := Nat.lt_of_not_le (fun z => c9 ((le_nI (hs 0 0 (by decide) (by decide)) rfl (by omega) (by omega)).mpr z))
      refine aw_iload_n dX4_weightedTime_12 rfl ?_
      refine aw_aload_n dX4_weightedTime_13 rfl ?_
      refine aw_gf dX4_weightedTime_14 (hp_0 _) rfl fX4_15 (by decide) rfl ?_
      refine aw_iload_n dX4_weightedTime_17 rfl ?_
      refine aw_ialdN dX4_weightedTime_18 (hp_1 _) rfl (j) (by first | rfl | (simp only [li_0, li_1, li_2, li_3, li_4, li_5, li_7, li_8, li_9, li_11, li_12, li_16, li_17, li_31, li_32, li_60, li_77, li_80, li_89, li_99, li_101, li_112, li_113, li_256, li_999, li_1023, nI_add, pk_mul])) (by omega) (by decide) ?_
      rw [show d.1 1 (j) = nI (q 1 (j)) from hs 1 (j) (by decide) (show (j) < 3 by omega)]
      refine aw_aload_n dX4_weightedTime_19 rfl ?_
      refine aw_gf dX4_weightedTime_20 (hp_0 _) rfl fX4_25 (by decide) rfl ?_
      refine aw_iload_n dX4_weightedTime_23 rfl ?_
      refine aw_iconst (v := 3) dX4_weightedTime_24 (by decide) ?_
      refine aw_imul dX4_weightedTime_25 ?_
      refine aw_iload_n dX4_weightedTime_26 rfl ?_
      refine aw_iadd dX4_weightedTime_27 ?_
      refine aw_ialdN dX4_weightedTime_28 (hp_4 _) rfl (t * 3 + j) (by first | rfl | (simp only [li_0, li_1, li_2, li_3, li_4, li_5, li_7, li_8, li_9, li_11, li_12, li_16, li_17, li_31, li_32, li_60, li_77, li_80, li_89, li_99, li_101, li_112, li_113, li_256, li_999, li_1023, nI_add, pk_mul])) (by omega) (by decide) ?_
      rw [show d.1 4 (t * 3 + j) = nI (q 4 (t * 3 + j)) from hs 4 (t * 3 + j) (by decide) (show (t * 3 + j) < 36 by omega)]
      refine aw_imul dX4_weightedTime_29 ?_
      refine aw_iadd dX4_weightedTime_30 ?_
      refine aw_istore_n dX4_weightedTime_31 (by decide) rfl ?_
      refine aw_inc (c := 1) dX4_weightedTime_32 (by decide) rfl (by decide) rfl ?_
      refine aw_goto (tgt := 4) dX4_weightedTime_35 (by decide) ?_
      exact ih hlt _ _ (by rw [pk_mul, nI_add, Nat.mul_comm t 3]; rfl) (nI_1 j)
  exact L4 0 (Nat.zero_le _) _ _ rfl rfl

set_option maxHeartbeats 4000000 in
set_option maxRecDepth 100000 in
theorem kX4_weightedTimes {q : St} {d : Dt} (hs : KS 0 d q) (ok : QOK q) {S : Nat} (hS : S < 2 ^ 31) : CP mX4_weightedTimes 2 [.ref 0, .int (nI S)] d (nI (wts q S)) := by
  show AW mX4_weightedTimes 2 true (PIx (fun y d' => y = nI (wts q S) ∧ d' = d) nX) 0 0 0 [(0, .ref 0), (1, .int (nI S))] [] (HP d)
  obtain ⟨⟨okM1, okM2⟩, okn, -⟩ := id ok
  refine aw_iconst (v := 0) dX4_weightedTimes_0 (by decide) ?_
  refine aw_istore_n dX4_weightedTimes_1 (by decide) rfl ?_
  refine aw_iconst (v := 0) dX4_weightedTimes_2 (by decide) ?_
  refine aw_istore_n dX4_weightedTimes_3 (by decide) rfl ?_
  have L4 : ∀ j, j ≤ q 0 1 → ∀ (v1 v2 : Int32), v1 = nI (sN j (fun t => if S.testBit t = true then wt q t else 0)) → v2 = nI j → AW mX4_weightedTimes 2 true (PIx (fun y d' => y = nI (wts q S) ∧ d' = d) nX) 0 0 4 [(0, .ref 0), (1, .int (nI S)), (2, .int v1), (3, .int v2)] [] (HP d) := by
    refine up_ind (fun j hj ih => ?_)
    rintro _ _ rfl rfl
    refine aw_iload_n dX4_weightedTimes_4 rfl ?_
    refine aw_aload_n dX4_weightedTimes_5 rfl ?_
    refine aw_gf dX4_weightedTimes_6 (hp_0 _) rfl fX4_55 (by decide) rfl ?_
    refine aw_icmp_ge 38 dX4_weightedTimes_9 (by decide) (fun c9 => ?_) (fun c9 => ?_)
    · have hge : q 0 1 ≤ j := (le_nI (hs 0 1 (by decide) (by decide)) rfl (by omega) (by omega)).mp c9
      have hj2 : j = q 0 1 := by omega
      subst hj2
      refine aw_iload_n dX4_weightedTimes_38 rfl ?_
      exact aw_endI dX4_weightedTimes_39 rfl ⟨rfl, rfl⟩
    · have hlt : j < q 0 1 := Nat.lt_of_not_le (fun z => c9 ((le_nI (hs 0 1 (by decide) (by decide)) rfl (by omega) (by omega)).mpr z))
      refine aw_iload_n dX4_weightedTimes_12 rfl ?_
      refine aw_iload_n dX4_weightedTimes_13 rfl ?_
      refine aw_iload_n dX4_weightedTimes_14 rfl ?_
      refine aw_cSNP dX4_weightedTimes_15 oX7_has sX7_has lX4_82 (kX7_hasN (s := S) (k := j) hS (by omega)) rfl rfl (Nat.le_of_ble_eq_true rfl) (by decide) (Nat.le_of_ble_eq_true rfl) ?_
      refine aw_if_eq 29 dX4_weightedTimes_18 (by decide) (fun c18 => ?_) (fun c18 => ?_)
      · refine aw_iconst (v := 0) dX4_weightedTimes_29 (by decide) ?_
        refine aw_iadd dX4_weightedTimes_30 ?_
        refine aw_istore_n dX4_weightedTimes_31 (by decide) rfl ?_
        refine aw_inc (c := 1) dX4_weightedTimes_32 (by decide) rfl (by decide) rfl ?_
        refine aw_goto (tgt := 4) dX4_weightedTimes_35 (by decide) ?_
        exact ih hlt _ _ (by simp only [sN]; rw [b2i_eq.mp c18]; rw [if_neg Bool.false_ne_true]; exact nI_add _ 0) (nI_1 j)
      · refine aw_aload_n dX4_weightedTimes_21 rfl ?_
        refine aw_iload_n dX4_weightedTimes_22 rfl ?_
        refine aw_cVP dX4_weightedTimes_23 oX4_weightedTime vX4_weightedTime rfl lX4_86 (kX4_weightedTime hs ok (t := j) (by omega)) rfl (hp_0 _) rfl rfl rfl (Nat.le_of_ble_eq_true rfl) (by decide) (Nat.le_of_ble_eq_true rfl) ?_
        refine aw_goto (tgt := 30) dX4_weightedTimes_26 (by decide) ?_
        refine aw_iadd dX4_weightedTimes_30 ?_
        refine aw_istore_n dX4_weightedTimes_31 (by decide) rfl ?_
        refine aw_inc (c := 1) dX4_weightedTimes_32 (by decide) rfl (by decide) rfl ?_
        refine aw_goto (tgt := 4) dX4_weightedTimes_35 (by decide) ?_
        exact ih hlt _ _ (by simp only [sN]; rw [b2i_ne.mp c18]; rw [if_pos rfl]; exact nI_add _ _) (nI_1 j)
  exact L4 0 (Nat.zero_le _) _ _ rfl rfl

set_option maxHeartbeats 4000000 in
set_option maxRecDepth 100000 in
theorem kX4_priorityOf {q : St} {d : Dt} (hs : KS 0 d q) (ok : QOK q) {t p : Nat} (ht : t < 12) (hp : p < 4) : CP mX4_priorityOf 3 [.ref 0, .int (nI t), .int (nI p)] d (nI (prio q t p)) := by
  show AW mX4_priorityOf 3 true (PIx (fun y d' => y = nI (prio q t p) ∧ d' = d) nX) 0 0 0 [(0, .ref 0), (1, .int (nI t)), (2, .int (nI p))] [] (HP d)
  have hq := q78_lt ok ht
  refine aw_iload_n dX4_priorityOf_0 rfl ?_
  rcases (show p = 0 ∨ p = 1 ∨ p = 2 ∨ p = 3 by omega) with rfl | rfl | rfl | rfl
  · refine aw_tabIn (off := 27) (tgt := 28) dX4_priorityOf_1 (by decide) (by decide) (by decide) (by decide) ?_
    refine aw_aload_n dX4_priorityOf_28 rfl ?_
    refine aw_iload_n dX4_priorityOf_29 rfl ?_
    refine aw_cVP dX4_priorityOf_30 oX4_weightedTime vX4_weightedTime rfl lX4_86 (kX4_weightedTime hs ok ht) rfl (hp_0 _) rfl rfl rfl (Nat.le_of_ble_eq_true rfl) (by decide) (Nat.le_of_ble_eq_true rfl) ?_
    refine aw_aload_n dX4_priorityOf_33 rfl ?_
    refine aw_aload_n dX4_priorityOf_34 rfl ?_
    refine aw_gf dX4_priorityOf_35 (hp_0 _) rfl fX4_40 (by decide) rfl ?_
    refine aw_iload_n dX4_priorityOf_38 rfl ?_
    refine aw_ialdN dX4_priorityOf_39 (hp_9 _) rfl (t) (by first | rfl | (simp only [li_0, li_1, li_2, li_3, li_4, li_5, li_7, li_8, li_9, li_11, li_12, li_16, li_17, li_31, li_32, li_60, li_77, li_80, li_89, li_99, li_101, li_112, li_113, li_256, li_999, li_1023, nI_add, pk_mul])) (by omega) (by decide) ?_
    rw [show d.1 9 (t) = nI (q 9 (t)) from hs 9 (t) (by decide) (show (t) < 12 by omega)]
    refine aw_cVP dX4_priorityOf_40 oX4_weightedTimes vX4_weightedTimes rfl lX4_90 (kX4_weightedTimes hs ok (S := q 9 t) (by omega)) rfl (hp_0 _) rfl rfl rfl (Nat.le_of_ble_eq_true rfl) (by decide) (Nat.le_of_ble_eq_true rfl) ?_
    refine aw_iadd dX4_priorityOf_43 ?_
    exact aw_endI dX4_priorityOf_44 rfl ⟨nI_add _ _, rfl⟩
  · refine aw_tabIn (off := 44) (tgt := 45) dX4_priorityOf_1 (by decide) (by decide) (by decide) (by decide) ?_
    refine aw_aload_n dX4_priorityOf_45 rfl ?_
    refine aw_iload_n dX4_priorityOf_46 rfl ?_
    refine aw_cVP dX4_priorityOf_47 oX4_weightedTime vX4_weightedTime rfl lX4_86 (kX4_weightedTime hs ok ht) rfl (hp_0 _) rfl rfl rfl (Nat.le_of_ble_eq_true rfl) (by decide) (Nat.le_of_ble_eq_true rfl) ?_
    exact aw_endI dX4_priorityOf_50 rfl ⟨rfl, rfl⟩
  · refine aw_tabIn (off := 50) (tgt := 51) dX4_priorityOf_1 (by decide) (by decide) (by decide) (by decide) ?_
    refine aw_aload_n dX4_priorityOf_51 rfl ?_
    refine aw_gf dX4_priorityOf_52 (hp_0 _) rfl fX4_40 (by decide) rfl ?_
    refine aw_iload_n dX4_priorityOf_55 rfl ?_
    refine aw_ialdN dX4_priorityOf_56 (hp_9 _) rfl (t) (by first | rfl | (simp only [li_0, li_1, li_2, li_3, li_4, li_5, li_7, li_8, li_9, li_11, li_12, li_16, li_17, li_31, li_32, li_60, li_77, li_80, li_89, li_99, li_101, li_112, li_113, li_256, li_999, li_1023, nI_add, pk_mul])) (by omega) (by decide) ?_
    rw [show d.1 9 (t) = nI (q 9 (t)) from hs 9 (t) (by decide) (show (t) < 12 by omega)]
    refine aw_cSP dX4_priorityOf_57 oJ6_bitCount_0f7a4 sJ6_bitCount_0f7a4 rfl lX4_93 (kJ6_bitCount_0f7a4 (s := q 9 t) (by omega)) rfl rfl (Nat.le_of_ble_eq_true rfl) (by decide) (Nat.le_of_ble_eq_true rfl) ?_
    exact aw_endI dX4_priorityOf_60 rfl ⟨rfl, rfl⟩
  · refine aw_tabOut (tgt := 61) dX4_priorityOf_1 (by decide) (by decide) ?_
    refine aw_iconst (v := 0) dX4_priorityOf_61 (by decide) ?_
    exact aw_endI dX4_priorityOf_62 rfl ⟨rfl, rfl⟩

set_option maxHeartbeats 4000000 in
set_option maxRecDepth 100000 in
theorem kX4_isDirectlyBefore {q : St} {d : Dt} (hs : KS 0 d q) (ok : QOK q) {a b : Nat} (ha : a < 12) (hb : b < 12) : CP mX4_isDirectlyBefore 2 [.ref 0, .int (nI a), .int (nI b)] d (b2i ((q 7 b).testBit a)) := by
  show AW mX4_isDirectlyBefore 2 true (PIx (fun y d' => y = b2i ((q 7 b).testBit a) ∧ d' = d) nX) 0 0 0 [(0, .ref 0), (1, .int (nI a)), (2, .int (nI b))] [] (HP d)
  have hq := q78_lt ok hb
  refine aw_aload_n dX4_isDirectlyBefore_0 rfl ?_
  refine aw_gf dX4_isDirectlyBefore_1 (hp_0 _) rfl fX4_34 (by decide) rfl ?_
  refine aw_iload_n dX4_isDirectlyBefore_4 rfl ?_
  refine aw_ialdN dX4_isDirectlyBefore_5 (hp_7 _) rfl (b) (by first | rfl | (simp only [li_0, li_1, li_2, li_3, li_4, li_5, li_7, li_8, li_9, li_11, li_12, li_16, li_17, li_31, li_32, li_60, li_77, li_80, li_89, li_99, li_101, li_112, li_113, li_256, li_999, li_1023, nI_add, pk_mul])) (by omega) (by decide) ?_
  rw [show d.1 7 (b) = nI (q 7 (b)) from hs 7 (b) (by decide) (show (b) < 12 by omega)]
  refine aw_iload_n dX4_isDirectlyBefore_6 rfl ?_
  refine aw_cSNP dX4_isDirectlyBefore_7 oX7_has sX7_has lX4_82 (kX7_hasN (s := q 7 b) (k := a) (by omega) (by omega)) rfl rfl (Nat.le_of_ble_eq_true rfl) (by decide) (Nat.le_of_ble_eq_true rfl) ?_
  exact aw_endZ dX4_isDirectlyBefore_10 rfl (b2i_nar _) ⟨rfl, rfl⟩

set_option maxHeartbeats 4000000 in
set_option maxRecDepth 100000 in
theorem kX4_isBefore {q : St} {d : Dt} (hs : KS 0 d q) (ok : QOK q) {a b : Nat} (ha : a < 12) (hb : b < 12) : CP mX4_isBefore 2 [.ref 0, .int (nI a), .int (nI b)] d (b2i ((q 8 b).testBit a)) := by
  show AW mX4_isBefore 2 true (PIx (fun y d' => y = b2i ((q 8 b).testBit a) ∧ d' = d) nX) 0 0 0 [(0, .ref 0), (1, .int (nI a)), (2, .int (nI b))] [] (HP d)
  have hq := q78_lt ok hb
  refine aw_aload_n dX4_isBefore_0 rfl ?_
  refine aw_gf dX4_isBefore_1 (hp_0 _) rfl fX4_37 (by decide) rfl ?_
  refine aw_iload_n dX4_isBefore_4 rfl ?_
  refine aw_ialdN dX4_isBefore_5 (hp_8 _) rfl (b) (by first | rfl | (simp only [li_0, li_1, li_2, li_3, li_4, li_5, li_7, li_8, li_9, li_11, li_12, li_16, li_17, li_31, li_32, li_60, li_77, li_80, li_89, li_99, li_101, li_112, li_113, li_256, li_999, li_1023, nI_add, pk_mul])) (by omega) (by decide) ?_
  rw [show d.1 8 (b) = nI (q 8 (b)) from hs 8 (b) (by decide) (show (b) < 12 by omega)]
  refine aw_iload_n dX4_isBefore_6 rfl ?_
  refine aw_cSNP dX4_isBefore_7 oX7_has sX7_has lX4_82 (kX7_hasN (s := q 8 b) (k := a) (by omega) (by omega)) rfl rfl (Nat.le_of_ble_eq_true rfl) (by decide) (Nat.le_of_ble_eq_true rfl) ?_
  exact aw_endZ dX4_isBefore_10 rfl (b2i_nar _) ⟨rfl, rfl⟩

set_option maxHeartbeats 4000000 in
set_option maxRecDepth 100000 in
theorem kX4_pairKind {q : St} {d : Dt} (hs : KS 0 d q) (ok : QOK q) {a b : Nat} (ha : a < 12) (hb : b < 12) : CP mX4_pairKind 2 [.ref 0, .int (nI a), .int (nI b)] d (nI (pk q a b)) := by
  show AW mX4_pairKind 2 true (PIx (fun y d' => y = nI (pk q a b) ∧ d' = d) nX) 0 0 0 [(0, .ref 0), (1, .int (nI a)), (2, .int (nI b))] [] (HP d)
  have hq := q78_lt ok ha
  refine aw_aload_n dX4_pairKind_0 rfl ?_
  refine aw_gf dX4_pairKind_1 (hp_0 _) rfl fX4_43 (by decide) rfl ?_
  refine aw_iload_n dX4_pairKind_4 rfl ?_
  refine aw_ialdN dX4_pairKind_5 (hp_10 _) rfl (a) (by first | rfl | (simp only [li_0, li_1, li_2, li_3, li_4, li_5, li_7, li_8, li_9, li_11, li_12, li_16, li_17, li_31, li_32, li_60, li_77, li_80, li_89, li_99, li_101, li_112, li_113, li_256, li_999, li_1023, nI_add, pk_mul])) (by omega) (by decide) ?_
  rw [show d.1 10 (a) = nI (q 10 (a)) from hs 10 (a) (by decide) (show (a) < 12 by omega)]
  refine aw_iload_n dX4_pairKind_6 rfl ?_
  refine aw_cSNP dX4_pairKind_7 oX7_has sX7_has lX4_82 (kX7_hasN (s := q 10 a) (k := b) (by omega) (by omega)) rfl rfl (Nat.le_of_ble_eq_true rfl) (by decide) (Nat.le_of_ble_eq_true rfl) ?_
  refine aw_if_eq 15 dX4_pairKind_10 (by decide) (fun c10 => ?_) (fun c10 => ?_)
  · refine aw_aload_n dX4_pairKind_15 rfl ?_
    refine aw_gf dX4_pairKind_16 (hp_0 _) rfl fX4_46 (by decide) rfl ?_
    refine aw_iload_n dX4_pairKind_19 rfl ?_
    refine aw_ialdN dX4_pairKind_20 (hp_11 _) rfl (a) (by first | rfl | (simp only [li_0, li_1, li_2, li_3, li_4, li_5, li_7, li_8, li_9, li_11, li_12, li_16, li_17, li_31, li_32, li_60, li_77, li_80, li_89, li_99, li_101, li_112, li_113, li_256, li_999, li_1023, nI_add, pk_mul])) (by omega) (by decide) ?_
    rw [show d.1 11 (a) = nI (q 11 (a)) from hs 11 (a) (by decide) (show (a) < 12 by omega)]
    refine aw_iload_n dX4_pairKind_21 rfl ?_
    refine aw_cSNP dX4_pairKind_22 oX7_has sX7_has lX4_82 (kX7_hasN (s := q 11 a) (k := b) (by omega) (by omega)) rfl rfl (Nat.le_of_ble_eq_true rfl) (by decide) (Nat.le_of_ble_eq_true rfl) ?_
    refine aw_if_eq 32 dX4_pairKind_25 (by decide) (fun c25 => ?_) (fun c25 => ?_)
    · refine aw_iconst (v := 0) dX4_pairKind_32 (by decide) ?_
      exact aw_endI dX4_pairKind_33 rfl ⟨by unfold pk; rw [if_neg (by rw [b2i_eq.mp c10]; exact Bool.false_ne_true), if_neg (by rw [b2i_eq.mp c25]; exact Bool.false_ne_true)]; rfl, rfl⟩
    · refine aw_iconst (v := 2) dX4_pairKind_28 (by decide) ?_
      refine aw_goto (tgt := 33) dX4_pairKind_29 (by decide) ?_
      exact aw_endI dX4_pairKind_33 rfl ⟨by unfold pk; rw [if_neg (by rw [b2i_eq.mp c10]; exact Bool.false_ne_true), if_pos (b2i_ne.mp c25)]; rfl, rfl⟩
  · refine aw_iconst (v := 1) dX4_pairKind_13 (by decide) ?_
    exact aw_endI dX4_pairKind_14 rfl ⟨by unfold pk; rw [if_pos (b2i_ne.mp c10)]; rfl, rfl⟩

theorem clrP_row {q : St} : ∀ j' k, j' < 12 → j' ≠ 6 → k < szC j' → vC (clrP q) j' k = vC q j' k := fun j' k _ h _ => by
  unfold vC clrP
  rw [if_neg h, if_neg h, if_neg (fun z => h z.1)]
set_option maxHeartbeats 4000000 in
set_option maxRecDepth 100000 in
theorem kX4_takeAllOut {q : St} {d : Dt} (hs : KS 0 d q) (ok : QOK q) : CV mX4_takeAllOut 2 [.ref 0] d (fun d' => fN d d' ∧ KS 0 d' (clrP q)) := by
  show AW mX4_takeAllOut 2 true (PVx (fun d' => fN d d' ∧ KS 0 d' (clrP q)) nX) 0 0 0 [(0, .ref 0)] [] (HP d)
  refine aw_aload_n dX4_takeAllOut_0 rfl ?_
  refine aw_gf dX4_takeAllOut_1 (hp_0 _) rfl fX4_31 (by decide) rfl ?_
  refine aw_iconst (v := (-1)) dX4_takeAllOut_4 (by decide) ?_
  refine aw_cSv dX4_takeAllOut_5 oJ7_fill_53178 sJ7_fill_53178 rfl lX4_49 (kJ7_fill_53178 (i := 6) (N := 12) (fun d => hp_6 d) (by decide)) rfl rfl (Nat.le_of_ble_eq_true rfl) (by decide) (Nat.le_of_ble_eq_true rfl) ?_
  rintro _ rfl
  exact aw_endV dX4_takeAllOut_8 rfl ⟨fN_dI (fN_r d) (by decide) _, KS_row hs (j := 6) rfl clrP_row (fun k hk => by have hk2 : k < 12 := hk; rw [cpy_lt _ _ hk2]; unfold vC clrP; rw [if_pos rfl, if_pos ⟨rfl, hk2⟩]; rfl)⟩

theorem addq_up (q : St) (a b c e : Nat) : addq q a b c e = up (up (up (up (up q 0 1 (q 0 1 + 1)) 4 (3 * q 0 1) a) 4 (3 * q 0 1 + 1) b) 4 (3 * q 0 1 + 2) c) 5 (q 0 1) e := by
  funext i k
  simp only [addq, up]
  by_cases h0 : i = 0 ∧ k = 1
  · rw [if_pos h0, if_neg (by omega), if_neg (by omega), if_neg (by omega), if_neg (by omega), if_pos h0]
  · rw [if_neg h0]
    by_cases h1 : i = 4 ∧ k = 3 * q 0 1
    · rw [if_pos h1, if_neg (by omega), if_neg (by omega), if_neg (by omega), if_pos h1]
    · rw [if_neg h1]
      by_cases h2 : i = 4 ∧ k = 3 * q 0 1 + 1
      · rw [if_pos h2, if_neg (by omega), if_neg (by omega), if_pos h2]
      · rw [if_neg h2]
        by_cases h3 : i = 4 ∧ k = 3 * q 0 1 + 2
        · rw [if_pos h3, if_neg (by omega), if_pos h3]
        · rw [if_neg h3]
          by_cases h4 : i = 5 ∧ k = q 0 1
          · rw [if_pos h4, if_pos h4]
          · rw [if_neg h4, if_neg h4, if_neg h3, if_neg h2, if_neg h1, if_neg h0]
set_option maxHeartbeats 4000000 in
set_option maxRecDepth 100000 in
theorem kX4_append {q : St} {d : Dt} (hs : KS 0 d q) (ok : QOK q) (hn : q 0 1 < 12) {a b c e : Nat} : CI mX4_append 1 [.ref 0, .int (nI a), .int (nI b), .int (nI c), .int (nI e)] d (fun x d' => x = nI (q 0 1) ∧ fN d d' ∧ KS 0 d' (addq q a b c e)) := by
  show AW mX4_append 1 true (PIx (fun x d' => x = nI (q 0 1) ∧ fN d d' ∧ KS 0 d' (addq q a b c e)) nX) 0 0 0 [(0, .ref 0), (1, .int (nI a)), (2, .int (nI b)), (3, .int (nI c)), (4, .int (nI e))] [] (HP d)
  have h01 : d.1 0 1 = nI (q 0 1) := hs 0 1 (by decide) (by decide)
  refine aw_aload_n dX4_append_0 rfl ?_
  refine aw_gf dX4_append_1 (hp_0 _) rfl fX4_55 (by decide) rfl ?_
  rw [h01]
  refine aw_istore dX4_append_4 (by decide) rfl ?_
  refine aw_aload_n dX4_append_6 rfl ?_
  refine aw_dup dX4_append_7 rfl ?_
  refine aw_gf dX4_append_8 (hp_0 _) rfl fX4_55 (by decide) rfl ?_
  refine aw_iconst (v := 1) dX4_append_11 (by decide) ?_
  refine aw_iadd dX4_append_12 ?_
  rw [h01, nI_1]
  refine aw_putI (ci := 4) (j := 1) .int dX4_append_13 fX4_55 rfl (by decide) rfl tyX4 tyX4_ok nmX4 rfl rfl rfl (hp_0 _) (Nat.le_of_ble_eq_true rfl) rfl ?_
  have k1 := KS_up hs (j := 0) (k := 1) (v := q 0 1 + 1) (i := 0) rfl (x := nI (q 0 1 + 1)) rfl
  have f1 := fN_dI (fN_r d) (show 0 < 12 by decide) (upd (d.1 0) 1 (nI (q 0 1 + 1)))
  generalize dI d 0 (upd (d.1 0) 1 (nI (q 0 1 + 1))) = d1 at k1 f1 ⊢
  refine aw_aload_n dX4_append_16 rfl ?_
  refine aw_gf dX4_append_17 (hp_0 _) rfl fX4_25 (by decide) rfl ?_
  refine aw_iload dX4_append_20 rfl ?_
  refine aw_iconst (v := 3) dX4_append_22 (by decide) ?_
  refine aw_imul dX4_append_23 ?_
  refine aw_iload_n dX4_append_24 rfl ?_
  refine aw_iastN dX4_append_25 hp_4 (3 * q 0 1) (by rw [show (3 : Int32) = nI 3 from rfl, pk_mul, Nat.mul_comm]) (by omega) (by decide)  ?_
  have k2 := KS_up k1 (j := 4) (k := 3 * q 0 1) (v := a) (i := 4) rfl (x := nI a) rfl
  have f2 := fN_dI f1 (show 4 < 12 by decide) (upd (d1.1 4) (3 * q 0 1) (nI a))
  generalize dI d1 4 (upd (d1.1 4) (3 * q 0 1) (nI a)) = d2 at k2 f2 ⊢
  refine aw_aload_n dX4_append_26 rfl ?_
  refine aw_gf dX4_append_27 (hp_0 _) rfl fX4_25 (by decide) rfl ?_
  refine aw_iload dX4_append_30 rfl ?_
  refine aw_iconst (v := 3) dX4_append_32 (by decide) ?_
  refine aw_imul dX4_append_33 ?_
  refine aw_iconst (v := 1) dX4_append_34 (by decide) ?_
  refine aw_iadd dX4_append_35 ?_
  refine aw_iload_n dX4_append_36 rfl ?_
  refine aw_iastN dX4_append_37 hp_4 (3 * q 0 1 + 1) (by rw [show (3 : Int32) = nI 3 from rfl, pk_mul, Nat.mul_comm, nI_1]) (by omega) (by decide)  ?_
  have k3 := KS_up k2 (j := 4) (k := 3 * q 0 1 + 1) (v := b) (i := 4) rfl (x := nI b) rfl
  have f3 := fN_dI f2 (show 4 < 12 by decide) (upd (d2.1 4) (3 * q 0 1 + 1) (nI b))
  generalize dI d2 4 (upd (d2.1 4) (3 * q 0 1 + 1) (nI b)) = d3 at k3 f3 ⊢
  refine aw_aload_n dX4_append_38 rfl ?_
  refine aw_gf dX4_append_39 (hp_0 _) rfl fX4_25 (by decide) rfl ?_
  refine aw_iload dX4_append_42 rfl ?_
  refine aw_iconst (v := 3) dX4_append_44 (by decide) ?_
  refine aw_imul dX4_append_45 ?_
  refine aw_iconst (v := 2) dX4_append_46 (by decide) ?_
  refine aw_iadd dX4_append_47 ?_
  refine aw_iload_n dX4_append_48 rfl ?_
  refine aw_iastN dX4_append_49 hp_4 (3 * q 0 1 + 2) (by rw [show (3 : Int32) = nI 3 from rfl, pk_mul, Nat.mul_comm, show (2 : Int32) = nI 2 from rfl, nI_add]) (by omega) (by decide)  ?_
  have k4 := KS_up k3 (j := 4) (k := 3 * q 0 1 + 2) (v := c) (i := 4) rfl (x := nI c) rfl
  have f4 := fN_dI f3 (show 4 < 12 by decide) (upd (d3.1 4) (3 * q 0 1 + 2) (nI c))
  generalize dI d3 4 (upd (d3.1 4) (3 * q 0 1 + 2) (nI c)) = d4 at k4 f4 ⊢
  refine aw_aload_n dX4_append_50 rfl ?_
  refine aw_gf dX4_append_51 (hp_0 _) rfl fX4_28 (by decide) rfl ?_
  refine aw_iload dX4_append_54 rfl ?_
  refine aw_iload dX4_append_56 rfl ?_
  refine aw_iastN dX4_append_58 hp_5 (q 0 1) rfl (by omega) (by decide)  ?_
  have k5 := KS_up k4 (j := 5) (k := q 0 1) (v := e) (i := 5) rfl (x := nI e) rfl
  have f5 := fN_dI f4 (show 5 < 12 by decide) (upd (d4.1 5) (q 0 1) (nI e))
  rw [← addq_up] at k5
  refine aw_iload dX4_append_59 rfl ?_
  exact aw_endI dX4_append_61 rfl ⟨rfl, f5, k5⟩

theorem prt_up4 {q : St} {a b : Nat} (hne : a ≠ b) : prt q a b = up (up (up (up q 10 a (clr (q 10 a) b)) 10 b (clr (q 10 b) a)) 11 a (clr (q 11 a) b)) 11 b (clr (q 11 b) a) := prt_up hne
set_option maxHeartbeats 4000000 in
set_option maxRecDepth 100000 in
theorem kX4_unpair {q : St} {d : Dt} (hs : KS 0 d q) (ok : QOK q) {a b : Nat} (ha : a < q 0 1) (hb : b < q 0 1) (hne : a ≠ b) : CV mX4_unpair 1 [.ref 0, .int (nI a), .int (nI b)] d (fun d' => fN d d' ∧ KS 0 d' (prt q a b)) := by
  show AW mX4_unpair 1 true (PVx (fun d' => fN d d' ∧ KS 0 d' (prt q a b)) nX) 0 0 0 [(0, .ref 0), (1, .int (nI a)), (2, .int (nI b))] [] (HP d)
  have h12 := ok.2.1
  have hqa := q78_lt ok (show a < 12 by omega)
  have hqb := q78_lt ok (show b < 12 by omega)
  have e1 : 2 ^ b < 4096 := Nat.pow_lt_pow_right (m := b) (n := 12) (by decide) (by omega)
  have e2 : 2 ^ a < 4096 := Nat.pow_lt_pow_right (m := a) (n := 12) (by decide) (by omega)
  have f0 := fN_r d
  refine aw_aload_n dX4_unpair_0 rfl ?_
  refine aw_gf dX4_unpair_1 (hp_0 _) rfl fX4_43 (by decide) rfl ?_
  refine aw_iload_n dX4_unpair_4 rfl ?_
  refine aw_dup2 dX4_unpair_5 rfl rfl ?_
  refine aw_ialdN dX4_unpair_6 (hp_10 _) rfl (a) (by first | rfl | (simp only [li_0, li_1, li_2, li_3, li_4, li_5, li_7, li_8, li_9, li_11, li_12, li_16, li_17, li_31, li_32, li_60, li_77, li_80, li_89, li_99, li_101, li_112, li_113, li_256, li_999, li_1023, nI_add, pk_mul])) (by omega) (by decide) ?_
  rw [show d.1 10 (a) = nI (q 10 (a)) from hs 10 (a) (by decide) (show (a) < 12 by omega)]
  refine aw_iconst (v := 1) dX4_unpair_7 (by decide) ?_
  refine aw_iload_n dX4_unpair_8 rfl ?_
  refine aw_ishl dX4_unpair_9 ?_
  refine aw_iconst (v := (-1)) dX4_unpair_10 (by decide) ?_
  refine aw_ixor dX4_unpair_11 ?_
  refine aw_iand dX4_unpair_12 ?_
  rw [nI_sh1 b (by omega), nI_lacks (by omega) e1, show lacks (q 10 a) (2 ^ b) = clr (q 10 a) b from rfl]
  refine aw_iastN dX4_unpair_13 hp_10 (a) (by first | rfl | (simp only [li_0, li_1, li_2, li_3, li_4, li_5, li_7, li_8, li_9, li_11, li_12, li_16, li_17, li_31, li_32, li_60, li_77, li_80, li_89, li_99, li_101, li_112, li_113, li_256, li_999, li_1023, nI_add, pk_mul])) (by omega) (by decide)  ?_
  have k1 := KS_up hs (j := 10) (k := a) (v := clr (q 10 a) b) (i := 10) rfl (x := nI (clr (q 10 a) b)) rfl
  have f1 := fN_dI f0 (show 10 < 12 by decide) (upd (d.1 10) a (nI (clr (q 10 a) b)))
  generalize dI d 10 (upd (d.1 10) a (nI (clr (q 10 a) b))) = d1 at k1 f1 ⊢
  refine aw_aload_n dX4_unpair_14 rfl ?_
  refine aw_gf dX4_unpair_15 (hp_0 _) rfl fX4_43 (by decide) rfl ?_
  refine aw_iload_n dX4_unpair_18 rfl ?_
  refine aw_dup2 dX4_unpair_19 rfl rfl ?_
  refine aw_ialdN dX4_unpair_20 (hp_10 _) rfl (b) (by first | rfl | (simp only [li_0, li_1, li_2, li_3, li_4, li_5, li_7, li_8, li_9, li_11, li_12, li_16, li_17, li_31, li_32, li_60, li_77, li_80, li_89, li_99, li_101, li_112, li_113, li_256, li_999, li_1023, nI_add, pk_mul])) (by omega) (by decide) ?_
  rw [show d1.1 10 b = nI (q 10 b) from by have := k1 10 b (by decide) (show b < 12 by omega); unfold vC at this; rw [if_neg (by decide)] at this; rw [show (0 + 10) = 10 from rfl] at this; rw [this]; exact congrArg nI (up_n _ _ (by omega))]
  refine aw_iconst (v := 1) dX4_unpair_21 (by decide) ?_
  refine aw_iload_n dX4_unpair_22 rfl ?_
  refine aw_ishl dX4_unpair_23 ?_
  refine aw_iconst (v := (-1)) dX4_unpair_24 (by decide) ?_
  refine aw_ixor dX4_unpair_25 ?_
  refine aw_iand dX4_unpair_26 ?_
  rw [nI_sh1 a (by omega), nI_lacks (by omega) e2, show lacks (q 10 b) (2 ^ a) = clr (q 10 b) a from rfl]
  refine aw_iastN dX4_unpair_27 hp_10 (b) (by first | rfl | (simp only [li_0, li_1, li_2, li_3, li_4, li_5, li_7, li_8, li_9, li_11, li_12, li_16, li_17, li_31, li_32, li_60, li_77, li_80, li_89, li_99, li_101, li_112, li_113, li_256, li_999, li_1023, nI_add, pk_mul])) (by omega) (by decide)  ?_
  have k2 := KS_up k1 (j := 10) (k := b) (v := clr (q 10 b) a) (i := 10) rfl (x := nI (clr (q 10 b) a)) rfl
  have f2 := fN_dI f1 (show 10 < 12 by decide) (upd (d1.1 10) b (nI (clr (q 10 b) a)))
  generalize dI d1 10 (upd (d1.1 10) b (nI (clr (q 10 b) a))) = d2 at k2 f2 ⊢
  refine aw_aload_n dX4_unpair_28 rfl ?_
  refine aw_gf dX4_unpair_29 (hp_0 _) rfl fX4_46 (by decide) rfl ?_
  refine aw_iload_n dX4_unpair_32 rfl ?_
  refine aw_dup2 dX4_unpair_33 rfl rfl ?_
  refine aw_ialdN dX4_unpair_34 (hp_11 _) rfl (a) (by first | rfl | (simp only [li_0, li_1, li_2, li_3, li_4, li_5, li_7, li_8, li_9, li_11, li_12, li_16, li_17, li_31, li_32, li_60, li_77, li_80, li_89, li_99, li_101, li_112, li_113, li_256, li_999, li_1023, nI_add, pk_mul])) (by omega) (by decide) ?_
  rw [show d2.1 11 a = nI (q 11 a) from by have := k2 11 a (by decide) (show a < 12 by omega); unfold vC at this; rw [if_neg (by decide)] at this; rw [show (0 + 11) = 11 from rfl] at this; exact this]
  refine aw_iconst (v := 1) dX4_unpair_35 (by decide) ?_
  refine aw_iload_n dX4_unpair_36 rfl ?_
  refine aw_ishl dX4_unpair_37 ?_
  refine aw_iconst (v := (-1)) dX4_unpair_38 (by decide) ?_
  refine aw_ixor dX4_unpair_39 ?_
  refine aw_iand dX4_unpair_40 ?_
  rw [nI_sh1 b (by omega), nI_lacks (by omega) e1, show lacks (q 11 a) (2 ^ b) = clr (q 11 a) b from rfl]
  refine aw_iastN dX4_unpair_41 hp_11 (a) (by first | rfl | (simp only [li_0, li_1, li_2, li_3, li_4, li_5, li_7, li_8, li_9, li_11, li_12, li_16, li_17, li_31, li_32, li_60, li_77, li_80, li_89, li_99, li_101, li_112, li_113, li_256, li_999, li_1023, nI_add, pk_mul])) (by omega) (by decide)  ?_
  have k3 := KS_up k2 (j := 11) (k := a) (v := clr (q 11 a) b) (i := 11) rfl (x := nI (clr (q 11 a) b)) rfl
  have f3 := fN_dI f2 (show 11 < 12 by decide) (upd (d2.1 11) a (nI (clr (q 11 a) b)))
  generalize dI d2 11 (upd (d2.1 11) a (nI (clr (q 11 a) b))) = d3 at k3 f3 ⊢
  refine aw_aload_n dX4_unpair_42 rfl ?_
  refine aw_gf dX4_unpair_43 (hp_0 _) rfl fX4_46 (by decide) rfl ?_
  refine aw_iload_n dX4_unpair_46 rfl ?_
  refine aw_dup2 dX4_unpair_47 rfl rfl ?_
  refine aw_ialdN dX4_unpair_48 (hp_11 _) rfl (b) (by first | rfl | (simp only [li_0, li_1, li_2, li_3, li_4, li_5, li_7, li_8, li_9, li_11, li_12, li_16, li_17, li_31, li_32, li_60, li_77, li_80, li_89, li_99, li_101, li_112, li_113, li_256, li_999, li_1023, nI_add, pk_mul])) (by omega) (by decide) ?_
  rw [show d3.1 11 b = nI (q 11 b) from by have := k3 11 b (by decide) (show b < 12 by omega); unfold vC at this; rw [if_neg (by decide)] at this; rw [show (0 + 11) = 11 from rfl] at this; rw [this]; exact congrArg nI (up_n _ _ (by omega))]
  refine aw_iconst (v := 1) dX4_unpair_49 (by decide) ?_
  refine aw_iload_n dX4_unpair_50 rfl ?_
  refine aw_ishl dX4_unpair_51 ?_
  refine aw_iconst (v := (-1)) dX4_unpair_52 (by decide) ?_
  refine aw_ixor dX4_unpair_53 ?_
  refine aw_iand dX4_unpair_54 ?_
  rw [nI_sh1 a (by omega), nI_lacks (by omega) e2, show lacks (q 11 b) (2 ^ a) = clr (q 11 b) a from rfl]
  refine aw_iastN dX4_unpair_55 hp_11 (b) (by first | rfl | (simp only [li_0, li_1, li_2, li_3, li_4, li_5, li_7, li_8, li_9, li_11, li_12, li_16, li_17, li_31, li_32, li_60, li_77, li_80, li_89, li_99, li_101, li_112, li_113, li_256, li_999, li_1023, nI_add, pk_mul])) (by omega) (by decide)  ?_
  have k4 := KS_up k3 (j := 11) (k := b) (v := clr (q 11 b) a) (i := 11) rfl (x := nI (clr (q 11 b) a)) rfl
  rw [← prt_up4 hne] at k4
  exact aw_endV dX4_unpair_56 rfl ⟨fN_dI f3 (by decide) _, k4⟩
