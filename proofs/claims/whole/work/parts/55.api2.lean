set_option maxHeartbeats 4000000 in
set_option maxRecDepth 100000 in
theorem kX7_isRuleValue {a b : Int32} {d : Dt} : CP mX7_isRuleValue 2 [.int a, .int b] d (b2i (decide (rlB a b))) := by
  show AW mX7_isRuleValue 2 true (PIx (fun y d' => y = b2i (decide (rlB a b)) ∧ d' = d) nX) 0 0 0 [(0, .int a), (1, .int b)] [] (HP d)
  refine aw_iload_n dX7_isRuleValue_0 rfl ?_
  refine aw_iconst (v := 0) dX7_isRuleValue_1 (by decide) ?_
  refine aw_iconst (v := 3) dX7_isRuleValue_2 (by decide) ?_
  refine aw_cSP dX7_isRuleValue_3 oX7_isIn sX7_isIn rfl lX7_49 kX7_isIn rfl rfl (Nat.le_of_ble_eq_true rfl) (by decide) (Nat.le_of_ble_eq_true rfl) ?_
  refine aw_if_eq 30 dX7_isRuleValue_6 (by decide) (fun c6 => ?_) (fun c6 => ?_)
  · refine aw_iconst (v := 0) dX7_isRuleValue_30 (by decide) ?_
    exact aw_endZ dX7_isRuleValue_31 rfl (by decide) (by have hn : ¬ rlB a b := (fun z => by rcases z with z | z | z | z <;> exact b2d_f c6 (by rw [z.1]; decide)); rw [b2i_f hn]; exact ⟨rfl, rfl⟩)
  · obtain ⟨k, rfl, hk1, hk2⟩ := in_nI (a := 0) (b := 3) rfl rfl (by decide) (by decide) (b2d_t c6)
    refine aw_iload_n dX7_isRuleValue_9 rfl ?_
    refine aw_getsC dX7_isRuleValue_10 zc_7 (cok_r (by omega)) fX7_342 ?_
    refine aw_iload_n dX7_isRuleValue_13 rfl ?_
    refine aw_ialdC dX7_isRuleValue_14 tc_L (by omega) (vp_in_nI (show k < 4 by omega) (by decide)) ?_
    rw [nI_clamp (show k < 2 ^ 31 by omega)]
    refine aw_getsC dX7_isRuleValue_15 zc_8 (cok_r (by omega)) fX7_345 ?_
    refine aw_iload_n dX7_isRuleValue_18 rfl ?_
    refine aw_ialdC dX7_isRuleValue_19 tc_H (by omega) (vp_in_nI (show k < 4 by omega) (by decide)) ?_
    rw [nI_clamp (show k < 2 ^ 31 by omega)]
    refine aw_cSP dX7_isRuleValue_20 oX7_isIn sX7_isIn rfl lX7_49 kX7_isIn rfl rfl (Nat.le_of_ble_eq_true rfl) (by decide) (Nat.le_of_ble_eq_true rfl) ?_
    refine aw_if_eq 30 dX7_isRuleValue_23 (by decide) (fun c23 => ?_) (fun c23 => ?_)
    · refine aw_iconst (v := 0) dX7_isRuleValue_30 (by decide) ?_
      exact aw_endZ dX7_isRuleValue_31 rfl (by decide) (by have hn := b2d_f c23; have hq : ¬ rlB (nI k) b := (by rcases (show k = 0 ∨ k = 1 ∨ k = 2 ∨ k = 3 by omega) with rfl | rfl | rfl | rfl <;> (intro z; rcases z with z | z | z | z <;> first | exact hn z.2 | exact absurd z.1 (by decide))); rw [b2i_f hq]; exact ⟨rfl, rfl⟩)
    · refine aw_iconst (v := 1) dX7_isRuleValue_26 (by decide) ?_
      refine aw_goto (tgt := 31) dX7_isRuleValue_27 (by decide) ?_
      exact aw_endZ dX7_isRuleValue_31 rfl (by decide) (by have hn := b2d_t c23; have hq : rlB (nI k) b := (by rcases (show k = 0 ∨ k = 1 ∨ k = 2 ∨ k = 3 by omega) with rfl | rfl | rfl | rfl; exact Or.inl ⟨rfl, hn⟩; exact Or.inr (Or.inl ⟨rfl, hn⟩); exact Or.inr (Or.inr (Or.inl ⟨rfl, hn⟩)); exact Or.inr (Or.inr (Or.inr ⟨rfl, hn⟩))); rw [b2i_t hq]; exact ⟨rfl, rfl⟩)

set_option maxHeartbeats 4000000 in
set_option maxRecDepth 100000 in
theorem kX7_isTaskData {a b c e : Int32} {d : Dt} : CP mX7_isTaskData 3 [.int a, .int b, .int c, .int e] d (b2i (decide (gI 0 99 a ∧ gI 0 99 b ∧ gI 0 99 c ∧ gI 0 5 e))) := by
  show AW mX7_isTaskData 3 true (PIx (fun y d' => y = b2i (decide (gI 0 99 a ∧ gI 0 99 b ∧ gI 0 99 c ∧ gI 0 5 e)) ∧ d' = d) nX) 0 0 0 [(0, .int a), (1, .int b), (2, .int c), (3, .int e)] [] (HP d)
  refine aw_iload_n dX7_isTaskData_0 rfl ?_
  refine aw_cSP dX7_isTaskData_1 oX7_isTime sX7_isTime rfl lX7_106 kX7_isTime rfl rfl (Nat.le_of_ble_eq_true rfl) (by decide) (Nat.le_of_ble_eq_true rfl) ?_
  refine aw_if_eq 32 dX7_isTaskData_4 (by decide) (fun c4 => ?_) (fun c4 => ?_)
  · refine aw_iconst (v := 0) dX7_isTaskData_32 (by decide) ?_
    exact aw_endZ dX7_isTaskData_33 rfl (by decide) (by rw [b2i_f (fun z => b2d_f c4 z.1)]; exact ⟨rfl, rfl⟩)
  · refine aw_iload_n dX7_isTaskData_7 rfl ?_
    refine aw_cSP dX7_isTaskData_8 oX7_isTime sX7_isTime rfl lX7_106 kX7_isTime rfl rfl (Nat.le_of_ble_eq_true rfl) (by decide) (Nat.le_of_ble_eq_true rfl) ?_
    refine aw_if_eq 32 dX7_isTaskData_11 (by decide) (fun c11 => ?_) (fun c11 => ?_)
    · refine aw_iconst (v := 0) dX7_isTaskData_32 (by decide) ?_
      exact aw_endZ dX7_isTaskData_33 rfl (by decide) (by rw [b2i_f (fun z => b2d_f c11 z.2.1)]; exact ⟨rfl, rfl⟩)
    · refine aw_iload_n dX7_isTaskData_14 rfl ?_
      refine aw_cSP dX7_isTaskData_15 oX7_isTime sX7_isTime rfl lX7_106 kX7_isTime rfl rfl (Nat.le_of_ble_eq_true rfl) (by decide) (Nat.le_of_ble_eq_true rfl) ?_
      refine aw_if_eq 32 dX7_isTaskData_18 (by decide) (fun c18 => ?_) (fun c18 => ?_)
      · refine aw_iconst (v := 0) dX7_isTaskData_32 (by decide) ?_
        exact aw_endZ dX7_isTaskData_33 rfl (by decide) (by rw [b2i_f (fun z => b2d_f c18 z.2.2.1)]; exact ⟨rfl, rfl⟩)
      · refine aw_iload_n dX7_isTaskData_21 rfl ?_
        refine aw_cSP dX7_isTaskData_22 oX7_isTool sX7_isTool rfl lX7_112 kX7_isTool rfl rfl (Nat.le_of_ble_eq_true rfl) (by decide) (Nat.le_of_ble_eq_true rfl) ?_
        refine aw_if_eq 32 dX7_isTaskData_25 (by decide) (fun c25 => ?_) (fun c25 => ?_)
        · refine aw_iconst (v := 0) dX7_isTaskData_32 (by decide) ?_
          exact aw_endZ dX7_isTaskData_33 rfl (by decide) (by rw [b2i_f (fun z => b2d_f c25 z.2.2.2)]; exact ⟨rfl, rfl⟩)
        · refine aw_iconst (v := 1) dX7_isTaskData_28 (by decide) ?_
          refine aw_goto (tgt := 33) dX7_isTaskData_29 (by decide) ?_
          exact aw_endZ dX7_isTaskData_33 rfl (by decide) (by rw [b2i_t ⟨b2d_t c4, b2d_t c11, b2d_t c18, b2d_t c25⟩]; exact ⟨rfl, rfl⟩)

set_option maxHeartbeats 4000000 in
set_option maxRecDepth 100000 in
theorem kX7_setRule {y : Sy} {d : Dt} (hC : CC d y) {a b : Int32} : AO mX7_setRule 16 [.ref 132, .int a, .int b] d [exA] (oSetRule y a b) := by
  show AW mX7_setRule 16 true (PIx (PO d (oSetRule y a b)) (XO d [exA] (oSetRule y a b))) 4 24 0 [(0, .ref 132), (1, .int a), (2, .int b)] [] (HP d)
  have hs := hC.1.1
  have ok := hC.1.2
  have h12 := ok.2.1
  refine aw_iload_n dX7_setRule_0 rfl ?_
  refine aw_iload_n dX7_setRule_1 rfl ?_
  refine aw_cSP dX7_setRule_2 oX7_isRuleValue sX7_isRuleValue rfl lX7_71 kX7_isRuleValue rfl rfl (Nat.le_of_ble_eq_true rfl) (by decide) (Nat.le_of_ble_eq_true rfl) ?_
  refine aw_ck dX7_setRule_5 oX7_checkArgument sX7_checkArgument rfl lX7_53 kX7_checkArgument (Nat.le_of_ble_eq_true rfl) (by decide) (Nat.le_of_ble_eq_true rfl) (by decide) (by decide) (fun x5 => ?_) (fun x5 => ?_)
  · exact (by unfold oSetRule iRule; rw [if_neg (b2d_f x5)]; exact ⟨fC_r d, hC, Nat.succ_ne_zero _, rfl⟩)
  have hg := b2d_t x5
  obtain ⟨k, n, rfl, rfl, hk, hq, hkn⟩ := rl_nI ok (b2d_t x5)
  refine aw_aload_n dX7_setRule_8 rfl ?_
  refine aw_cVv dX7_setRule_9 oX7_remember vX7_remember rfl lX7_57 (kX7_remember hC) rfl (hp_132 _) rfl rfl rfl (Nat.le_of_ble_eq_true rfl) (by decide) (Nat.le_of_ble_eq_true rfl) ?_
  rintro d1 ⟨f1, hC1⟩
  have hs1 : KS 0 d1 y.1 := hC1.1.1
  refine aw_aload_n dX7_setRule_12 rfl ?_
  refine aw_gf dX7_setRule_13 (hp_132 _) rfl fX7_12 (by decide) rfl ?_
  refine aw_gf dX7_setRule_16 (hp_0 _) rfl fX7_75 (by decide) rfl ?_
  refine aw_iload_n dX7_setRule_19 rfl ?_
  refine aw_ialdN dX7_setRule_20 (hp_2 _) rfl (k) (by first | rfl | (simp only [li_0, li_1, li_2, li_3, li_4, li_5, li_7, li_8, li_9, li_11, li_12, li_16, li_17, li_31, li_32, li_60, li_77, li_80, li_89, li_99, li_101, li_112, li_113, li_256, li_999, li_1023, nI_add, pk_mul])) (by omega) (by decide) ?_
  rw [show d1.1 2 (k) = nI (y.1 2 (k)) from hs1 2 (k) (by decide) (show (k) < 4 by omega)]
  refine aw_istore_n dX7_setRule_21 (by decide) rfl ?_
  refine aw_aload_n dX7_setRule_22 rfl ?_
  refine aw_gf dX7_setRule_23 (hp_132 _) rfl fX7_12 (by decide) rfl ?_
  refine aw_gf dX7_setRule_26 (hp_0 _) rfl fX7_75 (by decide) rfl ?_
  refine aw_iload_n dX7_setRule_29 rfl ?_
  refine aw_iload_n dX7_setRule_30 rfl ?_
  refine aw_iastN dX7_setRule_31 hp_2 (k) (by first | rfl | (simp only [li_0, li_1, li_2, li_3, li_4, li_5, li_7, li_8, li_9, li_11, li_12, li_16, li_17, li_31, li_32, li_60, li_77, li_80, li_89, li_99, li_101, li_112, li_113, li_256, li_999, li_1023, nI_add, pk_mul])) (by omega) (by decide)  ?_
  refine aw_iload_n dX7_setRule_32 rfl ?_
  exact aw_endI dX7_setRule_33 rfl (by unfold oSetRule iRule; rw [if_pos hg, ivn (by omega), ivn (by omega)]; exact PO_ch hC1 f1 (fN_NW (fN_dI (fN_r d1) (by decide) _)) (KS_up hs1 (j := 2) (k := k) (v := n) rfl rfl) hq rfl)

set_option maxHeartbeats 4000000 in
set_option maxRecDepth 100000 in
theorem kX7_rule {y : Sy} {d : Dt} (hC : CC d y) {c : Int32} : AO mX7_rule 16 [.ref 132, .int c] d [exA] (oRule y c) := by
  show AW mX7_rule 16 true (PIx (PO d (oRule y c)) (XO d [exA] (oRule y c))) 4 24 0 [(0, .ref 132), (1, .int c)] [] (HP d)
  have hs := hC.1.1
  have ok := hC.1.2
  have h12 := ok.2.1
  refine aw_iload_n dX7_rule_0 rfl ?_
  refine aw_iconst (v := 0) dX7_rule_1 (by decide) ?_
  refine aw_bipush (v := 8) dX7_rule_2 (by decide) ?_
  refine aw_cSP dX7_rule_4 oX7_isIn sX7_isIn rfl lX7_49 kX7_isIn rfl rfl (Nat.le_of_ble_eq_true rfl) (by decide) (Nat.le_of_ble_eq_true rfl) ?_
  refine aw_ck dX7_rule_7 oX7_checkArgument sX7_checkArgument rfl lX7_53 kX7_checkArgument (Nat.le_of_ble_eq_true rfl) (by decide) (Nat.le_of_ble_eq_true rfl) (by decide) (by decide) (fun x7 => ?_) (fun x7 => ?_)
  · exact (by unfold oRule; rw [if_neg (b2d_f x7)]; exact ⟨fC_r d, hC, Nat.succ_ne_zero _, rfl⟩)
  have hg := b2d_t x7
  obtain ⟨n, rfl, hn1, hn2⟩ := in_nI (a := 0) (b := 8) rfl rfl (by decide) (by decide) (b2d_t x7)
  refine aw_iload_n dX7_rule_10 rfl ?_
  refine aw_iconst (v := 4) dX7_rule_11 (by decide) ?_
  refine aw_icmp_ge 25 dX7_rule_12 (by decide) (fun c12 => ?_) (fun c12 => ?_)
  · have h4 : 4 ≤ n := (le_nI (show (4 : Int32) = nI 4 from rfl) rfl (by omega) (by omega)).mp c12
    refine aw_iload_n dX7_rule_25 rfl ?_
    refine aw_iconst (v := 4) dX7_rule_26 (by decide) ?_
    refine aw_icmp_ne 38 dX7_rule_27 (by decide) (fun c27 => ?_) (fun c27 => ?_)
    · have e4 : ¬ n = 4 := fun z => c27 (by rw [z]; rfl)
      refine aw_iload_n dX7_rule_38 rfl ?_
      refine aw_iconst (v := 5) dX7_rule_39 (by decide) ?_
      refine aw_icmp_ne 53 dX7_rule_40 (by decide) (fun c40 => ?_) (fun c40 => ?_)
      · have e5 : ¬ n = 5 := fun z => c40 (by rw [z]; rfl)
        refine aw_aload_n dX7_rule_53 rfl ?_
        refine aw_gf dX7_rule_54 (hp_132 _) rfl fX7_12 (by decide) rfl ?_
        refine aw_gf dX7_rule_57 (hp_0 _) rfl fX7_67 (by decide) rfl ?_
        refine aw_iload_n dX7_rule_60 rfl ?_
        refine aw_bipush (v := 6) dX7_rule_61 (by decide) ?_
        refine aw_isub dX7_rule_63 ?_
        refine aw_ialdN dX7_rule_64 (hp_1 _) rfl (n - 6) (by rw [show (6 : Int32) = nI 6 from rfl, pk_sub (by omega)]) (by omega) (by decide) ?_
        exact aw_endI dX7_rule_65 rfl (by unfold oRule; rw [if_pos hg, ivn (by omega), if_neg (by omega), if_neg e4, if_neg e5]; exact ⟨fC_r d, hC, rfl, hs 1 (n - 6) (by decide) (show n - 6 < 3 by omega)⟩)
      · refine aw_aload_n dX7_rule_43 rfl ?_
        refine aw_gf dX7_rule_44 (hp_132 _) rfl fX7_12 (by decide) rfl ?_
        refine aw_cVP dX7_rule_47 oX4_totalDemand vX4_totalDemand rfl lX7_78 (kX4_totalDemand hs ok) rfl (hp_0 _) rfl rfl rfl (Nat.le_of_ble_eq_true rfl) (by decide) (Nat.le_of_ble_eq_true rfl) ?_
        refine aw_goto (tgt := 65) dX7_rule_50 (by decide) ?_
        exact aw_endI dX7_rule_65 rfl (by unfold oRule; rw [if_pos hg, ivn (by omega), if_neg (by omega), if_neg e4, if_pos ((eq_nI rfl (show (5 : Int32) = nI 5 from rfl) (by omega) (by omega)).mp c40)]; exact ⟨fC_r d, hC, rfl, rfl⟩)
    · have e4 : n = 4 := (eq_nI rfl (show (4 : Int32) = nI 4 from rfl) (by omega) (by omega)).mp c27
      refine aw_aload_n dX7_rule_30 rfl ?_
      refine aw_gf dX7_rule_31 (hp_132 _) rfl fX7_12 (by decide) rfl ?_
      refine aw_gf dX7_rule_34 (hp_0 _) rfl fX7_60 (by decide) rfl ?_
      exact aw_endI dX7_rule_37 rfl (by unfold oRule; rw [if_pos hg, ivn (by omega), if_neg (by omega), if_pos e4]; exact ⟨fC_r d, hC, rfl, hs 0 0 (by decide) (by decide)⟩)
  · have h4 : n < 4 := by have := mt (le_nI (show (4 : Int32) = nI 4 from rfl) (rfl : nI n = nI n) (by omega) (by omega)).mpr c12; omega
    refine aw_aload_n dX7_rule_15 rfl ?_
    refine aw_gf dX7_rule_16 (hp_132 _) rfl fX7_12 (by decide) rfl ?_
    refine aw_gf dX7_rule_19 (hp_0 _) rfl fX7_75 (by decide) rfl ?_
    refine aw_iload_n dX7_rule_22 rfl ?_
    refine aw_ialdN dX7_rule_23 (hp_2 _) rfl (n) (by first | rfl | (simp only [li_0, li_1, li_2, li_3, li_4, li_5, li_7, li_8, li_9, li_11, li_12, li_16, li_17, li_31, li_32, li_60, li_77, li_80, li_89, li_99, li_101, li_112, li_113, li_256, li_999, li_1023, nI_add, pk_mul])) (by omega) (by decide) ?_
    exact aw_endI dX7_rule_24 rfl (by unfold oRule; rw [if_pos hg, ivn (by omega), if_pos h4]; exact ⟨fC_r d, hC, rfl, hs 2 n (by decide) (show n < 4 by omega)⟩)

set_option maxHeartbeats 4000000 in
set_option maxRecDepth 100000 in
theorem kX7_addTask {y : Sy} {d : Dt} (hC : CC d y) {a b c e : Int32} : AO mX7_addTask 16 [.ref 132, .int a, .int b, .int c, .int e] d [exA, exS] (oAddTask y a b c e) := by
  show AW mX7_addTask 16 true (PIx (PO d (oAddTask y a b c e)) (XO d [exA, exS] (oAddTask y a b c e))) 4 24 0 [(0, .ref 132), (1, .int a), (2, .int b), (3, .int c), (4, .int e)] [] (HP d)
  have hs := hC.1.1
  have ok := hC.1.2
  have h12 := ok.2.1
  refine aw_iload_n dX7_addTask_0 rfl ?_
  refine aw_iload_n dX7_addTask_1 rfl ?_
  refine aw_iload_n dX7_addTask_2 rfl ?_
  refine aw_iload dX7_addTask_3 rfl ?_
  refine aw_cSP dX7_addTask_5 oX7_isTaskData sX7_isTaskData rfl lX7_89 kX7_isTaskData rfl rfl (Nat.le_of_ble_eq_true rfl) (by decide) (Nat.le_of_ble_eq_true rfl) ?_
  refine aw_ck dX7_addTask_8 oX7_checkArgument sX7_checkArgument rfl lX7_53 kX7_checkArgument (Nat.le_of_ble_eq_true rfl) (by decide) (Nat.le_of_ble_eq_true rfl) (by decide) (by decide) (fun x8 => ?_) (fun x8 => ?_)
  · exact (by unfold oAddTask iAdd; rw [if_neg (b2d_f x8)]; exact ⟨fC_r d, hC, Nat.succ_ne_zero _, rfl⟩)
  have hg := b2d_t x8
  obtain ⟨na, rfl, hna1, hna2⟩ := in_nI (a := 0) (b := 99) rfl rfl (by decide) (by decide) (hg.1)
  obtain ⟨nb, rfl, hnb1, hnb2⟩ := in_nI (a := 0) (b := 99) rfl rfl (by decide) (by decide) (hg.2.1)
  obtain ⟨nc, rfl, hnc1, hnc2⟩ := in_nI (a := 0) (b := 99) rfl rfl (by decide) (by decide) (hg.2.2.1)
  obtain ⟨ne, rfl, hne1, hne2⟩ := in_nI (a := 0) (b := 5) rfl rfl (by decide) (by decide) (hg.2.2.2)
  refine aw_join (P := fun v => v = b2i (decide (y.1 0 1 < 12))) 28 (fun v hv28 => ?_) (fun kJ28 => ?_)
  · subst hv28
    refine aw_ck dX7_addTask_28 oX7_checkState sX7_checkState rfl lX7_96 kX7_checkState (Nat.le_of_ble_eq_true rfl) (by decide) (Nat.le_of_ble_eq_true rfl) (by decide) (by decide) (fun x28 => ?_) (fun x28 => ?_)
    · exact (by unfold oAddTask iAdd; rw [if_pos hg, if_pos (by have := b2d_f x28; omega)]; exact ⟨fC_r d, hC, Nat.succ_ne_zero _, rfl⟩)
    have hlt := b2d_t x28
    refine aw_aload_n dX7_addTask_31 rfl ?_
    refine aw_cVv dX7_addTask_32 oX7_remember vX7_remember rfl lX7_57 (kX7_remember hC) rfl (hp_132 _) rfl rfl rfl (Nat.le_of_ble_eq_true rfl) (by decide) (Nat.le_of_ble_eq_true rfl) ?_
    rintro d1 ⟨f1, hC1⟩
    have hs1 : KS 0 d1 y.1 := hC1.1.1
    refine aw_aload_n dX7_addTask_35 rfl ?_
    refine aw_gf dX7_addTask_36 (hp_132 _) rfl fX7_12 (by decide) rfl ?_
    refine aw_iload_n dX7_addTask_39 rfl ?_
    refine aw_iload_n dX7_addTask_40 rfl ?_
    refine aw_iload_n dX7_addTask_41 rfl ?_
    refine aw_iload dX7_addTask_42 rfl ?_
    refine aw_cVI dX7_addTask_44 oX4_append vX4_append rfl lX7_99 (kX4_append (q := y.1) hs1 ok (by omega)) rfl (hp_0 _) rfl rfl rfl (Nat.le_of_ble_eq_true rfl) (by decide) (Nat.le_of_ble_eq_true rfl) ?_
    rintro _ d2 ⟨rfl, g2, hs2⟩
    exact aw_endI dX7_addTask_47 rfl (by unfold oAddTask iAdd; rw [if_pos hg, if_neg (by omega), ivn (by omega), ivn (by omega), ivn (by omega), ivn (by omega)]; exact PO_ch hC1 f1 (fN_NW g2) hs2 (QOK_add ok (by omega) hna2 hnb2 hnc2 hne2) rfl)
  · refine aw_aload_n dX7_addTask_11 rfl ?_
    refine aw_gf dX7_addTask_12 (hp_132 _) rfl fX7_12 (by decide) rfl ?_
    refine aw_gf dX7_addTask_15 (hp_0 _) rfl fX7_93 (by decide) rfl ?_
    refine aw_bipush (v := 12) dX7_addTask_18 (by decide) ?_
    refine aw_icmp_ge 27 dX7_addTask_20 (by decide) (fun c20 => ?_) (fun c20 => ?_)
    · refine aw_iconst (v := 0) dX7_addTask_27 (by decide) ?_
      exact kJ28 _ (by rw [show d.1 0 (1) = nI (y.1 0 (1)) from hs 0 (1) (by decide) (show (1) < 2 by omega)] at c20; exact (b2i_f (fun z => by have := (le_nI (show (12 : Int32) = nI 12 from rfl) rfl (by omega) (by omega)).mp c20; omega)).symm)
    · refine aw_iconst (v := 1) dX7_addTask_23 (by decide) ?_
      refine aw_goto (tgt := 28) dX7_addTask_24 (by decide) ?_
      exact kJ28 _ (by rw [show d.1 0 (1) = nI (y.1 0 (1)) from hs 0 (1) (by decide) (show (1) < 2 by omega)] at c20; exact (b2i_t (by have := mt (le_nI (show (12 : Int32) = nI 12 from rfl) (rfl : nI (y.1 0 1) = _) (by omega) (by omega)).mpr c20; omega)).symm)

set_option maxHeartbeats 4000000 in
set_option maxRecDepth 100000 in
theorem kX7_before {y : Sy} {d : Dt} (hC : CC d y) {a b : Int32} : AO mX7_before 16 [.ref 132, .int a, .int b] d [exI, exA, exU] (oBefore y a b) := by
  show AW mX7_before 16 true (PIx (PO d (oBefore y a b)) (XO d [exI, exA, exU] (oBefore y a b))) 4 24 0 [(0, .ref 132), (1, .int a), (2, .int b)] [] (HP d)
  have hs := hC.1.1
  have ok := hC.1.2
  have h12 := ok.2.1
  refine aw_join (P := fun v => v = b2i (decide (tkI y.1 a ∧ tkI y.1 b))) 27 (fun v hv27 => ?_) (fun kJ27 => ?_)
  · subst hv27
    refine aw_ck dX7_before_27 oX7_checkIndex sX7_checkIndex rfl lX7_64 kX7_checkIndex (Nat.le_of_ble_eq_true rfl) (by decide) (Nat.le_of_ble_eq_true rfl) (by decide) (by decide) (fun x27 => ?_) (fun x27 => ?_)
    · exact (by unfold oBefore iBef; rw [if_neg (b2d_f x27)]; exact ⟨fC_r d, hC, Nat.succ_ne_zero _, rfl⟩)
    have hg := b2d_t x27
    obtain ⟨k, rfl, hk⟩ := tk_nI h12 (hg.1)
    obtain ⟨n, rfl, hn⟩ := tk_nI h12 (hg.2)
    refine aw_join (P := fun v => v = b2i (decide (¬ (nI k = nI n ∨ (y.1 7 n).testBit k = true)))) 52 (fun v hv52 => ?_) (fun kJ52 => ?_)
    · subst hv52
      refine aw_ck dX7_before_52 oX7_checkArgument sX7_checkArgument rfl lX7_53 kX7_checkArgument (Nat.le_of_ble_eq_true rfl) (by decide) (Nat.le_of_ble_eq_true rfl) (by decide) (by decide) (fun x52 => ?_) (fun x52 => ?_)
      · exact (by unfold oBefore iBef; rw [if_pos hg, ivn (by omega), ivn (by omega), if_pos (Classical.not_not.mp (b2d_f x52))]; exact ⟨fC_r d, hC, Nat.succ_ne_zero _, rfl⟩)
      have hn2 := b2d_t x52
      refine aw_join (P := fun v => v = b2i (decide (¬ (y.1 8 k).testBit n = true))) 72 (fun v hv72 => ?_) (fun kJ72 => ?_)
      · subst hv72
        refine aw_ck dX7_before_72 oX7_checkSupported sX7_checkSupported rfl lX7_124 kX7_checkSupported (Nat.le_of_ble_eq_true rfl) (by decide) (Nat.le_of_ble_eq_true rfl) (by decide) (by decide) (fun x72 => ?_) (fun x72 => ?_)
        · exact (by unfold oBefore iBef; rw [if_pos hg, if_neg (by rw [ivn (by omega), ivn (by omega)]; exact hn2), if_pos (by rw [ivn (by omega), ivn (by omega)]; exact Classical.not_not.mp (b2d_f x72))]; exact ⟨fC_r d, hC, Nat.succ_ne_zero _, rfl⟩)
        have hn3 := b2d_t x72
        have okb := QOK_bef ok hk hn (fun z => hn2 (Or.inl (by rw [z]))) (by cases hh : (y.1 8 k).testBit n with | true => exact absurd hh hn3 | false => rfl)
        have h8n : clq (up y.1 7 n (y.1 7 n ||| 2 ^ k)) 8 n < 4096 := Nat.lt_of_lt_of_le (q8_lt okb (by omega)) (pow12 okb.2.1)
        refine aw_aload_n dX7_before_75 rfl ?_
        refine aw_cVv dX7_before_76 oX7_remember vX7_remember rfl lX7_57 (kX7_remember hC) rfl (hp_132 _) rfl rfl rfl (Nat.le_of_ble_eq_true rfl) (by decide) (Nat.le_of_ble_eq_true rfl) ?_
        rintro d1 ⟨f1, hC1⟩
        have hs1 : KS 0 d1 y.1 := hC1.1.1
        refine aw_aload_n dX7_before_79 rfl ?_
        refine aw_gf dX7_before_80 (hp_132 _) rfl fX7_12 (by decide) rfl ?_
        refine aw_iload_n dX7_before_83 rfl ?_
        refine aw_iload_n dX7_before_84 rfl ?_
        refine aw_cVv dX7_before_85 oX4_link vX4_link rfl lX7_127 (kX4_link (q := y.1) hs1 ok hk hn) rfl (hp_0 _) rfl rfl rfl (Nat.le_of_ble_eq_true rfl) (by decide) (Nat.le_of_ble_eq_true rfl) ?_
        rintro d2 ⟨g2, hs2⟩
        refine aw_aload_n dX7_before_88 rfl ?_
        refine aw_gf dX7_before_89 (hp_132 _) rfl fX7_12 (by decide) rfl ?_
        refine aw_gf dX7_before_92 (hp_0 _) rfl fX7_131 (by decide) rfl ?_
        refine aw_iload_n dX7_before_95 rfl ?_
        refine aw_ialdN dX7_before_96 (hp_8 _) rfl (n) (by first | rfl | (simp only [li_0, li_1, li_2, li_3, li_4, li_5, li_7, li_8, li_9, li_11, li_12, li_16, li_17, li_31, li_32, li_60, li_77, li_80, li_89, li_99, li_101, li_112, li_113, li_256, li_999, li_1023, nI_add, pk_mul])) (by omega) (by decide) ?_
        rw [show d2.1 8 n = nI (clq (up y.1 7 n (y.1 7 n ||| 2 ^ k)) 8 n) from hs2 8 n (by decide) (show n < 12 by omega)]
        refine aw_cSP dX7_before_97 oJ6_bitCount_0f7a4 sJ6_bitCount_0f7a4 rfl lX7_134 (kJ6_bitCount_0f7a4 (s := clq (up y.1 7 n (y.1 7 n ||| 2 ^ k)) 8 n) h8n) rfl rfl (Nat.le_of_ble_eq_true rfl) (by decide) (Nat.le_of_ble_eq_true rfl) ?_
        exact aw_endI dX7_before_100 rfl (by unfold oBefore iBef; rw [if_pos hg, if_neg (by rw [ivn (by omega), ivn (by omega)]; exact hn2), if_neg (by rw [ivn (by omega), ivn (by omega)]; exact hn3), ivn (by omega), ivn (by omega)]; exact PO_ch hC1 f1 (fN_NW g2) hs2 okb rfl)
      · refine aw_aload_n dX7_before_55 rfl ?_
        refine aw_gf dX7_before_56 (hp_132 _) rfl fX7_12 (by decide) rfl ?_
        refine aw_iload_n dX7_before_59 rfl ?_
        refine aw_iload_n dX7_before_60 rfl ?_
        refine aw_cVP dX7_before_61 oX4_isBefore vX4_isBefore rfl lX7_121 (kX4_isBefore hs ok (a := n) (b := k) (by omega) (by omega)) rfl (hp_0 _) rfl rfl rfl (Nat.le_of_ble_eq_true rfl) (by decide) (Nat.le_of_ble_eq_true rfl) ?_
        refine aw_if_ne 71 dX7_before_64 (by decide) (fun c64 => ?_) (fun c64 => ?_)
        · refine aw_iconst (v := 0) dX7_before_71 (by decide) ?_
          exact kJ72 _ (b2i_f (fun z => z (b2i_ne.mp c64))).symm
        · refine aw_iconst (v := 1) dX7_before_67 (by decide) ?_
          refine aw_goto (tgt := 72) dX7_before_68 (by decide) ?_
          exact kJ72 _ (b2i_t (fun z => by rw [z] at c64; exact absurd c64 (by decide))).symm
    · refine aw_iload_n dX7_before_30 rfl ?_
      refine aw_iload_n dX7_before_31 rfl ?_
      refine aw_icmp_eq 51 dX7_before_32 (by decide) (fun c32 => ?_) (fun c32 => ?_)
      · refine aw_iconst (v := 0) dX7_before_51 (by decide) ?_
        exact kJ52 _ (b2i_f (fun z => z (Or.inl c32))).symm
      · refine aw_aload_n dX7_before_35 rfl ?_
        refine aw_gf dX7_before_36 (hp_132 _) rfl fX7_12 (by decide) rfl ?_
        refine aw_iload_n dX7_before_39 rfl ?_
        refine aw_iload_n dX7_before_40 rfl ?_
        refine aw_cVP dX7_before_41 oX4_isDirectlyBefore vX4_isDirectlyBefore rfl lX7_118 (kX4_isDirectlyBefore hs ok (a := k) (b := n) (by omega) (by omega)) rfl (hp_0 _) rfl rfl rfl (Nat.le_of_ble_eq_true rfl) (by decide) (Nat.le_of_ble_eq_true rfl) ?_
        refine aw_if_ne 51 dX7_before_44 (by decide) (fun c44 => ?_) (fun c44 => ?_)
        · refine aw_iconst (v := 0) dX7_before_51 (by decide) ?_
          exact kJ52 _ (b2i_f (fun z => z (Or.inr (b2i_ne.mp c44)))).symm
        · refine aw_iconst (v := 1) dX7_before_47 (by decide) ?_
          refine aw_goto (tgt := 52) dX7_before_48 (by decide) ?_
          exact kJ52 _ (b2i_t (fun z => by rcases z with z | z; exact c32 z; rw [z] at c44; exact absurd c44 (by decide))).symm
  · refine aw_aload_n dX7_before_0 rfl ?_
    refine aw_gf dX7_before_1 (hp_132 _) rfl fX7_12 (by decide) rfl ?_
    refine aw_iload_n dX7_before_4 rfl ?_
    refine aw_cVP dX7_before_5 oX4_hasTask vX4_hasTask rfl lX7_103 (kX4_hasT hs) rfl (hp_0 _) rfl rfl rfl (Nat.le_of_ble_eq_true rfl) (by decide) (Nat.le_of_ble_eq_true rfl) ?_
    refine aw_if_eq 26 dX7_before_8 (by decide) (fun c8 => ?_) (fun c8 => ?_)
    · refine aw_iconst (v := 0) dX7_before_26 (by decide) ?_
      exact kJ27 _ (b2i_f (fun z => b2d_f c8 z.1)).symm
    · refine aw_aload_n dX7_before_11 rfl ?_
      refine aw_gf dX7_before_12 (hp_132 _) rfl fX7_12 (by decide) rfl ?_
      refine aw_iload_n dX7_before_15 rfl ?_
      refine aw_cVP dX7_before_16 oX4_hasTask vX4_hasTask rfl lX7_103 (kX4_hasT hs) rfl (hp_0 _) rfl rfl rfl (Nat.le_of_ble_eq_true rfl) (by decide) (Nat.le_of_ble_eq_true rfl) ?_
      refine aw_if_eq 26 dX7_before_19 (by decide) (fun c19 => ?_) (fun c19 => ?_)
      · refine aw_iconst (v := 0) dX7_before_26 (by decide) ?_
        exact kJ27 _ (b2i_f (fun z => b2d_f c19 z.2)).symm
      · refine aw_iconst (v := 1) dX7_before_22 (by decide) ?_
        refine aw_goto (tgt := 27) dX7_before_23 (by decide) ?_
        exact kJ27 _ (b2i_t ⟨b2d_t c8, b2d_t c19⟩).symm
