/-! THE LAW'S WRAPPERS: a call of the class, its answer in a row, its throw as a number -/
def fL (d d' : Dt) : Prop := (∀ i, 160 ≤ i → i ≠ 190 → d'.1 i = d.1 i ∧ d'.2.1 i = d.2.1 i) ∧ ∀ i, i ≠ 191 → d'.2.2 i = d.2.2 i
theorem fC_L {d d' : Dt} (h : fC d d') : fL d d' := ⟨fun i h1 _ => h.1 i h1, fun i _ => by rw [h.2]⟩
def LO (d : Dt) (o : Out) : Rs → ah → Prop := PIx (fun x d' => (fL d d' ∧ CC d' o.2.2) ∧ x = nI o.1 ∧ (o.1 = 0 → d'.2.1 190 0 = o.2.1.toInt64) ∧ o.1 ≤ 9) nX
theorem LO_n {d d' : Dt} {o : Out} {x : Int32} (h : PO d o x d') : (fL d (dL d' 190 (vp_updL (d'.2.1 190) 0 x.toInt64)) ∧ CC (dL d' 190 (vp_updL (d'.2.1 190) 0 x.toInt64)) o.2.2) ∧ (0 : Int32) = nI o.1 ∧ (o.1 = 0 → (dL d' 190 (vp_updL (d'.2.1 190) 0 x.toInt64)).2.1 190 0 = o.2.1.toInt64) ∧ o.1 ≤ 9 := by
  obtain ⟨h1, h2, h3, h4⟩ := h
  refine ⟨⟨⟨fun i hi hn => ⟨(h1.1 i hi).1, by rw [dL_n _ _ hn]; exact (h1.1 i hi).2⟩, fun i _ => by show d'.2.2 i = _; rw [h1.2]⟩, h2⟩, by rw [h3]; rfl, fun _ => ?_, by omega⟩
  rw [dL_s, h4]
  show (if (0 : Nat) = 0 then _ else _) = _
  rw [if_pos rfl]
theorem LO_x {d d' : Dt} {es : List String} {o : Out} {E : String} (hes : es.length ≤ 9) (h : XO d es o E d') : ∃ i, es[i]? = some E ∧ LO d o (.inl (some (.int (nI (i + 1))))) (HP d') := by
  obtain ⟨h1, h2, h3, h4⟩ := h
  have h5 : o.1 - 1 < es.length := (List.getElem?_eq_some_iff.mp h4).1
  exact ⟨o.1 - 1, h4, d', rfl, _, rfl, ⟨fC_L h1, h2⟩, by rw [show o.1 - 1 + 1 = o.1 by omega], fun z => absurd z h3, by omega⟩
theorem LO_no {d : Dt} {o : Out} : ∀ E h', ¬ LO d o (.inr E) h' := fun E h' ⟨_, _, q⟩ => q
theorem LO_kx {M : MI} {pc : Nat} {d : Dt} {es : List String} {o : Out} (hes : es.length ≤ 9) (hH : ∀ i E, es[i]? = some E → HdE M pc E (nI (i + 1))) : ∀ E d', XO d es o E d' → ∃ cst, HdE M pc E cst ∧ LO d o (.inl (some (.int cst))) (HP d') := fun E d' q => by
  obtain ⟨i, hi, hp⟩ := LO_x hes q
  exact ⟨_, hH i E hi, hp⟩
theorem effV_v {q : St} (ok : QOK q) (h : ovQ q 1 ≠ 0) : FP.Core.val64 (FP.f2d (effV q)) ≠ .nan := by
  have hn : FP.Core.fIsNaN (effV q) = false := by
    cases e : FP.Core.fIsNaN (effV q) with
    | false => rfl
    | true => exact absurd ((FP.Core.fIsNaN_iff _).mp e) (effV_val ok h)
  have he : FP.f2d (effV q) = FP.Core.f2d (effV q) := by
    show (if FP.Core.fIsNaN (effV q) then _ else FP.Core.f2d (effV q)) = _
    rw [hn]
    rfl
  rw [he, FP.Core.val64_f2d]
  exact fun z => effV_val ok h (FP.Core.round_nan.mp z)
theorem effV_d {q : St} (ok : QOK q) (h : ovQ q 1 ≠ 0) : vf_n64 (FP.f2d (effV q)) := n64_of (effV_v ok h)
theorem oL_setModels : MOH mL_setModels 3 := ⟨tbk2 143 rfl, tbk1 0 rfl, by decide +kernel, ⟨by decide +kernel, by decide +kernel⟩, by decide +kernel, by decide⟩
theorem cl_A : Cond.classLink RL 13 exA ∈ lw_tbl := by decide +kernel
theorem cs_A : Cond.castable exA exA ∈ lw_tbl := by decide +kernel
set_option maxHeartbeats 4000000 in
set_option maxRecDepth 100000 in
theorem hL_setModels : ∀ (i : Nat) (E : String), [exA][i]? = some E → HdE mL_setModels 4 E (nI (i + 1))
  | 0, _, rfl => ⟨[], [], (0, 9, 12, 13), rfl, (fun z h => by cases h), ⟨by decide, by decide⟩, by decide, cl_A, cs_A, Or.inl ⟨3, 1, dL_setModels_12, by decide, dL_setModels_13, by decide, dL_setModels_14⟩⟩
  | i + 1, E, h => by simp at h
set_option maxHeartbeats 4000000 in
set_option maxRecDepth 100000 in
theorem kL_setModels {y : Sy} {d : Dt} (hC : CC d y) {c : Int32} : AC mL_setModels 17 true (LO d (oSetModels y c)) 4 24 [.ref 132, .int c, .ref 190] (HP d) := by
  show AW mL_setModels 17 true (LO d (oSetModels y c)) 4 24 0 [(0, .ref 132), (1, .int c), (2, .ref 190)] [] (HP d)
  refine aw_aload_n dL_setModels_0 rfl ?_
  refine aw_iconst (v := 0) dL_setModels_1 (by decide) ?_
  refine aw_aload_n dL_setModels_2 rfl ?_
  refine aw_iload_n dL_setModels_3 rfl ?_
  refine aw_tryV (M' := mX7_setModels) dL_setModels_4 rfl lL_7 oX7_setModels vX7_setModels (kX7_setModels hC) rfl (hp_132 _) rfl rfl rfl (Nat.le_of_ble_eq_true rfl) (Nat.le_of_ble_eq_true rfl) (by decide) (Nat.le_refl _) (Nat.le_refl _) (LO_kx (by decide) hL_setModels) ?_
  rintro v d1 ⟨x, rfl, hp⟩
  refine aw_i2l dL_setModels_7 ?_
  refine aw_lastN dL_setModels_8 hp_190 (0) (by first | rfl | (simp only [li_0, li_1, li_2, li_3, li_4, li_5, li_7, li_8, li_9, li_11, li_12, li_16, li_17, li_31, li_32, li_60, li_77, li_80, li_89, li_99, li_101, li_112, li_113, li_256, li_999, li_1023, nI_add, pk_mul])) (by omega) (by decide)  ?_
  refine aw_goto (tgt := 15) dL_setModels_9 (by decide) ?_
  refine aw_iconst (v := 0) dL_setModels_15 (by decide) ?_
  exact aw_endI dL_setModels_16 rfl (LO_n hp)

theorem oL_setDemand : MOH mL_setDemand 4 := ⟨tbk2 227 rfl, tbk1 0 rfl, by decide +kernel, ⟨by decide +kernel, by decide +kernel⟩, by decide +kernel, by decide⟩
theorem cl_I : Cond.classLink RL 19 exI ∈ lw_tbl := by decide +kernel
theorem cs_I : Cond.castable exI exI ∈ lw_tbl := by decide +kernel
theorem nc_A_I : Cond.not (.castable exA exI) ∈ gn1 := by decide +kernel
set_option maxHeartbeats 4000000 in
set_option maxRecDepth 100000 in
theorem hL_setDemand : ∀ (i : Nat) (E : String), [exI, exA][i]? = some E → HdE mL_setDemand 5 E (nI (i + 1))
  | 0, _, rfl => ⟨[], [(0, 10, 17, 13)], (0, 10, 13, 19), rfl, (fun z h => by cases h), ⟨by decide, by decide⟩, by decide, cl_I, cs_I, Or.inr ⟨4, 1, dL_setDemand_13, by decide, dL_setDemand_15, by decide, dL_setDemand_16⟩⟩
  | 1, _, rfl => ⟨[(0, 10, 13, 19)], [], (0, 10, 17, 13), rfl, (all_c ⟨by decide, exI, cl_I, nc_A_I⟩ all_n), ⟨by decide, by decide⟩, by decide, cl_A, cs_A, Or.inr ⟨4, 2, dL_setDemand_17, by decide, dL_setDemand_19, by decide, dL_setDemand_20⟩⟩
  | i + 2, E, h => by simp at h
set_option maxHeartbeats 4000000 in
set_option maxRecDepth 100000 in
theorem kL_setDemand {y : Sy} {d : Dt} (hC : CC d y) {m c : Int32} : AC mL_setDemand 17 true (LO d (oSetDemand y m c)) 4 24 [.ref 132, .int m, .int c, .ref 190] (HP d) := by
  show AW mL_setDemand 17 true (LO d (oSetDemand y m c)) 4 24 0 [(0, .ref 132), (1, .int m), (2, .int c), (3, .ref 190)] [] (HP d)
  refine aw_aload_n dL_setDemand_0 rfl ?_
  refine aw_iconst (v := 0) dL_setDemand_1 (by decide) ?_
  refine aw_aload_n dL_setDemand_2 rfl ?_
  refine aw_iload_n dL_setDemand_3 rfl ?_
  refine aw_iload_n dL_setDemand_4 rfl ?_
  refine aw_tryV (M' := mX7_setDemand) dL_setDemand_5 rfl lL_15 oX7_setDemand vX7_setDemand (kX7_setDemand hC) rfl (hp_132 _) rfl rfl rfl (Nat.le_of_ble_eq_true rfl) (Nat.le_of_ble_eq_true rfl) (by decide) (Nat.le_refl _) (Nat.le_refl _) (LO_kx (by decide) hL_setDemand) ?_
  rintro v d1 ⟨x, rfl, hp⟩
  refine aw_i2l dL_setDemand_8 ?_
  refine aw_lastN dL_setDemand_9 hp_190 (0) (by first | rfl | (simp only [li_0, li_1, li_2, li_3, li_4, li_5, li_7, li_8, li_9, li_11, li_12, li_16, li_17, li_31, li_32, li_60, li_77, li_80, li_89, li_99, li_101, li_112, li_113, li_256, li_999, li_1023, nI_add, pk_mul])) (by omega) (by decide)  ?_
  refine aw_goto (tgt := 21) dL_setDemand_10 (by decide) ?_
  refine aw_iconst (v := 0) dL_setDemand_21 (by decide) ?_
  exact aw_endI dL_setDemand_22 rfl (LO_n hp)

theorem oL_setRule : MOH mL_setRule 4 := ⟨tbk3 34 rfl, tbk1 0 rfl, by decide +kernel, ⟨by decide +kernel, by decide +kernel⟩, by decide +kernel, by decide⟩
set_option maxHeartbeats 4000000 in
set_option maxRecDepth 100000 in
theorem hL_setRule : ∀ (i : Nat) (E : String), [exA][i]? = some E → HdE mL_setRule 5 E (nI (i + 1))
  | 0, _, rfl => ⟨[], [], (0, 10, 13, 13), rfl, (fun z h => by cases h), ⟨by decide, by decide⟩, by decide, cl_A, cs_A, Or.inr ⟨4, 1, dL_setRule_13, by decide, dL_setRule_15, by decide, dL_setRule_16⟩⟩
  | i + 1, E, h => by simp at h
set_option maxHeartbeats 4000000 in
set_option maxRecDepth 100000 in
theorem kL_setRule {y : Sy} {d : Dt} (hC : CC d y) {a b : Int32} : AC mL_setRule 17 true (LO d (oSetRule y a b)) 4 24 [.ref 132, .int a, .int b, .ref 190] (HP d) := by
  show AW mL_setRule 17 true (LO d (oSetRule y a b)) 4 24 0 [(0, .ref 132), (1, .int a), (2, .int b), (3, .ref 190)] [] (HP d)
  refine aw_aload_n dL_setRule_0 rfl ?_
  refine aw_iconst (v := 0) dL_setRule_1 (by decide) ?_
  refine aw_aload_n dL_setRule_2 rfl ?_
  refine aw_iload_n dL_setRule_3 rfl ?_
  refine aw_iload_n dL_setRule_4 rfl ?_
  refine aw_tryV (M' := mX7_setRule) dL_setRule_5 rfl lL_21 oX7_setRule vX7_setRule (kX7_setRule hC) rfl (hp_132 _) rfl rfl rfl (Nat.le_of_ble_eq_true rfl) (Nat.le_of_ble_eq_true rfl) (by decide) (Nat.le_refl _) (Nat.le_refl _) (LO_kx (by decide) hL_setRule) ?_
  rintro v d1 ⟨x, rfl, hp⟩
  refine aw_i2l dL_setRule_8 ?_
  refine aw_lastN dL_setRule_9 hp_190 (0) (by first | rfl | (simp only [li_0, li_1, li_2, li_3, li_4, li_5, li_7, li_8, li_9, li_11, li_12, li_16, li_17, li_31, li_32, li_60, li_77, li_80, li_89, li_99, li_101, li_112, li_113, li_256, li_999, li_1023, nI_add, pk_mul])) (by omega) (by decide)  ?_
  refine aw_goto (tgt := 17) dL_setRule_10 (by decide) ?_
  refine aw_iconst (v := 0) dL_setRule_17 (by decide) ?_
  exact aw_endI dL_setRule_18 rfl (LO_n hp)

theorem oL_rule : MOH mL_rule 3 := ⟨tbk3 48 rfl, tbk1 0 rfl, by decide +kernel, ⟨by decide +kernel, by decide +kernel⟩, by decide +kernel, by decide⟩
set_option maxHeartbeats 4000000 in
set_option maxRecDepth 100000 in
theorem hL_rule : ∀ (i : Nat) (E : String), [exA][i]? = some E → HdE mL_rule 4 E (nI (i + 1))
  | 0, _, rfl => ⟨[], [], (0, 9, 12, 13), rfl, (fun z h => by cases h), ⟨by decide, by decide⟩, by decide, cl_A, cs_A, Or.inl ⟨3, 1, dL_rule_12, by decide, dL_rule_13, by decide, dL_rule_14⟩⟩
  | i + 1, E, h => by simp at h
set_option maxHeartbeats 4000000 in
set_option maxRecDepth 100000 in
theorem kL_rule {y : Sy} {d : Dt} (hC : CC d y) {c : Int32} : AC mL_rule 17 true (LO d (oRule y c)) 4 24 [.ref 132, .int c, .ref 190] (HP d) := by
  show AW mL_rule 17 true (LO d (oRule y c)) 4 24 0 [(0, .ref 132), (1, .int c), (2, .ref 190)] [] (HP d)
  refine aw_aload_n dL_rule_0 rfl ?_
  refine aw_iconst (v := 0) dL_rule_1 (by decide) ?_
  refine aw_aload_n dL_rule_2 rfl ?_
  refine aw_iload_n dL_rule_3 rfl ?_
  refine aw_tryV (M' := mX7_rule) dL_rule_4 rfl lL_24 oX7_rule vX7_rule (kX7_rule hC) rfl (hp_132 _) rfl rfl rfl (Nat.le_of_ble_eq_true rfl) (Nat.le_of_ble_eq_true rfl) (by decide) (Nat.le_refl _) (Nat.le_refl _) (LO_kx (by decide) hL_rule) ?_
  rintro v d1 ⟨x, rfl, hp⟩
  refine aw_i2l dL_rule_7 ?_
  refine aw_lastN dL_rule_8 hp_190 (0) (by first | rfl | (simp only [li_0, li_1, li_2, li_3, li_4, li_5, li_7, li_8, li_9, li_11, li_12, li_16, li_17, li_31, li_32, li_60, li_77, li_80, li_89, li_99, li_101, li_112, li_113, li_256, li_999, li_1023, nI_add, pk_mul])) (by omega) (by decide)  ?_
  refine aw_goto (tgt := 15) dL_rule_9 (by decide) ?_
  refine aw_iconst (v := 0) dL_rule_15 (by decide) ?_
  exact aw_endI dL_rule_16 rfl (LO_n hp)

theorem oL_setCopies : MOH mL_setCopies 4 := ⟨tbk3 59 rfl, tbk1 0 rfl, by decide +kernel, ⟨by decide +kernel, by decide +kernel⟩, by decide +kernel, by decide⟩
set_option maxHeartbeats 4000000 in
set_option maxRecDepth 100000 in
theorem hL_setCopies : ∀ (i : Nat) (E : String), [exI, exA][i]? = some E → HdE mL_setCopies 5 E (nI (i + 1))
  | 0, _, rfl => ⟨[], [(0, 10, 17, 13)], (0, 10, 13, 19), rfl, (fun z h => by cases h), ⟨by decide, by decide⟩, by decide, cl_I, cs_I, Or.inr ⟨4, 1, dL_setCopies_13, by decide, dL_setCopies_15, by decide, dL_setCopies_16⟩⟩
  | 1, _, rfl => ⟨[(0, 10, 13, 19)], [], (0, 10, 17, 13), rfl, (all_c ⟨by decide, exI, cl_I, nc_A_I⟩ all_n), ⟨by decide, by decide⟩, by decide, cl_A, cs_A, Or.inr ⟨4, 2, dL_setCopies_17, by decide, dL_setCopies_19, by decide, dL_setCopies_20⟩⟩
  | i + 2, E, h => by simp at h
set_option maxHeartbeats 4000000 in
set_option maxRecDepth 100000 in
theorem kL_setCopies {y : Sy} {d : Dt} (hC : CC d y) {m c : Int32} : AC mL_setCopies 17 true (LO d (oSetCopies y m c)) 4 24 [.ref 132, .int m, .int c, .ref 190] (HP d) := by
  show AW mL_setCopies 17 true (LO d (oSetCopies y m c)) 4 24 0 [(0, .ref 132), (1, .int m), (2, .int c), (3, .ref 190)] [] (HP d)
  refine aw_aload_n dL_setCopies_0 rfl ?_
  refine aw_iconst (v := 0) dL_setCopies_1 (by decide) ?_
  refine aw_aload_n dL_setCopies_2 rfl ?_
  refine aw_iload_n dL_setCopies_3 rfl ?_
  refine aw_iload_n dL_setCopies_4 rfl ?_
  refine aw_tryV (M' := mX7_setCopies) dL_setCopies_5 rfl lL_27 oX7_setCopies vX7_setCopies (kX7_setCopies hC) rfl (hp_132 _) rfl rfl rfl (Nat.le_of_ble_eq_true rfl) (Nat.le_of_ble_eq_true rfl) (by decide) (Nat.le_refl _) (Nat.le_refl _) (LO_kx (by decide) hL_setCopies) ?_
  rintro v d1 ⟨x, rfl, hp⟩
  refine aw_i2l dL_setCopies_8 ?_
  refine aw_lastN dL_setCopies_9 hp_190 (0) (by first | rfl | (simp only [li_0, li_1, li_2, li_3, li_4, li_5, li_7, li_8, li_9, li_11, li_12, li_16, li_17, li_31, li_32, li_60, li_77, li_80, li_89, li_99, li_101, li_112, li_113, li_256, li_999, li_1023, nI_add, pk_mul])) (by omega) (by decide)  ?_
  refine aw_goto (tgt := 21) dL_setCopies_10 (by decide) ?_
  refine aw_iconst (v := 0) dL_setCopies_21 (by decide) ?_
  exact aw_endI dL_setCopies_22 rfl (LO_n hp)

theorem oL_addTask : MOH mL_addTask 6 := ⟨tbk3 69 rfl, tbk1 0 rfl, by decide +kernel, ⟨by decide +kernel, by decide +kernel⟩, by decide +kernel, by decide⟩
theorem nc_S_A : Cond.not (.castable exS exA) ∈ gn1 := by decide +kernel
theorem cl_S : Cond.classLink RL 34 exS ∈ lw_tbl := by decide +kernel
theorem cs_S : Cond.castable exS exS ∈ lw_tbl := by decide +kernel
set_option maxHeartbeats 4000000 in
set_option maxRecDepth 100000 in
theorem hL_addTask : ∀ (i : Nat) (E : String), [exA, exS][i]? = some E → HdE mL_addTask 9 E (nI (i + 1))
  | 0, _, rfl => ⟨[], [(0, 14, 21, 34)], (0, 14, 17, 13), rfl, (fun z h => by cases h), ⟨by decide, by decide⟩, by decide, cl_A, cs_A, Or.inr ⟨6, 1, dL_addTask_17, by decide, dL_addTask_19, by decide, dL_addTask_20⟩⟩
  | 1, _, rfl => ⟨[(0, 14, 17, 13)], [], (0, 14, 21, 34), rfl, (all_c ⟨by decide, exA, cl_A, nc_S_A⟩ all_n), ⟨by decide, by decide⟩, by decide, cl_S, cs_S, Or.inr ⟨6, 2, dL_addTask_21, by decide, dL_addTask_23, by decide, dL_addTask_24⟩⟩
  | i + 2, E, h => by simp at h
set_option maxHeartbeats 4000000 in
set_option maxRecDepth 100000 in
theorem kL_addTask {y : Sy} {d : Dt} (hC : CC d y) {a b c e : Int32} : AC mL_addTask 17 true (LO d (oAddTask y a b c e)) 4 24 [.ref 132, .int a, .int b, .int c, .int e, .ref 190] (HP d) := by
  show AW mL_addTask 17 true (LO d (oAddTask y a b c e)) 4 24 0 [(0, .ref 132), (1, .int a), (2, .int b), (3, .int c), (4, .int e), (5, .ref 190)] [] (HP d)
  refine aw_aload dL_addTask_0 rfl ?_
  refine aw_iconst (v := 0) dL_addTask_2 (by decide) ?_
  refine aw_aload_n dL_addTask_3 rfl ?_
  refine aw_iload_n dL_addTask_4 rfl ?_
  refine aw_iload_n dL_addTask_5 rfl ?_
  refine aw_iload_n dL_addTask_6 rfl ?_
  refine aw_iload dL_addTask_7 rfl ?_
  refine aw_tryV (M' := mX7_addTask) dL_addTask_9 rfl lL_30 oX7_addTask vX7_addTask (kX7_addTask hC) rfl (hp_132 _) rfl rfl rfl (Nat.le_of_ble_eq_true rfl) (Nat.le_of_ble_eq_true rfl) (by decide) (Nat.le_refl _) (Nat.le_refl _) (LO_kx (by decide) hL_addTask) ?_
  rintro v d1 ⟨x, rfl, hp⟩
  refine aw_i2l dL_addTask_12 ?_
  refine aw_lastN dL_addTask_13 hp_190 (0) (by first | rfl | (simp only [li_0, li_1, li_2, li_3, li_4, li_5, li_7, li_8, li_9, li_11, li_12, li_16, li_17, li_31, li_32, li_60, li_77, li_80, li_89, li_99, li_101, li_112, li_113, li_256, li_999, li_1023, nI_add, pk_mul])) (by omega) (by decide)  ?_
  refine aw_goto (tgt := 25) dL_addTask_14 (by decide) ?_
  refine aw_iconst (v := 0) dL_addTask_25 (by decide) ?_
  exact aw_endI dL_addTask_26 rfl (LO_n hp)

theorem oL_setTime : MOH mL_setTime 5 := ⟨tbk3 109 rfl, tbk1 0 rfl, by decide +kernel, ⟨by decide +kernel, by decide +kernel⟩, by decide +kernel, by decide⟩
set_option maxHeartbeats 4000000 in
set_option maxRecDepth 100000 in
theorem hL_setTime : ∀ (i : Nat) (E : String), [exI, exA][i]? = some E → HdE mL_setTime 7 E (nI (i + 1))
  | 0, _, rfl => ⟨[], [(0, 12, 19, 13)], (0, 12, 15, 19), rfl, (fun z h => by cases h), ⟨by decide, by decide⟩, by decide, cl_I, cs_I, Or.inr ⟨5, 1, dL_setTime_15, by decide, dL_setTime_17, by decide, dL_setTime_18⟩⟩
  | 1, _, rfl => ⟨[(0, 12, 15, 19)], [], (0, 12, 19, 13), rfl, (all_c ⟨by decide, exI, cl_I, nc_A_I⟩ all_n), ⟨by decide, by decide⟩, by decide, cl_A, cs_A, Or.inr ⟨5, 2, dL_setTime_19, by decide, dL_setTime_21, by decide, dL_setTime_22⟩⟩
  | i + 2, E, h => by simp at h
set_option maxHeartbeats 4000000 in
set_option maxRecDepth 100000 in
theorem kL_setTime {y : Sy} {d : Dt} (hC : CC d y) {t m c : Int32} : AC mL_setTime 17 true (LO d (oSetTime y t m c)) 4 24 [.ref 132, .int t, .int m, .int c, .ref 190] (HP d) := by
  show AW mL_setTime 17 true (LO d (oSetTime y t m c)) 4 24 0 [(0, .ref 132), (1, .int t), (2, .int m), (3, .int c), (4, .ref 190)] [] (HP d)
  refine aw_aload dL_setTime_0 rfl ?_
  refine aw_iconst (v := 0) dL_setTime_2 (by decide) ?_
  refine aw_aload_n dL_setTime_3 rfl ?_
  refine aw_iload_n dL_setTime_4 rfl ?_
  refine aw_iload_n dL_setTime_5 rfl ?_
  refine aw_iload_n dL_setTime_6 rfl ?_
  refine aw_tryV (M' := mX7_setTime) dL_setTime_7 rfl lL_36 oX7_setTime vX7_setTime (kX7_setTime hC) rfl (hp_132 _) rfl rfl rfl (Nat.le_of_ble_eq_true rfl) (Nat.le_of_ble_eq_true rfl) (by decide) (Nat.le_refl _) (Nat.le_refl _) (LO_kx (by decide) hL_setTime) ?_
  rintro v d1 ⟨x, rfl, hp⟩
  refine aw_i2l dL_setTime_10 ?_
  refine aw_lastN dL_setTime_11 hp_190 (0) (by first | rfl | (simp only [li_0, li_1, li_2, li_3, li_4, li_5, li_7, li_8, li_9, li_11, li_12, li_16, li_17, li_31, li_32, li_60, li_77, li_80, li_89, li_99, li_101, li_112, li_113, li_256, li_999, li_1023, nI_add, pk_mul])) (by omega) (by decide)  ?_
  refine aw_goto (tgt := 23) dL_setTime_12 (by decide) ?_
  refine aw_iconst (v := 0) dL_setTime_23 (by decide) ?_
  exact aw_endI dL_setTime_24 rfl (LO_n hp)

theorem oL_setTool : MOH mL_setTool 4 := ⟨tbk3 121 rfl, tbk1 0 rfl, by decide +kernel, ⟨by decide +kernel, by decide +kernel⟩, by decide +kernel, by decide⟩
set_option maxHeartbeats 4000000 in
set_option maxRecDepth 100000 in
theorem hL_setTool : ∀ (i : Nat) (E : String), [exI, exA][i]? = some E → HdE mL_setTool 5 E (nI (i + 1))
  | 0, _, rfl => ⟨[], [(0, 10, 17, 13)], (0, 10, 13, 19), rfl, (fun z h => by cases h), ⟨by decide, by decide⟩, by decide, cl_I, cs_I, Or.inr ⟨4, 1, dL_setTool_13, by decide, dL_setTool_15, by decide, dL_setTool_16⟩⟩
  | 1, _, rfl => ⟨[(0, 10, 13, 19)], [], (0, 10, 17, 13), rfl, (all_c ⟨by decide, exI, cl_I, nc_A_I⟩ all_n), ⟨by decide, by decide⟩, by decide, cl_A, cs_A, Or.inr ⟨4, 2, dL_setTool_17, by decide, dL_setTool_19, by decide, dL_setTool_20⟩⟩
  | i + 2, E, h => by simp at h
set_option maxHeartbeats 4000000 in
set_option maxRecDepth 100000 in
theorem kL_setTool {y : Sy} {d : Dt} (hC : CC d y) {t c : Int32} : AC mL_setTool 17 true (LO d (oSetTool y t c)) 4 24 [.ref 132, .int t, .int c, .ref 190] (HP d) := by
  show AW mL_setTool 17 true (LO d (oSetTool y t c)) 4 24 0 [(0, .ref 132), (1, .int t), (2, .int c), (3, .ref 190)] [] (HP d)
  refine aw_aload_n dL_setTool_0 rfl ?_
  refine aw_iconst (v := 0) dL_setTool_1 (by decide) ?_
  refine aw_aload_n dL_setTool_2 rfl ?_
  refine aw_iload_n dL_setTool_3 rfl ?_
  refine aw_iload_n dL_setTool_4 rfl ?_
  refine aw_tryV (M' := mX7_setTool) dL_setTool_5 rfl lL_40 oX7_setTool vX7_setTool (kX7_setTool hC) rfl (hp_132 _) rfl rfl rfl (Nat.le_of_ble_eq_true rfl) (Nat.le_of_ble_eq_true rfl) (by decide) (Nat.le_refl _) (Nat.le_refl _) (LO_kx (by decide) hL_setTool) ?_
  rintro v d1 ⟨x, rfl, hp⟩
  refine aw_i2l dL_setTool_8 ?_
  refine aw_lastN dL_setTool_9 hp_190 (0) (by first | rfl | (simp only [li_0, li_1, li_2, li_3, li_4, li_5, li_7, li_8, li_9, li_11, li_12, li_16, li_17, li_31, li_32, li_60, li_77, li_80, li_89, li_99, li_101, li_112, li_113, li_256, li_999, li_1023, nI_add, pk_mul])) (by omega) (by decide)  ?_
  refine aw_goto (tgt := 21) dL_setTool_10 (by decide) ?_
  refine aw_iconst (v := 0) dL_setTool_21 (by decide) ?_
  exact aw_endI dL_setTool_22 rfl (LO_n hp)

theorem oL_before : MOH mL_before 4 := ⟨tbk3 128 rfl, tbk1 0 rfl, by decide +kernel, ⟨by decide +kernel, by decide +kernel⟩, by decide +kernel, by decide⟩
theorem nc_U_A : Cond.not (.castable exU exA) ∈ gn1 := by decide +kernel
theorem nc_U_I : Cond.not (.castable exU exI) ∈ gn1 := by decide +kernel
theorem cl_U : Cond.classLink RL 46 exU ∈ lw_tbl := by decide +kernel
theorem cs_U : Cond.castable exU exU ∈ lw_tbl := by decide +kernel
set_option maxHeartbeats 4000000 in
set_option maxRecDepth 100000 in
theorem hL_before : ∀ (i : Nat) (E : String), [exI, exA, exU][i]? = some E → HdE mL_before 5 E (nI (i + 1))
  | 0, _, rfl => ⟨[], [(0, 10, 17, 13), (0, 10, 21, 46)], (0, 10, 13, 19), rfl, (fun z h => by cases h), ⟨by decide, by decide⟩, by decide, cl_I, cs_I, Or.inr ⟨4, 1, dL_before_13, by decide, dL_before_15, by decide, dL_before_16⟩⟩
  | 1, _, rfl => ⟨[(0, 10, 13, 19)], [(0, 10, 21, 46)], (0, 10, 17, 13), rfl, (all_c ⟨by decide, exI, cl_I, nc_A_I⟩ all_n), ⟨by decide, by decide⟩, by decide, cl_A, cs_A, Or.inr ⟨4, 2, dL_before_17, by decide, dL_before_19, by decide, dL_before_20⟩⟩
  | 2, _, rfl => ⟨[(0, 10, 13, 19), (0, 10, 17, 13)], [], (0, 10, 21, 46), rfl, (all_c ⟨by decide, exI, cl_I, nc_U_I⟩ (all_c ⟨by decide, exA, cl_A, nc_U_A⟩ all_n)), ⟨by decide, by decide⟩, by decide, cl_U, cs_U, Or.inr ⟨4, 3, dL_before_21, by decide, dL_before_23, by decide, dL_before_24⟩⟩
  | i + 3, E, h => by simp at h
set_option maxHeartbeats 4000000 in
set_option maxRecDepth 100000 in
theorem kL_before {y : Sy} {d : Dt} (hC : CC d y) {a b : Int32} : AC mL_before 17 true (LO d (oBefore y a b)) 4 24 [.ref 132, .int a, .int b, .ref 190] (HP d) := by
  show AW mL_before 17 true (LO d (oBefore y a b)) 4 24 0 [(0, .ref 132), (1, .int a), (2, .int b), (3, .ref 190)] [] (HP d)
  refine aw_aload_n dL_before_0 rfl ?_
  refine aw_iconst (v := 0) dL_before_1 (by decide) ?_
  refine aw_aload_n dL_before_2 rfl ?_
  refine aw_iload_n dL_before_3 rfl ?_
  refine aw_iload_n dL_before_4 rfl ?_
  refine aw_tryV (M' := mX7_before) dL_before_5 rfl lL_43 oX7_before vX7_before (kX7_before hC) rfl (hp_132 _) rfl rfl rfl (Nat.le_of_ble_eq_true rfl) (Nat.le_of_ble_eq_true rfl) (by decide) (Nat.le_refl _) (Nat.le_refl _) (LO_kx (by decide) hL_before) ?_
  rintro v d1 ⟨x, rfl, hp⟩
  refine aw_i2l dL_before_8 ?_
  refine aw_lastN dL_before_9 hp_190 (0) (by first | rfl | (simp only [li_0, li_1, li_2, li_3, li_4, li_5, li_7, li_8, li_9, li_11, li_12, li_16, li_17, li_31, li_32, li_60, li_77, li_80, li_89, li_99, li_101, li_112, li_113, li_256, li_999, li_1023, nI_add, pk_mul])) (by omega) (by decide)  ?_
  refine aw_goto (tgt := 25) dL_before_10 (by decide) ?_
  refine aw_iconst (v := 0) dL_before_25 (by decide) ?_
  exact aw_endI dL_before_26 rfl (LO_n hp)

theorem oL_drop : MOH mL_drop 4 := ⟨tbk3 193 rfl, tbk1 0 rfl, by decide +kernel, ⟨by decide +kernel, by decide +kernel⟩, by decide +kernel, by decide⟩
theorem nc_E_I : Cond.not (.castable exE exI) ∈ gn1 := by decide +kernel
theorem cl_E : Cond.classLink RL 55 exE ∈ lw_tbl := by decide +kernel
theorem cs_E : Cond.castable exE exE ∈ lw_tbl := by decide +kernel
set_option maxHeartbeats 4000000 in
set_option maxRecDepth 100000 in
theorem hL_drop : ∀ (i : Nat) (E : String), [exI, exE][i]? = some E → HdE mL_drop 5 E (nI (i + 1))
  | 0, _, rfl => ⟨[], [(0, 10, 17, 55)], (0, 10, 13, 19), rfl, (fun z h => by cases h), ⟨by decide, by decide⟩, by decide, cl_I, cs_I, Or.inr ⟨4, 1, dL_drop_13, by decide, dL_drop_15, by decide, dL_drop_16⟩⟩
  | 1, _, rfl => ⟨[(0, 10, 13, 19)], [], (0, 10, 17, 55), rfl, (all_c ⟨by decide, exI, cl_I, nc_E_I⟩ all_n), ⟨by decide, by decide⟩, by decide, cl_E, cs_E, Or.inr ⟨4, 2, dL_drop_17, by decide, dL_drop_19, by decide, dL_drop_20⟩⟩
  | i + 2, E, h => by simp at h
set_option maxHeartbeats 4000000 in
set_option maxRecDepth 100000 in
theorem kL_drop {y : Sy} {d : Dt} (hC : CC d y) {a b : Int32} : AC mL_drop 17 true (LO d (oDrop y a b)) 4 24 [.ref 132, .int a, .int b, .ref 190] (HP d) := by
  show AW mL_drop 17 true (LO d (oDrop y a b)) 4 24 0 [(0, .ref 132), (1, .int a), (2, .int b), (3, .ref 190)] [] (HP d)
  refine aw_aload_n dL_drop_0 rfl ?_
  refine aw_iconst (v := 0) dL_drop_1 (by decide) ?_
  refine aw_aload_n dL_drop_2 rfl ?_
  refine aw_iload_n dL_drop_3 rfl ?_
  refine aw_iload_n dL_drop_4 rfl ?_
  refine aw_tryV (M' := mX7_drop) dL_drop_5 rfl lL_52 oX7_drop vX7_drop (kX7_drop hC (fun _ => kX7_checkElement)) rfl (hp_132 _) rfl rfl rfl (Nat.le_of_ble_eq_true rfl) (Nat.le_of_ble_eq_true rfl) (by decide) (Nat.le_refl _) (Nat.le_refl _) (LO_kx (by decide) hL_drop) ?_
  rintro v d1 ⟨x, rfl, hp⟩
  refine aw_i2l dL_drop_8 ?_
  refine aw_lastN dL_drop_9 hp_190 (0) (by first | rfl | (simp only [li_0, li_1, li_2, li_3, li_4, li_5, li_7, li_8, li_9, li_11, li_12, li_16, li_17, li_31, li_32, li_60, li_77, li_80, li_89, li_99, li_101, li_112, li_113, li_256, li_999, li_1023, nI_add, pk_mul])) (by omega) (by decide)  ?_
  refine aw_goto (tgt := 21) dL_drop_10 (by decide) ?_
  refine aw_iconst (v := 0) dL_drop_21 (by decide) ?_
  exact aw_endI dL_drop_22 rfl (LO_n hp)

theorem oL_task : MOH mL_task 4 := ⟨tbk3 225 rfl, tbk1 0 rfl, by decide +kernel, ⟨by decide +kernel, by decide +kernel⟩, by decide +kernel, by decide⟩
set_option maxHeartbeats 4000000 in
set_option maxRecDepth 100000 in
theorem hL_task : ∀ (i : Nat) (E : String), [exI, exA][i]? = some E → HdE mL_task 5 E (nI (i + 1))
  | 0, _, rfl => ⟨[], [(0, 10, 17, 13)], (0, 10, 13, 19), rfl, (fun z h => by cases h), ⟨by decide, by decide⟩, by decide, cl_I, cs_I, Or.inr ⟨4, 1, dL_task_13, by decide, dL_task_15, by decide, dL_task_16⟩⟩
  | 1, _, rfl => ⟨[(0, 10, 13, 19)], [], (0, 10, 17, 13), rfl, (all_c ⟨by decide, exI, cl_I, nc_A_I⟩ all_n), ⟨by decide, by decide⟩, by decide, cl_A, cs_A, Or.inr ⟨4, 2, dL_task_17, by decide, dL_task_19, by decide, dL_task_20⟩⟩
  | i + 2, E, h => by simp at h
set_option maxHeartbeats 4000000 in
set_option maxRecDepth 100000 in
theorem kL_task {y : Sy} {d : Dt} (hC : CC d y) {t w : Int32} : AC mL_task 17 true (LO d (oTask y t w)) 4 24 [.ref 132, .int t, .int w, .ref 190] (HP d) := by
  show AW mL_task 17 true (LO d (oTask y t w)) 4 24 0 [(0, .ref 132), (1, .int t), (2, .int w), (3, .ref 190)] [] (HP d)
  refine aw_aload_n dL_task_0 rfl ?_
  refine aw_iconst (v := 0) dL_task_1 (by decide) ?_
  refine aw_aload_n dL_task_2 rfl ?_
  refine aw_iload_n dL_task_3 rfl ?_
  refine aw_iload_n dL_task_4 rfl ?_
  refine aw_tryV (M' := mX7_task) dL_task_5 rfl lL_57 oX7_task vX7_task (kX7_task hC) rfl (hp_132 _) rfl rfl rfl (Nat.le_of_ble_eq_true rfl) (Nat.le_of_ble_eq_true rfl) (by decide) (Nat.le_refl _) (Nat.le_refl _) (LO_kx (by decide) hL_task) ?_
  rintro v d1 ⟨x, rfl, hp⟩
  refine aw_i2l dL_task_8 ?_
  refine aw_lastN dL_task_9 hp_190 (0) (by first | rfl | (simp only [li_0, li_1, li_2, li_3, li_4, li_5, li_7, li_8, li_9, li_11, li_12, li_16, li_17, li_31, li_32, li_60, li_77, li_80, li_89, li_99, li_101, li_112, li_113, li_256, li_999, li_1023, nI_add, pk_mul])) (by omega) (by decide)  ?_
  refine aw_goto (tgt := 21) dL_task_10 (by decide) ?_
  refine aw_iconst (v := 0) dL_task_21 (by decide) ?_
  exact aw_endI dL_task_22 rfl (LO_n hp)

theorem oL_priority : MOH mL_priority 4 := ⟨tbk4 14 rfl, tbk1 0 rfl, by decide +kernel, ⟨by decide +kernel, by decide +kernel⟩, by decide +kernel, by decide⟩
set_option maxHeartbeats 4000000 in
set_option maxRecDepth 100000 in
theorem hL_priority : ∀ (i : Nat) (E : String), [exI, exA][i]? = some E → HdE mL_priority 5 E (nI (i + 1))
  | 0, _, rfl => ⟨[], [(0, 10, 17, 13)], (0, 10, 13, 19), rfl, (fun z h => by cases h), ⟨by decide, by decide⟩, by decide, cl_I, cs_I, Or.inr ⟨4, 1, dL_priority_13, by decide, dL_priority_15, by decide, dL_priority_16⟩⟩
  | 1, _, rfl => ⟨[(0, 10, 13, 19)], [], (0, 10, 17, 13), rfl, (all_c ⟨by decide, exI, cl_I, nc_A_I⟩ all_n), ⟨by decide, by decide⟩, by decide, cl_A, cs_A, Or.inr ⟨4, 2, dL_priority_17, by decide, dL_priority_19, by decide, dL_priority_20⟩⟩
  | i + 2, E, h => by simp at h
set_option maxHeartbeats 4000000 in
set_option maxRecDepth 100000 in
theorem kL_priority {y : Sy} {d : Dt} (hC : CC d y) {t p : Int32} : AC mL_priority 17 true (LO d (oPriority y t p)) 4 24 [.ref 132, .int t, .int p, .ref 190] (HP d) := by
  show AW mL_priority 17 true (LO d (oPriority y t p)) 4 24 0 [(0, .ref 132), (1, .int t), (2, .int p), (3, .ref 190)] [] (HP d)
  refine aw_aload_n dL_priority_0 rfl ?_
  refine aw_iconst (v := 0) dL_priority_1 (by decide) ?_
  refine aw_aload_n dL_priority_2 rfl ?_
  refine aw_iload_n dL_priority_3 rfl ?_
  refine aw_iload_n dL_priority_4 rfl ?_
  refine aw_tryV (M' := mX7_priority) dL_priority_5 rfl lL_60 oX7_priority vX7_priority (kX7_priority hC) rfl (hp_132 _) rfl rfl rfl (Nat.le_of_ble_eq_true rfl) (Nat.le_of_ble_eq_true rfl) (by decide) (Nat.le_refl _) (Nat.le_refl _) (LO_kx (by decide) hL_priority) ?_
  rintro v d1 ⟨x, rfl, hp⟩
  refine aw_i2l dL_priority_8 ?_
  refine aw_lastN dL_priority_9 hp_190 (0) (by first | rfl | (simp only [li_0, li_1, li_2, li_3, li_4, li_5, li_7, li_8, li_9, li_11, li_12, li_16, li_17, li_31, li_32, li_60, li_77, li_80, li_89, li_99, li_101, li_112, li_113, li_256, li_999, li_1023, nI_add, pk_mul])) (by omega) (by decide)  ?_
  refine aw_goto (tgt := 21) dL_priority_10 (by decide) ?_
  refine aw_iconst (v := 0) dL_priority_21 (by decide) ?_
  exact aw_endI dL_priority_22 rfl (LO_n hp)

theorem oL_assign : MOH mL_assign 4 := ⟨tbk4 34 rfl, tbk1 0 rfl, by decide +kernel, ⟨by decide +kernel, by decide +kernel⟩, by decide +kernel, by decide⟩
set_option maxHeartbeats 4000000 in
set_option maxRecDepth 100000 in
theorem hL_assign : ∀ (i : Nat) (E : String), [exI, exU][i]? = some E → HdE mL_assign 5 E (nI (i + 1))
  | 0, _, rfl => ⟨[], [(0, 10, 17, 46)], (0, 10, 13, 19), rfl, (fun z h => by cases h), ⟨by decide, by decide⟩, by decide, cl_I, cs_I, Or.inr ⟨4, 1, dL_assign_13, by decide, dL_assign_15, by decide, dL_assign_16⟩⟩
  | 1, _, rfl => ⟨[(0, 10, 13, 19)], [], (0, 10, 17, 46), rfl, (all_c ⟨by decide, exI, cl_I, nc_U_I⟩ all_n), ⟨by decide, by decide⟩, by decide, cl_U, cs_U, Or.inr ⟨4, 2, dL_assign_17, by decide, dL_assign_19, by decide, dL_assign_20⟩⟩
  | i + 2, E, h => by simp at h
set_option maxHeartbeats 4000000 in
set_option maxRecDepth 100000 in
theorem kL_assign {y : Sy} {d : Dt} (hC : CC d y) {a b : Int32} : AC mL_assign 17 true (LO d (oAssign y a b)) 4 24 [.ref 132, .int a, .int b, .ref 190] (HP d) := by
  show AW mL_assign 17 true (LO d (oAssign y a b)) 4 24 0 [(0, .ref 132), (1, .int a), (2, .int b), (3, .ref 190)] [] (HP d)
  refine aw_aload_n dL_assign_0 rfl ?_
  refine aw_iconst (v := 0) dL_assign_1 (by decide) ?_
  refine aw_aload_n dL_assign_2 rfl ?_
  refine aw_iload_n dL_assign_3 rfl ?_
  refine aw_iload_n dL_assign_4 rfl ?_
  refine aw_tryV (M' := mX7_assign) dL_assign_5 rfl lL_63 oX7_assign vX7_assign (kX7_assign hC) rfl (hp_132 _) rfl rfl rfl (Nat.le_of_ble_eq_true rfl) (Nat.le_of_ble_eq_true rfl) (by decide) (Nat.le_refl _) (Nat.le_refl _) (LO_kx (by decide) hL_assign) ?_
  rintro v d1 ⟨x, rfl, hp⟩
  refine aw_i2l dL_assign_8 ?_
  refine aw_lastN dL_assign_9 hp_190 (0) (by first | rfl | (simp only [li_0, li_1, li_2, li_3, li_4, li_5, li_7, li_8, li_9, li_11, li_12, li_16, li_17, li_31, li_32, li_60, li_77, li_80, li_89, li_99, li_101, li_112, li_113, li_256, li_999, li_1023, nI_add, pk_mul])) (by omega) (by decide)  ?_
  refine aw_goto (tgt := 21) dL_assign_10 (by decide) ?_
  refine aw_iconst (v := 0) dL_assign_21 (by decide) ?_
  exact aw_endI dL_assign_22 rfl (LO_n hp)

theorem oL_reason : MOH mL_reason 4 := ⟨tbk4 46 rfl, tbk1 0 rfl, by decide +kernel, ⟨by decide +kernel, by decide +kernel⟩, by decide +kernel, by decide⟩
set_option maxHeartbeats 4000000 in
set_option maxRecDepth 100000 in
theorem hL_reason : ∀ (i : Nat) (E : String), [exI][i]? = some E → HdE mL_reason 5 E (nI (i + 1))
  | 0, _, rfl => ⟨[], [], (0, 10, 13, 19), rfl, (fun z h => by cases h), ⟨by decide, by decide⟩, by decide, cl_I, cs_I, Or.inr ⟨4, 1, dL_reason_13, by decide, dL_reason_15, by decide, dL_reason_16⟩⟩
  | i + 1, E, h => by simp at h
set_option maxHeartbeats 4000000 in
set_option maxRecDepth 100000 in
theorem kL_reason {y : Sy} {d : Dt} (hC : CC d y) {t s : Int32} : AC mL_reason 17 true (LO d (oReason y t s)) 4 24 [.ref 132, .int t, .int s, .ref 190] (HP d) := by
  show AW mL_reason 17 true (LO d (oReason y t s)) 4 24 0 [(0, .ref 132), (1, .int t), (2, .int s), (3, .ref 190)] [] (HP d)
  refine aw_aload_n dL_reason_0 rfl ?_
  refine aw_iconst (v := 0) dL_reason_1 (by decide) ?_
  refine aw_aload_n dL_reason_2 rfl ?_
  refine aw_iload_n dL_reason_3 rfl ?_
  refine aw_iload_n dL_reason_4 rfl ?_
  refine aw_tryV (M' := mX7_reason) dL_reason_5 rfl lL_66 oX7_reason vX7_reason (kX7_reason hC) rfl (hp_132 _) rfl rfl rfl (Nat.le_of_ble_eq_true rfl) (Nat.le_of_ble_eq_true rfl) (by decide) (Nat.le_refl _) (Nat.le_refl _) (LO_kx (by decide) hL_reason) ?_
  rintro v d1 ⟨x, rfl, hp⟩
  refine aw_i2l dL_reason_8 ?_
  refine aw_lastN dL_reason_9 hp_190 (0) (by first | rfl | (simp only [li_0, li_1, li_2, li_3, li_4, li_5, li_7, li_8, li_9, li_11, li_12, li_16, li_17, li_31, li_32, li_60, li_77, li_80, li_89, li_99, li_101, li_112, li_113, li_256, li_999, li_1023, nI_add, pk_mul])) (by omega) (by decide)  ?_
  refine aw_goto (tgt := 17) dL_reason_10 (by decide) ?_
  refine aw_iconst (v := 0) dL_reason_17 (by decide) ?_
  exact aw_endI dL_reason_18 rfl (LO_n hp)

theorem oL_whyNot : MOH mL_whyNot 2 := ⟨tbk4 53 rfl, tbk1 0 rfl, by decide +kernel, ⟨by decide +kernel, by decide +kernel⟩, by decide +kernel, by decide⟩
set_option maxHeartbeats 4000000 in
set_option maxRecDepth 100000 in
theorem hL_whyNot : ∀ (i : Nat) (E : String), [exE][i]? = some E → HdE mL_whyNot 3 E (nI (i + 1))
  | 0, _, rfl => ⟨[], [], (0, 8, 11, 55), rfl, (fun z h => by cases h), ⟨by decide, by decide⟩, by decide, cl_E, cs_E, Or.inl ⟨2, 1, dL_whyNot_11, by decide, dL_whyNot_12, by decide, dL_whyNot_13⟩⟩
  | i + 1, E, h => by simp at h
set_option maxHeartbeats 4000000 in
set_option maxRecDepth 100000 in
theorem kL_whyNot {y : Sy} {d : Dt} (hC : CC d y)  : AC mL_whyNot 17 true (LO d (oWhyNot y)) 4 24 [.ref 132, .ref 190] (HP d) := by
  show AW mL_whyNot 17 true (LO d (oWhyNot y)) 4 24 0 [(0, .ref 132), (1, .ref 190)] [] (HP d)
  refine aw_aload_n dL_whyNot_0 rfl ?_
  refine aw_iconst (v := 0) dL_whyNot_1 (by decide) ?_
  refine aw_aload_n dL_whyNot_2 rfl ?_
  refine aw_tryV (M' := mX7_whyNot) dL_whyNot_3 rfl lL_69 oX7_whyNot vX7_whyNot (kX7_whyNot hC (fun _ => kX7_checkElement)) rfl (hp_132 _) rfl rfl rfl (Nat.le_of_ble_eq_true rfl) (Nat.le_of_ble_eq_true rfl) (by decide) (Nat.le_refl _) (Nat.le_refl _) (LO_kx (by decide) hL_whyNot) ?_
  rintro v d1 ⟨x, rfl, hp⟩
  refine aw_i2l dL_whyNot_6 ?_
  refine aw_lastN dL_whyNot_7 hp_190 (0) (by first | rfl | (simp only [li_0, li_1, li_2, li_3, li_4, li_5, li_7, li_8, li_9, li_11, li_12, li_16, li_17, li_31, li_32, li_60, li_77, li_80, li_89, li_99, li_101, li_112, li_113, li_256, li_999, li_1023, nI_add, pk_mul])) (by omega) (by decide)  ?_
  refine aw_goto (tgt := 14) dL_whyNot_8 (by decide) ?_
  refine aw_iconst (v := 0) dL_whyNot_14 (by decide) ?_
  exact aw_endI dL_whyNot_15 rfl (LO_n hp)

theorem oL_station : MOH mL_station 4 := ⟨tbk4 60 rfl, tbk1 0 rfl, by decide +kernel, ⟨by decide +kernel, by decide +kernel⟩, by decide +kernel, by decide⟩
set_option maxHeartbeats 4000000 in
set_option maxRecDepth 100000 in
theorem hL_station : ∀ (i : Nat) (E : String), [exI, exA][i]? = some E → HdE mL_station 5 E (nI (i + 1))
  | 0, _, rfl => ⟨[], [(0, 10, 17, 13)], (0, 10, 13, 19), rfl, (fun z h => by cases h), ⟨by decide, by decide⟩, by decide, cl_I, cs_I, Or.inr ⟨4, 1, dL_station_13, by decide, dL_station_15, by decide, dL_station_16⟩⟩
  | 1, _, rfl => ⟨[(0, 10, 13, 19)], [], (0, 10, 17, 13), rfl, (all_c ⟨by decide, exI, cl_I, nc_A_I⟩ all_n), ⟨by decide, by decide⟩, by decide, cl_A, cs_A, Or.inr ⟨4, 2, dL_station_17, by decide, dL_station_19, by decide, dL_station_20⟩⟩
  | i + 2, E, h => by simp at h
set_option maxHeartbeats 4000000 in
set_option maxRecDepth 100000 in
theorem kL_station {y : Sy} {d : Dt} (hC : CC d y) {s w : Int32} : AC mL_station 17 true (LO d (oStation y s w)) 4 24 [.ref 132, .int s, .int w, .ref 190] (HP d) := by
  show AW mL_station 17 true (LO d (oStation y s w)) 4 24 0 [(0, .ref 132), (1, .int s), (2, .int w), (3, .ref 190)] [] (HP d)
  refine aw_aload_n dL_station_0 rfl ?_
  refine aw_iconst (v := 0) dL_station_1 (by decide) ?_
  refine aw_aload_n dL_station_2 rfl ?_
  refine aw_iload_n dL_station_3 rfl ?_
  refine aw_iload_n dL_station_4 rfl ?_
  refine aw_tryV (M' := mX7_station) dL_station_5 rfl lL_73 oX7_station vX7_station (kX7_station hC) rfl (hp_132 _) rfl rfl rfl (Nat.le_of_ble_eq_true rfl) (Nat.le_of_ble_eq_true rfl) (by decide) (Nat.le_refl _) (Nat.le_refl _) (LO_kx (by decide) hL_station) ?_
  rintro v d1 ⟨x, rfl, hp⟩
  refine aw_i2l dL_station_8 ?_
  refine aw_lastN dL_station_9 hp_190 (0) (by first | rfl | (simp only [li_0, li_1, li_2, li_3, li_4, li_5, li_7, li_8, li_9, li_11, li_12, li_16, li_17, li_31, li_32, li_60, li_77, li_80, li_89, li_99, li_101, li_112, li_113, li_256, li_999, li_1023, nI_add, pk_mul])) (by omega) (by decide)  ?_
  refine aw_goto (tgt := 21) dL_station_10 (by decide) ?_
  refine aw_iconst (v := 0) dL_station_21 (by decide) ?_
  exact aw_endI dL_station_22 rfl (LO_n hp)

theorem oL_sequence : MOH mL_sequence 4 := ⟨tbk4 85 rfl, tbk1 0 rfl, by decide +kernel, ⟨by decide +kernel, by decide +kernel⟩, by decide +kernel, by decide⟩
set_option maxHeartbeats 4000000 in
set_option maxRecDepth 100000 in
theorem hL_sequence : ∀ (i : Nat) (E : String), [exI, exE][i]? = some E → HdE mL_sequence 5 E (nI (i + 1))
  | 0, _, rfl => ⟨[], [(0, 10, 17, 55)], (0, 10, 13, 19), rfl, (fun z h => by cases h), ⟨by decide, by decide⟩, by decide, cl_I, cs_I, Or.inr ⟨4, 1, dL_sequence_13, by decide, dL_sequence_15, by decide, dL_sequence_16⟩⟩
  | 1, _, rfl => ⟨[(0, 10, 13, 19)], [], (0, 10, 17, 55), rfl, (all_c ⟨by decide, exI, cl_I, nc_E_I⟩ all_n), ⟨by decide, by decide⟩, by decide, cl_E, cs_E, Or.inr ⟨4, 2, dL_sequence_17, by decide, dL_sequence_19, by decide, dL_sequence_20⟩⟩
  | i + 2, E, h => by simp at h
set_option maxHeartbeats 4000000 in
set_option maxRecDepth 100000 in
theorem kL_sequence {y : Sy} {d : Dt} (hC : CC d y) {s k : Int32} : AC mL_sequence 17 true (LO d (oSequence y s k)) 4 24 [.ref 132, .int s, .int k, .ref 190] (HP d) := by
  show AW mL_sequence 17 true (LO d (oSequence y s k)) 4 24 0 [(0, .ref 132), (1, .int s), (2, .int k), (3, .ref 190)] [] (HP d)
  refine aw_aload_n dL_sequence_0 rfl ?_
  refine aw_iconst (v := 0) dL_sequence_1 (by decide) ?_
  refine aw_aload_n dL_sequence_2 rfl ?_
  refine aw_iload_n dL_sequence_3 rfl ?_
  refine aw_iload_n dL_sequence_4 rfl ?_
  refine aw_tryV (M' := mX7_sequence) dL_sequence_5 rfl lL_79 oX7_sequence vX7_sequence (kX7_sequence hC (fun _ => kX7_checkElement)) rfl (hp_132 _) rfl rfl rfl (Nat.le_of_ble_eq_true rfl) (Nat.le_of_ble_eq_true rfl) (by decide) (Nat.le_refl _) (Nat.le_refl _) (LO_kx (by decide) hL_sequence) ?_
  rintro v d1 ⟨x, rfl, hp⟩
  refine aw_i2l dL_sequence_8 ?_
  refine aw_lastN dL_sequence_9 hp_190 (0) (by first | rfl | (simp only [li_0, li_1, li_2, li_3, li_4, li_5, li_7, li_8, li_9, li_11, li_12, li_16, li_17, li_31, li_32, li_60, li_77, li_80, li_89, li_99, li_101, li_112, li_113, li_256, li_999, li_1023, nI_add, pk_mul])) (by omega) (by decide)  ?_
  refine aw_goto (tgt := 21) dL_sequence_10 (by decide) ?_
  refine aw_iconst (v := 0) dL_sequence_21 (by decide) ?_
  exact aw_endI dL_sequence_22 rfl (LO_n hp)

theorem oL_line : MOH mL_line 3 := ⟨tbk4 92 rfl, tbk1 0 rfl, by decide +kernel, ⟨by decide +kernel, by decide +kernel⟩, by decide +kernel, by decide⟩
set_option maxHeartbeats 4000000 in
set_option maxRecDepth 100000 in
theorem hL_line : ∀ (i : Nat) (E : String), [exA][i]? = some E → HdE mL_line 4 E (nI (i + 1))
  | 0, _, rfl => ⟨[], [], (0, 9, 12, 13), rfl, (fun z h => by cases h), ⟨by decide, by decide⟩, by decide, cl_A, cs_A, Or.inl ⟨3, 1, dL_line_12, by decide, dL_line_13, by decide, dL_line_14⟩⟩
  | i + 1, E, h => by simp at h
set_option maxHeartbeats 4000000 in
set_option maxRecDepth 100000 in
theorem kL_line {y : Sy} {d : Dt} (hC : CC d y) {w : Int32} : AC mL_line 17 true (LO d (oLine y w)) 4 24 [.ref 132, .int w, .ref 190] (HP d) := by
  show AW mL_line 17 true (LO d (oLine y w)) 4 24 0 [(0, .ref 132), (1, .int w), (2, .ref 190)] [] (HP d)
  refine aw_aload_n dL_line_0 rfl ?_
  refine aw_iconst (v := 0) dL_line_1 (by decide) ?_
  refine aw_aload_n dL_line_2 rfl ?_
  refine aw_iload_n dL_line_3 rfl ?_
  refine aw_tryV (M' := mX7_line) dL_line_4 rfl lL_82 oX7_line vX7_line (kX7_line hC) rfl (hp_132 _) rfl rfl rfl (Nat.le_of_ble_eq_true rfl) (Nat.le_of_ble_eq_true rfl) (by decide) (Nat.le_refl _) (Nat.le_refl _) (LO_kx (by decide) hL_line) ?_
  rintro v d1 ⟨x, rfl, hp⟩
  refine aw_i2l dL_line_7 ?_
  refine aw_lastN dL_line_8 hp_190 (0) (by first | rfl | (simp only [li_0, li_1, li_2, li_3, li_4, li_5, li_7, li_8, li_9, li_11, li_12, li_16, li_17, li_31, li_32, li_60, li_77, li_80, li_89, li_99, li_101, li_112, li_113, li_256, li_999, li_1023, nI_add, pk_mul])) (by omega) (by decide)  ?_
  refine aw_goto (tgt := 15) dL_line_9 (by decide) ?_
  refine aw_iconst (v := 0) dL_line_15 (by decide) ?_
  exact aw_endI dL_line_16 rfl (LO_n hp)

theorem oL_fill : MOH mL_fill 3 := ⟨tbk4 159 rfl, tbk1 0 rfl, by decide +kernel, ⟨by decide +kernel, by decide +kernel⟩, by decide +kernel, by decide⟩
set_option maxHeartbeats 4000000 in
set_option maxRecDepth 100000 in
theorem hL_fill : ∀ (i : Nat) (E : String), [exA, exU][i]? = some E → HdE mL_fill 4 E (nI (i + 1))
  | 0, _, rfl => ⟨[], [(0, 9, 15, 46)], (0, 9, 12, 13), rfl, (fun z h => by cases h), ⟨by decide, by decide⟩, by decide, cl_A, cs_A, Or.inl ⟨3, 1, dL_fill_12, by decide, dL_fill_13, by decide, dL_fill_14⟩⟩
  | 1, _, rfl => ⟨[(0, 9, 12, 13)], [], (0, 9, 15, 46), rfl, (all_c ⟨by decide, exA, cl_A, nc_U_A⟩ all_n), ⟨by decide, by decide⟩, by decide, cl_U, cs_U, Or.inl ⟨3, 2, dL_fill_15, by decide, dL_fill_16, by decide, dL_fill_17⟩⟩
  | i + 2, E, h => by simp at h
set_option maxHeartbeats 4000000 in
set_option maxRecDepth 100000 in
theorem kL_fill {y : Sy} {d : Dt} (hC : CC d y) {p : Int32} : AC mL_fill 17 true (LO d (oFill y p)) 4 24 [.ref 132, .int p, .ref 190] (HP d) := by
  show AW mL_fill 17 true (LO d (oFill y p)) 4 24 0 [(0, .ref 132), (1, .int p), (2, .ref 190)] [] (HP d)
  refine aw_aload_n dL_fill_0 rfl ?_
  refine aw_iconst (v := 0) dL_fill_1 (by decide) ?_
  refine aw_aload_n dL_fill_2 rfl ?_
  refine aw_iload_n dL_fill_3 rfl ?_
  refine aw_tryV (M' := mX7_fill) dL_fill_4 rfl lL_91 oX7_fill vX7_fill (kX7_fill hC) rfl (hp_132 _) rfl rfl rfl (Nat.le_of_ble_eq_true rfl) (Nat.le_of_ble_eq_true rfl) (by decide) (Nat.le_refl _) (Nat.le_refl _) (LO_kx (by decide) hL_fill) ?_
  rintro v d1 ⟨x, rfl, hp⟩
  refine aw_i2l dL_fill_7 ?_
  refine aw_lastN dL_fill_8 hp_190 (0) (by first | rfl | (simp only [li_0, li_1, li_2, li_3, li_4, li_5, li_7, li_8, li_9, li_11, li_12, li_16, li_17, li_31, li_32, li_60, li_77, li_80, li_89, li_99, li_101, li_112, li_113, li_256, li_999, li_1023, nI_add, pk_mul])) (by omega) (by decide)  ?_
  refine aw_goto (tgt := 18) dL_fill_9 (by decide) ?_
  refine aw_iconst (v := 0) dL_fill_18 (by decide) ?_
  exact aw_endI dL_fill_19 rfl (LO_n hp)

theorem oL_least : MOH mL_least 2 := ⟨tbk4 184 rfl, tbk1 0 rfl, by decide +kernel, ⟨by decide +kernel, by decide +kernel⟩, by decide +kernel, by decide⟩
theorem nc_E_S : Cond.not (.castable exE exS) ∈ gn1 := by decide +kernel
set_option maxHeartbeats 4000000 in
set_option maxRecDepth 100000 in
theorem hL_least : ∀ (i : Nat) (E : String), [exS, exE][i]? = some E → HdE mL_least 3 E (nI (i + 1))
  | 0, _, rfl => ⟨[], [(0, 8, 14, 55)], (0, 8, 11, 34), rfl, (fun z h => by cases h), ⟨by decide, by decide⟩, by decide, cl_S, cs_S, Or.inl ⟨2, 1, dL_least_11, by decide, dL_least_12, by decide, dL_least_13⟩⟩
  | 1, _, rfl => ⟨[(0, 8, 11, 34)], [], (0, 8, 14, 55), rfl, (all_c ⟨by decide, exS, cl_S, nc_E_S⟩ all_n), ⟨by decide, by decide⟩, by decide, cl_E, cs_E, Or.inl ⟨2, 2, dL_least_14, by decide, dL_least_15, by decide, dL_least_16⟩⟩
  | i + 2, E, h => by simp at h
set_option maxHeartbeats 4000000 in
set_option maxRecDepth 100000 in
theorem kL_least {y : Sy} {d : Dt} (hC : CC d y)  : AC mL_least 17 true (LO d (oLeast y)) 4 24 [.ref 132, .ref 190] (HP d) := by
  show AW mL_least 17 true (LO d (oLeast y)) 4 24 0 [(0, .ref 132), (1, .ref 190)] [] (HP d)
  refine aw_aload_n dL_least_0 rfl ?_
  refine aw_iconst (v := 0) dL_least_1 (by decide) ?_
  refine aw_aload_n dL_least_2 rfl ?_
  refine aw_tryV (M' := mX7_least) dL_least_3 rfl lL_94 oX7_least vX7_least (kX7_least hC (fun _ => kX7_checkElement)) rfl (hp_132 _) rfl rfl rfl (Nat.le_of_ble_eq_true rfl) (Nat.le_of_ble_eq_true rfl) (by decide) (Nat.le_refl _) (Nat.le_refl _) (LO_kx (by decide) hL_least) ?_
  rintro v d1 ⟨x, rfl, hp⟩
  refine aw_i2l dL_least_6 ?_
  refine aw_lastN dL_least_7 hp_190 (0) (by first | rfl | (simp only [li_0, li_1, li_2, li_3, li_4, li_5, li_7, li_8, li_9, li_11, li_12, li_16, li_17, li_31, li_32, li_60, li_77, li_80, li_89, li_99, li_101, li_112, li_113, li_256, li_999, li_1023, nI_add, pk_mul])) (by omega) (by decide)  ?_
  refine aw_goto (tgt := 17) dL_least_8 (by decide) ?_
  refine aw_iconst (v := 0) dL_least_17 (by decide) ?_
  exact aw_endI dL_least_18 rfl (LO_n hp)

theorem oL_takeLeast : MOH mL_takeLeast 2 := ⟨tbk5 2 rfl, tbk1 0 rfl, by decide +kernel, ⟨by decide +kernel, by decide +kernel⟩, by decide +kernel, by decide⟩
set_option maxHeartbeats 4000000 in
set_option maxRecDepth 100000 in
theorem hL_takeLeast : ∀ (i : Nat) (E : String), [exS, exE][i]? = some E → HdE mL_takeLeast 3 E (nI (i + 1))
  | 0, _, rfl => ⟨[], [(0, 8, 14, 55)], (0, 8, 11, 34), rfl, (fun z h => by cases h), ⟨by decide, by decide⟩, by decide, cl_S, cs_S, Or.inl ⟨2, 1, dL_takeLeast_11, by decide, dL_takeLeast_12, by decide, dL_takeLeast_13⟩⟩
  | 1, _, rfl => ⟨[(0, 8, 11, 34)], [], (0, 8, 14, 55), rfl, (all_c ⟨by decide, exS, cl_S, nc_E_S⟩ all_n), ⟨by decide, by decide⟩, by decide, cl_E, cs_E, Or.inl ⟨2, 2, dL_takeLeast_14, by decide, dL_takeLeast_15, by decide, dL_takeLeast_16⟩⟩
  | i + 2, E, h => by simp at h
set_option maxHeartbeats 4000000 in
set_option maxRecDepth 100000 in
theorem kL_takeLeast {y : Sy} {d : Dt} (hC : CC d y)  : AC mL_takeLeast 17 true (LO d (oTake y)) 4 24 [.ref 132, .ref 190] (HP d) := by
  show AW mL_takeLeast 17 true (LO d (oTake y)) 4 24 0 [(0, .ref 132), (1, .ref 190)] [] (HP d)
  refine aw_aload_n dL_takeLeast_0 rfl ?_
  refine aw_iconst (v := 0) dL_takeLeast_1 (by decide) ?_
  refine aw_aload_n dL_takeLeast_2 rfl ?_
  refine aw_tryV (M' := mX7_takeLeast) dL_takeLeast_3 rfl lL_101 oX7_takeLeast vX7_takeLeast (kX7_takeLeast hC (fun _ => kX7_checkElement)) rfl (hp_132 _) rfl rfl rfl (Nat.le_of_ble_eq_true rfl) (Nat.le_of_ble_eq_true rfl) (by decide) (Nat.le_refl _) (Nat.le_refl _) (LO_kx (by decide) hL_takeLeast) ?_
  rintro v d1 ⟨x, rfl, hp⟩
  refine aw_i2l dL_takeLeast_6 ?_
  refine aw_lastN dL_takeLeast_7 hp_190 (0) (by first | rfl | (simp only [li_0, li_1, li_2, li_3, li_4, li_5, li_7, li_8, li_9, li_11, li_12, li_16, li_17, li_31, li_32, li_60, li_77, li_80, li_89, li_99, li_101, li_112, li_113, li_256, li_999, li_1023, nI_add, pk_mul])) (by omega) (by decide)  ?_
  refine aw_goto (tgt := 17) dL_takeLeast_8 (by decide) ?_
  refine aw_iconst (v := 0) dL_takeLeast_17 (by decide) ?_
  exact aw_endI dL_takeLeast_18 rfl (LO_n hp)

theorem oL_feed : MOH mL_feed 3 := ⟨tbk5 13 rfl, tbk1 0 rfl, by decide +kernel, ⟨by decide +kernel, by decide +kernel⟩, by decide +kernel, by decide⟩
set_option maxHeartbeats 4000000 in
set_option maxRecDepth 100000 in
theorem hL_feed : ∀ (i : Nat) (E : String), [exS][i]? = some E → HdE mL_feed 4 E (nI (i + 1))
  | 0, _, rfl => ⟨[], [], (0, 9, 12, 34), rfl, (fun z h => by cases h), ⟨by decide, by decide⟩, by decide, cl_S, cs_S, Or.inl ⟨3, 1, dL_feed_12, by decide, dL_feed_13, by decide, dL_feed_14⟩⟩
  | i + 1, E, h => by simp at h
set_option maxHeartbeats 4000000 in
set_option maxRecDepth 100000 in
theorem kL_feed {y : Sy} {d : Dt} (hC : CC d y) {c : Nat} (hc : c < 65536) : AC mL_feed 17 true (LO d (oFeed y (nI c))) 4 24 [.ref 132, .int (nI c), .ref 190] (HP d) := by
  show AW mL_feed 17 true (LO d (oFeed y (nI c))) 4 24 0 [(0, .ref 132), (1, .int (nI c)), (2, .ref 190)] [] (HP d)
  refine aw_aload_n dL_feed_0 rfl ?_
  refine aw_iconst (v := 0) dL_feed_1 (by decide) ?_
  refine aw_aload_n dL_feed_2 rfl ?_
  refine aw_iload_n dL_feed_3 rfl ?_
  refine aw_tryV (M' := mX7_feed) dL_feed_4 rfl lL_104 oX7_feed vX7_feed (kX7_feed hC hc) rfl (hp_132 _) rfl rfl rfl (Nat.le_of_ble_eq_true rfl) (Nat.le_of_ble_eq_true rfl) (by decide) (Nat.le_refl _) (Nat.le_refl _) (LO_kx (by decide) hL_feed) ?_
  rintro v d1 ⟨x, rfl, hp⟩
  refine aw_i2l dL_feed_7 ?_
  refine aw_lastN dL_feed_8 hp_190 (0) (by first | rfl | (simp only [li_0, li_1, li_2, li_3, li_4, li_5, li_7, li_8, li_9, li_11, li_12, li_16, li_17, li_31, li_32, li_60, li_77, li_80, li_89, li_99, li_101, li_112, li_113, li_256, li_999, li_1023, nI_add, pk_mul])) (by omega) (by decide)  ?_
  refine aw_goto (tgt := 15) dL_feed_9 (by decide) ?_
  refine aw_iconst (v := 0) dL_feed_15 (by decide) ?_
  exact aw_endI dL_feed_16 rfl (LO_n hp)

theorem oL_read : MOH mL_read 2 := ⟨tbk5 24 rfl, tbk1 0 rfl, by decide +kernel, ⟨by decide +kernel, by decide +kernel⟩, by decide +kernel, by decide⟩
set_option maxHeartbeats 4000000 in
set_option maxRecDepth 100000 in
theorem hL_read : ∀ (i : Nat) (E : String), [exU][i]? = some E → HdE mL_read 3 E (nI (i + 1))
  | 0, _, rfl => ⟨[], [], (0, 8, 11, 46), rfl, (fun z h => by cases h), ⟨by decide, by decide⟩, by decide, cl_U, cs_U, Or.inl ⟨2, 1, dL_read_11, by decide, dL_read_12, by decide, dL_read_13⟩⟩
  | i + 1, E, h => by simp at h
set_option maxHeartbeats 4000000 in
set_option maxRecDepth 100000 in
theorem kL_read {y : Sy} {d : Dt} (hC : CC d y)  : AC mL_read 17 true (LO d (oRead y)) 4 24 [.ref 132, .ref 190] (HP d) := by
  show AW mL_read 17 true (LO d (oRead y)) 4 24 0 [(0, .ref 132), (1, .ref 190)] [] (HP d)
  refine aw_aload_n dL_read_0 rfl ?_
  refine aw_iconst (v := 0) dL_read_1 (by decide) ?_
  refine aw_aload_n dL_read_2 rfl ?_
  refine aw_tryV (M' := mX7_read) dL_read_3 rfl lL_108 oX7_read vX7_read (kX7_read hC) rfl (hp_132 _) rfl rfl rfl (Nat.le_of_ble_eq_true rfl) (Nat.le_of_ble_eq_true rfl) (by decide) (Nat.le_refl _) (Nat.le_refl _) (LO_kx (by decide) hL_read) ?_
  rintro v d1 ⟨x, rfl, hp⟩
  refine aw_i2l dL_read_6 ?_
  refine aw_lastN dL_read_7 hp_190 (0) (by first | rfl | (simp only [li_0, li_1, li_2, li_3, li_4, li_5, li_7, li_8, li_9, li_11, li_12, li_16, li_17, li_31, li_32, li_60, li_77, li_80, li_89, li_99, li_101, li_112, li_113, li_256, li_999, li_1023, nI_add, pk_mul])) (by omega) (by decide)  ?_
  refine aw_goto (tgt := 14) dL_read_8 (by decide) ?_
  refine aw_iconst (v := 0) dL_read_14 (by decide) ?_
  exact aw_endI dL_read_15 rfl (LO_n hp)

theorem oL_undo : MOH mL_undo 2 := ⟨tbk5 162 rfl, tbk1 0 rfl, by decide +kernel, ⟨by decide +kernel, by decide +kernel⟩, by decide +kernel, by decide⟩
set_option maxHeartbeats 4000000 in
set_option maxRecDepth 100000 in
theorem hL_undo : ∀ (i : Nat) (E : String), [exS][i]? = some E → HdE mL_undo 3 E (nI (i + 1))
  | 0, _, rfl => ⟨[], [], (0, 8, 11, 34), rfl, (fun z h => by cases h), ⟨by decide, by decide⟩, by decide, cl_S, cs_S, Or.inl ⟨2, 1, dL_undo_11, by decide, dL_undo_12, by decide, dL_undo_13⟩⟩
  | i + 1, E, h => by simp at h
set_option maxHeartbeats 4000000 in
set_option maxRecDepth 100000 in
theorem kL_undo {y : Sy} {d : Dt} (hC : CC d y)  : AC mL_undo 17 true (LO d (oUndo y)) 4 24 [.ref 132, .ref 190] (HP d) := by
  show AW mL_undo 17 true (LO d (oUndo y)) 4 24 0 [(0, .ref 132), (1, .ref 190)] [] (HP d)
  refine aw_aload_n dL_undo_0 rfl ?_
  refine aw_iconst (v := 0) dL_undo_1 (by decide) ?_
  refine aw_aload_n dL_undo_2 rfl ?_
  refine aw_tryV (M' := mX7_undo) dL_undo_3 rfl lL_111 oX7_undo vX7_undo (kX7_undo hC) rfl (hp_132 _) rfl rfl rfl (Nat.le_of_ble_eq_true rfl) (Nat.le_of_ble_eq_true rfl) (by decide) (Nat.le_refl _) (Nat.le_refl _) (LO_kx (by decide) hL_undo) ?_
  rintro v d1 ⟨x, rfl, hp⟩
  refine aw_i2l dL_undo_6 ?_
  refine aw_lastN dL_undo_7 hp_190 (0) (by first | rfl | (simp only [li_0, li_1, li_2, li_3, li_4, li_5, li_7, li_8, li_9, li_11, li_12, li_16, li_17, li_31, li_32, li_60, li_77, li_80, li_89, li_99, li_101, li_112, li_113, li_256, li_999, li_1023, nI_add, pk_mul])) (by omega) (by decide)  ?_
  refine aw_goto (tgt := 14) dL_undo_8 (by decide) ?_
  refine aw_iconst (v := 0) dL_undo_14 (by decide) ?_
  exact aw_endI dL_undo_15 rfl (LO_n hp)

theorem oL_restore : MOH mL_restore 2 := ⟨tbk5 173 rfl, tbk1 0 rfl, by decide +kernel, ⟨by decide +kernel, by decide +kernel⟩, by decide +kernel, by decide⟩
set_option maxHeartbeats 4000000 in
set_option maxRecDepth 100000 in
theorem hL_restore : ∀ (i : Nat) (E : String), [exS][i]? = some E → HdE mL_restore 3 E (nI (i + 1))
  | 0, _, rfl => ⟨[], [], (0, 8, 11, 34), rfl, (fun z h => by cases h), ⟨by decide, by decide⟩, by decide, cl_S, cs_S, Or.inl ⟨2, 1, dL_restore_11, by decide, dL_restore_12, by decide, dL_restore_13⟩⟩
  | i + 1, E, h => by simp at h
set_option maxHeartbeats 4000000 in
set_option maxRecDepth 100000 in
theorem kL_restore {y : Sy} {d : Dt} (hC : CC d y)  : AC mL_restore 17 true (LO d (oRestore y)) 4 24 [.ref 132, .ref 190] (HP d) := by
  show AW mL_restore 17 true (LO d (oRestore y)) 4 24 0 [(0, .ref 132), (1, .ref 190)] [] (HP d)
  refine aw_aload_n dL_restore_0 rfl ?_
  refine aw_iconst (v := 0) dL_restore_1 (by decide) ?_
  refine aw_aload_n dL_restore_2 rfl ?_
  refine aw_tryV (M' := mX7_restore) dL_restore_3 rfl lL_114 oX7_restore vX7_restore (kX7_restore hC) rfl (hp_132 _) rfl rfl rfl (Nat.le_of_ble_eq_true rfl) (Nat.le_of_ble_eq_true rfl) (by decide) (Nat.le_refl _) (Nat.le_refl _) (LO_kx (by decide) hL_restore) ?_
  rintro v d1 ⟨x, rfl, hp⟩
  refine aw_i2l dL_restore_6 ?_
  refine aw_lastN dL_restore_7 hp_190 (0) (by first | rfl | (simp only [li_0, li_1, li_2, li_3, li_4, li_5, li_7, li_8, li_9, li_11, li_12, li_16, li_17, li_31, li_32, li_60, li_77, li_80, li_89, li_99, li_101, li_112, li_113, li_256, li_999, li_1023, nI_add, pk_mul])) (by omega) (by decide)  ?_
  refine aw_goto (tgt := 14) dL_restore_8 (by decide) ?_
  refine aw_iconst (v := 0) dL_restore_14 (by decide) ?_
  exact aw_endI dL_restore_15 rfl (LO_n hp)

theorem oL_pair : MOH mL_pair 5 := ⟨tbk3 174 rfl, tbk1 0 rfl, by decide +kernel, ⟨by decide +kernel, by decide +kernel⟩, by decide +kernel, by decide⟩
set_option maxHeartbeats 4000000 in
set_option maxRecDepth 100000 in
theorem hL_pair : ∀ (i : Nat) (E : String), [exI, exA][i]? = some E → HdE mL_pair 7 E (nI (i + 1))
  | 0, _, rfl => ⟨[], [(0, 12, 19, 13)], (0, 12, 15, 19), rfl, (fun z h => by cases h), ⟨by decide, by decide⟩, by decide, cl_I, cs_I, Or.inr ⟨5, 1, dL_pair_15, by decide, dL_pair_17, by decide, dL_pair_18⟩⟩
  | 1, _, rfl => ⟨[(0, 12, 15, 19)], [], (0, 12, 19, 13), rfl, (all_c ⟨by decide, exI, cl_I, nc_A_I⟩ all_n), ⟨by decide, by decide⟩, by decide, cl_A, cs_A, Or.inr ⟨5, 2, dL_pair_19, by decide, dL_pair_21, by decide, dL_pair_22⟩⟩
  | i + 2, E, h => by simp at h
set_option maxHeartbeats 4000000 in
set_option maxRecDepth 100000 in
theorem kL_pair_a {y : Sy} {d : Dt} (hC : CC d y) {a b : Int32} : AC mL_pair 17 true (LO d (oPair y a b 10)) 4 24 [.ref 132, .int a, .int b, .int 1, .ref 190] (HP d) := by
  show AW mL_pair 17 true (LO d (oPair y a b 10)) 4 24 0 [(0, .ref 132), (1, .int a), (2, .int b), (3, .int 1), (4, .ref 190)] [] (HP d)
  refine aw_aload dL_pair_0 rfl ?_
  refine aw_iconst (v := 0) dL_pair_2 (by decide) ?_
  refine aw_aload_n dL_pair_3 rfl ?_
  refine aw_iload_n dL_pair_4 rfl ?_
  refine aw_iload_n dL_pair_5 rfl ?_
  refine aw_iload_n dL_pair_6 rfl ?_
  refine aw_tryV (M' := mX7_pair) dL_pair_7 rfl lL_48 oX7_pair vX7_pair (kX7_pair_a hC) rfl (hp_132 _) rfl rfl rfl (Nat.le_of_ble_eq_true rfl) (Nat.le_of_ble_eq_true rfl) (by decide) (Nat.le_refl _) (Nat.le_refl _) (LO_kx (by decide) hL_pair) ?_
  rintro v d1 ⟨x, rfl, hp⟩
  refine aw_i2l dL_pair_10 ?_
  refine aw_lastN dL_pair_11 hp_190 (0) (by first | rfl | (simp only [li_0, li_1, li_2, li_3, li_4, li_5, li_7, li_8, li_9, li_11, li_12, li_16, li_17, li_31, li_32, li_60, li_77, li_80, li_89, li_99, li_101, li_112, li_113, li_256, li_999, li_1023, nI_add, pk_mul])) (by omega) (by decide)  ?_
  refine aw_goto (tgt := 23) dL_pair_12 (by decide) ?_
  refine aw_iconst (v := 0) dL_pair_23 (by decide) ?_
  exact aw_endI dL_pair_24 rfl (LO_n hp)

set_option maxHeartbeats 4000000 in
set_option maxRecDepth 100000 in
theorem kL_pair_t {y : Sy} {d : Dt} (hC : CC d y) {a b : Int32} : AC mL_pair 17 true (LO d (oPair y a b 11)) 4 24 [.ref 132, .int a, .int b, .int 0, .ref 190] (HP d) := by
  show AW mL_pair 17 true (LO d (oPair y a b 11)) 4 24 0 [(0, .ref 132), (1, .int a), (2, .int b), (3, .int 0), (4, .ref 190)] [] (HP d)
  refine aw_aload dL_pair_0 rfl ?_
  refine aw_iconst (v := 0) dL_pair_2 (by decide) ?_
  refine aw_aload_n dL_pair_3 rfl ?_
  refine aw_iload_n dL_pair_4 rfl ?_
  refine aw_iload_n dL_pair_5 rfl ?_
  refine aw_iload_n dL_pair_6 rfl ?_
  refine aw_tryV (M' := mX7_pair) dL_pair_7 rfl lL_48 oX7_pair vX7_pair (kX7_pair_t hC) rfl (hp_132 _) rfl rfl rfl (Nat.le_of_ble_eq_true rfl) (Nat.le_of_ble_eq_true rfl) (by decide) (Nat.le_refl _) (Nat.le_refl _) (LO_kx (by decide) hL_pair) ?_
  rintro v d1 ⟨x, rfl, hp⟩
  refine aw_i2l dL_pair_10 ?_
  refine aw_lastN dL_pair_11 hp_190 (0) (by first | rfl | (simp only [li_0, li_1, li_2, li_3, li_4, li_5, li_7, li_8, li_9, li_11, li_12, li_16, li_17, li_31, li_32, li_60, li_77, li_80, li_89, li_99, li_101, li_112, li_113, li_256, li_999, li_1023, nI_add, pk_mul])) (by omega) (by decide)  ?_
  refine aw_goto (tgt := 23) dL_pair_12 (by decide) ?_
  refine aw_iconst (v := 0) dL_pair_23 (by decide) ?_
  exact aw_endI dL_pair_24 rfl (LO_n hp)

theorem oL_time : MOH mL_time 5 := ⟨tbk4 78 rfl, tbk1 0 rfl, by decide +kernel, ⟨by decide +kernel, by decide +kernel⟩, by decide +kernel, by decide⟩
set_option maxHeartbeats 4000000 in
set_option maxRecDepth 100000 in
theorem hL_time : ∀ (i : Nat) (E : String), [exI][i]? = some E → HdE mL_time 7 E (nI (i + 1))
  | 0, _, rfl => ⟨[], [], (0, 12, 15, 19), rfl, (fun z h => by cases h), ⟨by decide, by decide⟩, by decide, cl_I, cs_I, Or.inr ⟨5, 1, dL_time_15, by decide, dL_time_17, by decide, dL_time_18⟩⟩
  | i + 1, E, h => by simp at h
set_option maxHeartbeats 4000000 in
set_option maxRecDepth 100000 in
theorem kL_time_t {y : Sy} {d : Dt} (hC : CC d y) {s m : Int32} : AC mL_time 17 true (LO d (oTime y s m true)) 4 24 [.ref 132, .int s, .int m, .int 1, .ref 190] (HP d) := by
  show AW mL_time 17 true (LO d (oTime y s m true)) 4 24 0 [(0, .ref 132), (1, .int s), (2, .int m), (3, .int 1), (4, .ref 190)] [] (HP d)
  refine aw_aload dL_time_0 rfl ?_
  refine aw_iconst (v := 0) dL_time_2 (by decide) ?_
  refine aw_aload_n dL_time_3 rfl ?_
  refine aw_iload_n dL_time_4 rfl ?_
  refine aw_iload_n dL_time_5 rfl ?_
  refine aw_iload_n dL_time_6 rfl ?_
  refine aw_tryV (M' := mX7_time) dL_time_7 rfl lL_76 oX7_time vX7_time (kX7_time_t hC) rfl (hp_132 _) rfl rfl rfl (Nat.le_of_ble_eq_true rfl) (Nat.le_of_ble_eq_true rfl) (by decide) (Nat.le_refl _) (Nat.le_refl _) (LO_kx (by decide) hL_time) ?_
  rintro v d1 ⟨x, rfl, hp⟩
  refine aw_i2l dL_time_10 ?_
  refine aw_lastN dL_time_11 hp_190 (0) (by first | rfl | (simp only [li_0, li_1, li_2, li_3, li_4, li_5, li_7, li_8, li_9, li_11, li_12, li_16, li_17, li_31, li_32, li_60, li_77, li_80, li_89, li_99, li_101, li_112, li_113, li_256, li_999, li_1023, nI_add, pk_mul])) (by omega) (by decide)  ?_
  refine aw_goto (tgt := 19) dL_time_12 (by decide) ?_
  refine aw_iconst (v := 0) dL_time_19 (by decide) ?_
  exact aw_endI dL_time_20 rfl (LO_n hp)

set_option maxHeartbeats 4000000 in
set_option maxRecDepth 100000 in
theorem kL_time_f {y : Sy} {d : Dt} (hC : CC d y) {s m : Int32} : AC mL_time 17 true (LO d (oTime y s m false)) 4 24 [.ref 132, .int s, .int m, .int 0, .ref 190] (HP d) := by
  show AW mL_time 17 true (LO d (oTime y s m false)) 4 24 0 [(0, .ref 132), (1, .int s), (2, .int m), (3, .int 0), (4, .ref 190)] [] (HP d)
  refine aw_aload dL_time_0 rfl ?_
  refine aw_iconst (v := 0) dL_time_2 (by decide) ?_
  refine aw_aload_n dL_time_3 rfl ?_
  refine aw_iload_n dL_time_4 rfl ?_
  refine aw_iload_n dL_time_5 rfl ?_
  refine aw_iload_n dL_time_6 rfl ?_
  refine aw_tryV (M' := mX7_time) dL_time_7 rfl lL_76 oX7_time vX7_time (kX7_time_f hC) rfl (hp_132 _) rfl rfl rfl (Nat.le_of_ble_eq_true rfl) (Nat.le_of_ble_eq_true rfl) (by decide) (Nat.le_refl _) (Nat.le_refl _) (LO_kx (by decide) hL_time) ?_
  rintro v d1 ⟨x, rfl, hp⟩
  refine aw_i2l dL_time_10 ?_
  refine aw_lastN dL_time_11 hp_190 (0) (by first | rfl | (simp only [li_0, li_1, li_2, li_3, li_4, li_5, li_7, li_8, li_9, li_11, li_12, li_16, li_17, li_31, li_32, li_60, li_77, li_80, li_89, li_99, li_101, li_112, li_113, li_256, li_999, li_1023, nI_add, pk_mul])) (by omega) (by decide)  ?_
  refine aw_goto (tgt := 19) dL_time_12 (by decide) ?_
  refine aw_iconst (v := 0) dL_time_19 (by decide) ?_
  exact aw_endI dL_time_20 rfl (LO_n hp)

theorem oL_ways : MOH mL_ways 3 := ⟨tbk4 231 rfl, tbk1 0 rfl, by decide +kernel, ⟨by decide +kernel, by decide +kernel⟩, by decide +kernel, by decide⟩
set_option maxHeartbeats 4000000 in
set_option maxRecDepth 100000 in
theorem hL_ways : ∀ (i : Nat) (E : String), [exA, exS][i]? = some E → HdE mL_ways 4 E (nI (i + 1))
  | 0, _, rfl => ⟨[], [(0, 8, 14, 34)], (0, 8, 11, 13), rfl, (fun z h => by cases h), ⟨by decide, by decide⟩, by decide, cl_A, cs_A, Or.inl ⟨3, 1, dL_ways_11, by decide, dL_ways_12, by decide, dL_ways_13⟩⟩
  | 1, _, rfl => ⟨[(0, 8, 11, 13)], [], (0, 8, 14, 34), rfl, (all_c ⟨by decide, exA, cl_A, nc_S_A⟩ all_n), ⟨by decide, by decide⟩, by decide, cl_S, cs_S, Or.inl ⟨3, 2, dL_ways_14, by decide, dL_ways_15, by decide, dL_ways_16⟩⟩
  | i + 2, E, h => by simp at h
set_option maxHeartbeats 4000000 in
set_option maxRecDepth 100000 in
theorem kL_ways {y : Sy} {d : Dt} (hC : CC d y) {s : Int32} : AC mL_ways 17 true (PIx (fun x d' => (fL d d' ∧ CC d' y) ∧ x = nI (oWays y s).1 ∧ ((oWays y s).1 = 0 → d'.2.1 190 0 = (oWays y s).2) ∧ (oWays y s).1 ≤ 9) nX) 4 24 [.ref 132, .int s, .ref 190] (HP d) := by
  show AW mL_ways 17 true (PIx (fun x d' => (fL d d' ∧ CC d' y) ∧ x = nI (oWays y s).1 ∧ ((oWays y s).1 = 0 → d'.2.1 190 0 = (oWays y s).2) ∧ (oWays y s).1 ≤ 9) nX) 4 24 0 [(0, .ref 132), (1, .int s), (2, .ref 190)] [] (HP d)
  refine aw_aload_n dL_ways_0 rfl ?_
  refine aw_iconst (v := 0) dL_ways_1 (by decide) ?_
  refine aw_aload_n dL_ways_2 rfl ?_
  refine aw_iload_n dL_ways_3 rfl ?_
  refine aw_tryV (M' := mX7_ways) dL_ways_4 rfl lL_97 oX7_ways vX7_ways (kX7_ways hC) rfl (hp_132 _) rfl rfl rfl (Nat.le_of_ble_eq_true rfl) (Nat.le_of_ble_eq_true rfl) (by decide) (Nat.le_refl _) (Nat.le_refl _) ?_ ?_
  · rintro E d1 ⟨h1, h2, h3, h4⟩
    exact ⟨_, hL_ways _ E h4, d1, rfl, _, rfl, ⟨fC_L h1, h2⟩, by rw [show (oWays y s).1 - 1 + 1 = (oWays y s).1 from Nat.sub_add_cancel (Nat.pos_of_ne_zero h3)], fun z => absurd z h3, by have h5 : (oWays y s).1 - 1 < 2 := (List.getElem?_eq_some_iff.mp h4).1; omega⟩
  rintro v d1 ⟨x, rfl, h1, h2, h3, h4⟩
  refine aw_lastN dL_ways_7 hp_190 (0) (by first | rfl | (simp only [li_0, li_1, li_2, li_3, li_4, li_5, li_7, li_8, li_9, li_11, li_12, li_16, li_17, li_31, li_32, li_60, li_77, li_80, li_89, li_99, li_101, li_112, li_113, li_256, li_999, li_1023, nI_add, pk_mul])) (by omega) (by decide)  ?_
  refine aw_goto (tgt := 17) dL_ways_8 (by decide) ?_
  refine aw_iconst (v := 0) dL_ways_17 (by decide) ?_
  exact aw_endI dL_ways_18 rfl ⟨⟨⟨fun i hi hn => ⟨(h1.1 i hi).1, by rw [dL_n _ _ hn]; exact (h1.1 i hi).2⟩, fun i _ => by show d1.2.2 i = _; rw [h1.2]⟩, h2⟩, by rw [h3]; rfl, fun _ => by rw [dL_s, h4]; rfl, by rw [h3]; decide⟩

theorem oL_efficiency : MOH mL_efficiency 2 := ⟨tbk4 135 rfl, tbk1 0 rfl, by decide +kernel, ⟨by decide +kernel, by decide +kernel⟩, by decide +kernel, by decide⟩
theorem cl_R : Cond.classLink RL 89 exR ∈ lw_tbl := by decide +kernel
theorem cs_R : Cond.castable exR exR ∈ lw_tbl := by decide +kernel
set_option maxHeartbeats 4000000 in
set_option maxRecDepth 100000 in
theorem hL_efficiency : ∀ (i : Nat) (E : String), [exR][i]? = some E → HdE mL_efficiency 3 E (nI (i + 1))
  | 0, _, rfl => ⟨[], [], (0, 8, 11, 89), rfl, (fun z h => by cases h), ⟨by decide, by decide⟩, by decide, cl_R, cs_R, Or.inl ⟨2, 1, dL_efficiency_11, by decide, dL_efficiency_12, by decide, dL_efficiency_13⟩⟩
  | i + 1, E, h => by simp at h
set_option maxHeartbeats 4000000 in
set_option maxRecDepth 100000 in
theorem kL_efficiency {y : Sy} {d : Dt} (hC : CC d y) : AC mL_efficiency 17 true (PIx (fun x d' => (fL d d' ∧ CC d' y) ∧ x = (if ovQ y.1 1 = 0 then 1 else 0) ∧ (ovQ y.1 1 ≠ 0 → d'.2.2 191 0 = FP.f2d (effV y.1))) nX) 4 24 [.ref 132, .ref 191] (HP d) := by
  show AW mL_efficiency 17 true (PIx (fun x d' => (fL d d' ∧ CC d' y) ∧ x = (if ovQ y.1 1 = 0 then 1 else 0) ∧ (ovQ y.1 1 ≠ 0 → d'.2.2 191 0 = FP.f2d (effV y.1))) nX) 4 24 0 [(0, .ref 132), (1, .ref 191)] [] (HP d)
  refine aw_aload_n dL_efficiency_0 rfl ?_
  refine aw_iconst (v := 0) dL_efficiency_1 (by decide) ?_
  refine aw_aload_n dL_efficiency_2 rfl ?_
  refine aw_tryV (M' := mX7_efficiency) dL_efficiency_3 rfl lL_85 oX7_efficiency vX7_efficiency (kX7_efficiency hC) rfl (hp_132 _) rfl rfl rfl (Nat.le_of_ble_eq_true rfl) (Nat.le_of_ble_eq_true rfl) (by decide) (Nat.le_refl _) (Nat.le_refl _) ?_ ?_
  · rintro E d1 ⟨h1, h2, h3, h4⟩
    have e0 : ovQ y.1 1 = 0 := by
      by_cases e : ovQ y.1 1 = 0
      · exact e
      · exact absurd (if_neg e) h3
    simp only [e0, if_true] at h4
    exact ⟨_, hL_efficiency _ E h4, d1, rfl, _, rfl, ⟨fC_L h1, h2⟩, by rw [if_pos e0]; rfl, fun z => absurd e0 z⟩
  rintro v d1 ⟨x, rfl, h1, h2, h3, h4⟩
  refine aw_f2d dL_efficiency_6 (by rw [h4]; exact effV_d hC.1.2 h3) ?_
  refine aw_dast dL_efficiency_7 (hp_191 _) rfl (by unfold vp_in; decide) ?_
  rw [HP_dD (f := fun j => if j = (0 : Int32).toNatClampNeg then FP.f2d x else d1.2.2 191 j) (by rw [hp_191]; simp [dD])]
  refine aw_goto (tgt := 14) dL_efficiency_8 (by decide) ?_
  refine aw_iconst (v := 0) dL_efficiency_14 (by decide) ?_
  refine aw_endI dL_efficiency_15 rfl ⟨⟨⟨fun i hi hn => h1.1 i hi, fun i hi => ?_⟩, h2⟩, by rw [if_neg h3], fun _ => ?_⟩
  · show (if i = 191 then _ else d1.2.2 i) = _
    rw [if_neg hi, h1.2]
  · rw [← h4]
    rfl
