/-! THE CLASS'S CALLS: what each gives, and what it throws -/
def exI : String := "java/lang/IndexOutOfBoundsException"
def exA : String := "java/lang/IllegalArgumentException"
def exS : String := "java/lang/IllegalStateException"
def exU : String := "java/lang/UnsupportedOperationException"
def exE : String := "java/util/NoSuchElementException"
def exR : String := "java/lang/ArithmeticException"
def PO (d : Dt) (o : Out) : Int32 → Dt → Prop := fun x d' => fC d d' ∧ CC d' o.2.2 ∧ o.1 = 0 ∧ x = o.2.1
def XO (d : Dt) (es : List String) (o : Out) : String → Dt → Prop := fun E d' => fC d d' ∧ CC d' o.2.2 ∧ o.1 ≠ 0 ∧ es[o.1 - 1]? = some E
def AO (M : MI) (dep : Nat) (as : List Value) (d : Dt) (es : List String) (o : Out) : Prop := AC M dep true (PIx (PO d o) (XO d es o)) 4 24 as (HP d)
def CK (M : MI) (E : String) (x : Int32) : Prop := ∀ d, AC M 6 true (PVx (fun d' => ¬ x = 0 ∧ d' = d) (fun E' d' => x = 0 ∧ E' = E ∧ d' = d)) 1 6 [.int x] (HP d)
section AWX
variable {M M' : MI} {dep dep' : Nat} {k n pc na idx : Nat} {lv : List (Nat × Value)} {st stk as : List Value} {d : Dt}
theorem aw_ck {E : String} {x : Int32} {P : Option Value → Dt → Prop} {X : String → Dt → Prop} (dc : decode M.2.1 pc = .ok (.invokestatic idx, 3)) (ho : MO M' 1) (hv : MS M') (ht0 : M.2.2.2.2 = []) (hl0 : Cond.methodLink M.1.cls idx M'.1 ∈ lw_tbl) (hA : CK M' E x) (hlen : (lg_sl [Value.int x]).length ≤ M'.2.2.1) (hd : 7 ≤ dep) (hcat : (st.map fun v => v.category).sum ≤ 8) (hk : 1 ≤ k) (hn : 6 ≤ n) (kx : x = 0 → X E d) (kk : ¬ x = 0 → AW M dep true (PX P X) (k - 1) (n - 6) (pc + 3) lv st (HP d)) : AW M dep true (PX P X) k n pc lv (.int x :: st) (HP d) :=
  aw_callS dc ht0 hl0 ho hv (hA d) rfl rfl hlen hd hcat hk hn (fun _ => rfl) PX_dom (Or.inl rfl) (by rintro v h' ⟨d', rfl, rfl, h1, rfl⟩; exact kk h1) (by rintro E' h' ⟨d', rfl, h1, rfl, rfl⟩; exact ⟨_, rfl, kx h1⟩)
end AWX
set_option maxRecDepth 100000 in
theorem kX7_checkArgument {x : Int32} : CK mX7_checkArgument exA x := by
  intro d
  show AW mX7_checkArgument 6 true (PVx (fun d' => ¬ x = 0 ∧ d' = d) (fun E' d' => x = 0 ∧ E' = exA ∧ d' = d)) 1 6 0 [(0, .int x)] [] (HP d)
  refine aw_iload_n dX7_checkArgument_0 rfl ?_
  refine aw_if_ne 15 dX7_checkArgument_1 (by decide) (fun c1 => ?_) (fun c1 => ?_)
  · exact aw_endV dX7_checkArgument_15 rfl ⟨c1, rfl⟩
  · exact aw_throw rfl tw_argument dX7_checkArgument_4 dX7_checkArgument_7 dX7_checkArgument_8 dX7_checkArgument_11 dX7_checkArgument_14 (by decide) (by decide) (Nat.le_refl _) (Nat.le_refl _) ⟨d, rfl, c1, rfl, rfl⟩
theorem kX7_checkIndex {x : Int32} : CK mX7_checkIndex exI x := by
  intro d
  show AW mX7_checkIndex 6 true (PVx (fun d' => ¬ x = 0 ∧ d' = d) (fun E' d' => x = 0 ∧ E' = exI ∧ d' = d)) 1 6 0 [(0, .int x)] [] (HP d)
  refine aw_iload_n dX7_checkIndex_0 rfl ?_
  refine aw_if_ne 15 dX7_checkIndex_1 (by decide) (fun c1 => ?_) (fun c1 => ?_)
  · exact aw_endV dX7_checkIndex_15 rfl ⟨c1, rfl⟩
  · exact aw_throw rfl tw_index dX7_checkIndex_4 dX7_checkIndex_7 dX7_checkIndex_8 dX7_checkIndex_11 dX7_checkIndex_14 (by decide) (by decide) (Nat.le_refl _) (Nat.le_refl _) ⟨d, rfl, c1, rfl, rfl⟩
theorem kX7_checkState {x : Int32} : CK mX7_checkState exS x := by
  intro d
  show AW mX7_checkState 6 true (PVx (fun d' => ¬ x = 0 ∧ d' = d) (fun E' d' => x = 0 ∧ E' = exS ∧ d' = d)) 1 6 0 [(0, .int x)] [] (HP d)
  refine aw_iload_n dX7_checkState_0 rfl ?_
  refine aw_if_ne 15 dX7_checkState_1 (by decide) (fun c1 => ?_) (fun c1 => ?_)
  · exact aw_endV dX7_checkState_15 rfl ⟨c1, rfl⟩
  · exact aw_throw rfl tw_state dX7_checkState_4 dX7_checkState_7 dX7_checkState_8 dX7_checkState_11 dX7_checkState_14 (by decide) (by decide) (Nat.le_refl _) (Nat.le_refl _) ⟨d, rfl, c1, rfl, rfl⟩
theorem kX7_checkSupported {x : Int32} : CK mX7_checkSupported exU x := by
  intro d
  show AW mX7_checkSupported 6 true (PVx (fun d' => ¬ x = 0 ∧ d' = d) (fun E' d' => x = 0 ∧ E' = exU ∧ d' = d)) 1 6 0 [(0, .int x)] [] (HP d)
  refine aw_iload_n dX7_checkSupported_0 rfl ?_
  refine aw_if_ne 15 dX7_checkSupported_1 (by decide) (fun c1 => ?_) (fun c1 => ?_)
  · exact aw_endV dX7_checkSupported_15 rfl ⟨c1, rfl⟩
  · exact aw_throw rfl tw_supported dX7_checkSupported_4 dX7_checkSupported_7 dX7_checkSupported_8 dX7_checkSupported_11 dX7_checkSupported_14 (by decide) (by decide) (Nat.le_refl _) (Nat.le_refl _) ⟨d, rfl, c1, rfl, rfl⟩
theorem PO_ch {d0 d1 d2 : Dt} {y : Sy} {q : St} {w : Nat} {x v : Int32} (h : CC d1 (push2 y y.1 w)) (f : fC d0 d1) (g : fNW d1 d2) (hs : KS 0 d2 q) (ok : QOK q) (hx : x = v) : PO d0 (0, v, push2 y q w) x d2 := ⟨fC_t f (fNW_C g), CC_N h g hs ok, rfl, hx⟩
