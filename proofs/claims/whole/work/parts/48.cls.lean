/-! THE CLASS HOLDS A SYSTEM -/
def fC (d d' : Dt) : Prop := (∀ i, 160 ≤ i → d'.1 i = d.1 i ∧ d'.2.1 i = d.2.1 i) ∧ d'.2.2 = d.2.2
theorem fC_r (d : Dt) : fC d d := ⟨fun _ _ => ⟨rfl, rfl⟩, rfl⟩
theorem fC_t {a b c : Dt} (h : fC a b) (g : fC b c) : fC a c := ⟨fun i hi => ⟨(g.1 i hi).1.trans (h.1 i hi).1, (g.1 i hi).2.trans (h.1 i hi).2⟩, g.2.trans h.2⟩
theorem fC_dI {d d' : Dt} (h : fC d d') {i : Nat} (hi : i < 160) (f : Nat → Int32) : fC d (dI d' i f) := ⟨fun j hj => ⟨by rw [dI_n _ _ (by omega)]; exact (h.1 j hj).1, (h.1 j hj).2⟩, h.2⟩
theorem fN_C {d d' : Dt} (h : fN d d') : fC d d' := ⟨fun i hi => ⟨h.2 i (by omega), by rw [h.1]⟩, by rw [h.1]⟩
theorem fNW_C {d d' : Dt} (h : fNW d d') : fC d d' := ⟨fun i hi => ⟨h.2 i (by omega) (by omega), by rw [h.1]⟩, by rw [h.1]⟩
theorem fW_C {d d' : Dt} (h : fW 134 d d') : fC d d' := fNW_C (fW_NW h)
theorem fP_C {d d' : Dt} (h : fP d d') : fC d d' := ⟨fun i hi => ⟨h.1 i (by omega), h.2.1 i (by omega)⟩, h.2.2⟩
def HC (d : Dt) (L : List St) : Prop := ∃ nx, nx < 9 ∧ d.1 148 1 = nI nx ∧ d.1 148 2 = nI L.length ∧ L.length ≤ 8 ∧ ∀ i p, L[i]? = some p → KS (12 * (2 + (nx + 8 - i) % 9)) d p ∧ QOK p
def SC (d : Dt) : Option St → Prop
  | none => d.1 132 6 = 0
  | some p => d.1 132 6 = 1 ∧ KS 12 d p ∧ QOK p
def CC (d : Dt) (y : Sy) : Prop := (KS 0 d y.1 ∧ QOK y.1) ∧ HC d y.2.1 ∧ SC d y.2.2.1 ∧ (d.1 132 7 = nI y.2.2.2.1 ∧ y.2.2.2.1 ≤ 6) ∧ TP (d.1 151) (d.1 150 2) y.2.2.2.2
/-- what a call's other cells are to it -/
theorem HC_k {d d' : Dt} {L : List St} (h : HC d L) (e : ∀ i, 24 ≤ i → i < 132 → d'.1 i = d.1 i) (e2 : d'.1 148 = d.1 148) : HC d' L := by
  obtain ⟨nx, h1, h2, h3, h4, h5⟩ := h
  refine ⟨nx, h1, by rw [e2]; exact h2, by rw [e2]; exact h3, h4, fun i p hp => ⟨KS_k (h5 i p hp).1 (fun j hj => e _ (by omega) (by omega)), (h5 i p hp).2⟩⟩
theorem SC_k {d d' : Dt} {s : Option St} (h : SC d s) (e : ∀ i, 12 ≤ i → i < 24 → d'.1 i = d.1 i) (e2 : d'.1 132 6 = d.1 132 6) : SC d' s := by
  cases s with
  | none => exact e2.trans h
  | some p => exact ⟨e2.trans h.1, KS_k h.2.1 (fun j hj => e _ (by omega) (by omega)), h.2.2⟩
theorem CC_k {d d' : Dt} {y : Sy} (h : CC d y) (e : ∀ i, i < 133 ∨ i = 148 ∨ i = 150 ∨ i = 151 → d'.1 i = d.1 i) : CC d' y := by
  obtain ⟨⟨h1, h2⟩, h3, h4, h5, h6⟩ := h
  exact ⟨⟨KS_k h1 (fun j hj => e _ (by omega)), h2⟩, HC_k h3 (fun i _ _ => e i (by omega)) (e 148 (by omega)), SC_k h4 (fun i _ _ => e i (by omega)) (by rw [e 132 (by omega)]), by rw [e 132 (by omega)]; exact h5, by rw [e 150 (by omega), e 151 (by omega)]; exact h6⟩
theorem CC_W {d d' : Dt} {y : Sy} (h : CC d y) (g : fW 134 d d') : CC d' y := CC_k h (fun i hi => g.2 i (by omega))
theorem CC_P {d d' : Dt} {y : Sy} (h : CC d y) (g : fP d d') : CC d' y := CC_k h (fun i hi => g.1 i (by omega))
theorem CC_N {d d' : Dt} {y : Sy} {q : St} (h : CC d y) (g : fNW d d') (hs : KS 0 d' q) (ok : QOK q) : CC d' (q, y.2) := by
  obtain ⟨⟨h1, h2⟩, h3, h4, h5, h6⟩ := h
  exact ⟨⟨hs, ok⟩, HC_k h3 (fun i a b => g.2 i (by omega) (by omega)) (g.2 148 (by decide) (by decide)), SC_k h4 (fun i a b => g.2 i (by omega) (by omega)) (by rw [g.2 132 (by decide) (by decide)]), by rw [g.2 132 (by decide) (by decide)]; exact h5, by rw [g.2 150 (by decide) (by decide), g.2 151 (by decide) (by decide)]; exact h6⟩
/-- a state more in the history -/
theorem mod_in {nx i : Nat} (h : nx < 9) : (nx + 8 - i) % 9 < 9 := Nat.mod_lt _ (by omega)
theorem HC_push {d d1 d2 : Dt} {L : List St} {q : St} {nx : Nat} (h1 : nx < 9) (h3 : L.length ≤ 8) (h5 : ∀ i p, L[i]? = some p → KS (12 * (2 + (nx + 8 - i) % 9)) d p ∧ QOK p) (hq : KS (12 * 0) d q) (ok : QOK q) (hc : CPk 11 (2 + nx) 0 d d1) (e : ∀ i, 24 ≤ i → i < 132 → d2.1 i = d1.1 i) (n1 : d2.1 148 1 = nI (if nx + 1 < 9 then nx + 1 else 0)) (n2 : d2.1 148 2 = nI (if L.length + 1 ≤ 8 then L.length + 1 else 8)) : HC d2 ((q :: L).take 8) := by
  have hl : ((q :: L).take 8).length = (if L.length + 1 ≤ 8 then L.length + 1 else 8) := by
    rw [List.length_take, List.length_cons]
    split <;> omega
  refine ⟨if nx + 1 < 9 then nx + 1 else 0, by split <;> omega, n1, by rw [hl]; exact n2, by rw [hl]; split <;> omega, fun i p hp => ?_⟩
  rw [List.getElem?_take] at hp
  split at hp
  · rename_i hi8
    have hm : ∀ j, (if nx + 1 < 9 then nx + 1 else 0) + 8 - j ≤ 16 := fun j => by split <;> omega
    cases i with
    | zero =>
      rw [List.getElem?_cons_zero] at hp
      cases hp
      have e1 : ((if nx + 1 < 9 then nx + 1 else 0) + 8 - 0) % 9 = nx := by split <;> omega
      rw [e1]
      exact ⟨KS_k (CP_KS hc hq) (fun j hj => e _ (by omega) (by omega)), ok⟩
    | succ i =>
      rw [List.getElem?_cons_succ] at hp
      have hil : i < L.length := (List.getElem?_eq_some_iff.mp hp).1
      have e1 : ((if nx + 1 < 9 then nx + 1 else 0) + 8 - (i + 1)) % 9 = (nx + 8 - i) % 9 := by split <;> omega
      rw [e1]
      have hb := mod_in (i := i) h1
      have hne : (nx + 8 - i) % 9 ≠ nx := by omega
      refine ⟨KS_k (h5 i p hp).1 (fun j hj => ?_), (h5 i p hp).2⟩
      rw [e _ (by omega) (by omega)]
      exact hc.2.1 _ (by omega)
  · cases hp
theorem CP_out {a b : Nat} {d d' : Dt} (h : CPk 11 a b d d') {i : Nat} (hi : i < 12 * a ∨ 12 * a + 11 < i) : d'.1 i = d.1 i := h.2.1 i (by omega)
