/-! drop, least -/
theorem dr_0 {b : Bool} {p : Nat} : (if b = true then 1 else 0) + (if p ≠ 0 then 2 else 0) = 0 ↔ (b = false ∧ p = 0) := by
  cases b <;> by_cases h : p = 0 <;> simp [h]
theorem lst_lt0 {v : Nat} (h : v ≤ 9) : pv v < 0 ↔ v = 0 := by
  by_cases e : v = 0
  · subst e
    exact ⟨fun _ => rfl, fun _ => by decide⟩
  · refine ⟨fun z => ?_, fun z => absurd z e⟩
    rw [show pv v = nI (v - 1) from if_neg e] at z
    have := (lt_nI (rfl : nI (v - 1) = _) (show (0 : Int32) = nI 0 from rfl) (by omega) (by omega)).mp z
    omega
