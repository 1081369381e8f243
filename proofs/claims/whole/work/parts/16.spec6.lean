def anyB : Nat → (Nat → Bool) → Bool
  | 0, _ => false
  | n + 1, f => anyB n f || f n
theorem anyB_iff {n : Nat} {f : Nat → Bool} : anyB n f = true ↔ ∃ k, k < n ∧ f k = true := by
  induction n with
  | zero => simp [anyB]
  | succ n ih =>
    simp only [anyB, Bool.or_eq_true, ih]
    constructor
    · rintro (⟨k, h1, h2⟩ | h)
      · exact ⟨k, by omega, h2⟩
      · exact ⟨n, by omega, h⟩
    · rintro ⟨k, h1, h2⟩
      by_cases e : k = n
      · exact Or.inr (e ▸ h2)
      · exact Or.inl ⟨k, by omega, h2⟩
theorem pv_lt0 {p : Nat} (hp : p ≤ 8) : pv p < 0 ↔ p = 0 := by
  unfold pv
  split
  · rename_i h; simp [h]
  · rename_i h
    rw [Int32.lt_iff_toInt_lt, nI_toInt (by omega), Int32.toInt_zero]
    omega
theorem pv_le {p s : Nat} (hp : p ≤ 8) (hs : s < 100) : pv p ≤ nI s ↔ p ≤ s + 1 := by
  unfold pv
  split
  · rename_i h
    rw [Int32.le_iff_toInt_le, nI_toInt (by omega), show (-1 : Int32).toInt = -1 from by decide]
    omega
  · rw [nI_leI (by omega) (by omega)]
    omega
theorem pv_ge {p s : Nat} (hp : p ≤ 8) (hs : s < 100) : nI s ≤ pv p ↔ s + 1 ≤ p := by
  unfold pv
  split
  · rename_i h
    rw [Int32.le_iff_toInt_le, nI_toInt (by omega), show (-1 : Int32).toInt = -1 from by decide]
    omega
  · rw [nI_leI (by omega) (by omega)]
    omega
theorem pv_m1 {p : Nat} (hp : p ≤ 8) : pv p = -1 ↔ p = 0 := by
  unfold pv
  split
  · rename_i h; simp [h]
  · rename_i h
    constructor
    · intro z; exact absurd z.symm (m1_ne0 (by omega))
    · intro z; exact absurd z h
/-! refusals -/
def hiF (q : St) (t s k : Nat) : Bool := (q 8 t).testBit k && decide (s + 1 < q 6 k)
def loF (q : St) (t s k : Nat) : Bool := (q 9 t).testBit k && decide (1 ≤ q 6 k ∧ q 6 k ≤ s)
def toF (q : St) (t s k : Nat) : Bool := (q 11 t).testBit k && decide (1 ≤ q 6 k ∧ q 6 k ≠ s + 1)
def refQ (q : St) (t s : Nat) : Nat :=
  if anyB (q 0 1) (hiF q t s) = true then 1 else if anyB (q 0 1) (loF q t s) = true then 2 else if q 10 t &&& (stn q s ||| 2 ^ t) ≠ 0 then 3 else if anyB (q 0 1) (toF q t s) = true then 4
  else if q 2 2 < pc (tls q (stn q s ||| 2 ^ t)) then 5 else if fitB q (stn q s ||| 2 ^ t) (q 3 s) = true then 0 else 6
theorem refQ_le (q : St) (t s : Nat) : refQ q t s ≤ 6 := by
  unfold refQ
  repeat' split
  all_goals omega
/-- the lowest station that doesn't refuse, and one; 0: none -/
def lowQ (q : St) (t : Nat) : Nat → Nat
  | 0 => 0
  | k + 1 => if refQ q t (7 - k) = 0 then 8 - k else lowQ q t k
def mostQ (q : St) (s : Nat) : Nat := q 3 s * q 2 0 * td q
def lackV (q : St) (s : Nat) : Int32 := nI (mostQ q s) - nI (ld q (stn q s))
def buQ (q : St) : Nat → Nat
  | 0 => 0
  | s + 1 => if ld q (stn q (buQ q s)) * q 3 (s + 1) < ld q (stn q (s + 1)) * q 3 (buQ q s) then s + 1 else buQ q s
def rfdQ (q : St) : Nat := sN (q 0 1) (fun t => if 1 ≤ q 6 t ∧ refQ q t (q 6 t - 1) ≠ 0 then 1 else 0)
def ovF (q : St) (w s : Nat) : Nat := match w with
  | 0 => if stn q s ≠ 0 then 1 else 0
  | 1 => if stn q s ≠ 0 then q 3 s else 0
  | 2 => pc (stn q s)
  | 4 => ld q (stn q s)
  | _ => if fitB q (stn q s) (q 3 s) = true then 0 else 1
def ovQ (q : St) (w : Nat) : Nat := sN 8 (ovF q w)
def freQ (q : St) : Nat := oN (q 0 1) (fun t => if q 6 t = 0 then 2 ^ t else 0)
/-- the task that is filled next, and one; 0: none -/
def ntQ (q : St) (p : Nat) : Nat → Nat
  | 0 => 0
  | j + 1 => if (freQ q).testBit j = true ∧ q 8 j &&& freQ q = 0 ∧ (ntQ q p j = 0 ∨ prio q (ntQ q p j - 1) p < prio q j p) then j + 1 else ntQ q p j
theorem or_p2_lt {a n t : Nat} (ha : a < 2 ^ n) (ht : t < n) : a ||| 2 ^ t < 2 ^ n := Nat.or_lt_two_pow ha (Nat.pow_lt_pow_right (by omega) ht)
theorem wt_le {q : St} (ok : QOK q) {t : Nat} (ht : t < 12) : wt q t ≤ 2673 := by
  have h : wt q t ≤ q 0 0 * (9 * 99) := sN_le fun m hm => Nat.mul_le_mul (ok.2.2.1 m (by have := ok.1.2; omega)).2 (ok.2.2.2.2.2.1 _ (by have := ok.1.2; omega))
  have h2 : q 0 0 * (9 * 99) ≤ 3 * (9 * 99) := Nat.mul_le_mul_right _ ok.1.2
  omega
theorem wts_le {q : St} (ok : QOK q) (s : Nat) : wts q s ≤ 32076 := by
  have h : wts q s ≤ q 0 1 * 2673 := sN_le fun t ht => by
    split
    · exact wt_le ok (by have := ok.2.1; omega)
    · omega
  have h2 : q 0 1 * 2673 ≤ 12 * 2673 := Nat.mul_le_mul_right _ ok.2.1
  omega
theorem pc_le32 (a : Nat) : pc a ≤ 32 := sN_le (n := 32) (b := 1) (f := fun k => if a.testBit k = true then 1 else 0) (fun k _ => by split <;> omega)
theorem prio_le {q : St} (ok : QOK q) {t : Nat} (ht : t < 12) (p : Nat) : prio q t p ≤ 40000 := by
  have h1 := wt_le ok ht
  have h2 := wts_le ok (q 9 t)
  have h3 := pc_le32 (q 9 t)
  unfold prio
  split <;> omega
theorem buQ_lt (q : St) {j : Nat} (h : j ≤ 7) : buQ q j ≤ j := by
  induction j with
  | zero => exact Nat.le_refl _
  | succ j ih =>
    unfold buQ
    split
    · omega
    · have := ih (by omega); omega
