/-! counts of the line -/
theorem sN_swap {m : Nat} {f : Nat → Nat → Nat} : ∀ n, sN n (fun i => sN m (f i)) = sN m (fun j => sN n (fun i => f i j)) := by
  intro n
  induction n with
  | zero =>
    show 0 = sN m (fun j => 0)
    have := sN_le (n := m) (b := 0) (f := fun _ => 0) (fun _ _ => Nat.le_refl _)
    omega
  | succ n ih =>
    show sN n (fun i => sN m (f i)) + sN m (f n) = sN m (fun j => sN n (fun i => f i j) + f n j)
    rw [sN_add, ih]
def bTk (S k : Nat) : Nat := if S.testBit k = true then 1 else 0
theorem pc_bT {S : Nat} (h : S < 4096) : pc S = sN 12 (bTk S) := sN_cut (n := 12) (m := 32) (by omega) (fun k h1 h2 => if_neg (fun z => by
  have h3 : S < 2 ^ k := Nat.lt_of_lt_of_le h (Nat.pow_le_pow_right (n := 2) (by omega) h1)
  rw [Nat.testBit_lt_two_pow h3] at z
  cases z))
theorem one8 : ∀ v, v < 9 → sN 8 (fun s => if v = s + 1 then 1 else 0) = if v ≠ 0 then 1 else 0 := by decide +kernel
theorem stn_bit {q : St} {s k : Nat} : (stn q s).testBit k = true ↔ k < 12 ∧ q 6 k = s + 1 := oN_p
theorem pc_tiI {q : St} (ok : QOK q) : pc (tiI q 0 7) = ovQ q 2 := by
  have h1 : ovQ q 2 = sN 8 (fun s => sN 12 (bTk (stn q s))) := sN_congr fun s hs => pc_bT (Nat.lt_of_lt_of_le (stn_lt ok s) (pow12 ok.2.1))
  rw [h1, sN_swap, pc_bT (tiI_lt _ _ _)]
  refine sN_congr fun k hk => ?_
  have h2 : sN 8 (fun s => bTk (stn q s) k) = sN 8 (fun s => if q 6 k = s + 1 then 1 else 0) := sN_congr fun s hs => by
    unfold bTk
    by_cases e : q 6 k = s + 1
    · rw [if_pos e, if_pos (stn_bit.mpr ⟨hk, e⟩)]
    · rw [if_neg e, if_neg (fun z => e (stn_bit.mp z).2)]
  rw [h2, one8 _ (by have := (ok.2.2.2.2.2.2.1 k hk).2; omega)]
  unfold bTk
  by_cases e : q 6 k ≠ 0
  · rw [if_pos e, if_pos ((tiI_pl ok).mpr ⟨hk, e⟩)]
  · rw [if_neg e, if_neg (fun z => e ((tiI_pl ok).mp z).2)]
theorem b4095 : ∀ t, t < 12 → (4095 : Nat).testBit t = true := by decide +kernel
theorem wts_all {q : St} (ok : QOK q) : wts q 4095 = sN (q 0 1) (wt q) := sN_congr fun t ht => if_pos (b4095 t (by have := ok.2.1; omega))
theorem wts_pl {q : St} (ok : QOK q) : wts q (tiI q 0 7) = effA q := sN_congr fun t ht => by
  have h12 := ok.2.1
  by_cases e : q 6 t = 0
  · rw [if_pos e, if_neg (fun z => ((tiI_pl ok).mp z).2 e)]
  · rw [if_neg e, if_pos ((tiI_pl ok).mpr ⟨by omega, e⟩)]
