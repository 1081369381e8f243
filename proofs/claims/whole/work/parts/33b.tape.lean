/-! the input, read as commands -/
def chA (T : List Nat) (a : Nat) : Nat := if a < T.length then T.getD a 0 else 0
/-- where the letters end -/
def wEnd (T : List Nat) : Nat → Nat → Nat
  | 0, a => a
  | f + 1, a => if a < T.length ∧ 97 ≤ T.getD a 0 ∧ T.getD a 0 ≤ 122 then wEnd T f (a + 1) else a
def wrd (w : Nat) : List Nat := match w with
  | 0 => [116, 97, 115, 107]
  | 1 => [98, 101, 102, 111, 114, 101]
  | 2 => [97, 112, 97, 114, 116]
  | 3 => [116, 111, 103, 101, 116, 104, 101, 114]
  | 4 => [112, 117, 116]
  | _ => [99, 121, 99, 108, 101]
def wIs (T : List Nat) (a e w : Nat) : Prop := (wrd w).length = e - a ∧ ∀ k, k < e - a → (wrd w).getD k 0 = T.getD (a + k) 0
/-- the first word from w on (f words more), 6: none -/
noncomputable def wNo (T : List Nat) (a e : Nat) : Nat → Nat
  | 0 => 6
  | f + 1 => @ite _ (wIs T a e (5 - f)) (Classical.propDecidable _) (5 - f) (wNo T a e f)
/-- digits: at most f more; the place behind them, and the number -/
def digs (T : List Nat) : Nat → Nat → Nat → Nat × Nat
  | 0, a, v => (a, v)
  | f + 1, a, v => if 48 ≤ chA T a ∧ chA T a ≤ 57 then digs T f (a + 1) (10 * v + (chA T a - 48)) else (a, v)
/-- a number: is it right, the place behind it, its value -/
def rdN (T : List Nat) (a : Nat) : Bool × Nat × Nat := if chA T a = 32 then (decide (a + 1 < (digs T 3 (a + 1) 0).1), digs T 3 (a + 1) 0) else (false, a, 0)
def nN (w : Nat) : Nat := if w = 0 then 4 else if w = 5 then 1 else 2
/-- the numbers from place i on (f more) -/
def rdNs (T : List Nat) : Nat → Nat → (Nat → Nat) → Nat → Bool × Nat × (Nat → Nat)
  | 0, a, v, _ => (true, a, v)
  | f + 1, a, v, i => if (rdN T a).1 = true then rdNs T f (rdN T a).2.1 (fun k => if k = i then (rdN T a).2.2 else v k) (i + 1) else (false, (rdN T a).2.1, v)
/-- a command: is it right, the place behind it, its word, its numbers -/
noncomputable def rdC (T : List Nat) (a : Nat) : Bool × Nat × Nat × (Nat → Nat) :=
  if wNo T a (wEnd T 80 a) 6 = 6 then (false, a, 6, fun _ => 0) else
    ((rdNs T (nN (wNo T a (wEnd T 80 a) 6)) (wEnd T 80 a) (fun _ => 0) 0).1, (rdNs T (nN (wNo T a (wEnd T 80 a) 6)) (wEnd T 80 a) (fun _ => 0) 0).2.1, wNo T a (wEnd T 80 a) 6, (rdNs T (nN (wNo T a (wEnd T 80 a) 6)) (wEnd T 80 a) (fun _ => 0) 0).2.2)
/-- commands, as far as they are right: at most f more -/
noncomputable def prs (T : List Nat) : Nat → Nat → Bool × Nat
  | 0, a => ((rdC T a).1, (rdC T a).2.1)
  | f + 1, a => if (rdC T a).1 = true ∧ chA T (rdC T a).2.1 = 59 then prs T f ((rdC T a).2.1 + 1) else ((rdC T a).1, (rdC T a).2.1)
noncomputable def doQ (q : St) (w c : Nat) (v : Nat → Nat) : In := match c with
  | 0 => iAdd q w (nI (v 0)) (nI (v 1)) (nI (v 2)) (nI (v 3))
  | 1 => iBef q w (nI (v 0)) (nI (v 1))
  | 2 => iPair q w (nI (v 0)) (nI (v 1)) 10
  | 3 => iPair q w (nI (v 0)) (nI (v 1)) 11
  | 4 => iAsg q w (nI (v 0)) (nI (v 1))
  | _ => iRule q w 0 (nI (v 0))
/-- the commands, carried out: none, or how many, the state and the reason -/
noncomputable def exe (T : List Nat) : Nat → Nat → St → Nat → Nat → Bool × Nat × St × Nat
  | 0, a, q, w, n => (if (doQ q w (rdC T a).2.2.1 (rdC T a).2.2.2).1 = 0 then (true, n + 1, (doQ q w (rdC T a).2.2.1 (rdC T a).2.2.2).2.2) else (false, n, q, (doQ q w (rdC T a).2.2.1 (rdC T a).2.2.2).2.2.2))
  | f + 1, a, q, w, n => (if (doQ q w (rdC T a).2.2.1 (rdC T a).2.2.2).1 = 0 then (if chA T (rdC T a).2.1 = 59 then exe T f ((rdC T a).2.1 + 1) (doQ q w (rdC T a).2.2.1 (rdC T a).2.2.2).2.2.1 (doQ q w (rdC T a).2.2.1 (rdC T a).2.2.2).2.2.2 (n + 1) else (true, n + 1, (doQ q w (rdC T a).2.2.1 (rdC T a).2.2.2).2.2)) else (false, n, q, (doQ q w (rdC T a).2.2.1 (rdC T a).2.2.2).2.2.2))
def noT (y : Sy) : Sy := (y.1, y.2.1, y.2.2.1, y.2.2.2.1, [])
noncomputable def oRead (y : Sy) : Out :=
  if (prs y.2.2.2.2 80 0).1 = true ∧ y.2.2.2.2.length ≤ (prs y.2.2.2.2 80 0).2 then
    (if (exe y.2.2.2.2 80 0 y.1 y.2.2.2.1 0).1 = true then (0, nI (exe y.2.2.2.2 80 0 y.1 y.2.2.2.1 0).2.1, noT (push2 y (exe y.2.2.2.2 80 0 y.1 y.2.2.2.1 0).2.2.1 (exe y.2.2.2.2 80 0 y.1 y.2.2.2.1 0).2.2.2))
      else (1, 0, noT (keep2 y y.1 (exe y.2.2.2.2 80 0 y.1 y.2.2.2.1 0).2.2.2)))
  else (0, -100 - nI (prs y.2.2.2.2 80 0).2, noT y)
/-! facts -/
theorem wEnd_ge (T : List Nat) : ∀ f a, a ≤ wEnd T f a := by
  intro f
  induction f with
  | zero => intro a; exact Nat.le_refl _
  | succ f ih =>
    intro a
    unfold wEnd
    split
    · exact Nat.le_trans (Nat.le_succ a) (ih (a + 1))
    · exact Nat.le_refl _
theorem wEnd_le (T : List Nat) : ∀ f a, a ≤ T.length → wEnd T f a ≤ T.length := by
  intro f
  induction f with
  | zero => intro a h; exact h
  | succ f ih =>
    intro a h
    unfold wEnd
    split
    · rename_i z; exact ih (a + 1) (by omega)
    · exact h
theorem digs_le (T : List Nat) : ∀ f a v, a ≤ T.length → a ≤ (digs T f a v).1 ∧ (digs T f a v).1 ≤ T.length ∧ (digs T f a v).1 ≤ a + f := by
  intro f
  induction f with
  | zero => intro a v h; exact ⟨Nat.le_refl _, h, Nat.le_refl _⟩
  | succ f ih =>
    intro a v h
    unfold digs
    split
    · rename_i z
      have hl : a < T.length := by
        rcases Nat.lt_or_ge a T.length with e | e
        · exact e
        · exfalso
          simp only [chA] at z
          rw [if_neg (by omega)] at z
          omega
      have := ih (a + 1) (10 * v + (chA T a - 48)) hl
      omega
    · exact ⟨Nat.le_refl _, h, by omega⟩
theorem digs_v (T : List Nat) : ∀ f a v m, v < m → (digs T f a v).2 < m * 10 ^ f := by
  intro f
  induction f with
  | zero => intro a v m h; simpa [digs] using h
  | succ f ih =>
    intro a v m h
    unfold digs
    split
    · have := ih (a + 1) (10 * v + (chA T a - 48)) (m * 10) (by omega)
      rw [Nat.pow_succ, Nat.mul_comm (10 ^ f) 10, ← Nat.mul_assoc]
      exact this
    · exact Nat.lt_of_lt_of_le h (Nat.le_mul_of_pos_right _ (Nat.pow_pos (by omega)))
theorem chA_pos {T : List Nat} {a : Nat} (h : chA T a ≠ 0) : a < T.length ∧ chA T a = T.getD a 0 := by
  rcases Nat.lt_or_ge a T.length with e | e
  · exact ⟨e, if_pos e⟩
  · exact absurd (if_neg (by omega)) h
theorem rdN_le {T : List Nat} {a : Nat} (h : a ≤ T.length) : a ≤ (rdN T a).2.1 ∧ (rdN T a).2.1 ≤ T.length ∧ (rdN T a).2.2 < 1000 ∧ ((rdN T a).1 = true → a < (rdN T a).2.1) := by
  unfold rdN
  split
  · rename_i z
    have h1 := (chA_pos (T := T) (a := a) (by omega)).1
    have h2 := digs_le T 3 (a + 1) 0 h1
    have h3 := digs_v T 3 (a + 1) 0 1 (by omega)
    refine ⟨by show a ≤ (digs T 3 (a + 1) 0).1; omega, h2.2.1, by show (digs T 3 (a + 1) 0).2 < 1000; omega, fun _ => by show a < (digs T 3 (a + 1) 0).1; omega⟩
  · exact ⟨Nat.le_refl _, h, by show 0 < 1000; omega, fun z => by cases z⟩
theorem rdNs_le {T : List Nat} : ∀ f a (v : Nat → Nat) i, a ≤ T.length → (∀ k, v k < 1000) → a ≤ (rdNs T f a v i).2.1 ∧ (rdNs T f a v i).2.1 ≤ T.length ∧ ∀ k, (rdNs T f a v i).2.2 k < 1000 := by
  intro f
  induction f with
  | zero => intro a v i h hv; exact ⟨Nat.le_refl _, h, hv⟩
  | succ f ih =>
    intro a v i h hv
    have hN := rdN_le h
    unfold rdNs
    split
    · have := ih (rdN T a).2.1 (fun k => if k = i then (rdN T a).2.2 else v k) (i + 1) hN.2.1 (fun k => by
        show (if k = i then (rdN T a).2.2 else v k) < 1000
        split
        · exact hN.2.2.1
        · exact hv k)
      exact ⟨Nat.le_trans hN.1 this.1, this.2⟩
    · exact ⟨hN.1, hN.2.1, hv⟩
theorem wNo_spec {T : List Nat} {a e : Nat} : ∀ f, f ≤ 6 → wNo T a e f ≤ 6 ∧ (wNo T a e f < 6 → wIs T a e (wNo T a e f)) := by
  intro f
  induction f with
  | zero => intro _; exact ⟨Nat.le_refl _, fun z => absurd z (Nat.lt_irrefl _)⟩
  | succ f ih =>
    intro hf
    by_cases h : wIs T a e (5 - f)
    · have e1 : wNo T a e (f + 1) = 5 - f := if_pos h
      rw [e1]
      exact ⟨by omega, fun _ => h⟩
    · have e1 : wNo T a e (f + 1) = wNo T a e f := if_neg h
      rw [e1]
      exact ih (by omega)
theorem wrd_len (w : Nat) : 3 ≤ (wrd w).length := by
  unfold wrd
  split <;> decide
theorem rdC_le {T : List Nat} {a : Nat} (h : a ≤ T.length) : a ≤ (rdC T a).2.1 ∧ (rdC T a).2.1 ≤ T.length ∧ (∀ k, (rdC T a).2.2.2 k < 1000) ∧ ((rdC T a).1 = true → a < (rdC T a).2.1 ∧ (rdC T a).2.2.1 < 6) := by
  have h1 := wEnd_ge T 80 a
  have h2 := wEnd_le T 80 a h
  have h3 := @wNo_spec T a (wEnd T 80 a) 6 (Nat.le_refl _)
  unfold rdC
  split
  · exact ⟨Nat.le_refl _, h, fun k => by show 0 < 1000; omega, fun z => by cases z⟩
  · rename_i hw
    have h4 := rdNs_le (nN (wNo T a (wEnd T 80 a) 6)) (wEnd T 80 a) (fun _ => 0) 0 h2 (fun _ => by omega)
    have h5 := (h3.2 (by omega)).1
    have h6 := wrd_len (wNo T a (wEnd T 80 a) 6)
    exact ⟨Nat.le_trans h1 h4.1, h4.2.1, h4.2.2, fun _ => ⟨by show a < (rdNs T _ _ _ _).2.1; omega, by show wNo T a (wEnd T 80 a) 6 < 6; omega⟩⟩
