/-! THE VALUE: what a state is, in numbers. q 0 0 models, q 0 1 tasks, q 1 demands, q 2 rules, q 3 copies, q 4 times (3 t + m), q 5 tools, q 6 stations and one (0: none), q 7 direct, q 8 ahead, q 9 behind, q 10 apart, q 11 together (sets as bits) -/
abbrev St : Type := Nat → Nat → Nat
/-- a station as it is stored -/
def pv (p : Nat) : Int32 := if p = 0 then -1 else nI (p - 1)
def sN : Nat → (Nat → Nat) → Nat
  | 0, _ => 0
  | n + 1, f => sN n f + f n
def oN : Nat → (Nat → Nat) → Nat
  | 0, _ => 0
  | n + 1, f => oN n f ||| f n
/-- x's bit k, as the code asks for it -/
def hb (x k : Int32) : Bool := decide ((x >>> (k &&& 31)) &&& 1 = 1)
theorem and1_cases (x : Int32) : x &&& 1 = 0 ∨ x &&& 1 = 1 := by
  have h : (x &&& 1).toBitVec = x.toBitVec &&& 1#32 := rfl
  have e : x.toBitVec &&& 1#32 = 0#32 ∨ x.toBitVec &&& 1#32 = 1#32 := by
    generalize x.toBitVec = b
    have hb : (b &&& 1#32).toNat = b.toNat % 2 := by
      rw [BitVec.toNat_and]
      exact Nat.and_one_is_mod _
    rcases Nat.mod_two_eq_zero_or_one b.toNat with q | q
    · exact Or.inl (BitVec.eq_of_toNat_eq (by rw [hb, q]; rfl))
    · exact Or.inr (BitVec.eq_of_toNat_eq (by rw [hb, q]; rfl))
  rcases e with q | q
  · exact Or.inl (Int32.toBitVec_inj.mp (by rw [h, q]; rfl))
  · exact Or.inr (Int32.toBitVec_inj.mp (by rw [h, q]; rfl))
theorem hb_ne (x k : Int32) : ((x >>> (k &&& 31)) &&& 1 ≠ 0) ↔ hb x k = true := by
  unfold hb
  rcases and1_cases (x >>> (k &&& 31)) with q | q <;> rw [q] <;> decide
theorem sh_l : ∀ n, n < 32 → ((nI n &&& 31).toBitVec.smod 32).toNat = n := by decide +kernel
theorem hb_nI {a k : Nat} (ha : a < 2 ^ 31) (hk : k < 32) : hb (nI a) (nI k) = a.testBit k := by
  unfold hb
  rw [pk_shrN ha (nI k &&& 31) k (sh_l k hk)]
  have h1 : a / 2 ^ k < 2 ^ 32 := Nat.lt_of_le_of_lt (Nat.div_le_self _ _) (by omega)
  have h2 : nI (a / 2 ^ k) &&& 1 = nI (a / 2 ^ k % 2 ^ 1) := pk_andN h1 1 (by decide)
  rw [h2, Nat.testBit_eq_decide_div_mod_eq]
  have h3 : a / 2 ^ k % 2 ^ 1 = a / 2 ^ k % 2 := rfl
  rw [h3]
  rcases Nat.mod_two_eq_zero_or_one (a / 2 ^ k) with q | q <;> rw [q] <;> decide
theorem nI_or (a b : Nat) : nI a ||| nI b = nI (a ||| b) := by
  apply Int32.toBitVec_inj.mp
  show (BitVec.ofNat 32 a) ||| (BitVec.ofNat 32 b) = BitVec.ofNat 32 (a ||| b)
  apply BitVec.eq_of_toNat_eq
  simp [BitVec.toNat_or, Nat.or_mod_two_pow]
theorem nI_and (a b : Nat) : nI a &&& nI b = nI (a &&& b) := by
  apply Int32.toBitVec_inj.mp
  show (BitVec.ofNat 32 a) &&& (BitVec.ofNat 32 b) = BitVec.ofNat 32 (a &&& b)
  apply BitVec.eq_of_toNat_eq
  simp [BitVec.toNat_and, Nat.and_mod_two_pow]
theorem nI_sh1 : ∀ k, k < 31 → (1 : Int32) <<< (nI k &&& 31) = nI (2 ^ k) := by decide +kernel
theorem nI_inj {a b : Nat} (ha : a < 2 ^ 31) (hb : b < 2 ^ 31) (h : nI a = nI b) : a = b := (nI_eq ha hb).mp h
theorem up_ind {P : Nat → Prop} {B : Nat} (h : ∀ j, j ≤ B → (j < B → P (j + 1)) → P j) : ∀ j, j ≤ B → P j := by
  have key : ∀ f j, j + f = B → P j := by
    intro f
    induction f with
    | zero => intro j hj; exact h j (by omega) (fun q => by omega)
    | succ f ih => intro j hj; exact h j (by omega) (fun _ => ih (j + 1) (by omega))
  intro j hj
  exact key (B - j) j (by omega)
theorem sN_congr {n : Nat} {f g : Nat → Nat} (h : ∀ k, k < n → f k = g k) : sN n f = sN n g := by
  induction n with
  | zero => rfl
  | succ n ih => simp only [sN]; rw [ih (fun k hk => h k (by omega)), h n (by omega)]
theorem oN_congr {n : Nat} {f g : Nat → Nat} (h : ∀ k, k < n → f k = g k) : oN n f = oN n g := by
  induction n with
  | zero => rfl
  | succ n ih => simp only [oN]; rw [ih (fun k hk => h k (by omega)), h n (by omega)]
theorem oN_bit {n : Nat} {f : Nat → Nat} {i : Nat} : (oN n f).testBit i = true ↔ ∃ k, k < n ∧ (f k).testBit i = true := by
  induction n with
  | zero => simp [oN]
  | succ n ih =>
    simp only [oN, Nat.testBit_or, Bool.or_eq_true, ih]
    constructor
    · rintro (⟨k, h1, h2⟩ | h)
      · exact ⟨k, by omega, h2⟩
      · exact ⟨n, by omega, h⟩
    · rintro ⟨k, h1, h2⟩
      by_cases e : k = n
      · exact Or.inr (e ▸ h2)
      · exact Or.inl ⟨k, by omega, h2⟩
theorem oN_lt {n w : Nat} {f : Nat → Nat} (h : ∀ k, k < n → f k < 2 ^ w) : oN n f < 2 ^ w := by
  induction n with
  | zero => exact Nat.two_pow_pos w
  | succ n ih => exact Nat.or_lt_two_pow (ih (fun k hk => h k (by omega))) (h n (by omega))
theorem sN_le {n b : Nat} {f : Nat → Nat} (h : ∀ k, k < n → f k ≤ b) : sN n f ≤ n * b := by
  induction n with
  | zero => simp [sN]
  | succ n ih =>
    simp only [sN]
    have h1 := ih (fun k hk => h k (by omega))
    have h2 := h n (by omega)
    rw [Nat.succ_mul]
    omega
/-- bits of a single place -/
theorem p2_bit (t i : Nat) : (2 ^ t).testBit i = decide (t = i) := by
  rw [Nat.testBit_two_pow]
def TE (q : St) (a b : Nat) : Prop := b < 12 ∧ (q 7 b).testBit a = true
def TG (q : St) : Nat → Nat → Prop := Relation.TransGen (TE q)
def QOK (q : St) : Prop := (1 ≤ q 0 0 ∧ q 0 0 ≤ 3) ∧ q 0 1 ≤ 12 ∧ (∀ k, k < 3 → 1 ≤ q 1 k ∧ q 1 k ≤ 9) ∧ (10 ≤ q 2 0 ∧ q 2 0 ≤ 999 ∧ q 2 1 ≤ 20 ∧ 1 ≤ q 2 2 ∧ q 2 2 ≤ 5 ∧ q 2 3 ≤ 1) ∧ (∀ k, k < 8 → 1 ≤ q 3 k ∧ q 3 k ≤ 3) ∧ (∀ k, k < 36 → q 4 k ≤ 99) ∧ (∀ k, k < 12 → q 5 k ≤ 5 ∧ q 6 k ≤ 8) ∧
  (∀ k, q 0 1 ≤ k → k < 12 → q 6 k = 0 ∧ q 7 k = 0 ∧ q 10 k = 0 ∧ q 11 k = 0) ∧ (∀ k, k < 12 → q 7 k < 2 ^ q 0 1 ∧ q 10 k < 2 ^ q 0 1 ∧ q 11 k < 2 ^ q 0 1) ∧ (∀ k, k < 12 → (q 10 k).testBit k = false ∧ (q 11 k).testBit k = false) ∧
  (∀ t i, t < 12 → ((q 8 t).testBit i = true ↔ TG q i t)) ∧ (∀ t i, t < 12 → ((q 9 t).testBit i = true ↔ i < 12 ∧ TG q t i)) ∧ ∀ t, ¬ TG q t t
/-- a state of the class, its object at place b -/
def CS (b : Nat) (d : Dt) (q : St) : Prop := (d.1 b 0 = nI (q 0 0) ∧ d.1 b 1 = nI (q 0 1)) ∧ (∀ k, k < 3 → d.1 (b + 1) k = nI (q 1 k)) ∧ (∀ k, k < 4 → d.1 (b + 2) k = nI (q 2 k)) ∧ (∀ k, k < 8 → d.1 (b + 3) k = nI (q 3 k)) ∧ (∀ k, k < 36 → d.1 (b + 4) k = nI (q 4 k)) ∧
  ∀ k, k < 12 → d.1 (b + 5) k = nI (q 5 k) ∧ d.1 (b + 6) k = pv (q 6 k) ∧ d.1 (b + 7) k = nI (q 7 k) ∧ d.1 (b + 8) k = nI (q 8 k) ∧ d.1 (b + 9) k = nI (q 9 k) ∧ d.1 (b + 10) k = nI (q 10 k) ∧ d.1 (b + 11) k = nI (q 11 k)
/-- a state of the reference, its row -/
def RR (r : Nat → Int32) (q : St) : Prop := (r 0 = nI (q 0 0) ∧ r 16 = nI (q 0 1)) ∧ (∀ k, k < 3 → r (1 + k) = nI (q 1 k)) ∧ (∀ k, k < 4 → r (4 + k) = nI (q 2 k)) ∧ (∀ k, k < 8 → r (8 + k) = nI (q 3 k)) ∧
  (∀ t, t < q 0 1 → (∀ m, m < 3 → r (17 + 5 * t + m) = nI (q 4 (3 * t + m))) ∧ r (17 + 5 * t + 3) = nI (q 5 t) ∧ r (17 + 5 * t + 4) = pv (q 6 t)) ∧ ∀ t, t < 12 → r (77 + t) = nI (q 7 t) ∧ r (89 + t) = nI (q 10 t) ∧ r (101 + t) = nI (q 11 t)
/-! what is asked of it -/
def td (q : St) : Nat := sN (q 0 0) (q 1)
def wt (q : St) (t : Nat) : Nat := sN (q 0 0) (fun m => q 1 m * q 4 (3 * t + m))
def wts (q : St) (s : Nat) : Nat := sN (q 0 1) (fun t => if s.testBit t = true then wt q t else 0)
def pc (s : Nat) : Nat := sN 32 (fun k => if s.testBit k = true then 1 else 0)
def prio (q : St) (t p : Nat) : Nat := match p with
  | 0 => wt q t + wts q (q 9 t)
  | 1 => wt q t
  | 2 => pc (q 9 t)
  | _ => 0
/-- the tasks of the stations lo to hi -/
def tin (q : St) (lo hi : Nat) : Nat := oN 12 (fun t => if lo + 1 ≤ q 6 t ∧ q 6 t ≤ hi + 1 then 2 ^ t else 0)
def stn (q : St) (s : Nat) : Nat := oN 12 (fun t => if q 6 t = s + 1 then 2 ^ t else 0)
def tls (q : St) (s : Nat) : Nat := oN 12 (fun t => if s.testBit t = true ∧ q 5 t ≠ 0 then 2 ^ q 5 t else 0)
/-- the lowest task of a set that comes next: 12, if none -/
def nxt (q : St) (left : Nat) : Nat → Nat
  | 0 => 12
  | k + 1 => if left.testBit (11 - k) = true ∧ q 8 (11 - k) &&& left = 0 then 11 - k else nxt q left k
theorem rows_end : True := trivial
