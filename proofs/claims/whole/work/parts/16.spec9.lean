/-! what the calls answer: setModels .. restore -/
theorem ntQ_le (q : St) (p : Nat) : ∀ j, ntQ q p j ≤ j := by
  intro j
  induction j with
  | zero => exact Nat.le_refl _
  | succ j ih =>
    unfold ntQ
    split
    · exact Nat.le_refl _
    · omega
theorem freQ_lt (q : St) : freQ q < 2 ^ q 0 1 := oN_lt fun k hk => by
  split
  · exact Nat.pow_lt_pow_right (by omega) hk
  · exact Nat.two_pow_pos _
theorem pv_s (t : Nat) : pv (t + 1) = nI t := by simp [pv]
theorem pv_0 : pv 0 = -1 := rfl
abbrev rlB (a b : Int32) : Prop := (a = 0 ∧ gI 10 999 b) ∨ (a = 1 ∧ gI 0 20 b) ∨ (a = 2 ∧ gI 1 5 b) ∨ (a = 3 ∧ gI 0 1 b)
def iRule (q : St) (w : Nat) (a b : Int32) : In := if rlB a b then (0, nI (q 2 (iv a)), up q 2 (iv a) (iv b), w) else (1, 0, q, w)
def addq (q : St) (a b c tl : Nat) : St := fun i k => if i = 0 ∧ k = 1 then q 0 1 + 1 else if i = 4 ∧ k = 3 * q 0 1 then a else if i = 4 ∧ k = 3 * q 0 1 + 1 then b else if i = 4 ∧ k = 3 * q 0 1 + 2 then c else if i = 5 ∧ k = q 0 1 then tl else q i k
def iAdd (q : St) (w : Nat) (a b c e : Int32) : In := if gI 0 99 a ∧ gI 0 99 b ∧ gI 0 99 c ∧ gI 0 5 e then (if q 0 1 = 12 then (2, 0, q, w) else (0, nI (q 0 1), addq q (iv a) (iv b) (iv c) (iv e), w)) else (1, 0, q, w)
/-- the chains of what is directly before -/
noncomputable def clq (q : St) : St := fun a b => if a = 8 then oN 12 (fun i => @ite _ (TG q i b) (Classical.propDecidable _) (2 ^ i) 0) else if a = 9 then oN 12 (fun i => @ite _ (TG q b i) (Classical.propDecidable _) (2 ^ i) 0) else q a b
noncomputable def iBef (q : St) (w : Nat) (a b : Int32) : In :=
  if tkI q a ∧ tkI q b then (if a = b ∨ (q 7 (iv b)).testBit (iv a) = true then (2, 0, q, w) else if (q 8 (iv a)).testBit (iv b) = true then (3, 0, q, w) else
    (0, nI (pc (clq (up q 7 (iv b) (q 7 (iv b) ||| 2 ^ iv a)) 8 (iv b))), clq (up q 7 (iv b) (q 7 (iv b) ||| 2 ^ iv a)), w)) else (1, 0, q, w)
/-- no pair -/
def prt (q : St) (a b : Nat) : St := fun i k => if i = 10 ∨ i = 11 then (if k = a then clr (q i a) b else if k = b then clr (q i b) a else q i k) else q i k
def jn (q : St) (z a b : Nat) : St := fun i k => if i = z then (if k = a then prt q a b i a ||| 2 ^ b else if k = b then prt q a b i b ||| 2 ^ a else prt q a b i k) else prt q a b i k
def iPair (q : St) (w : Nat) (a b : Int32) (z : Nat) : In := if tkI q a ∧ tkI q b then (if a = b then (2, 0, q, w) else (0, nI (pk q (iv a) (iv b)), jn q z (iv a) (iv b), w)) else (1, 0, q, w)
def iAsg (q : St) (w : Nat) (a b : Int32) : In :=
  if tkI q a ∧ gI (-1) 7 b then (if b = -1 then (0, pv (q 6 (iv a)), up q 6 (iv a) 0, w) else if refQ q (iv a) (iv b) = 0 then (0, pv (q 6 (iv a)), up q 6 (iv a) (iv b + 1), w) else (2, 0, q, refQ q (iv a) (iv b))) else (1, 0, q, w)
def oSetModels (y : Sy) (c : Int32) : Out := if gI 1 3 c then (0, nI (y.1 0 0), push2 y (up y.1 0 0 (iv c)) y.2.2.2.1) else (1, 0, y)
def oSetDemand (y : Sy) (m c : Int32) : Out := if gI 0 2 m then (if gI 1 9 c then (0, nI (y.1 1 (iv m)), push2 y (up y.1 1 (iv m) (iv c)) y.2.2.2.1) else (2, 0, y)) else (1, 0, y)
def oSetRule (y : Sy) (a b : Int32) : Out := finO y (iRule y.1 y.2.2.2.1 a b)
def oRule (y : Sy) (c : Int32) : Out := if gI 0 8 c then (0, nI (if iv c < 4 then y.1 2 (iv c) else if iv c = 4 then y.1 0 0 else if iv c = 5 then td y.1 else y.1 1 (iv c - 6)), y) else (1, 0, y)
def oSetCopies (y : Sy) (m c : Int32) : Out := if gI 0 7 m then (if gI 1 3 c then (0, nI (y.1 3 (iv m)), push2 y (up y.1 3 (iv m) (iv c)) y.2.2.2.1) else (2, 0, y)) else (1, 0, y)
def oAddTask (y : Sy) (a b c e : Int32) : Out := finO y (iAdd y.1 y.2.2.2.1 a b c e)
def oSetTime (y : Sy) (t m c : Int32) : Out := if tkI y.1 t ∧ gI 0 2 m then (if gI 0 99 c then (0, nI (y.1 4 (3 * iv t + iv m)), push2 y (up y.1 4 (3 * iv t + iv m) (iv c)) y.2.2.2.1) else (2, 0, y)) else (1, 0, y)
def oSetTool (y : Sy) (t c : Int32) : Out := if tkI y.1 t then (if gI 0 5 c then (0, nI (y.1 5 (iv t)), push2 y (up y.1 5 (iv t) (iv c)) y.2.2.2.1) else (2, 0, y)) else (1, 0, y)
noncomputable def oBefore (y : Sy) (a b : Int32) : Out := finO y (iBef y.1 y.2.2.2.1 a b)
def oPair (y : Sy) (a b : Int32) (z : Nat) : Out := finO y (iPair y.1 y.2.2.2.1 a b z)
noncomputable def drq (q : St) (a b : Nat) : St := prt (clq (up (up q 7 b (clr (q 7 b) a)) 7 a (clr (q 7 a) b))) a b
def lnk (q : St) (a b : Nat) : Bool := (q 7 b).testBit a || (q 7 a).testBit b
noncomputable def oDrop (y : Sy) (a b : Int32) : Out :=
  if tkI y.1 a ∧ tkI y.1 b then (if lnk y.1 (iv a) (iv b) = false ∧ pk y.1 (iv a) (iv b) = 0 then (2, 0, y) else (0, nI ((if lnk y.1 (iv a) (iv b) = true then 1 else 0) + (if pk y.1 (iv a) (iv b) ≠ 0 then 2 else 0)), push2 y (drq y.1 (iv a) (iv b)) y.2.2.2.1)) else (1, 0, y)
def tskV (q : St) (t w : Nat) : Int32 := match w with
  | 0 => nI (q 4 (3 * t))
  | 1 => nI (q 4 (3 * t + 1))
  | 2 => nI (q 4 (3 * t + 2))
  | 3 => nI (q 5 t)
  | 4 => nI (wt q t)
  | 5 => pv (q 6 t)
  | 6 => nI (q 8 t)
  | 7 => nI (q 9 t)
  | 8 => nI (q 7 t)
  | 9 => nI (q 10 t)
  | 10 => nI (q 11 t)
  | _ => pv (lowQ q t 8)
def oTask (y : Sy) (t w : Int32) : Out := if tkI y.1 t then (if gI 0 11 w then (0, tskV y.1 (iv t) (iv w), y) else (2, 0, y)) else (1, 0, y)
def oPriority (y : Sy) (t p : Int32) : Out := if tkI y.1 t then (if gI 0 3 p then (0, nI (prio y.1 (iv t) (iv p)), y) else (2, 0, y)) else (1, 0, y)
def oSize (y : Sy) : Out := (0, nI (y.1 0 1), y)
def oAssign (y : Sy) (a b : Int32) : Out := finO y (iAsg y.1 y.2.2.2.1 a b)
def oReason (y : Sy) (t s : Int32) : Out := if tkI y.1 t ∧ gI 0 7 s then (0, nI (refQ y.1 (iv t) (iv s)), y) else (1, 0, y)
def oWhyNot (y : Sy) : Out := if y.2.2.2.1 = 0 then (1, 0, y) else (0, nI y.2.2.2.1, y)
def stnV (q : St) (s w : Nat) : Int32 := match w with
  | 0 => nI (stn q s)
  | 1 => nI (q 3 s)
  | 2 => nI (ld q (stn q s))
  | 3 => b2i (fitB q (stn q s) (q 3 s))
  | 4 => nI (tls q (stn q s))
  | _ => lackV q s
def oStation (y : Sy) (s w : Int32) : Out := if gI 0 7 s then (if gI 0 5 w then (0, stnV y.1 (iv s) (iv w), y) else (2, 0, y)) else (1, 0, y)
def oTime (y : Sy) (s m : Int32) (z : Bool) : Out := if gI 0 7 s ∧ (0 ≤ m ∧ m ≤ nI (y.1 0 0) - 1) then (0, nI (if z = true then chg (tlL y.1 (ordL y.1 (stn y.1 (iv s))) (iv m)) else tm y.1 (stn y.1 (iv s)) (iv m)), y) else (1, 0, y)
def oSequence (y : Sy) (s k : Int32) : Out := if gI 0 7 s then (if 0 ≤ k ∧ k ≤ nI (ordL y.1 (stn y.1 (iv s))).length - 1 then (0, nI ((ordL y.1 (stn y.1 (iv s))).getD (iv k) 0), y) else (2, 0, y)) else (1, 0, y)
def linV (q : St) (w : Nat) : Int32 := match w with
  | 3 => nI (buQ q 7)
  | 5 => nI (rfdQ q)
  | 7 => nI ((sN (q 0 1) (wt q) + q 2 0 * td q - 1) / (q 2 0 * td q))
  | w => nI (ovQ q w)
def oLine (y : Sy) (w : Int32) : Out := if gI 0 7 w then (0, linV y.1 (iv w), y) else (1, 0, y)
def clrP (q : St) : St := fun i k => if i = 6 ∧ k < 12 then 0 else q i k
def oClear (y : Sy) : Out := (0, nI (ovQ y.1 2), push2 y (clrP y.1) y.2.2.2.1)
/-- the line is filled, task by task: at most f tasks more; 0 and the state, or the reason -/
def filF (p : Nat) : Nat → St → Nat × St
  | 0, q => (0, q)
  | f + 1, q => if ntQ q p (q 0 1) = 0 then (0, q) else if lowQ q (ntQ q p (q 0 1) - 1) 8 = 0 then (refQ q (ntQ q p (q 0 1) - 1) 7, q) else filF p f (up q 6 (ntQ q p (q 0 1) - 1) (lowQ q (ntQ q p (q 0 1) - 1) 8))
def oFill (y : Sy) (p : Int32) : Out := if gI 0 3 p then (if (filF (iv p) 12 (clrP y.1)).1 = 0 then (0, nI (ovQ (filF (iv p) 12 (clrP y.1)).2 0), push2 y (filF (iv p) 12 (clrP y.1)).2 y.2.2.2.1) else (2, 0, keep2 y y.1 (filF (iv p) 12 (clrP y.1)).1)) else (1, 0, y)
def oFeed (y : Sy) (c : Int32) : Out := if y.2.2.2.2.length = 80 then (1, 0, y) else (0, nI (y.2.2.2.2.length + 1), y.1, y.2.1, y.2.2.1, y.2.2.2.1, y.2.2.2.2 ++ [iv c])
def oUndo (y : Sy) : Out := match y.2.1 with
  | [] => (1, 0, y)
  | q :: L => (0, nI L.length, q, L, y.2.2)
def oSave (y : Sy) : Out := (0, nI (y.1 0 1), y.1, y.2.1, some y.1, y.2.2.2)
def oRestore (y : Sy) : Out := match y.2.2.1 with
  | none => (1, 0, y)
  | some q => (0, nI (q 0 1), q, [], y.2.2)
/-! closures -/
theorem oN_p {n : Nat} {P : Nat → Prop} [DecidablePred P] {i : Nat} : (oN n (fun i => if P i then 2 ^ i else 0)).testBit i = true ↔ i < n ∧ P i := by
  rw [oN_bit]
  constructor
  · rintro ⟨k, hk, hb⟩
    split at hb
    · rename_i hp
      rw [p2_bit] at hb
      have e : k = i := of_decide_eq_true hb
      subst e
      exact ⟨hk, hp⟩
    · simp at hb
  · rintro ⟨hi, hp⟩
    exact ⟨i, hi, by rw [if_pos hp, p2_bit]; simp⟩
theorem TG_clq (q : St) : TG (clq q) = TG q := by
  have : TE (clq q) = TE q := by
    funext a b
    simp only [TE, clq]
    rw [if_neg (by omega), if_neg (by omega)]
  simp only [TG, this]
/-- a state that is right but for its chains -/
theorem QOK_clq {q q1 : St} (ok : QOK q) (he : ∀ i k, i ≠ 7 → i ≠ 8 → i ≠ 9 → q1 i k = q i k) (h7 : ∀ k, k < 12 → q1 7 k < 2 ^ q 0 1) (h70 : ∀ k, q 0 1 ≤ k → k < 12 → q1 7 k = 0) (hac : ∀ t, ¬ TG q1 t t) : QOK (clq q1) := by
  obtain ⟨a, b, c, e, f, g, h, i, l, m, n, o, p⟩ := ok
  have E : ∀ i k, i ≠ 7 → i ≠ 8 → i ≠ 9 → clq q1 i k = q i k := fun i k h1 h2 h3 => by
    simp only [clq]
    rw [if_neg h2, if_neg h3]; exact he i k h1 h2 h3
  have E7 : ∀ k, clq q1 7 k = q1 7 k := fun k => by simp only [clq]; rw [if_neg (by omega), if_neg (by omega)]
  have E01 := E 0 1 (by decide) (by decide) (by decide)
  have hb : ∀ {x y}, TG q1 x y → x < 12 := by
    intro x y hxy
    induction hxy with
    | single z => exact Nat.lt_of_lt_of_le (lt_of_bit (h7 _ z.1) z.2) b
    | tail _ _ ih => exact ih
  have hb2 : ∀ {x y}, TG q1 x y → y < 12 := by
    intro x y hxy
    cases hxy with
    | single z => exact z.1
    | tail _ z => exact z.1
  refine ⟨?_, by rw [E01]; exact b, fun k hk => ?_, ⟨?_, ?_, ?_, ?_, ?_, ?_⟩, fun k hk => ?_, fun k hk => ?_, fun k hk => ⟨?_, ?_⟩, fun k h1 h2 => ⟨?_, by rw [E7]; exact h70 k (by rw [← E01]; exact h1) h2, ?_, ?_⟩, fun k hk => ⟨by rw [E7, E01]; exact h7 k hk, ?_, ?_⟩, fun k hk => ⟨?_, ?_⟩, fun t z ht => ?_, fun t z ht => ?_, fun t => by rw [TG_clq]; exact hac t⟩
  all_goals (try rw [E _ _ (by decide) (by decide) (by decide)])
  all_goals (try rw [E01] at *)
  · exact a
  · exact c k hk
  · exact e.1
  · exact e.2.1
  · exact e.2.2.1
  · exact e.2.2.2.1
  · exact e.2.2.2.2.1
  · exact e.2.2.2.2.2
  · exact f k hk
  · exact g k hk
  · exact (h k hk).1
  · exact (h k hk).2
  · exact (i k h1 h2).1
  · exact (i k h1 h2).2.2.1
  · exact (i k h1 h2).2.2.2
  · exact (l k hk).2.1
  · exact (l k hk).2.2
  · exact (m k hk).1
  · exact (m k hk).2
  · rw [TG_clq]
    show (clq q1 8 t).testBit z = true ↔ _
    simp only [clq, if_true]
    rw [@oN_p 12 (fun i => TG q1 i t) (fun i => Classical.propDecidable _)]
    exact ⟨fun w => w.2, fun w => ⟨hb w, w⟩⟩
  · rw [TG_clq]
    show (clq q1 9 t).testBit z = true ↔ _
    simp only [clq]
    rw [if_neg (by decide), if_pos trivial]
    rw [@oN_p 12 (fun i => TG q1 t i) (fun i => Classical.propDecidable _)]
/-- one edge more -/
theorem TG_add {q : St} {a b : Nat} {x y : Nat} (h : TG (up q 7 b (q 7 b ||| 2 ^ a)) x y) : TG q x y ∨ ((x = a ∨ TG q x a) ∧ (y = b ∨ TG q b y)) := by
  have e : ∀ {u v}, TE (up q 7 b (q 7 b ||| 2 ^ a)) u v → TE q u v ∨ (u = a ∧ v = b) := by
    rintro u v ⟨h1, h2⟩
    simp only [up, true_and] at h2
    split at h2
    · rename_i z
      rw [Nat.testBit_or, Bool.or_eq_true, p2_bit] at h2
      rcases h2 with h2 | h2
      · exact Or.inl ⟨h1, by rw [z]; exact h2⟩
      · exact Or.inr ⟨(of_decide_eq_true h2).symm, z⟩
    · exact Or.inl ⟨h1, h2⟩
  induction h with
  | single z =>
    rcases e z with z | ⟨z1, z2⟩
    · exact Or.inl (Relation.TransGen.single z)
    · exact Or.inr ⟨Or.inl z1, Or.inl z2⟩
  | tail _ z ih =>
    rcases e z with z | ⟨z1, z2⟩
    · rcases ih with ih | ⟨i1, i2⟩
      · exact Or.inl (Relation.TransGen.tail ih z)
      · refine Or.inr ⟨i1, Or.inr ?_⟩
        rcases i2 with i2 | i2
        · rw [i2] at z; exact Relation.TransGen.single z
        · exact Relation.TransGen.tail i2 z
    · rcases ih with ih | ⟨i1, i2⟩
      · exact Or.inr ⟨Or.inr (z1 ▸ ih), Or.inl z2⟩
      · exact Or.inr ⟨i1, Or.inl z2⟩
theorem QOK_bef {q : St} (ok : QOK q) {a b : Nat} (ha : a < q 0 1) (hb : b < q 0 1) (hne : a ≠ b) (hno : (q 8 a).testBit b = false) : QOK (clq (up q 7 b (q 7 b ||| 2 ^ a))) := by
  have h12 := ok.2.1
  have hq := ok.2.2.2.2.2.2.2.2.2.2.1
  have hno' : ¬ TG q b a := fun z => by rw [(hq a b (by omega)).mpr z] at hno; cases hno
  refine QOK_clq ok (fun i k h7 _ _ => by simp only [up]; rw [if_neg (by omega)]) (fun k hk => ?_) (fun k h1 h2 => ?_) (fun t ht => ?_)
  · simp only [up, true_and]
    split
    · exact or_p2_lt (ok.2.2.2.2.2.2.2.2.1 b (by omega)).1 ha
    · exact (ok.2.2.2.2.2.2.2.2.1 k hk).1
  · simp only [up, true_and]
    rw [if_neg (by omega)]
    exact (ok.2.2.2.2.2.2.2.1 k h1 h2).2.1
  · rcases TG_add ht with h | ⟨h1, h2⟩
    · exact ok.2.2.2.2.2.2.2.2.2.2.2.2 t h
    · rcases h1 with h1 | h1 <;> rcases h2 with h2 | h2
      · exact hne (h1.symm.trans h2)
      · rw [h1] at h2; exact hno' h2
      · rw [h2] at h1; exact hno' h1
      · exact hno' (Relation.TransGen.trans h2 h1)
theorem TG_sub {q q1 : St} (h : ∀ k i, k < 12 → (q1 7 k).testBit i = true → (q 7 k).testBit i = true) {x y : Nat} (hx : TG q1 x y) : TG q x y := by
  induction hx with
  | single z => exact Relation.TransGen.single ⟨z.1, h _ _ z.1 z.2⟩
  | tail _ z ih => exact Relation.TransGen.tail ih ⟨z.1, h _ _ z.1 z.2⟩
