/-! what the reader writes -/
def mR (d d' : Dt) : Prop := d'.2 = d.2 ∧ (∀ i, i ≠ 160 → i ≠ 173 → d'.1 i = d.1 i) ∧ ∀ k, k ≠ 18 → k ≠ 20 → d'.1 160 k = d.1 160 k
theorem mR_r (d : Dt) : mR d d := ⟨rfl, fun _ _ _ => rfl, fun _ _ _ => rfl⟩
theorem mR_t {a b c : Dt} (h : mR a b) (g : mR b c) : mR a c := ⟨g.1.trans h.1, fun i x y => (g.2.1 i x y).trans (h.2.1 i x y), fun k x y => (g.2.2 k x y).trans (h.2.2 k x y)⟩
theorem mR_173 {d d' : Dt} (h : mR d d') (f : Nat → Int32) : mR d (dI d' 173 f) := ⟨h.1, fun i x y => by rw [dI_n _ _ y]; exact h.2.1 i x y, fun k x y => by rw [dI_n _ _ (by decide)]; exact h.2.2 k x y⟩
theorem mR_160 {d d' : Dt} (h : mR d d') {j : Nat} (hj : j = 18 ∨ j = 20) (x : Int32) : mR d (dI d' 160 (upd (d'.1 160) j x)) := ⟨h.1, fun i a b => by rw [dI_n _ _ a]; exact h.2.1 i a b, fun k a b => by rw [dI_s]; simp only [upd]; rw [if_neg (by omega)]; exact h.2.2 k a b⟩
theorem mR_fM {d d' : Dt} (h : mR d d') : fM d d' := ⟨fun i hi => ⟨h.2.1 i (by omega) (by omega), by rw [h.1]⟩, by rw [h.1]⟩
theorem mR_mK {d d' : Dt} (h : mR d d') : mK d d' := ⟨h.2.1 163 (by decide) (by decide), h.2.1 164 (by decide) (by decide), h.2.1 172 (by decide) (by decide), h.2.2 3 (by decide) (by decide), h.2.2 5 (by decide) (by decide), h.2.2 17 (by decide) (by decide)⟩
theorem mR_g {d d' : Dt} (h : mR d d') : d'.1 161 = d.1 161 := h.2.1 161 (by decide) (by decide)
theorem MR_mR {d d' : Dt} {y : Sy} (h : MR d y) (hm : mR d d') : MR d' y :=
  MR_keep h (mR_mK hm) (q := y.1) (by rw [mR_g hm]; exact h.1.1) h.1.2 (w := y.2.2.2.1) (by rw [hm.2.2 6 (by decide) (by decide)]; exact h.2.2.2.1.1) h.2.2.2.1.2
theorem MC_mR {d0 d d' : Dt} {y : Sy} {q : St} {w : Nat} (h : MC d0 d y q w) (hm : mR d d') : MC d0 d' y q w := by
  obtain ⟨⟨h1, h2⟩, h3, h4, ⟨h5, h6⟩, h7, h8⟩ := h
  exact ⟨⟨fM_t h1 (mR_fM hm), mK_t h2 (mR_mK hm)⟩, h3, by rw [hm.2.1 162 (by decide) (by decide)]; exact h4, ⟨by rw [mR_g hm]; exact h5, h6⟩, by rw [hm.2.2 6 (by decide) (by decide)]; exact h7, h8⟩
/-- the reader stands at place a of the input T -/
def RP (d : Dt) (T : List Nat) (a : Nat) : Prop := TP (d.1 172) (d.1 160 17) T ∧ d.1 160 18 = nI a ∧ a ≤ T.length
theorem RP_m {d d' : Dt} {T : List Nat} {a b : Nat} (h : RP d T a) (hm : mR d d') (hb : d'.1 160 18 = nI b) (hl : b ≤ T.length) : RP d' T b :=
  ⟨by rw [hm.2.1 172 (by decide) (by decide), hm.2.2 17 (by decide) (by decide)]; exact h.1, hb, hl⟩
theorem chA_i {T : List Nat} {a : Nat} (h : a < T.length) : chA T a = T.getD a 0 := if_pos h
theorem chA_o {T : List Nat} {a : Nat} (h : T.length ≤ a) : chA T a = 0 := if_neg (by omega)
theorem chA_64 {row : Nat → Int32} {len : Int32} {T : List Nat} (h : TP row len T) (a : Nat) : chA T a < 65536 := by
  unfold chA
  split
  · rename_i z; exact (h.2.2 a z).2
  · omega
theorem wEnd_i {T : List Nat} {f a : Nat} (h : a < T.length ∧ 97 ≤ T.getD a 0 ∧ T.getD a 0 ≤ 122) : wEnd T (f + 1) a = wEnd T f (a + 1) := if_pos h
theorem wEnd_o {T : List Nat} {f a : Nat} (h : ¬ (a < T.length ∧ 97 ≤ T.getD a 0 ∧ T.getD a 0 ≤ 122)) : wEnd T f a = a := by
  cases f with
  | zero => rfl
  | succ f => exact if_neg h
theorem wNo_t {T : List Nat} {a e f : Nat} (h : wIs T a e (5 - f)) : wNo T a e (f + 1) = 5 - f := if_pos h
theorem wNo_f {T : List Nat} {a e f : Nat} (h : ¬ wIs T a e (5 - f)) : wNo T a e (f + 1) = wNo T a e f := if_neg h
theorem wNo_at {T : List Nat} {a e j : Nat} (h : j < 6) : (wIs T a e j → wNo T a e (6 - j) = j) ∧ (¬ wIs T a e j → wNo T a e (6 - j) = wNo T a e (5 - j)) := by
  have e1 : 6 - j = (5 - j) + 1 := by omega
  have e2 : 5 - (5 - j) = j := by omega
  constructor
  · intro z; rw [e1, wNo_t (by rw [e2]; exact z), e2]
  · intro z; rw [e1, wNo_f (by rw [e2]; exact z)]
def isK (T : List Nat) (a e w k : Nat) : Prop := (wrd w).length = e - a ∧ ∀ i, i < k → (wrd w).getD i 0 = T.getD (a + i) 0
noncomputable def isD (T : List Nat) (a e w k : Nat) : Bool := @decide (isK T a e w k) (Classical.propDecidable _)
theorem isD_t {T : List Nat} {a e w k : Nat} : isD T a e w k = true ↔ isK T a e w k := by
  unfold isD
  exact @decide_eq_true_iff _ (Classical.propDecidable _)
theorem isD_f {T : List Nat} {a e w k : Nat} : isD T a e w k = false ↔ ¬ isK T a e w k := by
  rw [← isD_t]
  cases isD T a e w k <;> simp
theorem wrd_sW {w : Nat} (h : w < 6) : sW w = wrd w := if_pos h
theorem digs_i {T : List Nat} {f p v : Nat} (h : 48 ≤ chA T p ∧ chA T p ≤ 57) : digs T (f + 1) p v = digs T f (p + 1) (10 * v + (chA T p - 48)) := if_pos h
theorem digs_o {T : List Nat} {f p v : Nat} (h : ¬ (48 ≤ chA T p ∧ chA T p ≤ 57)) : digs T f p v = (p, v) := by
  cases f with
  | zero => rfl
  | succ f => exact if_neg h
theorem gI_n {x a b : Nat} (hx : x < 2 ^ 31) (ha : a < 2 ^ 31) (hb : b < 2 ^ 31) : (nI a ≤ nI x ∧ nI x ≤ nI b) ↔ (a ≤ x ∧ x ≤ b) := by
  rw [nI_leI ha hx, nI_leI hx hb]
theorem wrd_128 (w i : Nat) : (wrd w).getD i 0 < 128 := by
  have h : ∀ x ∈ wrd w, x < 128 := by unfold wrd; split <;> decide
  rcases Nat.lt_or_ge i (wrd w).length with z | z
  · exact h _ (getD_mem z)
  · rw [List.getD_eq_getElem?_getD, List.getElem?_eq_none z]; decide
