/-! the reference's rows that it writes on the way -/
def mS (d d' : Dt) : Prop := d'.2 = d.2 ∧ (∀ i, i ≠ 165 → i ≠ 166 → i ≠ 160 → d'.1 i = d.1 i) ∧ ∀ k, k ≠ 9 → d'.1 160 k = d.1 160 k
theorem mS_r (d : Dt) : mS d d := ⟨rfl, fun _ _ _ _ => rfl, fun _ _ => rfl⟩
theorem mS_t {a b c : Dt} (h : mS a b) (g : mS b c) : mS a c := ⟨g.1.trans h.1, fun i x y z => (g.2.1 i x y z).trans (h.2.1 i x y z), fun k hk => (g.2.2 k hk).trans (h.2.2 k hk)⟩
theorem mS_165 {d d' : Dt} (h : mS d d') (f : Nat → Int32) : mS d (dI d' 165 f) := ⟨h.1, fun i x y z => by rw [dI_n _ _ x]; exact h.2.1 i x y z, fun k hk => by rw [dI_n _ _ (by decide)]; exact h.2.2 k hk⟩
theorem mS_166 {d d' : Dt} (h : mS d d') (f : Nat → Int32) : mS d (dI d' 166 f) := ⟨h.1, fun i x y z => by rw [dI_n _ _ y]; exact h.2.1 i x y z, fun k hk => by rw [dI_n _ _ (by decide)]; exact h.2.2 k hk⟩
theorem mS_160 {d d' : Dt} (h : mS d d') (x : Int32) : mS d (dI d' 160 (upd (d'.1 160) 9 x)) := ⟨h.1, fun i a b c => by rw [dI_n _ _ c]; exact h.2.1 i a b c, fun k hk => by rw [dI_s]; simp only [upd, if_neg hk]; exact h.2.2 k hk⟩
theorem mS_g {d d' : Dt} (h : mS d d') : d'.1 161 = d.1 161 := h.2.1 161 (by decide) (by decide) (by decide)
def rowI (d : Dt) (L : List Nat) : Prop := d.1 160 9 = nI L.length ∧ ∀ k, k < L.length → d.1 165 k = nI (L.getD k 0)
theorem rowI_0 (d : Dt) : rowI (dI d 160 (upd (d.1 160) 9 0)) [] := ⟨by rw [dI_s]; rfl, fun k hk => absurd hk (Nat.not_lt_zero _)⟩
theorem rowI_s {d : Dt} {L : List Nat} (h : rowI d L) (t : Nat) {x : Int32} (hx : x = d.1 160 9 + 1) (d2 : Dt) (hd2 : d2 = dI d 165 (upd (d.1 165) L.length (nI t))) : rowI (dI d2 160 (upd (d2.1 160) 9 x)) (L ++ [t]) := by
  subst hd2 hx
  refine ⟨?_, fun k hk => ?_⟩
  · rw [dI_s]
    simp only [upd, if_true]
    rw [h.1, nI_1, List.length_append]
    rfl
  · rw [dI_n _ _ (by decide), dI_s]
    simp only [upd]
    rw [List.length_append] at hk
    simp only [List.length_cons, List.length_nil] at hk
    by_cases e : k = L.length
    · rw [if_pos e, e]
      congr 1
      simp [List.getD_eq_getElem?_getD]
    · rw [if_neg e, h.2 k (by omega)]
      congr 1
      rw [List.getD_eq_getElem?_getD, List.getD_eq_getElem?_getD, List.getElem?_append_left (by omega)]
theorem rowI_m {d d' : Dt} {L : List Nat} (h : rowI d L) (h1 : d'.1 165 = d.1 165) (h2 : d'.1 160 9 = d.1 160 9) : rowI d' L := ⟨h2.trans h.1, fun k hk => by rw [h1]; exact h.2 k hk⟩
theorem dI_dI (d : Dt) (i : Nat) (f g : Nat → Int32) : dI (dI d i f) i g = dI d i g := by
  simp only [dI]
  congr 1
  funext j
  by_cases e : j = i <;> simp [e]
theorem dI_self (d : Dt) (i : Nat) : dI d i (d.1 i) = d := by
  obtain ⟨a, b⟩ := d
  simp only [dI]
  congr 1
  funext j
  by_cases e : j = i <;> simp [e]
theorem take_snoc {L : List Nat} {j : Nat} (h : j < L.length) : L.take (j + 1) = L.take j ++ [L.getD j 0] := by
  rw [List.take_succ, List.getD_eq_getElem?_getD, List.getElem?_eq_getElem h]
  rfl
/-- the used tools, put one by one -/
def usd (u : Nat → Int32) (U : List Nat) : Prop := ∀ i, i < U.length → u i = nI (U.getD i 0)
theorem usd_s {u : Nat → Int32} {U : List Nat} (h : usd u U) (x : Nat) : usd (upd u U.length (nI x)) (U ++ [x]) := by
  intro i hi
  rw [List.length_append] at hi
  simp only [List.length_cons, List.length_nil] at hi
  simp only [upd]
  by_cases e : i = U.length
  · rw [if_pos e, e]
    congr 1
    simp [List.getD_eq_getElem?_getD]
  · rw [if_neg e, h i (by omega)]
    congr 1
    rw [List.getD_eq_getElem?_getD, List.getD_eq_getElem?_getD, List.getElem?_append_left (by omega)]
theorem usd_k {u : Nat → Int32} {U : List Nat} (h : usd u U) (x : Int32) : usd (upd u U.length x) U := by
  intro i hi
  simp only [upd]
  rw [if_neg (by omega), h i hi]
/-- the best so far, from the highest task down -/
def bs (q : St) (l n : Nat) : Nat → Int32
  | 0 => -1
  | j + 1 => if l.testBit (n - 1 - j) = true ∧ q 8 (n - 1 - j) &&& l = 0 then nI (n - 1 - j) else bs q l n j
theorem bs_t {q : St} {l n j : Nat} (h : l.testBit (n - 1 - j) = true ∧ q 8 (n - 1 - j) &&& l = 0) : bs q l n (j + 1) = nI (n - 1 - j) := if_pos h
theorem bs_f {q : St} {l n j : Nat} (h : ¬ (l.testBit (n - 1 - j) = true ∧ q 8 (n - 1 - j) &&& l = 0)) : bs q l n (j + 1) = bs q l n j := if_neg h
theorem bs_inv (q : St) (l n : Nat) : ∀ j, j ≤ n → (∃ v, n - j ≤ v ∧ v < n ∧ (l.testBit v = true ∧ q 8 v &&& l = 0) ∧ (∀ u, n - j ≤ u → u < v → ¬ (l.testBit u = true ∧ q 8 u &&& l = 0)) ∧ bs q l n j = nI v) ∨ ((∀ u, n - j ≤ u → u < n → ¬ (l.testBit u = true ∧ q 8 u &&& l = 0)) ∧ bs q l n j = -1) := by
  intro j
  induction j with
  | zero => intro _; exact Or.inr ⟨fun u h1 h2 => by omega, rfl⟩
  | succ j ih =>
    intro hj
    unfold bs
    split
    · rename_i h
      exact Or.inl ⟨n - 1 - j, by omega, by omega, h, fun u h1 h2 => by omega, rfl⟩
    · rename_i h
      rcases ih (by omega) with ⟨v, h1, h2, h3, h4, h5⟩ | ⟨h1, h2⟩
      · refine Or.inl ⟨v, by omega, h2, h3, fun u g1 g2 => ?_, h5⟩
        by_cases e : u = n - 1 - j
        · rw [e]; exact h
        · exact h4 u (by omega) g2
      · refine Or.inr ⟨fun u g1 g2 => ?_, h2⟩
        by_cases e : u = n - 1 - j
        · rw [e]; exact h
        · exact h1 u (by omega) g2
theorem bs_end {q : St} (ok : QOK q) {l : Nat} (hl : l < 2 ^ q 0 1) (h0 : l ≠ 0) : bs q l (q 0 1) (q 0 1) = nI (nxt q l 12) := by
  have hp := pow12 ok.2.1
  rcases bs_inv q l (q 0 1) (q 0 1) (Nat.le_refl _) with ⟨v, h1, h2, h3, h4, h5⟩ | ⟨h1, h2⟩
  · rw [h5, nxt_uniq ok (by omega) h0 h3 (fun u hu => h4 u (by omega) hu)]
  · obtain ⟨t, a, b, c⟩ := exNext ok (show l < 4096 by omega) h0
    exact absurd ⟨b, c⟩ (h1 t (by omega) (lt_of_bit hl b))
theorem tv_s {m : Nat} (h : 1 ≤ m) : nI m - 1 = nI (m - 1) := pk_sub h
theorem tv_d (x : Int32) : x + (-1) = x - 1 := by
  apply Int32.toBitVec_inj.mp
  show x.toBitVec + (-1 : Int32).toBitVec = x.toBitVec - (1 : Int32).toBitVec
  rw [show (-1 : Int32).toBitVec = -(1#32) from rfl, show (1 : Int32).toBitVec = 1#32 from rfl, BitVec.sub_eq_add_neg]
theorem tv_neg {m : Nat} (h : m < 2 ^ 30) : nI m - 1 < 0 ↔ m = 0 := by
  by_cases e : m = 0
  · rw [e]; decide
  · rw [tv_s (by omega), Int32.lt_iff_toInt_lt, nI_toInt (by omega), Int32.toInt_zero]
    omega
