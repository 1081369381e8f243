/-! THE CLASS: a state in its twelve places -/
def szC (j : Nat) : Nat := match j with
  | 0 => 2
  | 1 => 3
  | 2 => 4
  | 3 => 8
  | 4 => 36
  | _ => 12
def vC (q : St) (j k : Nat) : Int32 := if j = 6 then pv (q j k) else nI (q j k)
def KS (b : Nat) (d : Dt) (q : St) : Prop := ∀ j k, j < 12 → k < szC j → d.1 (b + j) k = vC q j k
theorem KS_k {b : Nat} {d d' : Dt} {q : St} (h : KS b d q) (e : ∀ j, j < 12 → d'.1 (b + j) = d.1 (b + j)) : KS b d' q := fun j k hj hk => by rw [e j hj]; exact h j k hj hk
theorem KS_up {b : Nat} {d : Dt} {q : St} (h : KS b d q) {j k v i : Nat} (hi : i = b + j) {x : Int32} (hx : x = if j = 6 then pv v else nI v) : KS b (dI d i (upd (d.1 i) k x)) (up q j k v) := by
  subst hi hx
  intro j' k' hj' hk'
  unfold vC up
  by_cases e : j' = j
  · subst e
    rw [dI_s]
    simp only [upd, true_and]
    by_cases e2 : k' = k
    · rw [if_pos e2, if_pos e2]
    · rw [if_neg e2, if_neg e2]; exact h j' k' hj' hk'
  · have hu : (if j' = j ∧ k' = k then v else q j' k') = q j' k' := if_neg (fun z => e z.1)
    rw [dI_n _ _ (by omega), hu]
    exact h j' k' hj' hk'
theorem KS_o {b : Nat} {d : Dt} {q : St} (h : KS b d q) {i : Nat} (hi : i < b ∨ b + 11 < i) (f : Nat → Int32) : KS b (dI d i f) q := KS_k h (fun j hj => dI_n _ _ (by omega))
/-- another value of a row -/
theorem KS_row {b : Nat} {d : Dt} {q q' : St} (h : KS b d q) {j i : Nat} (hi : i = b + j) {f : Nat → Int32} (he : ∀ j' k, j' < 12 → j' ≠ j → k < szC j' → vC q' j' k = vC q j' k) (hf : ∀ k, k < szC j → f k = vC q' j k) : KS b (dI d i f) q' := by
  subst hi
  intro j' k hj' hk
  by_cases e : j' = j
  · subst e; rw [dI_s]; exact hf k hk
  · rw [dI_n _ _ (by omega), he j' k hj' e hk]; exact h j' k hj' hk
/-- only what is in now -/
def fN (d d' : Dt) : Prop := d'.2 = d.2 ∧ ∀ i, 12 ≤ i → d'.1 i = d.1 i
theorem fN_r (d : Dt) : fN d d := ⟨rfl, fun _ _ => rfl⟩
theorem fN_t {a b c : Dt} (h : fN a b) (g : fN b c) : fN a c := ⟨g.1.trans h.1, fun i x => (g.2 i x).trans (h.2 i x)⟩
theorem fN_dI {d d' : Dt} (h : fN d d') {i : Nat} (hi : i < 12) (f : Nat → Int32) : fN d (dI d' i f) := ⟨h.1, fun j x => by rw [dI_n _ _ (by omega)]; exact h.2 j x⟩
/-- only a work's cells -/
def fW (w : Nat) (d d' : Dt) : Prop := d'.2 = d.2 ∧ ∀ i, i < w ∨ w + 3 < i → d'.1 i = d.1 i
theorem fW_r (w : Nat) (d : Dt) : fW w d d := ⟨rfl, fun _ _ => rfl⟩
theorem fW_t {w : Nat} {a b c : Dt} (h : fW w a b) (g : fW w b c) : fW w a c := ⟨g.1.trans h.1, fun i x => (g.2 i x).trans (h.2 i x)⟩
theorem fW_dI {w : Nat} {d d' : Dt} (h : fW w d d') {i : Nat} (hi : w ≤ i ∧ i ≤ w + 3) (f : Nat → Int32) : fW w d (dI d' i f) := ⟨h.1, fun j x => by rw [dI_n _ _ (by omega)]; exact h.2 j x⟩
theorem KS_W {w : Nat} {d d' : Dt} {q : St} (hw : 11 < w) (h : KS 0 d q) (g : fW w d d') : KS 0 d' q := KS_k h (fun j hj => g.2 _ (by omega))
theorem hb_b (s k : Nat) (hs : s < 2 ^ 31) (hk : k < 32) : b2i (decide ((nI s >>> (nI k &&& 31)) &&& 1 ≠ 0)) = b2i (s.testBit k) := by
  rw [← hb_nI hs hk]
  congr 1
  have := hb_ne (nI s) (nI k)
  by_cases e : hb (nI s) (nI k) = true
  · rw [e]; exact decide_eq_true (this.mpr e)
  · rw [Bool.eq_false_iff.mpr e]; exact decide_eq_false (fun z => e (this.mp z))
/-! chains, by one task in the middle after the other -/
def wsh (r : Nat → Nat) : Nat → Nat → Nat
  | 0, t => r t
  | m + 1, t => wsh r m t ||| (if (wsh r m t).testBit m = true then wsh r m m else 0)
theorem wsh_m (r : Nat → Nat) (m : Nat) : wsh r (m + 1) m = wsh r m m := by
  show wsh r m m ||| (if _ then wsh r m m else 0) = _
  split
  · exact Nat.or_self _
  · exact Nat.or_zero _
theorem wsh_bit {r : Nat → Nat} {m t i : Nat} : (wsh r (m + 1) t).testBit i = true ↔ (wsh r m t).testBit i = true ∨ ((wsh r m t).testBit m = true ∧ (wsh r m m).testBit i = true) := by
  show (wsh r m t ||| (if _ then wsh r m m else 0)).testBit i = true ↔ _
  rw [Nat.testBit_or, Bool.or_eq_true]
  constructor
  · rintro (h | h)
    · exact Or.inl h
    · split at h
      · rename_i z; exact Or.inr ⟨z, h⟩
      · simp at h
  · rintro (h | ⟨h1, h2⟩)
    · exact Or.inl h
    · exact Or.inr (by rw [if_pos h1]; exact h2)
theorem wsh_lt {r : Nat → Nat} {w : Nat} (h : ∀ t, r t < 2 ^ w) : ∀ m t, wsh r m t < 2 ^ w := by
  intro m
  induction m with
  | zero => exact h
  | succ m ih =>
    intro t
    refine Nat.or_lt_two_pow (ih t) ?_
    split
    · exact ih m
    · exact Nat.two_pow_pos _
theorem wsh_tr {r : Nat → Nat} : ∀ m, ∀ k, k < m → ∀ t i, (wsh r m t).testBit k = true → (wsh r m k).testBit i = true → (wsh r m t).testBit i = true := by
  intro m
  induction m with
  | zero => intro k hk; exact absurd hk (Nat.not_lt_zero _)
  | succ m ih =>
    intro k hk t i h1 h2
    rw [wsh_bit] at h1 h2 ⊢
    by_cases e : k = m
    · subst e
      have h1' : (wsh r k t).testBit k = true := h1.elim id (fun z => z.1)
      have h2' : (wsh r k k).testBit i = true := h2.elim id (fun z => z.2)
      exact Or.inr ⟨h1', h2'⟩
    · have hk' : k < m := by omega
      rcases h1 with h1 | ⟨h1, h1'⟩ <;> rcases h2 with h2 | ⟨h2, h2'⟩
      · exact Or.inl (ih k hk' t i h1 h2)
      · exact Or.inr ⟨ih k hk' t m h1 h2, h2'⟩
      · exact Or.inr ⟨h1, ih k hk' m i h1' h2⟩
      · exact Or.inr ⟨h1, h2'⟩
theorem wsh_ge {r : Nat → Nat} {t i : Nat} (h : (r t).testBit i = true) : ∀ m, (wsh r m t).testBit i = true := by
  intro m
  induction m with
  | zero => exact h
  | succ m ih => rw [wsh_bit]; exact Or.inl ih
theorem wsh_TG {q : St} (h7 : ∀ k, k < 12 → q 7 k < 4096) : ∀ m, m ≤ 12 → ∀ t i, t < 12 → (wsh (q 7) m t).testBit i = true → TG q i t := by
  intro m
  induction m with
  | zero => intro _ t i ht h; exact Relation.TransGen.single ⟨ht, h⟩
  | succ m ih =>
    intro hm t i ht h
    rw [wsh_bit] at h
    rcases h with h | ⟨h1, h2⟩
    · exact ih (by omega) t i ht h
    · exact Relation.TransGen.trans (ih (by omega) m i (by omega) h2) (ih (by omega) t m ht h1)
theorem wsh_12 {q : St} (h7 : ∀ k, k < 12 → q 7 k < 4096) {t i : Nat} (ht : t < 12) : (wsh (q 7) 12 t).testBit i = true ↔ TG q i t := by
  refine ⟨wsh_TG h7 12 (Nat.le_refl _) t i ht, fun h => ?_⟩
  induction h with
  | single z => exact wsh_ge z.2 12
  | tail _ z ih =>
    rename_i b c _
    have hb : b < 12 := lt_of_bit (n := 12) (h7 c z.1) z.2
    exact wsh_tr 12 b hb c i (wsh_ge z.2 12) (ih hb)
theorem clq_8 {q : St} (h7 : ∀ k, k < 12 → q 7 k < 4096) {t : Nat} (ht : t < 12) : clq q 8 t = wsh (q 7) 12 t := by
  refine bits_eq fun i => ?_
  rw [wsh_12 h7 ht]
  simp only [clq, if_true]
  rw [@oN_p 12 (fun i => TG q i t) (fun i => Classical.propDecidable _)]
  refine ⟨fun h => h.2, fun h => ⟨?_, h⟩⟩
  have := (wsh_12 h7 ht).mpr h
  cases h with
  | single z => exact lt_of_bit (n := 12) (h7 _ z.1) z.2
  | tail a z =>
    clear this
    have key : ∀ {x y}, TG q x y → x < 12 := by
      intro x y hxy
      induction hxy with
      | single z => exact lt_of_bit (n := 12) (h7 _ z.1) z.2
      | tail _ _ ih => exact ih
    exact key a
theorem clq_9 {q : St} (h7 : ∀ k, k < 12 → q 7 k < 4096) {t : Nat} (ht : t < 12) : clq q 9 t = oN 12 (fun o => if (wsh (q 7) 12 o).testBit t = true then 2 ^ o else 0) := by
  refine bits_eq fun i => ?_
  simp only [clq]
  rw [if_neg (by decide), if_pos trivial, @oN_p 12 (fun i => TG q t i) (fun i => Classical.propDecidable _), @oN_p 12 (fun o => (wsh (q 7) 12 o).testBit t = true) _]
  constructor
  · rintro ⟨h1, h2⟩; exact ⟨h1, (wsh_12 h7 h1).mpr h2⟩
  · rintro ⟨h1, h2⟩; exact ⟨h1, (wsh_12 h7 h1).mp h2⟩
/-- copies of states -/
def CPk (n a b : Nat) (d0 d : Dt) : Prop := d.2 = d0.2 ∧ (∀ i, ¬ (12 * a ≤ i ∧ i ≤ 12 * a + n) → d.1 i = d0.1 i) ∧ ∀ j k, j ≤ n → k < szC j → d.1 (12 * a + j) k = d0.1 (12 * b + j) k
theorem CP_0 {a b : Nat} {d : Dt} (hab : a ≠ b) : CPk 0 a b d (dI (dI d (12 * a) (upd (d.1 (12 * a)) 0 (d.1 (12 * b) 0))) (12 * a) (upd ((dI d (12 * a) (upd (d.1 (12 * a)) 0 (d.1 (12 * b) 0))).1 (12 * a)) 1 (d.1 (12 * b) 1))) := by
  refine ⟨rfl, fun i hi => by rw [dI_n _ _ (by omega), dI_n _ _ (by omega)], fun j k hj hk => ?_⟩
  have e : j = 0 := by omega
  subst e
  have hk2 : k < 2 := hk
  rw [Nat.add_zero, Nat.add_zero, dI_s]
  simp only [upd]
  by_cases e1 : k = 1
  · rw [if_pos e1, e1]
  · have e0 : k = 0 := by omega
    rw [if_neg e1, dI_s, e0]
    simp only [upd, if_true]
theorem CP_s {n a b : Nat} {d0 d : Dt} (h : CPk n a b d0 d) (hab : a ≠ b) (hn : n < 11) : CPk (n + 1) a b d0 (dI d (12 * a + (n + 1)) (cpy (d.1 (12 * a + (n + 1))) (d.1 (12 * b + (n + 1))) (szC (n + 1)))) := by
  obtain ⟨h1, h2, h3⟩ := h
  refine ⟨h1, fun i hi => by rw [dI_n _ _ (by omega)]; exact h2 i (by omega), fun j k hj hk => ?_⟩
  by_cases e : j = n + 1
  · subst e
    rw [dI_s, cpy_lt _ _ hk, h2 _ (by omega)]
  · rw [dI_n _ _ (by omega)]; exact h3 j k (by omega) hk
def fSt (a : Nat) (d d' : Dt) : Prop := d'.2 = d.2 ∧ ∀ i, ¬ (12 * a ≤ i ∧ i < 12 * a + 12) → d'.1 i = d.1 i
theorem CP_KS {a b : Nat} {d0 d : Dt} (h : CPk 11 a b d0 d) {q : St} (hq : KS (12 * b) d0 q) : KS (12 * a) d q := fun j k hj hk => by rw [h.2.2 j k (by omega) hk]; exact hq j k hj hk
theorem CP_f {a b : Nat} {d0 d : Dt} (h : CPk 11 a b d0 d) : fSt a d0 d := ⟨h.1, fun i hi => h.2.1 i (by omega)⟩
