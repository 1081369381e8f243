/-! lines that keep to what is told; the first line; what least, ways and takeLeast answer -/
theorem sN_pos {n : Nat} {f : Nat → Nat} : 0 < sN n f ↔ ∃ k, k < n ∧ 0 < f k := by
  induction n with
  | zero => exact ⟨fun h => absurd h (Nat.lt_irrefl _), fun ⟨k, hk, _⟩ => absurd hk (Nat.not_lt_zero _)⟩
  | succ n ih =>
    simp only [sN]
    constructor
    · intro h
      by_cases e : 0 < f n
      · exact ⟨n, by omega, e⟩
      · obtain ⟨k, h1, h2⟩ := ih.mp (by omega)
        exact ⟨k, by omega, h2⟩
    · rintro ⟨k, h1, h2⟩
      by_cases e : k = n
      · rw [← e]; omega
      · have := ih.mpr ⟨k, by omega, h2⟩
        omega
def mtc (q : St) (tl : Nat → Nat) (n S : Nat) (f : Nat → Nat) : Prop := ∀ t, t < q 0 1 → tl t ≠ 0 → (S.testBit t = true → f t + 1 = tl t) ∧ (S.testBit t = false → n < tl t)
theorem tlF_iff {tl : Nat → Nat} {P s t : Nat} (h : tl t ≠ 0) : tlF tl P s t = true ↔ (tl t = s + 1 ↔ P.testBit t = true) := by
  unfold tlF
  rw [decide_eq_false h, Bool.false_or, beq_iff_eq]
  by_cases e : tl t = s + 1
  · rw [decide_eq_true e]
    exact ⟨fun z => ⟨fun _ => z.symm, fun _ => e⟩, fun z => (z.mp e).symm⟩
  · rw [decide_eq_false e]
    constructor
    · intro z; exact ⟨fun w => absurd w e, fun w => by rw [← z] at w; cases w⟩
    · intro z
      cases hb : P.testBit t with
      | false => rfl
      | true => exact absurd (z.mpr hb) e
theorem cnt_pos {q : St} {tl : Nat → Nat} (hm : q 0 1 ≤ 12) : ∀ n S, S < 2 ^ q 0 1 → (0 < cntQ q tl n S ↔ ∃ f, Wy q f n S ∧ mtc q tl n S f) := by
  have hp := pow12 hm
  intro n
  induction n with
  | zero =>
    intro S _
    show 0 < (if S = 0 then 1 else 0) ↔ _
    constructor
    · intro h
      split at h
      · rename_i e
        exact ⟨fun _ => 0, e, fun t _ h0 => ⟨fun z => (by rw [e, Nat.zero_testBit] at z; cases z), fun _ => (by omega)⟩⟩
      · omega
    · rintro ⟨f, h, _⟩
      rw [if_pos (show S = 0 from h)]
      omega
  | succ n ih =>
    intro S hS
    show 0 < (if clB q S = true then sN (2 ^ q 0 1) (cntF q tl (cntQ q tl n) n S) else 0) ↔ _
    constructor
    · intro h
      split at h
      · rename_i hc
        obtain ⟨P, _, h2⟩ := sN_pos.mp h
        unfold cntF at h2
        split at h2
        · rename_i h3
          obtain ⟨hP, hr, ht⟩ := h3
          obtain ⟨f, g1, g2⟩ := (ih _ (lacks_lt hS)).mp h2
          refine ⟨ext f P n, (Wy_ext hm hS hc hP hr g1).1, fun t htm h0 => ?_⟩
          have hb := (tlF_iff h0).mp (alB_iff.mp ht t htm)
          have hg := g2 t htm h0
          rw [lacks_bit (by omega)] at hg
          unfold ext
          cases hz : P.testBit t with
          | true =>
            rw [if_pos rfl]
            exact ⟨fun _ => (hb.mpr hz).symm, fun z => by rw [sub_bit hP hz] at z; cases z⟩
          | false =>
            rw [if_neg Bool.false_ne_true]
            rw [hz, Bool.not_false, Bool.and_true] at hg
            refine ⟨hg.1, fun z => ?_⟩
            have := hg.2 z
            have h9 : tl t ≠ n + 1 := fun w => by rw [hb.mp w] at hz; cases hz
            omega
        · omega
      · omega
    · rintro ⟨f, ⟨hc, hr, h1⟩, h2⟩
      rw [if_pos hc, sN_pos]
      refine ⟨prtQ q f n S, sub_lt prt_sub hS, ?_⟩
      have htl : tlB q tl (prtQ q f n S) n = true := alB_iff.mpr fun t ht => by
        by_cases h0 : tl t = 0
        · unfold tlF; rw [decide_eq_true h0]; rfl
        · rw [tlF_iff h0, prt_bit]
          have hg := h2 t ht h0
          cases hz : S.testBit t with
          | false => exact ⟨fun w => by have := hg.2 hz; omega, fun w => by cases w.2.1⟩
          | true => exact ⟨fun w => ⟨ht, rfl, by have := hg.1 hz; omega⟩, fun w => by have := hg.1 hz; have := w.2.2; omega⟩
      unfold cntF
      rw [if_pos ⟨prt_sub, hr, htl⟩, ih _ (lacks_lt hS)]
      refine ⟨f, h1, fun t ht h0 => ?_⟩
      have hg := h2 t ht h0
      rw [lacks_bit (by omega)]
      cases hz : S.testBit t with
      | false => exact ⟨fun z => (by cases z), fun _ => by have := hg.2 hz; omega⟩
      | true =>
        refine ⟨fun _ => hg.1 hz, fun z => ?_⟩
        cases hb : (prtQ q f n S).testBit t with
        | false => rw [hb] at z; cases z
        | true =>
          have := ((prt_bit _ _ _ _ _).mp hb).2.2
          have := hg.1 hz
          omega
/-! the least of some numbers, and one; 0: none -/
def MinOf (A : Nat → Prop) (z : Nat) : Prop := (z = 0 ∧ ∀ w, ¬ A w) ∨ (∃ w, z = w + 1 ∧ A w ∧ ∀ w', A w' → w ≤ w')
theorem exMin (A : Nat → Prop) : ∃ z, MinOf A z := by
  by_cases h : ∃ w, A w
  · obtain ⟨w, hw⟩ := h
    have key : ∀ n w, w ≤ n → A w → ∃ z, MinOf A z := by
      intro n
      induction n with
      | zero => intro w h1 h2; exact ⟨w + 1, Or.inr ⟨w, rfl, h2, fun w' _ => by omega⟩⟩
      | succ n ih =>
        intro w h1 h2
        by_cases e : ∃ v, v < w ∧ A v
        · obtain ⟨v, e1, e2⟩ := e
          exact ih v (by omega) e2
        · exact ⟨w + 1, Or.inr ⟨w, rfl, h2, fun w' h' => by
            rcases Nat.lt_or_ge w' w with z | z
            · exact absurd ⟨w', z, h'⟩ e
            · exact z⟩⟩
    exact key w w (Nat.le_refl _) hw
  · exact ⟨0, Or.inl ⟨rfl, fun w hw => h ⟨w, hw⟩⟩⟩
theorem MinOf.uniq {A : Nat → Prop} {y z : Nat} (h : MinOf A y) (g : MinOf A z) : y = z := by
  rcases h with ⟨rfl, h⟩ | ⟨v, rfl, h1, h2⟩ <;> rcases g with ⟨rfl, g⟩ | ⟨w, rfl, g1, g2⟩
  · rfl
  · exact absurd g1 (h w)
  · exact absurd h1 (g v)
  · have := h2 w g1; have := g2 v h1; omega
theorem MinOf.congr {A B : Nat → Prop} {z : Nat} (h : MinOf A z) (e : ∀ w, A w ↔ B w) : MinOf B z := by
  rcases h with ⟨rfl, h⟩ | ⟨v, rfl, h1, h2⟩
  · exact Or.inl ⟨rfl, fun w hw => h w ((e w).mpr hw)⟩
  · exact Or.inr ⟨v, rfl, (e v).mp h1, fun w hw => h2 w ((e w).mpr hw)⟩
noncomputable def mnOf (A : Nat → Prop) : Nat := Classical.choose (exMin A)
theorem mnOf_spec (A : Nat → Prop) : MinOf A (mnOf A) := Classical.choose_spec (exMin A)
noncomputable def fstQ (q : St) (n S : Nat) : Nat := mnOf (Wc q n S)
/-! codes and digits -/
def dgt (w t : Nat) : Nat := w / 8 ^ (7 - t) % 8
def hrn (f : Nat → Nat) : Nat → Nat
  | 0 => 0
  | k + 1 => hrn f k * 8 + f k
def fulQ (q : St) : Nat := 2 ^ q 0 1 - 1
theorem ful_bit (q : St) (t : Nat) : (fulQ q).testBit t = decide (t < q 0 1) := Nat.testBit_two_pow_sub_one _ _
theorem ful_lt (q : St) : fulQ q < 2 ^ q 0 1 := Nat.sub_lt (Nat.two_pow_pos _) (by omega)
theorem sN_hrn (f : Nat → Nat) : ∀ k, k ≤ 8 → sN k (fun t => f t * 8 ^ (7 - t)) = hrn f k * 8 ^ (8 - k) := by
  intro k
  induction k with
  | zero => intro _; simp [sN, hrn]
  | succ k ih =>
    intro hk
    have e1 := ih (by omega)
    have e2 : 8 ^ (8 - k) = 8 * 8 ^ (8 - (k + 1)) := by rw [show 8 - k = (8 - (k + 1)) + 1 by omega, Nat.pow_succ, Nat.mul_comm]
    have e3 : (8 : Nat) ^ (7 - k) = 8 ^ (8 - (k + 1)) := by rw [show 7 - k = 8 - (k + 1) by omega]
    show sN k (fun t => f t * 8 ^ (7 - t)) + f k * 8 ^ (7 - k) = (hrn f k * 8 + f k) * 8 ^ (8 - (k + 1))
    rw [e1, e2, e3, Nat.add_mul, Nat.mul_assoc]
theorem cod_ful {q : St} (hm : q 0 1 ≤ 8) (f : Nat → Nat) : cod q f (fulQ q) = hrn f (q 0 1) * 8 ^ (8 - q 0 1) := by
  rw [← sN_hrn f _ hm]
  refine sN_congr fun t ht => ?_
  unfold cdF
  rw [ful_bit, decide_eq_true ht, if_pos rfl]
theorem hrn_lt {f g : Nat → Nat} {t : Nat} : ∀ m, t < m → (∀ k, k < t → f k = g k) → f t < g t → (∀ k, k < m → f k < 8) → hrn f m < hrn g m := by
  have e0 : ∀ k, k ≤ t → (∀ k, k < t → f k = g k) → hrn f k = hrn g k := by
    intro k
    induction k with
    | zero => intro _ _; rfl
    | succ k ih => intro hk h; show hrn f k * 8 + f k = hrn g k * 8 + g k; rw [ih (by omega) h, h k (by omega)]
  intro m
  induction m with
  | zero => intro h; omega
  | succ m ih =>
    intro hm h1 h2 h3
    show hrn f m * 8 + f m < hrn g m * 8 + g m
    by_cases e : t = m
    · subst e
      rw [e0 t (Nat.le_refl _) h1]
      omega
    · have := ih (by omega) h1 h2 (fun k hk => h3 k (by omega))
      have := h3 m (by omega)
      omega
theorem hrn_dig {f : Nat → Nat} : ∀ m, (∀ k, k < m → f k < 8) → ∀ k, k < m → hrn f m / 8 ^ (m - 1 - k) % 8 = f k := by
  intro m
  induction m with
  | zero => intro _ k hk; omega
  | succ m ih =>
    intro h k hk
    show (hrn f m * 8 + f m) / 8 ^ (m + 1 - 1 - k) % 8 = f k
    have h8 := h m (by omega)
    by_cases e : k = m
    · subst e
      rw [show k + 1 - 1 - k = 0 by omega, Nat.pow_zero, Nat.div_one]
      omega
    · rw [show m + 1 - 1 - k = (m - 1 - k) + 1 by omega, Nat.pow_succ, Nat.mul_comm (8 ^ (m - 1 - k)) 8, ← Nat.div_div_eq_div_mul, show (hrn f m * 8 + f m) / 8 = hrn f m by omega]
      exact ih (fun k hk => h k (by omega)) k (by omega)
theorem dgt_cod {q : St} (hm : q 0 1 ≤ 8) {f : Nat → Nat} (hf : ∀ k, k < q 0 1 → f k < 8) {t : Nat} (ht : t < q 0 1) : dgt (cod q f (fulQ q)) t = f t := by
  unfold dgt
  rw [cod_ful hm, show 8 ^ (7 - t) = 8 ^ (8 - q 0 1) * 8 ^ (q 0 1 - 1 - t) by rw [← Nat.pow_add]; congr 1; omega, ← Nat.div_div_eq_div_mul, Nat.mul_div_cancel _ (Nat.pow_pos (by omega))]
  exact hrn_dig _ hf t ht
/-! what is told on the way to the first line -/
def tl0 : Nat → Nat := fun _ => 0
def tlD (w t : Nat) : Nat → Nat := fun k => if k < t then dgt w k + 1 else 0
def tlV (w t v : Nat) : Nat → Nat := fun k => if k = t then v + 1 else tlD w t k
theorem tlD_0 (w : Nat) : tlD w 0 = tl0 := by funext k; simp [tlD, tl0]
theorem tlV_s (w t : Nat) : tlV w t (dgt w t) = tlD w (t + 1) := by
  funext k
  simp only [tlV, tlD]
  by_cases e : k = t
  · subst e; rw [if_pos rfl, if_pos (by omega)]
  · rw [if_neg e]
    by_cases e2 : k < t
    · rw [if_pos e2, if_pos (by omega)]
    · rw [if_neg e2, if_neg (by omega)]
theorem fst_line {q : St} (hm : q 0 1 ≤ 8) {n w : Nat} (hn : n ≤ 8) (h : fstQ q n (fulQ q) = w + 1) : ∃ f, Wy q f n (fulQ q) ∧ w = cod q f (fulQ q) ∧ (∀ k, k < q 0 1 → f k < n) ∧ (∀ k, k < q 0 1 → dgt w k = f k) ∧ ∀ g, Wy q g n (fulQ q) → w ≤ cod q g (fulQ q) := by
  have hs := mnOf_spec (Wc q n (fulQ q))
  rw [show mnOf (Wc q n (fulQ q)) = w + 1 from h] at hs
  rcases hs with ⟨h0, _⟩ | ⟨v, hv, ⟨f, hf, hc⟩, hmin⟩
  · omega
  · have e : v = w := by omega
    subst e
    have hl : ∀ k, k < q 0 1 → f k < n := fun k hk => Wy_lt (by omega) n _ (ful_lt q) hf k (by rw [ful_bit, decide_eq_true hk])
    exact ⟨f, hf, hc, hl, fun k hk => by rw [hc]; exact dgt_cod hm (fun j hj => by have := hl j hj; omega) hk, fun g hg => hmin _ ⟨g, hg, rfl⟩⟩
theorem greedy_no {q : St} (hm : q 0 1 ≤ 8) {n w t v : Nat} (hn : n ≤ 8) (h : fstQ q n (fulQ q) = w + 1) (ht : t < q 0 1) (hv : v < dgt w t) : cntQ q (tlV w t v) n (fulQ q) = 0 := by
  obtain ⟨f, h1, h2, h3, h4, h5⟩ := fst_line hm hn h
  rcases Nat.eq_zero_or_pos (cntQ q (tlV w t v) n (fulQ q)) with e | e
  · exact e
  · exfalso
    obtain ⟨g, g1, g2⟩ := (cnt_pos (by omega) n _ (ful_lt q)).mp e
    have hb : ∀ k, k < q 0 1 → (fulQ q).testBit k = true := fun k hk => by rw [ful_bit, decide_eq_true hk]
    have gt : g t = v := by
      have := (g2 t ht (by simp [tlV])).1 (hb t ht)
      simp only [tlV, if_true] at this
      omega
    have gk : ∀ k, k < t → g k = f k := fun k hk => by
      have := (g2 k (by omega) (by simp only [tlV, tlD]; rw [if_neg (by omega), if_pos hk]; omega)).1 (hb k (by omega))
      simp only [tlV, tlD] at this
      rw [if_neg (by omega), if_pos hk, h4 k (by omega)] at this
      omega
    have gl : ∀ k, k < q 0 1 → g k < 8 := fun k hk => by have := Wy_lt (by omega) n _ (ful_lt q) g1 k (hb k hk); omega
    have h6 := hrn_lt (q 0 1) ht gk (by rw [gt, ← h4 t ht]; exact hv) gl
    have h7 := h5 g g1
    rw [h2, cod_ful hm, cod_ful hm] at h7
    have := Nat.le_of_mul_le_mul_right h7 (Nat.pow_pos (by omega))
    omega
theorem greedy_yes {q : St} (hm : q 0 1 ≤ 8) {n w t : Nat} (hn : n ≤ 8) (h : fstQ q n (fulQ q) = w + 1) (ht : t < q 0 1) : 0 < cntQ q (tlV w t (dgt w t)) n (fulQ q) := by
  obtain ⟨f, h1, h2, h3, h4, h5⟩ := fst_line hm hn h
  refine (cnt_pos (by omega) n _ (ful_lt q)).mpr ⟨f, h1, fun k hk h0 => ⟨fun _ => ?_, fun z => by rw [ful_bit, decide_eq_true hk] at z; cases z⟩⟩
  rw [tlV_s] at h0 ⊢
  simp only [tlD] at h0 ⊢
  split
  · rw [h4 k hk]
  · rename_i z
    rw [if_neg z] at h0
    exact absurd rfl h0
theorem cnt_fst {q : St} (hm : q 0 1 ≤ 12) {n S : Nat} (hS : S < 2 ^ q 0 1) : 0 < cntQ q tl0 n S ↔ fstQ q n S ≠ 0 := by
  rw [cnt_pos hm n S hS]
  rcases mnOf_spec (Wc q n S) with ⟨h0, h⟩ | ⟨v, hv, ⟨f, hf, _⟩, _⟩
  · exact ⟨fun ⟨f, h1, _⟩ => absurd ⟨f, h1, rfl⟩ (h _), fun z => absurd h0 z⟩
  · exact ⟨fun _ => by show mnOf _ ≠ 0; omega, fun _ => ⟨f, hf, fun t _ z => absurd rfl z⟩⟩
/-! what the calls answer -/
def lstQ (q : St) : Nat → Nat
  | 0 => 0
  | k + 1 => if 0 < cntQ q tl0 (8 - k) (fulQ q) then 9 - k else lstQ q k
theorem lstQ_in (q : St) : ∀ k, k ≤ 9 → lstQ q k ≤ 9 ∧ (lstQ q k ≠ 0 → 0 < cntQ q tl0 (lstQ q k - 1) (fulQ q)) := by
  intro k
  induction k with
  | zero => intro _; exact ⟨Nat.zero_le _, fun h => absurd rfl h⟩
  | succ k ih =>
    intro hk
    unfold lstQ
    split
    · rename_i h
      exact ⟨by omega, fun _ => by rw [show 9 - k - 1 = 8 - k by omega]; exact h⟩
    · exact ih (by omega)
noncomputable def tkw (q : St) (n : Nat) : Nat := fstQ q n (fulQ q) - 1
noncomputable def tkq (q : St) (n : Nat) : St := fun i k => if i = 6 ∧ k < q 0 1 then dgt (tkw q n) k + 1 else q i k
noncomputable def mvd (q : St) (n j : Nat) : Nat := sN j (fun t => if q 6 t = dgt (tkw q n) t + 1 then 0 else 1)
theorem dgt_lt (w t : Nat) : dgt w t < 8 := Nat.mod_lt _ (by omega)
def oLeast (y : Sy) : Out := if 8 < y.1 0 1 then (1, 0, y) else if lstQ y.1 9 = 0 then (2, 0, y) else (0, nI (lstQ y.1 9 - 1), y)
noncomputable def oTake (y : Sy) : Out := if 8 < y.1 0 1 then (1, 0, y) else if lstQ y.1 9 = 0 then (2, 0, y) else (0, nI (mvd y.1 (lstQ y.1 9 - 1) (y.1 0 1)), push2 y (tkq y.1 (lstQ y.1 9 - 1)) y.2.2.2.1)
def oWays (y : Sy) (s : Int32) : Nat × Int64 := if gI 0 8 s then (if 8 < y.1 0 1 then (2, 0) else (0, lN (cntQ y.1 tl0 (iv s) (fulQ y.1)))) else (1, 0)
theorem QOK_6s {q q1 : St} (ok : QOK q) (h : ∀ i k, i ≠ 6 → q1 i k = q i k) (h6 : ∀ k, k < 12 → q1 6 k ≤ 8) (h60 : ∀ k, q 0 1 ≤ k → k < 12 → q1 6 k = 0) : QOK q1 := by
  have hT : TG q1 = TG q := by
    have : TE q1 = TE q := by funext x y; simp only [TE]; rw [h _ _ (by decide)]
    simp only [TG, this]
  obtain ⟨o0, o1, o2, o3, o4, o5, o6, o7, o8, o9, o10, o11, o12⟩ := ok
  refine ⟨by rw [h _ _ (by decide)]; exact o0, by rw [h _ _ (by decide)]; exact o1, fun k hk => by rw [h _ _ (by decide)]; exact o2 k hk, ?_, fun k hk => by rw [h _ _ (by decide)]; exact o4 k hk, fun k hk => by rw [h _ _ (by decide)]; exact o5 k hk, fun k hk => ⟨by rw [h _ _ (by decide)]; exact (o6 k hk).1, h6 k hk⟩, fun k h1 h2 => ?_, fun k hk => ?_, fun k hk => ?_, fun t i ht => ?_, fun t i ht => ?_, fun t => by rw [hT]; exact o12 t⟩
  · rw [h 2 _ (by decide), h 2 _ (by decide), h 2 _ (by decide), h 2 _ (by decide)]; exact o3
  · rw [h 0 _ (by decide)] at h1
    exact ⟨h60 k h1 h2, by rw [h 7 _ (by decide)]; exact (o7 k h1 h2).2.1, by rw [h 10 _ (by decide)]; exact (o7 k h1 h2).2.2.1, by rw [h 11 _ (by decide)]; exact (o7 k h1 h2).2.2.2⟩
  · rw [h 0 _ (by decide), h 7 _ (by decide), h 10 _ (by decide), h 11 _ (by decide)]; exact o8 k hk
  · rw [h 10 _ (by decide), h 11 _ (by decide)]; exact o9 k hk
  · rw [h 8 _ (by decide), hT]; exact o10 t i ht
  · rw [h 9 _ (by decide), hT]; exact o11 t i ht
