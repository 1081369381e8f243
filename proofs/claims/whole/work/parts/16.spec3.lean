/-! sets, the sequence, changes, times, loads -/
theorem oN_cut {n m : Nat} {f : Nat → Nat} (hnm : n ≤ m) (h : ∀ k, n ≤ k → k < m → f k = 0) : oN m f = oN n f := by
  induction m with
  | zero => rw [show n = 0 by omega]
  | succ m ih =>
    by_cases e : n = m + 1
    · rw [e]
    · simp only [oN]
      rw [ih (by omega) (fun k h1 h2 => h k h1 (by omega)), h m (by omega) (by omega), Nat.or_zero]
theorem sN_cut {n m : Nat} {f : Nat → Nat} (hnm : n ≤ m) (h : ∀ k, n ≤ k → k < m → f k = 0) : sN m f = sN n f := by
  induction m with
  | zero => rw [show n = 0 by omega]
  | succ m ih =>
    by_cases e : n = m + 1
    · rw [e]
    · simp only [sN]
      rw [ih (by omega) (fun k h1 h2 => h k h1 (by omega)), h m (by omega) (by omega), Nat.add_zero]
theorem sN_one {n k : Nat} {f g : Nat → Nat} (hk : k < n) (h1 : f k = g k + 1) (h2 : ∀ j, j < n → j ≠ k → f j = g j) : sN n f = sN n g + 1 := by
  induction n with
  | zero => omega
  | succ n ih =>
    simp only [sN]
    by_cases e : k = n
    · subst e
      rw [sN_congr (fun j hj => h2 j (by omega) (by omega)), h1]
      omega
    · rw [ih (by omega) (fun j hj hne => h2 j (by omega) hne), h2 n (by omega) (Ne.symm e)]
      omega
theorem sN_zero {n : Nat} {f : Nat → Nat} (h : sN n f = 0) : ∀ k, k < n → f k = 0 := by
  induction n with
  | zero => intro k hk; omega
  | succ n ih =>
    simp only [sN] at h
    intro k hk
    by_cases e : k = n
    · rw [e]; omega
    · exact ih (by omega) k (by omega)
/-- a without the tasks of s -/
def lacks (a s : Nat) : Nat := a &&& (4095 ^^^ s)
theorem bit4095 (i : Nat) : (4095 : Nat).testBit i = decide (i < 12) := by
  rw [show (4095 : Nat) = 2 ^ 12 - 1 from rfl, Nat.testBit_two_pow_sub_one]
theorem lacks_bit {a s i : Nat} (ha : a < 4096) : (lacks a s).testBit i = (a.testBit i && !(s.testBit i)) := by
  unfold lacks
  rw [Nat.testBit_and, Nat.testBit_xor, bit4095]
  cases h : a.testBit i with
  | false => rfl
  | true => rw [decide_eq_true (lt_of_bit (n := 12) ha h)]; cases s.testBit i <;> rfl
theorem lacks_lt {a s w : Nat} (ha : a < w) : lacks a s < w := Nat.lt_of_le_of_lt Nat.and_le_left ha
theorem nI_xor (a b : Nat) : nI a ^^^ nI b = nI (a ^^^ b) := by
  apply Int32.toBitVec_inj.mp
  show (BitVec.ofNat 32 a) ^^^ (BitVec.ofNat 32 b) = BitVec.ofNat 32 (a ^^^ b)
  apply BitVec.eq_of_toNat_eq
  simp [BitVec.toNat_xor, Nat.xor_mod_two_pow]
theorem nI_lacks {a s : Nat} (ha : a < 4096) (hs : s < 4096) : nI a &&& (nI s ^^^ (-1)) = nI (lacks a s) := by
  rw [show (-1 : Int32) = nI 4294967295 from by decide, nI_xor, nI_and]
  congr 1
  refine Nat.eq_of_testBit_eq fun i => ?_
  rw [lacks_bit ha, Nat.testBit_and, Nat.testBit_xor, show (4294967295 : Nat) = 2 ^ 32 - 1 from rfl, Nat.testBit_two_pow_sub_one]
  cases h : a.testBit i with
  | false => rfl
  | true =>
    have := lt_of_bit (n := 12) ha h
    rw [decide_eq_true (show i < 32 by omega)]
    cases s.testBit i <;> rfl
theorem nI_m2 {a : Nat} (ha : a < 4096) : nI a &&& (-2) = nI (lacks a 1) := by
  rw [← nI_lacks ha (by omega : 1 < 4096)]
  rfl
def clr (a k : Nat) : Nat := lacks a (2 ^ k)
theorem clr_bit {a k i : Nat} (ha : a < 4096) : (clr a k).testBit i = (a.testBit i && !decide (k = i)) := by
  unfold clr
  rw [lacks_bit ha, p2_bit]
def pcx (a : Nat) : Nat := sN 12 (fun k => if a.testBit k = true then 1 else 0)
theorem pcx_clr {a k : Nat} (ha : a < 4096) (hb : a.testBit k = true) : pcx a = pcx (clr a k) + 1 := by
  have hk := lt_of_bit (n := 12) ha hb
  refine sN_one hk ?_ (fun j hj hne => ?_)
  · rw [if_pos hb, if_neg (by rw [clr_bit ha]; simp)]
  · rw [clr_bit ha]
    rw [decide_eq_false (Ne.symm hne)]
    simp
theorem pcx_0 {a : Nat} (ha : a < 4096) (h : pcx a = 0) : a = 0 := by
  refine Nat.eq_of_testBit_eq fun i => ?_
  rw [Nat.zero_testBit]
  cases hb : a.testBit i with
  | false => rfl
  | true =>
    have := sN_zero h i (lt_of_bit (n := 12) ha hb)
    rw [if_pos hb] at this
    omega
theorem pcx_le (a : Nat) : pcx a ≤ 12 := by
  exact sN_le (n := 12) (b := 1) (f := fun k => if a.testBit k = true then 1 else 0) (fun k _ => by split <;> omega)
theorem pc_12 {a : Nat} (ha : a < 4096) : pc a = pcx a := by
  refine sN_cut (by omega) (fun k h1 _ => ?_)
  rw [if_neg (fun h => by have := lt_of_bit (n := 12) ha h; omega)]
/-- the next one, by the lowest place -/
theorem nxt_spec {q : St} {left : Nat} : ∀ k, k ≤ 12 → (∀ u, u < 12 - k → ¬ (left.testBit u = true ∧ q 8 u &&& left = 0)) → (∃ t, t < 12 ∧ left.testBit t = true ∧ q 8 t &&& left = 0) → (nxt q left k < 12 ∧ left.testBit (nxt q left k) = true ∧ q 8 (nxt q left k) &&& left = 0) ∧ ∀ u, u < nxt q left k → ¬ (left.testBit u = true ∧ q 8 u &&& left = 0) := by
  intro k
  induction k with
  | zero =>
    intro _ h1 ⟨t, h2, h3⟩
    exact absurd h3 (h1 t (by omega))
  | succ k ih =>
    intro hk h1 h2
    unfold nxt
    split
    · rename_i h
      exact ⟨⟨by omega, h⟩, fun u hu => h1 u (by omega)⟩
    · rename_i h
      refine ih (by omega) (fun u hu => ?_) h2
      by_cases e : u = 11 - k
      · rw [e]; exact h
      · exact h1 u (by omega)
theorem nxt_ok {q : St} (ok : QOK q) {left : Nat} (hl : left < 4096) (h0 : left ≠ 0) : (nxt q left 12 < 12 ∧ left.testBit (nxt q left 12) = true ∧ q 8 (nxt q left 12) &&& left = 0) ∧ ∀ u, u < nxt q left 12 → ¬ (left.testBit u = true ∧ q 8 u &&& left = 0) :=
  nxt_spec 12 (Nat.le_refl _) (fun u hu => by omega) (exNext ok hl h0)
theorem nxt_uniq {q : St} (ok : QOK q) {left v : Nat} (hl : left < 4096) (h0 : left ≠ 0) (h1 : left.testBit v = true ∧ q 8 v &&& left = 0) (h2 : ∀ u, u < v → ¬ (left.testBit u = true ∧ q 8 u &&& left = 0)) : v = nxt q left 12 := by
  obtain ⟨a, b⟩ := nxt_ok ok hl h0
  rcases Nat.lt_trichotomy v (nxt q left 12) with e | e | e
  · exact absurd h1 (b v e)
  · exact e
  · exact absurd ⟨a.2.1, a.2.2⟩ (h2 _ e)
def ordF (q : St) : Nat → Nat → List Nat
  | 0, _ => []
  | f + 1, left => if left = 0 then [] else nxt q left 12 :: ordF q f (clr left (nxt q left 12))
def ordL (q : St) (S : Nat) : List Nat := ordF q 12 S
theorem ordF_len {q : St} : ∀ f left, (ordF q f left).length ≤ f := by
  intro f
  induction f with
  | zero => intro left; simp [ordF]
  | succ f ih =>
    intro left
    unfold ordF
    split
    · simp
    · have := ih (clr left (nxt q left 12))
      simp
      exact this
theorem ordF_mem {q : St} (ok : QOK q) {n : Nat} (hn : n ≤ 12) : ∀ f left, left < 2 ^ n → ∀ t ∈ ordF q f left, t < n ∧ left.testBit t = true := by
  intro f
  induction f with
  | zero => intro left _ t h; simp [ordF] at h
  | succ f ih =>
    intro left hl t h
    have hp := pow12 hn
    unfold ordF at h
    split at h
    · simp at h
    · rename_i h0
      obtain ⟨a, b⟩ := nxt_ok ok (show left < 4096 by omega) h0
      rcases List.mem_cons.mp h with e | e
      · rw [e]; exact ⟨lt_of_bit hl a.2.1, a.2.1⟩
      · obtain ⟨c1, c2⟩ := ih _ (lacks_lt hl) t e
        have c3 := clr_bit (a := left) (k := nxt q left 12) (i := t) (by omega)
        rw [show (clr left (nxt q left 12)).testBit t = true from c2] at c3
        exact ⟨c1, (Bool.and_eq_true _ _ ▸ c3.symm : _ ∧ _).1⟩
/-- the tools that are looked at -/
def tlL (q : St) (L : List Nat) (m : Nat) : List Nat := (L.filter (fun t => decide (0 < q 4 (3 * t + m) ∧ q 5 t ≠ 0))).map (q 5)
def chg (U : List Nat) : Nat := sN U.length (fun k => if U.getD k 0 ≠ U.getD (if k + 1 = U.length then 0 else k + 1) 0 then 1 else 0)
def tsum (q : St) (L : List Nat) (m : Nat) : Nat := sN L.length (fun k => q 4 (3 * L.getD k 0 + m))
def tmL (q : St) (L : List Nat) (m : Nat) : Nat := chg (tlL q L m) * q 2 1 + tsum q L m
def tm (q : St) (S m : Nat) : Nat := tmL q (ordL q S) m
def ld (q : St) (S : Nat) : Nat := sN (q 0 0) (fun m => q 1 m * tm q S m)
def fitB (q : St) (S c : Nat) : Bool := if q 2 3 = 0 then decide (ld q S ≤ c * q 2 0 * td q) else decide (∀ m, m < q 0 0 → tm q S m ≤ c * q 2 0)
theorem tlL_len (q : St) (L : List Nat) (m : Nat) : (tlL q L m).length ≤ L.length := by
  simp only [tlL, List.length_map]
  exact List.length_filter_le _ _
theorem tlL_snoc (q : St) (L : List Nat) (t m : Nat) : tlL q (L ++ [t]) m = if 0 < q 4 (3 * t + m) ∧ q 5 t ≠ 0 then tlL q L m ++ [q 5 t] else tlL q L m := by
  simp only [tlL, List.filter_append, List.map_append]
  split
  · rename_i h
    rw [List.filter_cons_of_pos (by simpa using h)]
    rfl
  · rename_i h
    rw [List.filter_cons_of_neg (by simpa using h)]
    simp
theorem chg_le (U : List Nat) : chg U ≤ U.length := by
  have := sN_le (n := U.length) (b := 1) (f := fun k => if U.getD k 0 ≠ U.getD (if k + 1 = U.length then 0 else k + 1) 0 then 1 else 0) (fun k _ => by generalize U.getD (if k + 1 = U.length then 0 else k + 1) 0 = z; split <;> omega)
  rw [Nat.mul_one] at this
  exact this
theorem getD_mem {L : List Nat} {k : Nat} (hk : k < L.length) : L.getD k 0 ∈ L := by
  rw [List.getD_eq_getElem?_getD, List.getElem?_eq_getElem hk]
  exact List.getElem_mem hk
theorem tm_le {q : St} (ok : QOK q) {S m : Nat} (hS : S < 2 ^ q 0 1) (hm : m < 3) : tm q S m ≤ 1428 := by
  have hL : (ordL q S).length ≤ 12 := ordF_len 12 S
  have h1 : chg (tlL q (ordL q S) m) ≤ 12 := Nat.le_trans (chg_le _) (Nat.le_trans (tlL_len _ _ _) hL)
  have h2 : tsum q (ordL q S) m ≤ (ordL q S).length * 99 := sN_le fun k hk => by
    refine ok.2.2.2.2.2.1 _ ?_
    have : (ordL q S).getD k 0 < q 0 1 := (ordF_mem ok ok.2.1 12 S hS _ (getD_mem hk)).1
    have := ok.2.1
    omega
  have h3 : q 2 1 ≤ 20 := ok.2.2.2.1.2.2.1
  have h4 : chg (tlL q (ordL q S) m) * q 2 1 ≤ 12 * 20 := Nat.mul_le_mul h1 h3
  show chg (tlL q (ordL q S) m) * q 2 1 + tsum q (ordL q S) m ≤ 1428
  have h5 : (ordL q S).length * 99 ≤ 12 * 99 := Nat.mul_le_mul_right _ hL
  omega
theorem ld_le {q : St} (ok : QOK q) {S : Nat} (hS : S < 2 ^ q 0 1) : ld q S ≤ 38556 := by
  have h : ld q S ≤ q 0 0 * (9 * 1428) := sN_le fun m hm => Nat.mul_le_mul (ok.2.2.1 m (by have := ok.1.2; omega)).2 (tm_le ok hS (by have := ok.1.2; omega))
  have := ok.1.2
  have h2 : q 0 0 * (9 * 1428) ≤ 3 * (9 * 1428) := Nat.mul_le_mul_right _ this
  omega
theorem td_le {q : St} (ok : QOK q) : 1 ≤ td q ∧ td q ≤ 27 := by
  obtain ⟨⟨h1, h2⟩, -, hd, -⟩ := ok
  constructor
  · have e : ∀ n, 1 ≤ n → n ≤ 3 → 1 ≤ sN n (q 1) := by
      intro n a b
      have := (hd 0 (by omega)).1
      match n, a, b with
      | 1, _, _ => simp [sN]; omega
      | 2, _, _ => simp [sN]; omega
      | 3, _, _ => simp [sN]; omega
    exact e _ h1 h2
  · have h : td q ≤ q 0 0 * 9 := sN_le fun m hm => (hd m (by omega)).2
    have h3 : q 0 0 * 9 ≤ 3 * 9 := Nat.mul_le_mul_right _ h2
    omega
