/-! closure -/
def stp (q : St) (n S : Nat) : Nat := S ||| oN n (fun k => if S.testBit k = true then q 7 k else 0)
theorem stp_ge (q : St) (n S : Nat) : S ≤ stp q n S := Nat.left_le_or
theorem stp_lt {q : St} (ok : QOK q) {S : Nat} (hS : S < 2 ^ q 0 1) : stp q (q 0 1) S < 2 ^ q 0 1 := by
  obtain ⟨-, h12, -, -, -, -, -, -, hm, -⟩ := ok
  refine Nat.or_lt_two_pow hS (oN_lt fun k hk => ?_)
  split
  · exact (hm k (by omega)).1
  · exact Nat.two_pow_pos _
def aGood (q : St) (t S : Nat) : Prop := S < 2 ^ q 0 1 ∧ (∀ i, (q 7 t).testBit i = true → S.testBit i = true) ∧ ∀ i, S.testBit i = true → TG q i t
theorem aGood_0 {q : St} (ok : QOK q) {t : Nat} (ht : t < 12) : aGood q t (q 7 t) := by
  obtain ⟨-, h12, -, -, -, -, -, -, hm, -⟩ := ok
  exact ⟨(hm t ht).1, fun _ h => h, fun i h => Relation.TransGen.single ⟨ht, h⟩⟩
theorem lt_of_bit {S n i : Nat} (hS : S < 2 ^ n) (h : S.testBit i = true) : i < n := by
  rcases Nat.lt_or_ge i n with q | q
  · exact q
  · rw [Nat.testBit_lt_two_pow (Nat.lt_of_lt_of_le hS (Nat.pow_le_pow_right (by omega) q))] at h
    cases h
theorem aGood_s {q : St} (ok : QOK q) {t S : Nat} (h : aGood q t S) : aGood q t (stp q (q 0 1) S) := by
  obtain ⟨h1, h2, h3⟩ := h
  refine ⟨stp_lt ok h1, fun i hi => ?_, fun i hi => ?_⟩
  · simp only [stp, Nat.testBit_or, h2 i hi, Bool.true_or]
  · simp only [stp, Nat.testBit_or, Bool.or_eq_true] at hi
    rcases hi with hi | hi
    · exact h3 i hi
    · obtain ⟨k, hk, hb⟩ := oN_bit.mp hi
      split at hb
      · rename_i hk2
        have h12 := ok.2.1
        exact Relation.TransGen.trans (Relation.TransGen.single ⟨by omega, hb⟩) (h3 k hk2)
      · simp at hb
theorem bits_eq {a b : Nat} (h : ∀ i, a.testBit i = true ↔ b.testBit i = true) : a = b := Nat.eq_of_testBit_eq fun i => by
  have := h i
  cases h1 : a.testBit i <;> cases h2 : b.testBit i <;> simp_all
theorem aGood_e {q : St} (ok : QOK q) {t S : Nat} (ht : t < 12) (h : aGood q t S) (he : stp q (q 0 1) S = S) : S = q 8 t := by
  obtain ⟨h1, h2, h3⟩ := h
  have hq := ok.2.2.2.2.2.2.2.2.2.2.1
  have cl : ∀ j i, S.testBit j = true → TG q i j → S.testBit i = true := by
    intro j i hj hij
    induction hij with
    | single e =>
      rw [← he]
      simp only [stp, Nat.testBit_or, Bool.or_eq_true]
      exact Or.inr (oN_bit.mpr ⟨_, lt_of_bit h1 hj, by rw [if_pos hj]; exact e.2⟩)
    | tail _ e ih =>
      refine ih ?_
      rw [← he]
      simp only [stp, Nat.testBit_or, Bool.or_eq_true]
      exact Or.inr (oN_bit.mpr ⟨_, lt_of_bit h1 hj, by rw [if_pos hj]; exact e.2⟩)
  refine bits_eq fun i => ?_
  rw [hq t i ht]
  refine ⟨h3 i, fun hi => ?_⟩
  cases hi with
  | single e => exact h2 i e.2
  | tail a e => exact cl _ i (h2 _ e.2) a
theorem pow12 {n : Nat} (h : n ≤ 12) : 2 ^ n ≤ 4096 := Nat.le_trans (Nat.pow_le_pow_right (by omega) h) (by decide)
theorem q8_lt {q : St} (ok : QOK q) {t : Nat} (ht : t < 12) : q 8 t < 2 ^ q 0 1 := by
  refine Nat.lt_pow_two_of_testBit _ fun i hi => ?_
  cases hb : (q 8 t).testBit i with
  | false => rfl
  | true =>
    have h1 := (ok.2.2.2.2.2.2.2.2.2.2.1 t i ht).mp hb
    have key : ∀ {j}, TG q i j → i < q 0 1 := by
      intro j hj
      induction hj with
      | single e => exact lt_of_bit (ok.2.2.2.2.2.2.2.2.1 _ e.1).1 e.2
      | tail _ _ ih => exact ih
    exact absurd (key h1) (by omega)
theorem q9_lt {q : St} (ok : QOK q) {t : Nat} (ht : t < 12) : q 9 t < 2 ^ q 0 1 := by
  refine Nat.lt_pow_two_of_testBit _ fun i hi => ?_
  cases hb : (q 9 t).testBit i with
  | false => rfl
  | true =>
    have h1 := ((ok.2.2.2.2.2.2.2.2.2.2.2.1 t i ht).mp hb).2
    have key : ∀ {j}, TG q t j → j < q 0 1 := by
      intro j hj
      cases hj with
      | single e =>
        rcases Nat.lt_or_ge j (q 0 1) with z | z
        · exact z
        · rw [TE, (ok.2.2.2.2.2.2.2.1 j z e.1).2.1] at e
          simp at e
      | tail _ e =>
        rcases Nat.lt_or_ge j (q 0 1) with z | z
        · exact z
        · rw [TE, (ok.2.2.2.2.2.2.2.1 j z e.1).2.1] at e
          simp at e
    exact absurd (key h1) (by omega)
/-- t is before whom: as the code gathers it -/
theorem q9_eq {q : St} (ok : QOK q) {t : Nat} (ht : t < 12) : oN (q 0 1) (fun k => if (q 8 k).testBit t = true then 2 ^ k else 0) = q 9 t := by
  refine bits_eq fun i => ?_
  have h12 := ok.2.1
  rw [oN_bit]
  constructor
  · rintro ⟨k, hk, hb⟩
    split at hb
    · rename_i h8
      rw [p2_bit] at hb
      have e : k = i := of_decide_eq_true hb
      subst e
      exact (ok.2.2.2.2.2.2.2.2.2.2.2.1 t k ht).mpr ⟨by omega, (ok.2.2.2.2.2.2.2.2.2.2.1 k t (by omega)).mp h8⟩
    · simp at hb
  · intro hi
    have h1 := lt_of_bit (q9_lt ok ht) hi
    refine ⟨i, h1, ?_⟩
    rw [if_pos ((ok.2.2.2.2.2.2.2.2.2.2.1 i t (by omega)).mpr ((ok.2.2.2.2.2.2.2.2.2.2.2.1 t i ht).mp hi).2), p2_bit]
    simp
/-- some task of a set comes next -/
theorem exNext {q : St} (ok : QOK q) {left : Nat} (hl : left < 4096) (h0 : left ≠ 0) : ∃ t, t < 12 ∧ left.testBit t = true ∧ q 8 t &&& left = 0 := by
  obtain ⟨h8, -, hirr⟩ : (∀ t i, t < 12 → ((q 8 t).testBit i = true ↔ TG q i t)) ∧ True ∧ ∀ t, ¬ TG q t t := ⟨ok.2.2.2.2.2.2.2.2.2.2.1, trivial, ok.2.2.2.2.2.2.2.2.2.2.2.2⟩
  have key : ∀ m t, q 8 t ≤ m → left.testBit t = true → ∃ t, t < 12 ∧ left.testBit t = true ∧ q 8 t &&& left = 0 := by
    intro m
    induction m with
    | zero =>
      intro t hm hb
      refine ⟨t, lt_of_bit (n := 12) hl hb, hb, ?_⟩
      rw [Nat.le_zero.mp hm]
      exact Nat.zero_and _
    | succ m ih =>
      intro t hm hb
      have ht := lt_of_bit (n := 12) hl hb
      by_cases e : q 8 t &&& left = 0
      · exact ⟨t, ht, hb, e⟩
      · obtain ⟨i, hi⟩ := Nat.exists_testBit_of_ne_zero e
        rw [Nat.testBit_and, Bool.and_eq_true] at hi
        have hit := (h8 t i ht).mp hi.1
        have hi12 := lt_of_bit (n := 12) hl hi.2
        refine ih i ?_ hi.2
        have hsub : ∀ j, (q 8 i).testBit j = true → (q 8 t).testBit j = true := fun j hj => (h8 t j ht).mpr (Relation.TransGen.trans ((h8 i j hi12).mp hj) hit)
        have hle : q 8 i &&& q 8 t = q 8 i := bits_eq fun j => by
          rw [Nat.testBit_and, Bool.and_eq_true]
          exact ⟨fun z => z.1, fun z => ⟨z, hsub j z⟩⟩
        have h1 : q 8 i ≤ q 8 t := by rw [← hle]; exact Nat.and_le_right
        have h2 : q 8 i ≠ q 8 t := fun z => by
          have : (q 8 i).testBit i = true := by rw [z]; exact hi.1
          exact hirr i ((h8 i i hi12).mp this)
        omega
  obtain ⟨t, ht⟩ := Nat.exists_testBit_of_ne_zero h0
  exact key _ t (Nat.le_refl _) ht
