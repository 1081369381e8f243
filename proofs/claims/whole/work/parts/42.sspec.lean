/-! stations: who is where -/
def tiI (q : St) (lo hi : Int32) : Nat := oN 12 (fun t => if lo ≤ pv (q 6 t) ∧ pv (q 6 t) ≤ hi then 2 ^ t else 0)
theorem tiI_bit {q : St} {lo hi : Int32} {i : Nat} : (tiI q lo hi).testBit i = true ↔ i < 12 ∧ lo ≤ pv (q 6 i) ∧ pv (q 6 i) ≤ hi := by
  unfold tiI
  rw [@oN_p 12 (fun t => lo ≤ pv (q 6 t) ∧ pv (q 6 t) ≤ hi) _ i]
theorem tiI_lt (q : St) (lo hi : Int32) : tiI q lo hi < 4096 := oN_lt (w := 12) fun k hk => by
  split
  · exact Nat.pow_lt_pow_right (by omega) hk
  · decide
theorem tiI_s {q : St} (ok : QOK q) {s : Nat} (hs : s < 8) : tiI q (nI s) (nI s) = stn q s := by
  refine bits_eq fun i => ?_
  rw [tiI_bit]
  unfold stn
  rw [@oN_p 12 (fun t => q 6 t = s + 1) _ i]
  constructor
  · rintro ⟨h1, h2, h3⟩
    have h6 := (ok.2.2.2.2.2.2.1 i h1).2
    rw [pv_ge h6 (by omega)] at h2
    rw [pv_le h6 (by omega)] at h3
    exact ⟨h1, by omega⟩
  · rintro ⟨h1, h2⟩
    have h6 := (ok.2.2.2.2.2.2.1 i h1).2
    exact ⟨h1, (pv_ge h6 (by omega)).mpr (by omega), (pv_le h6 (by omega)).mpr (by omega)⟩
theorem tiI_lo {q : St} (ok : QOK q) {s i : Nat} (hs : s < 8) : (tiI q 0 (nI s - 1)).testBit i = true ↔ i < 12 ∧ 1 ≤ q 6 i ∧ q 6 i ≤ s := by
  rw [tiI_bit]
  constructor
  · rintro ⟨h1, h2, h3⟩
    have h6 := (ok.2.2.2.2.2.2.1 i h1).2
    have h2' := (pv_ge h6 (show 0 < 100 by omega)).mp h2
    refine ⟨h1, by omega, ?_⟩
    rcases Nat.eq_zero_or_pos s with z | z
    · subst z
      rw [Int32.le_iff_toInt_le, show (nI 0 - 1 : Int32).toInt = -1 from by decide] at h3
      rw [Int32.le_iff_toInt_le, Int32.toInt_zero] at h2
      omega
    · rw [tv_s z, pv_le h6 (by omega)] at h3
      omega
  · rintro ⟨h1, h2, h3⟩
    have h6 := (ok.2.2.2.2.2.2.1 i h1).2
    exact ⟨h1, (pv_ge h6 (show 0 < 100 by omega)).mpr (by omega), by rw [tv_s (by omega), pv_le h6 (by omega)]; omega⟩
theorem tiI_hi {q : St} (ok : QOK q) {s i : Nat} (hs : s < 8) : (tiI q (nI s + 1) 7).testBit i = true ↔ i < 12 ∧ s + 1 < q 6 i := by
  rw [tiI_bit, nI_1]
  constructor
  · rintro ⟨h1, h2, h3⟩
    have h6 := (ok.2.2.2.2.2.2.1 i h1).2
    rw [pv_ge h6 (by omega)] at h2
    exact ⟨h1, by omega⟩
  · rintro ⟨h1, h2⟩
    have h6 := (ok.2.2.2.2.2.2.1 i h1).2
    exact ⟨h1, (pv_ge h6 (by omega)).mpr (by omega), (pv_le h6 (show 7 < 100 by omega)).mpr (by omega)⟩
theorem tiI_pl {q : St} (ok : QOK q) {i : Nat} : (tiI q 0 7).testBit i = true ↔ i < 12 ∧ q 6 i ≠ 0 := by
  rw [tiI_bit]
  constructor
  · rintro ⟨h1, h2, h3⟩
    have h6 := (ok.2.2.2.2.2.2.1 i h1).2
    have := (pv_ge h6 (show 0 < 100 by omega)).mp h2
    exact ⟨h1, by omega⟩
  · rintro ⟨h1, h2⟩
    have h6 := (ok.2.2.2.2.2.2.1 i h1).2
    exact ⟨h1, (pv_ge h6 (show 0 < 100 by omega)).mpr (by omega), (pv_le h6 (show 7 < 100 by omega)).mpr (by omega)⟩
theorem and_ne {a b : Nat} : a &&& b ≠ 0 ↔ ∃ i, a.testBit i = true ∧ b.testBit i = true := by
  constructor
  · intro h
    obtain ⟨i, hi⟩ := Nat.exists_testBit_of_ne_zero h
    rw [Nat.testBit_and, Bool.and_eq_true] at hi
    exact ⟨i, hi⟩
  · rintro ⟨i, h1, h2⟩ z
    have : (a &&& b).testBit i = true := by rw [Nat.testBit_and, h1, h2]; rfl
    rw [z, Nat.zero_testBit] at this
    cases this
theorem hi_iff {q : St} (ok : QOK q) {t s : Nat} (ht : t < 12) (hs : s < 8) : q 8 t &&& tiI q (nI s + 1) 7 ≠ 0 ↔ anyB (q 0 1) (hiF q t s) = true := by
  rw [and_ne, anyB_iff]
  constructor
  · rintro ⟨i, h1, h2⟩
    have h3 := (tiI_hi ok hs).mp h2
    exact ⟨i, lt_of_bit (q8_lt ok ht) h1, by unfold hiF; rw [h1, decide_eq_true h3.2]; rfl⟩
  · rintro ⟨i, h1, h2⟩
    unfold hiF at h2
    rw [Bool.and_eq_true] at h2
    have h12 := ok.2.1
    exact ⟨i, h2.1, (tiI_hi ok hs).mpr ⟨by omega, of_decide_eq_true h2.2⟩⟩
theorem lo_iff {q : St} (ok : QOK q) {t s : Nat} (ht : t < 12) (hs : s < 8) : q 9 t &&& tiI q 0 (nI s - 1) ≠ 0 ↔ anyB (q 0 1) (loF q t s) = true := by
  rw [and_ne, anyB_iff]
  constructor
  · rintro ⟨i, h1, h2⟩
    have h3 := (tiI_lo ok hs).mp h2
    exact ⟨i, lt_of_bit (q9_lt ok ht) h1, by unfold loF; rw [h1, decide_eq_true h3.2]; rfl⟩
  · rintro ⟨i, h1, h2⟩
    unfold loF at h2
    rw [Bool.and_eq_true] at h2
    have h12 := ok.2.1
    exact ⟨i, h2.1, (tiI_lo ok hs).mpr ⟨by omega, of_decide_eq_true h2.2⟩⟩
theorem to_iff {q : St} (ok : QOK q) {t s : Nat} (ht : t < 12) (hs : s < 8) : q 11 t &&& (tiI q 0 (nI s - 1) ||| tiI q (nI s + 1) 7) ≠ 0 ↔ anyB (q 0 1) (toF q t s) = true := by
  rw [and_ne, anyB_iff]
  constructor
  · rintro ⟨i, h1, h2⟩
    rw [Nat.testBit_or, Bool.or_eq_true, tiI_lo ok hs, tiI_hi ok hs] at h2
    exact ⟨i, lt_of_bit (ok.2.2.2.2.2.2.2.2.1 t ht).2.2 h1, by unfold toF; rw [h1, decide_eq_true (show 1 ≤ q 6 i ∧ q 6 i ≠ s + 1 by omega)]; rfl⟩
  · rintro ⟨i, h1, h2⟩
    unfold toF at h2
    rw [Bool.and_eq_true] at h2
    have h12 := ok.2.1
    have h3 := of_decide_eq_true h2.2
    refine ⟨i, h2.1, ?_⟩
    rw [Nat.testBit_or, Bool.or_eq_true, tiI_lo ok hs, tiI_hi ok hs]
    omega
/-- apart from those at the station; the task itself does not count -/
theorem ap_iff {q : St} (ok : QOK q) {t s : Nat} (ht : t < 12) : q 10 t &&& (stn q s ||| 2 ^ t) ≠ 0 ↔ q 10 t &&& stn q s ≠ 0 := by
  rw [and_ne, and_ne]
  have hn := (ok.2.2.2.2.2.2.2.2.2.1 t ht).1
  constructor
  · rintro ⟨i, h1, h2⟩
    rw [Nat.testBit_or, Bool.or_eq_true, p2_bit] at h2
    rcases h2 with h2 | h2
    · exact ⟨i, h1, h2⟩
    · have e : t = i := of_decide_eq_true h2
      rw [← e, hn] at h1
      cases h1
  · rintro ⟨i, h1, h2⟩
    exact ⟨i, h1, by rw [Nat.testBit_or, h2]; rfl⟩
theorem fre_iff {q : St} (ok : QOK q) {t : Nat} (ht : t < q 0 1) : (freQ q).testBit t = true ↔ (tiI q 0 7).testBit t = false := by
  have h12 := ok.2.1
  have h := @tiI_pl q ok t
  unfold freQ
  rw [@oN_p (q 0 1) (fun t => q 6 t = 0) _ t]
  cases hb : (tiI q 0 7).testBit t with
  | true => exact ⟨fun z => absurd z.2 (h.mp hb).2, fun z => by cases z⟩
  | false => exact ⟨fun _ => rfl, fun _ => ⟨ht, by
      rcases Nat.eq_zero_or_pos (q 6 t) with z | z
      · exact z
      · have := h.mpr ⟨by omega, by omega⟩
        rw [hb] at this
        cases this⟩⟩
theorem lack_fre {q : St} (ok : QOK q) {t : Nat} (ht : t < 12) : lacks (q 8 t) (tiI q 0 7) = q 8 t &&& freQ q := by
  have h8 := q8_lt ok ht
  have hp := pow12 ok.2.1
  refine bits_eq fun i => ?_
  rw [lacks_bit (by omega), Nat.testBit_and, Bool.and_eq_true, Bool.and_eq_true]
  constructor
  · rintro ⟨h1, h2⟩
    exact ⟨h1, (fre_iff ok (lt_of_bit h8 h1)).mpr (by cases hb : (tiI q 0 7).testBit i with | false => rfl | true => rw [hb] at h2; cases h2)⟩
  · rintro ⟨h1, h2⟩
    exact ⟨h1, by rw [(fre_iff ok (lt_of_bit h8 h1)).mp h2]; rfl⟩
theorem ntQ_ex {q : St} {p t : Nat} (h1 : (freQ q).testBit t = true) (h2 : q 8 t &&& freQ q = 0) : ∀ j, t < j → ntQ q p j ≠ 0 := by
  intro j
  induction j with
  | zero => intro h; exact absurd h (Nat.not_lt_zero _)
  | succ j ih =>
    intro hj
    unfold ntQ
    by_cases e : t = j
    · subst e
      split
      · omega
      · rename_i z
        intro w
        exact z ⟨h1, h2, Or.inl w⟩
    · split
      · omega
      · exact ih (by omega)
theorem ntQ_ne {q : St} (ok : QOK q) (p : Nat) (h : freQ q ≠ 0) : ntQ q p (q 0 1) ≠ 0 := by
  have hp := pow12 ok.2.1
  have hl := freQ_lt q
  obtain ⟨t, h1, h2, h3⟩ := exNext ok (show freQ q < 4096 by omega) h
  exact ntQ_ex h2 h3 _ (lt_of_bit hl h2)
theorem pcx_all : ∀ m, m ≤ 12 → pcx (2 ^ m - 1) = m := by decide +kernel
theorem freQ_clr {q : St} (ok : QOK q) : freQ (clrP q) = 2 ^ q 0 1 - 1 := by
  refine bits_eq fun i => ?_
  have h12 := ok.2.1
  rw [Nat.testBit_two_pow_sub_one, decide_eq_true_eq]
  unfold freQ
  rw [show clrP q 0 1 = q 0 1 from rfl, @oN_p (q 0 1) (fun t => clrP q 6 t = 0) _ i]
  refine ⟨fun h => h.1, fun h => ⟨h, ?_⟩⟩
  unfold clrP
  rw [if_pos ⟨rfl, by omega⟩]
theorem tiI_n {q : St} (ok : QOK q) : tiI q 0 7 = oN 12 (fun t => if q 6 t ≠ 0 then 2 ^ t else 0) := by
  refine bits_eq fun i => ?_
  rw [tiI_pl ok, @oN_p 12 (fun t => q 6 t ≠ 0) _ i]
def fNW (d d' : Dt) : Prop := d'.2 = d.2 ∧ ∀ i, 12 ≤ i → i < 134 ∨ 137 < i → d'.1 i = d.1 i
theorem fNW_r (d : Dt) : fNW d d := ⟨rfl, fun _ _ _ => rfl⟩
theorem fNW_t {a b c : Dt} (h : fNW a b) (g : fNW b c) : fNW a c := ⟨g.1.trans h.1, fun i x y => (g.2 i x y).trans (h.2 i x y)⟩
theorem fN_NW {d d' : Dt} (h : fN d d') : fNW d d' := ⟨h.1, fun i x _ => h.2 i x⟩
theorem fW_NW {d d' : Dt} (h : fW 134 d d') : fNW d d' := ⟨h.1, fun i _ y => h.2 i (by omega)⟩
