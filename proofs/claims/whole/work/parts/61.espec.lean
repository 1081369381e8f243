/-! a change that is kept, and one that is taken back -/
theorem CC_fin {d d1 d4 : Dt} {y : Sy} (h : CC d y) {nx : Nat} (hnx : nx < 9) (n5 : ∀ i p, y.2.1[i]? = some p → KS (12 * (2 + (nx + 8 - i) % 9)) d p ∧ QOK p) (n4 : y.2.1.length ≤ 8) (hc : CPk 11 (2 + nx) 0 d d1) {q : St} (hq : KS 0 d4 q) (ok : QOK q) (e2 : ∀ i, 12 ≤ i → i < 132 → d4.1 i = d1.1 i) (e6 : d4.1 132 6 = d1.1 132 6)
    (k1 : d4.1 148 1 = nI (if nx + 1 < 9 then nx + 1 else 0)) (k2 : d4.1 148 2 = nI (if y.2.1.length + 1 ≤ 8 then y.2.1.length + 1 else 8)) {w : Nat} (w1 : d4.1 132 7 = nI w) (w2 : w ≤ 6) {T : List Nat} (hT : TP (d4.1 151) (d4.1 150 2) T) : CC d4 (q, (y.1 :: y.2.1).take 8, y.2.2.1, w, T) := by
  obtain ⟨⟨h1, h2⟩, h3, h4, h5, h6⟩ := h
  refine ⟨⟨hq, ok⟩, HC_push hnx n4 n5 h1 h2 hc (fun i a b => e2 i (by omega) b) k1 k2, SC_k h4 (fun i a b => ?_) ?_, ⟨w1, w2⟩, hT⟩
  · rw [e2 i (by omega) (by omega), CP_out hc (by omega)]
  · rw [e6, CP_out hc (by omega)]
theorem CC_can {d d1 d4 : Dt} {y : Sy} (h : CC d y) {nx : Nat} (hnx : nx < 9) (n1 : d.1 148 1 = nI nx) (n2 : d.1 148 2 = nI y.2.1.length) (n5 : ∀ i p, y.2.1[i]? = some p → KS (12 * (2 + (nx + 8 - i) % 9)) d p ∧ QOK p) (n4 : y.2.1.length ≤ 8) (hc : CPk 11 (2 + nx) 0 d d1) (hq : KS 0 d4 y.1) (e2 : ∀ i, 12 ≤ i → i < 132 → d4.1 i = d1.1 i) (e6 : d4.1 132 6 = d1.1 132 6) (k1 : d4.1 148 1 = d1.1 148 1) (k2 : d4.1 148 2 = d1.1 148 2) {w : Nat} (w1 : d4.1 132 7 = nI w) (w2 : w ≤ 6) {T : List Nat} (hT : TP (d4.1 151) (d4.1 150 2) T) : CC d4 (y.1, y.2.1, y.2.2.1, w, T) := by
  obtain ⟨⟨h1, h2⟩, h3, h4, h5, h6⟩ := h
  refine ⟨⟨hq, h2⟩, ⟨nx, hnx, by rw [k1, CP_out hc (by omega)]; exact n1, by rw [k2, CP_out hc (by omega)]; exact n2, n4, fun i p hp => ⟨KS_k (n5 i p hp).1 (fun j hj => ?_), (n5 i p hp).2⟩⟩, SC_k h4 (fun i a b => ?_) ?_, ⟨w1, w2⟩, hT⟩
  · have hil : i < y.2.1.length := (List.getElem?_eq_some_iff.mp hp).1
    have hb := mod_in (i := i) hnx
    have hne : (nx + 8 - i) % 9 ≠ nx := by omega
    rw [e2 _ (by omega) (by omega)]
    exact hc.2.1 _ (by omega)
  · rw [e2 i (by omega) (by omega), CP_out hc (by omega)]
  · rw [e6, CP_out hc (by omega)]
theorem filF_le (p : Nat) : ∀ f q, (filF p f q).1 ≤ 6 := by
  intro f
  induction f with
  | zero => intro q; exact Nat.zero_le _
  | succ f ih =>
    intro q
    by_cases h : ntQ q p (q 0 1) = 0
    · rw [filF_0 h]; exact Nat.zero_le _
    · by_cases h2 : lowQ q (ntQ q p (q 0 1) - 1) 8 = 0
      · rw [filF_n h h2]; exact refQ_le _ _ _
      · rw [filF_s h h2]; exact ih _
