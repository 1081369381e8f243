/-! what is kept of a reason; ranges -/
theorem gm1 {b : Int32} : gI (-1) 7 b ↔ b = -1 ∨ gI 0 7 b := by
  constructor
  · rintro ⟨h1, h2⟩
    by_cases e : b = -1
    · exact Or.inl e
    · refine Or.inr ⟨?_, h2⟩
      rw [Int32.le_iff_toInt_le] at h1 ⊢
      have h3 : b.toInt ≠ -1 := fun z => e (Int32.toInt_inj.mp z)
      have h4 : (-1 : Int32).toInt = -1 := rfl
      have h5 : (0 : Int32).toInt = 0 := rfl
      omega
  · rintro (rfl | ⟨h1, h2⟩)
    · decide
    · refine ⟨?_, h2⟩
      rw [Int32.le_iff_toInt_le] at h1 ⊢
      have h4 : (-1 : Int32).toInt = -1 := rfl
      have h5 : (0 : Int32).toInt = 0 := rfl
      omega
theorem CC_kp {d : Dt} {y : Sy} (h : CC d y) {r : Nat} (hr : r ≤ 6) : CC (dI d 132 (upd (d.1 132) 7 (nI r))) (keep2 y y.1 r) := by
  obtain ⟨⟨h1, h2⟩, h3, h4, h5, h6⟩ := h
  refine ⟨⟨KS_k h1 (fun j hj => dI_n _ _ (by omega)), h2⟩, HC_k h3 (fun i _ _ => dI_n _ _ (by omega)) (dI_n _ _ (by decide)), SC_k h4 (fun i _ _ => dI_n _ _ (by omega)) (by rw [dI_s, upd_ne _ _ (by decide)]), ⟨by rw [dI_s, upd_at]; rfl, hr⟩, ?_⟩
  show TP _ _ y.2.2.2.2
  rw [dI_n _ _ (show (151 : Nat) ≠ 132 by decide), dI_n _ _ (show (150 : Nat) ≠ 132 by decide)]
  exact h6
theorem CC_sv {d d' : Dt} {y : Sy} (h : CC d y) (hc : CPk 11 1 0 d d') : CC (dI d' 132 (upd (d'.1 132) 6 1)) (y.1, y.2.1, some y.1, y.2.2.2) := by
  obtain ⟨⟨h1, h2⟩, h3, h4, h5, h6⟩ := h
  have e : ∀ i, i < 12 ∨ 24 ≤ i → i ≠ 132 → (dI d' 132 (upd (d'.1 132) 6 1)).1 i = d.1 i := fun i a b => by rw [dI_n _ _ b, CP_out hc (by omega)]
  refine ⟨⟨KS_k h1 (fun j hj => e _ (by omega) (by omega)), h2⟩, HC_k h3 (fun i _ _ => e _ (by omega) (by omega)) (e _ (by omega) (by decide)), ⟨by rw [dI_s, upd_at], KS_k (CP_KS hc h1) (fun j hj => dI_n _ _ (by omega)), h2⟩, ⟨by rw [dI_s, upd_ne _ _ (by decide), CP_out hc (by omega)]; exact h5.1, h5.2⟩, ?_⟩
  show TP _ _ y.2.2.2.2
  rw [e _ (by omega) (by decide), e _ (by omega) (by decide)]
  exact h6
theorem CC_rs {d d' : Dt} {y : Sy} (h : CC d y) {p : St} (hp : y.2.2.1 = some p) (hc : CPk 11 0 1 d d') : CC (dI d' 148 (upd (d'.1 148) 2 0)) (p, [], y.2.2) := by
  obtain ⟨⟨h1, h2⟩, ⟨nx, n1, n2, n3, n4, n5⟩, h4, h5, h6⟩ := h
  have h4' := h4
  rw [hp] at h4
  have e : ∀ i, 12 ≤ i → i ≠ 148 → (dI d' 148 (upd (d'.1 148) 2 0)).1 i = d.1 i := fun i a b => by rw [dI_n _ _ b, CP_out hc (by omega)]
  refine ⟨⟨KS_k (CP_KS hc h4.2.1) (fun j hj => dI_n _ _ (by omega)), h4.2.2⟩, ⟨nx, n1, by rw [dI_s, upd_ne _ _ (by decide), CP_out hc (by omega)]; exact n2, by rw [dI_s, upd_at]; rfl, Nat.zero_le _, fun i p hp => by simp at hp⟩, SC_k h4' (fun i a b => e i (by omega) (by omega)) (by rw [e _ (by omega) (by decide)]), ⟨by rw [e _ (by omega) (by decide)]; exact h5.1, h5.2⟩, ?_⟩
  show TP _ _ y.2.2.2.2
  rw [e _ (by omega) (by decide), e _ (by omega) (by decide)]
  exact h6
theorem CC_un {d d1 d' : Dt} {y : Sy} (h : CC d y) {q : St} {L : List St} (hL : y.2.1 = q :: L) {nx : Nat} (hnx : nx < 9) (n1 : d.1 148 1 = nI nx) (n5 : ∀ i p, y.2.1[i]? = some p → KS (12 * (2 + (nx + 8 - i) % 9)) d p ∧ QOK p) (n4 : y.2.1.length ≤ 8)
    (e1 : ∀ i, i ≠ 148 → d1.1 i = d.1 i) (k1 : d1.1 148 1 = nI (if 0 < nx then nx - 1 else 8)) (k2 : d1.1 148 2 = nI L.length) (hc : CPk 11 0 (2 + (if 0 < nx then nx - 1 else 8)) d1 d') : CC d' (q, L, y.2.2) := by
  have hm : (nx + 8 - 0) % 9 = (if 0 < nx then nx - 1 else 8) := by split <;> omega
  have h0 := n5 0 q (by rw [hL]; rfl)
  rw [hm] at h0
  have hl : L.length ≤ 7 := by rw [hL] at n4; simp only [List.length_cons] at n4; omega
  obtain ⟨⟨h1, h2⟩, h3, h4, h5, h6⟩ := h
  have e : ∀ i, 12 ≤ i → i ≠ 148 → d'.1 i = d.1 i := fun i a b => by rw [CP_out hc (by omega), e1 i b]
  have e8 : d'.1 148 = d1.1 148 := CP_out hc (by omega)
  refine ⟨⟨CP_KS hc (KS_k h0.1 (fun j hj => e1 _ (by split <;> omega))), h0.2⟩, ⟨_, (show (if 0 < nx then nx - 1 else 8) < 9 by split <;> omega), by rw [e8]; exact k1, by rw [e8]; exact k2, (show L.length ≤ 8 by omega), fun i p hp => ?_⟩, SC_k h4 (fun i a b => e i (by omega) (by omega)) (by rw [e _ (by omega) (by decide)]), ⟨by rw [e _ (by omega) (by decide)]; exact h5.1, h5.2⟩, ?_⟩
  · have hp' : y.2.1[i + 1]? = some p := by rw [hL, List.getElem?_cons_succ]; exact hp
    have hil : i < L.length := (List.getElem?_eq_some_iff.mp hp).1
    have e2 : (nx + 8 - (i + 1)) % 9 = ((if 0 < nx then nx - 1 else 8) + 8 - i) % 9 := by split <;> omega
    have hk := n5 (i + 1) p hp'
    rw [e2] at hk
    exact ⟨KS_k hk.1 (fun j hj => e _ (by omega) (by omega)), hk.2⟩
  · show TP _ _ y.2.2.2.2
    rw [e _ (by omega) (by decide), e _ (by omega) (by decide)]
    exact h6
theorem PO_v {d0 d : Dt} {y : Sy} {x v : Int32} (f : fC d0 d) (h : CC d y) (hx : x = v) : PO d0 (0, v, y) x d := ⟨f, h, rfl, hx⟩
theorem fC_CP {a b : Nat} {d d' : Dt} (ha : a < 11) (h : CPk 11 a b d d') : fC d d' := ⟨fun i hi => ⟨CP_out h (by omega), by rw [h.1]⟩, by rw [h.1]⟩
