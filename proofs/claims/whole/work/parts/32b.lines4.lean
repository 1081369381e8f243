theorem MC_mT {d0 d d' : Dt} {y : Sy} {q : St} {w : Nat} (h : MC d0 d y q w) (hm : mT d d') : MC d0 d' y q w := by
  obtain ⟨⟨h1, h2⟩, h3, h4, ⟨h5, h6⟩, h7, h8⟩ := h
  exact ⟨⟨fM_t h1 (mT_fM hm), mK_t h2 (mT_mK hm)⟩, h3, by rw [hm.2.2.1 162 (by decide) (by decide) (by decide) (by decide) (by decide) (by decide)]; exact h4, ⟨by rw [mT_g hm]; exact h5, h6⟩, by rw [hm.2.2.2 6 (by decide)]; exact h7, h8⟩
/-- the first j tasks at their places -/
def tkj (q : St) (w j : Nat) : St := fun i k => if i = 6 ∧ k < j then dgt w k + 1 else q i k
theorem tkj_0 (q : St) (w : Nat) : tkj q w 0 = q := by funext i k; simp [tkj]
theorem tkj_s (q : St) (w j : Nat) : up (tkj q w j) 6 j (dgt w j + 1) = tkj q w (j + 1) := by
  funext i k
  simp only [up, tkj]
  by_cases e : i = 6 ∧ k = j
  · rw [if_pos e, if_pos ⟨e.1, by omega⟩, e.2]
  · rw [if_neg e]
    by_cases e2 : i = 6 ∧ k < j
    · rw [if_pos e2, if_pos ⟨e2.1, by omega⟩]
    · rw [if_neg e2, if_neg (by omega)]
theorem QOK_tkj {q : St} (ok : QOK q) (w : Nat) {j : Nat} (hj : j ≤ q 0 1) : QOK (tkj q w j) := by
  refine QOK_6s ok (fun i k h => if_neg (fun z => h z.1)) (fun k hk => ?_) (fun k h1 h2 => ?_)
  · simp only [tkj]
    split
    · have := dgt_lt w k; omega
    · exact (ok.2.2.2.2.2.2.1 k hk).2
  · simp only [tkj]
    rw [if_neg (by omega)]
    exact (ok.2.2.2.2.2.2.2.1 k h1 h2).1
theorem CH_b {d0 d d' : Dt} {y : Sy} {q : St} {w c : Nat} (hf : fM d0 d) (h : CH d d' y q w c) : CH d0 d' y q w c := ⟨fM_t hf h.1, h.2⟩
theorem lst_fst {q : St} (ok : QOK q) (h : lstQ q 9 ≠ 0) : ∃ w, fstQ q (lstQ q 9 - 1) (fulQ q) = w + 1 ∧ tkw q (lstQ q 9 - 1) = w ∧ lstQ q 9 - 1 ≤ 8 := by
  obtain ⟨h1, h2⟩ := lstQ_in q 9 (Nat.le_refl _)
  have h3 := (cnt_fst ok.2.1 (ful_lt q)).mp (h2 h)
  refine ⟨fstQ q (lstQ q 9 - 1) (fulQ q) - 1, by omega, rfl, by omega⟩
theorem TL_V {d : Dt} {w t v : Nat} (h : TL d (tlV w t v)) (hv : v < 8) : TL (dI d 171 (upd (d.1 171) t (nI (v + 1)))) (tlV w t (v + 1)) := by
  intro k hk
  rw [dI_s]
  simp only [upd, tlV]
  by_cases e : k = t
  · rw [if_pos e, if_pos e]; exact ⟨(pv_s _).symm, by omega⟩
  · rw [if_neg e, if_neg e]
    have := h k hk
    simp only [tlV] at this
    rw [if_neg e] at this
    exact this
theorem TL_V0 {d : Dt} {w t : Nat} (h : TL d (tlD w t)) : TL (dI d 171 (upd (d.1 171) t 0)) (tlV w t 0) := by
  intro k hk
  rw [dI_s]
  simp only [upd, tlV]
  by_cases e : k = t
  · rw [if_pos e, if_pos e]; exact ⟨rfl, by omega⟩
  · rw [if_neg e, if_neg e]; exact h k hk
theorem TL_k {d d' : Dt} {tl : Nat → Nat} (h : TL d tl) (e : d'.1 171 = d.1 171) : TL d' tl := fun t ht => by rw [e]; exact h t ht
theorem TS_k {q : St} {d d' : Dt} {n : Nat} (h : TS q d n) (e1 : d'.1 167 = d.1 167) (e2 : d'.1 168 = d.1 168) : TS q d' n := fun S hS => by rw [e1, e2]; exact h S hS
theorem TS_L {q : St} {d d' : Dt} {n : Nat} (h : TS q d n) (e : mL d d') : TS q d' n := TS_k h (by rw [e.1]) (by rw [e.1])
theorem TL_L {d d' : Dt} {tl : Nat → Nat} (h : TL d tl) (e : mL d d') : TL d' tl := TL_k h (by rw [e.1])
/-- the counts of the lines, told what is told -/
abbrev cnW (q : St) (n w t v : Nat) : Nat := cntQ q (tlV w t v) n (fulQ q)
theorem pvd_eq {a b : Nat} (ha : a ≤ 8) (hb : b < 8) (h : pv a = pv (b + 1)) : a = b + 1 := by
  rw [pv_s] at h
  exact (pv_nI ha (by omega)).mp h
