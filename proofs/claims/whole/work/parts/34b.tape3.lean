/-! reading: ends -/
theorem rdC_end {T : List Nat} {p : Nat} (h : T.length ≤ p) (hp : p ≤ T.length) : (rdC T p).1 = false := by
  cases hb : (rdC T p).1 with
  | false => rfl
  | true =>
    have h1 := rdC_le hp
    have := (h1.2.2.2 hb).1
    have := h1.2.1
    omega
theorem prs_i {T : List Nat} {f p : Nat} (h : (rdC T p).1 = true ∧ chA T (rdC T p).2.1 = 59) : prs T (f + 1) p = prs T f ((rdC T p).2.1 + 1) := if_pos h
theorem prs_o {T : List Nat} {f p : Nat} (h : ¬ ((rdC T p).1 = true ∧ chA T (rdC T p).2.1 = 59)) : prs T f p = ((rdC T p).1, (rdC T p).2.1) := by
  cases f with
  | zero => rfl
  | succ f => exact if_neg h
theorem prs_g {T : List Nat} {f p : Nat} (h : (prs T f p).1 = true) : (rdC T p).1 = true := by
  cases hb : (rdC T p).1 with
  | true => rfl
  | false =>
    rw [prs_o (fun z => by rw [hb] at z; cases z.1), hb] at h
    exact h
theorem prs_le {T : List Nat} : ∀ f p, p ≤ T.length → (prs T f p).2 ≤ T.length := by
  intro f
  induction f with
  | zero => intro p hp; exact (rdC_le hp).2.1
  | succ f ih =>
    intro p hp
    by_cases h : (rdC T p).1 = true ∧ chA T (rdC T p).2.1 = 59
    · rw [prs_i h]
      exact ih _ (chA_pos (by rw [h.2]; decide)).1
    · rw [prs_o h]; exact (rdC_le hp).2.1
theorem rdNs_t {T : List Nat} {f p i : Nat} {v : Nat → Nat} (h : (rdN T p).1 = true) : rdNs T (f + 1) p v i = rdNs T f (rdN T p).2.1 (fun k => if k = i then (rdN T p).2.2 else v k) (i + 1) := if_pos h
theorem rdNs_f {T : List Nat} {f p i : Nat} {v : Nat → Nat} (h : ¬ (rdN T p).1 = true) : rdNs T (f + 1) p v i = (false, (rdN T p).2.1, v) := if_neg h
theorem rdC_0 {T : List Nat} {a : Nat} (h : wNo T a (wEnd T 80 a) 6 = 6) : rdC T a = (false, a, 6, fun _ => 0) := if_pos h
theorem rdC_1 {T : List Nat} {a : Nat} (h : ¬ wNo T a (wEnd T 80 a) 6 = 6) : rdC T a = ((rdNs T (nN (wNo T a (wEnd T 80 a) 6)) (wEnd T 80 a) (fun _ => 0) 0).1, (rdNs T (nN (wNo T a (wEnd T 80 a) 6)) (wEnd T 80 a) (fun _ => 0) 0).2.1, wNo T a (wEnd T 80 a) 6, (rdNs T (nN (wNo T a (wEnd T 80 a) 6)) (wEnd T 80 a) (fun _ => 0) 0).2.2) := if_neg h
theorem rdN_s {T : List Nat} {a : Nat} (h : chA T a = 32) : rdN T a = (decide (a + 1 < (digs T 3 (a + 1) 0).1), digs T 3 (a + 1) 0) := if_pos h
theorem rdN_n {T : List Nat} {a : Nat} (h : ¬ chA T a = 32) : rdN T a = (false, a, 0) := if_neg h
theorem TP_nil (row : Nat → Int32) : TP row 0 [] := ⟨rfl, Nat.zero_le _, fun i hi => absurd hi (Nat.not_lt_zero _)⟩
theorem MR_noT {d : Dt} {y : Sy} (h : MR d y) : MR (dI d 160 (upd (d.1 160) 17 0)) (noT y) := by
  obtain ⟨h1, h2, h3, h4, h5⟩ := h
  refine ⟨h1, h2, ?_, ⟨by rw [dI_s]; exact h4.1, h4.2⟩, by show TP _ _ []; rw [dI_s]; exact TP_nil _⟩
  show SV _ y.2.2.1
  cases hs : y.2.2.1 with
  | none => rw [hs] at h3; show (dI d 160 (upd (d.1 160) 17 0)).1 160 5 = 0; rw [dI_s]; exact h3
  | some p => rw [hs] at h3; exact ⟨by rw [dI_s]; exact h3.1, h3.2⟩
theorem MC_noT {d d' : Dt} {y : Sy} {q : St} {w : Nat} (h : MC d d' y q w) : MC (dI d 160 (upd (d.1 160) 17 0)) (dI d' 160 (upd (d'.1 160) 17 0)) (noT y) q w := by
  obtain ⟨⟨h1, m1, m2, m3, m4, m5, m6⟩, h3, h4, h5, h7, h8⟩ := h
  refine ⟨⟨⟨fun i hi => ⟨by rw [dI_n _ _ (by omega), dI_n _ _ (by omega)]; exact (h1.1 i hi).1, (h1.1 i hi).2⟩, h1.2⟩, m1, m2, m3, ?_, ?_, ?_⟩, MR_noT h3, h4, h5, by rw [dI_s]; exact h7, h8⟩
  · rw [dI_s, dI_s]; exact m4
  · rw [dI_s, dI_s]; exact m5
  · rw [dI_s, dI_s]; rfl
theorem MC_b {d d' : Dt} {y : Sy} {q : St} {w : Nat} (h : MC d d' y q w) : MC d (dI d' 161 (cpy (d'.1 161) (d'.1 162) 113)) y y.1 w :=
  MC_m h (mI_g (mI_r d') _) (by rw [dI_s]; exact RR_congr h.2.1.1.2.2.1 (fun k hk => cpy_lt _ _ hk) h.2.2.1) h.2.1.1.2 (by rw [dI_n _ _ (by decide)]; exact h.2.2.2.2.1) h.2.2.2.2.2
theorem RP_mI {d d' : Dt} {T : List Nat} {a : Nat} (h : RP d T a) (hm : mI d d') : RP d' T a :=
  ⟨by rw [hm.2.1 172 (by decide) (by decide) (by decide) (by decide), hm.2.2 17 (by decide) (by decide) (by decide)]; exact h.1, by rw [hm.2.2 18 (by decide) (by decide) (by decide)]; exact h.2.1, h.2.2⟩
theorem RO_chT {d d' : Dt} {y : Sy} {q : St} {w : Nat} {x v : Int32} (h : CH (dI d 160 (upd (d.1 160) 17 0)) d' (noT y) q w 0) (hx : x = v) : RO d d' x (0, v, noT (push2 y q w)) := by
  have := RO_ch h hx
  exact ⟨fM_t (fM_dI (fM_r d) (by decide) _) this.1, this.2.1, this.2.2.1, this.2.2.2⟩
theorem exe_s {T : List Nat} {f p n w : Nat} {q : St} (h0 : (doQ q w (rdC T p).2.2.1 (rdC T p).2.2.2).1 = 0) (h1 : chA T (rdC T p).2.1 = 59) : exe T (f + 1) p q w n = exe T f ((rdC T p).2.1 + 1) (doQ q w (rdC T p).2.2.1 (rdC T p).2.2.2).2.2.1 (doQ q w (rdC T p).2.2.1 (rdC T p).2.2.2).2.2.2 (n + 1) := by
  show (if _ then (if _ then _ else _) else _) = _
  rw [if_pos h0, if_pos h1]
theorem exe_e {T : List Nat} {f p n w : Nat} {q : St} (h0 : (doQ q w (rdC T p).2.2.1 (rdC T p).2.2.2).1 = 0) (h1 : ¬ chA T (rdC T p).2.1 = 59) : exe T (f + 1) p q w n = (true, n + 1, (doQ q w (rdC T p).2.2.1 (rdC T p).2.2.2).2.2) := by
  show (if _ then (if _ then _ else _) else _) = _
  rw [if_pos h0, if_neg h1]
theorem exe_f {T : List Nat} {f p n w : Nat} {q : St} (h0 : ¬ (doQ q w (rdC T p).2.2.1 (rdC T p).2.2.2).1 = 0) : exe T (f + 1) p q w n = (false, n, q, (doQ q w (rdC T p).2.2.1 (rdC T p).2.2.2).2.2.2) := by
  show (if _ then (if _ then _ else _) else _) = _
  rw [if_neg h0]
