theorem lt_nI_of {n : Nat} (hn : n < 2 ^ 30) {x : Int32} (h : 0 ≤ x ∧ x ≤ nI n - 1) : ∃ t, x = nI t ∧ t < n := by
  obtain ⟨h1, h2⟩ := h
  by_cases e : n = 0
  · rw [e] at h2
    rw [Int32.le_iff_toInt_le] at h1 h2
    rw [show (0 : Int32).toInt = 0 from rfl] at h1
    rw [show (nI 0 - 1 : Int32).toInt = -1 from by decide] at h2
    omega
  · rw [tv_s (by omega)] at h2
    obtain ⟨k, a, -, c⟩ := in_nI (a := 0) (b := n - 1) rfl rfl (by omega) (by omega) ⟨h1, h2⟩
    exact ⟨k, a, by omega⟩
theorem tab7 {x : Int32} (h : ¬ gI 0 7 x) : x.toInt < 0 ∨ 7 < x.toInt := by
  have : ¬ (0 ≤ x.toInt ∧ x.toInt ≤ 7) := fun z => h ⟨by rw [Int32.le_iff_toInt_le]; exact z.1, by rw [Int32.le_iff_toInt_le]; exact z.2⟩
  omega
theorem ordL_lt {q : St} (ok : QOK q) (s : Nat) : ∀ t ∈ ordL q (stn q s), t < q 0 1 := fun t h => (ordF_mem ok ok.2.1 12 _ (stn_lt ok s) t h).1
theorem ordL_len (q : St) (S : Nat) : (ordL q S).length ≤ 12 := ordF_len 12 S
/-! float and long answers -/
def CFl (M : MI) (dep : Nat) (as : List Value) (d : Dt) (P : UInt32 → Dt → Prop) : Prop := AC M dep true (PFx P nX) 0 0 as (HP d)
def effA (q : St) : Nat := sN (q 0 1) (fun t => if q 6 t = 0 then 0 else wt q t)
def effB (q : St) : Nat := ovQ q 1 * q 2 0 * td q
def effV (q : St) : UInt32 := FP.fdiv (FP.i2f (nI (effA q))) (FP.i2f (nI (effB q)))
def unL (q : St) : Nat → Int64
  | 0 => 0
  | s + 1 => unL q s + (if stn q s = 0 then 0 else (lackV q s).toInt64) * (if stn q s = 0 then 0 else (lackV q s).toInt64)
/-- a query's end, its answer aside -/
def RQ (d d' : Dt) (y : Sy) : Prop := fM d d' ∧ d'.1 160 7 = 0 ∧ MR d' y
theorem RQ_i {d d1 : Dt} {y : Sy} (h : MR d y) (hm : mS d d1) : RQ d (dI d1 160 (upd (d1.1 160) 7 0)) y :=
  ⟨fM_dI (mS_fM hm) (by decide) _, by rw [dI_s]; rfl, MR_mS h hm 0⟩
/-! fill -/
theorem ntQ_bit {q : St} {p : Nat} : ∀ j, ntQ q p j ≠ 0 → (freQ q).testBit (ntQ q p j - 1) = true := by
  intro j
  induction j with
  | zero => intro h; exact absurd rfl h
  | succ j ih =>
    unfold ntQ
    split
    · rename_i h
      intro _
      rw [Nat.add_sub_cancel]
      exact h.1
    · exact ih
theorem ntQ_0 {q : St} (p : Nat) (h : freQ q = 0) (j : Nat) : ntQ q p j = 0 := by
  by_cases e : ntQ q p j = 0
  · exact e
  · have := ntQ_bit j e
    rw [h, Nat.zero_testBit] at this
    cases this
theorem freQ_up {q : St} (ok : QOK q) {t s : Nat} : freQ (up q 6 t (s + 1)) = clr (freQ q) t := by
  have hlt := freQ_lt q
  have hp := pow12 ok.2.1
  refine bits_eq fun i => ?_
  rw [clr_bit (by omega), Bool.and_eq_true]
  simp only [freQ]
  rw [oN_p, oN_p, up_01 q (by omega)]
  simp only [up, true_and]
  constructor
  · rintro ⟨h1, h2⟩
    split at h2
    · omega
    · rename_i hne
      exact ⟨⟨h1, h2⟩, by rw [decide_eq_false (fun z => hne z.symm)]; rfl⟩
  · rintro ⟨⟨h1, h2⟩, h3⟩
    refine ⟨h1, ?_⟩
    rw [if_neg (fun z => by rw [decide_eq_true z.symm] at h3; cases h3)]
    exact h2
theorem lowQ_le (q : St) (t : Nat) : ∀ k, k ≤ 8 → lowQ q t k ≤ 8 := by
  intro k
  induction k with
  | zero => intro _; exact Nat.zero_le _
  | succ k ih =>
    intro hk
    unfold lowQ
    split
    · omega
    · exact ih (by omega)
theorem lowQ_0 {q : St} {t : Nat} : ∀ k, lowQ q t (k + 1) = 0 → k ≤ 7 → refQ q t 7 ≠ 0 := by
  intro k
  induction k with
  | zero =>
    intro h _ z
    unfold lowQ at h
    rw [if_pos (show refQ q t (7 - 0) = 0 from z)] at h
    exact absurd h (by decide)
  | succ k ih =>
    intro h hk
    unfold lowQ at h
    split at h
    · omega
    · exact ih h (by omega)
theorem RO_b {d0 d1 d2 : Dt} {y : Sy} {q1 : St} {w r : Nat} (h : MC d0 d1 y q1 w) (hm : mS d1 d2) (hr6 : r ≤ 6) {x v : Int32} : RO d0 (dI (dI (dI d2 160 (upd (d2.1 160) 6 (nI r))) 161 (cpy ((dI d2 160 (upd (d2.1 160) 6 (nI r))).1 161) ((dI d2 160 (upd (d2.1 160) 6 (nI r))).1 162) 113)) 160 (upd ((dI (dI d2 160 (upd (d2.1 160) 6 (nI r))) 161 (cpy ((dI d2 160 (upd (d2.1 160) 6 (nI r))).1 161) ((dI d2 160 (upd (d2.1 160) 6 (nI r))).1 162) 113)).1 160) 7 2)) x (2, v, keep2 y y.1 r) := by
  have hI := mI_7 (mI_g (mI_6 (mS_mI hm) (nI r)) (cpy ((dI d2 160 (upd (d2.1 160) 6 (nI r))).1 161) ((dI d2 160 (upd (d2.1 160) 6 (nI r))).1 162) 113)) 2
  have h162 : (dI d2 160 (upd (d2.1 160) 6 (nI r))).1 162 = d1.1 162 := by
    rw [dI_n _ _ (by decide)]
    exact hm.2.1 162 (by decide) (by decide) (by decide)
  have hc := MC_m (q' := y.1) (w' := r) h hI (by rw [dI_n _ _ (by decide), dI_s]; exact RR_congr h.2.1.1.2.2.1 (fun k hk => by rw [cpy_lt _ _ hk, h162]) h.2.2.1) h.2.1.1.2 (by rw [dI_s]; simp only [upd]; rw [if_neg (by decide), dI_n _ _ (by decide), dI_s]; rfl) hr6
  exact ⟨hc.1.1, by rw [dI_s]; rfl, fun z => absurd z (by show ¬ 2 = 0; decide), MC_keep hc⟩
/-! undo, save, restore, feed -/
theorem MR_feed {d : Dt} {y : Sy} (h : MR d y) {c : Nat} (hc : c < 65536) (hl : y.2.2.2.2.length ≠ 80) {x : Int32} (hx : x = nI (y.2.2.2.2.length + 1)) : MR (dI (dI d 172 (upd (d.1 172) y.2.2.2.2.length (nI c))) 160 (upd (d.1 160) 17 x)) (y.1, y.2.1, y.2.2.1, y.2.2.2.1, y.2.2.2.2 ++ [c]) := by
  obtain ⟨h1, h2, h3, h4, h5, h6, h7⟩ := h
  refine ⟨h1, h2, ?_, ⟨?_, h4.2⟩, ?_, ?_, fun i hi => ?_⟩
  · cases hs : y.2.2.1 with
    | none => rw [hs] at h3; exact h3
    | some p => rw [hs] at h3; exact h3
  · rw [dI_s]; exact h4.1
  · rw [dI_s]; simp only [upd, if_true]; rw [hx, List.length_append]; rfl
  · rw [List.length_append]; simp only [List.length_cons, List.length_nil]; omega
  · rw [List.length_append] at hi
    simp only [List.length_cons, List.length_nil] at hi
    rw [dI_n _ _ (by decide), dI_s]
    simp only [upd]
    by_cases e : i = y.2.2.2.2.length
    · rw [if_pos e]
      have e2 : (y.2.2.2.2 ++ [c]).getD i 0 = c := by rw [e]; simp [List.getD_eq_getElem?_getD]
      rw [e2]
      exact ⟨rfl, hc⟩
    · rw [if_neg e]
      have e2 : (y.2.2.2.2 ++ [c]).getD i 0 = y.2.2.2.2.getD i 0 := by rw [List.getD_eq_getElem?_getD, List.getD_eq_getElem?_getD, List.getElem?_append_left (by omega)]
      rw [e2]
      exact h7 i (by omega)
theorem HM_pop {row : Nat → Int32} {many : Int32} {q0 q : St} {L : List St} (h : HM row many q0 (q :: L)) : HM row (nI L.length) q L ∧ (RR (fun k => row (113 * L.length + k)) q ∧ QOK q) := by
  obtain ⟨h1, h2, h3, h4⟩ := h
  simp only [List.length_cons] at h1 h2
  refine ⟨⟨rfl, by omega, fun i hi => ?_, fun p hp => h4 p (List.mem_cons_of_mem _ hp)⟩, ?_, h4 q List.mem_cons_self⟩
  · have := h3 i (by rw [List.length_cons]; omega)
    rw [List.length_cons, show L.length + 1 - 1 - i = (L.length - 1 - i) + 1 by omega, List.getD_eq_getElem?_getD, List.getElem?_cons_succ, List.getElem?_eq_getElem (by omega)] at this
    rw [List.getD_eq_getElem?_getD, List.getElem?_eq_getElem (by omega)]
    exact this
  · have := h3 L.length (by rw [List.length_cons]; omega)
    rw [List.length_cons, show L.length + 1 - 1 - L.length = 0 by omega] at this
    exact this
theorem MR_parts {d d' : Dt} {y : Sy} (h : MR d y) {q : St} {L : List St} {s : Option St} (hr : RR (d'.1 161) q) (ok : QOK q) (hh : HM (d'.1 163) (d'.1 160 3) q L) (hs : SV d' s) (h6 : d'.1 160 6 = d.1 160 6) (h172 : d'.1 172 = d.1 172) (h17 : d'.1 160 17 = d.1 160 17) : MR d' (q, L, s, y.2.2.2) :=
  ⟨⟨hr, ok⟩, hh, hs, ⟨h6.trans h.2.2.2.1.1, h.2.2.2.1.2⟩, by show TP (d'.1 172) (d'.1 160 17) y.2.2.2.2; rw [h172, h17]; exact h.2.2.2.2⟩
theorem SV_k {d d' : Dt} {s : Option St} (h : SV d s) (h1 : d'.1 160 5 = d.1 160 5) (h2 : d'.1 164 = d.1 164) : SV d' s := by
  cases s with
  | none => exact h1.trans h
  | some p => exact ⟨h1.trans h.1, by rw [h2]; exact h.2.1, h.2.2⟩
theorem HM_q {row : Nat → Int32} {many : Int32} {q0 q1 : St} {L : List St} (h : HM row many q0 L) : HM row many q1 L := by
  obtain ⟨h1, h2, h3, h4⟩ := h
  refine ⟨h1, h2, fun i hi => ?_, h4⟩
  have := h3 i hi
  rw [List.getD_eq_getElem?_getD, List.getElem?_eq_getElem (by omega)] at this ⊢
  exact this
theorem MR_7 {d : Dt} {y : Sy} (h : MR d y) (x : Int32) : MR (dI d 160 (upd (d.1 160) 7 x)) y := MR_mS h (mS_r d) x
theorem RO_m {d d1 : Dt} {y y' : Sy} {x v : Int32} (_ : MR d y) (h : MR d1 y') (hf : fM d d1) (hx : x = v) : RO d (dI d1 160 (upd (d1.1 160) 7 0)) x (0, v, y') :=
  ⟨fM_dI hf (by decide) _, by rw [dI_s]; rfl, fun _ => hx, MR_7 h 0⟩
