/-! a station's work: the order, the tools, the changes, the times -/
theorem ordF_all {q : St} (ok : QOK q) : ∀ f left, left < 4096 → pcx left ≤ f → ∀ t, left.testBit t = true → t ∈ ordF q f left := by
  intro f
  induction f with
  | zero =>
    intro left hl hf t ht
    rw [pcx_0 hl (by omega), Nat.zero_testBit] at ht
    cases ht
  | succ f ih =>
    intro left hl hf t ht
    have h0 : left ≠ 0 := fun z => by rw [z, Nat.zero_testBit] at ht; cases ht
    obtain ⟨a, b⟩ := nxt_ok ok hl h0
    unfold ordF
    rw [if_neg h0]
    by_cases e : t = nxt q left 12
    · rw [e]; exact List.mem_cons_self
    · refine List.mem_cons_of_mem _ (ih (clr left (nxt q left 12)) (lacks_lt hl) (by have := pcx_clr hl a.2.1; omega) t ?_)
      rw [clr_bit hl, ht, decide_eq_false (fun z => e z.symm)]
      rfl
theorem ordL_mem {q : St} (ok : QOK q) {S : Nat} (hS : S < 2 ^ q 0 1) (t : Nat) : t ∈ ordL q S ↔ S.testBit t = true :=
  ⟨fun h => (ordF_mem ok ok.2.1 12 S hS t h).2, fun h => ordF_all ok 12 S (by have := pow12 ok.2.1; omega) (pcx_le S) t h⟩
def toolF (q : St) (L : List Nat) (k : Nat) : Nat := if q 5 (L.getD k 0) = 0 then 0 else 2 ^ q 5 (L.getD k 0)
theorem tools_L {q : St} (ok : QOK q) {S : Nat} (hS : S < 2 ^ q 0 1) : oN (ordL q S).length (toolF q (ordL q S)) = tls q S := by
  refine bits_eq fun i => ?_
  unfold tls
  rw [oN_bit, oN_bit]
  constructor
  · rintro ⟨k, hk, hb⟩
    have hm := (ordL_mem ok hS _).mp (getD_mem hk)
    have ht := lt_of_bit hS hm
    have h12 := ok.2.1
    refine ⟨(ordL q S).getD k 0, by omega, ?_⟩
    unfold toolF at hb
    split at hb
    · simp at hb
    · rename_i z
      rw [if_pos ⟨hm, z⟩]; exact hb
  · rintro ⟨t, ht, hb⟩
    split at hb
    · rename_i z
      have hm := (ordL_mem ok hS t).mpr z.1
      obtain ⟨k, hk, e⟩ := List.mem_iff_getElem.mp hm
      refine ⟨k, hk, ?_⟩
      have e2 : (ordL q S).getD k 0 = t := by rw [List.getD_eq_getElem?_getD, List.getElem?_eq_getElem hk]; exact e
      unfold toolF
      rw [e2, if_neg z.2]; exact hb
    · simp at hb
/-- changes on the way, and the one from the last to the first -/
def adj (U : List Nat) (k : Nat) : Nat := if U.getD k 0 ≠ U.getD (k + 1) 0 then 1 else 0
def lin (U : List Nat) : Nat := sN (U.length - 1) (adj U)
theorem chg_lin {U : List Nat} : chg U = lin U + (if U.getD (U.length - 1) 0 = U.getD 0 0 then 0 else 1) := by
  cases hU : U with
  | nil => rfl
  | cons x V =>
    rw [← hU]
    have hl : U.length = (U.length - 1) + 1 := by rw [hU]; simp
    generalize hn : U.length - 1 = n at hl
    unfold chg lin
    rw [hl]
    simp only [sN, Nat.add_sub_cancel]
    have e1 : sN n (fun k => if U.getD k 0 ≠ U.getD (if k + 1 = n + 1 then 0 else k + 1) 0 then 1 else 0) = sN n (adj U) := sN_congr fun k hk => by
      unfold adj
      rw [if_neg (show ¬ k + 1 = n + 1 by omega)]
    rw [e1]
    congr 1
    rw [if_pos trivial]
    by_cases e : U.getD n 0 = U.getD 0 0
    · rw [if_pos e, if_neg (fun z => z e)]
    · rw [if_neg e, if_pos e]
theorem getD_app1 {U : List Nat} {x k : Nat} (h : k < U.length) : (U ++ [x]).getD k 0 = U.getD k 0 := by rw [List.getD_eq_getElem?_getD, List.getD_eq_getElem?_getD, List.getElem?_append_left h]
theorem getD_app2 {U : List Nat} {x : Nat} : (U ++ [x]).getD U.length 0 = x := by simp [List.getD_eq_getElem?_getD]
theorem lin_s {U : List Nat} {x : Nat} : lin (U ++ [x]) = lin U + (if U.length ≠ 0 ∧ U.getD (U.length - 1) 0 ≠ x then 1 else 0) := by
  unfold lin
  rw [List.length_append, show U.length + [x].length - 1 = U.length from by simp]
  by_cases h0 : U.length = 0
  · rw [h0]
    simp [sN]
  · obtain ⟨n, hn⟩ : ∃ n, U.length = n + 1 := ⟨U.length - 1, by omega⟩
    rw [hn]
    simp only [sN, Nat.add_sub_cancel]
    rw [sN_congr (n := n) (g := adj U) (fun k hk => by unfold adj; rw [getD_app1 (by omega), getD_app1 (by omega)])]
    congr 1
    unfold adj
    rw [getD_app1 (by omega), show n + 1 = U.length by omega, getD_app2]
    by_cases e : U.getD n 0 = x
    · rw [if_neg (fun z => z e), if_neg (fun z => z.2 e)]
    · rw [if_pos e, if_pos ⟨by omega, e⟩]
theorem tlL_ne {q : St} {L : List Nat} {m k : Nat} (h : k < (tlL q L m).length) : (tlL q L m).getD k 0 ≠ 0 := by
  have := getD_mem h
  unfold tlL at this
  obtain ⟨t, h1, h2⟩ := List.mem_map.mp this
  have h3 := (List.mem_filter.mp h1).2
  show (List.map (q 5) (List.filter (fun t => decide (0 < q 4 (3 * t + m) ∧ q 5 t ≠ 0)) L)).getD k 0 ≠ 0
  rw [← h2]
  exact (of_decide_eq_true h3).2
theorem tlL_le {q : St} (ok : QOK q) {L : List Nat} {m k : Nat} (hL : ∀ t ∈ L, t < 12) : (tlL q L m).getD k 0 ≤ 5 := by
  rcases Nat.lt_or_ge k (tlL q L m).length with h | h
  · have := getD_mem h
    unfold tlL at this
    obtain ⟨t, h1, h2⟩ := List.mem_map.mp this
    show (List.map (q 5) (List.filter (fun t => decide (0 < q 4 (3 * t + m) ∧ q 5 t ≠ 0)) L)).getD k 0 ≤ 5
    rw [← h2]
    exact (ok.2.2.2.2.2.2.1 t (hL t (List.mem_filter.mp h1).1)).1
  · rw [List.getD_eq_getElem?_getD, List.getElem?_eq_none h]; exact Nat.zero_le _
def mxQ (q : St) (S : Nat) : Nat → Nat
  | 0 => 0
  | n + 1 => if mxQ q S n < tm q S n then tm q S n else mxQ q S n
theorem mxQ_le {q : St} {S b : Nat} : ∀ n, mxQ q S n ≤ b ↔ ∀ m, m < n → tm q S m ≤ b := by
  intro n
  induction n with
  | zero => exact ⟨fun _ m hm => absurd hm (Nat.not_lt_zero _), fun _ => Nat.zero_le _⟩
  | succ n ih =>
    unfold mxQ
    constructor
    · intro h m hm
      by_cases e : m = n
      · subst e
        split at h <;> omega
      · refine ih.mp ?_ m (by omega)
        split at h <;> omega
    · intro h
      have h1 := ih.mpr (fun m hm => h m (by omega))
      have h2 := h n (by omega)
      split <;> assumption
/-- the order in a work's cells -/
def WO (w : Nat) (d : Dt) (L : List Nat) : Prop := d.1 w 3 = nI L.length ∧ ∀ k, k < L.length → d.1 (w + 1) k = nI (L.getD k 0)
/-- what a work holds of a set -/
def WR (w : Nat) (d : Dt) (q : St) (S : Nat) : Prop := WO w d (ordL q S) ∧ d.1 w 4 = nI (tls q S) ∧ d.1 w 5 = nI (ld q S) ∧ d.1 w 6 = nI (mxQ q S (q 0 0)) ∧ d.1 w 7 = nI (td q) ∧ (∀ m, m < q 0 0 → d.1 (w + 2) m = nI (chg (tlL q (ordL q S) m))) ∧ ∀ m, m < q 0 0 → d.1 (w + 3) m = nI (tm q S m)
theorem ordF_s {q : St} {f left : Nat} (h : left ≠ 0) : ordF q (f + 1) left = nxt q left 12 :: ordF q f (clr left (nxt q left 12)) := if_neg h
theorem ordF_z {q : St} (f : Nat) : ordF q f 0 = [] := by
  cases f with
  | zero => rfl
  | succ f => exact if_pos rfl
def WM (w : Nat) (d : Dt) (q : St) (S a b c e f : Nat) : Prop := WO w d (ordL q S) ∧ d.1 w 4 = nI (tls q S) ∧ d.1 w 5 = nI (sN c (fun m => q 1 m * tm q S m)) ∧ d.1 w 6 = nI (mxQ q S e) ∧ d.1 w 7 = nI (sN f (q 1)) ∧ (∀ m, m < a → d.1 (w + 2) m = nI (chg (tlL q (ordL q S) m))) ∧ ∀ m, m < b → d.1 (w + 3) m = nI (tm q S m)
theorem WO_k {w : Nat} {d d' : Dt} {L : List Nat} (h : WO w d L) (e1 : d'.1 w 3 = d.1 w 3) (e2 : d'.1 (w + 1) = d.1 (w + 1)) : WO w d' L := ⟨e1.trans h.1, fun k hk => by rw [e2]; exact h.2 k hk⟩
theorem WM_a {w : Nat} {d : Dt} {q : St} {S a b c e f : Nat} (h : WM w d q S a b c e f) : WM w (dI d (w + 2) (upd (d.1 (w + 2)) a (nI (chg (tlL q (ordL q S) a))))) q S (a + 1) b c e f := by
  obtain ⟨h1, h2, h3, h4, h5, h6, h7⟩ := h
  refine ⟨WO_k h1 (by rw [dI_n _ _ (by omega)]) (dI_n _ _ (by omega)), by rw [dI_n _ _ (by omega)]; exact h2, by rw [dI_n _ _ (by omega)]; exact h3, by rw [dI_n _ _ (by omega)]; exact h4, by rw [dI_n _ _ (by omega)]; exact h5, fun m hm => ?_, fun m hm => by rw [dI_n _ _ (by omega)]; exact h7 m hm⟩
  rw [dI_s]
  simp only [upd]
  by_cases z : m = a
  · rw [if_pos z, z]
  · rw [if_neg z]; exact h6 m (by omega)
theorem WM_b {w : Nat} {d : Dt} {q : St} {S a b c e f : Nat} (h : WM w d q S a b c e f) : WM w (dI d (w + 3) (upd (d.1 (w + 3)) b (nI (tm q S b)))) q S a (b + 1) c e f := by
  obtain ⟨h1, h2, h3, h4, h5, h6, h7⟩ := h
  refine ⟨WO_k h1 (by rw [dI_n _ _ (by omega)]) (dI_n _ _ (by omega)), by rw [dI_n _ _ (by omega)]; exact h2, by rw [dI_n _ _ (by omega)]; exact h3, by rw [dI_n _ _ (by omega)]; exact h4, by rw [dI_n _ _ (by omega)]; exact h5, fun m hm => by rw [dI_n _ _ (by omega)]; exact h6 m hm, fun m hm => ?_⟩
  rw [dI_s]
  simp only [upd]
  by_cases z : m = b
  · rw [if_pos z, z]
  · rw [if_neg z]; exact h7 m (by omega)
theorem WM_w {w : Nat} {d : Dt} {q : St} {S a b c e f c' e' f' : Nat} (h : WM w d q S a b c e f) {j : Nat} {x : Int32} (h5 : upd (d.1 w) j x 5 = nI (sN c' (fun m => q 1 m * tm q S m))) (h6 : upd (d.1 w) j x 6 = nI (mxQ q S e')) (h7 : upd (d.1 w) j x 7 = nI (sN f' (q 1))) (hj : j = 5 ∨ j = 6 ∨ j = 7) : WM w (dI d w (upd (d.1 w) j x)) q S a b c' e' f' := by
  obtain ⟨g1, g2, g3, g4, g5, g6, g7⟩ := h
  refine ⟨WO_k g1 (by rw [dI_s]; simp only [upd]; rw [if_neg (by omega)]) (dI_n _ _ (by omega)), by rw [dI_s]; simp only [upd]; rw [if_neg (by omega)]; exact g2, by rw [dI_s]; exact h5, by rw [dI_s]; exact h6, by rw [dI_s]; exact h7, fun m hm => by rw [dI_n _ _ (by omega)]; exact g6 m hm, fun m hm => by rw [dI_n _ _ (by omega)]; exact g7 m hm⟩
theorem WR_of {w : Nat} {d : Dt} {q : St} {S : Nat} (h : WM w d q S (q 0 0) (q 0 0) (q 0 0) (q 0 0) (q 0 0)) : WR w d q S := h
