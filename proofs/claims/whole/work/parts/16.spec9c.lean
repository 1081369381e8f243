theorem bde {P Q : Prop} {_ : Decidable P} {_ : Decidable Q} (h : P ↔ Q) : b2i (decide P) = b2i (decide Q) := by
  by_cases e : P
  · rw [b2i_t e, b2i_t (h.mp e)]
  · rw [b2i_f e, b2i_f (fun z => e (h.mpr z))]
theorem tab3 {x : Int32} (h0 : ¬ x = 0) (h1 : ¬ x = 1) (h2 : ¬ x = 2) : x.toInt < 0 ∨ 2 < x.toInt := by
  have a0 : x.toInt ≠ 0 := fun z => h0 (Int32.toInt_inj.mp z)
  have a1 : x.toInt ≠ 1 := fun z => h1 (Int32.toInt_inj.mp z)
  have a2 : x.toInt ≠ 2 := fun z => h2 (Int32.toInt_inj.mp z)
  omega
theorem ivn {n : Nat} (h : n < 2 ^ 31) : iv (nI n) = n := nI_clamp h
/-- one task more -/
def addR (r : Nat → Int32) (n a b c e : Nat) : Nat → Int32 := upd (upd (upd (upd (upd (upd r (17 + 5 * n + 0) (nI a)) (17 + 5 * n + 1) (nI b)) (17 + 5 * n + 2) (nI c)) (17 + 5 * n + 3) (nI e)) (17 + 5 * n + 4) (-1)) 16 (nI (n + 1))
theorem RR_add {r : Nat → Int32} {q : St} (h : RR r q) (ok : QOK q) (hn : q 0 1 < 12) (a b c e : Nat) : RR (addR r (q 0 1) a b c e) (addq q a b c e) := by
  have h6 := (ok.2.2.2.2.2.2.2.1 (q 0 1) (Nat.le_refl _) hn).1
  obtain ⟨⟨h1, h2⟩, h3, h4, h5, hT, h7⟩ := h
  have eo : ∀ k, k < 16 ∨ 77 ≤ k → addR r (q 0 1) a b c e k = r k := fun k hk => by
    simp only [addR, upd]
    repeat rw [if_neg (by omega)]
  have e4 : ∀ k, k < 3 * q 0 1 ∨ 3 * q 0 1 + 2 < k → addq q a b c e 4 k = q 4 k := fun k hk => by
    simp only [addq]
    repeat rw [if_neg (by omega)]
  have eq : ∀ i k, i ≠ 0 → i ≠ 4 → i ≠ 5 → addq q a b c e i k = q i k := fun i k x y z => by
    simp only [addq]
    repeat rw [if_neg (by omega)]
  refine ⟨⟨?_, ?_⟩, fun k hk => ?_, fun k hk => ?_, fun k hk => ?_, fun t ht => ⟨fun m hm => ?_, ?_, ?_⟩, fun t ht => ⟨?_, ?_, ?_⟩⟩
  · rw [eo 0 (by omega), h1]; rfl
  · simp only [addR, upd, if_true]; rfl
  · rw [eo _ (by omega), eq _ _ (by decide) (by decide) (by decide)]; exact h3 k hk
  · rw [eo _ (by omega), eq _ _ (by decide) (by decide) (by decide)]; exact h4 k hk
  · rw [eo _ (by omega), eq _ _ (by decide) (by decide) (by decide)]; exact h5 k hk
  · have ht' : t < q 0 1 + 1 := ht
    by_cases e2 : t = q 0 1
    · subst e2
      rcases (show m = 0 ∨ m = 1 ∨ m = 2 by omega) with rfl | rfl | rfl <;> simp only [addR, addq, upd] <;> (repeat' split) <;> (first | rfl | omega | (exfalso; simp only [true_and, and_self, and_true, not_true_eq_false] at *; done) | (exfalso; simp only [true_and, and_self, and_true, not_true_eq_false] at *; omega))
    · rw [e4 _ (by omega)]
      simp only [addR, upd]
      repeat rw [if_neg (by omega)]
      exact (hT t (by omega)).1 m hm
  · have ht' : t < q 0 1 + 1 := ht
    by_cases e2 : t = q 0 1
    · subst e2
      simp only [addR, addq, upd]
      (repeat' split) <;> (first | rfl | omega | (exfalso; simp only [true_and, and_self, and_true, not_true_eq_false] at *; done) | (exfalso; simp only [true_and, and_self, and_true, not_true_eq_false] at *; omega))
    · simp only [addR, addq, upd]
      repeat rw [if_neg (by omega)]
      exact (hT t (by omega)).2.1
  · have ht' : t < q 0 1 + 1 := ht
    rw [eq _ _ (by decide) (by decide) (by decide)]
    by_cases e2 : t = q 0 1
    · subst e2
      rw [h6]
      simp only [addR, upd]
      rw [if_neg (by omega), if_pos trivial]
      rfl
    · simp only [addR, upd]
      repeat rw [if_neg (by omega)]
      exact (hT t (by omega)).2.2
  · rw [eo _ (by omega), eq _ _ (by decide) (by decide) (by decide)]; exact (h7 t ht).1
  · rw [eo _ (by omega), eq _ _ (by decide) (by decide) (by decide)]; exact (h7 t ht).2.1
  · rw [eo _ (by omega), eq _ _ (by decide) (by decide) (by decide)]; exact (h7 t ht).2.2
theorem QOK_add {q : St} (ok : QOK q) (hn : q 0 1 < 12) {a b c e : Nat} (ha : a ≤ 99) (hb : b ≤ 99) (hc : c ≤ 99) (he : e ≤ 5) : QOK (addq q a b c e) := by
  have eq : ∀ i k, i ≠ 0 → i ≠ 4 → i ≠ 5 → addq q a b c e i k = q i k := fun i k x y z => by
    simp only [addq]
    repeat rw [if_neg (by omega)]
  have e0 : addq q a b c e 0 0 = q 0 0 := rfl
  have e1 : addq q a b c e 0 1 = q 0 1 + 1 := rfl
  have hT : TG (addq q a b c e) = TG q := by
    have : TE (addq q a b c e) = TE q := by
      funext x y
      simp only [TE]
      rw [eq _ _ (by decide) (by decide) (by decide)]
    simp only [TG, this]
  have hp : 2 ^ q 0 1 < 2 ^ (q 0 1 + 1) := Nat.pow_lt_pow_right (by omega) (by omega)
  obtain ⟨o0, o1, o2, o3, o4, o5, o6, o7, o8, o9, o10, o11, o12⟩ := ok
  refine ⟨by rw [e0]; exact o0, by rw [e1]; omega, fun k hk => by rw [eq _ _ (by decide) (by decide) (by decide)]; exact o2 k hk, o3, fun k hk => by rw [eq _ _ (by decide) (by decide) (by decide)]; exact o4 k hk, fun k hk => ?_, fun k hk => ⟨?_, ?_⟩, fun k h1 h2 => ?_, fun k hk => ?_, fun k hk => ?_, fun t i ht => ?_, fun t i ht => ?_, fun t => by rw [hT]; exact o12 t⟩
  · simp only [addq]
    rw [if_neg (by omega)]
    repeat' split
    · exact ha
    · exact hb
    · exact hc
    · omega
    · exact o5 k hk
  · simp only [addq]
    rw [if_neg (by omega), if_neg (by omega), if_neg (by omega), if_neg (by omega)]
    split
    · exact he
    · exact (o6 k hk).1
  · rw [eq _ _ (by decide) (by decide) (by decide)]; exact (o6 k hk).2
  · rw [e1] at h1
    rw [eq 6 _ (by decide) (by decide) (by decide), eq 7 _ (by decide) (by decide) (by decide), eq 10 _ (by decide) (by decide) (by decide), eq 11 _ (by decide) (by decide) (by decide)]
    exact o7 k (by omega) h2
  · rw [e1, eq 7 _ (by decide) (by decide) (by decide), eq 10 _ (by decide) (by decide) (by decide), eq 11 _ (by decide) (by decide) (by decide)]
    have := o8 k hk
    exact ⟨Nat.lt_trans this.1 hp, Nat.lt_trans this.2.1 hp, Nat.lt_trans this.2.2 hp⟩
  · rw [eq 10 _ (by decide) (by decide) (by decide), eq 11 _ (by decide) (by decide) (by decide)]
    exact o9 k hk
  · rw [hT, eq 8 _ (by decide) (by decide) (by decide)]; exact o10 t i ht
  · rw [hT, eq 9 _ (by decide) (by decide) (by decide)]; exact o11 t i ht
theorem clq_n (q : St) {i k : Nat} (h : i ≠ 8) (h2 : i ≠ 9) : clq q i k = q i k := by simp only [clq]; rw [if_neg h, if_neg h2]
theorem RR_clq {r : Nat → Int32} {q : St} (h : RR r q) : RR r (clq q) := h
/-- no pair, step by step -/
theorem prt_up {q : St} {a b : Nat} (hne : a ≠ b) : prt q a b = up (up (up (up q 10 a (clr (q 10 a) b)) 10 b (clr (q 10 b) a)) 11 a (clr (q 11 a) b)) 11 b (clr (q 11 b) a) := by
  funext i k
  simp only [prt, up]
  by_cases e : i = 10
  · subst e
    by_cases e1 : k = a
    · subst e1
      simp [hne]
    · by_cases e2 : k = b
      · subst e2; simp [e1]
      · simp [e1, e2]
  · by_cases e' : i = 11
    · subst e'
      by_cases e1 : k = a
      · subst e1
        simp [hne]
      · by_cases e2 : k = b
        · subst e2; simp [e1]
        · simp [e1, e2]
    · simp [e, e']
theorem clr_lt {v a n : Nat} (h : v < 2 ^ n) : clr v a < 2 ^ n := lacks_lt h
theorem clr_f {v a k : Nat} (hv : v < 4096) (h : v.testBit k = false) : (clr v a).testBit k = false := by rw [clr_bit hv, h]; rfl
theorem QV {q : St} (ok : QOK q) {z k v : Nat} (hz : z = 10 ∨ z = 11) (h : v < 2 ^ q 0 1 ∧ v.testBit k = false ∧ k < q 0 1) : QOK (up q z k v) := by
  rcases hz with rfl | rfl <;> exact QOK_up ok (by decide) (by omega) ⟨fun z => absurd z (by decide), fun z => absurd z (by decide), fun z => absurd z (by decide), fun z => absurd z (by decide), fun z => absurd z (by decide), fun z => absurd z (by decide), fun z => absurd z (by decide), fun _ => h⟩
theorem up_01 (q : St) {j k v : Nat} (h : ¬ (j = 0 ∧ k = 1)) : up q j k v 0 1 = q 0 1 := up_n q v (by omega)
theorem QV_clr {q : St} (ok : QOK q) {z k a : Nat} (hz : z = 10 ∨ z = 11) (hk : k < q 0 1) : QOK (up q z k (clr (q z k) a)) := by
  have h12 := ok.2.1
  have hp := pow12 h12
  have h8 := ok.2.2.2.2.2.2.2.2.1 k (by omega)
  have h9 := ok.2.2.2.2.2.2.2.2.2.1 k (by omega)
  refine QV ok hz ?_
  rcases hz with rfl | rfl
  · exact ⟨clr_lt h8.2.1, clr_f (by omega) h9.1, hk⟩
  · exact ⟨clr_lt h8.2.2, clr_f (by omega) h9.2, hk⟩
theorem QV_or {q : St} (ok : QOK q) {z k a : Nat} (hz : z = 10 ∨ z = 11) (hk : k < q 0 1) (ha : a < q 0 1) (hne : a ≠ k) : QOK (up q z k (q z k ||| 2 ^ a)) := by
  have h12 := ok.2.1
  have h8 := ok.2.2.2.2.2.2.2.2.1 k (by omega)
  have h9 := ok.2.2.2.2.2.2.2.2.2.1 k (by omega)
  refine QV ok hz ?_
  have e : (2 ^ a).testBit k = false := by rw [p2_bit]; exact decide_eq_false hne
  rcases hz with rfl | rfl
  · exact ⟨or_p2_lt h8.2.1 ha, by rw [Nat.testBit_or, h9.1, e]; rfl, hk⟩
  · exact ⟨or_p2_lt h8.2.2 ha, by rw [Nat.testBit_or, h9.2, e]; rfl, hk⟩
theorem QOK_prt {q : St} (ok : QOK q) {a b : Nat} (ha : a < q 0 1) (hb : b < q 0 1) (hne : a ≠ b) : QOK (prt q a b) := by
  rw [prt_up hne]
  have k1 := QV_clr ok (z := 10) (k := a) (a := b) (Or.inl rfl) ha
  have k2 := QV_clr k1 (z := 10) (k := b) (a := a) (Or.inl rfl) hb
  rw [show up q 10 a (clr (q 10 a) b) 10 b = q 10 b from up_n _ _ (by omega)] at k2
  have k3 := QV_clr k2 (z := 11) (k := a) (a := b) (Or.inr rfl) ha
  rw [show up (up q 10 a (clr (q 10 a) b)) 10 b (clr (q 10 b) a) 11 a = q 11 a from rfl] at k3
  have k4 := QV_clr k3 (z := 11) (k := b) (a := a) (Or.inr rfl) hb
  rw [show up (up (up q 10 a (clr (q 10 a) b)) 10 b (clr (q 10 b) a)) 11 a (clr (q 11 a) b) 11 b = q 11 b from by rw [up_n _ _ (by omega)]; rfl] at k4
  exact k4
theorem jn_up {q : St} {z a b : Nat} (hne : a ≠ b) : jn q z a b = up (up (prt q a b) z a (prt q a b z a ||| 2 ^ b)) z b (prt q a b z b ||| 2 ^ a) := by
  funext i k
  simp only [jn, up]
  by_cases e : i = z
  · subst e
    by_cases e1 : k = a
    · subst e1
      simp [hne]
    · by_cases e2 : k = b
      · subst e2; simp [e1]
      · simp [e1, e2]
  · simp [e]
theorem prt_01 (q : St) (a b : Nat) : prt q a b 0 1 = q 0 1 := rfl
theorem QOK_jn {q : St} (ok : QOK q) {z a b : Nat} (hz : z = 10 ∨ z = 11) (ha : a < q 0 1) (hb : b < q 0 1) (hne : a ≠ b) : QOK (jn q z a b) := by
  rw [jn_up hne]
  have k0 := QOK_prt ok ha hb hne
  have k1 := QV_or k0 hz (k := a) (a := b) ha hb (Ne.symm hne)
  have e01 : up (prt q a b) z a (prt q a b z a ||| 2 ^ b) 0 1 = q 0 1 := up_01 _ (by omega)
  have k2 := QV_or k1 hz (k := b) (a := a) (by rw [e01]; exact hb) (by rw [e01]; exact ha) hne
  rw [show up (prt q a b) z a (prt q a b z a ||| 2 ^ b) z b = prt q a b z b from up_n _ _ (by omega)] at k2
  exact k2
theorem QOK_drq {q : St} (ok : QOK q) {a b : Nat} (ha : a < q 0 1) (hb : b < q 0 1) (hne : a ≠ b) : QOK (clq (up (up q 7 b (clr (q 7 b) a)) 7 a (clr (q 7 a) b))) ∧ QOK (drq q a b) := by
  have h12 := ok.2.1
  have hp := pow12 h12
  have h8 := fun k (hk : k < 12) => (ok.2.2.2.2.2.2.2.2.1 k hk).1
  have k0 : QOK (clq (up (up q 7 b (clr (q 7 b) a)) 7 a (clr (q 7 a) b))) := by
    refine QOK_clq ok (fun i k h7 _ _ => by rw [up_n _ _ (by omega), up_n _ _ (by omega)]) (fun k hk => ?_) (fun k h1 h2 => ?_) (fun t ht => ?_)
    · simp only [up, true_and]
      repeat' split
      · exact clr_lt (h8 a (by omega))
      · exact clr_lt (h8 b (by omega))
      · exact h8 k hk
    · simp only [up, true_and]
      rw [if_neg (by omega), if_neg (by omega)]
      exact (ok.2.2.2.2.2.2.2.1 k h1 h2).2.1
    · refine ok.2.2.2.2.2.2.2.2.2.2.2.2 t (TG_sub (fun k i hk hb' => ?_) ht)
      simp only [up, true_and] at hb'
      have h8k := h8 k hk
      split at hb'
      · rename_i e
        have := h8 a (by omega)
        rw [clr_bit (by omega), Bool.and_eq_true] at hb'
        rw [e]; exact hb'.1
      · split at hb'
        · rename_i e
          have := h8 b (by omega)
          rw [clr_bit (by omega), Bool.and_eq_true] at hb'
          rw [e]; exact hb'.1
        · exact hb'
  exact ⟨k0, QOK_prt k0 ha hb hne⟩
/-- all tasks out of their stations: the first j -/
def clrJ (q : St) (j : Nat) : St := fun i k => if i = 6 ∧ k < j then 0 else q i k
theorem clrJ_s (q : St) (j : Nat) : up (clrJ q j) 6 j 0 = clrJ q (j + 1) := by
  funext i k
  simp only [up, clrJ]
  repeat' split
  all_goals (first | rfl | omega)
theorem clrJ_0 (q : St) : clrJ q 0 = q := by funext i k; simp [clrJ]
theorem clrJ_n {q : St} (ok : QOK q) : clrJ q (q 0 1) = fun i k => if i = 6 ∧ k < 12 then 0 else q i k := by
  have h12 := ok.2.1
  funext i k
  simp only [clrJ]
  by_cases e : i = 6 ∧ k < 12
  · rw [if_pos e]
    by_cases e2 : k < q 0 1
    · rw [if_pos ⟨e.1, e2⟩]
    · rw [if_neg (by omega), e.1]
      exact (ok.2.2.2.2.2.2.2.1 k (by omega) e.2).1
  · rw [if_neg e, if_neg (by omega)]
theorem QOK_6 {q : St} (ok : QOK q) {t v : Nat} (ht : t < q 0 1) (hv : v ≤ 8) : QOK (up q 6 t v) :=
  QOK_up ok (by decide) (by omega) ⟨fun z => absurd z (by decide), fun z => absurd z (by decide), fun z => absurd z (by decide), fun z => absurd z (by decide), fun z => absurd z (by decide), fun z => absurd z (by decide), fun _ => ⟨hv, ht⟩, fun z => absurd z (by decide)⟩
theorem QOK_clrJ {q : St} (ok : QOK q) : ∀ j, j ≤ q 0 1 → QOK (clrJ q j) := by
  intro j
  induction j with
  | zero => intro _; rw [clrJ_0]; exact ok
  | succ j ih =>
    intro hj
    rw [← clrJ_s]
    exact QOK_6 (ih (by omega)) (show j < q 0 1 by omega) (by omega)
theorem rl_nI {q : St} (ok : QOK q) {a b : Int32} (h : rlB a b) : ∃ k n, a = nI k ∧ b = nI n ∧ k < 4 ∧ QOK (up q 2 k n) ∧ n < 1000 := by
  have F : ∀ k n, ((k = 0 → 10 ≤ n ∧ n ≤ 999) ∧ (k = 1 → n ≤ 20) ∧ (k = 2 → 1 ≤ n ∧ n ≤ 5) ∧ (k = 3 → n ≤ 1)) → QOK (up q 2 k n) := fun k n z =>
    QOK_up ok (by decide) (by omega) ⟨fun z => absurd z (by decide), fun z => absurd z (by decide), fun _ => z, fun z => absurd z (by decide), fun z => absurd z (by decide), fun z => absurd z (by decide), fun z => absurd z (by decide), fun z => absurd z (by decide)⟩
  rcases h with ⟨rfl, h⟩ | ⟨rfl, h⟩ | ⟨rfl, h⟩ | ⟨rfl, h⟩
  · obtain ⟨n, rfl, h1, h2⟩ := in_nI (a := 10) (b := 999) rfl rfl (by decide) (by decide) h
    exact ⟨0, n, rfl, rfl, by decide, F 0 n ⟨fun _ => ⟨h1, h2⟩, by omega, by omega, by omega⟩, by omega⟩
  · obtain ⟨n, rfl, h1, h2⟩ := in_nI (a := 0) (b := 20) rfl rfl (by decide) (by decide) h
    exact ⟨1, n, rfl, rfl, by decide, F 1 n ⟨by omega, fun _ => h2, by omega, by omega⟩, by omega⟩
  · obtain ⟨n, rfl, h1, h2⟩ := in_nI (a := 1) (b := 5) rfl rfl (by decide) (by decide) h
    exact ⟨2, n, rfl, rfl, by decide, F 2 n ⟨by omega, by omega, fun _ => ⟨h1, h2⟩, by omega⟩, by omega⟩
  · obtain ⟨n, rfl, h1, h2⟩ := in_nI (a := 0) (b := 1) rfl rfl (by decide) (by decide) h
    exact ⟨3, n, rfl, rfl, by decide, F 3 n ⟨by omega, by omega, by omega, fun _ => h2⟩, by omega⟩
theorem st_nI {b : Int32} (h : gI (-1) 7 b) (hne : ¬ b = -1) : ∃ s, b = nI s ∧ s < 8 := by
  obtain ⟨h1, h2⟩ := h
  rw [Int32.le_iff_toInt_le, show (-1 : Int32).toInt = -1 from by decide] at h1
  have h3 : b.toInt ≠ -1 := fun z => hne (Int32.toInt_inj.mp (by rw [z]; decide))
  obtain ⟨n, a, -, c⟩ := in_nI (x := b) (lo := 0) (hi := 7) (a := 0) (b := 7) rfl rfl (by decide) (by decide) ⟨by rw [Int32.le_iff_toInt_le, show (0 : Int32).toInt = 0 from rfl]; omega, h2⟩
  exact ⟨n, a, by omega⟩
theorem IO_w {d d1 : Dt} {q : St} {x v : Int32} {w : Nat} (hm : mS d d1) (hr : RR (d1.1 161) q) (ok : QOK q) (hw6 : w ≤ 6) : IO d (dI (dI d1 160 (upd (d1.1 160) 6 (nI w))) 160 (upd ((dI d1 160 (upd (d1.1 160) 6 (nI w))).1 160) 7 2)) x (2, v, q, w) :=
  ⟨mI_7 (mI_6 (mS_mI hm) _) 2, ⟨by rw [dI_s]; rfl, by show 2 ≤ 9; decide⟩, fun z => absurd z (by show ¬ 2 = 0; decide), ⟨by rw [dI_n _ _ (by decide), dI_n _ _ (by decide)]; exact hr, ok⟩, by rw [dI_s]; simp only [upd]; rw [if_neg (by decide), dI_s]; rfl, hw6⟩
theorem ok_same {q : St} (ok : QOK q) {k : Nat} (hk : k < q 0 1) : lnk q k k = false ∧ pk q k k = 0 := by
  have h12 := ok.2.1
  have h9 := ok.2.2.2.2.2.2.2.2.2.1 k (by omega)
  have h7 : (q 7 k).testBit k = false := by
    cases h : (q 7 k).testBit k with
    | false => rfl
    | true => exact absurd (Relation.TransGen.single ⟨by omega, h⟩) (ok.2.2.2.2.2.2.2.2.2.2.2.2 k)
  exact ⟨by simp only [lnk, h7]; rfl, by simp only [pk, h9.1, h9.2]; rfl⟩
