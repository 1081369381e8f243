/-! copies of rows, and the ends of calls -/
def cpy (a b : Nat → Int32) (j : Nat) : Nat → Int32 := fun k => if k < j then b k else a k
theorem cpy_lt (a b : Nat → Int32) {n k : Nat} (h : k < n) : cpy a b n k = b k := if_pos h
theorem cpy_0 (d : Dt) (i : Nat) (b : Nat → Int32) : dI d i (cpy (d.1 i) b 0) = d := by
  have : cpy (d.1 i) b 0 = d.1 i := by funext k; simp [cpy]
  rw [this, dI_self]
theorem cpy_s1 (a b : Nat → Int32) (j : Nat) : upd (cpy a b j) j (b j) = cpy a b (j + 1) := by
  funext k
  simp only [upd, cpy]
  by_cases e : k = j
  · subst e; rw [if_pos rfl, if_pos (by omega)]
  · rw [if_neg e]
    by_cases e2 : k < j
    · rw [if_pos e2, if_pos (by omega)]
    · rw [if_neg e2, if_neg (by omega)]
theorem cpy_s (d : Dt) {i i2 : Nat} (hne : i2 ≠ i) (j : Nat) : dI (dI d i (cpy (d.1 i) (d.1 i2) j)) i (upd ((dI d i (cpy (d.1 i) (d.1 i2) j)).1 i) j ((dI d i (cpy (d.1 i) (d.1 i2) j)).1 i2 j)) = dI d i (cpy (d.1 i) (d.1 i2) (j + 1)) := by
  rw [dI_dI, dI_s, dI_n _ _ hne, cpy_s1]
/-- a copy from further on: from place a to place b -/
def cpo (f g : Nat → Int32) (a b j : Nat) : Nat → Int32 := fun k => if b ≤ k ∧ k < b + j then g (k - b + a) else f k
theorem cpo_0 (d : Dt) (i : Nat) (g : Nat → Int32) (a b : Nat) : dI d i (cpo (d.1 i) g a b 0) = d := by
  have : cpo (d.1 i) g a b 0 = d.1 i := by funext k; simp only [cpo]; rw [if_neg (by omega)]
  rw [this, dI_self]
theorem cpo_s1 (f g : Nat → Int32) (a b j : Nat) : upd (cpo f g a b j) (b + j) (g (a + j)) = cpo f g a b (j + 1) := by
  funext k
  simp only [upd, cpo]
  by_cases e : k = b + j
  · subst e
    rw [if_pos rfl, if_pos (by omega), show b + j - b + a = a + j by omega]
  · rw [if_neg e]
    by_cases e2 : b ≤ k ∧ k < b + j
    · rw [if_pos e2, if_pos (by omega)]
    · rw [if_neg e2, if_neg (by omega)]
theorem cpo_at (f g : Nat → Int32) (a b : Nat) {n k : Nat} (h : k < n) : cpo f g a b n (b + k) = g (a + k) := by
  simp only [cpo]
  rw [if_pos (by omega), show b + k - b + a = a + k by omega]
theorem cpo_no (f g : Nat → Int32) {a b n k : Nat} (h : ¬ (b ≤ k ∧ k < b + n)) : cpo f g a b n k = f k := if_neg h
theorem b2d_t {P : Prop} {_ : Decidable P} (h : ¬ b2i (decide P) = 0) : P := of_decide_eq_true (b2i_ne.mp h)
theorem b2d_f {P : Prop} {_ : Decidable P} (h : b2i (decide P) = 0) : ¬ P := of_decide_eq_false (b2i_eq.mp h)
def kP (d d' : Dt) (n : Nat) : Prop := d'.2 = d.2 ∧ (∀ i, i ≠ 163 → i ≠ 160 → d'.1 i = d.1 i) ∧ (∀ k, k ≠ 3 → d'.1 160 k = d.1 160 k) ∧ d'.1 160 3 = nI (if n = 8 then 8 else n + 1) ∧ kept d n (d'.1 163)
theorem kP_fM {d d' : Dt} {n : Nat} (h : kP d d' n) : fM d d' := ⟨fun i hi => ⟨h.2.1 i (by omega) (by omega), by rw [h.1]⟩, by rw [h.1]⟩
theorem MC_g {d0 d : Dt} {y : Sy} {q : St} {w : Nat} (h : MC d0 d y q w) {j k v i : Nat} (hj : j < 8 ∨ j = 10 ∨ j = 11) (hk : k < szOf j) (hi : i = pos j k) {x : Int32} (hx : x = if j = 6 then pv v else nI v) (ok' : QOK (up q j k v)) : MC d0 (dI d 161 (upd (d.1 161) i x)) y (up q j k v) w :=
  MC_m h (mI_g (mI_r d) _) (by rw [dI_s]; exact RR_up h.2.2.2.1.1 h.2.2.2.1.2.2.1 hj hk hi hx) ok' (by rw [dI_n _ _ (by decide)]; exact h.2.2.2.2.1) h.2.2.2.2.2
theorem MC_7 {d0 d : Dt} {y : Sy} {q : St} {w : Nat} (h : MC d0 d y q w) (x : Int32) : MC d0 (dI d 160 (upd (d.1 160) 7 x)) y q w :=
  MC_m h (mI_7 (mI_r d) x) (by rw [dI_n _ _ (by decide)]; exact h.2.2.2.1.1) h.2.2.2.1.2 (by rw [dI_s]; exact h.2.2.2.2.1) h.2.2.2.2.2
theorem MC_keep {d0 d : Dt} {y : Sy} {q : St} {w : Nat} (h : MC d0 d y q w) : MR d (keep2 y q w) := MR_keep h.2.1 h.1.2 h.2.2.2.1.1 h.2.2.2.1.2 h.2.2.2.2.1 h.2.2.2.2.2
theorem MC_push {d0 d d' : Dt} {y : Sy} {q : St} {w : Nat} (h : MC d0 d y q w) (hk : kP d d' y.2.1.length) : MR d' (push2 y q w) := by
  obtain ⟨⟨hf, m1, m2, m3, m4, m5, m6⟩, ⟨⟨hr, ok⟩, hH, hS, hW, hT⟩, h162, ⟨hq, okq⟩, hw, hw6⟩ := h
  obtain ⟨k1, k2, k3, k4, k5⟩ := hk
  refine ⟨⟨by rw [k2 161 (by decide) (by decide)]; exact hq, okq⟩, ?_, ?_, ⟨by rw [k3 6 (by decide)]; exact hw, hw6⟩, ?_⟩
  · have hH2 : HM (d.1 163) (d.1 160 3) y.1 y.2.1 := by rw [m1, m4]; exact hH
    have := HM_push (q' := q) hH2 k5 h162 ok
    rw [← k4] at this
    exact this
  · cases hs : y.2.2.1 with
    | none => rw [hs] at hS; show SV d' y.2.2.1; rw [hs]; show d'.1 160 5 = 0; rw [k3 5 (by decide), m5]; exact hS
    | some p => rw [hs] at hS; show SV d' y.2.2.1; rw [hs]; exact ⟨by rw [k3 5 (by decide), m5]; exact hS.1, by rw [k2 164 (by decide) (by decide), m2]; exact hS.2.1, hS.2.2⟩
  · show TP (d'.1 172) (d'.1 160 17) y.2.2.2.2
    rw [k2 172 (by decide) (by decide), k3 17 (by decide), m3, m6]
    exact hT
/-- the end of a call that says whether it is a change -/
def CH (d0 d' : Dt) (y : Sy) (q : St) (w c : Nat) : Prop := fM d0 d' ∧ d'.1 160 7 = nI c ∧ MR d' (if c = 0 then push2 y q w else keep2 y q w)
theorem RO_ch {d0 d' : Dt} {y : Sy} {q : St} {w : Nat} {x v : Int32} (h : CH d0 d' y q w 0) (hx : x = v) : RO d0 d' x (0, v, push2 y q w) := ⟨h.1, h.2.1, fun _ => hx, h.2.2⟩
theorem RO_fin {d0 d' : Dt} {y : Sy} {x : Int32} {o : In} (h : CH d0 d' y o.2.2.1 o.2.2.2 o.1) (hx : o.1 = 0 → x = o.2.1) : RO d0 d' x (finO y o) := ⟨h.1, h.2.1, hx, h.2.2⟩
/-- what an inner change leaves -/
def IO (d d' : Dt) (x : Int32) (o : In) : Prop := mI d d' ∧ (d'.1 160 7 = nI o.1 ∧ o.1 ≤ 9) ∧ (o.1 = 0 → x = o.2.1) ∧ (RR (d'.1 161) o.2.2.1 ∧ QOK o.2.2.1) ∧ d'.1 160 6 = nI o.2.2.2 ∧ o.2.2.2 ≤ 6
theorem IO_MC {d0 d d' : Dt} {y : Sy} {q : St} {w : Nat} {x : Int32} {o : In} (h : MC d0 d y q w) (g : IO d d' x o) : MC d0 d' y o.2.2.1 o.2.2.2 := MC_m h g.1 g.2.2.2.1.1 g.2.2.2.1.2 g.2.2.2.2.1 g.2.2.2.2.2
theorem MR_mS {d d' : Dt} {y : Sy} (h : MR d y) (hm : mS d d') (x : Int32) : MR (dI d' 160 (upd (d'.1 160) 7 x)) y := by
  have e : mK d (dI d' 160 (upd (d'.1 160) 7 x)) := mK_160 (mS_mK hm) (by decide) x
  have := MR_keep h e (q := y.1) (by rw [dI_n _ _ (by decide), mS_g hm]; exact h.1.1) h.1.2 (w := y.2.2.2.1) (by rw [dI_s]; simp only [upd]; rw [if_neg (by decide), hm.2.2 6 (by decide)]; exact h.2.2.2.1.1) h.2.2.2.1.2
  exact this
theorem RO_q {d d1 : Dt} {y : Sy} {x v : Int32} (h : MR d y) (hm : mS d d1) (hx : x = v) : RO d (dI d1 160 (upd (d1.1 160) 7 0)) x (0, v, y) :=
  ⟨fM_dI (mS_fM hm) (by decide) _, by rw [dI_s]; rfl, fun _ => hx, MR_mS h hm 0⟩
theorem RO_f {d d1 : Dt} {y : Sy} {x v c : Int32} {n : Nat} (h : MR d y) (hm : mS d d1) (hc : c = nI n) (hn : n ≠ 0) : RO d (dI d1 160 (upd (d1.1 160) 7 c)) x (n, v, y) :=
  ⟨fM_dI (mS_fM hm) (by decide) _, by rw [dI_s]; exact hc, fun z => absurd z hn, MR_mS h hm c⟩
theorem RO_f2 {d0 d : Dt} {y : Sy} {x v c : Int32} {n : Nat} (h : MC d0 d y y.1 y.2.2.2.1) (hc : c = nI n) (hn : n ≠ 0) : RO d0 (dI d 160 (upd (d.1 160) 7 c)) x (n, v, y) :=
  ⟨fM_dI h.1.1 (by decide) _, by rw [dI_s]; exact hc, fun z => absurd z hn, MC_keep (MC_7 h c)⟩
theorem IO_f {d : Dt} {q : St} {w n : Nat} {x v c : Int32} (hr : RR (d.1 161) q) (ok : QOK q) (hw : d.1 160 6 = nI w) (hw6 : w ≤ 6) (hc : c = nI n) (hn : n ≠ 0) (hn9 : n ≤ 9) : IO d (dI d 160 (upd (d.1 160) 7 c)) x (n, v, q, w) :=
  ⟨mI_7 (mI_r d) c, ⟨by rw [dI_s]; exact hc, hn9⟩, fun z => absurd z hn, ⟨by rw [dI_n _ _ (by decide)]; exact hr, ok⟩, by rw [dI_s]; exact hw, hw6⟩
theorem IO_d {d d1 : Dt} {q : St} {w : Nat} {x v : Int32} (hm : mI d d1) (hr : RR (d1.1 161) q) (ok : QOK q) (hw : d1.1 160 6 = nI w) (hw6 : w ≤ 6) (hx : x = v) : IO d (dI d1 160 (upd (d1.1 160) 7 0)) x (0, v, q, w) :=
  ⟨mI_7 hm 0, ⟨by rw [dI_s]; rfl, Nat.zero_le _⟩, fun _ => hx, ⟨by rw [dI_n _ _ (by decide)]; exact hr, ok⟩, by rw [dI_s]; exact hw, hw6⟩
theorem kP_a {d : Dt} {n : Nat} (hn : n ≤ 7) : kP d (dI (dI d 163 (cpo (d.1 163) (d.1 162) 0 (113 * n) 113)) 160 (upd (d.1 160) 3 (nI (n + 1)))) n := by
  refine ⟨rfl, fun i h1 h2 => by rw [dI_n _ _ h2, dI_n _ _ h1], fun k hk => by rw [dI_s]; simp only [upd]; rw [if_neg hk], by rw [dI_s]; simp only [upd, if_true]; rw [if_neg (by omega)], ?_⟩
  rw [dI_n _ _ (by decide), dI_s]
  refine ⟨fun i hi k hk => ?_, fun k hk => ?_⟩
  · rw [if_neg (by omega)] at hi ⊢
    rw [cpo_no _ _ (by omega), Nat.add_zero]
  · rw [if_neg (by omega), cpo_at _ _ _ _ hk, Nat.zero_add]
theorem kP_b {d : Dt} {n : Nat} (hn : n = 8) {x : Int32} : kP d (dI (dI (dI (dI d 163 (cpo (d.1 163) (d.1 163) 113 0 791)) 160 (upd (d.1 160) 3 x)) 163 (cpo ((dI (dI d 163 (cpo (d.1 163) (d.1 163) 113 0 791)) 160 (upd (d.1 160) 3 x)).1 163) ((dI (dI d 163 (cpo (d.1 163) (d.1 163) 113 0 791)) 160 (upd (d.1 160) 3 x)).1 162) 0 (113 * 7) 113)) 160 (upd ((dI (dI d 163 (cpo (d.1 163) (d.1 163) 113 0 791)) 160 (upd (d.1 160) 3 x)).1 160) 3 (nI (7 + 1)))) n := by
  subst hn
  refine ⟨rfl, fun i h1 h2 => by rw [dI_n _ _ h2, dI_n _ _ h1, dI_n _ _ h2, dI_n _ _ h1], fun k hk => ?_, ?_, ?_⟩
  · rw [dI_s]; simp only [upd]; rw [if_neg hk, dI_s]; simp only [upd]; rw [if_neg hk]
  · rw [dI_s]; simp only [upd, if_true]
  · rw [dI_n _ _ (by decide), dI_s, dI_n _ _ (by decide), dI_s, dI_n _ _ (by decide), dI_n _ _ (by decide)]
    refine ⟨fun i hi k hk => ?_, fun k hk => ?_⟩
    · rw [if_pos rfl] at hi ⊢
      have e := cpo_at (d.1 163) (d.1 163) 113 0 (show 113 * i + k < 791 by omega)
      rw [Nat.zero_add] at e
      rw [cpo_no _ _ (by omega), e]
      exact congrArg _ (by omega)
    · rw [if_pos rfl, cpo_at _ _ _ _ hk, Nat.zero_add]
theorem pv_m1g {p : Nat} (hp : p < 1000) : pv p = -1 ↔ p = 0 := by
  unfold pv
  split
  · rename_i h; simp [h]
  · rename_i h
    constructor
    · intro z; exact absurd z.symm (m1_ne0 (by omega))
    · intro z; exact absurd z h
theorem pv_lt0g {p : Nat} (hp : p < 1000) : pv p < 0 ↔ p = 0 := by
  unfold pv
  split
  · rename_i h; simp [h]
  · rename_i h
    rw [Int32.lt_iff_toInt_lt, nI_toInt (by omega), Int32.toInt_zero]
    omega
