/-! calls that change -/
abbrev iv (x : Int32) : Nat := x.toNatClampNeg
abbrev gI (lo hi x : Int32) : Prop := lo ≤ x ∧ x ≤ hi
abbrev tkI (q : St) (x : Int32) : Prop := 0 ≤ x ∧ x ≤ nI (q 0 1) - 1
theorem in_nI {x lo hi : Int32} {a b : Nat} (hlo : lo = nI a) (hhi : hi = nI b) (hb : b < 2 ^ 31) (ha : a < 2 ^ 31) (h : lo ≤ x ∧ x ≤ hi) : ∃ n, x = nI n ∧ a ≤ n ∧ n ≤ b := by
  subst hlo hhi
  rw [Int32.le_iff_toInt_le, Int32.le_iff_toInt_le, nI_toInt ha, nI_toInt hb] at h
  refine ⟨x.toInt.toNat, ?_, by omega, by omega⟩
  apply Int32.toInt_inj.mp
  rw [nI_toInt (by omega)]
  omega
theorem tk_nI {q : St} (h12 : q 0 1 ≤ 12) {x : Int32} (h : tkI q x) : ∃ t, x = nI t ∧ t < q 0 1 := by
  obtain ⟨h1, h2⟩ := h
  by_cases e : q 0 1 = 0
  · rw [e] at h2
    rw [Int32.le_iff_toInt_le] at h1 h2
    rw [show (0 : Int32).toInt = 0 from rfl] at h1
    rw [show (nI 0 - 1 : Int32).toInt = -1 from by decide] at h2
    omega
  · rw [tv_s (by omega)] at h2
    obtain ⟨n, a, -, c⟩ := in_nI (a := 0) (b := q 0 1 - 1) rfl rfl (by omega) (by omega) ⟨h1, h2⟩
    exact ⟨n, a, by omega⟩
theorem tkI_n {q : St} (h12 : q 0 1 ≤ 12) {t : Nat} (ht : t < q 0 1) : tkI q (nI t) := by
  refine ⟨?_, ?_⟩
  · rw [show (0 : Int32) = nI 0 from rfl, nI_leI (by omega) (by omega)]; omega
  · rw [tv_s (by omega), nI_leI (by omega) (by omega)]; omega
/-- what an inner change gives: 0 or what it throws, its answer, the state, the reason -/
abbrev In : Type := Nat × Int32 × St × Nat
def push2 (y : Sy) (q : St) (w : Nat) : Sy := (q, (y.1 :: y.2.1).take 8, y.2.2.1, w, y.2.2.2.2)
def keep2 (y : Sy) (q : St) (w : Nat) : Sy := (q, y.2.1, y.2.2.1, w, y.2.2.2.2)
def finO (y : Sy) (i : In) : Out := (i.1, i.2.1, if i.1 = 0 then push2 y i.2.2.1 i.2.2.2 else keep2 y i.2.2.1 i.2.2.2)
/-- what a call of the reference leaves -/
def RO (d d' : Dt) (x : Int32) (o : Out) : Prop := fM d d' ∧ d'.1 160 7 = nI o.1 ∧ (o.1 = 0 → x = o.2.1) ∧ MR d' o.2.2
/-- the cells that an inner change may write -/
def mI (d d' : Dt) : Prop := d'.2 = d.2 ∧ (∀ i, i ≠ 160 → i ≠ 161 → i ≠ 165 → i ≠ 166 → d'.1 i = d.1 i) ∧ ∀ k, k ≠ 6 → k ≠ 7 → k ≠ 9 → d'.1 160 k = d.1 160 k
theorem mI_r (d : Dt) : mI d d := ⟨rfl, fun _ _ _ _ _ => rfl, fun _ _ _ _ => rfl⟩
theorem mI_t {a b c : Dt} (h : mI a b) (g : mI b c) : mI a c := ⟨g.1.trans h.1, fun i x y z u => (g.2.1 i x y z u).trans (h.2.1 i x y z u), fun k x y z => (g.2.2 k x y z).trans (h.2.2 k x y z)⟩
theorem mS_mI {d d' : Dt} (h : mS d d') : mI d d' := ⟨h.1, fun i x _ z u => h.2.1 i z u x, fun k _ _ z => h.2.2 k z⟩
theorem mI_g {d d' : Dt} (h : mI d d') (f : Nat → Int32) : mI d (dI d' 161 f) := ⟨h.1, fun i x y z u => by rw [dI_n _ _ y]; exact h.2.1 i x y z u, fun k x y z => by rw [dI_n _ _ (by decide)]; exact h.2.2 k x y z⟩
theorem mI_7 {d d' : Dt} (h : mI d d') (x : Int32) : mI d (dI d' 160 (upd (d'.1 160) 7 x)) := ⟨h.1, fun i a b c e => by rw [dI_n _ _ a]; exact h.2.1 i a b c e, fun k a b c => by rw [dI_s]; simp only [upd, if_neg b]; exact h.2.2 k a b c⟩
theorem mI_6 {d d' : Dt} (h : mI d d') (x : Int32) : mI d (dI d' 160 (upd (d'.1 160) 6 x)) := ⟨h.1, fun i a b c e => by rw [dI_n _ _ a]; exact h.2.1 i a b c e, fun k a b c => by rw [dI_s]; simp only [upd, if_neg a]; exact h.2.2 k a b c⟩
theorem mI_fM {d d' : Dt} (h : mI d d') : fM d d' := ⟨fun i hi => ⟨h.2.1 i (by omega) (by omega) (by omega) (by omega), by rw [h.1]⟩, by rw [h.1]⟩
theorem mI_mK {d d' : Dt} (h : mI d d') : mK d d' := ⟨h.2.1 163 (by decide) (by decide) (by decide) (by decide), h.2.1 164 (by decide) (by decide) (by decide) (by decide), h.2.1 172 (by decide) (by decide) (by decide) (by decide), h.2.2 3 (by decide) (by decide) (by decide), h.2.2 5 (by decide) (by decide) (by decide), h.2.2 17 (by decide) (by decide) (by decide)⟩
/-- within a change: what stood before is remembered -/
def MC (d0 d : Dt) (y : Sy) (q : St) (w : Nat) : Prop := (fM d0 d ∧ mK d0 d) ∧ MR d0 y ∧ RR (d.1 162) y.1 ∧ (RR (d.1 161) q ∧ QOK q) ∧ d.1 160 6 = nI w ∧ w ≤ 6
theorem MC_0 {d : Dt} {y : Sy} (h : MR d y) {f : Nat → Int32} (hf : ∀ k, k < 113 → f k = d.1 161 k) : MC d (dI d 162 f) y y.1 y.2.2.2.1 := by
  refine ⟨⟨fM_dI (fM_r d) (by decide) f, mK_dI (mK_r d) (by decide) f⟩, h, ?_, ⟨?_, h.1.2⟩, ?_, h.2.2.2.1.2⟩
  · rw [dI_s]; exact RR_congr h.1.2.2.1 hf h.1.1
  · rw [dI_n _ _ (by decide)]; exact h.1.1
  · rw [dI_n _ _ (by decide)]; exact h.2.2.2.1.1
theorem MC_m {d0 d d' : Dt} {y : Sy} {q q' : St} {w w' : Nat} (h : MC d0 d y q w) (hm : mI d d') (hr : RR (d'.1 161) q') (ok : QOK q') (hw : d'.1 160 6 = nI w') (hw6 : w' ≤ 6) : MC d0 d' y q' w' :=
  ⟨⟨fM_t h.1.1 (mI_fM hm), mK_t h.1.2 (mI_mK hm)⟩, h.2.1, by rw [hm.2.1 162 (by decide) (by decide) (by decide) (by decide)]; exact h.2.2.1, ⟨hr, ok⟩, hw, hw6⟩
/-! the rows of a changed state -/
theorem RR_cg {r r' : Nat → Int32} {q q' : St} (h : RR r q) (h0 : r' 0 = nI (q' 0 0) ∧ r' 16 = nI (q' 0 1)) (hn : q' 0 1 = q 0 1) (h1 : ∀ k, k < 3 → r' (1 + k) = r (1 + k) ∧ q' 1 k = q 1 k ∨ r' (1 + k) = nI (q' 1 k)) (h2 : ∀ k, k < 4 → r' (4 + k) = r (4 + k) ∧ q' 2 k = q 2 k ∨ r' (4 + k) = nI (q' 2 k)) (h3 : ∀ k, k < 8 → r' (8 + k) = r (8 + k) ∧ q' 3 k = q 3 k ∨ r' (8 + k) = nI (q' 3 k))
    (h4 : ∀ t, t < q 0 1 → ∀ m, m < 3 → r' (17 + 5 * t + m) = r (17 + 5 * t + m) ∧ q' 4 (3 * t + m) = q 4 (3 * t + m) ∨ r' (17 + 5 * t + m) = nI (q' 4 (3 * t + m))) (h5 : ∀ t, t < q 0 1 → r' (17 + 5 * t + 3) = r (17 + 5 * t + 3) ∧ q' 5 t = q 5 t ∨ r' (17 + 5 * t + 3) = nI (q' 5 t)) (h6 : ∀ t, t < q 0 1 → r' (17 + 5 * t + 4) = r (17 + 5 * t + 4) ∧ q' 6 t = q 6 t ∨ r' (17 + 5 * t + 4) = pv (q' 6 t))
    (h7 : ∀ t, t < 12 → r' (77 + t) = r (77 + t) ∧ q' 7 t = q 7 t ∨ r' (77 + t) = nI (q' 7 t)) (h10 : ∀ t, t < 12 → r' (89 + t) = r (89 + t) ∧ q' 10 t = q 10 t ∨ r' (89 + t) = nI (q' 10 t)) (h11 : ∀ t, t < 12 → r' (101 + t) = r (101 + t) ∧ q' 11 t = q 11 t ∨ r' (101 + t) = nI (q' 11 t)) : RR r' q' := by
  obtain ⟨-, g1, g2, g3, g4, g5⟩ := h
  refine ⟨h0, fun k hk => ?_, fun k hk => ?_, fun k hk => ?_, fun t ht => ⟨fun m hm => ?_, ?_, ?_⟩, fun t ht => ⟨?_, ?_, ?_⟩⟩
  · rcases h1 k hk with ⟨a, b⟩ | a
    · rw [a, b]; exact g1 k hk
    · exact a
  · rcases h2 k hk with ⟨a, b⟩ | a
    · rw [a, b]; exact g2 k hk
    · exact a
  · rcases h3 k hk with ⟨a, b⟩ | a
    · rw [a, b]; exact g3 k hk
    · exact a
  · rcases h4 t (hn ▸ ht) m hm with ⟨a, b⟩ | a
    · rw [a, b]; exact (g4 t (hn ▸ ht)).1 m hm
    · exact a
  · rcases h5 t (hn ▸ ht) with ⟨a, b⟩ | a
    · rw [a, b]; exact (g4 t (hn ▸ ht)).2.1
    · exact a
  · rcases h6 t (hn ▸ ht) with ⟨a, b⟩ | a
    · rw [a, b]; exact (g4 t (hn ▸ ht)).2.2
    · exact a
  · rcases h7 t ht with ⟨a, b⟩ | a
    · rw [a, b]; exact (g5 t ht).1
    · exact a
  · rcases h10 t ht with ⟨a, b⟩ | a
    · rw [a, b]; exact (g5 t ht).2.1
    · exact a
  · rcases h11 t ht with ⟨a, b⟩ | a
    · rw [a, b]; exact (g5 t ht).2.2
    · exact a
/-- where the reference keeps the number (j, k) -/
def pos (j k : Nat) : Nat := match j with
  | 0 => if k = 0 then 0 else 16
  | 1 => 1 + k
  | 2 => 4 + k
  | 3 => 8 + k
  | 4 => 17 + 5 * (k / 3) + k % 3
  | 5 => 17 + 5 * k + 3
  | 6 => 17 + 5 * k + 4
  | 7 => 77 + k
  | 10 => 89 + k
  | _ => 101 + k
def szOf (j : Nat) : Nat := match j with
  | 0 => 1
  | 1 => 3
  | 2 => 4
  | 3 => 8
  | 4 => 36
  | _ => 12
theorem RR_up {r : Nat → Int32} {q : St} (h : RR r q) (hn : q 0 1 ≤ 12) {j k v i : Nat} (hj : j < 8 ∨ j = 10 ∨ j = 11) (hk : k < szOf j) (hi : i = pos j k) {x : Int32} (hx : x = if j = 6 then pv v else nI v) : RR (upd r i x) (up q j k v) := by
  have hj' : j = 0 ∨ j = 1 ∨ j = 2 ∨ j = 3 ∨ j = 4 ∨ j = 5 ∨ j = 6 ∨ j = 7 ∨ j = 10 ∨ j = 11 := by omega
  have h0 := h.1
  subst hi hx
  rcases hj' with rfl | rfl | rfl | rfl | rfl | rfl | rfl | rfl | rfl | rfl <;> simp only [szOf] at hk <;> simp only [pos] <;> refine RR_cg h ⟨?_, ?_⟩ ?_ ?_ ?_ ?_ ?_ ?_ ?_ ?_ ?_ ?_ <;> simp only [upd, up] <;> (first | (intro t ht m hm; skip) | (intro t ht; skip) | skip) <;> (repeat' split) <;> (first | omega | (exact Or.inl ⟨rfl, rfl⟩) | (exact Or.inr rfl) | exact h0.1 | exact h0.2 | rfl | (exfalso; simp only [true_and] at *; omega) | (simp_all; done) | skip)
theorem TG_up (q : St) {j k v : Nat} (hj : j ≠ 7) : TG (up q j k v) = TG q := by
  have : TE (up q j k v) = TE q := by
    funext a b
    simp only [TE, up]
    rw [if_neg (by omega)]
  simp only [TG, this]
theorem QOK_up {q : St} (ok : QOK q) {j k v : Nat} (hj : j < 7 ∨ j = 10 ∨ j = 11) (h00 : ¬ (j = 0 ∧ k = 1)) (hv : (j = 0 → 1 ≤ v ∧ v ≤ 3) ∧ (j = 1 → 1 ≤ v ∧ v ≤ 9) ∧ (j = 2 → (k = 0 → 10 ≤ v ∧ v ≤ 999) ∧ (k = 1 → v ≤ 20) ∧ (k = 2 → 1 ≤ v ∧ v ≤ 5) ∧ (k = 3 → v ≤ 1)) ∧ (j = 3 → 1 ≤ v ∧ v ≤ 3) ∧ (j = 4 → v ≤ 99) ∧ (j = 5 → v ≤ 5) ∧ (j = 6 → v ≤ 8 ∧ k < q 0 1) ∧ (10 ≤ j → v < 2 ^ q 0 1 ∧ v.testBit k = false ∧ k < q 0 1)) : QOK (up q j k v) := by
  have hT : TG (up q j k v) = TG q := TG_up q (by omega)
  obtain ⟨a, b, c, e, f, g, h, i, l, m, n, o, p⟩ := ok
  obtain ⟨v0, v1, v2, v3, v4, v5, v6, v7⟩ := hv
  have e01 : up q j k v 0 1 = q 0 1 := by simp only [up]; rw [if_neg (by omega)]
  have e8 : ∀ t, up q j k v 8 t = q 8 t := fun t => by simp only [up]; rw [if_neg (by omega)]
  have e9 : ∀ t, up q j k v 9 t = q 9 t := fun t => by simp only [up]; rw [if_neg (by omega)]
  have e7 : ∀ t, up q j k v 7 t = q 7 t := fun t => by simp only [up]; rw [if_neg (by omega)]
  refine ⟨?_, by rw [e01]; exact b, fun k' hk' => ?_, ⟨?_, ?_, ?_, ?_, ?_, ?_⟩, fun k' hk' => ?_, fun k' hk' => ?_, fun k' hk' => ⟨?_, ?_⟩, fun k' h1 h2 => ⟨?_, by rw [e7]; exact (i k' (by rw [← e01]; exact h1) h2).2.1, ?_, ?_⟩, fun k' hk' => ⟨by rw [e7, e01]; exact (l k' hk').1, ?_, ?_⟩, fun k' hk' => ⟨?_, ?_⟩, fun t z ht => by rw [e8, hT]; exact n t z ht, fun t z ht => by rw [e9, hT]; exact o t z ht, fun t => by rw [hT]; exact p t⟩
  all_goals (try rw [e01] at *)
  · simp only [up]; split
    · rename_i z; exact v0 z.1.symm
    · exact a
  · simp only [up]; split
    · rename_i z; exact v1 z.1.symm
    · exact c k' hk'
  · simp only [up]; split
    · rename_i z; exact ((v2 z.1.symm).1 z.2.symm).1
    · exact e.1
  · simp only [up]; split
    · rename_i z; exact ((v2 z.1.symm).1 z.2.symm).2
    · exact e.2.1
  · simp only [up]; split
    · rename_i z; exact (v2 z.1.symm).2.1 z.2.symm
    · exact e.2.2.1
  · simp only [up]; split
    · rename_i z; exact ((v2 z.1.symm).2.2.1 z.2.symm).1
    · exact e.2.2.2.1
  · simp only [up]; split
    · rename_i z; exact ((v2 z.1.symm).2.2.1 z.2.symm).2
    · exact e.2.2.2.2.1
  · simp only [up]; split
    · rename_i z; exact (v2 z.1.symm).2.2.2 z.2.symm
    · exact e.2.2.2.2.2
  · simp only [up]; split
    · rename_i z; exact v3 z.1.symm
    · exact f k' hk'
  · simp only [up]; split
    · rename_i z; exact v4 z.1.symm
    · exact g k' hk'
  · simp only [up]; split
    · rename_i z; exact v5 z.1.symm
    · exact (h k' hk').1
  · simp only [up]; split
    · rename_i z; exact (v6 z.1.symm).1
    · exact (h k' hk').2
  · simp only [up]; split
    · rename_i z; have := (v6 z.1.symm).2; omega
    · exact (i k' h1 h2).1
  · simp only [up]; split
    · rename_i z; have := (v7 (by omega)).2.2; omega
    · exact (i k' h1 h2).2.2.1
  · simp only [up]; split
    · rename_i z; have := (v7 (by omega)).2.2; omega
    · exact (i k' h1 h2).2.2.2
  · simp only [up]; split
    · rename_i z; exact (v7 (by omega)).1
    · exact (l k' hk').2.1
  · simp only [up]; split
    · rename_i z; exact (v7 (by omega)).1
    · exact (l k' hk').2.2
  · simp only [up]; split
    · rename_i z; rw [z.2]; exact (v7 (by omega)).2.1
    · exact (m k' hk').1
  · simp only [up]; split
    · rename_i z; rw [z.2]; exact (v7 (by omega)).2.1
    · exact (m k' hk').2
