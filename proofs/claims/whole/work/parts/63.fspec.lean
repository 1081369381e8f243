/-! commands, carried out -/
def fQ (d d' : Dt) : Prop := d'.2 = d.2 ∧ (∀ i, 12 ≤ i → i ≠ 132 → (i < 134 ∨ 137 < i) → d'.1 i = d.1 i) ∧ ∀ k, k ≠ 7 → d'.1 132 k = d.1 132 k
theorem fQ_r (d : Dt) : fQ d d := ⟨rfl, fun _ _ _ _ => rfl, fun _ _ => rfl⟩
theorem fQ_t {a b c : Dt} (h : fQ a b) (g : fQ b c) : fQ a c := ⟨g.1.trans h.1, fun i x y z => (g.2.1 i x y z).trans (h.2.1 i x y z), fun k x => (g.2.2 k x).trans (h.2.2 k x)⟩
theorem fNW_Q {d d' : Dt} (h : fNW d d') : fQ d d' := ⟨h.1, fun i x _ z => h.2 i x z, fun k _ => by rw [h.2 132 (by decide) (Or.inl (by decide))]⟩
theorem fN_Q {d d' : Dt} (h : fN d d') : fQ d d' := fNW_Q (fN_NW h)
theorem fQ_7 {d d' : Dt} (h : fQ d d') (x : Int32) : fQ d (dI d' 132 (upd (d'.1 132) 7 x)) := ⟨h.1, fun i a b c => by rw [dI_n _ _ b]; exact h.2.1 i a b c, fun k a => by rw [dI_s, upd_ne _ _ a]; exact h.2.2 k a⟩
def KQ (d : Dt) (q : St) (w : Nat) : Prop := KS 0 d q ∧ QOK q ∧ d.1 132 7 = nI w ∧ w ≤ 6
theorem KQ_N {d d' : Dt} {q q' : St} {w : Nat} (h : KQ d q w) (g : fNW d d') (hs : KS 0 d' q') (ok : QOK q') : KQ d' q' w := ⟨hs, ok, by rw [g.2 132 (by decide) (Or.inl (by decide))]; exact h.2.2.1, h.2.2.2⟩
def IQ (d d' : Dt) (x : Int32) (i : In) : Prop := fQ d d' ∧ KQ d' i.2.2.1 i.2.2.2 ∧ x = b2i (decide (i.1 = 0))
theorem IQ_f {d d' : Dt} {q : St} {w c : Nat} {v : Int32} (f : fQ d d') (h : KQ d' q w) (hc : c ≠ 0) : IQ d d' 0 (c, v, q, w) := ⟨f, h, (b2i_f hc).symm⟩
theorem IQ_d {d d' : Dt} {q : St} {w : Nat} {v : Int32} (f : fQ d d') (h : KQ d' q w) : IQ d d' 1 (0, v, q, w) := ⟨f, h, (b2i_t rfl).symm⟩
theorem nI_m1 {n : Nat} (h : n < 2 ^ 31) : ¬ nI n = -1 := fun z => m1_ne0 h z.symm
def fE (d d' : Dt) : Prop := d'.2 = d.2 ∧ (∀ i, 12 ≤ i → i ≠ 132 → (i < 134 ∨ 137 < i) → i ≠ 150 → i ≠ 152 → d'.1 i = d.1 i) ∧ (∀ k, k ≠ 7 → d'.1 132 k = d.1 132 k) ∧ ∀ k, k ≠ 3 → k ≠ 4 → d'.1 150 k = d.1 150 k
theorem fE_r (d : Dt) : fE d d := ⟨rfl, fun _ _ _ _ _ _ => rfl, fun _ _ => rfl, fun _ _ _ => rfl⟩
theorem fE_t {a b c : Dt} (h : fE a b) (g : fE b c) : fE a c := ⟨g.1.trans h.1, fun i x y z u v => (g.2.1 i x y z u v).trans (h.2.1 i x y z u v), fun k x => (g.2.2.1 k x).trans (h.2.2.1 k x), fun k x y => (g.2.2.2 k x y).trans (h.2.2.2 k x y)⟩
theorem mP_E {d d' : Dt} (h : mP d d') : fE d d' := ⟨h.1, fun i _ _ _ u v => h.2.1 i u v, fun k _ => by rw [h.2.1 132 (by decide) (by decide)], h.2.2⟩
theorem fQ_E {d d' : Dt} (h : fQ d d') : fE d d' := ⟨h.1, fun i x y z _ _ => h.2.1 i x y z, h.2.2, fun k _ _ => by rw [h.2.1 150 (by decide) (by decide) (Or.inr (by decide))]⟩
theorem KQ_mP {d d' : Dt} {q : St} {w : Nat} (h : KQ d q w) (g : mP d d') : KQ d' q w := ⟨KS_k h.1 (fun j hj => g.2.1 _ (by omega) (by omega)), h.2.1, by rw [g.2.1 132 (by decide) (by decide)]; exact h.2.2.1, h.2.2.2⟩
theorem RI_Q {d d' : Dt} {T : List Nat} {a : Nat} (h : RI d T a) (g : fQ d d') : RI d' T a := ⟨by rw [g.2.1 150 (by decide) (by decide) (Or.inr (by decide)), g.2.1 151 (by decide) (by decide) (Or.inr (by decide))]; exact h.1, by rw [g.2.1 150 (by decide) (by decide) (Or.inr (by decide))]; exact h.2.1, h.2.2⟩
theorem fE_C {d d' : Dt} (h : fE d d') : fC d d' := ⟨fun i hi => ⟨h.2.1 i (by omega) (by omega) (by omega) (by omega) (by omega), by rw [h.1]⟩, by rw [h.1]⟩
theorem oRead_n {y : Sy} (h : ¬ ((prs y.2.2.2.2 80 0).1 = true ∧ y.2.2.2.2.length ≤ (prs y.2.2.2.2 80 0).2)) : oRead y = (0, -100 - nI (prs y.2.2.2.2 80 0).2, noT y) := if_neg h
theorem oRead_y {y : Sy} (h : (prs y.2.2.2.2 80 0).1 = true ∧ y.2.2.2.2.length ≤ (prs y.2.2.2.2 80 0).2) (e : (exe y.2.2.2.2 80 0 y.1 y.2.2.2.1 0).1 = true) : oRead y = (0, nI (exe y.2.2.2.2 80 0 y.1 y.2.2.2.1 0).2.1, noT (push2 y (exe y.2.2.2.2 80 0 y.1 y.2.2.2.1 0).2.2.1 (exe y.2.2.2.2 80 0 y.1 y.2.2.2.1 0).2.2.2)) := by
  unfold oRead
  rw [if_pos h, if_pos e]
theorem oRead_f {y : Sy} (h : (prs y.2.2.2.2 80 0).1 = true ∧ y.2.2.2.2.length ≤ (prs y.2.2.2.2 80 0).2) (e : ¬ (exe y.2.2.2.2 80 0 y.1 y.2.2.2.1 0).1 = true) : oRead y = (1, 0, noT (keep2 y y.1 (exe y.2.2.2.2 80 0 y.1 y.2.2.2.1 0).2.2.2)) := by
  unfold oRead
  rw [if_pos h, if_neg e]
