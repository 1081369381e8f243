/-! THE INPUT -/
theorem cmdv_n {w : Nat} (h : w < 2 ^ 31) : cmdv (nI w) = .ref (200 + w) := by
  unfold cmdv
  rw [if_neg (fun z => by have := (lt_nI (rfl : nI w = nI w) (show (0 : Int32) = nI 0 from rfl) h (by omega)).mp z; omega), nI_clamp h]
theorem cmdv_m1 : cmdv (-1) = .null := rfl
section AWI
variable {M M' : MI} {dep dep' : Nat} {fx : Bool} {Φ : Rs → ah → Prop} {k n pc na idx : Nat} {lv : List (Nat × Value)} {st stk as : List Value} {h : ah} {d : Dt}
theorem aw_putC {N : Nat} {C : String} {T : u_T} {x : Int32} (dc : decode M.2.1 pc = .ok (.putfield idx, 3)) (hw : Cond.fieldLink M.1.cls idx (T 3).1 (T 3).2.1 (T 3).2.2.1 ∈ lw_tbl) (hc : kcl[2]? = some (C, T, N)) (hk : 3 < N) (hfin : (T 3).2.2.2 = false) (tys : Nat → FieldType) (htys : ∀ k, k < N → parseFieldDescriptor (T k).2.2.1 = some (tys k)) (hnm : ∀ a, a < N → ∀ b, b < N → a ≠ b → (T a).2.1 ≠ (T b).2.1) (hty : tys 3 = .object RX0)
    (kk : AW M dep true Φ k n (pc + 3) lv st (HP (dI d 150 (upd (d.1 150) 3 x)))) : AW M dep true Φ k n pc lv (cmdv x :: .ref 150 :: st) (HP d) :=
  aw_putf (.object RX0) dc hc hw hk hfin tys htys hnm hty (fun ad => by unfold cmdv; split <;> rfl) (fun ad => by unfold cmdv; split <;> rfl) (hp_150 d) (by show 3 < 5; decide) (by have e : HP (dI d 150 (upd (d.1 150) 3 x)) 150 = some (.inr (2, [.ref 151, .ref 152, .int (d.1 150 2), cmdv (d.1 150 3), .int (d.1 150 4)].set 3 (cmdv x))) := rfl; rw [HP_dI e]; exact kk)
theorem aw_nuret {C : String} (dc : decode M.2.1 pc = .ok (.areturn, 1)) (hr : M.2.2.2.1 = some (.object C)) (hp : Φ (.inl (some .null)) h) : AW M dep fx Φ k n pc lv [.null] h := by
  intro p l e R s m args below meth c H0 D ty ad mc ms H locs cells slots Qc XC ls G hl
  obtain ⟨⟨hx, hb, a3, a4, hr', hlo, a11⟩, g2, g3, hR, hS, hQ, hX⟩ := G
  refine W.widen (k := mc) (n := ms) (by omega) (by omega) (vx_ret ?_)
  exact W.aret hx hb (hr'.trans hr) (Or.inl ⟨C, rfl⟩) (Or.inl rfl) (fun t ht hW => hQ (some .null) h ad t (fun _ => rfl) (fun _ _ _ => rfl) hp (by rw [ht]; exact hR) (by rw [ht]; exact hS.1) hW.alike) hS.2.2 dc hlo
end AWI
/-- what the input's own methods write -/
def mP (d d' : Dt) : Prop := d'.2 = d.2 ∧ (∀ i, i ≠ 150 → i ≠ 152 → d'.1 i = d.1 i) ∧ ∀ k, k ≠ 3 → k ≠ 4 → d'.1 150 k = d.1 150 k
theorem mP_r (d : Dt) : mP d d := ⟨rfl, fun _ _ _ => rfl, fun _ _ _ => rfl⟩
theorem mP_t {a b c : Dt} (h : mP a b) (g : mP b c) : mP a c := ⟨g.1.trans h.1, fun i x y => (g.2.1 i x y).trans (h.2.1 i x y), fun k x y => (g.2.2 k x y).trans (h.2.2 k x y)⟩
theorem mP_152 {d d' : Dt} (h : mP d d') (f : Nat → Int32) : mP d (dI d' 152 f) := ⟨h.1, fun i x y => by rw [dI_n _ _ y]; exact h.2.1 i x y, fun k x y => by rw [dI_n _ _ (by decide)]; exact h.2.2 k x y⟩
theorem mP_150 {d d' : Dt} (h : mP d d') {j : Nat} (hj : j = 3 ∨ j = 4) (x : Int32) : mP d (dI d' 150 (upd (d'.1 150) j x)) := ⟨h.1, fun i a b => by rw [dI_n _ _ a]; exact h.2.1 i a b, fun k a b => by rw [dI_s]; simp only [upd]; rw [if_neg (by omega)]; exact h.2.2 k a b⟩
theorem mP_C {d d' : Dt} (h : mP d d') : fC d d' := ⟨fun i hi => ⟨h.2.1 i (by omega) (by omega), by rw [h.1]⟩, by rw [h.1]⟩
/-- the input T, read up to place a -/
def RI (d : Dt) (T : List Nat) (a : Nat) : Prop := TP (d.1 151) (d.1 150 2) T ∧ d.1 150 4 = nI a ∧ a ≤ T.length
theorem RI_m {d d' : Dt} {T : List Nat} {a b : Nat} (h : RI d T a) (hm : mP d d') (hb : d'.1 150 4 = nI b) (hl : b ≤ T.length) : RI d' T b :=
  ⟨by rw [hm.2.1 151 (by decide) (by decide), hm.2.2 2 (by decide) (by decide)]; exact h.1, hb, hl⟩
theorem CC_mP {d d' : Dt} {y : Sy} (h : CC d y) (g : mP d d') : CC d' y := by
  obtain ⟨⟨h1, h2⟩, h3, h4, h5, h6⟩ := h
  exact ⟨⟨KS_k h1 (fun j hj => g.2.1 _ (by omega) (by omega)), h2⟩, HC_k h3 (fun i a b => g.2.1 i (by omega) (by omega)) (g.2.1 148 (by decide) (by decide)), SC_k h4 (fun i a b => g.2.1 i (by omega) (by omega)) (by rw [g.2.1 132 (by decide) (by decide)]), by rw [g.2.1 132 (by decide) (by decide)]; exact h5, by rw [g.2.1 151 (by decide) (by decide), g.2.2 2 (by decide) (by decide)]; exact h6⟩
theorem TP_app {row : Nat → Int32} {len : Int32} {T : List Nat} (h : TP row len T) {c : Nat} (hc : c < 65536) (hl : T.length < 80) : TP (upd row T.length (nI c)) (nI (T.length + 1)) (T ++ [c]) := by
  obtain ⟨h5, h6, h7⟩ := h
  refine ⟨by rw [List.length_append]; rfl, by rw [List.length_append]; simp only [List.length_cons, List.length_nil]; omega, fun i hi => ?_⟩
  rw [List.length_append] at hi
  simp only [List.length_cons, List.length_nil] at hi
  simp only [upd]
  by_cases e : i = T.length
  · rw [if_pos e]
    have e2 : (T ++ [c]).getD i 0 = c := by rw [e]; simp [List.getD_eq_getElem?_getD]
    rw [e2]
    exact ⟨rfl, hc⟩
  · rw [if_neg e]
    have e2 : (T ++ [c]).getD i 0 = T.getD i 0 := by rw [List.getD_eq_getElem?_getD, List.getD_eq_getElem?_getD, List.getElem?_append_left (by omega)]
    rw [e2]
    exact h7 i (by omega)
theorem CC_T {d d' : Dt} {y : Sy} (h : CC d y) (e : ∀ i, i ≠ 150 → i ≠ 151 → d'.1 i = d.1 i) {T : List Nat} (hT : TP (d'.1 151) (d'.1 150 2) T) : CC d' (y.1, y.2.1, y.2.2.1, y.2.2.2.1, T) := by
  obtain ⟨⟨h1, h2⟩, h3, h4, h5, h6⟩ := h
  exact ⟨⟨KS_k h1 (fun j hj => e _ (by omega) (by omega)), h2⟩, HC_k h3 (fun i a b => e i (by omega) (by omega)) (e 148 (by decide) (by decide)), SC_k h4 (fun i a b => e i (by omega) (by omega)) (by rw [e 132 (by decide) (by decide)]), by rw [e 132 (by decide) (by decide)]; exact h5, hT⟩
theorem sW_6 (w : Nat) : sW (w + 6) = wrd w := by
  unfold sW
  rw [if_neg (by omega), Nat.add_sub_cancel]
/-- the word's number, none: -1 -/
noncomputable def wI (T : List Nat) (a e : Nat) : Int32 := if wNo T a e 6 = 6 then -1 else nI (wNo T a e 6)
theorem upd_at (f : Nat → Int32) (j : Nat) (x : Int32) : upd f j x j = x := if_pos rfl
theorem upd_ne (f : Nat → Int32) {j k : Nat} (x : Int32) (h : k ≠ j) : upd f j x k = f k := if_neg h
theorem wI_6 {T : List Nat} {a e : Nat} (h : wNo T a e 6 = 6) : wI T a e = -1 := if_pos h
theorem wI_w {T : List Nat} {a e : Nat} (h : ¬ wNo T a e 6 = 6) : wI T a e = nI (wNo T a e 6) := if_neg h
noncomputable def errQ (T : List Nat) : Int32 := if (prs T 80 0).1 = true ∧ T.length ≤ (prs T 80 0).2 then -1 else nI (prs T 80 0).2
