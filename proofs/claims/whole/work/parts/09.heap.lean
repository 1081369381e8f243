theorem kcl_ws : ∀ (ci : Nat) (q : vw_C), kcl[ci]? = some q → ∀ w ∈ u_ws q.1 q.2.1 q.2.2, w ∈ lw_tbl ∧ goodWord w = true := by
  have h : kcl.all (fun q => (u_ws q.1 q.2.1 q.2.2).all (fun w => decide (w ∈ lw_tbl) && goodWord w)) = true := by decide +kernel
  intro ci q hq w hw
  have h1 := List.all_eq_true.mp (List.all_eq_true.mp h q (List.mem_of_getElem? hq)) w hw
  simpa using h1
theorem va_P1 {D : va_G} {cl : List vw_C} {q : Nat × va_E} {H : Heap} (h : va_at D cl q H) : va_P D cl [q] H := by
  intro k x hk
  have hz : k < 1 := (List.getElem?_eq_some_iff.mp hk).1
  rw [show k = 0 by omega] at hk
  cases hk
  exact h
theorem cvs_get {ad : Nat → Nat} {fs : List Value} {j : Nat} {v : Value} (h : fs[j]? = some v) : (fs.map (cv ad))[j]? = some (cv ad v) := by
  rw [List.getElem?_map, h]; rfl
section AWH
variable {M : MI} {dep : Nat} {fx : Bool} {Φ : Rs → ah → Prop} {k n pc : Nat} {lv : List (Nat × Value)} {st : List Value} {h : ah}
theorem CF.uws {D : va_G} {s : State} {H0 : Heap} (hC : CF D s H0) {ci : Nat} {q : vw_C} (hq : kcl[ci]? = some q) (a : Array Value) : ∀ w ∈ u_ws q.1 q.2.1 q.2.2, w.before a s = true := fun w hw => hC.word (kcl_ws ci q hq w hw).1 (kcl_ws ci q hq w hw).2 a
theorem aw_getf {i ci j idx N : Nat} {C : String} {T : u_T} {fs : List Value} {v : Value} (d : decode M.2.1 pc = .ok (.getfield idx, 3)) (hc : kcl[ci]? = some (C, T, N)) (hw : Cond.fieldLink M.1.cls idx (T j).1 (T j).2.1 (T j).2.2.1 ∈ lw_tbl) (hk : j < N) (hh : h i = some (.inr (ci, fs))) (hv : fs[j]? = some v)
    (kk : AW M dep fx Φ k n (pc + 3) lv (v :: st) h) : AW M dep fx Φ k n pc lv (.ref i :: st) h := by
  intro p l e R s m args below meth c H0 D ty ad mc ms H locs cells slots Qc XC ls G hl
  obtain ⟨⟨a1, a2, a3, a4, a5, a6, a7, a8, a9, a10, a11⟩, g2, g3, hR, g5⟩ := id G
  exact va_get (Ts := u_ws C T N) a1 a2 (a10.uws hc args) (fun w hw => hw) a8 a9 (va_P1 (hR.1 i _ hh).1) 0 rfl hc j hk (a10.word hw rfl args) (fun _ h9 => h9) (cvs_get hv) d (kk p l e R s m args below meth c H0 D ty ad mc ms H locs cells slots Qc XC ls G hl)
/-- behind a write at place i the rest goes on -/
theorem AK.put {p : Program} {l : Launch} {R : Room} {s : State} {m : MethodId} {args : Array Value} {meth : Method} {c : Code} {H0 : Heap} {D : va_G} {ty : Nat → ClassId} {ad : Nat → Nat} {mc ms : Nat} {H H1 : Heap} {locs : List Loc} {cells slots z : Nat} {Qc : Array Value → State → Outcome → State → Prop} {XC : String → State → State → Prop} {i : Nat} {x0 x : ae}
    (G : AK M dep fx Φ k n h p l R s m args meth c H0 D ty ad mc ms H locs cells slots Qc XC) (hi : h i = some x0) (hx : va_at D kcl (ad i, ce ty ad x) H1) (hz : H1.size = H.size) (oq : ∀ q : Nat, q ≠ ad i → H1[q]? = H[q]?) :
    AK M dep fx Φ k n (uph h i x) p l R s m args meth c H0 D ty ad mc ms H1 (locs ++ [⟨ad i, z⟩]) cells slots Qc XC := by
  obtain ⟨g1, g2, g3, hR, hS, hQ, hX⟩ := G
  have ha : ∀ ad', agr (uph h i x) ad ad' → agr h ad ad' := by
    intro ad' q j y hj
    by_cases e : j = i
    · subst e
      exact q j x (uph_same h j x)
    · exact q j y (by rw [uph_ne h x e]; exact hj)
  exact ⟨g1, g2, g3, hR.set hi hx hz oq, hS.put hz oq (hR.1 i x0 hi).2, fun v h' ad' t a b => hQ v h' ad' t a (ha ad' b), fun E h' ad' t a b => hX E h' ad' t a (ha ad' b)⟩
theorem aw_putf {i ci j idx N : Nat} {C : String} {T : u_T} {fs : List Value} {v : Value} (ty0 : FieldType) (d : decode M.2.1 pc = .ok (.putfield idx, 3)) (hc : kcl[ci]? = some (C, T, N)) (hw : Cond.fieldLink M.1.cls idx (T j).1 (T j).2.1 (T j).2.2.1 ∈ lw_tbl) (hk : j < N) (hfin : (T j).2.2.2 = false) (tys : Nat → FieldType) (htys : ∀ k, k < N → parseFieldDescriptor (T k).2.2.1 = some (tys k)) (hnm : ∀ a, a < N → ∀ b, b < N → a ≠ b → (T a).2.1 ≠ (T b).2.1) (hty : tys j = ty0) (hn : ∀ ad, narrow ty0 (cv ad v) = cv ad v) (hfit : ∀ ad, fits ty0 (cv ad v) = true) (hh : h i = some (.inr (ci, fs))) (hlen : j < fs.length)
    (kk : AW M dep fx Φ k n (pc + 3) lv st (uph h i (.inr (ci, fs.set j v)))) : AW M dep fx Φ k n pc lv (v :: .ref i :: st) h := by
  intro p l e R s m args below meth c H0 D ty ad mc ms H locs cells slots Qc XC ls G hl
  obtain ⟨⟨hx, hb, a3, a4, a5, a6, a7, hown, hK, hC, a11⟩, g2, g3, hR, g5⟩ := id G
  have hts := hC.uws hc args
  have hd : parseFieldDescriptor (T j).2.2.1 = some ty0 := by rw [htys j hk, hty]
  have hap := va_apart (own := M.1.cls) hts (fun w hw => hw) tys htys hnm hK hc
  obtain ⟨r, h1, cell, q1, q2, q3, q4⟩ := (hR.1 i _ hh).1
  have hr : r = (C, T, N) := Option.some.inj (h1.symm.trans hc)
  subst hr
  obtain ⟨hS, hfc, kC, hkC, hkind⟩ := hK.1 ci _ hc
  obtain ⟨cf, kf, fi, f, hi, hsl⟩ := hS j hk
  have hlay := hts _ (u_in_lay hk)
  unfold u_lay at hlay
  rw [if_neg (by rw [hfin]; decide)] at hlay
  have hst := (u_facts hfc hkC (u_lays hts (fun w hw => hw) hk) hi).1
  have h6 := u_store hfc hkC hkind hlay hi hd (hn ad) (hfit ad)
  refine W.putK hx hb (f := f) ⟨hown, hC.word hw rfl args, ⟨_, _, _, hi⟩, hst⟩ (by rw [q2]; exact h6) q1 q3 (by rw [hsl]; exact k2_hasslot (q4 j hk)) rfl rfl d fun H' e1 e2 e3 => ?_
  have hat : va_at D kcl (ad i, ce ty ad (.inr (ci, fs.set j v))) H' := by
    rw [hsl] at e1
    refine ⟨(C, T, N), hc, t_OB.to (V := updV (vp_V (fs.map (cv ad))) j (cv ad v)) ⟨cell.setSlot (D.2 ci j) (cv ad v), e1, q2, q3, t_set q4 hap hk (cv ad v)⟩ (fun x _ => ?_)⟩
    show _ = vp_V ((fs.set j v).map (cv ad)) x
    rw [List.map_set]
    exact vp_updV_set (by simpa using hlen) (cv ad v) x
  exact kk p l e R s m args below meth c H0 D ty ad mc ms H' _ cells slots Qc XC ls (G.put hh hat e2 e3) hl
theorem aw_iald {i t N : Nat} {f : Nat → Int32} {x : Int32} (d : decode M.2.1 pc = .ok (.iaload, 1)) (hh : h i = some (.inl (t, N, .inl f))) (ht : ktl[t]? = some .int) (hin : vp_in x N)
    (kk : AW M dep fx Φ k n (pc + 1) lv (.int (f x.toNatClampNeg) :: st) h) : AW M dep fx Φ k n pc lv (.int x :: .ref i :: st) h := by
  intro p l e R s m args below meth c H0 D ty ad mc ms H locs cells slots Qc XC ls G hl
  obtain ⟨⟨hx, hb, a3, a4, a5, a6, a7, hown, hK, hC, a11⟩, g2, g3, hR, g5⟩ := id G
  exact va_iald hx hb hK (va_P1 (hR.1 i _ hh).1) 0 t rfl (ktys_get ht) hin d (kk p l e R s m args below meth c H0 D ty ad mc ms H locs cells slots Qc XC ls G hl)
theorem aw_zald {i t N : Nat} {f : Nat → Int32} {x : Int32} (d : decode M.2.1 pc = .ok (.baload, 1)) (hh : h i = some (.inl (t, N, .inl f))) (ht : ktl[t]? = some .boolean) (hin : vp_in x N)
    (kk : AW M dep fx Φ k n (pc + 1) lv (.int (f x.toNatClampNeg) :: st) h) : AW M dep fx Φ k n pc lv (.int x :: .ref i :: st) h := by
  intro p l e R s m args below meth c H0 D ty ad mc ms H locs cells slots Qc XC ls G hl
  obtain ⟨⟨hx, hb, a3, a4, a5, a6, a7, hown, hK, hC, a11⟩, g2, g3, hR, g5⟩ := id G
  exact va_zald hx hb hK (va_P1 (hR.1 i _ hh).1) 0 t rfl (ktys_get ht) hin d (kk p l e R s m args below meth c H0 D ty ad mc ms H locs cells slots Qc XC ls G hl)
theorem aw_cald {i t N : Nat} {f : Nat → Int32} {x : Int32} (d : decode M.2.1 pc = .ok (.caload, 1)) (hh : h i = some (.inl (t, N, .inl f))) (ht : ktl[t]? = some .char) (hin : vp_in x N)
    (kk : AW M dep fx Φ k n (pc + 1) lv (.int (f x.toNatClampNeg) :: st) h) : AW M dep fx Φ k n pc lv (.int x :: .ref i :: st) h := by
  intro p l e R s m args below meth c H0 D ty ad mc ms H locs cells slots Qc XC ls G hl
  obtain ⟨⟨hx, hb, a3, a4, a5, a6, a7, hown, hK, hC, a11⟩, g2, g3, hR, g5⟩ := id G
  exact va_cald hx hb hK (va_P1 (hR.1 i _ hh).1) 0 t rfl (ktys_get ht) hin d (kk p l e R s m args below meth c H0 D ty ad mc ms H locs cells slots Qc XC ls G hl)
theorem aw_lald {i t N : Nat} {f : Nat → Int64} {x : Int32} (d : decode M.2.1 pc = .ok (.laload, 1)) (hh : h i = some (.inl (t, N, .inr (.inl f)))) (ht : ktl[t]? = some .long) (hin : vp_in x N)
    (kk : AW M dep fx Φ k n (pc + 1) lv (.long (f x.toNatClampNeg) :: st) h) : AW M dep fx Φ k n pc lv (.int x :: .ref i :: st) h := by
  intro p l e R s m args below meth c H0 D ty ad mc ms H locs cells slots Qc XC ls G hl
  obtain ⟨⟨hx, hb, a3, a4, a5, a6, a7, hown, hK, hC, a11⟩, g2, g3, hR, g5⟩ := id G
  exact va_lald hx hb hK (va_P1 (hR.1 i _ hh).1) 0 t rfl (ktys_get ht) hin d (kk p l e R s m args below meth c H0 D ty ad mc ms H locs cells slots Qc XC ls G hl)
theorem aw_dald {i t N : Nat} {f : Nat → UInt64} {x : Int32} (d : decode M.2.1 pc = .ok (.daload, 1)) (hh : h i = some (.inl (t, N, .inr (.inr (.inr (.inl f)))))) (ht : ktl[t]? = some .double) (hin : vp_in x N)
    (kk : AW M dep fx Φ k n (pc + 1) lv (.double (f x.toNatClampNeg) :: st) h) : AW M dep fx Φ k n pc lv (.int x :: .ref i :: st) h := by
  intro p l e R s m args below meth c H0 D ty ad mc ms H locs cells slots Qc XC ls G hl
  obtain ⟨⟨hx, hb, a3, a4, a5, a6, a7, hown, hK, hC, a11⟩, g2, g3, hR, g5⟩ := id G
  exact va_dald hx hb hK (va_P1 (hR.1 i _ hh).1) 0 t rfl (ktys_get ht) hin d (kk p l e R s m args below meth c H0 D ty ad mc ms H locs cells slots Qc XC ls G hl)
theorem aw_aald {i t N r : Nat} {C : String} {f : Nat → Option Nat} {x : Int32} (d : decode M.2.1 pc = .ok (.aaload, 1)) (hh : h i = some (.inl (t, N, .inr (.inr (.inr (.inr f)))))) (ht : ktl[t]? = some (.object C)) (hin : vp_in x N) (hr : f x.toNatClampNeg = some r)
    (kk : AW M dep fx Φ k n (pc + 1) lv (.ref r :: st) h) : AW M dep fx Φ k n pc lv (.int x :: .ref i :: st) h := by
  intro p l e R s m args below meth c H0 D ty ad mc ms H locs cells slots Qc XC ls G hl
  obtain ⟨⟨hx, hb, a3, a4, a5, a6, a7, hown, hK, hC, a11⟩, g2, g3, hR, g5⟩ := id G
  refine va_aldq hx hb hK (va_P1 (hR.1 i _ hh).1) 0 t rfl (ktys_get ht) hin d ?_
  show W _ _ _ _ _ _ _ _ _ _ _ _ _ _ _ (F0 m (pc + 1) ls (va_rf ((f x.toNatClampNeg).map ad) :: cvs ad st))
  rw [hr]
  exact kk p l e R s m args below meth c H0 D ty ad mc ms H locs cells slots Qc XC ls G hl
theorem aw_alen {i t N : Nat} {ft : FieldType} {a : vp_A} {v : Int32} (d : decode M.2.1 pc = .ok (.arraylength, 1)) (hh : h i = some (.inl (t, a))) (ht : ktl[t]? = some ft) (hN : a.1 = N) (hv : Int32.ofNat N = v)
    (kk : AW M dep fx Φ k n (pc + 1) lv (.int v :: st) h) : AW M dep fx Φ k n pc lv (.ref i :: st) h := by
  intro p l e R s m args below meth c H0 D ty ad mc ms H locs cells slots Qc XC ls G hl
  obtain ⟨⟨hx, hb, a3, a4, a5, a6, a7, hown, hK, hC, a11⟩, g2, g3, hR, g5⟩ := id G
  refine va_alen hx hb hK (va_P1 (hR.1 i _ hh).1) 0 t rfl (ktys_get ht) (v := v) ?_ d (kk p l e R s m args below meth c H0 D ty ad mc ms H locs cells slots Qc XC ls G hl)
  obtain ⟨N', b⟩ := a
  cases hN
  rcases b with f | f | f | f | f <;> exact hv
theorem aw_iast {i t N : Nat} {f : Nat → Int32} {x y : Int32} (d : decode M.2.1 pc = .ok (.iastore, 1)) (hh : h i = some (.inl (t, N, .inl f))) (ht : ktl[t]? = some .int) (hin : vp_in x N)
    (kk : AW M dep fx Φ k n (pc + 1) lv st (uph h i (.inl (t, N, .inl (upd f x.toNatClampNeg y))))) : AW M dep fx Φ k n pc lv (.int y :: .int x :: .ref i :: st) h := by
  intro p l e R s m args below meth c H0 D ty ad mc ms H locs cells slots Qc XC ls G hl
  obtain ⟨⟨hx, hb, a3, a4, a5, a6, a7, hown, hK, hC, a11⟩, g2, g3, hR, g5⟩ := id G
  have hat := (hR.1 i _ hh).1
  refine W.iast hx hb hat ((hK.2 t _ (ktys_get ht)).1 N (fun j => .int (f j))) (fun q => by cases q) (by show ¬ (x < 0 ∨ (arrV _ _ _).slots.size ≤ _); rw [arrV_size]; exact hin) rfl rfl d fun H1 e1 z oq => ?_
  refine kk p l e R s m args below meth c H0 D ty ad mc ms H1 _ cells slots Qc XC ls (G.put hh ?_ z oq) hl
  show H1[ad i]? = some (vp_cell _ _)
  rw [e1]
  show some ((vp_cell (ty t) (N, .inl f)).setSlot _ _) = some (vp_cell (ty t) (N, .inl _))
  rw [vp_cell_i, vp_cell_i, arrV_store]
  congr 2
  funext q
  by_cases hq : q = x.toNatClampNeg
  · subst hq
    simp [updV, upd]
  · simp [updV, upd, hq]
theorem aw_zast {i t N : Nat} {f : Nat → Int32} {x y : Int32} (d : decode M.2.1 pc = .ok (.bastore, 1)) (hh : h i = some (.inl (t, N, .inl f))) (ht : ktl[t]? = some .boolean) (hin : vp_in x N) (hy : narrow .boolean (.int y) = .int y)
    (kk : AW M dep fx Φ k n (pc + 1) lv st (uph h i (.inl (t, N, .inl (upd f x.toNatClampNeg y))))) : AW M dep fx Φ k n pc lv (.int y :: .int x :: .ref i :: st) h := by
  intro p l e R s m args below meth c H0 D ty ad mc ms H locs cells slots Qc XC ls G hl
  obtain ⟨⟨hx, hb, a3, a4, a5, a6, a7, hown, hK, hC, a11⟩, g2, g3, hR, g5⟩ := id G
  have hat := (hR.1 i _ hh).1
  refine W.zast hx hb hat ((hK.2 t _ (ktys_get ht)).1 N (fun j => .int (f j))) (fun q => by cases q) (by show ¬ (x < 0 ∨ (arrV _ _ _).slots.size ≤ _); rw [arrV_size]; exact hin) rfl rfl d fun H1 e1 z oq => ?_
  refine kk p l e R s m args below meth c H0 D ty ad mc ms H1 _ cells slots Qc XC ls (G.put hh ?_ z oq) hl
  show H1[ad i]? = some (vp_cell _ _)
  rw [e1, hy]
  show some ((vp_cell (ty t) (N, .inl f)).setSlot _ _) = some (vp_cell (ty t) (N, .inl _))
  rw [vp_cell_i, vp_cell_i, arrV_store]
  congr 2
  funext q
  by_cases hq : q = x.toNatClampNeg
  · subst hq
    simp [updV, upd]
  · simp [updV, upd, hq]
theorem aw_cast {i t N : Nat} {f : Nat → Int32} {x y : Int32} (d : decode M.2.1 pc = .ok (.castore, 1)) (hh : h i = some (.inl (t, N, .inl f))) (ht : ktl[t]? = some .char) (hin : vp_in x N) (hy : narrow .char (.int y) = .int y)
    (kk : AW M dep fx Φ k n (pc + 1) lv st (uph h i (.inl (t, N, .inl (upd f x.toNatClampNeg y))))) : AW M dep fx Φ k n pc lv (.int y :: .int x :: .ref i :: st) h := by
  intro p l e R s m args below meth c H0 D ty ad mc ms H locs cells slots Qc XC ls G hl
  obtain ⟨⟨hx, hb, a3, a4, a5, a6, a7, hown, hK, hC, a11⟩, g2, g3, hR, g5⟩ := id G
  have hat := (hR.1 i _ hh).1
  refine W.cast hx hb hat ((hK.2 t _ (ktys_get ht)).1 N (fun j => .int (f j))) (fun q => by cases q) (by show ¬ (x < 0 ∨ (arrV _ _ _).slots.size ≤ _); rw [arrV_size]; exact hin) rfl rfl d fun H1 e1 z oq => ?_
  refine kk p l e R s m args below meth c H0 D ty ad mc ms H1 _ cells slots Qc XC ls (G.put hh ?_ z oq) hl
  show H1[ad i]? = some (vp_cell _ _)
  rw [e1, hy]
  show some ((vp_cell (ty t) (N, .inl f)).setSlot _ _) = some (vp_cell (ty t) (N, .inl _))
  rw [vp_cell_i, vp_cell_i, arrV_store]
  congr 2
  funext q
  by_cases hq : q = x.toNatClampNeg
  · subst hq
    simp [updV, upd]
  · simp [updV, upd, hq]
theorem aw_last {i t N : Nat} {f : Nat → Int64} {x : Int32} {y : Int64} (d : decode M.2.1 pc = .ok (.lastore, 1)) (hh : h i = some (.inl (t, N, .inr (.inl f)))) (ht : ktl[t]? = some .long) (hin : vp_in x N)
    (kk : AW M dep fx Φ k n (pc + 1) lv st (uph h i (.inl (t, N, .inr (.inl (vp_updL f x.toNatClampNeg y)))))) : AW M dep fx Φ k n pc lv (.long y :: .int x :: .ref i :: st) h := by
  intro p l e R s m args below meth c H0 D ty ad mc ms H locs cells slots Qc XC ls G hl
  obtain ⟨⟨hx, hb, a3, a4, a5, a6, a7, hown, hK, hC, a11⟩, g2, g3, hR, g5⟩ := id G
  have hat := (hR.1 i _ hh).1
  refine W.last hx hb hat ((hK.2 t _ (ktys_get ht)).1 N (fun j => .long (f j))) (fun q => by cases q) (by show ¬ (x < 0 ∨ (arrV _ _ _).slots.size ≤ _); rw [arrV_size]; exact hin) rfl rfl d fun H1 e1 z oq => ?_
  refine kk p l e R s m args below meth c H0 D ty ad mc ms H1 _ cells slots Qc XC ls (G.put hh ?_ z oq) hl
  show H1[ad i]? = some (vp_cell _ _)
  rw [e1]
  show some ((vp_cell (ty t) (N, .inr (.inl f))).setSlot _ _) = some (vp_cell (ty t) (N, .inr (.inl _)))
  rw [vp_cell_l, vp_cell_l, arrV_store]
  congr 2
  funext q
  by_cases hq : q = x.toNatClampNeg
  · subst hq
    simp [updV, vp_updL]
  · simp [updV, vp_updL, hq]
theorem aw_dast {i t N : Nat} {f : Nat → UInt64} {x : Int32} {y : UInt64} (d : decode M.2.1 pc = .ok (.dastore, 1)) (hh : h i = some (.inl (t, N, .inr (.inr (.inr (.inl f)))))) (ht : ktl[t]? = some .double) (hin : vp_in x N)
    (kk : AW M dep fx Φ k n (pc + 1) lv st (uph h i (.inl (t, N, .inr (.inr (.inr (.inl (fun j => if j = x.toNatClampNeg then y else f j)))))))) : AW M dep fx Φ k n pc lv (.double y :: .int x :: .ref i :: st) h := by
  intro p l e R s m args below meth c H0 D ty ad mc ms H locs cells slots Qc XC ls G hl
  obtain ⟨⟨hx, hb, a3, a4, a5, a6, a7, hown, hK, hC, a11⟩, g2, g3, hR, g5⟩ := id G
  have hat := (hR.1 i _ hh).1
  refine W.dast hx hb hat ((hK.2 t _ (ktys_get ht)).1 N (fun j => .double (f j))) (fun q => by cases q) (by show ¬ (x < 0 ∨ (arrV _ _ _).slots.size ≤ _); rw [arrV_size]; exact hin) rfl rfl d fun H1 e1 z oq => ?_
  refine kk p l e R s m args below meth c H0 D ty ad mc ms H1 _ cells slots Qc XC ls (G.put hh ?_ z oq) hl
  show H1[ad i]? = some (vp_cell _ _)
  rw [e1]
  show some ((vp_cell (ty t) (N, .inr (.inr (.inr (.inl f))))).setSlot _ _) = some (vp_cell (ty t) (N, .inr (.inr (.inr (.inl _)))))
  rw [vp_cell_d, vp_cell_d, arrV_store]
  congr 2
  funext q
  by_cases hq : q = x.toNatClampNeg
  · subst hq
    simp [updV]
  · simp [updV, hq]
theorem aw_iret {x : Int32} (d : decode M.2.1 pc = .ok (.ireturn, 1)) (hr : M.2.2.2.1 = some .int) (hp : Φ (.inl (some (.int x))) h) : AW M dep fx Φ k n pc lv [.int x] h := by
  intro p l e R s m args below meth c H0 D ty ad mc ms H locs cells slots Qc XC ls G hl
  obtain ⟨⟨hx, hb, a3, a4, hr', hlo, a11⟩, g2, g3, hR, hS, hQ, hX⟩ := G
  refine W.widen (k := mc) (n := ms) (by omega) (by omega) (vx_ret ?_)
  exact W.iret hx hb (hr'.trans hr) (fun t ht hW => hQ (some (.int x)) h ad t (fun _ => rfl) (fun _ _ _ => rfl) hp (by rw [ht]; exact hR) (by rw [ht]; exact hS.1) hW.alike) hS.2.2 d hlo
theorem aw_zret {x : Int32} (d : decode M.2.1 pc = .ok (.ireturn, 1)) (hr : M.2.2.2.1 = some .boolean) (hx : narrow .boolean (.int x) = .int x) (hp : Φ (.inl (some (.int x))) h) : AW M dep fx Φ k n pc lv [.int x] h := by
  intro p l e R s m args below meth c H0 D ty ad mc ms H locs cells slots Qc XC ls G hl
  obtain ⟨⟨hx', hb, a3, a4, hr', hlo, a11⟩, g2, g3, hR, hS, hQ, hX⟩ := G
  refine W.widen (k := mc) (n := ms) (by omega) (by omega) (vx_ret ?_)
  exact W.zret hx' hb (hr'.trans hr) hx (fun t ht hW => hQ (some (.int x)) h ad t (fun _ => rfl) (fun _ _ _ => rfl) hp (by rw [ht]; exact hR) (by rw [ht]; exact hS.1) hW.alike) hS.2.2 d hlo
theorem aw_lret {x : Int64} (d : decode M.2.1 pc = .ok (.lreturn, 1)) (hr : M.2.2.2.1 = some .long) (hp : Φ (.inl (some (.long x))) h) : AW M dep fx Φ k n pc lv [.long x] h := by
  intro p l e R s m args below meth c H0 D ty ad mc ms H locs cells slots Qc XC ls G hl
  obtain ⟨⟨hx, hb, a3, a4, hr', hlo, a11⟩, g2, g3, hR, hS, hQ, hX⟩ := G
  refine W.widen (k := mc) (n := ms) (by omega) (by omega) (vx_ret ?_)
  exact W.lret hx hb (hr'.trans hr) (fun t ht hW => hQ (some (.long x)) h ad t (fun _ => rfl) (fun _ _ _ => rfl) hp (by rw [ht]; exact hR) (by rw [ht]; exact hS.1) hW.alike) hS.2.2 d hlo
theorem aw_fret {x : UInt32} (d : decode M.2.1 pc = .ok (.freturn, 1)) (hr : M.2.2.2.1 = some .float) (hp : Φ (.inl (some (.float x))) h) : AW M dep fx Φ k n pc lv [.float x] h := by
  intro p l e R s m args below meth c H0 D ty ad mc ms H locs cells slots Qc XC ls G hl
  obtain ⟨⟨hx, hb, a3, a4, hr', hlo, a11⟩, g2, g3, hR, hS, hQ, hX⟩ := G
  refine W.widen (k := mc) (n := ms) (by omega) (by omega) (vx_ret ?_)
  exact W.fret hx hb (hr'.trans hr) (fun t ht hW => hQ (some (.float x)) h ad t (fun _ => rfl) (fun _ _ _ => rfl) hp (by rw [ht]; exact hR) (by rw [ht]; exact hS.1) hW.alike) hS.2.2 d hlo
theorem aw_aret {i : Nat} {C : String} (d : decode M.2.1 pc = .ok (.areturn, 1)) (hr : M.2.2.2.1 = some (.object C)) (hp : Φ (.inl (some (.ref i))) h) : AW M dep fx Φ k n pc lv [.ref i] h := by
  intro p l e R s m args below meth c H0 D ty ad mc ms H locs cells slots Qc XC ls G hl
  obtain ⟨⟨hx, hb, a3, a4, hr', hlo, a11⟩, g2, g3, hR, hS, hQ, hX⟩ := G
  refine W.widen (k := mc) (n := ms) (by omega) (by omega) (vx_ret ?_)
  exact W.aret hx hb (hr'.trans hr) (Or.inl ⟨C, rfl⟩) (Or.inr ⟨ad i, rfl⟩) (fun t ht hW => hQ (some (.ref i)) h ad t (fun _ => rfl) (fun _ _ _ => rfl) hp (by rw [ht]; exact hR) (by rw [ht]; exact hS.1) hW.alike) hS.2.2 d hlo
theorem aw_vret (d : decode M.2.1 pc = .ok (.return_, 1)) (hr : M.2.2.2.1 = none) (hp : Φ (.inl none) h) : AW M dep fx Φ k n pc lv [] h := by
  intro p l e R s m args below meth c H0 D ty ad mc ms H locs cells slots Qc XC ls G hl
  obtain ⟨⟨hx, hb, a3, a4, hr', hlo, a11⟩, g2, g3, hR, hS, hQ, hX⟩ := G
  refine W.widen (k := mc) (n := ms) (by omega) (by omega) (vx_ret ?_)
  exact W.vret hx hb (hr'.trans hr) (fun t ht hW => hQ none h ad t (fun _ => rfl) (fun _ _ _ => rfl) hp (by rw [ht]; exact hR) (by rw [ht]; exact hS.1) hW.alike) hS.2.2 d hlo
end AWH
