/-! THE MAKING: new objects and rows at places that were free -/
def ment (i : Nat) (x : ae) : Prop := match x with
  | .inr (_, vs) => Value.ref i ∈ vs
  | .inl (_, n, .inr (.inr (.inr (.inr f)))) => ∃ j, j < n ∧ f j = some i
  | .inl _ => False
/-- all that is named lies somewhere -/
def Clo (h : ah) : Prop := ∀ j x, h j = some x → ∀ i, ment i x → 200 ≤ i ∨ ∃ y, h i = some y
theorem refs_eq {cA : ClassId} {n : Nat} {f g : Nat → Option Nat} (e : ∀ j, j < n → f j = g j) : vp_cell cA (n, .inr (.inr (.inr (.inr f)))) = vp_cell cA (n, .inr (.inr (.inr (.inr g)))) := by
  rw [vp_cell_q, vp_cell_q]
  unfold arrV
  congr 2
  funext j
  simp only
  rw [e j.val j.isLt]
theorem ce_agr {D : va_G} {ty : Nat → ClassId} {ad ad' : Nat → Nat} {q : Nat} {H : Heap} {x : ae} (hm : ∀ i, ment i x → ad' i = ad i) (h : va_at D kcl (q, ce ty ad x) H) : va_at D kcl (q, ce ty ad' x) H := by
  rcases x with ⟨t, n, f | f | f | f | f⟩ | ⟨c, vs⟩
  · exact h
  · exact h
  · exact h
  · exact h
  · have h1 : H[q]? = some (vp_cell (ty t) (n, .inr (.inr (.inr (.inr (fun j => (f j).map ad)))))) := h
    show H[q]? = some (vp_cell (ty t) (n, .inr (.inr (.inr (.inr (fun j => (f j).map ad'))))))
    rw [h1]
    refine congrArg some (refs_eq fun j hj => ?_)
    cases hf : f j with
    | none => rfl
    | some i => exact congrArg some (hm i ⟨j, hj, hf⟩).symm
  · have e : vs.map (cv ad') = vs.map (cv ad) := by
      refine List.map_congr_left fun v hv => ?_
      cases v with
      | ref i => exact congrArg Value.ref (hm i hv)
      | _ => rfl
    show va_at D kcl (q, .inr (c, vs.map (cv ad'))) H
    rw [e]
    exact h
theorem Clo.up {h : ah} (hC : Clo h) {i : Nat} {x : ae} (hx : ∀ i', ment i' x → 200 ≤ i' ∨ ∃ y, h i' = some y) : Clo (uph h i x) := by
  have key : ∀ i', (200 ≤ i' ∨ ∃ y, h i' = some y) → 200 ≤ i' ∨ ∃ y, uph h i x i' = some y := by
    rintro i' (z | ⟨y, z⟩)
    · exact Or.inl z
    · by_cases e : i' = i
      · exact Or.inr ⟨x, by rw [e, uph_same]⟩
      · exact Or.inr ⟨y, by rw [uph_ne h x e]; exact z⟩
  intro j y hj i' hm
  by_cases e : j = i
  · rw [e, uph_same] at hj
    cases hj
    exact key i' (hx i' hm)
  · rw [uph_ne h x e] at hj
    exact key i' (hC j y hj i' hm)
theorem Clo.put {h : ah} (hC : Clo h) {i ci j : Nat} {fs : List Value} {v : Value} (hh : h i = some (.inr (ci, fs))) (hv : ∀ r, v = .ref r → 200 ≤ r ∨ ∃ y, h r = some y) : Clo (uph h i (.inr (ci, fs.set j v))) := by
  refine hC.up fun i' hm => ?_
  have hm2 : Value.ref i' ∈ fs.set j v := hm
  rcases List.mem_or_eq_of_mem_set hm2 with z | z
  · exact hC i _ hh i' z
  · exact hv i' z.symm
theorem va_up_o {f : Nat → Nat} {k v j : Nat} (h : j ≠ k) : va_up f k v j = f j := by simp [va_up, h]
theorem cvs_up {ad : Nat → Nat} {i z : Nat} {l : List Value} (h : ∀ v ∈ l, v ≠ .ref i) : cvs (va_up ad i z) l = cvs ad l := by
  refine List.map_congr_left fun v hv => ?_
  cases v with
  | ref j => exact congrArg Value.ref (va_up_o (fun e => h _ hv (by rw [e])))
  | _ => rfl
theorem cvl_up {ad : Nat → Nat} {i z : Nat} {l : List (Nat × Value)} (h : ∀ q ∈ l, q.2 ≠ .ref i) : cvl (va_up ad i z) l = cvl ad l := by
  refine List.map_congr_left fun q hq => ?_
  obtain ⟨j, v⟩ := q
  cases v with
  | ref r => exact congrArg (fun w => (j, Value.ref w)) (va_up_o (fun e => h _ hq (by rw [e])))
  | _ => rfl
section AWM
variable {M M' : MI} {dep dep' : Nat} {fx : Bool} {Φ : Rs → ah → Prop} {k n pc idx : Nat} {lv : List (Nat × Value)} {st : List Value} {h : ah}
theorem AK.madeC {p : Program} {l : Launch} {R : Room} {s : State} {m : MethodId} {args : Array Value} {meth : Method} {c : Code} {H0 : Heap} {D : va_G} {ty : Nat → ClassId} {ad : Nat → Nat} {mc ms : Nat} {H H1 : Heap} {locs : List Loc} {cells slots z : Nat} {Qc : Array Value → State → Outcome → State → Prop} {XC : String → State → State → Prop} {i : Nat} {x : ae}
    (G : AK M dep false Φ k n h p l R s m args meth c H0 D ty ad mc ms H locs cells slots Qc XC) (hC : Clo h) (hi : h i = none) (hi2 : i < 200) (hx : va_at D kcl (H.size, ce ty (va_up ad i H.size) x) H1) (hz : H1.size = H.size + 1) (oq : ∀ q : Nat, q < H.size → H1[q]? = H[q]?) (hk : 1 ≤ k) (hn : z ≤ n) :
    AK M dep false Φ (k - 1) (n - z) (uph h i x) p l R s m args meth c H0 D ty (va_up ad i H.size) mc ms H1 locs (cells + 1) (slots + z) Qc XC := by
  have hrf : ∀ (j : Nat) (y : ae) (q : Nat) (H2 : Heap), h j = some y → va_at D kcl (q, ce ty ad y) H2 → va_at D kcl (q, ce ty (va_up ad i H.size) y) H2 := fun j y q H2 hj z => ce_agr (fun i' hm => va_up_o fun e => by
    rcases hC j y hj i' hm with w | ⟨w, w2⟩
    · omega
    · rw [e, hi] at w2
      cases w2) z
  obtain ⟨g1, g2, g3, hR, hS, hQ, hX⟩ := G
  have hag : ∀ j y, h j = some y → va_up ad i H.size j = ad j := by
    intro j y hj
    have : j ≠ i := fun e => by rw [e, hi] at hj; cases hj
    simp [va_up, this]
  have hlt : ∀ j y, h j = some y → ad j < H.size := fun j y hj => (hR.1 j y hj).1.lt
  refine ⟨g1, by omega, by omega, ⟨fun j y hj => ?_, fun j j2 y y2 hj hj2 e => ?_, by have := hR.2.2.1; omega, fun q hq => by rw [oq q (Nat.lt_of_lt_of_le hq hR.2.2.1)]; exact hR.2.2.2.1 q hq, fun k hk => by rw [show va_up ad i H.size k = ad k from by simp [va_up, show k ≠ i by omega]]; exact hR.2.2.2.2 k hk⟩, ⟨by have := hS.1; omega, fun q h1 h2 => by rw [oq q (Nat.lt_of_lt_of_le h1 hS.1)]; exact hS.2.1 q h1 h2, hS.2.2⟩, fun v h' ad' t a b => hQ v h' ad' t (fun z => by cases z) (fun j y hj => ?_), fun E h' ad' t a b => hX E h' ad' t (fun z => by cases z) (fun j y hj => ?_)⟩
  · by_cases e : j = i
    · subst e
      rw [uph_same] at hj
      cases hj
      have e2 : va_up ad j H.size j = H.size := by simp [va_up]
      rw [e2]
      exact ⟨hx, hR.2.2.1⟩
    · rw [uph_ne h x e] at hj
      rw [hag j y hj]
      exact ⟨hrf j y _ _ hj ((hR.1 j y hj).1.kept (oq _ (hlt j y hj))), (hR.1 j y hj).2⟩
  · by_cases e1 : j = i
    · by_cases e2 : j2 = i
      · rw [e1, e2]
      · rw [uph_ne h x e2] at hj2
        rw [e1, hag j2 y2 hj2] at e
        have := hlt j2 y2 hj2
        simp [va_up] at e
        omega
    · rw [uph_ne h x e1] at hj
      by_cases e2 : j2 = i
      · rw [e2, hag j y hj] at e
        have := hlt j y hj
        simp [va_up] at e
        omega
      · rw [uph_ne h x e2] at hj2
        rw [hag j y hj, hag j2 y2 hj2] at e
        exact hR.2.1 j j2 y y2 hj hj2 e
  · have hj' : uph h i x j = some y := by rw [uph_ne h x (fun e => by rw [e, hi] at hj; cases hj)]; exact hj
    rw [b j y hj', hag j y hj]
  · have hj' : uph h i x j = some y := by rw [uph_ne h x (fun e => by rw [e, hi] at hj; cases hj)]; exact hj
    rw [b j y hj', hag j y hj]
/-- a new object -/
theorem aw_new {i ci N : Nat} {C : String} {T : u_T} {fs : List Value} (d : decode M.2.1 pc = .ok (.new idx, 3)) (hc : kcl[ci]? = some (C, T, N)) (hcl : Cond.classLink M.1.cls idx C ∈ lw_tbl) (hinst : Cond.instantiable C N ∈ lw_tbl) (hini : Cond.initialized C ∈ lw_tbl) (tys : Nat → FieldType) (htys : ∀ k, k < N → parseFieldDescriptor (T k).2.2.1 = some (tys k)) (hfs : ∀ j, j < N → defaultValue (tys j) = vp_V fs j) (hpr : ∀ ad, fs.map (cv ad) = fs) (hnm : ∀ j, Value.ref j ∉ fs)
    (hi : h i = none) (hi2 : i < 200) (hC : Clo h) (hst : ∀ v ∈ st, v ≠ .ref i) (hlv : ∀ q ∈ lv, q.2 ≠ .ref i) (hk : 1 ≤ k) (hn : N ≤ n)
    (kk : Clo (uph h i (.inr (ci, fs))) → AW M dep false Φ (k - 1) (n - N) (pc + 3) lv (.ref i :: st) (uph h i (.inr (ci, fs)))) : AW M dep false Φ k n pc lv st h := by
  intro p l e R s m args below meth c H0 D ty ad mc ms H locs cells slots Qc XC ls G hl
  obtain ⟨⟨hx, hb, htr, hml, hr, hlo, hnm', hown, hK, hCF, b1, b2, b3, b4, b5, htb⟩, g2, g3, hR, hS, hQX⟩ := id G
  have hKn := hK.1 ci _ hc
  refine W.newcK (g := F0 m pc ls (cvs ad st)) hx hb hown (hCF.word hcl rfl args) (hCF.word hinst rfl args) (hCF.word hini rfl args) rfl d (by omega) (by omega) hKn.2.1 rfl fun H1 kC hkC e1 z1 o1 => ?_
  have hat : va_at D kcl (H.size, ce ty (va_up ad i H.size) (.inr (ci, fs))) H1 := by
    refine ⟨_, hc, ?_⟩
    show t_OB H.size (D.1 ci) N (D.2 ci) H1 (vp_V (fs.map (cv (va_up ad i H.size))))
    rw [hpr]
    exact (u_born tys (hCF.uws hc args) (fun w hw => hw) hKn hkC e1 htys).to hfs
  have kq := kk (hC.up fun i' hm => absurd hm (hnm i')) p l e R s m args below meth c H0 D ty (va_up ad i H.size) mc ms H1 locs (cells + 1) (slots + N) Qc XC ls (G.madeC hC hi hi2 hat z1 o1 hk hn) (by rw [cvl_up hlv]; exact hl)
  have e2 : cvs (va_up ad i H.size) (.ref i :: st) = .ref H.size :: cvs ad st := by
    show Value.ref (va_up ad i H.size i) :: cvs (va_up ad i H.size) st = _
    rw [cvs_up hst, va_up_self]
  rw [e2] at kq
  exact kq
/-- a new row of numbers -/
theorem aw_newa {i t N : Nat} {x : Int32} {atype : ArrayType} {ft : FieldType} {a0 : vp_A} (d : decode M.2.1 pc = .ok (.newarray atype, 2)) (hty : newarray.typeOf atype = ft) (hw : Cond.arrayClass ft ∈ lw_tbl) (ht : ktl[t]? = some ft) (ha : ∀ cA : ClassId, vp_cell cA a0 = arrV cA N (fun _ => defaultValue ft)) (hx0 : ¬ x < 0) (hN : x.toNatClampNeg = N) (hby : N * componentBytes ft ≤ 536870912) (hpr : ∀ ad, cA ad a0 = a0) (hnm : ∀ j, ¬ ment j (.inl (t, a0)))
    (hi : h i = none) (hi2 : i < 200) (hC : Clo h) (hst : ∀ v ∈ st, v ≠ .ref i) (hlv : ∀ q ∈ lv, q.2 ≠ .ref i) (hk : 1 ≤ k) (hn : N ≤ n)
    (kk : Clo (uph h i (.inl (t, a0))) → AW M dep false Φ (k - 1) (n - N) (pc + 2) lv (.ref i :: st) (uph h i (.inl (t, a0)))) : AW M dep false Φ k n pc lv (.int x :: st) h := by
  intro p l e R s m args below meth c H0 D ty ad mc ms H locs cells slots Qc XC ls G hl
  obtain ⟨⟨hx, hb, htr, hml, hr, hlo, hnm', hown, hK, hCF, b1, b2, b3, b4, b5, htb⟩, g2, g3, hR, hS, hQX⟩ := id G
  subst hty
  refine va_newaK (g := F0 m pc ls (cvs ad (.int x :: st))) hx hb (hCF.word hw rfl args) rfl d (rest := cvs ad st) rfl hx0 hN hby (by omega) (by omega) rfl fun H1 cB e1 z1 o1 hAr hNm => ?_
  have ht2 := (hK.2 t _ (ktys_get (ty := ty) ht)).2
  have ecl : ty t = cB := by
    cases atype <;> exact Option.some.inj (ht2.symm.trans hNm)
  have hat : va_at D kcl (H.size, ce ty (va_up ad i H.size) (.inl (t, a0))) H1 := by
    show H1[H.size]? = some (vp_cell (ty t) (cA (va_up ad i H.size) a0))
    rw [hpr, ha, ecl]
    exact e1
  have kq := kk (hC.up fun i' hm => absurd hm (hnm i')) p l e R s m args below meth c H0 D ty (va_up ad i H.size) mc ms H1 locs (cells + 1) (slots + N) Qc XC ls (G.madeC hC hi hi2 hat z1 o1 hk hn) (by rw [cvl_up hlv]; exact hl)
  have e2 : cvs (va_up ad i H.size) (.ref i :: st) = .ref H.size :: cvs ad st := by
    show Value.ref (va_up ad i H.size i) :: cvs (va_up ad i H.size) st = _
    rw [cvs_up hst, va_up_self]
  rw [e2] at kq
  exact kq
theorem CF.over {D : va_G} {s : State} {H0 : Heap} (hC : CF D s H0) {C : String} (hw : Cond.arrayOver (.object C) ∈ lw_tbl) : va_AO C s := by
  obtain ⟨s0, b, h0, hW, hts, hn⟩ := hC
  exact va_AO.moved hW.alike (va_AO.of (hts _ hw))
/-- a new row of references -/
theorem aw_anew {i t N : Nat} {x : Int32} {C : String} (d : decode M.2.1 pc = .ok (.anewarray idx, 3)) (hcl : Cond.classLink M.1.cls idx C ∈ lw_tbl) (hw : Cond.arrayOver (.object C) ∈ lw_tbl) (ht : ktl[t]? = some (.object C)) (hx0 : ¬ x < 0) (hN : x.toNatClampNeg = N) (hby : N * 4 ≤ 536870912)
    (hi : h i = none) (hi2 : i < 200) (hC : Clo h) (hst : ∀ v ∈ st, v ≠ .ref i) (hlv : ∀ q ∈ lv, q.2 ≠ .ref i) (hk : 1 ≤ k) (hn : N ≤ n)
    (kk : Clo (uph h i (.inl (t, N, .inr (.inr (.inr (.inr (fun _ => none))))))) → AW M dep false Φ (k - 1) (n - N) (pc + 3) lv (.ref i :: st) (uph h i (.inl (t, N, .inr (.inr (.inr (.inr (fun _ => none)))))))) : AW M dep false Φ k n pc lv (.int x :: st) h := by
  intro p l e R s m args below meth c H0 D ty ad mc ms H locs cells slots Qc XC ls G hl
  obtain ⟨⟨hx, hb, htr, hml, hr, hlo, hnm', hown, hK, hCF, b1, b2, b3, b4, b5, htb⟩, g2, g3, hR, hS, hQX⟩ := id G
  subst hN
  refine W.anew (g := F0 m pc ls (cvs ad (.int x :: st))) hx hb hown (hCF.word hcl rfl args) (va_AO.use (hCF.over hw)) rfl d (rest := cvs ad st) rfl hx0 hby (by omega) (by omega) fun cA kA comp f1 f2 f3 f4 => ?_
  generalize hH1 : H.push ({ cls := cA, slots := Array.replicate x.toNatClampNeg .null, vm := .none } : Cell) = H1
  have z1 : H1.size = H.size + 1 := by rw [← hH1, Array.size_push]
  have e1 : H1[H.size]? = some (arrV cA x.toNatClampNeg (fun _ => .null)) := by rw [← hH1, Array.getElem?_push_size, ← arrV_new]
  have o1 : ∀ q : Nat, q < H.size → H1[q]? = H[q]? := fun q hq => by rw [← hH1, Array.getElem?_push, if_neg (Nat.ne_of_lt hq)]
  obtain ⟨kA2, comp2, k1, k2, k3, k4⟩ := (hK.2 t _ (ktys_get (ty := ty) ht)).2
  have ecl : ty t = cA := Option.some.inj (k4.symm.trans f1)
  have hat : va_at D kcl (H.size, ce ty (va_up ad i H.size) (.inl (t, x.toNatClampNeg, .inr (.inr (.inr (.inr (fun _ => none))))))) H1 := by
    show H1[H.size]? = some (vp_cell (ty t) (x.toNatClampNeg, .inr (.inr (.inr (.inr (fun _ => none))))))
    rw [ecl, vp_cell_q]
    exact e1
  have kq := kk (hC.up fun i' hm => absurd hm (fun ⟨_, _, z⟩ => by cases z)) p l e R s m args below meth c H0 D ty (va_up ad i H.size) mc ms H1 locs (cells + 1) (slots + x.toNatClampNeg) Qc XC ls (G.madeC hC hi hi2 hat z1 o1 hk hn) (by rw [cvl_up hlv]; exact hl)
  have e2 : cvs (va_up ad i H.size) (.ref i :: st) = .ref H.size :: cvs ad st := by
    show Value.ref (va_up ad i H.size i) :: cvs (va_up ad i H.size) st = _
    rw [cvs_up hst, va_up_self]
  rw [e2] at kq
  exact kq
/-- a final field in a constructor -/
theorem aw_putfF {i ci j N : Nat} {C : String} {T : u_T} {fs : List Value} {v : Value} (ty0 : FieldType) (d : decode M.2.1 pc = .ok (.putfield idx, 3)) (hc : kcl[ci]? = some (C, T, N)) (hw : Cond.fieldLink M.1.cls idx (T j).1 (T j).2.1 (T j).2.2.1 ∈ lw_tbl) (hk : j < N) (hfin : (T j).2.2.2 = true) (hdecl : (T j).1 = M.1.cls) (hin2 : M.1.name = "<init>") (tys : Nat → FieldType) (htys : ∀ k, k < N → parseFieldDescriptor (T k).2.2.1 = some (tys k)) (hnm : ∀ a, a < N → ∀ b, b < N → a ≠ b → (T a).2.1 ≠ (T b).2.1) (hty : tys j = ty0) (hn : ∀ ad, narrow ty0 (cv ad v) = cv ad v) (hfit : ∀ ad, fits ty0 (cv ad v) = true) (hh : h i = some (.inr (ci, fs))) (hlen : j < fs.length)
    (kk : AW M dep fx Φ k n (pc + 3) lv st (uph h i (.inr (ci, fs.set j v)))) : AW M dep fx Φ k n pc lv (v :: .ref i :: st) h := by
  intro p l e R s m args below meth c H0 D ty ad mc ms H locs cells slots Qc XC ls G hl
  obtain ⟨⟨hx, hb, a3, a4, a5, a6, a7, hown, hK, hC, a11⟩, g2, g3, hR, g5⟩ := id G
  have hts := hC.uws hc args
  have hd : parseFieldDescriptor (T j).2.2.1 = some ty0 := by rw [htys j hk, hty]
  have hap := va_apart (own := M.1.cls) hts (fun w hw => hw) tys htys hnm hK hc
  obtain ⟨r, h1, cell, q1, q2, q3, q4⟩ := (hR.1 i _ hh).1
  have hr : r = (C, T, N) := Option.some.inj (h1.symm.trans hc)
  subst hr
  obtain ⟨hS, hfc, kC, hkC, hkind⟩ := hK.1 ci _ hc
  obtain ⟨cf, kf, fi, f, hi, hsl⟩ := hS j hk
  have hlay := hts _ (u_in_lay hk)
  unfold u_lay at hlay
  rw [if_pos hfin] at hlay
  have hst := (u_facts hfc hkC (u_lays hts (fun w hw => hw) hk) hi).1
  have hcf : m.cls = cf := by
    obtain ⟨_, _, c', _, _, _, -, -, hf', -, -, -, hown2, -⟩ := Cond.laysFinal_spec hlay
    have e1 : c' = cf := by have := hi.symm.trans hf'; simp at this; exact this.1.symm
    rw [hdecl] at hown2
    rw [← e1]; exact Option.some.inj (hown.symm.trans hown2)
  have h6 := u_fits hfc hkC hkind (Or.inr hlay) hi hd (hn ad) (hfit ad)
  refine W.putFinK hx hb (f := f) hown (hC.word hw rfl args) hi hst hcf (a7.trans hin2) (by rw [q2]; exact h6) q1 q3 (by rw [hsl]; exact k2_hasslot (q4 j hk)) rfl rfl d fun H' e1 e2 e3 => ?_
  have hat : va_at D kcl (ad i, ce ty ad (.inr (ci, fs.set j v))) H' := by
    rw [hsl] at e1
    refine ⟨(C, T, N), hc, t_OB.to (V := updV (vp_V (fs.map (cv ad))) j (cv ad v)) ⟨cell.setSlot (D.2 ci j) (cv ad v), e1, q2, q3, t_set q4 hap hk (cv ad v)⟩ (fun x _ => ?_)⟩
    show _ = vp_V ((fs.set j v).map (cv ad)) x
    rw [List.map_set]
    exact vp_updV_set (by simpa using hlen) (cv ad v) x
  exact kk p l e R s m args below meth c H0 D ty ad mc ms H' _ cells slots Qc XC ls (G.put hh hat e2 e3) hl
/-- a reference is put into a row: of an object, or of a constant -/
theorem aw_aastR {i t N r : Nat} {C : String} {f : Nat → Option Nat} {x : Int32} (d : decode M.2.1 pc = .ok (.aastore, 1)) (hh : h i = some (.inl (t, N, .inr (.inr (.inr (.inr f)))))) (ht : ktl[t]? = some (.object C)) (hin : vp_in x N)
    (hany : ∀ (D : va_G) (s : State) (H0 H : Heap) (ty : Nat → ClassId) (ad : Nat → Nat), CF D s H0 → KK D ty s → (∀ q : Nat, q < H0.size → s.heap[q]? = H0[q]?) → Rep H0 D ty ad h H → va_Any C s H (ad r))
    (kk : AW M dep fx Φ k n (pc + 1) lv st (uph h i (.inl (t, N, .inr (.inr (.inr (.inr (va_up f x.toNatClampNeg (some r))))))))) : AW M dep fx Φ k n pc lv (.ref r :: .int x :: .ref i :: st) h := by
  intro p l e R s m args below meth c H0 D ty ad mc ms H locs cells slots Qc XC ls G hl
  obtain ⟨⟨hx, hb, a3, a4, a5, a6, a7, hown, hK, hC, a11⟩, g2, g3, hR, g5⟩ := id G
  have hlt : x.toNatClampNeg < N := Nat.not_le.mp fun q => hin (Or.inr q)
  have h0 : ¬ x < 0 := fun q => hin (Or.inl q)
  obtain ⟨cellV, y1, y3, ⟨kC, hkC⟩, hasg⟩ := hany D s H0 H ty ad hC hK G.kp hR
  obtain ⟨kA, comp, k1, k2, k3, -⟩ := (hK.2 t _ (ktys_get (ty := ty) ht)).2
  obtain ⟨kE, hkE, -⟩ := Vm.findClass_spec k3
  refine W.aast (g := F0 m pc ls (.ref (ad r) :: .int x :: .ref (ad i) :: cvs ad st)) hx hb (hR.1 i _ hh).1 (fun q h => by cases h) (fun h => by cases h) k1 k2 rfl hkE ⟨h0, by show _ < (arrV _ _ _).slots.size; rw [arrV_size]; exact hlt⟩ y1 (fun q h => by rw [h] at y3; cases y3) hkC (hasg _ k3) rfl rfl d fun H1 e1 z oq => ?_
  refine kk p l e R s m args below meth c H0 D ty ad mc ms H1 _ cells slots Qc XC ls (G.put hh ?_ z oq) hl
  show H1[ad i]? = some (vp_cell (ty t) (N, .inr (.inr (.inr (.inr (fun j => (va_up f x.toNatClampNeg (some r) j).map ad))))))
  rw [e1]
  show some ((vp_cell (ty t) (N, .inr (.inr (.inr (.inr (fun j => (f j).map ad)))))).setSlot _ _) = _
  rw [vp_cell_q, vp_cell_q, arrV_store]
  congr 2
  funext q
  by_cases hq : q = x.toNatClampNeg
  · subst hq
    simp [updV, va_up, va_rf]
  · simp [updV, va_up, hq]
theorem any_obj {r ci N : Nat} {C : String} {T : u_T} {fs : List Value} (hc : kcl[ci]? = some (C, T, N)) (hr : h r = some (.inr (ci, fs))) : ∀ (D : va_G) (s : State) (H0 H : Heap) (ty : Nat → ClassId) (ad : Nat → Nat), CF D s H0 → KK D ty s → (∀ q : Nat, q < H0.size → s.heap[q]? = H0[q]?) → Rep H0 D ty ad h H → va_Any C s H (ad r) := by
  intro D s H0 H ty ad hC hK hk hR
  exact va_rAny (r := (C, T, N)) hK (va_P1 (hR.1 r _ hr).1) (q0 := 0) rfl hc (fun comp c0 h1 h2 => by cases h1.symm.trans h2; exact va_asg _ _)
theorem any_con {r : Nat} {C : String} (hr : 200 ≤ r) (hO : Cc r C) : ∀ (D : va_G) (s : State) (H0 H : Heap) (ty : Nat → ClassId) (ad : Nat → Nat), CF D s H0 → KK D ty s → (∀ q : Nat, q < H0.size → s.heap[q]? = H0[q]?) → Rep H0 D ty ad h H → va_Any C s H (ad r) := by
  intro D s H0 H ty ad hC hK hk hR
  obtain ⟨cell, q1, q2, q3, q4⟩ := hO D s H0 hC hk
  rw [hR.2.2.2.2 r hr]
  obtain ⟨kC, hkC, -⟩ := Vm.findClass_spec q3
  have hlt : D.1 r < H0.size := Nat.lt_of_not_le q4
  refine ⟨cell, ?_, by rw [q2], ⟨kC, hkC⟩, fun comp h1 => by cases h1.symm.trans q3; exact va_asg _ _⟩
  rw [hR.2.2.2.1 _ hlt, ← hk _ hlt]
  exact q1
/-- the string of a class's pool -/
theorem aw_ldcS {j : Nat} {tx : String} (d : decode M.2.1 pc = .ok (.ldc idx, 2)) (ht : kct[j]? = some (.string M.1.cls idx)) (hw : Cond.stringRef M.1.cls idx tx ∈ lw_tbl) (kk : AW M dep fx Φ k n (pc + 2) lv (.ref (200 + j) :: st) h) : AW M dep fx Φ k n pc lv st h := by
  intro p l e R s m args below meth c H0 D ty ad mc ms H locs cells slots Qc XC ls G hl
  obtain ⟨⟨hx, hb, a3, a4, a5, a6, a7, hown, hK, hC, a11⟩, g2, g3, hR, hS, g5⟩ := id G
  have hZ : vk_R M.1.cls idx tx (D.1 (200 + j)) s := by
    obtain ⟨s0, b, h0, hW, hts, hn, hct⟩ := hC
    exact vk_R.warm hW (vk_R.of (hts _ hw) (hct j _ ht))
  refine va_ldcS hx hb hown hZ d ?_
  have kq := kk p l e R s m args below meth c H0 D ty ad mc ms H locs cells slots Qc XC ls G hl
  rw [cvr hR (by omega)] at kq
  exact kq
/-- the same cell by another name -/
theorem aw_same {i : Nat} {x x' : ae} (hh : h i = some x) (he : ∀ (D : va_G) (ty : Nat → ClassId) (ad : Nat → Nat) (H : Heap), va_at D kcl (ad i, ce ty ad x) H → va_at D kcl (ad i, ce ty ad x') H) (kk : AW M dep fx Φ k n pc lv st (uph h i x')) : AW M dep fx Φ k n pc lv st h := by
  intro p l e R s m args below meth c H0 D ty ad mc ms H locs cells slots Qc XC ls G hl
  have ha : ∀ ad', agr (uph h i x') ad ad' → agr h ad ad' := by
    intro ad' q j y hj
    by_cases e : j = i
    · subst e
      exact q j x' (uph_same h j x')
    · exact q j y (by rw [uph_ne h x' e]; exact hj)
  obtain ⟨g1, g2, g3, hR, hS, hQ, hX⟩ := G
  exact kk p l e R s m args below meth c H0 D ty ad mc ms H locs cells slots Qc XC ls ⟨g1, g2, g3, hR.set hh (he D ty ad H (hR.1 i x hh).1) rfl (fun _ _ => rfl), hS, fun v h' ad' t a b => hQ v h' ad' t a (ha ad' b), fun E h' ad' t a b => hX E h' ad' t a (ha ad' b)⟩ hl
theorem refs_same {t N i : Nat} {f g : Nat → Option Nat} (e : ∀ j, j < N → f j = g j) : ∀ (D : va_G) (ty : Nat → ClassId) (ad : Nat → Nat) (H : Heap), va_at D kcl (ad i, ce ty ad (.inl (t, N, .inr (.inr (.inr (.inr f)))))) H → va_at D kcl (ad i, ce ty ad (.inl (t, N, .inr (.inr (.inr (.inr g)))))) H := by
  intro D ty ad H hq
  have h1 : H[ad i]? = some (vp_cell (ty t) (N, .inr (.inr (.inr (.inr (fun j => (f j).map ad)))))) := hq
  show H[ad i]? = some (vp_cell (ty t) (N, .inr (.inr (.inr (.inr (fun j => (g j).map ad))))))
  rw [h1]
  exact congrArg some (refs_eq fun j hj => by rw [e j hj])
/-- a walk where places stand still is one where they may move -/
theorem AW.loose (h0 : AW M dep true Φ k n pc lv st h) : AW M dep false Φ k n pc lv st h := by
  intro p l e R s m args below meth c H0 D ty ad mc ms H locs cells slots Qc XC ls G hl
  obtain ⟨g1, g2, g3, hR, hS, hQ, hX⟩ := G
  exact h0 p l e R s m args below meth c H0 D ty ad mc ms H locs cells slots Qc XC ls ⟨g1, g2, g3, hR, hS, fun v h' ad' t _ b => hQ v h' ad' t (fun z => by cases z) b, fun E h' ad' t _ b => hX E h' ad' t (fun z => by cases z) b⟩ hl
end AWM
