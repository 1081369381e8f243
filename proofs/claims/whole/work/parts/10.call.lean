/-! calls -/
def AC (M : MI) (dep : Nat) (fx : Bool) (Φ : Rs → ah → Prop) (k n : Nat) (as : List Value) (h : ah) : Prop := AW M dep fx Φ k n 0 (lv_args 0 as) [] h
theorem args_cv (ad : Nat → Nat) : ∀ (as : List Value) (i : Nat), lv_args i (as.map (cv ad)) = cvl ad (lv_args i as) := by
  intro as
  induction as with
  | nil => intro i; rfl
  | cons a l ih =>
    intro i
    simp only [List.map_cons, lv_args, cvl, cv_cat]
    rw [ih]
    rfl
theorem sl_cv (ad : Nat → Nat) (as : List Value) : (lg_sl (as.map (cv ad))).length = (lg_sl as).length := by
  induction as with
  | nil => rfl
  | cons a l ih =>
    simp only [lg_sl, List.map_cons, List.flatMap_cons, List.length_append, cv_cat] at ih ⊢
    rw [ih]
    split <;> rfl
def Pm (H0 : Heap) (D : va_G) (ty : Nat → ClassId) (ad : Nat → Nat) (h : ah) (as : List Value) : Array Value → State → Prop := va_Pc (as.map (cv ad)) (fun U => CF D U H0 ∧ KK D ty U ∧ Rep H0 D ty ad h U.heap)
def Qm (fx : Bool) (Φ : Rs → ah → Prop) (H0 : Heap) (D : va_G) (ty : Nat → ClassId) (ad : Nat → Nat) (h : ah) : Array Value → State → Outcome → State → Prop := fun _ st oc t => ∃ (v : Option Value) (h' : ah) (ad' : Nat → Nat), (fx = true → ad' = ad) ∧ agr h ad ad' ∧ oc = .returned (v.map (cv ad')) ∧ Φ (.inl v) h' ∧ Rep H0 D ty ad' h' t.heap ∧ st.heap.size ≤ t.heap.size
def Xm (fx : Bool) (Φ : Rs → ah → Prop) (H0 : Heap) (D : va_G) (ty : Nat → ClassId) (ad : Nat → Nat) (h : ah) : String → State → State → Prop := fun E st t => ∃ (h' : ah) (ad' : Nat → Nat), (fx = true → ad' = ad) ∧ agr h ad ad' ∧ Φ (.inr E) h' ∧ Rep H0 D ty ad' h' t.heap ∧ st.heap.size ≤ t.heap.size
theorem Pm.blind {H0 : Heap} {D : va_G} {ty : Nat → ClassId} {ad : Nat → Nat} {h : ah} {as : List Value} : FrameBlind (Pm H0 D ty ad h as) := by
  intro a U g mk q
  obtain ⟨q0, ⟨s0, b, h0, hW, hts, hn, hct⟩, qK, qR⟩ := q
  exact ⟨q0, ⟨s0, b, h0, hW, hts, hn, hct⟩, va_K.moved (u := U) (U := U.calling g mk a) (Vm.Alike.refl U.vm) qK, qR⟩
abbrev rmd (dep k n : Nat) : Room := { frames := dep, cells := k, slots := n, locals := 60 * dep }
theorem AC.met {M : MI} {dep k n : Nat} {fx : Bool} {Φ : Rs → ah → Prop} {as : List Value} {h : ah} (hA : AC M dep fx Φ k n as h) (hy : plainName M.1.cls = true) (ht : M.2.2.2.2 = []) (hlen : (lg_sl as).length ≤ M.2.2.1) (l : Launch) (hl : l.stackTraces = false) (H0 : Heap) (D : va_G) (ty : Nat → ClassId) (ad : Nat → Nat) :
    vx_Met l M.1 [Cond.code M.1 M.2.1 M.2.2.1 M.2.2.2.1] (rmd dep k n) (Pm H0 D ty ad h as) (Qm fx Φ H0 D ty ad h) (Xm fx Φ H0 D ty ad h) k n (fre H0) := by
  refine vx_ofW (cc := M.2.1) (maxL := M.2.2.1) (ret := M.2.2.2.1) (ws' := []) hy rfl ?_
  intro p e s m args below meth c s₁ B hml htab hv
  obtain ⟨rfl, hC, hK, hR⟩ := hv
  rw [lg_entry_eq]
  have hl1 := lv_entry (as.map (cv ad)) (n := M.2.2.1) (by rw [sl_cv]; exact hlen)
  rw [args_cv] at hl1
  have hsz := hR.2.2.1
  refine hA p l e (rmd dep k n) s m _ below meth c H0 D ty ad k n s.heap [] 0 0 _ _ _ ⟨⟨B.exec, B.bytes, hl, hml, B.returns, B.notSynchronized, (name_of_methodNamed B.named B.method).1, findClass_of_methodNamed B.named, hK, hC, Nat.le_refl _, Nat.le_refl _, Nat.le_refl _, Nat.le_refl _, hsz, ?_⟩, by omega, by omega, hR, va_S.rf, ?_, ?_⟩ hl1
  · rw [ht]
    exact List.eq_nil_iff_forall_not_mem.mpr fun x hx => htab x hx
  · intro v h' ad' t a b c' d' e' f'
    exact ⟨v, h', ad', a, b, rfl, c', d', e'⟩
  · intro E h' ad' t a b c' d' e' f'
    exact ⟨h', ad', a, b, c', d', e'⟩
/-- what a method of the tables is, with so many arguments (the receiver apart) -/
def MO (M : MI) (na : Nat) : Prop := Cond.code M.1 M.2.1 M.2.2.1 M.2.2.2.1 ∈ lw_tbl ∧ Cond.initialized M.1.cls ∈ lw_tbl ∧ M.2.2.2.2 = [] ∧ plainName M.1.cls = true ∧ (M.1.cls ≠ "java/lang/invoke/MethodHandle" ∧ M.1.cls ≠ "java/lang/invoke/VarHandle") ∧ (parseMethodDescriptor M.1.desc).map (fun d => d.parameters.length) = some na ∧ M.2.2.1 ≤ 30
def MV (M : MI) : Prop := Cond.instanceMethod M.1 ∈ lw_tbl ∧ Cond.selects M.1.cls M.1 M.1 ∈ lw_tbl
def MS (M : MI) : Prop := Cond.static M.1 ∈ lw_tbl
theorem callB_mk {M M' : MI} {dep dep' k n na idx mc ms : Nat} {p : Program} {l : Launch} {R : Room} {s : State} {m : MethodId} {args : Array Value} {meth : Method} {c : Code} {H0 : Heap} {D : va_G} {ty : Nat → ClassId}
    (G : Gd M dep p l R s m meth c H0 D ty mc ms) (ho : MO M' na) (hl : Cond.methodLink M.1.cls idx M'.1 ∈ lw_tbl) (hd : dep' + 1 ≤ dep) :
    CallB R s args M.1.cls idx M'.1 M'.2.1 M'.2.2.1 M'.2.2.2.1 [Cond.code M'.1 M'.2.1 M'.2.2.1 M'.2.2.2.1] (rmd dep' k n) k n na := by
  obtain ⟨a1, a2, a3, a4, a5, a6, a7, a8, a9, hC, b1, b2, b3⟩ := G
  obtain ⟨o1, o2, o3, o4, o5, o6, o7⟩ := ho
  refine ⟨rfl, rfl, by show dep' + 1 ≤ _; omega, by show 8 + (M'.2.2.1 + 11) + 60 * dep' ≤ _; omega, fun w hw a' U hW => ?_, List.mem_cons_self, hC.word o1 rfl args, hC.word o2 rfl args, o5, fun sig hsig => ?_, hC.word hl rfl args⟩
  · rw [List.mem_singleton] at hw
    subst hw
    exact (hC.warm hW).word o1 rfl a'
  · rw [hsig] at o6
    exact (Option.some.inj o6).symm
section AWC
variable {M M' : MI} {dep dep' : Nat} {fx fx' : Bool} {Φ Φ' : Rs → ah → Prop} {k n k' n' pc na idx : Nat} {lv : List (Nat × Value)} {st stk as : List Value} {h : ah}
/-- refs that are told stay where they are -/
def okv (h : ah) (l : List Value) : Prop := ∀ i, Value.ref i ∈ l → 200 ≤ i ∨ ∃ x, h i = some x
theorem cvs_agr {ad ad' : Nat → Nat} {l : List Value} (ho : okv h l) (hc : ∀ k, 200 ≤ k → ad' k = ad k) (ha : agr h ad ad') : cvs ad' l = cvs ad l := by
  refine List.map_congr_left fun v hv => ?_
  cases v with
  | ref i =>
    show Value.ref (ad' i) = Value.ref (ad i)
    rcases ho i hv with hq | ⟨x, hx⟩
    · rw [hc i hq]
    · rw [ha i x hx]
  | _ => rfl
theorem cvl_agr {ad ad' : Nat → Nat} {l : List (Nat × Value)} (ho : okv h (l.map (fun q => q.2))) (hc : ∀ k, 200 ≤ k → ad' k = ad k) (ha : agr h ad ad') : cvl ad' l = cvl ad l := by
  refine List.map_congr_left fun q hq => ?_
  obtain ⟨j, v⟩ := q
  cases v with
  | ref i =>
    show (j, Value.ref (ad' i)) = (j, Value.ref (ad i))
    rcases ho i (List.mem_map.mpr ⟨_, hq, rfl⟩) with hq | ⟨x, hx⟩
    · rw [hc i hq]
    · rw [ha i x hx]
  | _ => rfl
/-- what stands behind a call that has come back -/
theorem AK.back {p : Program} {l : Launch} {R : Room} {s : State} {m : MethodId} {args : Array Value} {meth : Method} {c : Code} {H0 : Heap} {D : va_G} {ty : Nat → ClassId} {ad ad' : Nat → Nat} {mc ms : Nat} {H : Heap} {locs L : List Loc} {cells slots : Nat} {Qc : Array Value → State → Outcome → State → Prop} {XC : String → State → State → Prop} {h' : ah} {st₀ t T' : State} {c1 s1 : Nat}
    (G : AK M dep fx Φ k n h p l R s m args meth c H0 D ty ad mc ms H locs cells slots Qc XC) (h0 : st₀.heap = H) (e1 : T'.heap = t.heap) (hfx : fx = true → ad' = ad) (ha : agr h ad ad') (hR' : Rep H0 D ty ad' h' t.heap) (hz : st₀.heap.size ≤ t.heap.size) (hL : ∀ q ∈ L, fre H0 q.base) (hd : ∀ i x, h i = some x → ∃ y, h' i = some y) (hc1 : c1 ≤ k) (hs1 : s1 ≤ n) :
    AK M dep fx Φ (k - c1) (n - s1) h' p l R s m args meth c H0 D ty ad' mc ms T'.heap (locs ++ L) (cells + c1) (slots + s1) Qc XC := by
  obtain ⟨g1, g2, g3, hR, hS, hQ, hX⟩ := G
  have ha2 : ∀ ad'', agr h' ad' ad'' → agr h ad ad'' := by
    intro ad'' q i x hx
    obtain ⟨y, hy⟩ := hd i x hx
    rw [q i y hy, ha i x hx]
  refine ⟨g1, by omega, by omega, by rw [e1]; exact hR', ⟨?_, fun q h1 h2 => ?_, fun q hq => ?_⟩, fun v h2 ad2 t2 a b => hQ v h2 ad2 t2 (fun z => (a z).trans (hfx z)) (ha2 ad2 b), fun E h2 ad2 t2 a b => hX E h2 ad2 t2 (fun z => (a z).trans (hfx z)) (ha2 ad2 b)⟩
  · rw [e1]; rw [h0] at hz; exact Nat.le_trans hS.1 hz
  · have hq0 : q < H0.size := Nat.lt_of_not_le h2
    rw [e1, hR'.2.2.2.1 q hq0, ← hR.2.2.2.1 q hq0]
    exact hS.2.1 q h1 h2
  · rcases List.mem_append.mp hq with z | z
    · exact hS.2.2 q z
    · exact hL q z
theorem aw_callV {b ci N : Nat} {C : String} {T : u_T} {fs : List Value} (d : decode M.2.1 pc = .ok (.invokevirtual idx, 3)) (ht0 : M.2.2.2.2 = []) (hl0 : Cond.methodLink M.1.cls idx M'.1 ∈ lw_tbl) (ho : MO M' na) (hv : MV M') (hA : AC M' dep' fx' Φ' k' n' (.ref b :: as) h) (hst : stk = as.reverse ++ .ref b :: st) (hh : h b = some (.inr (ci, fs))) (hc : kcl[ci]? = some (C, T, N)) (hcl : M'.1.cls = C) (hna : as.length = na) (hlen : (lg_sl (.ref b :: as)).length ≤ M'.2.2.1) (hd : dep' + 1 ≤ dep) (hcat : (st.map fun v => v.category).sum ≤ 8) (hk : k' ≤ k) (hn : n' ≤ n) (hfx : fx = true → fx' = true) (hdom : ∀ v h', Φ' v h' → ∀ i x, h i = some x → ∃ y, h' i = some y) (hok : fx' = true ∨ (okv h st ∧ okv h (lv.map (fun q => q.2))))
    (kk : ∀ v h', Φ' (.inl v) h' → AW M dep fx Φ (k - k') (n - n') (pc + 3) lv (v.toList ++ st) h') (kx : ∀ E h', Φ' (.inr E) h' → Φ (.inr E) h') : AW M dep fx Φ k n pc lv stk h := by
  subst hst
  intro p l e R s m args below meth c H0 D ty ad mc ms H locs cells slots Qc XC ls G hl
  obtain ⟨⟨hx, hb, htr, hml, hr, hlo, hnm, hown, hK, hC, b1, b2, b3, b4, b5, htb⟩, g2, g3, hR, hS, hQX⟩ := id G
  have hM := hA.met ho.2.2.2.1 ho.2.2.1 hlen l htr H0 D ty ad
  have hcb := callB_mk (args := args) (k := k') (n := n') G.1 ho hl0 hd
  obtain ⟨r0, hr1, cell, q1, q2, q3, q4⟩ := (hR.1 b _ hh).1
  have hcls := (hK.1 ci _ hc).2.1
  have run := vx_runV (e := e) (meth := meth) (below := below) (R := R) (As := as.map (cv ad)) (rest := cvs ad st) (g := F0 m pc ls (cvs ad (as.reverse ++ .ref b :: st))) (Ts := []) (C := C) (locs := locs) (cells := cells) (slots := slots) (b := ad b) ⟨hx, hb, hml, hown, fun _ hq => nomatch hq⟩ hM ⟨hcb, hC.word hv.1 rfl args, by rw [← hcl]; exact hC.word hv.2 rfl args⟩ ⟨Pm.blind, ⟨cell, q1, by rw [q3]; rfl, by rw [q2]; exact hcls⟩, fun U hU hW => ⟨rfl, hC.warm hW, va_K.moved hW.alike hK, by rw [hU]; exact hR⟩⟩ rfl (by simpa using hna) hl.1 (by simp [cvs, cv]) (lv_room (by rw [cvs_cat]; exact hcat)) d ⟨by omega, by omega⟩
  intro T hT X
  rcases run T hT X with ⟨v0, st₀, t, T', L, h0, X', hL, e1, e2, ⟨v, h', ad', c1, c2, c3, c4, c5, c6⟩, st1⟩ | ⟨q, st₀, t, T', L, E, ce0, h0, X', hL, e1, e2, ⟨h', ad', c1, c2, c4, c5, c6⟩, hce, hcv, hcl9, st1⟩
  · cases c3
    have e3 : cvs ad' st = cvs ad st := hok.elim (fun z => by rw [c1 z]) (fun z => cvs_agr z.1 (fun k hk => by rw [c5.2.2.2.2 k hk, hR.2.2.2.2 k hk]) c2)
    have e4 : cvl ad' lv = cvl ad lv := hok.elim (fun z => by rw [c1 z]) (fun z => cvl_agr z.2 (fun k hk => by rw [c5.2.2.2.2 k hk, hR.2.2.2.2 k hk]) c2)
    obtain ⟨t2, a1, b1'⟩ := kk v h' c4 p l e R s m args below meth c H0 D ty ad' mc ms T'.heap (locs ++ L) (cells + k') (slots + n') Qc XC ls (G.back h0 e1 (fun z => c1 (hfx z)) c2 c5 c6 hL (hdom _ _ c4) hk hn) (by rw [e4]; exact hl) T' rfl X'
    refine ⟨t2, st1 t2 ?_, b1'⟩
    have e5 : cvs ad' (v.toList ++ st) = (v.map (cv ad')).toList ++ cvs ad st := by
      rw [← e3]
      cases v <;> rfl
    rw [e5] at a1
    exact a1
  · have hout : ∀ x ∈ c.exceptionTable.toList, covers x pc = false := by
      rw [htb, ht0]
      intro x hx'
      cases hx'
    have K := G.back (L := L) (c1 := k') (s1 := n') h0 e1 (fun z => c1 (hfx z)) c2 c5 c6 hL (hdom _ _ c4) hk hn
    have hh9 := vx_out (p := p) (l := l) (e := e) (R := R) (args := args) (below := below) (locs := locs ++ L) (cells := cells + k') (slots := slots + n') (Qc := Qc) (XC := XC) (free := fre H0) (ls := ls) (rest := cvs ad st) (mc := mc) (ms := ms) (pc := pc) hout hlo (H := T'.heap) (by rw [e1]; exact hce) hcv hcl9 (fun t9 ht9 hA9 => K.2.2.2.2.2.2 E h' ad' t9 (fun _ => rfl) (fun _ _ _ => rfl) (kx E h' c4) (by rw [ht9]; exact K.2.2.2.1) (by rw [ht9]; exact K.2.2.2.2.1.1) hA9) K.2.2.2.2.1.2.2 (by have := K.2.1; omega) (by have := K.2.2.1; omega) T' rfl X'
    obtain ⟨t2, a1, b1'⟩ := hh9
    exact ⟨t2, st1.trans a1, b1'⟩
theorem aw_callS (d : decode M.2.1 pc = .ok (.invokestatic idx, 3)) (ht0 : M.2.2.2.2 = []) (hl0 : Cond.methodLink M.1.cls idx M'.1 ∈ lw_tbl) (ho : MO M' na) (hv : MS M') (hA : AC M' dep' fx' Φ' k' n' as h) (hst : stk = as.reverse ++ st) (hna : as.length = na) (hlen : (lg_sl as).length ≤ M'.2.2.1) (hd : dep' + 1 ≤ dep) (hcat : (st.map fun v => v.category).sum ≤ 8) (hk : k' ≤ k) (hn : n' ≤ n) (hfx : fx = true → fx' = true) (hdom : ∀ v h', Φ' v h' → ∀ i x, h i = some x → ∃ y, h' i = some y) (hok : fx' = true ∨ (okv h st ∧ okv h (lv.map (fun q => q.2))))
    (kk : ∀ v h', Φ' (.inl v) h' → AW M dep fx Φ (k - k') (n - n') (pc + 3) lv (v.toList ++ st) h') (kx : ∀ E h', Φ' (.inr E) h' → Φ (.inr E) h') : AW M dep fx Φ k n pc lv stk h := by
  subst hst
  intro p l e R s m args below meth c H0 D ty ad mc ms H locs cells slots Qc XC ls G hl
  obtain ⟨⟨hx, hb, htr, hml, hr, hlo, hnm, hown, hK, hC, b1, b2, b3, b4, b5, htb⟩, g2, g3, hR, hS, hQX⟩ := id G
  have hM := hA.met ho.2.2.2.1 ho.2.2.1 hlen l htr H0 D ty ad
  have hcb := callB_mk (args := args) (k := k') (n := n') G.1 ho hl0 hd
  have run := vx_runS (e := e) (meth := meth) (below := below) (R := R) (As := as.map (cv ad)) (rest := cvs ad st) (g := F0 m pc ls (cvs ad (as.reverse ++ st))) (Ts := []) (locs := locs) (cells := cells) (slots := slots) ⟨hx, hb, hml, hown, fun _ hq => nomatch hq⟩ hM ⟨hcb, hC.word hv rfl args⟩ ⟨Pm.blind, fun U hU hW => ⟨rfl, hC.warm hW, va_K.moved hW.alike hK, by rw [hU]; exact hR⟩⟩ rfl (by simpa using hna) hl.1 (by simp [cvs]) (lv_room (by rw [cvs_cat]; exact hcat)) d ⟨by omega, by omega⟩
  intro T hT X
  rcases run T hT X with ⟨v0, st₀, t, T', L, h0, X', hL, e1, e2, ⟨v, h', ad', c1, c2, c3, c4, c5, c6⟩, st1⟩ | ⟨q, st₀, t, T', L, E, ce0, h0, X', hL, e1, e2, ⟨h', ad', c1, c2, c4, c5, c6⟩, hce, hcv, hcl9, st1⟩
  · cases c3
    have e3 : cvs ad' st = cvs ad st := hok.elim (fun z => by rw [c1 z]) (fun z => cvs_agr z.1 (fun k hk => by rw [c5.2.2.2.2 k hk, hR.2.2.2.2 k hk]) c2)
    have e4 : cvl ad' lv = cvl ad lv := hok.elim (fun z => by rw [c1 z]) (fun z => cvl_agr z.2 (fun k hk => by rw [c5.2.2.2.2 k hk, hR.2.2.2.2 k hk]) c2)
    obtain ⟨t2, a1, b1'⟩ := kk v h' c4 p l e R s m args below meth c H0 D ty ad' mc ms T'.heap (locs ++ L) (cells + k') (slots + n') Qc XC ls (G.back h0 e1 (fun z => c1 (hfx z)) c2 c5 c6 hL (hdom _ _ c4) hk hn) (by rw [e4]; exact hl) T' rfl X'
    refine ⟨t2, st1 t2 ?_, b1'⟩
    have e5 : cvs ad' (v.toList ++ st) = (v.map (cv ad')).toList ++ cvs ad st := by
      rw [← e3]
      cases v <;> rfl
    rw [e5] at a1
    exact a1
  · have hout : ∀ x ∈ c.exceptionTable.toList, covers x pc = false := by
      rw [htb, ht0]
      intro x hx'
      cases hx'
    have K := G.back (L := L) (c1 := k') (s1 := n') h0 e1 (fun z => c1 (hfx z)) c2 c5 c6 hL (hdom _ _ c4) hk hn
    have hh9 := vx_out (p := p) (l := l) (e := e) (R := R) (args := args) (below := below) (locs := locs ++ L) (cells := cells + k') (slots := slots + n') (Qc := Qc) (XC := XC) (free := fre H0) (ls := ls) (rest := cvs ad st) (mc := mc) (ms := ms) (pc := pc) hout hlo (H := T'.heap) (by rw [e1]; exact hce) hcv hcl9 (fun t9 ht9 hA9 => K.2.2.2.2.2.2 E h' ad' t9 (fun _ => rfl) (fun _ _ _ => rfl) (kx E h' c4) (by rw [ht9]; exact K.2.2.2.1) (by rw [ht9]; exact K.2.2.2.2.1.1) hA9) K.2.2.2.2.1.2.2 (by have := K.2.1; omega) (by have := K.2.2.1; omega) T' rfl X'
    obtain ⟨t2, a1, b1'⟩ := hh9
    exact ⟨t2, st1.trans a1, b1'⟩
end AWC
