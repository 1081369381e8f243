/-! CATCHING: a call under a table, whose handlers answer a number -/
theorem CF.nc {D : va_G} {s : State} {H0 : Heap} (hC : CF D s H0) {E T : String} (hw : Cond.not (.castable E T) ∈ gn1) : va_Nc E T s := by
  obtain ⟨s0, b, h0, hW, hts, hn, hct⟩ := hC
  exact va_Nc.moved hW.alike (va_Nc.of (flat_of_before _ hn _ hw))
/-- a handler that puts the thing away and answers a number -/
def HdC (M : MI) (hp : Nat) (cst : Int32) : Prop :=
  (∃ (j : Fin 4) (z : Int), decode M.2.1 hp = .ok (.astore_n j, 1) ∧ (j : Nat) < M.2.2.1 ∧ decode M.2.1 (hp + 1) = .ok (.iconst z, 1) ∧ Int32.ofInt z = cst ∧ decode M.2.1 (hp + 1 + 1) = .ok (.ireturn, 1)) ∨
  (∃ (j : Nat) (z : Int), decode M.2.1 hp = .ok (.astore j, 2) ∧ j < M.2.2.1 ∧ decode M.2.1 (hp + 2) = .ok (.iconst z, 1) ∧ Int32.ofInt z = cst ∧ decode M.2.1 (hp + 2 + 1) = .ok (.ireturn, 1))
def HdE (M : MI) (pc : Nat) (E : String) (cst : Int32) : Prop := ∃ (pre suf : List (Nat × Nat × Nat × Nat)) (x : Nat × Nat × Nat × Nat), M.2.2.2.2 = pre ++ x :: suf ∧ (∀ z ∈ pre, z.2.2.2 ≠ 0 ∧ ∃ nm, Cond.classLink M.1.cls z.2.2.2 nm ∈ lw_tbl ∧ Cond.not (.castable E nm) ∈ gn1) ∧ (x.1 ≤ pc ∧ pc < x.2.1) ∧ x.2.2.2 ≠ 0 ∧ Cond.classLink M.1.cls x.2.2.2 E ∈ lw_tbl ∧ Cond.castable E E ∈ lw_tbl ∧ HdC M x.2.2.1 cst
section AWCA
variable {M M' : MI} {dep dep' : Nat} {fx fx' : Bool} {Φ Φ' : Rs → ah → Prop} {k n k' n' pc na idx : Nat} {lv : List (Nat × Value)} {st stk as : List Value} {h : ah}
theorem hd_run {hp : Nat} {cst : Int32} {q : Nat} {p : Program} {l : Launch} {e : Env} {R : Room} {s : State} {m : MethodId} {args : Array Value} {below : List Frame} {meth : Method} {c : Code} {H0 : Heap} {D : va_G} {ty : Nat → ClassId} {ad : Nat → Nat} {mc ms : Nat} {H : Heap} {locs : List Loc} {cells slots : Nat} {Qc : Array Value → State → Outcome → State → Prop} {XC : String → State → State → Prop} {ls : Array Slot} {lvr : List (Nat × Value)}
    (hd : HdC M hp cst) (hr0 : M.2.2.2.1 = some .int) (G : AK M dep fx Φ k n h p l R s m args meth c H0 D ty ad mc ms H locs cells slots Qc XC) (hl : lv_has ls M.2.2.1 lvr) (hpo : Φ (.inl (some (.int cst))) h) :
    W p l e R s m args below meth c H locs cells slots (vx_MQ below Qc XC args s mc ms (fre H0)) (F0 m hp ls [.ref q]) := by
  obtain ⟨⟨hx, hb, a3, a4, hr', hlo, a11⟩, g2, g3, hR, hS, hQ, hX⟩ := G
  have fin : ∀ (pc' : Nat) (ls' : Array Slot), decode M.2.1 pc' = .ok (.ireturn, 1) → W p l e R s m args below meth c H locs cells slots (vx_MQ below Qc XC args s mc ms (fre H0)) (F0 m pc' ls' [.int cst]) := by
    intro pc' ls' d
    refine W.widen (k := mc) (n := ms) (by omega) (by omega) (vx_ret ?_)
    exact W.iret hx hb (hr'.trans hr0) (fun t ht hW => hQ (some (.int cst)) h ad t (fun _ => rfl) (fun _ _ _ => rfl) hpo (by rw [ht]; exact hR) (by rw [ht]; exact hS.1) hW.alike) hS.2.2 d hlo
  rcases hd with ⟨j, z, d1, hj, d2, hz, d3⟩ | ⟨j, z, d1, hj, d2, hz, d3⟩
  · exact lv_astore_n hx hb d1 rfl hl hj rfl (fun ls' _ => lv_iconst hx hb d2 hz (fin _ ls' d3))
  · exact lv_astore hx hb d1 hl hj rfl (fun ls' _ => lv_iconst hx hb d2 hz (fin _ ls' d3))
theorem aw_callVH {b ci N : Nat} {C : String} {T : u_T} {fs : List Value} (d : decode M.2.1 pc = .ok (.invokevirtual idx, 3)) (hr0 : M.2.2.2.1 = some .int) (hl0 : Cond.methodLink M.1.cls idx M'.1 ∈ lw_tbl) (ho : MO M' na) (hv : MV M') (hA : AC M' dep' fx' Φ' k' n' (.ref b :: as) h) (hst : stk = as.reverse ++ .ref b :: st) (hh : h b = some (.inr (ci, fs))) (hc : kcl[ci]? = some (C, T, N)) (hcl : M'.1.cls = C) (hna : as.length = na) (hlen : (lg_sl (.ref b :: as)).length ≤ M'.2.2.1) (hd : dep' + 1 ≤ dep) (hcat : (st.map fun v => v.category).sum ≤ 8) (hk : k' ≤ k) (hn : n' ≤ n) (hfx : fx = true → fx' = true) (hdom : ∀ v h', Φ' v h' → ∀ i x, h i = some x → ∃ y, h' i = some y) (hok : fx' = true ∨ (okv h st ∧ okv h (lv.map (fun q => q.2))))
    (kk : ∀ v h', Φ' (.inl v) h' → AW M dep fx Φ (k - k') (n - n') (pc + 3) lv (v.toList ++ st) h') (kx : ∀ E h', Φ' (.inr E) h' → ∃ cst, HdE M pc E cst ∧ Φ (.inl (some (.int cst))) h') : AW M dep fx Φ k n pc lv stk h := by
  subst hst
  intro p l e R s m args below meth c H0 D ty ad mc ms H locs cells slots Qc XC ls G hl
  obtain ⟨⟨hx, hb, htr, hml, hr, hlo, hnm, hown, hK, hC, b1, b2, b3, b4, b5, htb⟩, g2, g3, hR, hS, hQX⟩ := id G
  have hM := hA.met ho.2.2.2.1 ho.2.2.1 hlen l htr H0 D ty ad
  have hcb := callB_mk (args := args) (k := k') (n := n') G.1 ho hl0 hd
  obtain ⟨r0, hr1, cell, q1, q2, q3, q4⟩ := (hR.1 b _ hh).1
  have hcls := (hK.1 ci _ hc).2.1
  have run := vx_runV (e := e) (meth := meth) (below := below) (R := R) (As := as.map (cv ad)) (rest := cvs ad st) (g := F0 m pc ls (cvs ad (as.reverse ++ .ref b :: st))) (Ts := []) (C := C) (locs := locs) (cells := cells) (slots := slots) (b := ad b) ⟨hx, hb, hml, hown, fun _ hq => nomatch hq⟩ hM ⟨hcb, hC.word hv.1 rfl args, by rw [← hcl]; exact hC.word hv.2 rfl args⟩ ⟨Pm.blind, ⟨cell, q1, by rw [q3]; rfl, by rw [q2]; exact hcls⟩, fun U hU hW => ⟨rfl, hC.warm hW, va_K.moved hW.alike hK, by rw [hU]; exact hR⟩⟩ rfl (by simpa using hna) hl.1 (by simp [cvs, cv]) (lv_room (by rw [cvs_cat]; exact hcat)) d ⟨by omega, by omega⟩
  intro T hT X
  rcases run T hT X with ⟨v0, st₀, t, T', L, h0, X', hL, e1, e2, ⟨v, h', ad', c1, c2, c3, c4, c5, c6⟩, st1⟩ | ⟨q, st₀, t, T', L, E, ce0, h0, X', hL, e1, e2, ⟨h', ad', c1, c2, c4, c5, c6⟩, hce, hcv, hcl9, st1⟩
  · cases c3
    have e3 : cvs ad' st = cvs ad st := hok.elim (fun z => by rw [c1 z]) (fun z => cvs_agr z.1 (fun k hk => by rw [c5.2.2.2.2 k hk, hR.2.2.2.2 k hk]) c2)
    have e4 : cvl ad' lv = cvl ad lv := hok.elim (fun z => by rw [c1 z]) (fun z => cvl_agr z.2 (fun k hk => by rw [c5.2.2.2.2 k hk, hR.2.2.2.2 k hk]) c2)
    obtain ⟨t2, a1, b1'⟩ := kk v h' c4 p l e R s m args below meth c H0 D ty ad' mc ms T'.heap (locs ++ L) (cells + k') (slots + n') Qc XC ls (G.back h0 e1 (fun z => c1 (hfx z)) c2 c5 c6 hL (hdom _ _ c4) hk hn) (by rw [e4]; exact hl) T' rfl X'
    refine ⟨t2, st1 t2 ?_, b1'⟩
    have e5 : cvs ad' (v.toList ++ st) = (v.map (cv ad')).toList ++ cvs ad st := by
      rw [← e3]
      cases v <;> rfl
    rw [e5] at a1
    exact a1
  · obtain ⟨cst, ⟨pre, suf, x, hsp, hpass, hcov, hne, hlk, hcs, hdc⟩, hpo⟩ := kx E h' c4
    have K := G.back (L := L) (c1 := k') (s1 := n') h0 e1 (fun z => c1 (hfx z)) c2 c5 c6 hL (hdom _ _ c4) hk hn
    have hsplit : c.exceptionTable.toList = pre.map (fun q => (⟨q.1, q.2.1, q.2.2.1, q.2.2.2⟩ : ExceptionTableEntry)) ++ ⟨x.1, x.2.1, x.2.2.1, x.2.2.2⟩ :: suf.map (fun q => (⟨q.1, q.2.1, q.2.2.1, q.2.2.2⟩ : ExceptionTableEntry)) := by
      rw [htb, hsp]
      unfold tableOf
      rw [List.map_append, List.map_cons]
    have hh9 := vx_catch (p := p) (l := l) (e := e) (R := R) (below := below) (locs := locs ++ L) (cells := cells + k') (slots := slots + n') (H := T'.heap) (ls := ls) (rest := cvs ad st) (pc := pc) (own := M.1.cls) (name := E) (E := E) hown _ _ _ hsplit (fun z hz => by
      obtain ⟨z0, hz0, rfl⟩ := List.mem_map.mp hz
      obtain ⟨w1, nm, w2, w3⟩ := hpass z0 hz0
      exact Or.inr ⟨w1, nm, hC.word w2 rfl args, hC.nc w3⟩) (by simp only [covers, Bool.and_eq_true, decide_eq_true_eq]; exact hcov) hne (hC.word hlk rfl args) (hC.word2 hcs rfl args) (by rw [e1]; exact hce) hcv hcl9 (hd_run hdc hr0 K hl hpo) T' rfl X'
    obtain ⟨t2, a1, b1'⟩ := hh9
    exact ⟨t2, st1.trans a1, b1'⟩
theorem aw_tryV {b ci N : Nat} {C : String} {T : u_T} {fs : List Value} {d0 : Dt} {P : Option Value → Dt → Prop} {X : String → Dt → Prop} (d : decode M.2.1 pc = .ok (.invokevirtual idx, 3)) (hr0 : M.2.2.2.1 = some .int) (hl0 : Cond.methodLink M.1.cls idx M'.1 ∈ lw_tbl) (ho : MO M' na) (hv : MV M') (hA : AC M' dep' true (PX P X) k' n' (.ref b :: as) (HP d0)) (hst : stk = as.reverse ++ .ref b :: st) (hh : HP d0 b = some (.inr (ci, fs))) (hc : kcl[ci]? = some (C, T, N)) (hcl : M'.1.cls = C) (hna : as.length = na) (hlen : (lg_sl (.ref b :: as)).length ≤ M'.2.2.1) (hd : dep' + 1 ≤ dep) (hcat : (st.map fun v => v.category).sum ≤ 8) (hk : k' ≤ k) (hn : n' ≤ n)
    (kx : ∀ E d', X E d' → ∃ cst, HdE M pc E cst ∧ Φ (.inl (some (.int cst))) (HP d')) (kk : ∀ v d', P v d' → AW M dep true Φ (k - k') (n - n') (pc + 3) lv (v.toList ++ st) (HP d')) : AW M dep true Φ k n pc lv stk (HP d0) :=
  aw_callVH d hr0 hl0 ho hv hA hst hh hc hcl hna hlen hd hcat hk hn (fun _ => rfl) PX_dom (Or.inl rfl) (fun v h' ⟨d', e, q⟩ => by subst e; exact kk v d' q) (fun E h' ⟨d', e, q⟩ => by subst e; exact kx E d' q)
/-! a method with a table is called -/
def MOH (M : MI) (na : Nat) : Prop := Cond.codeWith M.1 M.2.1 M.2.2.1 M.2.2.2.1 M.2.2.2.2 ∈ lw_tbl ∧ Cond.initialized M.1.cls ∈ lw_tbl ∧ plainName M.1.cls = true ∧ (M.1.cls ≠ "java/lang/invoke/MethodHandle" ∧ M.1.cls ≠ "java/lang/invoke/VarHandle") ∧ (parseMethodDescriptor M.1.desc).map (fun d => d.parameters.length) = some na ∧ M.2.2.1 ≤ 30
theorem AC.metH {M : MI} {dep k n : Nat} {fx : Bool} {Φ : Rs → ah → Prop} {as : List Value} {h : ah} (hA : AC M dep fx Φ k n as h) (hno : ∀ E h', ¬ Φ (.inr E) h') (hy : plainName M.1.cls = true) (hlen : (lg_sl as).length ≤ M.2.2.1) (l : Launch) (hl : l.stackTraces = false) (H0 : Heap) (D : va_G) (ty : Nat → ClassId) (ad : Nat → Nat) :
    Met l M.1 [Cond.codeWith M.1 M.2.1 M.2.2.1 M.2.2.2.1 M.2.2.2.2] (rmd dep k n) (Pm H0 D ty ad h as) (Qm fx Φ H0 D ty ad h) k n (fre H0) := by
  have hv : vx_Met l M.1 [Cond.codeWith M.1 M.2.1 M.2.2.1 M.2.2.2.1 M.2.2.2.2] (rmd dep k n) (Pm H0 D ty ad h as) (Qm fx Φ H0 D ty ad h) (Xm fx Φ H0 D ty ad h) k n (fre H0) := by
    refine vx_ofWH (cc := M.2.1) (maxL := M.2.2.1) (ret := M.2.2.2.1) (hh := M.2.2.2.2) (ws' := []) hy rfl ?_
    intro p e s m args below meth c s₁ B hml hv
    have htab := vx_table (x := M.1) B (atoms_spec (ws := [Cond.codeWith M.1 M.2.1 M.2.2.1 M.2.2.2.1 M.2.2.2.2]) B.pre _ List.mem_cons_self)
    obtain ⟨rfl, hC, hK, hR⟩ := hv
    rw [lg_entry_eq]
    have hl1 := lv_entry (as.map (cv ad)) (n := M.2.2.1) (by rw [sl_cv]; exact hlen)
    rw [args_cv] at hl1
    have hsz := hR.2.2.1
    refine hA p l e (rmd dep k n) s m _ below meth c H0 D ty ad k n s.heap [] 0 0 _ _ _ ⟨⟨B.exec, B.bytes, hl, hml, B.returns, B.notSynchronized, (name_of_methodNamed B.named B.method).1, findClass_of_methodNamed B.named, hK, hC, Nat.le_refl _, Nat.le_refl _, Nat.le_refl _, Nat.le_refl _, hsz, htab⟩, by omega, by omega, hR, va_S.rf, ?_, ?_⟩ hl1
    · intro v h' ad' t a b c' d' e' f'
      exact ⟨v, h', ad', a, b, rfl, c', d', e'⟩
    · intro E h' ad' t a b c' d' e' f'
      exact ⟨h', ad', a, b, c', d', e'⟩
  intro p e ha hc hk s m args below hf happ hP hK
  obtain ⟨j, o, h1, h2, h3, h4⟩ := hv p e ha hc hk s m args below hf happ hP hK
  refine ⟨j, o, h1, h2, h3, ?_⟩
  rcases h4 with h4 | ⟨q, h5, E, ce, L, ⟨h', ad', a1, a2, a3, a4⟩, h6⟩
  · exact h4
  · exact absurd a3 (hno E h')
theorem aw_callSH (d : decode M.2.1 pc = .ok (.invokestatic idx, 3)) (hl0 : Cond.methodLink M.1.cls idx M'.1 ∈ lw_tbl) (ho : MOH M' na) (hv : MS M') (hA : AC M' dep' fx' Φ' k' n' as h) (hst : stk = as.reverse ++ st) (hno : ∀ E h', ¬ Φ' (.inr E) h') (hna : as.length = na) (hlen : (lg_sl as).length ≤ M'.2.2.1) (hd : dep' + 1 ≤ dep) (hcat : (st.map fun v => v.category).sum ≤ 8) (hk : k' ≤ k) (hn : n' ≤ n) (hfx : fx = true → fx' = true) (hdom : ∀ v h', Φ' v h' → ∀ i x, h i = some x → ∃ y, h' i = some y) (hok : fx' = true ∨ (okv h st ∧ okv h (lv.map (fun q => q.2))))
    (kk : ∀ v h', Φ' (.inl v) h' → AW M dep fx Φ (k - k') (n - n') (pc + 3) lv (v.toList ++ st) h') : AW M dep fx Φ k n pc lv stk h := by
  subst hst
  intro p l e R s m args below meth c H0 D ty ad mc ms H locs cells slots Qc XC ls G hl
  obtain ⟨⟨hx, hb, htr, hml, hr, hlo, hnm, hown, hK, hC, b1, b2, b3, b4, b5, htb⟩, g2, g3, hR, hS, hQX⟩ := id G
  have hM := hA.metH hno ho.2.2.1 hlen l htr H0 D ty ad
  have hlo2 := ho.2.2.2.2.2
  have hcw : vx_CSW R s args M.1.cls idx M'.1 M'.2.1 M'.2.2.1 M'.2.2.2.1 M'.2.2.2.2 [Cond.codeWith M'.1 M'.2.1 M'.2.2.1 M'.2.2.2.1 M'.2.2.2.2] (rmd dep' k' n') k' n' na := by
    refine ⟨⟨rfl, rfl, by show dep' + 1 ≤ _; omega, by show 8 + (M'.2.2.1 + 11) + 60 * dep' ≤ _; omega, fun w hw a' U hW => ?_, List.mem_cons_self⟩, hC.word ho.1 rfl args, hC.word ho.2.1 rfl args, ho.2.2.2.1, fun sig hsig => ?_, hC.word hl0 rfl args, hC.word hv rfl args⟩
    · rw [List.mem_singleton] at hw
      subst hw
      exact (hC.warm hW).word ho.1 rfl a'
    · have o6 := ho.2.2.2.2.1
      rw [hsig] at o6
      exact (Option.some.inj o6).symm
  exact run_back G hl (vx_runSW (e := e) (meth := meth) (below := below) (R := R) (As := as.map (cv ad)) (rest := cvs ad st) (g := F0 m pc ls (cvs ad (as.reverse ++ st))) (Ts := []) (locs := locs) (cells := cells) (slots := slots) ⟨hx, hb, hml, hown, fun _ hq => nomatch hq⟩ hM hcw ⟨Pm.blind, fun U hU hW => ⟨rfl, hC.warm hW, va_K.moved hW.alike hK, by rw [hU]; exact hR⟩⟩ rfl (by simpa using hna) hl.1 (by simp [cvs]) (lv_room (by rw [cvs_cat]; exact hcat)) d ⟨by omega, by omega⟩) hk hn hfx hdom hok kk
end AWCA
