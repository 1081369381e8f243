/-! a throw whose exception's constructor calls its super by a pool index of its own -/
def eAt (own : String) (ic : Nat) (X Y : String) (r : List String) (ix : Nat) (bs : ByteArray) : List Cond :=
  Bundle.throwableAtoms ++ Bundle.throwableSAtoms ++ Bundle.passSAtoms X Y ix bs ++ Bundle.chainSAtoms Y r ++
    [.methodLink own ic (Bundle.initS X), .instantiable X 6, .selects X Bundle.tFill0 Bundle.tFill0, .selects X Bundle.tFill Bundle.tFill, .lays X Bundle.tN "cause" "Ljava/lang/Throwable;", .lays X Bundle.tN "stackTrace" Bundle.steD, .lays X Bundle.tN "suppressedExceptions" Bundle.listD, .lays X Bundle.tN "detailMessage" "Ljava/lang/String;", .isRef (.static Bundle.tN "UNASSIGNED_STACK" Bundle.steD), .isRef (.static Bundle.tN "SUPPRESSED_SENTINEL" Bundle.listD), .fieldLink Bundle.tN 198 Bundle.tN "backtrace" "Ljava/lang/Object;", .lays Bundle.tN Bundle.tN "backtrace" "Ljava/lang/Object;", .lays X Bundle.tN "backtrace" "Ljava/lang/Object;"]
/-- the chain of constructors, its first link by index ix -/
theorem eChain {args : Array Value} {s : State} {pl : Platform} (hpl : pl.magicAccessors = ({} : Platform).magicAccessors) {top : MethodId} (ht : s.methodNamed? (Bundle.initS Bundle.tN) = some top) {X Y : String} {r : List String} {ix : Nat} {bs : ByteArray} (hX : Bundle.fit X = true) (hY : Bundle.fit Y = true) (hr : ∀ n ∈ r, Bundle.fit n = true)
    (b0 : decode bs 0 = .ok (.aload_n 0, 1)) (b1 : decode bs 1 = .ok (.aload_n 1, 1)) (b2 : decode bs 2 = .ok (.invokespecial ix, 3)) (b5 : decode bs 5 = .ok (.return_, 1)) (h1 : ∀ c ∈ Bundle.passSAtoms X Y ix bs, c.before args s = true) (h2 : ∀ c ∈ Bundle.chainSAtoms Y r, c.before args s = true) :
    ∃ (P : PassC) (Ps : List PassC), Ps.length = r.length + 1 ∧ P.LinksS pl s ∧ (∀ Q ∈ Ps, Q.LinksS pl s) ∧ s.methodNamed? (Bundle.initS X) = some P.m ∧ P.sup = firstOf top (Ps.map fun x => x.toPassT) ∧ PassesOn top (Ps.map fun x => x.toPassT) := by
  obtain ⟨P, hP, hm, hs⟩ := PassC.ofS_atoms (args := args) hpl (Bundle.fit_spec hX).1 (Bundle.fit_spec hY).2 b0 b1 b2 b5 h1
  obtain ⟨P2, Ps, hlen, k2, kl, m2, s2, on2⟩ := Bundle.chainS (args := args) hpl ht r Y hY hr h2
  refine ⟨P, P2 :: Ps, by simp [hlen], hP, fun Q hQ => ?_, hm, ?_, ⟨s2, on2⟩⟩
  · rcases List.mem_cons.mp hQ with e | e
    · subst e; exact k2
    · exact kl Q e
  · show P.sup = P2.m
    exact Option.some.inj (hs.symm.trans m2)
section ET
variable {p : Program} {l : Launch} {e : Env} {R : Room} {s : State} {m₀ : MethodId} {args : Array Value} {below : List Frame} {meth : Method} {c : Code} {W : State} {locs : List Loc} {cells slots : Nat}
set_option maxHeartbeats 2000000 in
/-- the object is made: its constructors have run -/
theorem eMade (G : Stand p l e R s m₀ args below meth c W locs cells slots) (hx : p.tables.exec = Jvm.exec) (htr : e.platform.stackTraces = false) {own cls Y : String} {r : List String} {ic ix : Nat} {bs : ByteArray} (hown : s.vm.findClass own = some m₀.cls) (hX : Bundle.fit cls = true) (hY : Bundle.fit Y = true) (hr : ∀ n ∈ r, Bundle.fit n = true)
    (b0 : decode bs 0 = .ok (.aload_n 0, 1)) (b1 : decode bs 1 = .ok (.aload_n 1, 1)) (b2 : decode bs 2 = .ok (.invokespecial ix, 3)) (b5 : decode bs 5 = .ok (.return_, 1)) (h : ∀ w ∈ eAt own ic cls Y r ix bs, w.before args s = true) (hl : ∀ x ∈ locs, ∀ cell, s.heap[x.base]? = some cell → cell.vm.isStatics = false)
    {a : Addr} {cX : ClassId} {kX : Class} (hf : s.vm.findClass cls = some cX) (hk : s.vm.classes[cX]? = some kX) (hcell : W.heap[a]? = some (freshCell cX kX)) (hnew : s.heap.size ≤ a) {msg : Value} (hmsg : msg.isRef = true) {g : JFrame} (hg : g.method = m₀) (hsz : g.locals.size = c.maxLocals) {rest : List Value} (hst : g.stack = msg :: .ref a :: .ref a :: rest) (hd : decode c.code g.pc = .ok (.invokespecial ic, 3))
    (hR1 : r.length + 4 < R.frames) (hR2 : 2 * g.monitorRoom + ((Value.ref a :: rest).map fun v => v.category).sum + (13 * (r.length + 2) + 42) ≤ R.locals) :
    ∃ (V : State) (ce : Cell) (L : List Loc), Stand p l e R s m₀ args below meth c (V.setCell a ce) (locs ++ L) cells slots ∧ (∀ y ∈ L, y.base = a) ∧ a < V.heap.size ∧ ce.cls = cX ∧ ce.vm = .none ∧ ∀ z, Steps p.tables e below ((V.setCell a ce).setTop { g with stack := .ref a :: rest, pc := g.pc + 3 }) z → Steps p.tables e below (W.setTop g) z := by
  have q1 : e.platform.frameOwnsMonitors = true := by rw [G.admits.platform]
  have q2 : e.platform.finalization = false := by rw [G.admits.platform]
  have q3 : e.platform.magicAccessors = ({} : Platform).magicAccessors := by rw [G.admits.platform]
  have at_ : ∀ w, w ∈ eAt own ic cls Y r ix bs → w.holds args s none s [] = true := fun w hw => h w hw
  obtain ⟨T, Z0, LT, -, ty⟩ := ThrowableC.of_atoms (args := args) q1 q2 q3 (fun w hw => h w (by simp [eAt, hw]))
  obtain ⟨Z, M, LZ, LM, hZ⟩ := Init0T.ofS_atoms (args := args) q3 LT ty (fun w hw => h w (by simp [eAt, hw]))
  obtain ⟨P, Ps, hlen, hP, hPs, hPm, on1, on2⟩ := eChain (args := args) q3 hZ hX hY hr b0 b1 b2 b5 (fun w hw => h w (by simp only [eAt, List.mem_append]; exact Or.inl (Or.inl (Or.inr hw)))) (fun w hw => h w (by simp only [eAt, List.mem_append]; exact Or.inl (Or.inr hw)))
  have hPc : s.vm.findClass cls = some P.m.cls := findClass_of_methodNamed hPm
  cases Option.some.inj (hf.symm.trans hPc)
  obtain ⟨c1, k1, hc1, hk1, hord, -, -, hn6⟩ := Cond.instantiable_spec (at_ (.instantiable cls 6) (by simp [eAt]))
  cases Option.some.inj (hc1.symm.trans hPc)
  cases Option.some.inj (hk.symm.trans hk1)
  have z0 : selectMethod e.platform s.vm P.m.cls T.fill0 = .method T.fill0 := by
    obtain ⟨_, _, _, w1, w2, w3, w4, -⟩ := Cond.selects_spec (at_ (.selects cls Bundle.tFill0 Bundle.tFill0) (by simp [eAt]))
    cases Option.some.inj (w1.symm.trans hPc)
    cases Option.some.inj (w2.symm.trans (State.methodFound?_of_named ty.fill0 (by decide)))
    cases Option.some.inj (w3.symm.trans ty.fill0)
    rw [Launch.admits_selectMethod G.admits]; exact w4
  have z1 : selectMethod e.platform s.vm P.m.cls T.fill = .method T.fill := by
    obtain ⟨_, _, _, w1, w2, w3, w4, -⟩ := Cond.selects_spec (at_ (.selects cls Bundle.tFill Bundle.tFill) (by simp [eAt]))
    cases Option.some.inj (w1.symm.trans hPc)
    cases Option.some.inj (w2.symm.trans (State.methodFound?_of_named ty.fill (by decide)))
    cases Option.some.inj (w3.symm.trans ty.fill)
    rw [Launch.admits_selectMethod G.admits]; exact w4
  obtain ⟨sc, hsc, hss⟩ := ty.statics
  obtain ⟨u0, hu0⟩ := Cond.staticRefV ty.unassigned LT.unassignedStatic LT.statics hsc hss (at_ (.isRef (.static Bundle.tN "UNASSIGNED_STACK" Bundle.steD)) (by simp [eAt]))
  obtain ⟨sen, hsen⟩ := Cond.staticRefV ty.sentinel LT.sentinelStatic LT.statics hsc hss (at_ (.isRef (.static Bundle.tN "SUPPRESSED_SENTINEL" Bundle.listD)) (by simp [eAt]))
  obtain ⟨f1, f2, fB, f3, f4, f5, f6, -, f7, f8, f9⟩ := Cond.ownField (t := .object "java/lang/Object") ty.found LT.cls (by decide +kernel) (at_ (.fieldLink Bundle.tN 198 Bundle.tN "backtrace" "Ljava/lang/Object;") (by simp [eAt])) (at_ (.lays Bundle.tN Bundle.tN "backtrace" "Ljava/lang/Object;") (by simp [eAt])) e.platform q3
  obtain ⟨sc2, hsc2, es2, -, kept⟩ := G.same.2.2.2.2.2 T.aS sc hsc
  have nl : ∀ i, (⟨T.aS, i⟩ : Loc) ∉ locs := fun i hm => by
    have := hl _ hm sc hsc
    rw [hss] at this
    cases this
  have nu : sc2.vm ≠ .unknown := by
    rw [es2]
    intro hu
    rw [show sc.vm = .unknown from hu] at hss
    cases hss
  have na : T.aS ≠ a := Nat.ne_of_lt (Nat.lt_of_lt_of_le (Array.getElem?_eq_some_iff.mp hsc).1 hnew)
  obtain ⟨iM, hM⟩ := ty.msg
  obtain ⟨tC, dC, pC, nC⟩ := Cond.laysAt hPc hk1 ty.cause (at_ (.lays cls Bundle.tN "cause" "Ljava/lang/Throwable;") (by simp [eAt]))
  obtain ⟨tS, dS, pS, nS⟩ := Cond.laysAt hPc hk1 ty.stack (at_ (.lays cls Bundle.tN "stackTrace" Bundle.steD) (by simp [eAt]))
  obtain ⟨tP, dP, pP, nP⟩ := Cond.laysAt hPc hk1 ty.supp (at_ (.lays cls Bundle.tN "suppressedExceptions" Bundle.listD) (by simp [eAt]))
  obtain ⟨tM, dM, pM, nM⟩ := Cond.laysAt hPc hk1 hM (at_ (.lays cls Bundle.tN "detailMessage" "Ljava/lang/String;") (by simp [eAt]))
  obtain ⟨tB, dB, pB, nB⟩ := Cond.laysAt hPc hk1 f9 (at_ (.lays cls Bundle.tN "backtrace" "Ljava/lang/Object;") (by simp [eAt]))
  have a1 := Cond.laysApart pB pC nB nC (by rw [f7, ty.causeName]; decide)
  have a2 := Cond.laysApart pB pS nB nS (by rw [f7, ty.stackName]; decide)
  have a3 := Cond.laysApart pB pP nB nP (by rw [f7, ty.suppName]; decide)
  have sk : SkipFacts T e.platform s (fun u => u) u0 ((preparedCellV T.toThrowableT (freshCell P.m.cls kX) a u0 sen).withEntry W.cur) := by
    refine ⟨{ ci198 := f1, i198 := f2, fBack := fB }, ⟨f3, f4, f5, f6⟩, ?_, fun _ _ => rfl⟩
    have := fresh_default (c := P.m.cls) tB
    rw [f8] at this
    simpa [preparedCellV, Cell.setSlot, Cell.withEntry, Array.getElem?_setIfInBounds, a1, a2, a3, a1.symm, a2.symm, a3.symm, defaultValue] using this
  obtain ⟨_, _, _, _, v1, hn1, -, -, -, -, -, -, -, hW1, st1⟩ := Steps.initColdS (tb := p.tables) (e := e) (below := below) (s := s) (U := W) G.here hx G.warmed q3 hown (t := Bundle.initS cls) rfl rfl (Bundle.fit_spec hX).2 (at_ (.methodLink own ic (Bundle.initS cls)) (by simp [eAt])) (h (.instanceMethod (Bundle.initS cls)) (by simp [eAt, Bundle.passSAtoms])) (bytes := bs) (maxL := 2) (h (.code (Bundle.initS cls) bs 2 none) (by simp [eAt, Bundle.passSAtoms])) (f := g) hg (a := a) (msg := msg) (rest := .ref a :: rest) hst hd
  cases Option.some.inj (hn1.symm.trans hPm)
  have G1 := G.noted hW1
  obtain ⟨v2, G2, st2⟩ := G1.ctorMessageOffV hx (g := { g with stack := .ref a :: rest }) hg hsz T LT Z LZ M LM (P :: Ps) (fun Q hQ => by rcases List.mem_cons.mp hQ with e1 | e1; rw [e1]; exact hP; exact hPs Q e1) ⟨on1, on2⟩ (u0 := u0) (sen := sen) (self := a) hmsg (cell := freshCell P.m.cls kX) (cellS := sc2)
    hcell (fun _ => by simp) (by simp) rfl rfl z0 z1 hsc2 na nu (by rw [kept _ (nl _)]; exact hu0) (by rw [kept _ (nl _)]; exact hsen)
    (Takes.of_laid hk1 hord tC (by rw [ty.causeType]; rfl)) (Takes.of_laid hk1 hord tS (by rw [ty.stackType]; exact fits_refV_array _ u0)) (Takes.of_laid hk1 hord tP (by rw [ty.suppType]; exact fits_refV_object _ sen)) (Takes.of_laid hk1 hord tM (by rw [ty.msgType]; exact fits_refV_object _ ⟨msg, hmsg⟩)) ty.objLocals sk htr [] hd
    (by simp only [List.length_cons, hlen]; omega) (by simp only [List.length_cons, hlen]; exact hR2)
  refine ⟨(W.setVm v1).setVm v2, _, _, G2, fun y hy => ?_, (Array.getElem?_eq_some_iff.mp hcell).1, rfl, rfl, fun z hz => st1 _ (fun acts => ?_)⟩
  · simp only [List.mem_cons, List.not_mem_nil, or_false] at hy
    rcases hy with rfl | rfl | rfl | rfl | rfl <;> rfl
  · rw [doInvoke_state]
    exact st2 _ hz
end ET
section ET2
variable {p : Program} {l : Launch} {e : Env} {R : Room} {s : State} {m : MethodId} {args : Array Value} {below : List Frame} {meth : Method} {c : Code} {H : Heap} {locs : List Loc} {cells slots : Nat} {ls : Array Slot} {rest : List Value} {free : Addr → Prop} {Qc : Array Value → State → Outcome → State → Prop} {XC : String → State → State → Prop}
set_option maxHeartbeats 2000000 in
theorem eThrow {cc : ByteArray} {pc : Nat} (hx : p.tables.exec = Jvm.exec) (hb : c.code = cc) (hl : l.stackTraces = false) {own cls text Y : String} {r : List String} {ik is ic ix mc ms sa : Nat} {bs : ByteArray} {A : Nat → Prop} (hown : s.vm.findClass own = some m.cls) (hX : Bundle.fit cls = true) (hY : Bundle.fit Y = true) (hr : ∀ n ∈ r, Bundle.fit n = true)
    (b0 : decode bs 0 = .ok (.aload_n 0, 1)) (b1 : decode bs 1 = .ok (.aload_n 1, 1)) (b2 : decode bs 2 = .ok (.invokespecial ix, 3)) (b5 : decode bs 5 = .ok (.return_, 1))
    (hk : (Cond.classLink own ik cls).before args s = true) (hini : (Cond.initialized cls).before args s = true) (hstr : vk_R own is text sa s) (hat : ∀ w ∈ (eAt own ic cls Y r ix bs).filter vx_no, w.before args s = true) (hgood : ∀ w ∈ Cond.classLink own ik cls :: Cond.initialized cls :: (eAt own ic cls Y r ix bs).filter vx_no, vx_ot w = true)
    (hU : vx_Zq Bundle.tN "UNASSIGNED_STACK" Bundle.steD A s s.heap) (hN : vx_Zq Bundle.tN "SUPPRESSED_SENTINEL" Bundle.listD A s s.heap) (hS : va_S A s.heap H locs) (hsz : ls.size = c.maxLocals)
    (d0 : decode cc pc = .ok (.new ik, 3)) (d3 : decode cc (pc + 3) = .ok (.dup, 1)) (d4 : decode cc (pc + 4) = .ok (.ldc_w is, 3)) (d7 : decode cc (pc + 7) = .ok (.invokespecial ic, 3)) (d10 : decode cc (pc + 10) = .ok (.athrow, 1)) (hout : ∀ x ∈ c.exceptionTable.toList, covers x (pc + 10) = false)
    (hR1 : r.length + 4 < R.frames) (hR2 : (rest.map fun v => v.category).sum + (13 * (r.length + 2) + 43) ≤ R.locals) (hR3 : cells + 1 ≤ R.cells) (hR4 : slots + 6 ≤ R.slots) (hlk : meth.locks = false)
    (hX9 : ∀ t : State, s.vm.Alike t.vm → H.size ≤ t.heap.size → (∀ q : Nat, q < H.size → t.heap[q]? = H[q]?) → XC cls s t) (hf : ∀ z ∈ locs, free z.base) (hc : cells + 1 ≤ mc) (hs : slots + 6 ≤ ms) :
    W p l e R s m args below meth c H locs cells slots (vx_MQ below Qc XC args s mc ms free) (F0 m pc ls rest) := by
  intro T hT X
  have htr : e.platform.stackTraces = false := (show e.platform.stackTraces = l.stackTraces by rw [X.admits.platform]).trans hl
  have Y0 := vx_rebase X (R' := { frames := R.frames, locals := R.locals, cells := 1, slots := 6 }) (Nat.le_refl _) (Nat.le_refl _) hR3 hR4
  obtain ⟨s', hA⟩ : ∃ z, z = (T.setVm s.vm).setFrames (.invoking m args :: below) := ⟨_, rfl⟩
  rw [← hA] at Y0
  have hvm : s'.vm = s.vm := by rw [hA]; rfl
  have hhp : s'.heap = H := by rw [hA]; exact hT
  have hW0 : s.WarmedH s'.vm := by rw [hvm]; exact State.WarmedH.refl s
  have hat' : ∀ w ∈ (eAt own ic cls Y r ix bs).filter vx_no, w.before args s' = true := fun w hw => vx_ot_at hW0 hvm.symm (hgood w (List.mem_cons_of_mem _ (List.mem_cons_of_mem _ hw))) (hat w hw)
  have hk' := vx_ot_at (a' := args) hW0 hvm.symm (hgood _ List.mem_cons_self) hk
  have hini' := vx_ot_at (a' := args) hW0 hvm.symm (hgood _ (List.mem_cons_of_mem _ List.mem_cons_self)) hini
  have hU' : vx_Zq Bundle.tN "UNASSIGNED_STACK" Bundle.steD A s' s'.heap := by rw [hhp]; exact vx_Zq.moved hW0.alike (hU.kept hS.2.1)
  have hN' : vx_Zq Bundle.tN "SUPPRESSED_SENTINEL" Bundle.listD A s' s'.heap := by rw [hhp]; exact vx_Zq.moved hW0.alike (hN.kept hS.2.1)
  have h : ∀ w ∈ eAt own ic cls Y r ix bs, w.before args s' = true := vx_own hat' (vx_isRefq hU'.1) (vx_isRefq hN'.1) hU'.2.word hN'.2.word
  have hown' : s'.vm.findClass own = some m.cls := by rw [hvm]; exact hown
  have hins : (Cond.instantiable cls 6).before args s' = true := h _ (by simp [eAt])
  obtain ⟨v1, cX, kX, hfX, hkX, -, -, X1, st1⟩ := Y0.newCold hx (own := own) (C := cls) (index := ik) (n := 6) hown' hk' hins hini' (g := F0 m pc ls rest) rfl (by rw [hb]; exact d0) (Nat.le_refl _) (Nat.le_refl _)
  generalize hT1 : (T.setVm v1).pushCell { cls := cX, slots := kX.instanceTypes.map defaultValue, vm := .none } = T1 at X1 st1
  have hcat : (Value.ref T.heap.size).category = 1 := rfl
  have hcA : T1.heap[T.heap.size]? = some (freshCell cX kX) := by rw [← hT1]; exact State.heap_pushCell_size _ _
  have d3' : decode c.code (pc + 3) = .ok (.dup, 1) := by rw [hb]; exact d3
  have d4' : decode c.code (pc + 4) = .ok (.ldc_w is, 3) := by rw [hb]; exact d4
  have hst' : vk_R own is text sa s' := vk_R.warm hW0 hstr
  obtain ⟨V, ce, L, X2, hL, hlt, hcc, hcv, go⟩ := eMade X1 hx htr (own := own) (cls := cls) (Y := Y) (r := r) (ic := ic) hown' hX hY hr b0 b1 b2 b5 h (fun x hx => nomatch hx) hfX hkX hcA (by rw [hhp, hT]; exact Nat.le_refl _) (msg := .ref sa) rfl
    (g := { method := m, pc := pc + 7, locals := ls, stack := .ref sa :: .ref T.heap.size :: .ref T.heap.size :: rest, locked := none }) rfl hsz (rest := rest) rfl (by rw [hb]; exact d7) hR1 (by simp only [List.map_cons, List.sum_cons, hcat]; omega)
  obtain ⟨w1, w2, w3, w4, w5⟩ := X2.athrowLeaves hx (g := { method := m, pc := pc + 10, locals := ls, stack := .ref T.heap.size :: rest, locked := none }) rfl rfl rfl hout (a := T.heap.size) (rest := rest) rfl (by rw [hb]; exact d10) hlk
  generalize hUU : (V.setCell T.heap.size ce).setFrames (.throwing T.heap.size :: below) = U at w1 w2 w3 w4 w5
  have hce : U.heap[T.heap.size]? = some ce := by rw [← hUU]; simp [State.setCell, State.setFrames, hlt]
  have same : s'.sameButNew ({ U with vm := s'.vm } : State) [] (0 + 1) (0 + 6) := State.sameButNew.weaken w5 (fun y hy hb' => by
    have hy' : y ∈ L := by simpa using hy
    rw [hL y hy', hhp, hT] at hb'
    exact absurd hb' (Nat.lt_irrefl _)) (Nat.le_refl _) (Nat.le_refl _)
  obtain ⟨f1, f2⟩ := vx_frame same
  rw [hhp] at f1 f2
  have hWs : s.WarmedH U.vm := State.WarmedH.trans hW0 w4
  have hcl : s.vm.findClass cls = some ce.cls := by
    have h9 := hfX
    rw [hvm] at h9
    rw [hcc]
    exact h9
  have hall : s.sameButNew ({ U with vm := s.vm } : State) locs mc ms := by
    subst hA
    obtain ⟨e1, e2⟩ := same
    rw [State.setFrames_setFrames] at e1
    have h2 : (T.setVm s.vm).sameButNew ({ U with vm := s.vm } : State) [] (0 + 1) (0 + 6) := ⟨e1, e2⟩
    have h3 := X.same.trans h2
    rw [List.append_nil] at h3
    exact h3.mono hc hs
  refine ⟨U, ?_, .threw T.heap.size, w2, w3, Or.inr ⟨T.heap.size, rfl, cls, ce, locs, hX9 U hWs.alike f1 (fun q hq => f2 q hq (fun z hz => nomatch hz)), hce, hcv, hcl, hWs, hall, hf⟩⟩
  refine st1 _ ?_
  show Steps p.tables e below (T1.setTop { method := m, pc := pc + 3, locals := ls, stack := .ref T.heap.size :: rest, locked := none }) _
  jvm_step X1.here [X1.here.top, hx, d3', Value.category]
  exact X1.ldcStringW hx (own := own) (text := text) (index := is) (a := sa) hown' hst'.1 hst'.2 (g := { method := m, pc := pc + 4, locals := ls, stack := .ref T.heap.size :: .ref T.heap.size :: rest, locked := none }) rfl d4' _ (go _ w1)
end ET2
