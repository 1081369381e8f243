/-! a throw whose exception's constructor calls its super by a pool index of its own -/
def eAt (own : String) (ic : Nat) (X Y : String) (r : List String) (ix : Nat) (bs : ByteArray) : List Cond :=
  Bundle.throwableAtoms ++ Bundle.throwableSAtoms ++ Bundle.passSAtoms X Y ix bs ++ Bundle.chainSAtoms Y r ++
    [.methodLink own ic (Bundle.initS X), .instantiable X 6, .selects X Bundle.tFill0 Bundle.tFill0, .selects X Bundle.tFill Bundle.tFill, .lays X Bundle.tN "cause" "Ljava/lang/Throwable;", .lays X Bundle.tN "stackTrace" Bundle.steD, .lays X Bundle.tN "suppressedExceptions" Bundle.listD, .lays X Bundle.tN "detailMessage" "Ljava/lang/String;", .isRef (.static Bundle.tN "UNASSIGNED_STACK" Bundle.steD), .isRef (.static Bundle.tN "SUPPRESSED_SENTINEL" Bundle.listD), .fieldLink Bundle.tN 198 Bundle.tN "backtrace" "Ljava/lang/Object;", .lays Bundle.tN Bundle.tN "backtrace" "Ljava/lang/Object;", .lays X Bundle.tN "backtrace" "Ljava/lang/Object;"]
/-- the chain of constructors, its first link by index ix -/
theorem eChain {args : Array Value} {s : State} {pl : Platform} (hpl : pl.magicAccessors = ({} : Platform).magicAccessors) {top : MethodId} (ht : s.methodNamed? (Bundle.initS Bundle.tN) = some top) {X Y : String} {r : List String} {ix : Nat} {bs : ByteArray} (hX : Bundle.fit X = true) (hY : Bundle.fit Y = true) (hr : ∀ n ∈ r, Bundle.fit n = true)
    (b0 : decode bs 0 = .ok (.aload_n 0, 1)) (b1 : decode bs 1 = .ok (.aload_n 1, 1)) (b2 : decode bs 2 = .ok (.invokespecial ix, 3)) (b5 : decode bs 5 = .ok (.return_, 1)) (h1 : ∀ c ∈ Bundle.passSAtoms X Y ix bs, c.before args s = true) (h2 : ∀ c ∈ Bundle.chainSAtoms Y r, c.before args s = true) :
    ∃ (P : PassC) (Ps : List PassC), Ps.length = r.length + 1 ∧ P.LinksS pl s ∧ (∀ Q ∈ Ps, Q.LinksS pl s) ∧ s.methodNamed? (Bundle.initS X) = some P.m ∧ P.sup = firstOf top (Ps.map fun x => x.toPassT) ∧ PassesOn top (Ps.map fun x => x.toPassT) := by
  obtain ⟨P, hP, hm, hs⟩ := PassC.ofS_atoms (args := args) hpl (Bundle.fit_spec hX).1 (Bundle.fit_spec hY).2 b0 b1 b2 b5 h1
  obtain ⟨P2, Ps, hlen, k2, kl, m2, s2, on2⟩ := Bundle.chainS (args := args) hpl ht r Y hY hr h2
  refine ⟨P, P2 :: Ps, by simp [hlen], hP, fun Q hQ => ?_, hm, ?_, ⟨s2, on2⟩⟩
  · rcases List.mem_cons.mp hQ with e | e
    · subst e; exact k2
    · exact kl Q e
  · show P.sup = P2.m
    exact Option.some.inj (hs.symm.trans m2)
section ET
variable {p : Program} {l : Launch} {e : Env} {R : Room} {s : State} {m₀ : MethodId} {args : Array Value} {below : List Frame} {meth : Method} {c : Code} {W : State} {locs : List Loc} {cells slots : Nat}
set_option maxHeartbeats 2000000 in
/-- the object is made: its constructors have run -/
theorem eMade (G : Stand p l e R s m₀ args below meth c W locs cells slots) (hx : p.tables.exec = Jvm.exec) (htr : e.platform.stackTraces = false) {own cls Y : String} {r : List String} {ic ix : Nat} {bs : ByteArray} (hown : s.vm.findClass own = some m₀.cls) (hX : Bundle.fit cls = true) (hY : Bundle.fit Y = true) (hr : ∀ n ∈ r, Bundle.fit n = true)
    (b0 : decode bs 0 = .ok (.aload_n 0, 1)) (b1 : decode bs 1 = .ok (.aload_n 1, 1)) (b2 : decode bs 2 = .ok (.invokespecial ix, 3)) (b5 : decode bs 5 = .ok (.return_, 1)) (h : ∀ w ∈ eAt own ic cls Y r ix bs, w.before args s = true) (hl : ∀ x ∈ locs, ∀ cell, s.heap[x.base]? = some cell → cell.vm.isStatics = false)
    {a : Addr} {cX : ClassId} {kX : Class} (hf : s.vm.findClass cls = some cX) (hk : s.vm.classes[cX]? = some kX) (hcell : W.heap[a]? = some (freshCell cX kX)) (hnew : s.heap.size ≤ a) {msg : Value} (hmsg : msg.isRef = true) {g : JFrame} (hg : g.method = m₀) (hsz : g.locals.size = c.maxLocals) {rest : List Value} (hst : g.stack = msg :: .ref a :: .ref a :: rest) (hd : decode c.code g.pc = .ok (.invokespecial ic, 3))
    (hR1 : r.length + 4 < R.frames) (hR2 : 2 * g.monitorRoom + ((Value.ref a :: rest).map fun v => v.category).sum + (13 * (r.length + 2) + 42) ≤ R.locals) :
    ∃ (V : State) (ce : Cell) (L : List Loc), Stand p l e R s m₀ args below meth c (V.setCell a ce) (locs ++ L) cells slots ∧ (∀ y ∈ L, y.base = a) ∧ a < V.heap.size ∧ ce.cls = cX ∧ ce.vm = .none ∧ ∀ z, Steps p.tables e below ((V.setCell a ce).setTop { g with stack := .ref a :: rest, pc := g.pc + 3 }) z → Steps p.tables e below (W.setTop g) z := by
  have q1 : e.platform.frameOwnsMonitors = true := by rw [G.admits.platform]
  have q2 : e.platform.finalization = false := by rw [G.admits.platform]
  have q3 : e.platform.magicAccessors = ({} : Platform).magicAccessors := by rw [G.admits.platform]
  have at_ : ∀ w, w ∈ eAt own ic cls Y r ix bs → w.holds args s none s [] = true := fun w hw => h w hw
  obtain ⟨T, Z0, LT, -, ty⟩ := ThrowableC.of_atoms (args := args) q1 q2 q3 (fun w hw => h w (by simp [eAt, hw]))
  obtain ⟨Z, M, LZ, LM, hZ⟩ := Init0T.ofS_atoms (args := args) q3 LT ty (fun w hw => h w (by simp [eAt, hw]))
  obtain ⟨P, Ps, hlen, hP, hPs, hPm, on1, on2⟩ := eChain (args := args) q3 hZ hX hY hr b0 b1 b2 b5 (fun w hw => h w (by simp only [eAt, List.mem_append]; exact Or.inl (Or.inl (Or.inr hw)))) (fun w hw => h w (by simp only [eAt, List.mem_append]; exact Or.inl (Or.inr hw)))
  have hPc : s.vm.findClass cls = some P.m.cls := findClass_of_methodNamed hPm
  cases Option.some.inj (hf.symm.trans hPc)
  obtain ⟨c1, k1, hc1, hk1, hord, -, -, hn6⟩ := Cond.instantiable_spec (at_ (.instantiable cls 6) (by simp [eAt]))
  cases Option.some.inj (hc1.symm.trans hPc)
  cases Option.some.inj (hk.symm.trans hk1)
  have z0 : selectMethod e.platform s.vm P.m.cls T.fill0 = .method T.fill0 := by
    obtain ⟨_, _, _, w1, w2, w3, w4, -⟩ := Cond.selects_spec (at_ (.selects cls Bundle.tFill0 Bundle.tFill0) (by simp [eAt]))
    cases Option.some.inj (w1.symm.trans hPc)
    cases Option.some.inj (w2.symm.trans (State.methodFound?_of_named ty.fill0 (by decide)))
    cases Option.some.inj (w3.symm.trans ty.fill0)
    rw [Launch.admits_selectMethod G.admits]; exact w4
  have z1 : selectMethod e.platform s.vm P.m.cls T.fill = .method T.fill := by
    obtain ⟨_, _, _, w1, w2, w3, w4, -⟩ := Cond.selects_spec (at_ (.selects cls Bundle.tFill Bundle.tFill) (by simp [eAt]))
    cases Option.some.inj (w1.symm.trans hPc)
    cases Option.some.inj (w2.symm.trans (State.methodFound?_of_named ty.fill (by decide)))
    cases Option.some.inj (w3.symm.trans ty.fill)
    rw [Launch.admits_selectMethod G.admits]; exact w4
  obtain ⟨sc, hsc, hss⟩ := ty.statics
  obtain ⟨u0, hu0⟩ := Cond.staticRefV ty.unassigned LT.unassignedStatic LT.statics hsc hss (at_ (.isRef (.static Bundle.tN "UNASSIGNED_STACK" Bundle.steD)) (by simp [eAt]))
  obtain ⟨sen, hsen⟩ := Cond.staticRefV ty.sentinel LT.sentinelStatic LT.statics hsc hss (at_ (.isRef (.static Bundle.tN "SUPPRESSED_SENTINEL" Bundle.listD)) (by simp [eAt]))
  obtain ⟨f1, f2, fB, f3, f4, f5, f6, -, f7, f8, f9⟩ := Cond.ownField (t := .object "java/lang/Object") ty.found LT.cls (by decide +kernel) (at_ (.fieldLink Bundle.tN 198 Bundle.tN "backtrace" "Ljava/lang/Object;") (by simp [eAt])) (at_ (.lays Bundle.tN Bundle.tN "backtrace" "Ljava/lang/Object;") (by simp [eAt])) e.platform q3
  obtain ⟨sc2, hsc2, es2, -, kept⟩ := G.same.2.2.2.2.2 T.aS sc hsc
  have nl : ∀ i, (⟨T.aS, i⟩ : Loc) ∉ locs := fun i hm => by
    have := hl _ hm sc hsc
    rw [hss] at this
    cases this
  have nu : sc2.vm ≠ .unknown := by
    rw [es2]
    intro hu
    rw [show sc.vm = .unknown from hu] at hss
    cases hss
  have na : T.aS ≠ a := Nat.ne_of_lt (Nat.lt_of_lt_of_le (Array.getElem?_eq_some_iff.mp hsc).1 hnew)
  obtain ⟨iM, hM⟩ := ty.msg
  obtain ⟨tC, dC, pC, nC⟩ := Cond.laysAt hPc hk1 ty.cause (at_ (.lays cls Bundle.tN "cause" "Ljava/lang/Throwable;") (by simp [eAt]))
  obtain ⟨tS, dS, pS, nS⟩ := Cond.laysAt hPc hk1 ty.stack (at_ (.lays cls Bundle.tN "stackTrace" Bundle.steD) (by simp [eAt]))
  obtain ⟨tP, dP, pP, nP⟩ := Cond.laysAt hPc hk1 ty.supp (at_ (.lays cls Bundle.tN "suppressedExceptions" Bundle.listD) (by simp [eAt]))
  obtain ⟨tM, dM, pM, nM⟩ := Cond.laysAt hPc hk1 hM (at_ (.lays cls Bundle.tN "detailMessage" "Ljava/lang/String;") (by simp [eAt]))
  obtain ⟨tB, dB, pB, nB⟩ := Cond.laysAt hPc hk1 f9 (at_ (.lays cls Bundle.tN "backtrace" "Ljava/lang/Object;") (by simp [eAt]))
  have a1 := Cond.laysApart pB pC nB nC (by rw [f7, ty.causeName]; decide)
  have a2 := Cond.laysApart pB pS nB nS (by rw [f7, ty.stackName]; decide)
  have a3 := Cond.laysApart pB pP nB nP (by rw [f7, ty.suppName]; decide)
  have sk : SkipFacts T e.platform s (fun u => u) u0 ((preparedCellV T.toThrowableT (freshCell P.m.cls kX) a u0 sen).withEntry W.cur) := by
    refine ⟨{ ci198 := f1, i198 := f2, fBack := fB }, ⟨f3, f4, f5, f6⟩, ?_, fun _ _ => rfl⟩
    have := fresh_default (c := P.m.cls) tB
    rw [f8] at this
    simpa [preparedCellV, Cell.setSlot, Cell.withEntry, Array.getElem?_setIfInBounds, a1, a2, a3, a1.symm, a2.symm, a3.symm, defaultValue] using this
  obtain ⟨_, _, _, _, v1, hn1, -, -, -, -, -, -, -, hW1, st1⟩ := Steps.initColdS (tb := p.tables) (e := e) (below := below) (s := s) (U := W) G.here hx G.warmed q3 hown (t := Bundle.initS cls) rfl rfl (Bundle.fit_spec hX).2 (at_ (.methodLink own ic (Bundle.initS cls)) (by simp [eAt])) (h (.instanceMethod (Bundle.initS cls)) (by simp [eAt, Bundle.passSAtoms])) (bytes := bs) (maxL := 2) (h (.code (Bundle.initS cls) bs 2 none) (by simp [eAt, Bundle.passSAtoms])) (f := g) hg (a := a) (msg := msg) (rest := .ref a :: rest) hst hd
  cases Option.some.inj (hn1.symm.trans hPm)
  have G1 := G.noted hW1
  obtain ⟨v2, G2, st2⟩ := G1.ctorMessageOffV hx (g := { g with stack := .ref a :: rest }) hg hsz T LT Z LZ M LM (P :: Ps) (fun Q hQ => by rcases List.mem_cons.mp hQ with e1 | e1; rw [e1]; exact hP; exact hPs Q e1) ⟨on1, on2⟩ (u0 := u0) (sen := sen) (self := a) hmsg (cell := freshCell P.m.cls kX) (cellS := sc2)
    hcell (fun _ => by simp) (by simp) rfl rfl z0 z1 hsc2 na nu (by rw [kept _ (nl _)]; exact hu0) (by rw [kept _ (nl _)]; exact hsen)
    (Takes.of_laid hk1 hord tC (by rw [ty.causeType]; rfl)) (Takes.of_laid hk1 hord tS (by rw [ty.stackType]; exact fits_refV_array _ u0)) (Takes.of_laid hk1 hord tP (by rw [ty.suppType]; exact fits_refV_object _ sen)) (Takes.of_laid hk1 hord tM (by rw [ty.msgType]; exact fits_refV_object _ ⟨msg, hmsg⟩)) ty.objLocals sk htr [] hd
    (by simp only [List.length_cons, hlen]; omega) (by simp only [List.length_cons, hlen]; exact hR2)
  refine ⟨(W.setVm v1).setVm v2, _, _, G2, fun y hy => ?_, (Array.getElem?_eq_some_iff.mp hcell).1, rfl, rfl, fun z hz => st1 _ (fun acts => ?_)⟩
  · simp only [List.mem_cons, List.not_mem_nil, or_false] at hy
    rcases hy with rfl | rfl | rfl | rfl | rfl <;> rfl
  · rw [doInvoke_state]
    exact st2 _ hz
end ET
