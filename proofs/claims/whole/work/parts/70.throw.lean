/-! a throw whose exception's constructor calls its super by a pool index of its own -/
def eAt (own : String) (ic : Nat) (X Y : String) (r : List String) (ix : Nat) (bs : ByteArray) : List Cond :=
  Bundle.throwableAtoms ++ Bundle.throwableSAtoms ++ Bundle.passSAtoms X Y ix bs ++ Bundle.chainSAtoms Y r ++
    [.methodLink own ic (Bundle.initS X), .instantiable X 6, .selects X Bundle.tFill0 Bundle.tFill0, .selects X Bundle.tFill Bundle.tFill, .lays X Bundle.tN "cause" "Ljava/lang/Throwable;", .lays X Bundle.tN "stackTrace" Bundle.steD, .lays X Bundle.tN "suppressedExceptions" Bundle.listD, .lays X Bundle.tN "detailMessage" "Ljava/lang/String;", .isRef (.static Bundle.tN "UNASSIGNED_STACK" Bundle.steD), .isRef (.static Bundle.tN "SUPPRESSED_SENTINEL" Bundle.listD), .fieldLink Bundle.tN 198 Bundle.tN "backtrace" "Ljava/lang/Object;", .lays Bundle.tN Bundle.tN "backtrace" "Ljava/lang/Object;", .lays X Bundle.tN "backtrace" "Ljava/lang/Object;"]
/-- the chain of constructors, its first link by index ix -/
theorem eChain {args : Array Value} {s : State} {pl : Platform} (hpl : pl.magicAccessors = ({} : Platform).magicAccessors) {top : MethodId} (ht : s.methodNamed? (Bundle.initS Bundle.tN) = some top) {X Y : String} {r : List String} {ix : Nat} {bs : ByteArray} (hX : Bundle.fit X = true) (hY : Bundle.fit Y = true) (hr : ∀ n ∈ r, Bundle.fit n = true)
    (b0 : decode bs 0 = .ok (.aload_n 0, 1)) (b1 : decode bs 1 = .ok (.aload_n 1, 1)) (b2 : decode bs 2 = .ok (.invokespecial ix, 3)) (b5 : decode bs 5 = .ok (.return_, 1)) (h1 : ∀ c ∈ Bundle.passSAtoms X Y ix bs, c.before args s = true) (h2 : ∀ c ∈ Bundle.chainSAtoms Y r, c.before args s = true) :
    ∃ (P : PassC) (Ps : List PassC), Ps.length = r.length + 1 ∧ P.LinksS pl s ∧ (∀ Q ∈ Ps, Q.LinksS pl s) ∧ s.methodNamed? (Bundle.initS X) = some P.m ∧ P.sup = firstOf top (Ps.map fun x => x.toPassT) ∧ PassesOn top (Ps.map fun x => x.toPassT) := by
  obtain ⟨P, hP, hm, hs⟩ := PassC.ofS_atoms (args := args) hpl (Bundle.fit_spec hX).1 (Bundle.fit_spec hY).2 b0 b1 b2 b5 h1
  obtain ⟨P2, Ps, hlen, k2, kl, m2, s2, on2⟩ := Bundle.chainS (args := args) hpl ht r Y hY hr h2
  refine ⟨P, P2 :: Ps, by simp [hlen], hP, fun Q hQ => ?_, hm, ?_, ⟨s2, on2⟩⟩
  · rcases List.mem_cons.mp hQ with e | e
    · subst e; exact k2
    · exact kl Q e
  · show P.sup = P2.m
    exact Option.some.inj (hs.symm.trans m2)
