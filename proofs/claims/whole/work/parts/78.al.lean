/-! THE ROWS ONCE MORE, for a walk that may read the script: S tells of the start -/
def AL (S : State → Heap → va_G → Prop) (M : MI) (dep : Nat) (fx : Bool) (Φ : Rs → ah → Prop) (k n pc : Nat) (lv : List (Nat × Value)) (st : List Value) (h : ah) : Prop :=
  ∀ (p : Program) (l : Launch) (e : Env) (R : Room) (s : State) (m : MethodId) (args : Array Value) (below : List Frame) (meth : Method) (c : Code) (H0 : Heap) (D : va_G) (ty : Nat → ClassId) (ad : Nat → Nat) (mc ms : Nat) (H : Heap) (locs : List Loc) (cells slots : Nat) (Qc : Array Value → State → Outcome → State → Prop) (XC : String → State → State → Prop) (ls : Array Slot),
    S s H0 D → AK M dep fx Φ k n h p l R s m args meth c H0 D ty ad mc ms H locs cells slots Qc XC → lv_has ls M.2.2.1 (cvl ad lv) →
    W p l e R s m args below meth c H locs cells slots (vx_MQ below Qc XC args s mc ms (fre H0)) (F0 m pc ls (cvs ad st))
/-- the script: at place 240 -/
def SX (L : Nat) (xs : Nat → Int32) (s : State) (H0 : Heap) (D : va_G) : Prop := va_X (D.1 240) L xs s s.heap ∧ D.1 240 < H0.size
section ALR
variable {S : State → Heap → va_G → Prop} {M M' : MI} {dep dep' : Nat} {fx fx' : Bool} {Φ Φ' : Rs → ah → Prop} {k n k' n' pc na idx b j i N : Nat} {lv : List (Nat × Value)} {st stk as : List Value} {h : ah} {L L' : List (Nat × ae)}
theorem AL.pure {pc' : Nat} {st st' : List Value} (f : ∀ (p : Program) (l : Launch) (e : Env) (R : Room) (s : State) (m : MethodId) (args : Array Value) (below : List Frame) (meth : Method) (c : Code) (H : Heap) (locs : List Loc) (cells slots : Nat) (Q : State → Prop) (ls : Array Slot) (ad : Nat → Nat), p.tables.exec = Jvm.exec → c.code = M.2.1 → lv_has ls M.2.2.1 (cvl ad lv) → W p l e R s m args below meth c H locs cells slots Q (F0 m pc' ls (cvs ad st')) → W p l e R s m args below meth c H locs cells slots Q (F0 m pc ls (cvs ad st)))
    (kk : AL S M dep fx Φ k n pc' lv st' h) : AL S M dep fx Φ k n pc lv st h := by
  intro p l e R s m args below meth c H0 D ty ad mc ms H locs cells slots Qc XC ls hS9 G hl
  exact f p l e R s m args below meth c H locs cells slots _ ls ad G.1.1 G.1.2.1 hl (kk p l e R s m args below meth c H0 D ty ad mc ms H locs cells slots Qc XC ls hS9 G hl)

theorem AL.stor {pc' : Nat} {st st' : List Value} {lv' : List (Nat × Value)} (f : ∀ (p : Program) (l : Launch) (e : Env) (R : Room) (s : State) (m : MethodId) (args : Array Value) (below : List Frame) (meth : Method) (c : Code) (H : Heap) (locs : List Loc) (cells slots : Nat) (Q : State → Prop) (ls : Array Slot) (ad : Nat → Nat), p.tables.exec = Jvm.exec → c.code = M.2.1 → lv_has ls M.2.2.1 (cvl ad lv) → (∀ ls' : Array Slot, lv_has ls' M.2.2.1 (cvl ad lv') → W p l e R s m args below meth c H locs cells slots Q (F0 m pc' ls' (cvs ad st'))) → W p l e R s m args below meth c H locs cells slots Q (F0 m pc ls (cvs ad st)))
    (kk : AL S M dep fx Φ k n pc' lv' st' h) : AL S M dep fx Φ k n pc lv st h := by
  intro p l e R s m args below meth c H0 D ty ad mc ms H locs cells slots Qc XC ls hS9 G hl
  exact f p l e R s m args below meth c H locs cells slots _ ls ad G.1.1 G.1.2.1 hl (fun ls' hl' => kk p l e R s m args below meth c H0 D ty ad mc ms H locs cells slots Qc XC ls' hS9 G hl')

theorem al_iconst {z : Int} {v : Int32} (d : decode M.2.1 pc = .ok (.iconst z, 1)) (hv : Int32.ofInt z = v) (kk : AL S M dep fx Φ k n (pc + 1) lv (.int v :: st) h) : AL S M dep fx Φ k n pc lv (st) h := AL.pure (fun p l e R s m args below meth c H locs cells slots Q ls ad hx hb hl g => lv_iconst hx hb d hv g) kk

theorem al_bipush {z : Int} {v : Int32} (d : decode M.2.1 pc = .ok (.bipush z, 2)) (hv : (Int8.ofInt z).toInt32 = v) (kk : AL S M dep fx Φ k n (pc + 2) lv (.int v :: st) h) : AL S M dep fx Φ k n pc lv (st) h := AL.pure (fun p l e R s m args below meth c H locs cells slots Q ls ad hx hb hl g => lv_bipush hx hb d hv g) kk

theorem al_iload {i : Nat} {x : Int32} (d : decode M.2.1 pc = .ok (.iload i, 2)) (hg : lget lv i = some (.int x)) (kk : AL S M dep fx Φ k n (pc + 2) lv (.int x :: st) h) : AL S M dep fx Φ k n pc lv st h := AL.pure (fun p l e R s m args below meth c H locs cells slots Q ls ad hx hb hl g => lv_iload hx hb d  (lget_has hl hg) g) kk

theorem al_iload_n {j : Fin 4} {x : Int32} (d : decode M.2.1 pc = .ok (.iload_n j, 1)) (hg : lget lv (j : Nat) = some (.int x)) (kk : AL S M dep fx Φ k n (pc + 1) lv (.int x :: st) h) : AL S M dep fx Φ k n pc lv st h := AL.pure (fun p l e R s m args below meth c H locs cells slots Q ls ad hx hb hl g => lv_iload_n hx hb d rfl (lget_has hl hg) g) kk

theorem al_istore {i : Nat} {x : Int32} (d : decode M.2.1 pc = .ok (.istore i, 2)) (hn : i < M.2.2.1) (hs : sok i lv = true) (kk : AL S M dep fx Φ k n (pc + 2) (su i (.int x) lv) st h) : AL S M dep fx Φ k n pc lv (.int x :: st) h := AL.stor (fun p l e R s m args below meth c H locs cells slots Q ls ad hx hb hl g => lv_istore hx hb d  hl hn rfl (fun ls' h' => g ls' (su_has1 (v := .int x) hs h'))) kk

theorem al_istore_n {j : Fin 4} {x : Int32} (d : decode M.2.1 pc = .ok (.istore_n j, 1)) (hn : (j : Nat) < M.2.2.1) (hs : sok (j : Nat) lv = true) (kk : AL S M dep fx Φ k n (pc + 1) (su (j : Nat) (.int x) lv) st h) : AL S M dep fx Φ k n pc lv (.int x :: st) h := AL.stor (fun p l e R s m args below meth c H locs cells slots Q ls ad hx hb hl g => lv_istore_n hx hb d rfl hl hn rfl (fun ls' h' => g ls' (su_has1 (v := .int x) hs h'))) kk

theorem al_aload {i : Nat} {x : Nat} (d : decode M.2.1 pc = .ok (.aload i, 2)) (hg : lget lv i = some (.ref x)) (kk : AL S M dep fx Φ k n (pc + 2) lv (.ref x :: st) h) : AL S M dep fx Φ k n pc lv st h := AL.pure (fun p l e R s m args below meth c H locs cells slots Q ls ad hx hb hl g => lv_aload hx hb d  (lget_has hl hg) g) kk

theorem al_aload_n {j : Fin 4} {x : Nat} (d : decode M.2.1 pc = .ok (.aload_n j, 1)) (hg : lget lv (j : Nat) = some (.ref x)) (kk : AL S M dep fx Φ k n (pc + 1) lv (.ref x :: st) h) : AL S M dep fx Φ k n pc lv st h := AL.pure (fun p l e R s m args below meth c H locs cells slots Q ls ad hx hb hl g => lv_aload_n hx hb d rfl (lget_has hl hg) g) kk

theorem al_astore {i : Nat} {x : Nat} (d : decode M.2.1 pc = .ok (.astore i, 2)) (hn : i < M.2.2.1) (hs : sok i lv = true) (kk : AL S M dep fx Φ k n (pc + 2) (su i (.ref x) lv) st h) : AL S M dep fx Φ k n pc lv (.ref x :: st) h := AL.stor (fun p l e R s m args below meth c H locs cells slots Q ls ad hx hb hl g => lv_astore hx hb d  hl hn rfl (fun ls' h' => g ls' (su_has1 (v := .ref x) hs h'))) kk

theorem al_astore_n {j : Fin 4} {x : Nat} (d : decode M.2.1 pc = .ok (.astore_n j, 1)) (hn : (j : Nat) < M.2.2.1) (hs : sok (j : Nat) lv = true) (kk : AL S M dep fx Φ k n (pc + 1) (su (j : Nat) (.ref x) lv) st h) : AL S M dep fx Φ k n pc lv (.ref x :: st) h := AL.stor (fun p l e R s m args below meth c H locs cells slots Q ls ad hx hb hl g => lv_astore_n hx hb d rfl hl hn rfl (fun ls' h' => g ls' (su_has1 (v := .ref x) hs h'))) kk

theorem al_iadd {x y : Int32} (d : decode M.2.1 pc = .ok (.iadd, 1))  (kk : AL S M dep fx Φ k n (pc + 1) lv (.int (x + y) :: st) h) : AL S M dep fx Φ k n pc lv (.int y :: .int x :: st) h := AL.pure (fun p l e R s m args below meth c H locs cells slots Q ls ad hx hb hl g => lv_iadd hx hb d  g) kk

theorem al_isub {x y : Int32} (d : decode M.2.1 pc = .ok (.isub, 1))  (kk : AL S M dep fx Φ k n (pc + 1) lv (.int (x - y) :: st) h) : AL S M dep fx Φ k n pc lv (.int y :: .int x :: st) h := AL.pure (fun p l e R s m args below meth c H locs cells slots Q ls ad hx hb hl g => lv_isub hx hb d  g) kk

theorem al_iand {x y : Int32} (d : decode M.2.1 pc = .ok (.iand, 1))  (kk : AL S M dep fx Φ k n (pc + 1) lv (.int (x &&& y) :: st) h) : AL S M dep fx Φ k n pc lv (.int y :: .int x :: st) h := AL.pure (fun p l e R s m args below meth c H locs cells slots Q ls ad hx hb hl g => lv_iand hx hb d  g) kk

theorem al_i2l {x : Int32} (d : decode M.2.1 pc = .ok (.i2l, 1))  (kk : AL S M dep fx Φ k n (pc + 1) lv (.long x.toInt64 :: st) h) : AL S M dep fx Φ k n pc lv (.int x :: st) h := AL.pure (fun p l e R s m args below meth c H locs cells slots Q ls ad hx hb hl g => lv_i2l hx hb d rfl g) kk

theorem al_i2c {x : Int32} (d : decode M.2.1 pc = .ok (.i2c, 1))  (kk : AL S M dep fx Φ k n (pc + 1) lv (.int (x.toUInt32 % 65536).toInt32 :: st) h) : AL S M dep fx Φ k n pc lv (.int x :: st) h := AL.pure (fun p l e R s m args below meth c H locs cells slots Q ls ad hx hb hl g => lv_i2c hx hb d rfl g) kk

theorem al_lcmp {x y : Int64} (d : decode M.2.1 pc = .ok (.lcmp, 1))  (kk : AL S M dep fx Φ k n (pc + 1) lv (.int (lg_cmp x y) :: st) h) : AL S M dep fx Φ k n pc lv (.long y :: .long x :: st) h := AL.pure (fun p l e R s m args below meth c H locs cells slots Q ls ad hx hb hl g => W.lcmp hx hb d  g) kk

theorem al_fcmp {x y : UInt32} {op : CmpOp} (d : decode M.2.1 pc = .ok (.fcmp op, 1))  (kk : AL S M dep fx Φ k n (pc + 1) lv (.int (Op.cmpValue (FP.fcmp x y) op) :: st) h) : AL S M dep fx Φ k n pc lv (.float y :: .float x :: st) h := AL.pure (fun p l e R s m args below meth c H locs cells slots Q ls ad hx hb hl g => lv_fcmp hx hb d  g) kk

theorem al_dcmp {x y : UInt64} {op : CmpOp} (d : decode M.2.1 pc = .ok (.dcmp op, 1))  (kk : AL S M dep fx Φ k n (pc + 1) lv (.int (Op.cmpValue (FP.dcmp x y) op) :: st) h) : AL S M dep fx Φ k n pc lv (.double y :: .double x :: st) h := AL.pure (fun p l e R s m args below meth c H locs cells slots Q ls ad hx hb hl g => lv_dcmp hx hb d  g) kk

theorem al_goto {off : Int} {tgt : Nat} (d : decode M.2.1 pc = .ok (.goto off, 3)) (ht : (pc : Int) + off = (tgt : Int)) (kk : AL S M dep fx Φ k n tgt lv st h) : AL S M dep fx Φ k n pc lv st h := AL.pure (fun p l e R s m args below meth c H locs cells slots Q ls ad hx hb hl g => lv_goto hx hb d ht g) kk

theorem al_tabIn {dflt lo hi : Int} {offs : Array Int} {len : Nat} {x : Int32} {off : Int} {tgt : Nat} (d : decode M.2.1 pc = .ok (.tableswitch dflt lo hi offs, len)) (h1 : ¬ x.toInt < lo) (h2 : ¬ hi < x.toInt) (ho : offs[(x.toInt - lo).toNat]? = some off) (ht : (pc : Int) + off = (tgt : Int)) (kk : AL S M dep fx Φ k n tgt lv st h) : AL S M dep fx Φ k n pc lv (.int x :: st) h := AL.pure (fun p l e R s m args below meth c H locs cells slots Q ls ad hx hb hl g => lv_tableIn hx hb d h1 h2 ho ht g) kk

theorem al_tabOut {dflt lo hi : Int} {offs : Array Int} {len : Nat} {x : Int32} {tgt : Nat} (d : decode M.2.1 pc = .ok (.tableswitch dflt lo hi offs, len)) (h1 : x.toInt < lo ∨ hi < x.toInt) (ht : (pc : Int) + dflt = (tgt : Int)) (kk : AL S M dep fx Φ k n tgt lv st h) : AL S M dep fx Φ k n pc lv (.int x :: st) h := AL.pure (fun p l e R s m args below meth c H locs cells slots Q ls ad hx hb hl g => lv_tableOut hx hb d h1 ht g) kk

theorem al_if_eq {x : Int32} {off : Int} (tgt : Nat) (d : decode M.2.1 pc = .ok (.ifCond .eq off, 3)) (ht : (pc : Int) + off = (tgt : Int)) (kt : x = 0 → AL S M dep fx Φ k n tgt lv st h) (kf : ¬ x = 0 → AL S M dep fx Φ k n (pc + 3) lv st h) : AL S M dep fx Φ k n pc lv (.int x :: st) h := by
  intro p l e R s m args below meth c H0 D ty ad mc ms H locs cells slots Qc XC ls hS9 G hl
  exact lv_if_eq G.1.1 G.1.2.1 d ht (fun q => kt q p l e R s m args below meth c H0 D ty ad mc ms H locs cells slots Qc XC ls hS9 G hl) (fun q => kf q p l e R s m args below meth c H0 D ty ad mc ms H locs cells slots Qc XC ls hS9 G hl)

theorem al_if_ne {x : Int32} {off : Int} (tgt : Nat) (d : decode M.2.1 pc = .ok (.ifCond .ne off, 3)) (ht : (pc : Int) + off = (tgt : Int)) (kt : ¬ x = 0 → AL S M dep fx Φ k n tgt lv st h) (kf : x = 0 → AL S M dep fx Φ k n (pc + 3) lv st h) : AL S M dep fx Φ k n pc lv (.int x :: st) h := by
  intro p l e R s m args below meth c H0 D ty ad mc ms H locs cells slots Qc XC ls hS9 G hl
  exact lv_if_ne G.1.1 G.1.2.1 d ht (fun q => kt q p l e R s m args below meth c H0 D ty ad mc ms H locs cells slots Qc XC ls hS9 G hl) (fun q => kf q p l e R s m args below meth c H0 D ty ad mc ms H locs cells slots Qc XC ls hS9 G hl)

theorem al_icmp_eq {x y : Int32} {off : Int} (tgt : Nat) (d : decode M.2.1 pc = .ok (.if_icmp .eq off, 3)) (ht : (pc : Int) + off = (tgt : Int)) (kt : x = y → AL S M dep fx Φ k n tgt lv st h) (kf : ¬ x = y → AL S M dep fx Φ k n (pc + 3) lv st h) : AL S M dep fx Φ k n pc lv (.int y :: .int x :: st) h := by
  intro p l e R s m args below meth c H0 D ty ad mc ms H locs cells slots Qc XC ls hS9 G hl
  exact lv_icmp_eq G.1.1 G.1.2.1 d ht (fun q => kt q p l e R s m args below meth c H0 D ty ad mc ms H locs cells slots Qc XC ls hS9 G hl) (fun q => kf q p l e R s m args below meth c H0 D ty ad mc ms H locs cells slots Qc XC ls hS9 G hl)

theorem al_icmp_ne {x y : Int32} {off : Int} (tgt : Nat) (d : decode M.2.1 pc = .ok (.if_icmp .ne off, 3)) (ht : (pc : Int) + off = (tgt : Int)) (kt : ¬ x = y → AL S M dep fx Φ k n tgt lv st h) (kf : x = y → AL S M dep fx Φ k n (pc + 3) lv st h) : AL S M dep fx Φ k n pc lv (.int y :: .int x :: st) h := by
  intro p l e R s m args below meth c H0 D ty ad mc ms H locs cells slots Qc XC ls hS9 G hl
  exact lv_icmp_ne G.1.1 G.1.2.1 d ht (fun q => kt q p l e R s m args below meth c H0 D ty ad mc ms H locs cells slots Qc XC ls hS9 G hl) (fun q => kf q p l e R s m args below meth c H0 D ty ad mc ms H locs cells slots Qc XC ls hS9 G hl)

theorem al_icmp_gt {x y : Int32} {off : Int} (tgt : Nat) (d : decode M.2.1 pc = .ok (.if_icmp .gt off, 3)) (ht : (pc : Int) + off = (tgt : Int)) (kt : y < x → AL S M dep fx Φ k n tgt lv st h) (kf : ¬ y < x → AL S M dep fx Φ k n (pc + 3) lv st h) : AL S M dep fx Φ k n pc lv (.int y :: .int x :: st) h := by
  intro p l e R s m args below meth c H0 D ty ad mc ms H locs cells slots Qc XC ls hS9 G hl
  exact lv_icmp_gt G.1.1 G.1.2.1 d ht (fun q => kt q p l e R s m args below meth c H0 D ty ad mc ms H locs cells slots Qc XC ls hS9 G hl) (fun q => kf q p l e R s m args below meth c H0 D ty ad mc ms H locs cells slots Qc XC ls hS9 G hl)

theorem al_iinc {i : Nat} {z : Int} {x v : Int32} (d : decode M.2.1 pc = .ok (.iinc i z, 3)) (hg : lget lv i = some (.int x)) (hv : x + Int32.ofInt z = v) (hn : i < M.2.2.1) (hs : sok i lv = true) (kk : AL S M dep fx Φ k n (pc + 3) (su i (.int v) lv) st h) : AL S M dep fx Φ k n pc lv st h := AL.stor (fun p l e R s m args below meth c H locs cells slots Q ls ad hx hb hl g => by
  obtain ⟨j, hj⟩ : ∃ j : Nat, (cvl ad lv)[j]? = some (i, .int x) := List.mem_iff_getElem?.mp (List.mem_map.mpr ⟨(i, .int x), lget_mem hg, rfl⟩)
  exact lv_iinc hx hb d hl hj hv hn rfl (fun ls' h' => g ls' (su_has1 (v := .int v) hs h'))) kk

theorem al_fload {i : Nat} {x : UInt32} (d : decode M.2.1 pc = .ok (.fload i, 2)) (hg : lget lv i = some (.float x)) (kk : AL S M dep fx Φ k n (pc + 2) lv (.float x :: st) h) : AL S M dep fx Φ k n pc lv st h := AL.pure (fun p l e R s m args below meth c H locs cells slots Q ls ad hx hb hl g => lv_fload hx hb d  (lget_has hl hg) g) kk

theorem al_fstore {i : Nat} {x : UInt32} (d : decode M.2.1 pc = .ok (.fstore i, 2)) (hn : i < M.2.2.1) (hs : sok i lv = true) (kk : AL S M dep fx Φ k n (pc + 2) (su i (.float x) lv) st h) : AL S M dep fx Φ k n pc lv (.float x :: st) h := AL.stor (fun p l e R s m args below meth c H locs cells slots Q ls ad hx hb hl g => lv_fstore hx hb d  hl hn rfl (fun ls' h' => g ls' (su_has1 (v := .float x) hs h'))) kk

theorem al_lload {i : Nat} {x : Int64} (d : decode M.2.1 pc = .ok (.lload i, 2)) (hg : lget lv i = some (.long x)) (kk : AL S M dep fx Φ k n (pc + 2) lv (.long x :: st) h) : AL S M dep fx Φ k n pc lv st h := AL.pure (fun p l e R s m args below meth c H locs cells slots Q ls ad hx hb hl g => lv_lload hx hb d  (lget_has hl hg) g) kk

theorem al_lstore {i : Nat} {x : Int64} (d : decode M.2.1 pc = .ok (.lstore i, 2)) (hn : i + 1 < M.2.2.1) (hs : sok i lv = true) (hs2 : sok2 i lv = true) (kk : AL S M dep fx Φ k n (pc + 2) (su i (.long x) lv) st h) : AL S M dep fx Φ k n pc lv (.long x :: st) h := AL.stor (fun p l e R s m args below meth c H locs cells slots Q ls ad hx hb hl g => lv_lstore hx hb d  hl hn rfl (fun ls' h' => g ls' (su_has2 (v := .long x) hs hs2 h'))) kk

theorem al_dup {v : Value} (d : decode M.2.1 pc = .ok (.dup, 1)) (hc : v.category = 1) (kk : AL S M dep fx Φ k n (pc + 1) lv (v :: v :: st) h) : AL S M dep fx Φ k n pc lv (v :: st) h := AL.pure (fun p l e R s m args below meth c H locs cells slots Q ls ad hx hb hl g => lv_dup hx hb d (by rw [cv_cat]; exact hc) g) kk

theorem al_f2d {x : UInt32} (d : decode M.2.1 pc = .ok (.f2d, 1)) (hne : vf_n64 (FP.f2d x)) (kk : AL S M dep fx Φ k n (pc + 1) lv (.double (FP.f2d x) :: st) h) : AL S M dep fx Φ k n pc lv (.float x :: st) h := AL.pure (fun p l e R s m args below meth c H locs cells slots Q ls ad hx hb hl g => lv_f2d hx hb d hne g) kk

theorem al_lald {i t N : Nat} {f : Nat → Int64} {x : Int32} (d : decode M.2.1 pc = .ok (.laload, 1)) (hh : h i = some (.inl (t, N, .inr (.inl f)))) (ht : ktl[t]? = some .long) (hin : vp_in x N)
    (kk : AL S M dep fx Φ k n (pc + 1) lv (.long (f x.toNatClampNeg) :: st) h) : AL S M dep fx Φ k n pc lv (.int x :: .ref i :: st) h := by
  intro p l e R s m args below meth c H0 D ty ad mc ms H locs cells slots Qc XC ls hS9 G hl
  obtain ⟨⟨hx, hb, a3, a4, a5, a6, a7, hown, hK, hC, a11⟩, g2, g3, hR, g5⟩ := id G
  exact va_lald hx hb hK (va_P1 (hR.1 i _ hh).1) 0 t rfl (ktys_get ht) hin d (kk p l e R s m args below meth c H0 D ty ad mc ms H locs cells slots Qc XC ls hS9 G hl)

theorem al_dald {i t N : Nat} {f : Nat → UInt64} {x : Int32} (d : decode M.2.1 pc = .ok (.daload, 1)) (hh : h i = some (.inl (t, N, .inr (.inr (.inr (.inl f)))))) (ht : ktl[t]? = some .double) (hin : vp_in x N)
    (kk : AL S M dep fx Φ k n (pc + 1) lv (.double (f x.toNatClampNeg) :: st) h) : AL S M dep fx Φ k n pc lv (.int x :: .ref i :: st) h := by
  intro p l e R s m args below meth c H0 D ty ad mc ms H locs cells slots Qc XC ls hS9 G hl
  obtain ⟨⟨hx, hb, a3, a4, a5, a6, a7, hown, hK, hC, a11⟩, g2, g3, hR, g5⟩ := id G
  exact va_dald hx hb hK (va_P1 (hR.1 i _ hh).1) 0 t rfl (ktys_get ht) hin d (kk p l e R s m args below meth c H0 D ty ad mc ms H locs cells slots Qc XC ls hS9 G hl)

theorem al_nret {x : Int32} {ty0 : FieldType} (d : decode M.2.1 pc = .ok (.ireturn, 1)) (hr : M.2.2.2.1 = some ty0) (hx : narrow ty0 (.int x) = .int x) (hp : Φ (.inl (some (.int x))) h) : AL S M dep fx Φ k n pc lv [.int x] h := by
  intro p l e R s m args below meth c H0 D ty ad mc ms H locs cells slots Qc XC ls hS9 G hl
  obtain ⟨⟨hx', hb, a3, a4, hr', hlo, a11⟩, g2, g3, hR, hS, hQ, hX⟩ := G
  refine W.widen (k := mc) (n := ms) (by omega) (by omega) (vx_ret ?_)
  exact W.zret hx' hb (hr'.trans hr) hx (fun t ht hW => hQ (some (.int x)) h ad t (fun _ => rfl) (fun _ _ _ => rfl) hp (by rw [ht]; exact hR) (by rw [ht]; exact hS.1) hW.alike) hS.2.2 d hlo

theorem al_callV {b ci N : Nat} {C : String} {T : u_T} {fs : List Value} (d : decode M.2.1 pc = .ok (.invokevirtual idx, 3)) (ht0 : M.2.2.2.2 = []) (hl0 : Cond.methodLink M.1.cls idx M'.1 ∈ lw_tbl) (ho : MO M' na) (hv : MV M') (hA : AC M' dep' fx' Φ' k' n' (.ref b :: as) h) (hst : stk = as.reverse ++ .ref b :: st) (hh : h b = some (.inr (ci, fs))) (hc : kcl[ci]? = some (C, T, N)) (hcl : M'.1.cls = C) (hna : as.length = na) (hlen : (lg_sl (.ref b :: as)).length ≤ M'.2.2.1) (hd : dep' + 1 ≤ dep) (hcat : (st.map fun v => v.category).sum ≤ 8) (hk : k' ≤ k) (hn : n' ≤ n) (hfx : fx = true → fx' = true) (hdom : ∀ v h', Φ' v h' → ∀ i x, h i = some x → ∃ y, h' i = some y) (hok : fx' = true ∨ (okv h st ∧ okv h (lv.map (fun q => q.2))))
    (kk : ∀ v h', Φ' (.inl v) h' → AL S M dep fx Φ (k - k') (n - n') (pc + 3) lv (v.toList ++ st) h') (kx : ∀ E h', Φ' (.inr E) h' → Φ (.inr E) h') : AL S M dep fx Φ k n pc lv stk h := by
  subst hst
  intro p l e R s m args below meth c H0 D ty ad mc ms H locs cells slots Qc XC ls hS9 G hl
  obtain ⟨⟨hx, hb, htr, hml, hr, hlo, hnm, hown, hK, hC, b1, b2, b3, b4, b5, htb⟩, g2, g3, hR, hS, hQX⟩ := id G
  have hM := hA.met ho.2.2.2.1 ho.2.2.1 hlen l htr H0 D ty ad
  have hcb := callB_mk (args := args) (k := k') (n := n') G.1 ho hl0 hd
  obtain ⟨r0, hr1, cell, q1, q2, q3, q4⟩ := (hR.1 b _ hh).1
  have hcls := (hK.1 ci _ hc).2.1
  have run := vx_runV (e := e) (meth := meth) (below := below) (R := R) (As := as.map (cv ad)) (rest := cvs ad st) (g := F0 m pc ls (cvs ad (as.reverse ++ .ref b :: st))) (Ts := []) (C := C) (locs := locs) (cells := cells) (slots := slots) (b := ad b) ⟨hx, hb, hml, hown, fun _ hq => nomatch hq⟩ hM ⟨hcb, hC.word hv.1 rfl args, by rw [← hcl]; exact hC.word hv.2 rfl args⟩ ⟨Pm.blind, ⟨cell, q1, by rw [q3]; rfl, by rw [q2]; exact hcls⟩, fun U hU hW => ⟨rfl, hC.warm hW, va_K.moved hW.alike hK, by rw [hU]; exact hR⟩⟩ rfl (by simpa using hna) hl.1 (by simp [cvs, cv]) (lv_room (by rw [cvs_cat]; exact hcat)) d ⟨by omega, by omega⟩
  intro T hT X
  rcases run T hT X with ⟨v0, st₀, t, T', L, h0, X', hL, e1, e2, ⟨v, h', ad', c1, c2, c3, c4, c5, c6⟩, st1⟩ | ⟨q, st₀, t, T', L, E, ce0, h0, X', hL, e1, e2, ⟨h', ad', c1, c2, c4, c5, c6⟩, hce, hcv, hcl9, st1⟩
  · cases c3
    have e3 : cvs ad' st = cvs ad st := hok.elim (fun z => by rw [c1 z]) (fun z => cvs_agr z.1 (fun k hk => by rw [c5.2.2.2.2 k hk, hR.2.2.2.2 k hk]) c2)
    have e4 : cvl ad' lv = cvl ad lv := hok.elim (fun z => by rw [c1 z]) (fun z => cvl_agr z.2 (fun k hk => by rw [c5.2.2.2.2 k hk, hR.2.2.2.2 k hk]) c2)
    obtain ⟨t2, a1, b1'⟩ := kk v h' c4 p l e R s m args below meth c H0 D ty ad' mc ms T'.heap (locs ++ L) (cells + k') (slots + n') Qc XC ls hS9 (G.back h0 e1 (fun z => c1 (hfx z)) c2 c5 c6 hL (hdom _ _ c4) hk hn) (by rw [e4]; exact hl) T' rfl X'
    refine ⟨t2, st1 t2 ?_, b1'⟩
    have e5 : cvs ad' (v.toList ++ st) = (v.map (cv ad')).toList ++ cvs ad st := by
      rw [← e3]
      cases v <;> rfl
    rw [e5] at a1
    exact a1
  · have hout : ∀ x ∈ c.exceptionTable.toList, covers x pc = false := by
      rw [htb, ht0]
      intro x hx'
      cases hx'
    have K := G.back (L := L) (c1 := k') (s1 := n') h0 e1 (fun z => c1 (hfx z)) c2 c5 c6 hL (hdom _ _ c4) hk hn
    have hh9 := vx_out (p := p) (l := l) (e := e) (R := R) (args := args) (below := below) (locs := locs ++ L) (cells := cells + k') (slots := slots + n') (Qc := Qc) (XC := XC) (free := fre H0) (ls := ls) (rest := cvs ad st) (mc := mc) (ms := ms) (pc := pc) hout hlo (H := T'.heap) (by rw [e1]; exact hce) hcv hcl9 (fun t9 ht9 hA9 => K.2.2.2.2.2.2 E h' ad' t9 (fun _ => rfl) (fun _ _ _ => rfl) (kx E h' c4) (by rw [ht9]; exact K.2.2.2.1) (by rw [ht9]; exact K.2.2.2.2.1.1) hA9) K.2.2.2.2.1.2.2 (by have := K.2.1; omega) (by have := K.2.2.1; omega) T' rfl X'
    obtain ⟨t2, a1, b1'⟩ := hh9
    exact ⟨t2, st1.trans a1, b1'⟩

theorem al_run_back {p : Program} {l : Launch} {e : Env} {R : Room} {s : State} {m : MethodId} {args : Array Value} {below : List Frame} {meth : Method} {c : Code} {H0 : Heap} {D : va_G} {ty : Nat → ClassId} {ad : Nat → Nat} {mc ms : Nat} {H : Heap} {locs : List Loc} {cells slots : Nat} {Qc : Array Value → State → Outcome → State → Prop} {XC : String → State → State → Prop} {ls : Array Slot} {stk' : List Value} {a : Array Value}
    (hS9 : S s H0 D) (G : AK M dep fx Φ k n h p l R s m args meth c H0 D ty ad mc ms H locs cells slots Qc XC) (hl : lv_has ls M.2.2.1 (cvl ad lv)) (run : va_Run p l e R s m args below meth c H locs cells slots k' n' (F0 m pc ls stk') (cvs ad st) (Qm fx' Φ' H0 D ty ad h a) (fre H0)) (hk : k' ≤ k) (hn : n' ≤ n) (hfx : fx = true → fx' = true) (hdom : ∀ v h', Φ' v h' → ∀ i x, h i = some x → ∃ y, h' i = some y) (hok : fx' = true ∨ (okv h st ∧ okv h (lv.map (fun q => q.2))))
    (kk : ∀ v h', Φ' (.inl v) h' → AL S M dep fx Φ (k - k') (n - n') (pc + 3) lv (v.toList ++ st) h') :
    W p l e R s m args below meth c H locs cells slots (vx_MQ below Qc XC args s mc ms (fre H0)) (F0 m pc ls stk') := by
  intro T hT X
  obtain ⟨v0, st₀, t, T', L, h0, X', hL, e1, e2, ⟨v, h', ad', c1, c2, c3, c4, c5, c6⟩, st1⟩ := run T hT X
  cases c3
  have e3 : cvs ad' st = cvs ad st := hok.elim (fun z => by rw [c1 z]) (fun z => cvs_agr z.1 (fun k hk => by rw [c5.2.2.2.2 k hk, G.2.2.2.1.2.2.2.2 k hk]) c2)
  have e4 : cvl ad' lv = cvl ad lv := hok.elim (fun z => by rw [c1 z]) (fun z => cvl_agr z.2 (fun k hk => by rw [c5.2.2.2.2 k hk, G.2.2.2.1.2.2.2.2 k hk]) c2)
  obtain ⟨t2, a1, b1'⟩ := kk v h' c4 p l e R s m args below meth c H0 D ty ad' mc ms T'.heap (locs ++ L) (cells + k') (slots + n') Qc XC ls hS9 (G.back h0 e1 (fun z => c1 (hfx z)) c2 c5 c6 hL (hdom _ _ c4) hk hn) (by rw [e4]; exact hl) T' rfl X'
  refine ⟨t2, st1 t2 ?_, b1'⟩
  have e5 : cvs ad' (v.toList ++ st) = (v.map (cv ad')).toList ++ cvs ad st := by
    rw [← e3]
    cases v <;> rfl
  rw [e5] at a1
  exact a1

theorem al_callI {b : Nat} (d : decode M.2.1 pc = .ok (.invokespecial idx, 3)) (hl0 : Cond.methodLink M.1.cls idx M'.1 ∈ lw_tbl) (ho : MO M' na) (hv : Cond.instanceMethod M'.1 ∈ lw_tbl) (hi : M'.1.name = "<init>") (hr0 : M'.2.2.2.1 = none) (hA : AC M' dep' fx' Φ' k' n' (.ref b :: as) h) (hst : stk = as.reverse ++ .ref b :: st) (hno : ∀ E h', ¬ Φ' (.inr E) h') (hna : as.length = na) (hlen : (lg_sl (.ref b :: as)).length ≤ M'.2.2.1) (hd : dep' + 1 ≤ dep) (hcat : (st.map fun v => v.category).sum ≤ 8) (hk : k' ≤ k) (hn : n' ≤ n) (hfx : fx = true → fx' = true) (hdom : ∀ v h', Φ' v h' → ∀ i x, h i = some x → ∃ y, h' i = some y) (hok : fx' = true ∨ (okv h st ∧ okv h (lv.map (fun q => q.2))))
    (kk : ∀ v h', Φ' (.inl v) h' → AL S M dep fx Φ (k - k') (n - n') (pc + 3) lv (v.toList ++ st) h') : AL S M dep fx Φ k n pc lv stk h := by
  subst hst
  intro p l e R s m args below meth c H0 D ty ad mc ms H locs cells slots Qc XC ls hS9 G hl
  obtain ⟨⟨hx, hb, htr, hml, hr, hlo, hnm, hown, hK, hC, b1, b2, b3, b4, b5, htb⟩, g2, g3, hR, hS, hQX⟩ := id G
  have hM := hA.met0 hno ho.2.2.2.1 ho.2.2.1 hlen l htr H0 D ty ad
  have hcn := callB_mk (args := args) (k := k') (n := n') G.1 ho hl0 hd
  rw [hr0] at hM hcn
  exact al_run_back hS9 G hl (va_runI (e := e) (meth := meth) (below := below) (R := R) (As := as.map (cv ad)) (b := ad b) (rest := cvs ad st) (g := F0 m pc ls (cvs ad (as.reverse ++ .ref b :: st))) (Ts := []) (locs := locs) (cells := cells) (slots := slots) ⟨hx, hb, hml, hown, fun _ hq => nomatch hq⟩ hM ⟨hcn, hi, hC.word hv rfl args⟩ ⟨Pm.blind, fun U hU hW => ⟨rfl, hC.warm hW, va_K.moved hW.alike hK, by rw [hU]; exact hR⟩⟩ rfl (by simpa using hna) hl.1 (by simp [cvs, cv]) (lv_room (by rw [cvs_cat]; exact hcat)) d ⟨by omega, by omega⟩) hk hn hfx hdom hok kk

theorem al_callSH (d : decode M.2.1 pc = .ok (.invokestatic idx, 3)) (hl0 : Cond.methodLink M.1.cls idx M'.1 ∈ lw_tbl) (ho : MOH M' na) (hv : MS M') (hA : AC M' dep' fx' Φ' k' n' as h) (hst : stk = as.reverse ++ st) (hno : ∀ E h', ¬ Φ' (.inr E) h') (hna : as.length = na) (hlen : (lg_sl as).length ≤ M'.2.2.1) (hd : dep' + 1 ≤ dep) (hcat : (st.map fun v => v.category).sum ≤ 8) (hk : k' ≤ k) (hn : n' ≤ n) (hfx : fx = true → fx' = true) (hdom : ∀ v h', Φ' v h' → ∀ i x, h i = some x → ∃ y, h' i = some y) (hok : fx' = true ∨ (okv h st ∧ okv h (lv.map (fun q => q.2))))
    (kk : ∀ v h', Φ' (.inl v) h' → AL S M dep fx Φ (k - k') (n - n') (pc + 3) lv (v.toList ++ st) h') : AL S M dep fx Φ k n pc lv stk h := by
  subst hst
  intro p l e R s m args below meth c H0 D ty ad mc ms H locs cells slots Qc XC ls hS9 G hl
  obtain ⟨⟨hx, hb, htr, hml, hr, hlo, hnm, hown, hK, hC, b1, b2, b3, b4, b5, htb⟩, g2, g3, hR, hS, hQX⟩ := id G
  have hM := hA.metH hno ho.2.2.1 hlen l htr H0 D ty ad
  have hlo2 := ho.2.2.2.2.2
  have hcw : vx_CSW R s args M.1.cls idx M'.1 M'.2.1 M'.2.2.1 M'.2.2.2.1 M'.2.2.2.2 [Cond.codeWith M'.1 M'.2.1 M'.2.2.1 M'.2.2.2.1 M'.2.2.2.2] (rmd dep' k' n') k' n' na := by
    refine ⟨⟨rfl, rfl, by show dep' + 1 ≤ _; omega, by show 8 + (M'.2.2.1 + 11) + 60 * dep' ≤ _; omega, fun w hw a' U hW => ?_, List.mem_cons_self⟩, hC.word ho.1 rfl args, hC.word ho.2.1 rfl args, ho.2.2.2.1, fun sig hsig => ?_, hC.word hl0 rfl args, hC.word hv rfl args⟩
    · rw [List.mem_singleton] at hw
      subst hw
      exact (hC.warm hW).word ho.1 rfl a'
    · have o6 := ho.2.2.2.2.1
      rw [hsig] at o6
      exact (Option.some.inj o6).symm
  exact al_run_back hS9 G hl (vx_runSW (e := e) (meth := meth) (below := below) (R := R) (As := as.map (cv ad)) (rest := cvs ad st) (g := F0 m pc ls (cvs ad (as.reverse ++ st))) (Ts := []) (locs := locs) (cells := cells) (slots := slots) ⟨hx, hb, hml, hown, fun _ hq => nomatch hq⟩ hM hcw ⟨Pm.blind, fun U hU hW => ⟨rfl, hC.warm hW, va_K.moved hW.alike hK, by rw [hU]; exact hR⟩⟩ rfl (by simpa using hna) hl.1 (by simp [cvs]) (lv_room (by rw [cvs_cat]; exact hcat)) d ⟨by omega, by omega⟩) hk hn hfx hdom hok kk

theorem al_new {i ci N : Nat} {C : String} {T : u_T} {fs : List Value} (d : decode M.2.1 pc = .ok (.new idx, 3)) (hc : kcl[ci]? = some (C, T, N)) (hcl : Cond.classLink M.1.cls idx C ∈ lw_tbl) (hinst : Cond.instantiable C N ∈ lw_tbl) (hini : Cond.initialized C ∈ lw_tbl) (tys : Nat → FieldType) (htys : ∀ k, k < N → parseFieldDescriptor (T k).2.2.1 = some (tys k)) (hfs : ∀ j, j < N → defaultValue (tys j) = vp_V fs j) (hpr : ∀ ad, fs.map (cv ad) = fs) (hnm : ∀ j, Value.ref j ∉ fs)
    (hi : h i = none) (hi2 : i < 200) (hC : Clo h) (hst : ∀ v ∈ st, v ≠ .ref i) (hlv : ∀ q ∈ lv, q.2 ≠ .ref i) (hk : 1 ≤ k) (hn : N ≤ n)
    (kk : Clo (uph h i (.inr (ci, fs))) → AL S M dep false Φ (k - 1) (n - N) (pc + 3) lv (.ref i :: st) (uph h i (.inr (ci, fs)))) : AL S M dep false Φ k n pc lv st h := by
  intro p l e R s m args below meth c H0 D ty ad mc ms H locs cells slots Qc XC ls hS9 G hl
  obtain ⟨⟨hx, hb, htr, hml, hr, hlo, hnm', hown, hK, hCF, b1, b2, b3, b4, b5, htb⟩, g2, g3, hR, hS, hQX⟩ := id G
  have hKn := hK.1 ci _ hc
  refine W.newcK (g := F0 m pc ls (cvs ad st)) hx hb hown (hCF.word hcl rfl args) (hCF.word hinst rfl args) (hCF.word hini rfl args) rfl d (by omega) (by omega) hKn.2.1 rfl fun H1 kC hkC e1 z1 o1 => ?_
  have hat : va_at D kcl (H.size, ce ty (va_up ad i H.size) (.inr (ci, fs))) H1 := by
    refine ⟨_, hc, ?_⟩
    show t_OB H.size (D.1 ci) N (D.2 ci) H1 (vp_V (fs.map (cv (va_up ad i H.size))))
    rw [hpr]
    exact (u_born tys (hCF.uws hc args) (fun w hw => hw) hKn hkC e1 htys).to hfs
  have kq := kk (hC.up fun i' hm => absurd hm (hnm i')) p l e R s m args below meth c H0 D ty (va_up ad i H.size) mc ms H1 locs (cells + 1) (slots + N) Qc XC ls hS9 (G.madeC hC hi hi2 hat z1 o1 hk hn) (by rw [cvl_up hlv]; exact hl)
  have e2 : cvs (va_up ad i H.size) (.ref i :: st) = .ref H.size :: cvs ad st := by
    show Value.ref (va_up ad i H.size i) :: cvs (va_up ad i H.size) st = _
    rw [cvs_up hst, va_up_self]
  rw [e2] at kq
  exact kq

theorem al_newa {i t N : Nat} {x : Int32} {atype : ArrayType} {ft : FieldType} {a0 : vp_A} (d : decode M.2.1 pc = .ok (.newarray atype, 2)) (hty : newarray.typeOf atype = ft) (hw : Cond.arrayClass ft ∈ lw_tbl) (ht : ktl[t]? = some ft) (ha : ∀ cA : ClassId, vp_cell cA a0 = arrV cA N (fun _ => defaultValue ft)) (hx0 : ¬ x < 0) (hN : x.toNatClampNeg = N) (hby : N * componentBytes ft ≤ 536870912) (hpr : ∀ ad, cA ad a0 = a0) (hnm : ∀ j, ¬ ment j (.inl (t, a0)))
    (hi : h i = none) (hi2 : i < 200) (hC : Clo h) (hst : ∀ v ∈ st, v ≠ .ref i) (hlv : ∀ q ∈ lv, q.2 ≠ .ref i) (hk : 1 ≤ k) (hn : N ≤ n)
    (kk : Clo (uph h i (.inl (t, a0))) → AL S M dep false Φ (k - 1) (n - N) (pc + 2) lv (.ref i :: st) (uph h i (.inl (t, a0)))) : AL S M dep false Φ k n pc lv (.int x :: st) h := by
  intro p l e R s m args below meth c H0 D ty ad mc ms H locs cells slots Qc XC ls hS9 G hl
  obtain ⟨⟨hx, hb, htr, hml, hr, hlo, hnm', hown, hK, hCF, b1, b2, b3, b4, b5, htb⟩, g2, g3, hR, hS, hQX⟩ := id G
  subst hty
  refine va_newaK (g := F0 m pc ls (cvs ad (.int x :: st))) hx hb (hCF.word hw rfl args) rfl d (rest := cvs ad st) rfl hx0 hN hby (by omega) (by omega) rfl fun H1 cB e1 z1 o1 hAr hNm => ?_
  have ht2 := (hK.2 t _ (ktys_get (ty := ty) ht)).2
  have ecl : ty t = cB := by
    cases atype <;> exact Option.some.inj (ht2.symm.trans hNm)
  have hat : va_at D kcl (H.size, ce ty (va_up ad i H.size) (.inl (t, a0))) H1 := by
    show H1[H.size]? = some (vp_cell (ty t) (cA (va_up ad i H.size) a0))
    rw [hpr, ha, ecl]
    exact e1
  have kq := kk (hC.up fun i' hm => absurd hm (hnm i')) p l e R s m args below meth c H0 D ty (va_up ad i H.size) mc ms H1 locs (cells + 1) (slots + N) Qc XC ls hS9 (G.madeC hC hi hi2 hat z1 o1 hk hn) (by rw [cvl_up hlv]; exact hl)
  have e2 : cvs (va_up ad i H.size) (.ref i :: st) = .ref H.size :: cvs ad st := by
    show Value.ref (va_up ad i H.size i) :: cvs (va_up ad i H.size) st = _
    rw [cvs_up hst, va_up_self]
  rw [e2] at kq
  exact kq

theorem al_start {x : ae} (ei : b + j = i) (h0 : h i = some x) (hC : Clo h) (kk : Clo (ov h b [(j, x)]) → AL S M dep fx Φ k n pc lv st (ov h b [(j, x)])) : AL S M dep fx Φ k n pc lv st h := by
  subst ei
  rw [ov_self h0] at kk
  exact kk hC

theorem al_newO {ci : Nat} {C : String} {T : u_T} {fs : List Value} (d : decode M.2.1 pc = .ok (.new idx, 3)) (ei : b + j = i) (hc : kcl[ci]? = some (C, T, N)) (hcl : Cond.classLink M.1.cls idx C ∈ lw_tbl) (hinst : Cond.instantiable C N ∈ lw_tbl) (hini : Cond.initialized C ∈ lw_tbl) (tys : Nat → FieldType) (htys : ∀ k, k < N → parseFieldDescriptor (T k).2.2.1 = some (tys k)) (hfs : ∀ j, j < N → defaultValue (tys j) = vp_V fs j) (hpr : ∀ ad, fs.map (cv ad) = fs) (hnm : ∀ j, Value.ref j ∉ fs)
    (hlk : lk L j = none) (hh : h i = none) (hi2 : i < 200) (hst : ∀ v ∈ st, v ≠ .ref i) (hlv : ∀ q ∈ lv, q.2 ≠ .ref i) (hk : 1 ≤ k) (hn : N ≤ n) (hC : Clo (ov h b L))
    (kk : Clo (ov h b ((j, .inr (ci, fs)) :: L)) → AL S M dep false Φ (k - 1) (n - N) (pc + 3) lv (.ref i :: st) (ov h b ((j, .inr (ci, fs)) :: L))) : AL S M dep false Φ k n pc lv st (ov h b L) := by
  subst ei
  refine al_new d hc hcl hinst hini tys htys hfs hpr hnm (ov_no hlk hh) hi2 hC hst hlv hk hn ?_
  rw [ov_cons]
  exact kk

theorem al_newL {x : Int32} (d : decode M.2.1 pc = .ok (.newarray .long, 2)) (ei : b + j = i) (hx0 : ¬ x < 0) (hN : x.toNatClampNeg = N) (hby : N ≤ 1024) (hlk : lk L j = none) (hh : h i = none) (hi2 : i < 200) (hst : ∀ v ∈ st, v ≠ .ref i) (hlv : ∀ q ∈ lv, q.2 ≠ .ref i) (hk : 1 ≤ k) (hn : N ≤ n) (hC : Clo (ov h b L))
    (kk : Clo (ov h b ((j, .inl (1, (N, .inr (.inl zL)))) :: L)) → AL S M dep false Φ (k - 1) (n - N) (pc + 2) lv (.ref i :: st) (ov h b ((j, .inl (1, (N, .inr (.inl zL)))) :: L))) : AL S M dep false Φ k n pc lv (.int x :: st) (ov h b L) := by
  subst ei
  refine al_newa (t := 1) (ft := .long) (a0 := (N, .inr (.inl zL))) d rfl (by decide +kernel) rfl (fun cA => rfl) hx0 hN (Nat.le_trans (Nat.mul_le_mul_right _ hby) (by decide)) (fun ad => rfl) (fun j z => z) (ov_no hlk hh) hi2 hC hst hlv hk hn ?_
  rw [ov_cons]
  exact kk

theorem al_newD {x : Int32} (d : decode M.2.1 pc = .ok (.newarray .double, 2)) (ei : b + j = i) (hx0 : ¬ x < 0) (hN : x.toNatClampNeg = N) (hby : N ≤ 1024) (hlk : lk L j = none) (hh : h i = none) (hi2 : i < 200) (hst : ∀ v ∈ st, v ≠ .ref i) (hlv : ∀ q ∈ lv, q.2 ≠ .ref i) (hk : 1 ≤ k) (hn : N ≤ n) (hC : Clo (ov h b L))
    (kk : Clo (ov h b ((j, .inl (4, (N, .inr (.inr (.inr (.inl zD)))))) :: L)) → AL S M dep false Φ (k - 1) (n - N) (pc + 2) lv (.ref i :: st) (ov h b ((j, .inl (4, (N, .inr (.inr (.inr (.inl zD)))))) :: L))) : AL S M dep false Φ k n pc lv (.int x :: st) (ov h b L) := by
  subst ei
  refine al_newa (t := 4) (ft := .double) (a0 := (N, .inr (.inr (.inr (.inl zD))))) d rfl (by decide +kernel) rfl (fun cA => rfl) hx0 hN (Nat.le_trans (Nat.mul_le_mul_right _ hby) (by decide)) (fun ad => rfl) (fun j z => z) (ov_no hlk hh) hi2 hC hst hlv hk hn ?_
  rw [ov_cons]
  exact kk

theorem al_ctor {x : ae} {P : Nat → Bool} (d : decode M.2.1 pc = .ok (.invokespecial idx, 3)) (hl0 : Cond.methodLink M.1.cls idx M'.1 ∈ lw_tbl) (ho : MO M' na) (hv : Cond.instanceMethod M'.1 ∈ lw_tbl) (hi : M'.1.name = "<init>") (hr0 : M'.2.2.2.1 = none) (ei : b + j = i) (hA : AC M' dep' false (FN (ov h b ((j, x) :: L)) P) k' n' (.ref i :: as) (ov h b ((j, x) :: L))) (hst : stk = as.reverse ++ .ref i :: st) (hna : as.length = na) (hlen : (lg_sl (.ref i :: as)).length ≤ M'.2.2.1) (hd : dep' + 1 ≤ dep) (hcat : (st.map fun v => v.category).sum ≤ 8) (hk : k' ≤ k) (hn : n' ≤ n) (hm : P i = true) (hs : ∀ q, P q = true → (SH q).isSome = true) (hout : (L.all (fun q => !(P (b + q.1)))) = true) (ho1 : okv (ov h b ((j, x) :: L)) st) (ho2 : okv (ov h b ((j, x) :: L)) (lv.map (fun q => q.2)))
    (kk : Clo (ov (fill h P) b L) → AL S M dep false Φ (k - k') (n - n') (pc + 3) lv st (ov (fill h P) b L)) : AL S M dep false Φ k n pc lv stk (ov h b ((j, x) :: L)) := by
  refine al_callI d hl0 ho hv hi hr0 hA hst (fun E h' q => by cases q.1) hna hlen hd hcat hk hn (fun z => by cases z) (fn_dom hs) (Or.inr ⟨ho1, ho2⟩) ?_
  rintro v h' ⟨e, rfl, hC⟩
  cases e
  rw [fill_ov ei hm hout] at hC ⊢
  exact kk hC

/-- with more room -/
theorem AL.wk (hk : k' ≤ k) (hn : n' ≤ n) (kk : AL S M dep fx Φ k' n' pc lv st h) : AL S M dep fx Φ k n pc lv st h := by
  intro p l e R s m args below meth c H0 D ty ad mc ms H locs cells slots Qc XC ls hS9 G hl
  obtain ⟨g1, g2, g3, g4⟩ := G
  exact kk p l e R s m args below meth c H0 D ty ad mc ms H locs cells slots Qc XC ls hS9 ⟨g1, by omega, by omega, g4⟩ hl
theorem AL.loose (h0 : AL S M dep true Φ k n pc lv st h) : AL S M dep false Φ k n pc lv st h := by
  intro p l e R s m args below meth c H0 D ty ad mc ms H locs cells slots Qc XC ls hS9 G hl
  obtain ⟨g1, g2, g3, hR, hS, hQ, hX⟩ := G
  exact h0 p l e R s m args below meth c H0 D ty ad mc ms H locs cells slots Qc XC ls hS9 ⟨g1, g2, g3, hR, hS, fun v h' ad' t _ b => hQ v h' ad' t (fun z => by cases z) b, fun E h' ad' t _ b => hX E h' ad' t (fun z => by cases z) b⟩ hl
theorem al_sld {Ls : Nat} {xs : Nat → Int32} {x : Int32} {q : Nat} (d : decode M.2.1 pc = .ok (.iaload, 1)) (hx0 : x = nI q) (hq : q < Ls) (hLs : Ls ≤ 2560) (kk : AL (SX Ls xs) M dep fx Φ k n (pc + 1) lv (.int (xs q) :: st) h) : AL (SX Ls xs) M dep fx Φ k n pc lv (.int x :: .ref 240 :: st) h := by
  subst hx0
  intro p l e R s m args below meth c H0 D ty ad mc ms H locs cells slots Qc XC ls hS9 G hl
  obtain ⟨⟨hx, hb, htr, hml, hr, hlo, hnm', hown, hK, hCF, b1, b2, b3, b4, b5, htb⟩, g2, g3, hR, hS, hQX⟩ := id G
  have hcl : (nI q).toNatClampNeg = q := nI_clamp (by omega)
  have h9 : D.1 240 < H0.size := hS9.2
  have h240 : ad 240 = D.1 240 := hR.2.2.2.2 240 (by decide)
  have kq := kk p l e R s m args below meth c H0 D ty ad mc ms H locs cells slots Qc XC ls hS9 G hl
  show W _ _ _ _ _ _ _ _ _ _ _ _ _ _ _ (F0 m pc ls (.int (nI q) :: .ref (ad 240) :: cvs ad st))
  rw [h240]
  refine va_sld hx hb hS9.1 (Nat.lt_of_lt_of_le h9 b5) (fun z => absurd h9 (Nat.not_lt.mpr z)) hS (i := nI q) (by rintro (z | z); exact nI_pos (by omega) z; rw [hcl] at z; omega) d ?_
  rw [hcl]
  exact kq
theorem al_slen {Ls : Nat} {xs : Nat → Int32} (d : decode M.2.1 pc = .ok (.arraylength, 1)) (kk : AL (SX Ls xs) M dep fx Φ k n (pc + 1) lv (.int (Int32.ofNat Ls) :: st) h) : AL (SX Ls xs) M dep fx Φ k n pc lv (.ref 240 :: st) h := by
  intro p l e R s m args below meth c H0 D ty ad mc ms H locs cells slots Qc XC ls hS9 G hl
  obtain ⟨⟨hx, hb, htr, hml, hr, hlo, hnm', hown, hK, hCF, b1, b2, b3, b4, b5, htb⟩, g2, g3, hR, hS, hQX⟩ := id G
  have h9 : D.1 240 < H0.size := hS9.2
  have h240 : ad 240 = D.1 240 := hR.2.2.2.2 240 (by decide)
  show W _ _ _ _ _ _ _ _ _ _ _ _ _ _ _ (F0 m pc ls (.ref (ad 240) :: cvs ad st))
  rw [h240]
  exact va_slen hx hb hS9.1 (Nat.lt_of_lt_of_le h9 b5) (fun z => absurd h9 (Nat.not_lt.mpr z)) hS d (kk p l e R s m args below meth c H0 D ty ad mc ms H locs cells slots Qc XC ls hS9 G hl)
section ALD
variable {d : Dt} {P' : Option Value → Dt → Prop} {X' : String → Dt → Prop}
/-- a virtual call that comes back -/
theorem al_cV {ci N : Nat} {C : String} {T : u_T} {fs : List Value} (dc : decode M.2.1 pc = .ok (.invokevirtual idx, 3)) (ho : MO M' na) (hv : MV M') (ht0 : M.2.2.2.2 = []) (hl0 : Cond.methodLink M.1.cls idx M'.1 ∈ lw_tbl) (hA : AC M' dep' true (PX P' X') k' n' (.ref b :: as) (HP d)) (hst : stk = as.reverse ++ .ref b :: st) (hh : HP d b = some (.inr (ci, fs))) (hc : kcl[ci]? = some (C, T, N)) (hcl : M'.1.cls = C) (hna : as.length = na) (hlen : (lg_sl (.ref b :: as)).length ≤ M'.2.2.1) (hd : dep' + 1 ≤ dep) (hcat : (st.map fun v => v.category).sum ≤ 8) (hk : k' ≤ k) (hn : n' ≤ n) (hno : ∀ E d', ¬ X' E d')
    (kk : ∀ v d', P' v d' → AL S M dep true Φ (k - k') (n - n') (pc + 3) lv (v.toList ++ st) (HP d')) : AL S M dep true Φ k n pc lv stk (HP d) :=
  al_callV dc ht0 hl0 ho hv hA hst hh hc hcl hna hlen hd hcat hk hn (fun _ => rfl) PX_dom (Or.inl rfl) (fun v h' ⟨d', e, q⟩ => by subst e; exact kk v d' q) (fun E h' ⟨d', e, q⟩ => absurd q (hno E d'))
/-- a static call of a method with a table, that comes back -/
theorem al_cSH (dc : decode M.2.1 pc = .ok (.invokestatic idx, 3)) (ho : MOH M' na) (hv : MS M') (hl0 : Cond.methodLink M.1.cls idx M'.1 ∈ lw_tbl) (hA : AC M' dep' true (PX P' nX) k' n' as (HP d)) (hst : stk = as.reverse ++ st) (hna : as.length = na) (hlen : (lg_sl as).length ≤ M'.2.2.1) (hd : dep' + 1 ≤ dep) (hcat : (st.map fun v => v.category).sum ≤ 8) (hk : k' ≤ k) (hn : n' ≤ n)
    (kk : ∀ v d', P' v d' → AL S M dep true Φ (k - k') (n - n') (pc + 3) lv (v.toList ++ st) (HP d')) : AL S M dep true Φ k n pc lv stk (HP d) :=
  al_callSH dc hl0 ho hv hA hst (fun E h' => nX_no E h') hna hlen hd hcat hk hn (fun _ => rfl) PX_dom (Or.inl rfl) (fun v h' ⟨d', e, q⟩ => by subst e; exact kk v d' q)
end ALD
end ALR
