/-! THE CLAIM OUT OF ONE WALK OF THE LAW'S BODY. Your part is whole_start (and what it stands on); all else here is the same for every law, but numbers. -/
def R_law : String := "LineBalancerLaw"
def lw_P (b : Addr) (xs : List Int32) (args : Array Value) (s : State) : Prop := args = #[.ref b] ∧ s.IntsAt b xs ∧ xs.length ≤ 2560 ∧ (Jvm.Cond.and given_1 narrow_1).before args s = true
/-- what a walk over the start with the record d0 says of its end, said of the start itself -/
theorem lw_closed {s t : State} {o : Outcome} {d0 : Drawn} {L : List Loc} {k n : Nat} (hd0 : s.drawn.sameBut d0 lw_cs) (hv : ∃ v, o = .returned v) (hW : (s.setDrawn d0).WarmedH t.vm) (hs : (s.setDrawn d0).sameButNew ({ t with vm := s.vm } : State) L k n) : State.butDraws s t lw_cs (fun t1 => Framed s o t1 L k n) := by
  have h2 : t.drawn = d0 := congrArg State.drawn hs.1
  refine ⟨⟨hv, hW, State.sameButNew.setDrawn hs s.drawn⟩, ?_, by decide⟩
  rw [h2]
  exact hd0
def lw_Q (_ : Array Value) (s : State) (o : Outcome) (t : State) : Prop := o = .returned (some (.int 1)) ∧ State.butDraws s t lw_cs (fun t1 => Framed s o t1 [] 603072 7202922)
def lw_Z (below : List Frame) (a : Array Value) (s : State) : State → Prop := fun t => ∃ o, t.status = .running ∧ Ended t below o ∧ lw_Q a s o t
/-- the law's own end, with 1 on the stack, nothing written that was there before, its room as the claim has it; d0: the record of draws at this point (at the entry s.drawn: begin with 'refine W.base ?_' and 'have hd0 := Drawn.sameBut.refl s.drawn lw_cs') -/
theorem lw_ret {p : Program} {l : Launch} {e : Env} {s : State} {m : MethodId} {below : List Frame} {meth : Method} {c : Code} {b : Nat} {d0 : Drawn} (hd0 : s.drawn.sameBut d0 lw_cs) (hx : p.tables.exec = Jvm.exec) (hb : c.code = code) (hr : meth.sig.returnType = ret) (hlocks : meth.locks = false) {pc : Nat} {H : Heap} {ls : Array Slot} (hdg : decode code pc = .ok (.ireturn, 1)) : W p l e room_1 (s.setDrawn d0) m #[Value.ref b] below meth c H [] 603072 7202922 (lw_Z below #[Value.ref b] s) (F0 m pc ls [.int 1]) := by
  intro T hT X
  obtain ⟨fs, hret, hrun, hended, hW, hframe⟩ := X.leave (v := some (.int 1)) (hlocks := hlocks) (fun h => by rw [hr] at h; cases h)
  have hmeth' : T.vm.method? m = some meth := X.method'
  refine ⟨T.setFrames fs, ?_, .returned (some (.int 1)), hrun, hended, rfl, lw_closed hd0 ⟨_, rfl⟩ hW hframe⟩
  jvm_step X.here [X.here.top, hx, hb, hdg, hmeth', hr, ret, narrow_b1]
  (try refine ⟨rfl, ?_⟩); (try refine ⟨rfl, ?_⟩)
  first | (intro acts; rw [hret _ acts rfl rfl rfl]) | rw [hret _ _ rfl rfl rfl]
  exact Steps.refl _
/-- what holds at the law's entry: the machine, the code, the tables' words (any of lw_tbl by 'hts w (by decide +kernel)'), the script of L ints xs at the cell b, what the Statement gives of the start (any of its parts by flat_of_before) -/
def lw_At (p : Program) (s : State) (m : MethodId) (meth : Method) (c : Code) (b L : Nat) (xs : Nat → Int32) : Prop :=
  p.tables.exec = Jvm.exec ∧ c.code = code ∧ meth.sig.returnType = ret ∧ c.maxLocals = 9 ∧ s.vm.findClass R_law = some m.cls ∧ (∀ w ∈ lw_tbl, w.before #[Value.ref b] s = true) ∧ va_X b L xs s s.heap ∧ b < s.heap.size ∧ meth.locks = false ∧ (Jvm.Cond.and given_1 narrow_1).before #[Value.ref b] s = true ∧ meth.name = "law" ∧ c.exceptionTable.toList = []
/-! THE START: the first system, both sides hold it -/
def q00 : St := fun j k => if j = 0 then (if k = 0 then 1 else 0) else if j = 1 then 1 else if j = 2 then (if k = 0 then 60 else if k = 1 then 2 else if k = 2 then 5 else 0) else if j = 3 then 1 else 0
def y00 : Sy := (q00, [], none, 0, [])
theorem TG_q00 {a b : Nat} : ¬ TG q00 a b := by
  have h0 : ∀ x y, ¬ TE q00 x y := by
    rintro x y ⟨-, h⟩
    rw [show q00 7 y = 0 from rfl, Nat.zero_testBit] at h
    cases h
  intro h
  cases h with
  | single h1 => exact h0 _ _ h1
  | tail _ h1 => exact h0 _ _ h1
theorem QOK_q00 : QOK q00 := by
  refine ⟨by decide +kernel, by decide +kernel, by decide +kernel, by decide +kernel, by decide +kernel, by decide +kernel, by decide +kernel, fun k _ _ => ⟨rfl, rfl, rfl, rfl⟩, by decide +kernel, by decide +kernel, ?_, ?_, fun t => TG_q00⟩
  · intro t i _
    rw [show q00 8 t = 0 from rfl, Nat.zero_testBit]
    exact ⟨fun h => (by cases h), fun h => absurd h TG_q00⟩
  · intro t i _
    rw [show q00 9 t = 0 from rfl, Nat.zero_testBit]
    exact ⟨fun h => (by cases h), fun h => absurd h.2 TG_q00⟩
theorem KS_00 : KS 0 d00 q00 := by
  have h : ∀ j, j < 12 → ∀ k, k < szC j → d00.1 (0 + j) k = vC q00 j k := by decide +kernel
  exact fun j k hj hk => h j hj k hk
theorem CC_00 : CC d00 y00 := ⟨⟨KS_00, QOK_q00⟩, ⟨0, by decide, rfl, rfl, by decide, fun i p h => by cases h⟩, rfl, ⟨rfl, by decide⟩, TP_nil _⟩
theorem RR_00 : RR (d00.1 161) q00 := by
  refine ⟨⟨by decide +kernel, by decide +kernel⟩, by decide +kernel, by decide +kernel, by decide +kernel, fun t ht => absurd ht (Nat.not_lt_zero _), by decide +kernel⟩
theorem MR_00 : MR d00 y00 := ⟨⟨RR_00, QOK_q00⟩, ⟨rfl, by decide, fun i h => absurd h (Nat.not_lt_zero _), fun p h => by cases h⟩, rfl, ⟨rfl, by decide⟩, TP_nil _⟩
/-! THE PROLOGUE: all is made, then the loop -/
theorem okv_k {h : ah} {r : Nat} {l : List Value} (h1 : 200 ≤ r) (h2 : okv h l) : okv h (.ref r :: l) := fun i z => by
  rcases List.mem_cons.mp z with e | e
  · cases e; exact Or.inl h1
  · exact h2 i e
abbrev hN : ah := fun _ => none
theorem Clo_N : Clo (ov hN 0 []) := fun j x h => by
  rw [ov_is (by simp) rfl] at h
  cases h
def ΦL : Rs → ah → Prop := fun r _ => r = .inl (some (.int 1))
theorem nb_n {a b : Nat} : (Nat.beq a b = false) = (a ≠ b) := propext ⟨Nat.ne_of_beq_eq_false, nb_f⟩
theorem fill_HP {P : Nat → Bool} (h : ∀ i, P i = false → SH i = none) : fill hN P = HP d00 := by
  funext i
  cases e : P i with
  | true => exact fill_at e
  | false =>
    rw [fill_no e rfl]
    unfold HP
    rw [h i e]
    rfl
theorem hp_last : ov (fill (fill hN (rg 0 153)) (rg 160 15)) 0 [(191, .inl (4, 1, .inr (.inr (.inr (.inl zD))))), (190, .inl (1, 1, .inr (.inl zL)))] = HP d00 := by
  rw [ov_fill (all_c rfl (all_c rfl all_n))]
  simp only [fill_fill]
  refine fill_HP (fun i e => ?_)
  simp only [ks, rg, List.any_cons, List.any_nil, Bool.or_eq_false_iff, nb_n, decide_eq_false_iff_not] at e
  have hno : ¬ (i < 153 ∨ (160 ≤ i ∧ i < 175) ∨ i = 190 ∨ i = 191) := by omega
  unfold SH
  rw [if_neg (by omega)]
  have h2 : ∀ q, q < 60 → ¬ (132 + q < 153 ∨ (160 ≤ 132 + q ∧ 132 + q < 175) ∨ 132 + q = 190 ∨ 132 + q = 191) → (shL[q]?).getD none = none := by decide +kernel
  by_cases hi : i - 132 < 60
  · exact h2 _ hi (by rw [show 132 + (i - 132) = i by omega]; exact hno)
  · rw [List.getElem?_eq_none (Nat.le_trans (show shL.length ≤ 60 by decide) (by omega))]
    rfl
set_option maxHeartbeats 4000000 in
set_option maxRecDepth 100000 in
theorem law_all {Ls : Nat} {xs : Nat → Int32} (hLs : Ls ≤ 2560) : AL (SX Ls xs) mL_law 20 false ΦL 603072 7202922 0 [(0, .ref 240)] [] (ov hN 0 []) := by
  have hC := Clo_N
  refine al_newO (j := 132) (i := 132) (ci := 7) (N := 8) (fs := [.null, .null, .null, .null, .null, .null, .int 0, .int 0]) dL_law_0 rfl rfl (tbk1 29 rfl) (tbk1 30 rfl) (tbk1 1 rfl) tyX7 tyX7_ok (by decide) (fun _ => rfl) (by simp) rfl rfl (by decide) (by simp) (by simp) (Nat.le_of_ble_eq_true rfl) (Nat.le_of_ble_eq_true rfl) hC (fun hC => ?_)
  refine al_dup dL_law_3 rfl ?_
  refine al_ctor (j := 132) (i := 132) (P := rg 0 153) (M' := mX7_init) (as := []) dL_law_4 lL_117 oX7_init iX7_init rfl rfl rfl (kX7_init hC (ov_at (j := 132) rfl) (fun i h1 h2 => ov_is (by simp <;> omega) rfl)) rfl rfl (Nat.le_of_ble_eq_true rfl) (Nat.le_of_ble_eq_true rfl) (Nat.le_of_ble_eq_true rfl) (Nat.le_of_ble_eq_true rfl) (Nat.le_of_ble_eq_true rfl) rfl (hs_1 (by decide)) rfl (okv_r (ex_at (j := 132) rfl rfl) okv_n) (okv_k (by decide) okv_n) (fun hC => ?_)
  refine al_astore_n dL_law_7 (by decide) rfl ?_
  show AL _ _ _ _ _ _ _ _ [(0, .ref 240), (1, .ref 132)] _ _
  refine al_newO (j := 160) (i := 160) (ci := 8) (N := 22) (fs := [.null, .null, .null, .int 0, .null, .int 0, .int 0, .int 0, .null, .int 0, .null, .null, .null, .null, .null, .null, .null, .int 0, .int 0, .null, .int 0, .null]) dL_law_8 rfl rfl (tbk5 182 rfl) (tbk5 183 rfl) (tbk1 9 rfl) tyX8 tyX8_ok (by decide) (fun _ => rfl) (by simp) rfl (fill_no rfl rfl) (by decide) (by simp) (by simp) (Nat.le_of_ble_eq_true rfl) (Nat.le_of_ble_eq_true rfl) hC (fun hC => ?_)
  refine al_dup dL_law_11 rfl ?_
  refine al_ctor (j := 160) (i := 160) (P := rg 160 15) (M' := mX8_init) (as := []) dL_law_12 lL_120 oX8_init iX8_init rfl rfl rfl (kX8_init hC (ov_at (j := 160) rfl) (fun i h1 h2 => ov_is (by simp <;> omega) (fill_no (rg_f (by omega)) rfl))) rfl rfl (Nat.le_of_ble_eq_true rfl) (Nat.le_of_ble_eq_true rfl) (Nat.le_of_ble_eq_true rfl) (Nat.le_of_ble_eq_true rfl) (Nat.le_of_ble_eq_true rfl) rfl (hs_2 (by decide) (by decide)) rfl (okv_r (ex_at (j := 160) rfl rfl) okv_n) (okv_k (by decide) (okv_r (ex_ov (by simp) (ex_in rfl rfl)) okv_n)) (fun hC => ?_)
  refine al_astore_n dL_law_15 (by decide) rfl ?_
  show AL _ _ _ _ _ _ _ _ [(0, .ref 240), (1, .ref 132), (2, .ref 160)] _ _
  refine al_iconst (v := 1) dL_law_16 (by decide) ?_
  refine al_newL (j := 190) (i := 190) (N := 1) dL_law_17 rfl (by decide) (by decide) (by decide) rfl (fill_no rfl (fill_no rfl rfl)) (by decide) (by simp) (by simp) (Nat.le_of_ble_eq_true rfl) (Nat.le_of_ble_eq_true rfl) hC (fun hC => ?_)
  refine al_astore_n dL_law_19 (by decide) rfl ?_
  show AL _ _ _ _ _ _ _ _ [(0, .ref 240), (1, .ref 132), (2, .ref 160), (3, .ref 190)] _ _
  refine al_iconst (v := 1) dL_law_20 (by decide) ?_
  refine al_newD (j := 191) (i := 191) (N := 1) dL_law_21 rfl (by decide) (by decide) (by decide) rfl (fill_no rfl (fill_no rfl rfl)) (by decide) (by simp) (by simp) (Nat.le_of_ble_eq_true rfl) (Nat.le_of_ble_eq_true rfl) hC (fun hC => ?_)
  refine al_astore dL_law_23 (by decide) rfl ?_
  refine al_iconst (v := 0) dL_law_25 (by decide) ?_
  refine al_istore dL_law_26 (by decide) rfl ?_
  rw [hp_last]
  exact AL.loose (law_loop hLs (fun _ => rfl) 0 (by decide) (Nat.zero_le _) d00 y00 CC_00 MR_00 _ _ (Nat.le_of_ble_eq_true rfl) (Nat.le_of_ble_eq_true rfl))
/-! THE STATEMENT'S START GIVES ALL THAT THE WALK ASKS -/
theorem kcl_inst : ∀ (q : Nat) (r : vw_C), kcl[q]? = some r → Cond.instantiable r.1 r.2.2 ∈ lw_tbl := by
  have h : kcl.all (fun r => decide (Cond.instantiable r.1 r.2.2 ∈ lw_tbl)) = true := by decide +kernel
  intro q r hq
  simpa using List.all_eq_true.mp h r (List.mem_of_getElem? hq)
set_option maxHeartbeats 4000000 in
theorem kct_ref : ∀ (k : Nat) (t : Term), kct[k]? = some t → (∃ C, Cond.exactly t C ∈ gn1) ∨ (∃ n : Int32, Cond.eq (.length t) (.int n) ∈ gn1)
  | 0, _, rfl => Or.inl ⟨RX0, by decide +kernel⟩
  | 1, _, rfl => Or.inl ⟨RX0, by decide +kernel⟩
  | 2, _, rfl => Or.inl ⟨RX0, by decide +kernel⟩
  | 3, _, rfl => Or.inl ⟨RX0, by decide +kernel⟩
  | 4, _, rfl => Or.inl ⟨RX0, by decide +kernel⟩
  | 5, _, rfl => Or.inl ⟨RX0, by decide +kernel⟩
  | 6, _, rfl => Or.inl ⟨"[LLineBalancer$Command;", by decide +kernel⟩
  | 7, _, rfl => Or.inr ⟨4, by decide +kernel⟩
  | 8, _, rfl => Or.inr ⟨4, by decide +kernel⟩
  | 9, _, rfl => Or.inl ⟨RJ0, by decide +kernel⟩
  | 10, _, rfl => Or.inl ⟨RJ0, by decide +kernel⟩
  | 11, _, rfl => Or.inl ⟨RJ0, by decide +kernel⟩
  | 12, _, rfl => Or.inl ⟨RJ0, by decide +kernel⟩
  | 13, _, rfl => Or.inl ⟨RJ0, by decide +kernel⟩
  | 14, _, rfl => Or.inl ⟨RJ0, by decide +kernel⟩
  | 15, _, rfl => Or.inl ⟨RJ0, by decide +kernel⟩
  | 16, _, rfl => Or.inl ⟨RJ0, by decide +kernel⟩
  | 17, _, rfl => Or.inl ⟨RJ0, by decide +kernel⟩
  | 18, _, rfl => Or.inl ⟨RJ0, by decide +kernel⟩
  | 19, _, rfl => Or.inl ⟨RJ0, by decide +kernel⟩
  | 20, _, rfl => Or.inl ⟨RJ0, by decide +kernel⟩
  | 21, _, rfl => Or.inr ⟨4, by decide +kernel⟩
  | 22, _, rfl => Or.inr ⟨6, by decide +kernel⟩
  | 23, _, rfl => Or.inr ⟨5, by decide +kernel⟩
  | 24, _, rfl => Or.inr ⟨8, by decide +kernel⟩
  | 25, _, rfl => Or.inr ⟨3, by decide +kernel⟩
  | 26, _, rfl => Or.inr ⟨5, by decide +kernel⟩
  | 27, _, rfl => Or.inr ⟨4, by decide +kernel⟩
  | 28, _, rfl => Or.inr ⟨6, by decide +kernel⟩
  | 29, _, rfl => Or.inr ⟨5, by decide +kernel⟩
  | 30, _, rfl => Or.inr ⟨8, by decide +kernel⟩
  | 31, _, rfl => Or.inr ⟨3, by decide +kernel⟩
  | 32, _, rfl => Or.inr ⟨5, by decide +kernel⟩
  | k + 33, t, h => by cases h
theorem WQ {p : Program} {l : Launch} {e : Env} {R : Room} {s : State} {m : MethodId} {args : Array Value} {below : List Frame} {meth : Method} {c : Code} {H : Heap} {locs : List Loc} {cells slots : Nat} {Q Q' : State → Prop} {g : JFrame} (h : W p l e R s m args below meth c H locs cells slots Q g) (hq : ∀ t, Q t → Q' t) : W p l e R s m args below meth c H locs cells slots Q' g := by
  intro T hT X
  obtain ⟨t, a1, b1⟩ := h T hT X
  exact ⟨t, a1, hq t b1⟩
/-- YOUR PART: from the entry, for every script of at most 2560 ints, the law comes to its end with true -/
theorem whole_start {p : Program} {e : Env} {s : State} {m : MethodId} {below : List Frame} {meth : Method} {c : Code} (l : Launch) (hflags : l.flags = flags0) {b L : Nat} {xs : Nat → Int32} (hL : L ≤ 2560) (C0 : lw_At p s m meth c b L xs) : W p l e room_1 s m #[Value.ref b] below meth c s.heap [] 0 0 (lw_Z below #[Value.ref b] s) (entryFrame m ([Value.ref b] : List Value).toArray 9) := by
  obtain ⟨hx, hb, hr, hml, hown, hts, hX, hbl, hlo, hgv, hnm, htab⟩ := C0
  have kn : ∀ q : Nat, ∃ (cC : ClassId) (iS : Nat → Nat), ∀ r : vw_C, kcl[q]? = some r → u_Kn s r.1 r.2.1 r.2.2 cC iS := by
    intro q
    cases hq : kcl[q]? with
    | none => exact ⟨0, fun _ => 0, fun r h => by cases h⟩
    | some r =>
      obtain ⟨cC, iS, h⟩ := u_known (ws := u_ws r.1 r.2.1 r.2.2) (args := #[Value.ref b]) (fun w hw => hts w (kcl_ws q r hq w hw).1) (fun w hw => hw) (hts _ (kcl_inst q r hq))
      exact ⟨cC, iS, fun r' h' => by cases h'; exact h⟩
  obtain ⟨cls, hcls⟩ := Classical.axiomOfChoice kn
  obtain ⟨ism, hism⟩ := Classical.axiomOfChoice hcls
  have prim : ∀ f : FieldType, (∀ C, f ≠ .object C) → Cond.arrayClass f ∈ lw_tbl → ∃ cA : ClassId, ArrOfT s cA f ∧ va_RA s cA f := by
    intro f hf hw
    obtain ⟨cA, kA, comp, h1, h2, h3⟩ := Cond.arrayClass_spec (hts _ hw)
    refine ⟨cA, fun n z => ⟨fun k h => (by cases h), kA, h2, comp, h3⟩, ?_⟩
    cases f with
    | object C => exact absurd rfl (hf C)
    | _ => exact h1
  have refs : ∀ C : String, Cond.arrayOver (.object C) ∈ lw_tbl → ∃ cA : ClassId, ArrOfT s cA (.object C) ∧ va_RA s cA (.object C) := by
    intro C hw
    obtain ⟨comp, cA, kA, h1, -, h2, h3, h4⟩ := Cond.arrayOver_spec (hts _ hw)
    exact ⟨cA, fun n z => ⟨fun k h => (by cases h), kA, h2, comp, h3⟩, kA, comp, h2, h3, h1, h4⟩
  have kt : ∀ q : Nat, ∃ cA : ClassId, ∀ f, ktl[q]? = some f → ArrOfT s cA f ∧ va_RA s cA f := by
    intro q
    match q with
    | 0 => obtain ⟨cA, h⟩ := prim .int (fun _ z => by cases z) (by decide +kernel); exact ⟨cA, fun f hf => by cases hf; exact h⟩
    | 1 => obtain ⟨cA, h⟩ := prim .long (fun _ z => by cases z) (by decide +kernel); exact ⟨cA, fun f hf => by cases hf; exact h⟩
    | 2 => obtain ⟨cA, h⟩ := prim .boolean (fun _ z => by cases z) (by decide +kernel); exact ⟨cA, fun f hf => by cases hf; exact h⟩
    | 3 => obtain ⟨cA, h⟩ := prim .char (fun _ z => by cases z) (by decide +kernel); exact ⟨cA, fun f hf => by cases hf; exact h⟩
    | 4 => obtain ⟨cA, h⟩ := prim .double (fun _ z => by cases z) (by decide +kernel); exact ⟨cA, fun f hf => by cases hf; exact h⟩
    | 5 => obtain ⟨cA, h⟩ := refs RX4 (by decide +kernel); exact ⟨cA, fun f hf => by cases hf; exact h⟩
    | 6 => obtain ⟨cA, h⟩ := refs "java/lang/String" (by decide +kernel); exact ⟨cA, fun f hf => by cases hf; exact h⟩
    | q + 7 => exact ⟨0, fun f hf => by cases hf⟩
  obtain ⟨ty, hty⟩ := Classical.axiomOfChoice kt
  have kc : ∀ q : Nat, ∃ a : Nat, ∀ t, kct[q]? = some t → t.eval #[Value.ref b] s none [] s = some (.ref a) := by
    intro q
    cases hq : kct[q]? with
    | none => exact ⟨0, fun t h => by cases h⟩
    | some t =>
      have h1 : ∃ a : Nat, t.eval #[Value.ref b] s none [] s = some (.ref a) := by
        rcases kct_ref q t hq with ⟨C, hw⟩ | ⟨n, hw⟩
        · obtain ⟨a, c', cA, kA, q1, -⟩ := Cond.exactly_spec (args := #[Value.ref b]) (first := s) (o := none) (s := s) (idx := []) (t := t) (cls := C) (flat_of_before _ hgv _ hw)
          exact ⟨a, q1⟩
        · obtain ⟨a, cell, ht, -⟩ := Term.length_spec (va_eqt (flat_of_before _ hgv _ hw))
          exact ⟨a, ht⟩
      obtain ⟨a, ha⟩ := h1
      exact ⟨a, fun t' h' => by cases h'; exact ha⟩
  obtain ⟨con, hcon⟩ := Classical.axiomOfChoice kc
  generalize hD : ((fun k => if k < 200 then cls k else if k = 240 then b else con (k - 200), ism) : va_G) = D
  have D1 : ∀ k, k < 200 → D.1 k = cls k := fun k hk => by rw [← hD]; exact if_pos hk
  have D2 : D.1 240 = b := by rw [← hD]; rfl
  have D3 : ∀ k, k < 33 → D.1 (200 + k) = con k := fun k hk => by
    rw [← hD]
    show (if 200 + k < 200 then cls (200 + k) else if 200 + k = 240 then b else con (200 + k - 200)) = con k
    rw [if_neg (by omega), if_neg (by omega), show 200 + k - 200 = k by omega]
  have D4 : D.2 = ism := by rw [← hD]
  have hKK : KK D ty s := by
    refine ⟨fun q r hq => ?_, fun q r hq => ?_⟩
    · have hlt : q < 9 := (List.getElem?_eq_some_iff.mp hq).1
      rw [D1 q (by omega), D4]
      exact hism q r hq
    · match q, hq with
      | 0, hq => cases hq; exact hty 0 _ rfl
      | 1, hq => cases hq; exact hty 1 _ rfl
      | 2, hq => cases hq; exact hty 2 _ rfl
      | 3, hq => cases hq; exact hty 3 _ rfl
      | 4, hq => cases hq; exact hty 4 _ rfl
      | 5, hq => cases hq; exact hty 5 _ rfl
      | 6, hq => cases hq; exact hty 6 _ rfl
      | q + 7, hq => cases hq
  have hCF : CF D s s.heap := ⟨s, b, rfl, State.WarmedH.refl s, hts, hgv, fun k t hk => by
    rw [D3 k (List.getElem?_eq_some_iff.mp hk).1]
    exact hcon k t hk⟩
  have hN0 : ∀ i, ov hN 0 [] i = none := fun i => ov_is (by simp) rfl
  have hRep : Rep s.heap D ty D.1 (ov hN 0 []) s.heap := ⟨fun i x h => absurd ((hN0 i).symm.trans h) (fun z => by cases z), fun i j x y h => absurd ((hN0 i).symm.trans h) (fun z => by cases z), Nat.le_refl _, fun _ _ => rfl, fun _ _ => rfl⟩
  have hSX : SX L xs s s.heap D := ⟨by rw [D2]; exact hX, by rw [D2]; exact hbl⟩
  have htr : l.stackTraces = false := by
    unfold Launch.stackTraces
    rw [hflags]
    decide
  rw [lg_entry_eq]
  have hl1 := lv_entry [Value.ref b] (n := 9) (Nat.le_of_ble_eq_true rfl)
  have hl2 : lv_args 0 [Value.ref b] = cvl D.1 [(0, .ref 240)] := by
    show [(0, Value.ref b)] = [(0, Value.ref (D.1 240))]
    rw [D2]
  rw [hl2] at hl1
  refine WQ (law_all (Ls := L) (xs := xs) hL p l e room_1 s m #[Value.ref b] below meth c s.heap D ty D.1 603072 7202922 s.heap [] 0 0 (fun _ _ o _ => o = .returned (some (.int 1))) (fun _ _ _ => False) _ hSX ⟨⟨hx, hb, htr, hml, hr, hlo, hnm, hown, hKK, hCF, Nat.le_of_ble_eq_true rfl, Nat.le_of_ble_eq_true rfl, Nat.le_refl _, Nat.le_refl _, Nat.le_refl _, htab⟩, Nat.le_refl _, Nat.le_refl _, hRep, va_S.rf, ?_, ?_⟩ hl1) ?_
  · intro v h' ad' t _ _ hv _ _ _
    have e1 : v = some (.int 1) := Sum.inl.inj hv
    subst e1
    rfl
  · intro E h' ad' t _ _ hv _ _ _
    cases hv
  · rintro t ⟨o, h1, h2, h3⟩
    rcases h3 with ⟨h4, L', ⟨h5, h6, h7⟩, h8⟩ | ⟨q, -, E, ce, L', hF, -⟩
    · refine ⟨o, h1, h2, h4, ?_⟩
      exact lw_closed (d0 := s.drawn) (Drawn.sameBut.refl s.drawn lw_cs) h5 h6 (State.sameButNew.drop_fresh (L := []) (J := L') h7 h8)
    · exact hF.elim
set_option maxHeartbeats 4000000 in
theorem lw_walk (l : Launch) (hflags : l.flags = flags0) (b : Addr) (xs : List Int32) : MetFree l x (headSpec (Jvm.Cond.code x code maxLocals ret :: tables_1) room_1) (lw_P b xs) (fun _ _ _ _ _ => True) lw_Q := by
  refine MetFree.of_bodyS (code := code) (maxLocals := maxLocals) (ret := ret) (by decide) ?_ ?_
  · intro args s m h hn
    obtain ⟨meth, c, h1, h2, h3, h4, h5, h6, -, -⟩ := Cond.code_spec hn (atoms_spec (ws := Jvm.Cond.code x code maxLocals ret :: tables_1) h _ List.mem_cons_self)
    exact ⟨meth, c, h1, h2, h3, h4, h5, h6⟩
  · intro p e s m args below meth c s₁ B hml0 hP _
    obtain ⟨rfl, hx, hbd, hgv⟩ := hP
    obtain ⟨scr, harrAt, hlist, hof, hsmall⟩ := hx
    obtain ⟨hcb, hkn, -, -⟩ := State.arrayAt?_spec harrAt
    have hown : s.vm.findClass R_law = some m.cls := findClass_of_methodNamed B.named
    have hts0 : ∀ c ∈ (Jvm.Cond.code x code maxLocals ret :: tables_1), c.before #[Value.ref b] s = true := atoms_spec (ws := Jvm.Cond.code x code maxLocals ret :: tables_1) B.pre
    have hts : ∀ w ∈ lw_tbl, w.before #[Value.ref b] s = true := k2_hts_sels lw_privs (fun w hw => hts0 w (List.mem_cons_of_mem _ hw)) lw_privs_ok
    have hml : c.maxLocals = 9 := B.maxLocals_eq (hts0 _ List.mem_cons_self)
    have X₀ : Stand p l e room_1 s m #[Value.ref b] below meth c s₁ [] 0 0 := Stand.of_body B
    have hh0 : s₁.heap = s.heap := by rw [B.state]; rfl
    have hsz : scr.slots.size = xs.length := by rw [← Array.length_toList, hlist, List.length_map]
    have hval : ∀ j : Nat, j < xs.length → scr.slots[j]? = some (.int (xs.getD j 0)) := fun j hj => by
      rw [← Array.getElem?_toList, hlist]
      simp [hj]
    have hbl : b < s.heap.size := (Array.getElem?_eq_some_iff.mp hcb).1
    have hX : va_X b xs.length (fun j => xs.getD j 0) s s.heap := ⟨scr, hcb, hof, hkn, hsz, hval⟩
    have K : W p l e room_1 s m #[Value.ref b] below meth c s₁.heap [] 0 0 (lw_Z below #[Value.ref b] s) (entryFrame m ([Value.ref b] : List Value).toArray 9) := by
      rw [hh0]
      have htab : c.exceptionTable.toList = [] := by
        obtain ⟨meth9, c9, h1, h2, -, -, -, -, h7, -⟩ := Cond.code_spec B.named (hts0 _ List.mem_cons_self)
        cases Option.some.inj (h1.symm.trans B.method)
        cases Option.some.inj (h2.symm.trans (Stand.of_body B).code)
        exact Array.isEmpty_iff.mp h7 ▸ rfl
      exact whole_start l hflags hbd ⟨B.exec, B.bytes, B.returns, hml, hown, hts, hX, hbl, B.notSynchronized, hgv, (name_of_methodNamed B.named B.method).1, htab⟩
    obtain ⟨t, a1, o, b1, b2, b3⟩ := K s₁ rfl X₀
    exact ⟨t, o, a1, b1, b2, b3⟩
theorem lw_pre_spec {args : Array Value} {s : State} (h : (Jvm.Cond.and given_1 narrow_1).before args s = true) (hr : rest_1_c.before args s = true) : ∃ (b : Addr) (xs : List Int32), lw_P b xs args s := by
  have hs := flat_of_before _ h
  have hq := flat_of_before _ hr
  have hc : (Cond.count 1).before args s = true := hs _ (by decide +kernel)
  have harr : (Cond.arrayOf (.arg 0) .int).before args s = true := hs _ (by decide +kernel)
  have hle : (Cond.le (.length (.arg 0)) (.int 2560)).before args s = true := hs _ (by decide +kernel)
  have hlen : (Cond.isInt (.length (.arg 0))).before args s = true := hq _ (by decide +kernel)
  have hall : (Cond.all (.arg 0) (.isInt (.elem (.arg 0) (.index 0)))).before args s = true := hq _ (by decide +kernel)
  obtain ⟨b, xs, hb, hx⟩ := State.ints_of_pre rfl harr hlen hall
  have hsm : xs.length < 2 ^ 31 := hx.choose_spec.2.2.2
  have hev : (Term.length (.arg 0)).eval args s none [] s = some (.int xs.length.toInt32) := hx.length_eval hb
  have hv := Cond.le_ints hev (show (Term.int 2560).eval args s none [] s = some (.int 2560) from rfl)
  have hd : xs.length.toInt32 ≤ 2560 := by
    simpa [Cond.before, Cond.holds, hv] using hle
  have hN : xs.length ≤ 2560 := (Int32.ofNat_le_ofNat hsm (by decide)).mp (show Int32.ofNat xs.length ≤ Int32.ofNat 2560 from hd)
  exact ⟨b, xs, Cond.one_arg hc (show args[0]? = some (.ref b) from hb), hx, hN, h⟩
theorem lw_comes (l : Launch) (hflags : l.flags = flags0) : Comes l x (Jvm.Cond.code x code maxLocals ret :: tables_1) room_1 (fun tb e args s => Calls_1 tb e args s ∧ rest_1 tb e args s ∧ Pre_1 tb e args s)
    (fun _ _ args s o t => lw_Q args s o t) := by
  intro p e ha hc hk s m args below hf hfit hheap happ hpre
  obtain ⟨b, xs, hP⟩ := lw_pre_spec hpre.2.2 hpre.2.1
  obtain ⟨k, o, h1, h2, h3, hQ⟩ := lw_walk l hflags b xs p e ha hc hk s m args below hf ((Spec.applies_iff_loose hf).mp happ).1 hP trivial
  exact ⟨k, o, h1, h2, h3, hQ⟩
theorem lw_frame {s t : State} {o : Outcome} {args : Array Value} (h : State.butDraws s t lw_cs (fun t1 => Framed s o t1 [] 603072 7202922)) :
    State.butDraws s t [Jvm.Choice.named "NaN.bits"] (fun t1 => Framed s o t1 (fieldLocs frame_1_writes args s ++ arrayLocs frame_1_arrays args s ++ staticLocs frame_1_statics s) 603072 7202922) := h
theorem lw_limb (L : Cond) (hL : ∀ (args : Array Value) (s t : State), L.after args s (.returned (some (.int 1))) t = true) :
    ArmFor flags0 classFile x code maxLocals ret World_1 tables_1 room_1 Calls_1 rest_1 Pre_1
      (fun tb e a s o t => postC L tb e a s o t ∧ State.butDraws s t [Jvm.Choice.named "NaN.bits"] (fun t1 => Framed s o t1 (fieldLocs frame_1_writes a s ++ arrayLocs frame_1_arrays a s ++ staticLocs frame_1_statics s) 603072 7202922)) := by
  intro l hflags _ _ p e ha hc hk s m args below hf hfit hheap happ hpre
  obtain ⟨k, o, h1, h2, h3, rfl, hF⟩ := lw_comes l hflags p e ha hc hk s m args below hf hfit hheap happ hpre
  exact ⟨k, _, h1, h2, h3, hL args s _, lw_frame hF⟩
theorem i_vc : Claimed_1_1 ∧ Claimed_1_2 := ⟨lw_limb limb_1_1 (fun args s t => by simp [limb_1_1, Cond.after, Cond.holds, Cond.value]), lw_limb limb_1_2 (fun args s t => Cond.after_iff.mpr (by
  first | (rw [show limb_1_2 = Cond.eq .result (.int 1) from rfl, Cond.eq_ints (x := 1) (y := 1) rfl rfl]; simp; done) | (simp [limb_1_2, Cond.value, Term.eval]; done)))⟩
