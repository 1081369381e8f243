/-! THE FRAME: abstract heap with places in place of addresses; AW: from here the method comes to an end with Φ -/
abbrev ae : Type := (Nat × vp_A) ⊕ (Nat × List Value)
abbrev ah : Type := Nat → Option ae
def cv (ad : Nat → Nat) (v : Value) : Value := match v with
  | .ref i => .ref (ad i)
  | w => w
def cvs (ad : Nat → Nat) (l : List Value) : List Value := l.map (cv ad)
def cvl (ad : Nat → Nat) (l : List (Nat × Value)) : List (Nat × Value) := l.map (fun q => (q.1, cv ad q.2))
def cA (ad : Nat → Nat) (x : vp_A) : vp_A := match x with
  | (n, .inr (.inr (.inr (.inr f)))) => (n, .inr (.inr (.inr (.inr (fun j => (f j).map ad)))))
  | y => y
def ce (ty : Nat → ClassId) (ad : Nat → Nat) (x : ae) : va_E := match x with
  | .inl (t, a) => .inl (ty t, cA ad a)
  | .inr (c, vs) => .inr (c, vs.map (cv ad))
theorem cv_cat (ad : Nat → Nat) (v : Value) : (cv ad v).category = v.category := by cases v <;> rfl
theorem cvs_cat (ad : Nat → Nat) (l : List Value) : ((cvs ad l).map fun v => v.category) = l.map fun v => v.category := by
  induction l with
  | nil => rfl
  | cons a l ih => simp only [cvs, List.map_cons, List.map_map] at ih ⊢; rw [cv_cat]; simp [cv_cat]
def kcl : List vw_C := [(RX1, TX1, 3), (RX1, TX1, 3), (RX2, TX2, 5), (RX3, TX3, 8), (RX4, TX4, 13), (RX5, TX5, 2), (RX6, TX6, 8), (RX7, TX7, 8), (RX8, TX8, 22)]
def ktl : List FieldType := [.int, .long, .boolean, .char, .double, .object RX4, .object "java/lang/String"]
def ktys (ty : Nat → ClassId) : List (ClassId × FieldType) := [(ty 0, .int), (ty 1, .long), (ty 2, .boolean), (ty 3, .char), (ty 4, .double), (ty 5, .object RX4), (ty 6, .object "java/lang/String")]
theorem ktys_get {ty : Nat → ClassId} {t : Nat} {f : FieldType} (h : ktl[t]? = some f) : (ktys ty)[t]? = some (ty t, f) := by
  match t, h with
  | 0, h => cases h; rfl
  | 1, h => cases h; rfl
  | 2, h => cases h; rfl
  | 3, h => cases h; rfl
  | 4, h => cases h; rfl
  | 5, h => cases h; rfl
  | 6, h => cases h; rfl
  | n + 7, h => simp [ktl] at h
abbrev KK (D : va_G) (ty : Nat → ClassId) (U : State) : Prop := va_K D kcl (ktys ty) U
/-- the constants that are known by place 200 and on -/
def kct : List Term := [.static RX0 "TASK" "LLineBalancer$Command;", .static RX0 "BEFORE" "LLineBalancer$Command;", .static RX0 "APART" "LLineBalancer$Command;", .static RX0 "TOGETHER" "LLineBalancer$Command;", .static RX0 "PUT" "LLineBalancer$Command;", .static RX0 "CYCLE" "LLineBalancer$Command;", .static RX7 "COMMANDS" "[LLineBalancer$Command;", .static RX7 "LOWEST_RULES" "[I", .static RX7 "HIGHEST_RULES" "[I", .string RX8 54, .string RX8 56, .string RX8 58, .string RX8 60, .string RX8 62, .string RX8 64, .string RX0 50, .string RX0 56, .string RX0 59, .string RX0 62, .string RX0 65, .string RX0 68, .field (.string RX8 54) "java/lang/String" "value" "[B", .field (.string RX8 56) "java/lang/String" "value" "[B", .field (.string RX8 58) "java/lang/String" "value" "[B", .field (.string RX8 60) "java/lang/String" "value" "[B", .field (.string RX8 62) "java/lang/String" "value" "[B", .field (.string RX8 64) "java/lang/String" "value" "[B", .field (.string RX0 50) "java/lang/String" "value" "[B", .field (.string RX0 56) "java/lang/String" "value" "[B", .field (.string RX0 59) "java/lang/String" "value" "[B", .field (.string RX0 62) "java/lang/String" "value" "[B", .field (.string RX0 65) "java/lang/String" "value" "[B", .field (.string RX0 68) "java/lang/String" "value" "[B"]
def CF (D : va_G) (U : State) (H0 : Heap) : Prop := ∃ (s0 : State) (b : Addr), s0.heap = H0 ∧ s0.WarmedH U.vm ∧ (∀ w ∈ lw_tbl, w.before #[Value.ref b] s0 = true) ∧ (Jvm.Cond.and given_1 narrow_1).before #[Value.ref b] s0 = true ∧ ∀ (k : Nat) (t : Term), kct[k]? = some t → t.eval #[Value.ref b] s0 none [] s0 = some (.ref (D.1 (200 + k)))
theorem CF.word {D : va_G} {U : State} {H0 : Heap} (h : CF D U H0) {w : Cond} (hw : w ∈ lw_tbl) (hg : goodWord w = true) (a : Array Value) : w.before a U = true := by
  obtain ⟨s0, b, -, hW, hts, -⟩ := h
  exact word_at hW (good_of_word hg) (hts w hw)
theorem CF.warm {D : va_G} {U V : State} {H0 : Heap} (h : CF D U H0) (hW : U.WarmedH V.vm) : CF D V H0 := by
  obtain ⟨s0, b, h0, hW0, hts, hn⟩ := h
  exact ⟨s0, b, h0, State.WarmedH.trans hW0 hW, hts, hn⟩
def Rep (H0 : Heap) (D : va_G) (ty : Nat → ClassId) (ad : Nat → Nat) (h : ah) (H : Heap) : Prop :=
  (∀ i x, h i = some x → va_at D kcl (ad i, ce ty ad x) H ∧ H0.size ≤ ad i) ∧ (∀ i j x y, h i = some x → h j = some y → ad i = ad j → i = j) ∧ H0.size ≤ H.size ∧ (∀ q : Nat, q < H0.size → H[q]? = H0[q]?) ∧ ∀ k : Nat, 200 ≤ k → ad k = D.1 k
/-- one place is written: the others stay -/
def uph (h : ah) (i : Nat) (x : ae) : ah := fun j => if j = i then some x else h j
theorem uph_same (h : ah) (i : Nat) (x : ae) : uph h i x i = some x := by simp [uph]
theorem uph_ne (h : ah) {i j : Nat} (x : ae) (hj : j ≠ i) : uph h i x j = h j := by simp [uph, hj]
theorem Rep.set {H0 : Heap} {D : va_G} {ty : Nat → ClassId} {ad : Nat → Nat} {h : ah} {H H1 : Heap} (hR : Rep H0 D ty ad h H) {i : Nat} {x0 x : ae} (hi : h i = some x0) (hx : va_at D kcl (ad i, ce ty ad x) H1) (hz : H1.size = H.size) (oq : ∀ q : Nat, q ≠ ad i → H1[q]? = H[q]?) : Rep H0 D ty ad (uph h i x) H1 := by
  obtain ⟨h1, h2, h3, h4, h5⟩ := hR
  have key : ∀ j y, uph h i x j = some y → ∃ y0, h j = some y0 := by
    intro j y hj
    by_cases e : j = i
    · exact ⟨x0, by rw [e]; exact hi⟩
    · exact ⟨y, by rw [uph_ne h x e] at hj; exact hj⟩
  refine ⟨fun j y hj => ?_, fun j k y z hj hk e => ?_, by omega, fun q hq => ?_, h5⟩
  · by_cases e : j = i
    · subst e
      rw [uph_same] at hj
      cases hj
      exact ⟨hx, (h1 j x0 hi).2⟩
    · rw [uph_ne h x e] at hj
      exact ⟨(h1 j y hj).1.kept (oq _ (fun z => e (h2 j i y x0 hj hi z))), (h1 j y hj).2⟩
  · obtain ⟨y0, hy0⟩ := key j y hj
    obtain ⟨z0, hz0⟩ := key k z hk
    exact h2 j k y0 z0 hy0 hz0 e
  · rw [oq q (fun e => by have := (h1 i x0 hi).2; omega)]
    exact h4 q hq
/-- the addresses may move where nothing lies yet -/
def agr (h : ah) (ad ad' : Nat → Nat) : Prop := ∀ i x, h i = some x → ad' i = ad i
abbrev Rs : Type := Option Value ⊕ String
abbrev MI : Type := MethodName × ByteArray × Nat × Option FieldType × List (Nat × Nat × Nat × Nat)
abbrev fre (H0 : Heap) : Addr → Prop := fun q => H0.size ≤ q
def Gd (M : MI) (dep : Nat) (p : Program) (l : Launch) (R : Room) (s : State) (m : MethodId) (meth : Method) (c : Code) (H0 : Heap) (D : va_G) (ty : Nat → ClassId) (mc ms : Nat) : Prop :=
  p.tables.exec = Jvm.exec ∧ c.code = M.2.1 ∧ l.stackTraces = false ∧ c.maxLocals = M.2.2.1 ∧ meth.sig.returnType = M.2.2.2.1 ∧ meth.locks = false ∧ meth.name = M.1.name ∧ s.vm.findClass M.1.cls = some m.cls ∧ KK D ty s ∧ CF D s H0 ∧
  dep ≤ R.frames ∧ 60 * dep ≤ R.locals ∧ mc ≤ R.cells ∧ ms ≤ R.slots ∧ H0.size ≤ s.heap.size ∧ c.exceptionTable.toList = tableOf M.2.2.2.2
/-- what the end must give: Qc, XC of the method's own contract follow from Φ -/
def Qok (fx : Bool) (Φ : Rs → ah → Prop) (h : ah) (args : Array Value) (s : State) (H0 : Heap) (D : va_G) (ty : Nat → ClassId) (ad : Nat → Nat) (Qc : Array Value → State → Outcome → State → Prop) (XC : String → State → State → Prop) : Prop :=
  (∀ (v : Option Value) (h' : ah) (ad' : Nat → Nat) (t : State), (fx = true → ad' = ad) → agr h ad ad' → Φ (.inl v) h' → Rep H0 D ty ad' h' t.heap → s.heap.size ≤ t.heap.size → s.vm.Alike t.vm → Qc args s (.returned (v.map (cv ad'))) t) ∧
  (∀ (E : String) (h' : ah) (ad' : Nat → Nat) (t : State), (fx = true → ad' = ad) → agr h ad ad' → Φ (.inr E) h' → Rep H0 D ty ad' h' t.heap → s.heap.size ≤ t.heap.size → s.vm.Alike t.vm → XC E s t)
def AK (M : MI) (dep : Nat) (fx : Bool) (Φ : Rs → ah → Prop) (k n : Nat) (h : ah) (p : Program) (l : Launch) (R : Room) (s : State) (m : MethodId) (args : Array Value) (meth : Method) (c : Code) (H0 : Heap) (D : va_G) (ty : Nat → ClassId) (ad : Nat → Nat) (mc ms : Nat) (H : Heap) (locs : List Loc) (cells slots : Nat) (Qc : Array Value → State → Outcome → State → Prop) (XC : String → State → State → Prop) : Prop :=
  Gd M dep p l R s m meth c H0 D ty mc ms ∧ cells + k ≤ mc ∧ slots + n ≤ ms ∧ Rep H0 D ty ad h H ∧ va_S (fre H0) s.heap H locs ∧ Qok fx Φ h args s H0 D ty ad Qc XC
def AW (M : MI) (dep : Nat) (fx : Bool) (Φ : Rs → ah → Prop) (k n pc : Nat) (lv : List (Nat × Value)) (st : List Value) (h : ah) : Prop :=
  ∀ (p : Program) (l : Launch) (e : Env) (R : Room) (s : State) (m : MethodId) (args : Array Value) (below : List Frame) (meth : Method) (c : Code) (H0 : Heap) (D : va_G) (ty : Nat → ClassId) (ad : Nat → Nat) (mc ms : Nat) (H : Heap) (locs : List Loc) (cells slots : Nat) (Qc : Array Value → State → Outcome → State → Prop) (XC : String → State → State → Prop) (ls : Array Slot),
    AK M dep fx Φ k n h p l R s m args meth c H0 D ty ad mc ms H locs cells slots Qc XC → lv_has ls M.2.2.1 (cvl ad lv) →
    W p l e R s m args below meth c H locs cells slots (vx_MQ below Qc XC args s mc ms (fre H0)) (F0 m pc ls (cvs ad st))
section AWR
variable {M : MI} {dep : Nat} {fx : Bool} {Φ : Rs → ah → Prop} {k n pc : Nat} {lv : List (Nat × Value)} {st : List Value} {h : ah}
/-- a row that leaves the heap and the locals alone -/
theorem AW.pure {pc' : Nat} {st st' : List Value} (f : ∀ (p : Program) (l : Launch) (e : Env) (R : Room) (s : State) (m : MethodId) (args : Array Value) (below : List Frame) (meth : Method) (c : Code) (H : Heap) (locs : List Loc) (cells slots : Nat) (Q : State → Prop) (ls : Array Slot) (ad : Nat → Nat), p.tables.exec = Jvm.exec → c.code = M.2.1 → lv_has ls M.2.2.1 (cvl ad lv) → W p l e R s m args below meth c H locs cells slots Q (F0 m pc' ls (cvs ad st')) → W p l e R s m args below meth c H locs cells slots Q (F0 m pc ls (cvs ad st)))
    (kk : AW M dep fx Φ k n pc' lv st' h) : AW M dep fx Φ k n pc lv st h := by
  intro p l e R s m args below meth c H0 D ty ad mc ms H locs cells slots Qc XC ls G hl
  exact f p l e R s m args below meth c H locs cells slots _ ls ad G.1.1 G.1.2.1 hl (kk p l e R s m args below meth c H0 D ty ad mc ms H locs cells slots Qc XC ls G hl)
def lget : List (Nat × Value) → Nat → Option Value
  | [], _ => none
  | q :: l, i => bif Nat.beq q.1 i then some q.2 else lget l i
theorem lget_has {ls : Array Slot} {nL : Nat} {ad : Nat → Nat} {i : Nat} {v : Value} {lv : List (Nat × Value)} (hl : lv_has ls nL (cvl ad lv)) (hg : lget lv i = some v) : ls[i]? = some (.val (cv ad v)) := by
  have key : ∀ (l : List (Nat × Value)), lget l i = some v → (i, v) ∈ l := by
    intro l
    induction l with
    | nil => intro h; cases h
    | cons q l ih =>
      intro h
      unfold lget at h
      cases hb : Nat.beq q.1 i with
      | true =>
        rw [hb] at h
        have e : q.1 = i := Nat.eq_of_beq_eq_true hb
        cases h
        rw [← e]
        exact List.mem_cons_self
      | false =>
        rw [hb] at h
        exact List.mem_cons_of_mem _ (ih h)
  exact hl.2.2 (i, cv ad v) (List.mem_map.mpr ⟨(i, v), key lv hg, rfl⟩)
def su (i : Nat) (v : Value) : List (Nat × Value) → List (Nat × Value)
  | [] => [(i, v)]
  | q :: l => bif Nat.beq q.1 i then (i, v) :: l else bif Nat.ble i q.1 then (i, v) :: q :: l else q :: su i v l
/-- sorted, and no wide value lies just below i -/
def sok (i : Nat) : List (Nat × Value) → Bool
  | [] => true
  | q :: l => (l.all (fun r => Nat.blt q.1 r.1)) && !(Nat.beq (q.1 + 1) i && Nat.beq q.2.category 2) && sok i l
/-- .. and for a wide value nothing lies just above -/
def sok2 (i : Nat) : List (Nat × Value) → Bool
  | [] => true
  | q :: l => !(Nat.beq q.1 (i + 1)) && sok2 i l
theorem su_mem {i : Nat} {v : Value} : ∀ {lv : List (Nat × Value)}, sok i lv = true → ∀ q ∈ su i v lv, q = (i, v) ∨ (q ∈ lv ∧ q.1 ≠ i ∧ ¬ (q.1 + 1 = i ∧ q.2.category = 2)) := by
  intro lv
  induction lv with
  | nil => intro _ q hq; simp [su] at hq; exact Or.inl hq
  | cons a l ih =>
    intro hs q hq
    simp only [sok, Bool.and_eq_true, Bool.not_eq_true', Bool.and_eq_false_imp] at hs
    obtain ⟨⟨h1, h2⟩, h3⟩ := hs
    have hlt : ∀ r ∈ l, a.1 < r.1 := by
      intro r hr
      have := List.all_eq_true.mp h1 r hr
      simpa [Nat.blt_eq] using this
    have hcat : ∀ r : Nat × Value, r ∈ a :: l → ¬ (r.1 + 1 = i ∧ r.2.category = 2) := by
      have : ∀ (l : List (Nat × Value)), sok i l = true → ∀ r ∈ l, ¬ (r.1 + 1 = i ∧ r.2.category = 2) := by
        intro l
        induction l with
        | nil => intro _ r hr; cases hr
        | cons b l ih2 =>
          intro hs r hr
          simp only [sok, Bool.and_eq_true, Bool.not_eq_true', Bool.and_eq_false_imp] at hs
          rcases List.mem_cons.mp hr with e | e
          · rintro ⟨g1, g2⟩
            have := hs.1.2 (by rw [← e, g1]; exact Nat.beq_refl _)
            rw [← e, g2] at this
            exact absurd this (by decide)
          · exact ih2 hs.2 r e
      intro r hr
      rcases List.mem_cons.mp hr with e | e
      · rintro ⟨g1, g2⟩
        have := h2 (by rw [← e, g1]; exact Nat.beq_refl _)
        rw [← e, g2] at this
        exact absurd this (by decide)
      · exact this l h3 r e
    unfold su at hq
    cases hb : Nat.beq a.1 i with
    | true =>
      rw [hb] at hq
      have e : a.1 = i := Nat.eq_of_beq_eq_true hb
      rcases List.mem_cons.mp hq with g | g
      · exact Or.inl g
      · exact Or.inr ⟨List.mem_cons_of_mem _ g, by have := hlt q g; omega, hcat q (List.mem_cons_of_mem _ g)⟩
    | false =>
      rw [hb] at hq
      have e : a.1 ≠ i := Nat.ne_of_beq_eq_false hb
      cases hb2 : Nat.ble i a.1 with
      | true =>
        rw [hb2] at hq
        have e2 : i ≤ a.1 := Nat.le_of_ble_eq_true hb2
        rcases List.mem_cons.mp hq with g | g
        · exact Or.inl g
        · refine Or.inr ⟨g, ?_, hcat q g⟩
          rcases List.mem_cons.mp g with g2 | g2
          · rw [g2]; exact e
          · have := hlt q g2; omega
      | false =>
        rw [hb2] at hq
        rcases List.mem_cons.mp hq with g | g
        · exact Or.inr ⟨by rw [g]; exact List.mem_cons_self, by rw [g]; exact e, hcat q (by rw [g]; exact List.mem_cons_self)⟩
        · rcases ih h3 q g with g2 | ⟨g2, g3⟩
          · exact Or.inl g2
          · exact Or.inr ⟨List.mem_cons_of_mem _ g2, g3⟩
theorem su_has1 {ls' : Array Slot} {nL i : Nat} {ad : Nat → Nat} {v : Value} {lv : List (Nat × Value)} (hs : sok i lv = true) (h : lv_has ls' nL ((i, cv ad v) :: (cvl ad lv).filter (fun q => !(q.1 == i) && !(q.1 + 1 == i && q.2.category == 2)))) : lv_has ls' nL (cvl ad (su i v lv)) := by
  obtain ⟨h1, h2, h3⟩ := h
  refine ⟨h1, h2, fun q hq => ?_⟩
  obtain ⟨r, hr, rfl⟩ := List.mem_map.mp hq
  rcases su_mem hs r hr with e | ⟨g1, g2, g3⟩
  · rw [e]
    exact h3 _ List.mem_cons_self
  · refine h3 _ (List.mem_cons_of_mem _ (List.mem_filter.mpr ⟨List.mem_map.mpr ⟨r, g1, rfl⟩, ?_⟩))
    simp only [cv_cat, Bool.and_eq_true, Bool.not_eq_true', Bool.and_eq_false_imp, beq_iff_eq, beq_eq_false_iff_ne]
    exact ⟨g2, fun a b => g3 ⟨a, b⟩⟩
theorem sok2_mem {i : Nat} : ∀ {lv : List (Nat × Value)}, sok2 i lv = true → ∀ q ∈ lv, q.1 ≠ i + 1 := by
  intro lv
  induction lv with
  | nil => intro _ q hq; cases hq
  | cons a l ih =>
    intro hs q hq
    simp only [sok2, Bool.and_eq_true, Bool.not_eq_true'] at hs
    rcases List.mem_cons.mp hq with g | g
    · rw [g]; exact Nat.ne_of_beq_eq_false hs.1
    · exact ih hs.2 q g
theorem su_has2 {ls' : Array Slot} {nL i : Nat} {ad : Nat → Nat} {v : Value} {lv : List (Nat × Value)} (hs : sok i lv = true) (hs2 : sok2 i lv = true) (h : lv_has ls' nL ((i, cv ad v) :: (cvl ad lv).filter (fun q => !(q.1 == i) && (!(q.1 == i + 1) && !(q.1 + 1 == i && q.2.category == 2))))) : lv_has ls' nL (cvl ad (su i v lv)) := by
  obtain ⟨h1, h2, h3⟩ := h
  refine ⟨h1, h2, fun q hq => ?_⟩
  obtain ⟨r, hr, rfl⟩ := List.mem_map.mp hq
  rcases su_mem hs r hr with e | ⟨g1, g2, g3⟩
  · rw [e]
    exact h3 _ List.mem_cons_self
  · refine h3 _ (List.mem_cons_of_mem _ (List.mem_filter.mpr ⟨List.mem_map.mpr ⟨r, g1, rfl⟩, ?_⟩))
    simp only [cv_cat, Bool.and_eq_true, Bool.not_eq_true', Bool.and_eq_false_imp, beq_iff_eq, beq_eq_false_iff_ne]
    exact ⟨g2, sok2_mem hs2 r g1, fun a b => g3 ⟨a, b⟩⟩
/-- a row that writes a local -/
theorem AW.stor {pc' : Nat} {st st' : List Value} {lv' : List (Nat × Value)} (f : ∀ (p : Program) (l : Launch) (e : Env) (R : Room) (s : State) (m : MethodId) (args : Array Value) (below : List Frame) (meth : Method) (c : Code) (H : Heap) (locs : List Loc) (cells slots : Nat) (Q : State → Prop) (ls : Array Slot) (ad : Nat → Nat), p.tables.exec = Jvm.exec → c.code = M.2.1 → lv_has ls M.2.2.1 (cvl ad lv) → (∀ ls' : Array Slot, lv_has ls' M.2.2.1 (cvl ad lv') → W p l e R s m args below meth c H locs cells slots Q (F0 m pc' ls' (cvs ad st'))) → W p l e R s m args below meth c H locs cells slots Q (F0 m pc ls (cvs ad st)))
    (kk : AW M dep fx Φ k n pc' lv' st' h) : AW M dep fx Φ k n pc lv st h := by
  intro p l e R s m args below meth c H0 D ty ad mc ms H locs cells slots Qc XC ls G hl
  exact f p l e R s m args below meth c H locs cells slots _ ls ad G.1.1 G.1.2.1 hl (fun ls' hl' => kk p l e R s m args below meth c H0 D ty ad mc ms H locs cells slots Qc XC ls' G hl')
theorem aw_pick (ks : List Nat) (kk : AW M dep fx Φ k n pc (lv_pick lv ks) st h) : AW M dep fx Φ k n pc lv st h := by
  refine AW.stor (fun p l e R s m args below meth c H locs cells slots Q ls ad hx hb hl g => g ls ?_) kk
  refine ⟨hl.1, hl.2.1, fun q hq => ?_⟩
  obtain ⟨r, hr, rfl⟩ := List.mem_map.mp hq
  obtain ⟨i, -, hi⟩ := List.mem_filterMap.mp hr
  exact hl.2.2 _ (List.mem_map.mpr ⟨r, List.mem_of_getElem? hi, rfl⟩)
theorem aw_more {k' n' : Nat} (hk : k' ≤ k) (hn : n' ≤ n) (kk : AW M dep fx Φ k' n' pc lv st h) : AW M dep fx Φ k n pc lv st h := by
  intro p l e R s m args below meth c H0 D ty ad mc ms H locs cells slots Qc XC ls G hl
  obtain ⟨g1, g2, g3, g4⟩ := G
  exact kk p l e R s m args below meth c H0 D ty ad mc ms H locs cells slots Qc XC ls ⟨g1, by omega, by omega, g4⟩ hl
theorem aw_dep {dep' : Nat} (hd : dep' ≤ dep) (kk : AW M dep' fx Φ k n pc lv st h) : AW M dep fx Φ k n pc lv st h := by
  intro p l e R s m args below meth c H0 D ty ad mc ms H locs cells slots Qc XC ls G hl
  obtain ⟨⟨a1, a2, a3, a4, a5, a6, a7, a8, a9, a10, a11, a12, a13⟩, g2⟩ := G
  exact kk p l e R s m args below meth c H0 D ty ad mc ms H locs cells slots Qc XC ls ⟨⟨a1, a2, a3, a4, a5, a6, a7, a8, a9, a10, by omega, by omega, a13⟩, g2⟩ hl
theorem aw_post {Φ' : Rs → ah → Prop} (hi : ∀ r h', Φ' r h' → Φ r h') (kk : AW M dep fx Φ' k n pc lv st h) : AW M dep fx Φ k n pc lv st h := by
  intro p l e R s m args below meth c H0 D ty ad mc ms H locs cells slots Qc XC ls G hl
  obtain ⟨g1, g2, g3, g4, g5, g6, g7⟩ := G
  exact kk p l e R s m args below meth c H0 D ty ad mc ms H locs cells slots Qc XC ls ⟨g1, g2, g3, g4, g5, fun v h' ad' t a b c' => g6 v h' ad' t a b (hi _ _ c'), fun E h' ad' t a b c' => g7 E h' ad' t a b (hi _ _ c')⟩ hl
theorem aw_join {P : Int32 → Prop} (pcJ : Nat) (kl : ∀ v, P v → AW M dep fx Φ k n pcJ lv (.int v :: st) h) (kk : (∀ v, P v → AW M dep fx Φ k n pcJ lv (.int v :: st) h) → AW M dep fx Φ k n pc lv st h) : AW M dep fx Φ k n pc lv st h := kk kl
theorem lget_mem {i : Nat} {v : Value} {lv : List (Nat × Value)} (h : lget lv i = some v) : (i, v) ∈ lv := by
  induction lv with
  | nil => cases h
  | cons q l ih =>
    unfold lget at h
    cases hb : Nat.beq q.1 i with
    | true =>
      rw [hb] at h
      have e : q.1 = i := Nat.eq_of_beq_eq_true hb
      cases h
      rw [← e]
      exact List.mem_cons_self
    | false =>
      rw [hb] at h
      exact List.mem_cons_of_mem _ (ih h)
theorem aw_iconst {z : Int} {v : Int32} (d : decode M.2.1 pc = .ok (.iconst z, 1)) (hv : Int32.ofInt z = v) (kk : AW M dep fx Φ k n (pc + 1) lv (.int v :: st) h) : AW M dep fx Φ k n pc lv (st) h := AW.pure (fun p l e R s m args below meth c H locs cells slots Q ls ad hx hb hl g => lv_iconst hx hb d hv g) kk
theorem aw_bipush {z : Int} {v : Int32} (d : decode M.2.1 pc = .ok (.bipush z, 2)) (hv : (Int8.ofInt z).toInt32 = v) (kk : AW M dep fx Φ k n (pc + 2) lv (.int v :: st) h) : AW M dep fx Φ k n pc lv (st) h := AW.pure (fun p l e R s m args below meth c H locs cells slots Q ls ad hx hb hl g => lv_bipush hx hb d hv g) kk
theorem aw_sipush {z : Int} {v : Int32} (d : decode M.2.1 pc = .ok (.sipush z, 3)) (hv : (Int16.ofInt z).toInt32 = v) (kk : AW M dep fx Φ k n (pc + 3) lv (.int v :: st) h) : AW M dep fx Φ k n pc lv (st) h := AW.pure (fun p l e R s m args below meth c H locs cells slots Q ls ad hx hb hl g => lv_sipush hx hb d hv g) kk
theorem aw_lconst {z : Fin 2} {v : Int64} (d : decode M.2.1 pc = .ok (.lconst z, 1)) (hv : Int64.ofNat (z : Nat) = v) (kk : AW M dep fx Φ k n (pc + 1) lv (.long v :: st) h) : AW M dep fx Φ k n pc lv (st) h := AW.pure (fun p l e R s m args below meth c H locs cells slots Q ls ad hx hb hl g => lv_lconst hx hb d hv g) kk
theorem aw_iload_n {j : Fin 4} {x : Int32} (d : decode M.2.1 pc = .ok (.iload_n j, 1)) (hg : lget lv (j : Nat) = some (.int x)) (kk : AW M dep fx Φ k n (pc + 1) lv (.int x :: st) h) : AW M dep fx Φ k n pc lv st h := AW.pure (fun p l e R s m args below meth c H locs cells slots Q ls ad hx hb hl g => lv_iload_n hx hb d rfl (lget_has hl hg) g) kk
theorem aw_iload {i : Nat} {x : Int32} (d : decode M.2.1 pc = .ok (.iload i, 2)) (hg : lget lv i = some (.int x)) (kk : AW M dep fx Φ k n (pc + 2) lv (.int x :: st) h) : AW M dep fx Φ k n pc lv st h := AW.pure (fun p l e R s m args below meth c H locs cells slots Q ls ad hx hb hl g => lv_iload hx hb d  (lget_has hl hg) g) kk
theorem aw_istore_n {j : Fin 4} {x : Int32} (d : decode M.2.1 pc = .ok (.istore_n j, 1)) (hn : (j : Nat) < M.2.2.1) (hs : sok (j : Nat) lv = true) (kk : AW M dep fx Φ k n (pc + 1) (su (j : Nat) (.int x) lv) st h) : AW M dep fx Φ k n pc lv (.int x :: st) h := AW.stor (fun p l e R s m args below meth c H locs cells slots Q ls ad hx hb hl g => lv_istore_n hx hb d rfl hl hn rfl (fun ls' h' => g ls' (su_has1 (v := .int x) hs h'))) kk
theorem aw_istore {i : Nat} {x : Int32} (d : decode M.2.1 pc = .ok (.istore i, 2)) (hn : i < M.2.2.1) (hs : sok i lv = true) (kk : AW M dep fx Φ k n (pc + 2) (su i (.int x) lv) st h) : AW M dep fx Φ k n pc lv (.int x :: st) h := AW.stor (fun p l e R s m args below meth c H locs cells slots Q ls ad hx hb hl g => lv_istore hx hb d  hl hn rfl (fun ls' h' => g ls' (su_has1 (v := .int x) hs h'))) kk
theorem aw_lload_n {j : Fin 4} {x : Int64} (d : decode M.2.1 pc = .ok (.lload_n j, 1)) (hg : lget lv (j : Nat) = some (.long x)) (kk : AW M dep fx Φ k n (pc + 1) lv (.long x :: st) h) : AW M dep fx Φ k n pc lv st h := AW.pure (fun p l e R s m args below meth c H locs cells slots Q ls ad hx hb hl g => lv_lload_n hx hb d rfl (lget_has hl hg) g) kk
theorem aw_lload {i : Nat} {x : Int64} (d : decode M.2.1 pc = .ok (.lload i, 2)) (hg : lget lv i = some (.long x)) (kk : AW M dep fx Φ k n (pc + 2) lv (.long x :: st) h) : AW M dep fx Φ k n pc lv st h := AW.pure (fun p l e R s m args below meth c H locs cells slots Q ls ad hx hb hl g => lv_lload hx hb d  (lget_has hl hg) g) kk
theorem aw_lstore_n {j : Fin 4} {x : Int64} (d : decode M.2.1 pc = .ok (.lstore_n j, 1)) (hn : (j : Nat) + 1 < M.2.2.1) (hs : sok (j : Nat) lv = true) (hs2 : sok2 (j : Nat) lv = true) (kk : AW M dep fx Φ k n (pc + 1) (su (j : Nat) (.long x) lv) st h) : AW M dep fx Φ k n pc lv (.long x :: st) h := AW.stor (fun p l e R s m args below meth c H locs cells slots Q ls ad hx hb hl g => lv_lstore_n hx hb d rfl hl hn rfl (fun ls' h' => g ls' (su_has2 (v := .long x) hs hs2 h'))) kk
theorem aw_lstore {i : Nat} {x : Int64} (d : decode M.2.1 pc = .ok (.lstore i, 2)) (hn : i + 1 < M.2.2.1) (hs : sok i lv = true) (hs2 : sok2 i lv = true) (kk : AW M dep fx Φ k n (pc + 2) (su i (.long x) lv) st h) : AW M dep fx Φ k n pc lv (.long x :: st) h := AW.stor (fun p l e R s m args below meth c H locs cells slots Q ls ad hx hb hl g => lv_lstore hx hb d  hl hn rfl (fun ls' h' => g ls' (su_has2 (v := .long x) hs hs2 h'))) kk
theorem aw_fload_n {j : Fin 4} {x : UInt32} (d : decode M.2.1 pc = .ok (.fload_n j, 1)) (hg : lget lv (j : Nat) = some (.float x)) (kk : AW M dep fx Φ k n (pc + 1) lv (.float x :: st) h) : AW M dep fx Φ k n pc lv st h := AW.pure (fun p l e R s m args below meth c H locs cells slots Q ls ad hx hb hl g => lv_fload_n hx hb d rfl (lget_has hl hg) g) kk
theorem aw_fload {i : Nat} {x : UInt32} (d : decode M.2.1 pc = .ok (.fload i, 2)) (hg : lget lv i = some (.float x)) (kk : AW M dep fx Φ k n (pc + 2) lv (.float x :: st) h) : AW M dep fx Φ k n pc lv st h := AW.pure (fun p l e R s m args below meth c H locs cells slots Q ls ad hx hb hl g => lv_fload hx hb d  (lget_has hl hg) g) kk
theorem aw_fstore_n {j : Fin 4} {x : UInt32} (d : decode M.2.1 pc = .ok (.fstore_n j, 1)) (hn : (j : Nat) < M.2.2.1) (hs : sok (j : Nat) lv = true) (kk : AW M dep fx Φ k n (pc + 1) (su (j : Nat) (.float x) lv) st h) : AW M dep fx Φ k n pc lv (.float x :: st) h := AW.stor (fun p l e R s m args below meth c H locs cells slots Q ls ad hx hb hl g => lv_fstore_n hx hb d rfl hl hn rfl (fun ls' h' => g ls' (su_has1 (v := .float x) hs h'))) kk
theorem aw_fstore {i : Nat} {x : UInt32} (d : decode M.2.1 pc = .ok (.fstore i, 2)) (hn : i < M.2.2.1) (hs : sok i lv = true) (kk : AW M dep fx Φ k n (pc + 2) (su i (.float x) lv) st h) : AW M dep fx Φ k n pc lv (.float x :: st) h := AW.stor (fun p l e R s m args below meth c H locs cells slots Q ls ad hx hb hl g => lv_fstore hx hb d  hl hn rfl (fun ls' h' => g ls' (su_has1 (v := .float x) hs h'))) kk
theorem aw_aload_n {j : Fin 4} {x : Nat} (d : decode M.2.1 pc = .ok (.aload_n j, 1)) (hg : lget lv (j : Nat) = some (.ref x)) (kk : AW M dep fx Φ k n (pc + 1) lv (.ref x :: st) h) : AW M dep fx Φ k n pc lv st h := AW.pure (fun p l e R s m args below meth c H locs cells slots Q ls ad hx hb hl g => lv_aload_n hx hb d rfl (lget_has hl hg) g) kk
theorem aw_aload {i : Nat} {x : Nat} (d : decode M.2.1 pc = .ok (.aload i, 2)) (hg : lget lv i = some (.ref x)) (kk : AW M dep fx Φ k n (pc + 2) lv (.ref x :: st) h) : AW M dep fx Φ k n pc lv st h := AW.pure (fun p l e R s m args below meth c H locs cells slots Q ls ad hx hb hl g => lv_aload hx hb d  (lget_has hl hg) g) kk
theorem aw_astore_n {j : Fin 4} {x : Nat} (d : decode M.2.1 pc = .ok (.astore_n j, 1)) (hn : (j : Nat) < M.2.2.1) (hs : sok (j : Nat) lv = true) (kk : AW M dep fx Φ k n (pc + 1) (su (j : Nat) (.ref x) lv) st h) : AW M dep fx Φ k n pc lv (.ref x :: st) h := AW.stor (fun p l e R s m args below meth c H locs cells slots Q ls ad hx hb hl g => lv_astore_n hx hb d rfl hl hn rfl (fun ls' h' => g ls' (su_has1 (v := .ref x) hs h'))) kk
theorem aw_astore {i : Nat} {x : Nat} (d : decode M.2.1 pc = .ok (.astore i, 2)) (hn : i < M.2.2.1) (hs : sok i lv = true) (kk : AW M dep fx Φ k n (pc + 2) (su i (.ref x) lv) st h) : AW M dep fx Φ k n pc lv (.ref x :: st) h := AW.stor (fun p l e R s m args below meth c H locs cells slots Q ls ad hx hb hl g => lv_astore hx hb d  hl hn rfl (fun ls' h' => g ls' (su_has1 (v := .ref x) hs h'))) kk
theorem aw_iinc {i : Nat} {z : Int} {x v : Int32} (d : decode M.2.1 pc = .ok (.iinc i z, 3)) (hg : lget lv i = some (.int x)) (hv : x + Int32.ofInt z = v) (hn : i < M.2.2.1) (hs : sok i lv = true) (kk : AW M dep fx Φ k n (pc + 3) (su i (.int v) lv) st h) : AW M dep fx Φ k n pc lv st h := AW.stor (fun p l e R s m args below meth c H locs cells slots Q ls ad hx hb hl g => by
  obtain ⟨j, hj⟩ : ∃ j : Nat, (cvl ad lv)[j]? = some (i, .int x) := List.mem_iff_getElem?.mp (List.mem_map.mpr ⟨(i, .int x), lget_mem hg, rfl⟩)
  exact lv_iinc hx hb d hl hj hv hn rfl (fun ls' h' => g ls' (su_has1 (v := .int v) hs h'))) kk
theorem aw_iadd {x y : Int32} (d : decode M.2.1 pc = .ok (.iadd, 1))  (kk : AW M dep fx Φ k n (pc + 1) lv (.int (x + y) :: st) h) : AW M dep fx Φ k n pc lv (.int y :: .int x :: st) h := AW.pure (fun p l e R s m args below meth c H locs cells slots Q ls ad hx hb hl g => lv_iadd hx hb d  g) kk
theorem aw_isub {x y : Int32} (d : decode M.2.1 pc = .ok (.isub, 1))  (kk : AW M dep fx Φ k n (pc + 1) lv (.int (x - y) :: st) h) : AW M dep fx Φ k n pc lv (.int y :: .int x :: st) h := AW.pure (fun p l e R s m args below meth c H locs cells slots Q ls ad hx hb hl g => lv_isub hx hb d  g) kk
theorem aw_imul {x y : Int32} (d : decode M.2.1 pc = .ok (.imul, 1))  (kk : AW M dep fx Φ k n (pc + 1) lv (.int (x * y) :: st) h) : AW M dep fx Φ k n pc lv (.int y :: .int x :: st) h := AW.pure (fun p l e R s m args below meth c H locs cells slots Q ls ad hx hb hl g => lv_imul hx hb d  g) kk
theorem aw_iand {x y : Int32} (d : decode M.2.1 pc = .ok (.iand, 1))  (kk : AW M dep fx Φ k n (pc + 1) lv (.int (x &&& y) :: st) h) : AW M dep fx Φ k n pc lv (.int y :: .int x :: st) h := AW.pure (fun p l e R s m args below meth c H locs cells slots Q ls ad hx hb hl g => lv_iand hx hb d  g) kk
theorem aw_ior {x y : Int32} (d : decode M.2.1 pc = .ok (.ior, 1))  (kk : AW M dep fx Φ k n (pc + 1) lv (.int (x ||| y) :: st) h) : AW M dep fx Φ k n pc lv (.int y :: .int x :: st) h := AW.pure (fun p l e R s m args below meth c H locs cells slots Q ls ad hx hb hl g => lv_ior hx hb d  g) kk
theorem aw_ixor {x y : Int32} (d : decode M.2.1 pc = .ok (.ixor, 1))  (kk : AW M dep fx Φ k n (pc + 1) lv (.int (x ^^^ y) :: st) h) : AW M dep fx Φ k n pc lv (.int y :: .int x :: st) h := AW.pure (fun p l e R s m args below meth c H locs cells slots Q ls ad hx hb hl g => lv_ixor hx hb d  g) kk
theorem aw_ishl {x y : Int32} (d : decode M.2.1 pc = .ok (.ishl, 1))  (kk : AW M dep fx Φ k n (pc + 1) lv (.int (x <<< (y &&& 31)) :: st) h) : AW M dep fx Φ k n pc lv (.int y :: .int x :: st) h := AW.pure (fun p l e R s m args below meth c H locs cells slots Q ls ad hx hb hl g => lv_ishl hx hb d  g) kk
theorem aw_ishr {x y : Int32} (d : decode M.2.1 pc = .ok (.ishr, 1))  (kk : AW M dep fx Φ k n (pc + 1) lv (.int (x >>> (y &&& 31)) :: st) h) : AW M dep fx Φ k n pc lv (.int y :: .int x :: st) h := AW.pure (fun p l e R s m args below meth c H locs cells slots Q ls ad hx hb hl g => lv_ishr hx hb d  g) kk
theorem aw_idiv {x y : Int32} (d : decode M.2.1 pc = .ok (.idiv, 1)) (hne : ¬ y = 0) (kk : AW M dep fx Φ k n (pc + 1) lv (.int (x / y) :: st) h) : AW M dep fx Φ k n pc lv (.int y :: .int x :: st) h := AW.pure (fun p l e R s m args below meth c H locs cells slots Q ls ad hx hb hl g => lv_idiv hx hb d hne g) kk
theorem aw_ladd {x y : Int64} (d : decode M.2.1 pc = .ok (.ladd, 1))  (kk : AW M dep fx Φ k n (pc + 1) lv (.long (x + y) :: st) h) : AW M dep fx Φ k n pc lv (.long y :: .long x :: st) h := AW.pure (fun p l e R s m args below meth c H locs cells slots Q ls ad hx hb hl g => lv_ladd hx hb d  g) kk
theorem aw_lmul {x y : Int64} (d : decode M.2.1 pc = .ok (.lmul, 1))  (kk : AW M dep fx Φ k n (pc + 1) lv (.long (x * y) :: st) h) : AW M dep fx Φ k n pc lv (.long y :: .long x :: st) h := AW.pure (fun p l e R s m args below meth c H locs cells slots Q ls ad hx hb hl g => lv_lmul hx hb d  g) kk
theorem aw_i2l {x : Int32} (d : decode M.2.1 pc = .ok (.i2l, 1))  (kk : AW M dep fx Φ k n (pc + 1) lv (.long x.toInt64 :: st) h) : AW M dep fx Φ k n pc lv (.int x :: st) h := AW.pure (fun p l e R s m args below meth c H locs cells slots Q ls ad hx hb hl g => lv_i2l hx hb d rfl g) kk
theorem aw_i2c {x : Int32} (d : decode M.2.1 pc = .ok (.i2c, 1))  (kk : AW M dep fx Φ k n (pc + 1) lv (.int (x.toUInt32 % 65536).toInt32 :: st) h) : AW M dep fx Φ k n pc lv (.int x :: st) h := AW.pure (fun p l e R s m args below meth c H locs cells slots Q ls ad hx hb hl g => lv_i2c hx hb d rfl g) kk
theorem aw_i2f {x : Int32} (d : decode M.2.1 pc = .ok (.i2f, 1))  (kk : AW M dep fx Φ k n (pc + 1) lv (.float (FP.i2f x) :: st) h) : AW M dep fx Φ k n pc lv (.int x :: st) h := AW.pure (fun p l e R s m args below meth c H locs cells slots Q ls ad hx hb hl g => lv_i2f hx hb d  g) kk
theorem aw_fdiv {x y : UInt32} (d : decode M.2.1 pc = .ok (.fdiv, 1)) (hne : vf_n32 (FP.fdiv x y)) (kk : AW M dep fx Φ k n (pc + 1) lv (.float (FP.fdiv x y) :: st) h) : AW M dep fx Φ k n pc lv (.float y :: .float x :: st) h := AW.pure (fun p l e R s m args below meth c H locs cells slots Q ls ad hx hb hl g => lv_fdiv hx hb d hne g) kk
theorem aw_f2d {x : UInt32} (d : decode M.2.1 pc = .ok (.f2d, 1)) (hne : vf_n64 (FP.f2d x)) (kk : AW M dep fx Φ k n (pc + 1) lv (.double (FP.f2d x) :: st) h) : AW M dep fx Φ k n pc lv (.float x :: st) h := AW.pure (fun p l e R s m args below meth c H locs cells slots Q ls ad hx hb hl g => lv_f2d hx hb d hne g) kk
theorem aw_fcmp {x y : UInt32} {op : CmpOp} (d : decode M.2.1 pc = .ok (.fcmp op, 1))  (kk : AW M dep fx Φ k n (pc + 1) lv (.int (Op.cmpValue (FP.fcmp x y) op) :: st) h) : AW M dep fx Φ k n pc lv (.float y :: .float x :: st) h := AW.pure (fun p l e R s m args below meth c H locs cells slots Q ls ad hx hb hl g => lv_fcmp hx hb d  g) kk
theorem aw_dcmp {x y : UInt64} {op : CmpOp} (d : decode M.2.1 pc = .ok (.dcmp op, 1))  (kk : AW M dep fx Φ k n (pc + 1) lv (.int (Op.cmpValue (FP.dcmp x y) op) :: st) h) : AW M dep fx Φ k n pc lv (.double y :: .double x :: st) h := AW.pure (fun p l e R s m args below meth c H locs cells slots Q ls ad hx hb hl g => lv_dcmp hx hb d  g) kk
theorem aw_lcmp {x y : Int64} (d : decode M.2.1 pc = .ok (.lcmp, 1))  (kk : AW M dep fx Φ k n (pc + 1) lv (.int (lg_cmp x y) :: st) h) : AW M dep fx Φ k n pc lv (.long y :: .long x :: st) h := AW.pure (fun p l e R s m args below meth c H locs cells slots Q ls ad hx hb hl g => W.lcmp hx hb d  g) kk
theorem aw_fconst0  (d : decode M.2.1 pc = .ok (.fconst 0, 1))  (kk : AW M dep fx Φ k n (pc + 1) lv (.float 0 :: st) h) : AW M dep fx Φ k n pc lv (st) h := AW.pure (fun p l e R s m args below meth c H locs cells slots Q ls ad hx hb hl g => lv_fconst0 hx hb d  g) kk
theorem aw_dup {v : Value} (d : decode M.2.1 pc = .ok (.dup, 1)) (hc : v.category = 1) (kk : AW M dep fx Φ k n (pc + 1) lv (v :: v :: st) h) : AW M dep fx Φ k n pc lv (v :: st) h := AW.pure (fun p l e R s m args below meth c H locs cells slots Q ls ad hx hb hl g => lv_dup hx hb d (by rw [cv_cat]; exact hc) g) kk
theorem aw_dup2 {v w : Value} (d : decode M.2.1 pc = .ok (.dup2, 1)) (hc : v.category = 1) (hc2 : w.category = 1) (kk : AW M dep fx Φ k n (pc + 1) lv (v :: w :: v :: w :: st) h) : AW M dep fx Φ k n pc lv (v :: w :: st) h := AW.pure (fun p l e R s m args below meth c H locs cells slots Q ls ad hx hb hl g => lv_dup2_11 hx hb d (by rw [cv_cat]; exact hc) (by rw [cv_cat]; exact hc2) g) kk
theorem aw_pop {v : Value} (d : decode M.2.1 pc = .ok (.pop, 1)) (hc : v.category = 1) (kk : AW M dep fx Φ k n (pc + 1) lv (st) h) : AW M dep fx Φ k n pc lv (v :: st) h := AW.pure (fun p l e R s m args below meth c H locs cells slots Q ls ad hx hb hl g => lv_pop hx hb d (by rw [cv_cat]; exact hc) g) kk
theorem aw_goto {off : Int} {tgt : Nat} (d : decode M.2.1 pc = .ok (.goto off, 3)) (ht : (pc : Int) + off = (tgt : Int)) (kk : AW M dep fx Φ k n tgt lv st h) : AW M dep fx Φ k n pc lv st h := AW.pure (fun p l e R s m args below meth c H locs cells slots Q ls ad hx hb hl g => lv_goto hx hb d ht g) kk
theorem aw_tabIn {dflt lo hi : Int} {offs : Array Int} {len : Nat} {x : Int32} {off : Int} {tgt : Nat} (d : decode M.2.1 pc = .ok (.tableswitch dflt lo hi offs, len)) (h1 : ¬ x.toInt < lo) (h2 : ¬ hi < x.toInt) (ho : offs[(x.toInt - lo).toNat]? = some off) (ht : (pc : Int) + off = (tgt : Int)) (kk : AW M dep fx Φ k n tgt lv st h) : AW M dep fx Φ k n pc lv (.int x :: st) h := AW.pure (fun p l e R s m args below meth c H locs cells slots Q ls ad hx hb hl g => lv_tableIn hx hb d h1 h2 ho ht g) kk
theorem aw_tabOut {dflt lo hi : Int} {offs : Array Int} {len : Nat} {x : Int32} {tgt : Nat} (d : decode M.2.1 pc = .ok (.tableswitch dflt lo hi offs, len)) (h1 : x.toInt < lo ∨ hi < x.toInt) (ht : (pc : Int) + dflt = (tgt : Int)) (kk : AW M dep fx Φ k n tgt lv st h) : AW M dep fx Φ k n pc lv (.int x :: st) h := AW.pure (fun p l e R s m args below meth c H locs cells slots Q ls ad hx hb hl g => lv_tableOut hx hb d h1 ht g) kk
theorem aw_if_eq {x : Int32} {off : Int} (tgt : Nat) (d : decode M.2.1 pc = .ok (.ifCond .eq off, 3)) (ht : (pc : Int) + off = (tgt : Int)) (kt : x = 0 → AW M dep fx Φ k n tgt lv st h) (kf : ¬ x = 0 → AW M dep fx Φ k n (pc + 3) lv st h) : AW M dep fx Φ k n pc lv (.int x :: st) h := by
  intro p l e R s m args below meth c H0 D ty ad mc ms H locs cells slots Qc XC ls G hl
  exact lv_if_eq G.1.1 G.1.2.1 d ht (fun q => kt q p l e R s m args below meth c H0 D ty ad mc ms H locs cells slots Qc XC ls G hl) (fun q => kf q p l e R s m args below meth c H0 D ty ad mc ms H locs cells slots Qc XC ls G hl)
theorem aw_if_ne {x : Int32} {off : Int} (tgt : Nat) (d : decode M.2.1 pc = .ok (.ifCond .ne off, 3)) (ht : (pc : Int) + off = (tgt : Int)) (kt : ¬ x = 0 → AW M dep fx Φ k n tgt lv st h) (kf : x = 0 → AW M dep fx Φ k n (pc + 3) lv st h) : AW M dep fx Φ k n pc lv (.int x :: st) h := by
  intro p l e R s m args below meth c H0 D ty ad mc ms H locs cells slots Qc XC ls G hl
  exact lv_if_ne G.1.1 G.1.2.1 d ht (fun q => kt q p l e R s m args below meth c H0 D ty ad mc ms H locs cells slots Qc XC ls G hl) (fun q => kf q p l e R s m args below meth c H0 D ty ad mc ms H locs cells slots Qc XC ls G hl)
theorem aw_if_lt {x : Int32} {off : Int} (tgt : Nat) (d : decode M.2.1 pc = .ok (.ifCond .lt off, 3)) (ht : (pc : Int) + off = (tgt : Int)) (kt : x < 0 → AW M dep fx Φ k n tgt lv st h) (kf : ¬ x < 0 → AW M dep fx Φ k n (pc + 3) lv st h) : AW M dep fx Φ k n pc lv (.int x :: st) h := by
  intro p l e R s m args below meth c H0 D ty ad mc ms H locs cells slots Qc XC ls G hl
  exact lv_if_lt G.1.1 G.1.2.1 d ht (fun q => kt q p l e R s m args below meth c H0 D ty ad mc ms H locs cells slots Qc XC ls G hl) (fun q => kf q p l e R s m args below meth c H0 D ty ad mc ms H locs cells slots Qc XC ls G hl)
theorem aw_if_ge {x : Int32} {off : Int} (tgt : Nat) (d : decode M.2.1 pc = .ok (.ifCond .ge off, 3)) (ht : (pc : Int) + off = (tgt : Int)) (kt : 0 ≤ x → AW M dep fx Φ k n tgt lv st h) (kf : ¬ 0 ≤ x → AW M dep fx Φ k n (pc + 3) lv st h) : AW M dep fx Φ k n pc lv (.int x :: st) h := by
  intro p l e R s m args below meth c H0 D ty ad mc ms H locs cells slots Qc XC ls G hl
  exact lv_if_ge G.1.1 G.1.2.1 d ht (fun q => kt q p l e R s m args below meth c H0 D ty ad mc ms H locs cells slots Qc XC ls G hl) (fun q => kf q p l e R s m args below meth c H0 D ty ad mc ms H locs cells slots Qc XC ls G hl)
theorem aw_if_gt {x : Int32} {off : Int} (tgt : Nat) (d : decode M.2.1 pc = .ok (.ifCond .gt off, 3)) (ht : (pc : Int) + off = (tgt : Int)) (kt : 0 < x → AW M dep fx Φ k n tgt lv st h) (kf : ¬ 0 < x → AW M dep fx Φ k n (pc + 3) lv st h) : AW M dep fx Φ k n pc lv (.int x :: st) h := by
  intro p l e R s m args below meth c H0 D ty ad mc ms H locs cells slots Qc XC ls G hl
  exact lv_if_gt G.1.1 G.1.2.1 d ht (fun q => kt q p l e R s m args below meth c H0 D ty ad mc ms H locs cells slots Qc XC ls G hl) (fun q => kf q p l e R s m args below meth c H0 D ty ad mc ms H locs cells slots Qc XC ls G hl)
theorem aw_if_le {x : Int32} {off : Int} (tgt : Nat) (d : decode M.2.1 pc = .ok (.ifCond .le off, 3)) (ht : (pc : Int) + off = (tgt : Int)) (kt : x ≤ 0 → AW M dep fx Φ k n tgt lv st h) (kf : ¬ x ≤ 0 → AW M dep fx Φ k n (pc + 3) lv st h) : AW M dep fx Φ k n pc lv (.int x :: st) h := by
  intro p l e R s m args below meth c H0 D ty ad mc ms H locs cells slots Qc XC ls G hl
  exact lv_if_le G.1.1 G.1.2.1 d ht (fun q => kt q p l e R s m args below meth c H0 D ty ad mc ms H locs cells slots Qc XC ls G hl) (fun q => kf q p l e R s m args below meth c H0 D ty ad mc ms H locs cells slots Qc XC ls G hl)
theorem aw_icmp_eq {x y : Int32} {off : Int} (tgt : Nat) (d : decode M.2.1 pc = .ok (.if_icmp .eq off, 3)) (ht : (pc : Int) + off = (tgt : Int)) (kt : x = y → AW M dep fx Φ k n tgt lv st h) (kf : ¬ x = y → AW M dep fx Φ k n (pc + 3) lv st h) : AW M dep fx Φ k n pc lv (.int y :: .int x :: st) h := by
  intro p l e R s m args below meth c H0 D ty ad mc ms H locs cells slots Qc XC ls G hl
  exact lv_icmp_eq G.1.1 G.1.2.1 d ht (fun q => kt q p l e R s m args below meth c H0 D ty ad mc ms H locs cells slots Qc XC ls G hl) (fun q => kf q p l e R s m args below meth c H0 D ty ad mc ms H locs cells slots Qc XC ls G hl)
theorem aw_icmp_ne {x y : Int32} {off : Int} (tgt : Nat) (d : decode M.2.1 pc = .ok (.if_icmp .ne off, 3)) (ht : (pc : Int) + off = (tgt : Int)) (kt : ¬ x = y → AW M dep fx Φ k n tgt lv st h) (kf : x = y → AW M dep fx Φ k n (pc + 3) lv st h) : AW M dep fx Φ k n pc lv (.int y :: .int x :: st) h := by
  intro p l e R s m args below meth c H0 D ty ad mc ms H locs cells slots Qc XC ls G hl
  exact lv_icmp_ne G.1.1 G.1.2.1 d ht (fun q => kt q p l e R s m args below meth c H0 D ty ad mc ms H locs cells slots Qc XC ls G hl) (fun q => kf q p l e R s m args below meth c H0 D ty ad mc ms H locs cells slots Qc XC ls G hl)
theorem aw_icmp_lt {x y : Int32} {off : Int} (tgt : Nat) (d : decode M.2.1 pc = .ok (.if_icmp .lt off, 3)) (ht : (pc : Int) + off = (tgt : Int)) (kt : x < y → AW M dep fx Φ k n tgt lv st h) (kf : ¬ x < y → AW M dep fx Φ k n (pc + 3) lv st h) : AW M dep fx Φ k n pc lv (.int y :: .int x :: st) h := by
  intro p l e R s m args below meth c H0 D ty ad mc ms H locs cells slots Qc XC ls G hl
  exact lv_icmp_lt G.1.1 G.1.2.1 d ht (fun q => kt q p l e R s m args below meth c H0 D ty ad mc ms H locs cells slots Qc XC ls G hl) (fun q => kf q p l e R s m args below meth c H0 D ty ad mc ms H locs cells slots Qc XC ls G hl)
theorem aw_icmp_ge {x y : Int32} {off : Int} (tgt : Nat) (d : decode M.2.1 pc = .ok (.if_icmp .ge off, 3)) (ht : (pc : Int) + off = (tgt : Int)) (kt : y ≤ x → AW M dep fx Φ k n tgt lv st h) (kf : ¬ y ≤ x → AW M dep fx Φ k n (pc + 3) lv st h) : AW M dep fx Φ k n pc lv (.int y :: .int x :: st) h := by
  intro p l e R s m args below meth c H0 D ty ad mc ms H locs cells slots Qc XC ls G hl
  exact lv_icmp_ge G.1.1 G.1.2.1 d ht (fun q => kt q p l e R s m args below meth c H0 D ty ad mc ms H locs cells slots Qc XC ls G hl) (fun q => kf q p l e R s m args below meth c H0 D ty ad mc ms H locs cells slots Qc XC ls G hl)
theorem aw_icmp_gt {x y : Int32} {off : Int} (tgt : Nat) (d : decode M.2.1 pc = .ok (.if_icmp .gt off, 3)) (ht : (pc : Int) + off = (tgt : Int)) (kt : y < x → AW M dep fx Φ k n tgt lv st h) (kf : ¬ y < x → AW M dep fx Φ k n (pc + 3) lv st h) : AW M dep fx Φ k n pc lv (.int y :: .int x :: st) h := by
  intro p l e R s m args below meth c H0 D ty ad mc ms H locs cells slots Qc XC ls G hl
  exact lv_icmp_gt G.1.1 G.1.2.1 d ht (fun q => kt q p l e R s m args below meth c H0 D ty ad mc ms H locs cells slots Qc XC ls G hl) (fun q => kf q p l e R s m args below meth c H0 D ty ad mc ms H locs cells slots Qc XC ls G hl)
theorem aw_icmp_le {x y : Int32} {off : Int} (tgt : Nat) (d : decode M.2.1 pc = .ok (.if_icmp .le off, 3)) (ht : (pc : Int) + off = (tgt : Int)) (kt : x ≤ y → AW M dep fx Φ k n tgt lv st h) (kf : ¬ x ≤ y → AW M dep fx Φ k n (pc + 3) lv st h) : AW M dep fx Φ k n pc lv (.int y :: .int x :: st) h := by
  intro p l e R s m args below meth c H0 D ty ad mc ms H locs cells slots Qc XC ls G hl
  exact lv_icmp_le G.1.1 G.1.2.1 d ht (fun q => kt q p l e R s m args below meth c H0 D ty ad mc ms H locs cells slots Qc XC ls G hl) (fun q => kf q p l e R s m args below meth c H0 D ty ad mc ms H locs cells slots Qc XC ls G hl)
end AWR
