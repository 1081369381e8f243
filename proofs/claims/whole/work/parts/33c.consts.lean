/-! CONSTANTS: the places from 200 on, and what the start says of them; the JDK's own leaves -/
section AKC
variable {M : MI} {dep : Nat} {fx : Bool} {Φ : Rs → ah → Prop} {k n : Nat} {h : ah}
theorem AK.kp {p : Program} {l : Launch} {R : Room} {s : State} {m : MethodId} {args : Array Value} {meth : Method} {c : Code} {H0 : Heap} {D : va_G} {ty : Nat → ClassId} {ad : Nat → Nat} {mc ms : Nat} {H : Heap} {locs : List Loc} {cells slots : Nat} {Qc : Array Value → State → Outcome → State → Prop} {XC : String → State → State → Prop}
    (G : AK M dep fx Φ k n h p l R s m args meth c H0 D ty ad mc ms H locs cells slots Qc XC) : ∀ q : Nat, q < H0.size → s.heap[q]? = H0[q]? := fun q hq => by
  obtain ⟨⟨-, -, -, -, -, -, -, -, -, -, -, -, -, -, b5, -⟩, -, -, hR, hS, -⟩ := G
  rw [← hR.2.2.2.1 q hq]
  exact (hS.2.1 q (by omega) (by show ¬ H0.size ≤ q; omega)).symm
end AKC
def cD (D : va_G) (v : Value) : Value := match v with
  | .ref i => .ref (D.1 i)
  | w => w
def cok (v : Value) : Prop := ∀ i, v = .ref i → 200 ≤ i
theorem cok_r {i : Nat} (h : 200 ≤ i) : cok (.ref i) := fun j e => by cases e; exact h
theorem cok_i (x : Int32) : cok (.int x) := fun j e => by cases e
theorem cD_cv {H0 : Heap} {D : va_G} {ty : Nat → ClassId} {ad : Nat → Nat} {h : ah} {H : Heap} (hR : Rep H0 D ty ad h H) {v : Value} (hv : cok v) : cv ad v = cD D v := by
  cases v with
  | ref i => show Value.ref (ad i) = Value.ref (D.1 i); rw [hR.2.2.2.2 i (hv i rfl)]
  | _ => rfl
abbrev gn1 : List Cond := flatC (Jvm.Cond.and given_1 narrow_1)
/-- what holds of the constants in every state that is warm -/
def Zc (C n d : String) (v : Value) : Prop := ∀ (D : va_G) (s : State) (H0 : Heap), CF D s H0 → (∀ q : Nat, q < H0.size → s.heap[q]? = H0[q]?) → va_Z C n d (cD D v) (fre H0) s s.heap
def Oc (k : Nat) (o n d : String) (v : Value) : Prop := ∀ (D : va_G) (s : State) (H0 : Heap), CF D s H0 → (∀ q : Nat, q < H0.size → s.heap[q]? = H0[q]?) → va_OF o n d (cD D v) (D.1 k) (fre H0) s s.heap
def Tc (k : Nat) (ty : FieldType) (N : Nat) (f : Nat → Value) : Prop := ∀ (D : va_G) (s : State) (H0 : Heap), CF D s H0 → (∀ q : Nat, q < H0.size → s.heap[q]? = H0[q]?) → va_T ty (D.1 k) N (fun j => cD D (f j)) (fre H0) s s.heap
def Cc (k : Nat) (C : String) : Prop := ∀ (D : va_G) (s : State) (H0 : Heap), CF D s H0 → (∀ q : Nat, q < H0.size → s.heap[q]? = H0[q]?) → va_O C (D.1 k) (fre H0) s s.heap
theorem fre_no {s0 : State} : ∀ a : Nat, a < s0.heap.size → ¬ fre s0.heap a := fun a ha hq => by have : s0.heap.size ≤ a := hq; omega
theorem Zc_r {k : Nat} {C n d : String} (ht : kct[k]? = some (.static C n d)) (hl : Cond.laysStatic C n d ∈ lw_tbl) (hi : Cond.initialized C ∈ lw_tbl) : Zc C n d (.ref (200 + k)) := by
  rintro D s H0 ⟨s0, b, rfl, hW, hts, hn, hct⟩ hk
  exact ((va_Zof (v := .ref (D.1 (200 + k))) (hts _ hl) (hts _ hi) (hct k _ ht) fre_no).moved hW.alike).kept (fun a ha hq => hk a ha)
theorem Zc_i {C n d : String} {z : Int32} (hc : Cond.eq (.static C n d) (.int z) ∈ gn1) (hl : Cond.laysStatic C n d ∈ lw_tbl) (hi : Cond.initialized C ∈ lw_tbl) : Zc C n d (.int z) := by
  rintro D s H0 ⟨s0, b, rfl, hW, hts, hn, hct⟩ hk
  exact ((va_Zof (v := .int z) (hts _ hl) (hts _ hi) (va_eqi (flat_of_before _ hn _ hc)) fre_no).moved hW.alike).kept (fun a ha hq => hk a ha)
theorem Oc_i {k : Nat} {t : Term} {o n d : String} {z : Int32} (ht : kct[k]? = some t) (hc : Cond.eq (.field t o n d) (.int z) ∈ gn1) : Oc (200 + k) o n d (.int z) := by
  rintro D s H0 ⟨s0, b, rfl, hW, hts, hn, hct⟩ hk
  exact ((vk_OFof (v := .int z) (hct k _ ht) (va_eqt (flat_of_before _ hn _ hc)) fre_no).moved hW.alike).kept (fun a ha hq => hk a ha)
theorem Oc_r {k k2 : Nat} {t u : Term} {o n d : String} (ht : kct[k]? = some t) (hu : kct[k2]? = some u) (hc : Cond.eq (.field t o n d) u ∈ gn1) : Oc (200 + k) o n d (.ref (200 + k2)) := by
  rintro D s H0 ⟨s0, b, rfl, hW, hts, hn, hct⟩ hk
  exact ((vk_OFof (v := .ref (D.1 (200 + k2))) (hct k _ ht) (va_eqv (flat_of_before _ hn _ hc) (hct k2 _ hu)) fre_no).moved hW.alike).kept (fun a ha hq => hk a ha)
theorem Oc_f {k k2 : Nat} {t : Term} {o n d : String} (ht : kct[k]? = some t) (hu : kct[k2]? = some (.field t o n d)) : Oc (200 + k) o n d (.ref (200 + k2)) := by
  rintro D s H0 ⟨s0, b, rfl, hW, hts, hn, hct⟩ hk
  exact ((vk_OFof (v := .ref (D.1 (200 + k2))) (hct k _ ht) (hct k2 _ hu) fre_no).moved hW.alike).kept (fun a ha hq => hk a ha)
theorem Tc_i {k N : Nat} {t : Term} {ty : FieldType} (g : Nat → Int32) (ht : kct[k]? = some t) (hN : N < 2 ^ 31) (ha : Cond.arrayOf t ty ∈ gn1) (hl : Cond.eq (.length t) (.int (Int32.ofNat N)) ∈ gn1) (he : ∀ j, j < N → Cond.eq (.elem t (.int (Int32.ofNat j))) (.int (g j)) ∈ gn1) : Tc (200 + k) ty N (fun j => .int (g j)) := by
  rintro D s H0 ⟨s0, b, rfl, hW, hts, hn, hct⟩ hk
  obtain ⟨t', e1, e2⟩ := va_Tof (f := fun j => .int (g j)) (A := fre s0.heap) hN (flat_of_before _ hn _ ha) (va_eqt (flat_of_before _ hn _ hl)) (fun j hj => va_eqt (flat_of_before _ hn _ (he j hj))) fre_no
  rw [hct k _ ht] at e1
  cases e1
  exact (e2.moved hW.alike).kept (fun a ha hq => hk a ha)
theorem Tc_r {k N : Nat} {t : Term} {ty : FieldType} (g : Nat → Nat) (u : Nat → Term) (ht : kct[k]? = some t) (hN : N < 2 ^ 31) (hu : ∀ j, j < N → kct[g j]? = some (u j)) (ha : Cond.arrayOf t ty ∈ gn1) (hl : Cond.eq (.length t) (.int (Int32.ofNat N)) ∈ gn1) (he : ∀ j, j < N → Cond.eq (.elem t (.int (Int32.ofNat j))) (u j) ∈ gn1) : Tc (200 + k) ty N (fun j => .ref (200 + g j)) := by
  rintro D s H0 ⟨s0, b, rfl, hW, hts, hn, hct⟩ hk
  obtain ⟨t', e1, e2⟩ := va_Tof (f := fun j => .ref (D.1 (200 + g j))) (A := fre s0.heap) hN (flat_of_before _ hn _ ha) (va_eqt (flat_of_before _ hn _ hl)) (fun j hj => va_eqv (flat_of_before _ hn _ (he j hj)) (hct (g j) _ (hu j hj))) fre_no
  rw [hct k _ ht] at e1
  cases e1
  exact (e2.moved hW.alike).kept (fun a ha hq => hk a ha)
theorem Cc_of {k : Nat} {t : Term} {C : String} (ht : kct[k]? = some t) (hc : Cond.exactly t C ∈ gn1) : Cc (200 + k) C := by
  rintro D s H0 ⟨s0, b, rfl, hW, hts, hn, hct⟩ hk
  obtain ⟨a, c, cA, kA, q1, q2, q3, q4, q5, q6, -⟩ := Cond.exactly_spec (args := #[Value.ref b]) (first := s0) (o := none) (s := s0) (idx := []) (t := t) (cls := C) (flat_of_before _ hn _ hc)
  rw [hct k _ ht] at q1
  cases q1
  have z : va_O C (D.1 (200 + k)) (fre s0.heap) s0 s0.heap := ⟨cA, q3, q5, by rw [q6]; exact q2, fre_no _ (Array.getElem?_eq_some_iff.mp q3).1⟩
  exact (z.moved hW.alike).kept (fun a ha hq => hk a ha)
/-- two constants are not one -/
theorem ne_of {i j : Nat} {t u : Term} (ht : kct[i]? = some t) (hu : kct[j]? = some u) (hc : Cond.not (Cond.eq t u) ∈ gn1 ∨ Cond.not (Cond.eq u t) ∈ gn1) {D : va_G} {s : State} {H0 : Heap} (hC : CF D s H0) : D.1 (200 + i) ≠ D.1 (200 + j) := by
  obtain ⟨s0, b, rfl, hW, hts, hn, hct⟩ := hC
  rcases hc with hc | hc
  · exact va_neR (flat_of_before _ hn _ hc) (hct i _ ht) (hct j _ hu)
  · exact fun e => va_neR (flat_of_before _ hn _ hc) (hct j _ hu) (hct i _ ht) e.symm
section AWK
variable {M M' : MI} {dep dep' : Nat} {fx : Bool} {Φ : Rs → ah → Prop} {k n pc na idx : Nat} {lv : List (Nat × Value)} {st stk as : List Value} {h : ah}
theorem aw_getsC {C x d : String} {v : Value} (dc : decode M.2.1 pc = .ok (.getstatic idx, 3)) (hZ : Zc C x d v) (hv : cok v) (hw : Cond.fieldLink M.1.cls idx C x d ∈ lw_tbl) (kk : AW M dep fx Φ k n (pc + 3) lv (v :: st) h) : AW M dep fx Φ k n pc lv st h := by
  intro p l e R s m args below meth c H0 D ty ad mc ms H locs cells slots Qc XC ls G hl
  obtain ⟨⟨hx, hb, a3, a4, a5, a6, a7, hown, hK, hC, a11⟩, g2, g3, hR, hS, g5⟩ := id G
  refine va_gets hx hb (hZ D s H0 hC G.kp) hS hown (hC.word hw rfl args) (fun _ h9 => h9) dc ?_
  rw [← cD_cv hR hv]
  exact kk p l e R s m args below meth c H0 D ty ad mc ms H locs cells slots Qc XC ls G hl
theorem aw_getsCN {C x d host : String} {v : Value} (dc : decode M.2.1 pc = .ok (.getstatic idx, 3)) (hZ : Zc C x d v) (hv : cok v) (hw : Cond.fieldLinkNest M.1.cls idx C x d host ∈ lw_tbl) (kk : AW M dep fx Φ k n (pc + 3) lv (v :: st) h) : AW M dep fx Φ k n pc lv st h := by
  intro p l e R s m args below meth c H0 D ty ad mc ms H locs cells slots Qc XC ls G hl
  obtain ⟨⟨hx, hb, a3, a4, a5, a6, a7, hown, hK, hC, a11⟩, g2, g3, hR, hS, g5⟩ := id G
  refine va_getsN hx hb (hZ D s H0 hC G.kp) hS hown (hC.word2 hw rfl args) (fun _ h9 => h9) dc ?_
  rw [← cD_cv hR hv]
  exact kk p l e R s m args below meth c H0 D ty ad mc ms H locs cells slots Qc XC ls G hl
theorem cvr {H0 : Heap} {D : va_G} {ty : Nat → ClassId} {ad : Nat → Nat} {H : Heap} (hR : Rep H0 D ty ad h H) {i : Nat} (hi : 200 ≤ i) : cvs ad (.ref i :: st) = .ref (D.1 i) :: cvs ad st := by
  show Value.ref (ad i) :: cvs ad st = _
  rw [hR.2.2.2.2 i hi]
theorem aw_gfC {i : Nat} {o x d : String} {v : Value} (dc : decode M.2.1 pc = .ok (.getfield idx, 3)) (hO : Oc i o x d v) (hi : 200 ≤ i) (hv : cok v) (hw : Cond.fieldLink M.1.cls idx o x d ∈ lw_tbl) (kk : AW M dep fx Φ k n (pc + 3) lv (v :: st) h) : AW M dep fx Φ k n pc lv (.ref i :: st) h := by
  intro p l e R s m args below meth c H0 D ty ad mc ms H locs cells slots Qc XC ls G hl
  obtain ⟨⟨hx, hb, a3, a4, a5, a6, a7, hown, hK, hC, a11⟩, g2, g3, hR, hS, g5⟩ := id G
  rw [cvr hR hi]
  refine vk_getf hx hb (hO D s H0 hC G.kp) hS hown (hC.word hw rfl args) (fun _ h9 => h9) dc ?_
  rw [← cD_cv hR hv]
  exact kk p l e R s m args below meth c H0 D ty ad mc ms H locs cells slots Qc XC ls G hl
theorem aw_ialdC {i N : Nat} {g : Nat → Int32} {x : Int32} (dc : decode M.2.1 pc = .ok (.iaload, 1)) (hT : Tc i .int N (fun j => .int (g j))) (hi : 200 ≤ i) (hin : vp_in x N) (kk : AW M dep fx Φ k n (pc + 1) lv (.int (g x.toNatClampNeg) :: st) h) : AW M dep fx Φ k n pc lv (.int x :: .ref i :: st) h := by
  intro p l e R s m args below meth c H0 D ty ad mc ms H locs cells slots Qc XC ls G hl
  obtain ⟨⟨hx, hb, a3, a4, a5, a6, a7, hown, hK, hC, a11⟩, g2, g3, hR, hS, g5⟩ := id G
  show W _ _ _ _ _ _ _ _ _ _ _ _ _ _ _ (F0 m pc ls (.int x :: cvs ad (.ref i :: st)))
  rw [cvr hR hi]
  exact va_ti hx hb (hT D s H0 hC G.kp) hS hin rfl dc (kk p l e R s m args below meth c H0 D ty ad mc ms H locs cells slots Qc XC ls G hl)
theorem aw_baldC {i N : Nat} {g : Nat → Int32} {x : Int32} (dc : decode M.2.1 pc = .ok (.baload, 1)) (hT : Tc i .byte N (fun j => .int (g j))) (hi : 200 ≤ i) (hin : vp_in x N) (kk : AW M dep fx Φ k n (pc + 1) lv (.int (g x.toNatClampNeg) :: st) h) : AW M dep fx Φ k n pc lv (.int x :: .ref i :: st) h := by
  intro p l e R s m args below meth c H0 D ty ad mc ms H locs cells slots Qc XC ls G hl
  obtain ⟨⟨hx, hb, a3, a4, a5, a6, a7, hown, hK, hC, a11⟩, g2, g3, hR, hS, g5⟩ := id G
  show W _ _ _ _ _ _ _ _ _ _ _ _ _ _ _ (F0 m pc ls (.int x :: cvs ad (.ref i :: st)))
  rw [cvr hR hi]
  exact va_tb hx hb (hT D s H0 hC G.kp) hS hin rfl dc (kk p l e R s m args below meth c H0 D ty ad mc ms H locs cells slots Qc XC ls G hl)
theorem aw_aaldC {i N : Nat} {C : String} {g : Nat → Nat} {x : Int32} (dc : decode M.2.1 pc = .ok (.aaload, 1)) (hT : Tc i (.object C) N (fun j => .ref (200 + g j))) (hi : 200 ≤ i) (hin : vp_in x N) (kk : AW M dep fx Φ k n (pc + 1) lv (.ref (200 + g x.toNatClampNeg) :: st) h) : AW M dep fx Φ k n pc lv (.int x :: .ref i :: st) h := by
  intro p l e R s m args below meth c H0 D ty ad mc ms H locs cells slots Qc XC ls G hl
  obtain ⟨⟨hx, hb, a3, a4, a5, a6, a7, hown, hK, hC, a11⟩, g2, g3, hR, hS, g5⟩ := id G
  show W _ _ _ _ _ _ _ _ _ _ _ _ _ _ _ (F0 m pc ls (.int x :: cvs ad (.ref i :: st)))
  rw [cvr hR hi]
  refine vb_tq hx hb (hT D s H0 hC G.kp) hS hin (v := .ref (D.1 (200 + g x.toNatClampNeg))) rfl dc ?_
  have kq := kk p l e R s m args below meth c H0 D ty ad mc ms H locs cells slots Qc XC ls G hl
  rw [cvr hR (by omega)] at kq
  exact kq
theorem aw_alenC {i N : Nat} {ty0 : FieldType} {f : Nat → Value} {v : Int32} (dc : decode M.2.1 pc = .ok (.arraylength, 1)) (hT : Tc i ty0 N f) (hi : 200 ≤ i) (hv : Int32.ofNat N = v) (kk : AW M dep fx Φ k n (pc + 1) lv (.int v :: st) h) : AW M dep fx Φ k n pc lv (.ref i :: st) h := by
  intro p l e R s m args below meth c H0 D ty ad mc ms H locs cells slots Qc XC ls G hl
  obtain ⟨⟨hx, hb, a3, a4, a5, a6, a7, hown, hK, hC, a11⟩, g2, g3, hR, hS, g5⟩ := id G
  rw [cvr hR hi]
  exact va_tlen hx hb (hT D s H0 hC G.kp) hS hv dc (kk p l e R s m args below meth c H0 D ty ad mc ms H locs cells slots Qc XC ls G hl)
theorem aw_null (dc : decode M.2.1 pc = .ok (.aconst_null, 1)) (kk : AW M dep fx Φ k n (pc + 1) lv (.null :: st) h) : AW M dep fx Φ k n pc lv st h :=
  AW.pure (fun p l e R s m args below meth c H locs cells slots Q ls ad hx hb hl g => lv_null hx hb dc g) kk
theorem aw_ifnull_r {i : Nat} {off : Int} (dc : decode M.2.1 pc = .ok (.ifnull off, 3)) (kk : AW M dep fx Φ k n (pc + 3) lv st h) : AW M dep fx Φ k n pc lv (.ref i :: st) h :=
  AW.pure (fun p l e R s m args below meth c H locs cells slots Q ls ad hx hb hl g => lv_ifnull hx hb dc g) kk
theorem aw_ifnull_n {off : Int} {tgt : Nat} (dc : decode M.2.1 pc = .ok (.ifnull off, 3)) (ht : (pc : Int) + off = (tgt : Int)) (kk : AW M dep fx Φ k n tgt lv st h) : AW M dep fx Φ k n pc lv (.null :: st) h :=
  AW.pure (fun p l e R s m args below meth c H locs cells slots Q ls ad hx hb hl g => lv_ifnullN hx hb dc ht g) kk
theorem aw_ifnonnull_r {i : Nat} {off : Int} {tgt : Nat} (dc : decode M.2.1 pc = .ok (.ifnonnull off, 3)) (ht : (pc : Int) + off = (tgt : Int)) (kk : AW M dep fx Φ k n tgt lv st h) : AW M dep fx Φ k n pc lv (.ref i :: st) h :=
  AW.pure (fun p l e R s m args below meth c H locs cells slots Q ls ad hx hb hl g => lv_ifnonnull hx hb dc ht g) kk
theorem aw_ifnonnull_n {off : Int} (dc : decode M.2.1 pc = .ok (.ifnonnull off, 3)) (kk : AW M dep fx Φ k n (pc + 3) lv st h) : AW M dep fx Φ k n pc lv (.null :: st) h :=
  AW.pure (fun p l e R s m args below meth c H locs cells slots Q ls ad hx hb hl g => lv_ifnonnullN hx hb dc g) kk
/-- references that are compared: constants, equal or known to differ -/
theorem aw_acmp_same {i : Nat} {off : Int} {tgt : Nat} (dc : decode M.2.1 pc = .ok (.if_acmp .ne off, 3)) (ht : (pc : Int) + off = (tgt : Int)) (kk : AW M dep fx Φ k n (pc + 3) lv st h) : AW M dep fx Φ k n pc lv (.ref i :: .ref i :: st) h :=
  AW.pure (fun p l e R s m args below meth c H locs cells slots Q ls ad hx hb hl g => lv_acmp_ne (rx := some (ad i)) (ry := some (ad i)) hx hb dc ht (fun z => absurd rfl z) (fun _ => g)) kk
theorem aw_acmp_diff {i j : Nat} {off : Int} {tgt : Nat} (dc : decode M.2.1 pc = .ok (.if_acmp .ne off, 3)) (ht : (pc : Int) + off = (tgt : Int)) (hne : ∀ (D : va_G) (s : State) (H0 : Heap), CF D s H0 → D.1 (200 + i) ≠ D.1 (200 + j)) (kk : AW M dep fx Φ k n tgt lv st h) : AW M dep fx Φ k n pc lv (.ref (200 + j) :: .ref (200 + i) :: st) h := by
  intro p l e R s m args below meth c H0 D ty ad mc ms H locs cells slots Qc XC ls G hl
  obtain ⟨⟨hx, hb, a3, a4, a5, a6, a7, hown, hK, hC, a11⟩, g2, g3, hR, hS, g5⟩ := id G
  have e1 : ad (200 + i) = D.1 (200 + i) := hR.2.2.2.2 _ (by omega)
  have e2 : ad (200 + j) = D.1 (200 + j) := hR.2.2.2.2 _ (by omega)
  exact lv_acmp_ne (rx := some (ad (200 + i))) (ry := some (ad (200 + j))) hx hb dc ht (fun _ => kk p l e R s m args below meth c H0 D ty ad mc ms H locs cells slots Qc XC ls G hl) (fun z => absurd (Option.some.inj z) (by rw [e1, e2]; exact hne D s H0 hC))
theorem aw_iushr {x y v : Int32} (dc : decode M.2.1 pc = .ok (.iushr, 1)) (hv : (x.toUInt32 >>> (y.toUInt32 &&& Int32.toUInt32 31)).toInt32 = v) (kk : AW M dep fx Φ k n (pc + 1) lv (.int v :: st) h) : AW M dep fx Φ k n pc lv (.int y :: .int x :: st) h :=
  AW.pure (fun p l e R s m args below meth c H locs cells slots Q ls ad hx hb hl g => lv_iushr hx hb dc hv g) kk
theorem aw_ldcw {v : Int32} (dc : decode M.2.1 pc = .ok (.ldc_w idx, 3)) (hw : Cond.constant M.1.cls idx v ∈ lw_tbl) (kk : AW M dep fx Φ k n (pc + 3) lv (.int v :: st) h) : AW M dep fx Φ k n pc lv st h := by
  intro p l e R s m args below meth c H0 D ty ad mc ms H locs cells slots Qc XC ls G hl
  obtain ⟨⟨hx, hb, a3, a4, a5, a6, a7, hown, hK, hC, a11⟩, g2, g3, hR, hS, g5⟩ := id G
  exact lv_ldcw hx hb hown (hC.word hw rfl args) dc (kk p l e R s m args below meth c H0 D ty ad mc ms H locs cells slots Qc XC ls G hl)
theorem aw_nret {x : Int32} {ty0 : FieldType} (d : decode M.2.1 pc = .ok (.ireturn, 1)) (hr : M.2.2.2.1 = some ty0) (hx : narrow ty0 (.int x) = .int x) (hp : Φ (.inl (some (.int x))) h) : AW M dep fx Φ k n pc lv [.int x] h := by
  intro p l e R s m args below meth c H0 D ty ad mc ms H locs cells slots Qc XC ls G hl
  obtain ⟨⟨hx', hb, a3, a4, hr', hlo, a11⟩, g2, g3, hR, hS, hQ, hX⟩ := G
  refine W.widen (k := mc) (n := ms) (by omega) (by omega) (vx_ret ?_)
  exact W.zret hx' hb (hr'.trans hr) hx (fun t ht hW => hQ (some (.int x)) h ad t (fun _ => rfl) (fun _ _ _ => rfl) hp (by rw [ht]; exact hR) (by rw [ht]; exact hS.1) hW.alike) hS.2.2 d hlo
/-- a virtual call of a constant that comes back and changes nothing -/
theorem aw_cVC {i : Nat} {C : String} {x : Int32} {d : Dt} (dc : decode M.2.1 pc = .ok (.invokevirtual idx, 3)) (ho : MO M' na) (hv : MV M') (hl0 : Cond.methodLink M.1.cls idx M'.1 ∈ lw_tbl) (hA : CP M' dep' (.ref i :: as) d x) (hst : stk = as.reverse ++ .ref i :: st) (hO : Cc i C) (hi : 200 ≤ i) (hcl : M'.1.cls = C) (hna : as.length = na) (hlen : (lg_sl (.ref i :: as)).length ≤ M'.2.2.1) (hd : dep' + 1 ≤ dep) (hcat : (st.map fun v => v.category).sum ≤ 8)
    (kk : AW M dep true Φ k n (pc + 3) lv (.int x :: st) (HP d)) : AW M dep true Φ k n pc lv stk (HP d) := by
  subst hst
  intro p l e R s m args below meth c H0 D ty ad mc ms H locs cells slots Qc XC ls G hl
  obtain ⟨⟨hx, hb, htr, hml, hr, hlo, hnm, hown, hK, hC, b1, b2, b3, b4, b5, htb⟩, g2, g3, hR, hS, hQX⟩ := id G
  have hM := AC.met0 hA (fun E h' => nX_no E h') ho.2.2.2.1 ho.2.2.1 hlen l htr H0 D ty ad
  have hcb := callB_mk (args := args) (k := 0) (n := 0) G.1 ho hl0 hd
  obtain ⟨cell, o1, o2, o3, -⟩ := (hO D s H0 hC G.kp).kept hS.2.1
  have run := va_runV (e := e) (meth := meth) (below := below) (R := R) (As := as.map (cv ad)) (rest := cvs ad st) (g := F0 m pc ls (cvs ad (as.reverse ++ .ref i :: st))) (Ts := []) (C := C) (locs := locs) (cells := cells) (slots := slots) (b := ad i) ⟨hx, hb, hml, hown, fun _ hq => nomatch hq⟩ hM ⟨hcb, hC.word hv.1 rfl args, by rw [← hcl]; exact hC.word hv.2 rfl args⟩ ⟨Pm.blind, ⟨cell, by rw [hR.2.2.2.2 i hi]; exact o1, o2, o3⟩, fun U hU hW => ⟨rfl, hC.warm hW, va_K.moved hW.alike hK, by rw [hU]; exact hR⟩⟩ rfl (by simpa using hna) hl.1 (by simp [cvs, cv]) (lv_room (by rw [cvs_cat]; exact hcat)) dc ⟨by omega, by omega⟩
  exact run_back G hl run (Nat.zero_le _) (Nat.zero_le _) (fun _ => rfl) PX_dom (Or.inl rfl) (fun v h' ⟨d', e1, y, e2, e3, e4⟩ => by subst e1 e2 e3 e4; exact kk)
end AWK
