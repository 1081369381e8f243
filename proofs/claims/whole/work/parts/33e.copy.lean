/-! the copying of a row into another -/
theorem ac_ok : Cond.native arraycopyName ∈ lw_tbl ∧ Cond.static arraycopyName ∈ lw_tbl ∧ Cond.initialized "java/lang/System" ∈ lw_tbl := by decide +kernel
theorem l4_68 : Cond.methodLink RX4 68 arraycopyName ∈ lw_tbl := by decide +kernel
theorem nfw : nativeFrameWords "java/lang/System" "arraycopy" 5 ≤ 40 := by decide +kernel
section CPY
variable {M : MI} {dep : Nat} {Φ : Rs → ah → Prop} {k n pc idx : Nat} {lv : List (Nat × Value)} {st : List Value} {d : Dt}
theorem aw_copyD {i i2 N1 N2 nn : Nat} {x : Int32} (dc : decode M.2.1 pc = .ok (.invokestatic idx, 3)) (hl0 : Cond.methodLink M.1.cls idx arraycopyName ∈ lw_tbl) (hh : ∀ d, HP d i = some (.inl (0, N1, .inl (d.1 i)))) (hh2 : ∀ d, HP d i2 = some (.inl (0, N2, .inl (d.1 i2)))) (h1 : nn ≤ N1) (h2 : nn ≤ N2) (h3 : nn ≤ 1024) (hx0 : x = nI nn) (hd : 1 ≤ dep) (hcat : (st.map fun v => v.category).sum ≤ 8) (kk : AW M dep true Φ k n (pc + 3) lv st (HP (dI d i (cpy (d.1 i) (d.1 i2) nn)))) : AW M dep true Φ k n pc lv (.int x :: .int 0 :: .ref i :: .int 0 :: .ref i2 :: st) (HP d) := by
  subst hx0
  intro p l e R s m args below meth c H0 D ty ad mc ms H locs cells slots Qc XC ls G hl
  obtain ⟨⟨hx, hb, htr, hml, hr, hlo, hnm, hown, hK, hC, b1, b2, b3, b4, b5, htb⟩, g2, g3, hR, hS, hQX⟩ := id G
  intro T hT X
  have hc0 : H[ad i2]? = some (vp_cell (ty 0) (N2, .inl (d.1 i2))) := (hR.1 i2 _ (hh2 d)).1
  have hc1 : H[ad i]? = some (vp_cell (ty 0) (N1, .inl (d.1 i))) := (hR.1 i _ (hh d)).1
  have ht0 : (ktys ty)[0]? = some (ty 0, FieldType.int) := rfl
  obtain ⟨-, k0, hk0, cm0, hkk0⟩ := (hK.2 0 _ ht0).1 N2 (fun j => .int (d.1 i2 j))
  obtain ⟨-, k1, hk1, cm1, hkk1⟩ := (hK.2 0 _ ht0).1 N1 (fun j => .int (d.1 i j))
  have z0 : ¬ (0 : Int32) < 0 := by decide
  have zn : ¬ nI nn < 0 := nI_pos (by omega)
  have t0 : (0 : Int32).toNatClampNeg = 0 := by decide
  have tn : (nI nn).toNatClampNeg = nn := nI_clamp (by omega)
  have i0 : (0 : Int32).toInt = 0 := by decide
  have iN : (nI nn).toInt = (nn : Int) := nI_toInt (by omega)
  have hnf := nfw
  obtain ⟨vm', X', step⟩ := X.arraycopy hx hown (hC.word hl0 rfl args) (hC.word2 ac_ok.1 rfl args) (hC.word ac_ok.2.1 rfl args) (hC.word ac_ok.2.2 rfl args) (src := ad i2) (dst := ad i) (cs := vp_cell (ty 0) (N2, .inl (d.1 i2))) (cd := vp_cell (ty 0) (N1, .inl (d.1 i))) (srcPos := 0) (destPos := 0) (n := nI nn) (by rw [hT]; exact hc0) (by rw [hT]; exact hc1)
    (fun _ h => by cases h) (fun _ h => by cases h) (fun h => by cases h) (fun h => by cases h) hk0 hk1 hkk0 hkk1 (by simp [show refKind FieldType.int = false from rfl]) z0 z0 zn
    (by rw [i0, iN]; show ¬ _ > ((arrV (ty 0) N2 (fun j => .int (d.1 i2 j))).slots.size : Int); rw [arrV_size]; omega)
    (by rw [i0, iN]; show ¬ _ > ((arrV (ty 0) N1 (fun j => .int (d.1 i j))).slots.size : Int); rw [arrV_size]; omega)
    (fun vm₁ _ j hj => by
      rw [tn] at hj
      have e9 : (vp_cell (ty 0) (N2, .inl (d.1 i2))).slots.getD ((0 : Int32).toNatClampNeg + j) .null = .int (d.1 i2 ((0 : Int32).toNatClampNeg + j)) := by
        show (arrV (ty 0) N2 (fun j => .int (d.1 i2 j))).slots.getD _ _ = _
        rw [Array.getD_eq_getD_getElem?, arrV_read _ _ (by omega)]
        rfl
      refine ⟨?_, ?_⟩
      · rw [e9]; rfl
      · rw [e9]; exact trivial)
    (g := F0 m pc ls (cvs ad (.int (nI nn) :: .int 0 :: .ref i :: .int 0 :: .ref i2 :: st))) rfl (by rw [hml]; exact hl.1) (rest := cvs ad st) rfl (by rw [hb]; exact dc) (by omega) (by rw [cvs_cat]; show 2 * 0 + _ + _ ≤ _; omega)
  have e1 : copied (vp_cell (ty 0) (N2, .inl (d.1 i2))) (vp_cell (ty 0) (N1, .inl (d.1 i))) 0 0 (nI nn) = vp_cell (ty 0) (N1, .inl (va_cpy (d.1 i2) (d.1 i) (0 : Int32).toNatClampNeg (0 : Int32).toNatClampNeg (nI nn).toNatClampNeg)) := va_copied (fun z => .int z) (ty 0) (ty 0) (d.1 i2) (d.1 i) (by rw [t0, tn]; omega)
  have e2 : va_cpy (d.1 i2) (d.1 i) (0 : Int32).toNatClampNeg (0 : Int32).toNatClampNeg (nI nn).toNatClampNeg = cpy (d.1 i) (d.1 i2) nn := by
    rw [t0, tn]
    funext q
    unfold va_cpy cpy
    simp
  rw [e1, e2] at X' step
  have hl1 : ad i < H.size := (Array.getElem?_eq_some_iff.mp hc1).1
  have hheap : ((T.setVm vm').setCell (ad i) (vp_cell (ty 0) (N1, .inl (cpy (d.1 i) (d.1 i2) nn)))).heap = H.setIfInBounds (ad i) (vp_cell (ty 0) (N1, .inl (cpy (d.1 i) (d.1 i2) nn))) := by rw [← hT]; rfl
  have oq : ∀ q : Nat, q ≠ ad i → (H.setIfInBounds (ad i) (vp_cell (ty 0) (N1, .inl (cpy (d.1 i) (d.1 i2) nn))))[q]? = H[q]? := fun q hq => by simp [Array.getElem?_setIfInBounds, Ne.symm hq]
  have hsz : (H.setIfInBounds (ad i) (vp_cell (ty 0) (N1, .inl (cpy (d.1 i) (d.1 i2) nn)))).size = H.size := by simp
  have hR2 : Rep H0 D ty ad (HP (dI d i (cpy (d.1 i) (d.1 i2) nn))) (H.setIfInBounds (ad i) (vp_cell (ty 0) (N1, .inl (cpy (d.1 i) (d.1 i2) nn)))) := by
    have := hR.set (x := .inl (0, N1, .inl (cpy (d.1 i) (d.1 i2) nn))) (hh d) (show va_at D kcl (ad i, ce ty ad _) _ from by show (H.setIfInBounds (ad i) _)[ad i]? = some _; simp [Array.getElem?_setIfInBounds, hl1]; rfl) hsz oq
    rw [HP_dI (by rw [hh, dI_s])] at this
    exact this
  have hdom : ∀ j x, HP d j = some x → ∃ y, HP (dI d i (cpy (d.1 i) (d.1 i2) nn)) j = some y := fun j x hj => HP_dom hj
  have agrk : ∀ ad', agr (HP (dI d i (cpy (d.1 i) (d.1 i2) nn))) ad ad' → agr (HP d) ad ad' := fun ad' q j x hj => by
    obtain ⟨y, hy⟩ := hdom j x hj
    exact q j y hy
  obtain ⟨hQ, hX⟩ := hQX
  have hiA : H0.size ≤ ad i := (hR.1 i _ (hh d)).2
  refine Exists.elim (kk p l e R s m args below meth c H0 D ty ad mc ms (H.setIfInBounds (ad i) (vp_cell (ty 0) (N1, .inl (cpy (d.1 i) (d.1 i2) nn)))) _ cells slots Qc XC ls ⟨⟨hx, hb, htr, hml, hr, hlo, hnm, hown, hK, hC, b1, b2, b3, b4, b5, htb⟩, g2, g3, hR2, ⟨by rw [hsz]; exact hS.1, fun q q1 q2 => by rw [oq q (fun e => q2 (by rw [e]; exact hiA))]; exact hS.2.1 q q1 q2, fun q hq => ?_⟩, fun v h' ad' t a b => hQ v h' ad' t a (agrk ad' b), fun E h' ad' t a b => hX E h' ad' t a (agrk ad' b)⟩ hl _ hheap X') (fun t hab => ⟨t, step t hab.1, hab.2⟩)
  rcases List.mem_append.mp hq with h | h
  · exact hS.2.2 q h
  · obtain ⟨z, -, hz⟩ := List.mem_map.mp h
    rw [← hz]
    exact hiA
end CPY
