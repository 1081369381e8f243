/-! THE LAW: what its cases need -/
abbrev mL_law : MI := (yL_law, cL_law, 9, ret, [])
abbrev lv5 (j : Nat) : List (Nat × Value) := [(0, .ref 240), (1, .ref 132), (2, .ref 160), (3, .ref 190), (4, .ref 191), (5, .int (nI (5 * j)))]
section LWS
variable {S : State → Heap → va_G → Prop} {M : MI} {dep : Nat} {fx : Bool} {Φ : Rs → ah → Prop} {k n pc : Nat} {lv lv' : List (Nat × Value)} {st : List Value} {h : ah}
theorem AL.drop {m : Nat} (e : lv.take m = lv') (kk : AL S M dep fx Φ k n pc lv' st h) : AL S M dep fx Φ k n pc lv st h := by
  subst e
  intro p l e R s m args below meth c H0 D ty ad mc ms H locs cells slots Qc XC ls hS9 G hl
  refine kk p l e R s m args below meth c H0 D ty ad mc ms H locs cells slots Qc XC ls hS9 G ⟨hl.1, hl.2.1, fun q hq => hl.2.2 q ?_⟩
  obtain ⟨r, hr, rfl⟩ := List.mem_map.mp hq
  exact List.mem_map.mpr ⟨r, List.mem_of_mem_take hr, rfl⟩
theorem al_i2cV {x v : Int32} (d : decode M.2.1 pc = .ok (.i2c, 1)) (hv : (x.toUInt32 % 65536).toInt32 = v) (kk : AL S M dep fx Φ k n (pc + 1) lv (.int v :: st) h) : AL S M dep fx Φ k n pc lv (.int x :: st) h := by
  subst hv
  exact al_i2c d kk
theorem al_laldV {i : Nat} {f : Nat → Int64} {v : Int64} (d : decode M.2.1 pc = .ok (.laload, 1)) (hh : h i = some (.inl (1, 1, .inr (.inl f)))) (hv : f 0 = v) (kk : AL S M dep fx Φ k n (pc + 1) lv (.long v :: st) h) : AL S M dep fx Φ k n pc lv (.int 0 :: .ref i :: st) h := by
  subst hv
  exact al_lald (x := 0) d hh rfl (by unfold vp_in; decide) kk
theorem al_daldV {i : Nat} {f : Nat → UInt64} {v : UInt64} (d : decode M.2.1 pc = .ok (.daload, 1)) (hh : h i = some (.inl (4, 1, .inr (.inr (.inr (.inl f)))))) (hv : f 0 = v) (kk : AL S M dep fx Φ k n (pc + 1) lv (.double v :: st) h) : AL S M dep fx Φ k n pc lv (.int 0 :: .ref i :: st) h := by
  subst hv
  exact al_dald (x := 0) d hh rfl (by unfold vp_in; decide) kk
end LWS
theorem MR_L {d d' : Dt} {y : Sy} (h : MR d y) (g : fL d d') : MR d' y := by
  have e : ∀ i, 160 ≤ i → i ≠ 190 → d'.1 i = d.1 i := fun i a b => (g.1 i a b).1
  obtain ⟨h1, h2, h3, h4, h5⟩ := h
  refine ⟨by rw [e 161 (by decide) (by decide)]; exact h1, by rw [e 163 (by decide) (by decide), e 160 (by decide) (by decide)]; exact h2, ?_, by rw [e 160 (by decide) (by decide)]; exact h4, by rw [e 172 (by decide) (by decide), e 160 (by decide) (by decide)]; exact h5⟩
  generalize y.2.2.1 = s at h3 ⊢
  cases s with
  | none =>
    show d'.1 160 5 = 0
    rw [e 160 (by decide) (by decide)]
    exact h3
  | some p =>
    show d'.1 160 5 = 1 ∧ RR (d'.1 164) p ∧ QOK p
    rw [e 160 (by decide) (by decide), e 164 (by decide) (by decide)]
    exact h3
theorem CC_M {d d' : Dt} {y : Sy} (h : CC d y) (g : fM d d') : CC d' y := CC_k h (fun i hi => (g.1 i (Or.inl (by omega))).1)
theorem fM_190 {d d' : Dt} (g : fM d d') : d'.2.1 190 = d.2.1 190 := (g.1 190 (Or.inr (by decide))).2
theorem lgc (a : Int64) : lg_cmp a a = 0 := by
  unfold lg_cmp
  rw [if_neg (fun z : a > a => Int64.lt_irrefl z), if_pos rfl]
theorem nI_z {a : Nat} (h : a ≤ 9) (e : nI a = 0) : a = 0 := nI_inj (by omega) (by decide) (e : nI a = nI 0)
theorem nI_bv (x : Int32) : x = nI x.toBitVec.toNat := by
  apply Int32.toBitVec_inj.mp
  show x.toBitVec = BitVec.ofNat 32 x.toBitVec.toNat
  simp
theorem i2c_nI (x : Int32) : ∃ c, c < 65536 ∧ (x.toUInt32 % 65536).toInt32 = nI c := by
  refine ⟨_, ?_, nI_bv _⟩
  show (x.toUInt32 % 65536).toNat < 65536
  rw [UInt32.toNat_mod]
  exact Nat.mod_lt _ (by decide)
theorem and63 (x : Int32) : ∃ c, c < 64 ∧ x &&& 63 = nI c := by
  refine ⟨_, ?_, nI_bv _⟩
  rw [Int32.toBitVec_and, BitVec.toNat_and]
  exact Nat.lt_of_le_of_lt Nat.and_le_right (by decide)
theorem dc0 {a : UInt64} (h : FP.Core.val64 a ≠ .nan) (op : CmpOp) : Op.cmpValue (FP.dcmp a a) op = 0 := by
  rw [show FP.dcmp a a = FP.Core.dcmp a a from rfl, FP.Core.dcmp_self h]
  rfl
theorem XO_nil {d : Dt} {o : Out} : ∀ E d', ¬ XO d [] o E d' := fun E d' ⟨_, _, _, h⟩ => by cases h
theorem lim {L j : Nat} (hL : L ≤ 2560) (hj : 5 * j ≤ L) : Int32.ofNat L - 5 < nI (5 * j) ↔ L < 5 * j + 5 := by
  have e : (Int32.ofNat L - 5).toInt = (L : Int) - 5 := by
    rw [Int32.toInt_sub, show (Int32.ofNat L).toInt = (L : Int) from nI_toInt (by omega), show (5 : Int32).toInt = 5 by decide]
    exact Int.bmod_eq_of_le (by omega) (by omega)
  rw [Int32.lt_iff_toInt_lt, e, nI_toInt (by omega)]
  omega
