/-! WHERE EACH CELL LIES. 0 .. 131: eleven states (now, saved, nine of the history), twelve places each; 132 .. 152 the class's others; 160 .. 174 the reference; 190, 191 the law's two rows; 200 on: constants -/
abbrev Dt : Type := (Nat → Nat → Int32) × (Nat → Nat → Int64) × (Nat → Nat → UInt64)
abbrev shp : Type := (Nat × Nat) ⊕ (Nat × List (Option Nat))
def cmdv (x : Int32) : Value := if x < 0 then .null else .ref (200 + x.toNatClampNeg)
def mkF (f : Nat → Int32) : Nat → List (Option Nat) → List Value
  | _, [] => []
  | k, none :: l => .int (f k) :: mkF f (k + 1) l
  | k, some r :: l => (if r = 1000 then cmdv (f k) else .ref r) :: mkF f (k + 1) l
def mkA (t n : Nat) (f : Nat → Int32) (e : Nat → Int64) (g : Nat → UInt64) : vp_A := match t with
  | 1 => (n, .inr (.inl e))
  | 4 => (n, .inr (.inr (.inr (.inl g))))
  | 5 => (n, .inr (.inr (.inr (.inr (fun j => some (24 + 12 * j))))))
  | 6 => (n, .inr (.inr (.inr (.inr (fun j => some (209 + j))))))
  | _ => (n, .inl f)
def mkC (s : shp) (f : Nat → Int32) (e : Nat → Int64) (g : Nat → UInt64) : ae := match s with
  | .inl (t, n) => .inl (t, mkA t n f e g)
  | .inr (c, l) => .inr (c, mkF f 0 l)
def stS (a j : Nat) : Option shp := match j with
  | 0 => some (.inr (4, [none, none, some (12 * a + 1), some (12 * a + 2), some (12 * a + 3), some (12 * a + 4), some (12 * a + 5), some (12 * a + 6), some (12 * a + 7), some (12 * a + 8), some (12 * a + 9), some (12 * a + 10), some (12 * a + 11)]))
  | 1 => some (.inl (0, 3))
  | 2 => some (.inl (0, 4))
  | 3 => some (.inl (0, 8))
  | 4 => some (.inl (0, 36))
  | 5 => some (.inl (0, 12))
  | 6 => some (.inl (0, 12))
  | 7 => some (.inl (0, 12))
  | 8 => some (.inl (0, 12))
  | 9 => some (.inl (0, 12))
  | 10 => some (.inl (0, 12))
  | 11 => some (.inl (0, 12))
  | _ => none
def shL : List (Option shp) := [some (.inr (7, [some 0, some 12, some 133, some 138, some 148, some 150, none, none])), some (.inr (5, [some 0, some 134])), some (.inr (6, [some 135, some 136, some 137, none, none, none, none, none])), some (.inl (0, 12)), some (.inl (0, 3)), some (.inl (0, 3)), some (.inr (3, [some 0, some 139, some 143, some 144, some 145, some 146, some 147, none])), some (.inr (6, [some 140, some 141, some 142, none, none, none, none, none])), some (.inl (0, 12)), some (.inl (0, 3)), some (.inl (0, 3)), some (.inl (0, 256)), some (.inl (2, 256)), some (.inl (1, 256)), some (.inl (0, 256)), some (.inl (0, 256)), some (.inr (1, [some 149, none, none])), some (.inl (5, 9)), some (.inr (2, [some 151, some 152, none, some 1000, none])), some (.inl (3, 80)), some (.inl (0, 4)), none, none, none, none, none, none, none, some (.inr (8, [some 161, some 162, some 163, none, some 164, none, none, none, some 165, none, some 166, some 167, some 168, some 169, some 170, some 171, some 172, none, none, some 173, none, some 174])), some (.inl (0, 113)), some (.inl (0, 113)), some (.inl (0, 904)), some (.inl (0, 113)), some (.inl (0, 12)), some (.inl (0, 12)), some (.inl (2, 256)), some (.inl (2, 1024)), some (.inl (1, 256)), some (.inl (1, 256)), some (.inl (0, 8)), some (.inl (3, 80)), some (.inl (0, 4)), some (.inl (6, 6)), none, none, none, none, none, none, none, none, none, none, none, none, none, none, none, some (.inl (1, 1)), some (.inl (4, 1))]
def SH (i : Nat) : Option shp := if i < 132 then stS (i / 12) (i % 12) else (shL[i - 132]?).getD none
def HP (d : Dt) : ah := fun i => (SH i).map (fun s => mkC s (d.1 i) (d.2.1 i) (d.2.2 i))
theorem HP_of {i : Nat} {s : shp} (h : SH i = some s) (d : Dt) : HP d i = some (mkC s (d.1 i) (d.2.1 i) (d.2.2 i)) := by simp [HP, h]
theorem HP_dom {d d' : Dt} {i : Nat} {x : ae} (h : HP d i = some x) : ∃ y, HP d' i = some y := by
  cases hs : SH i with
  | none => simp [HP, hs] at h
  | some s => exact ⟨_, HP_of hs d'⟩
theorem SH_st (a : Nat) {j : Nat} (ha : a < 11) (hj : j < 12) : SH (12 * a + j) = stS a j := by
  have h1 : 12 * a + j < 132 := by omega
  have h2 : (12 * a + j) / 12 = a := by omega
  have h3 : (12 * a + j) % 12 = j := by omega
  simp only [SH, h1, if_true, h2, h3]
/-- one row of numbers is written -/
def dI (d : Dt) (i : Nat) (f : Nat → Int32) : Dt := (fun j => if j = i then f else d.1 j, d.2)
def dL (d : Dt) (i : Nat) (f : Nat → Int64) : Dt := (d.1, fun j => if j = i then f else d.2.1 j, d.2.2)
def dD (d : Dt) (i : Nat) (f : Nat → UInt64) : Dt := (d.1, d.2.1, fun j => if j = i then f else d.2.2 j)
theorem dI_1 (d : Dt) (i : Nat) (f : Nat → Int32) (j : Nat) : (dI d i f).1 j = if j = i then f else d.1 j := rfl
theorem dI_2 (d : Dt) (i : Nat) (f : Nat → Int32) : (dI d i f).2 = d.2 := rfl
theorem dI_s (d : Dt) (i : Nat) (f : Nat → Int32) : (dI d i f).1 i = f := by simp [dI]
theorem dI_n (d : Dt) {i j : Nat} (f : Nat → Int32) (h : j ≠ i) : (dI d i f).1 j = d.1 j := by simp [dI, h]
theorem dL_1 (d : Dt) (i : Nat) (f : Nat → Int64) : (dL d i f).1 = d.1 := rfl
theorem dL_2 (d : Dt) (i : Nat) (f : Nat → Int64) (j : Nat) : (dL d i f).2.1 j = if j = i then f else d.2.1 j := rfl
theorem dL_3 (d : Dt) (i : Nat) (f : Nat → Int64) : (dL d i f).2.2 = d.2.2 := rfl
theorem dL_s (d : Dt) (i : Nat) (f : Nat → Int64) : (dL d i f).2.1 i = f := by simp [dL]
theorem dL_n (d : Dt) {i j : Nat} (f : Nat → Int64) (h : j ≠ i) : (dL d i f).2.1 j = d.2.1 j := by simp [dL, h]
theorem HP_dI {d : Dt} {i : Nat} {f : Nat → Int32} {x : ae} (h : HP (dI d i f) i = some x) : uph (HP d) i x = HP (dI d i f) := by
  funext j
  by_cases e : j = i
  · rw [e, uph_same, h]
  · rw [uph_ne _ _ e]
    simp [HP, dI, e]
theorem HP_dL {d : Dt} {i : Nat} {f : Nat → Int64} {x : ae} (h : HP (dL d i f) i = some x) : uph (HP d) i x = HP (dL d i f) := by
  funext j
  by_cases e : j = i
  · rw [e, uph_same, h]
  · rw [uph_ne _ _ e]
    simp [HP, dL, e]
theorem HP_dD {d : Dt} {i : Nat} {f : Nat → UInt64} {x : ae} (h : HP (dD d i f) i = some x) : uph (HP d) i x = HP (dD d i f) := by
  funext j
  by_cases e : j = i
  · rw [e, uph_same, h]
  · rw [uph_ne _ _ e]
    simp [HP, dD, e]
theorem hp_0 (d : Dt) : HP d 0 = some (.inr (4, [.int (d.1 0 0), .int (d.1 0 1), .ref 1, .ref 2, .ref 3, .ref 4, .ref 5, .ref 6, .ref 7, .ref 8, .ref 9, .ref 10, .ref 11])) := rfl
theorem hp_1 (d : Dt) : HP d 1 = some (.inl (0, 3, .inl (d.1 1))) := rfl
theorem hp_2 (d : Dt) : HP d 2 = some (.inl (0, 4, .inl (d.1 2))) := rfl
theorem hp_3 (d : Dt) : HP d 3 = some (.inl (0, 8, .inl (d.1 3))) := rfl
theorem hp_4 (d : Dt) : HP d 4 = some (.inl (0, 36, .inl (d.1 4))) := rfl
theorem hp_5 (d : Dt) : HP d 5 = some (.inl (0, 12, .inl (d.1 5))) := rfl
theorem hp_6 (d : Dt) : HP d 6 = some (.inl (0, 12, .inl (d.1 6))) := rfl
theorem hp_7 (d : Dt) : HP d 7 = some (.inl (0, 12, .inl (d.1 7))) := rfl
theorem hp_8 (d : Dt) : HP d 8 = some (.inl (0, 12, .inl (d.1 8))) := rfl
theorem hp_9 (d : Dt) : HP d 9 = some (.inl (0, 12, .inl (d.1 9))) := rfl
theorem hp_10 (d : Dt) : HP d 10 = some (.inl (0, 12, .inl (d.1 10))) := rfl
theorem hp_11 (d : Dt) : HP d 11 = some (.inl (0, 12, .inl (d.1 11))) := rfl
theorem hp_132 (d : Dt) : HP d 132 = some (.inr (7, [.ref 0, .ref 12, .ref 133, .ref 138, .ref 148, .ref 150, .int (d.1 132 6), .int (d.1 132 7)])) := rfl
theorem hp_133 (d : Dt) : HP d 133 = some (.inr (5, [.ref 0, .ref 134])) := rfl
theorem hp_134 (d : Dt) : HP d 134 = some (.inr (6, [.ref 135, .ref 136, .ref 137, .int (d.1 134 3), .int (d.1 134 4), .int (d.1 134 5), .int (d.1 134 6), .int (d.1 134 7)])) := rfl
theorem hp_135 (d : Dt) : HP d 135 = some (.inl (0, 12, .inl (d.1 135))) := rfl
theorem hp_136 (d : Dt) : HP d 136 = some (.inl (0, 3, .inl (d.1 136))) := rfl
theorem hp_137 (d : Dt) : HP d 137 = some (.inl (0, 3, .inl (d.1 137))) := rfl
theorem hp_138 (d : Dt) : HP d 138 = some (.inr (3, [.ref 0, .ref 139, .ref 143, .ref 144, .ref 145, .ref 146, .ref 147, .int (d.1 138 7)])) := rfl
theorem hp_139 (d : Dt) : HP d 139 = some (.inr (6, [.ref 140, .ref 141, .ref 142, .int (d.1 139 3), .int (d.1 139 4), .int (d.1 139 5), .int (d.1 139 6), .int (d.1 139 7)])) := rfl
theorem hp_140 (d : Dt) : HP d 140 = some (.inl (0, 12, .inl (d.1 140))) := rfl
theorem hp_141 (d : Dt) : HP d 141 = some (.inl (0, 3, .inl (d.1 141))) := rfl
theorem hp_142 (d : Dt) : HP d 142 = some (.inl (0, 3, .inl (d.1 142))) := rfl
theorem hp_143 (d : Dt) : HP d 143 = some (.inl (0, 256, .inl (d.1 143))) := rfl
theorem hp_144 (d : Dt) : HP d 144 = some (.inl (2, 256, .inl (d.1 144))) := rfl
theorem hp_145 (d : Dt) : HP d 145 = some (.inl (1, 256, .inr (.inl (d.2.1 145)))) := rfl
theorem hp_146 (d : Dt) : HP d 146 = some (.inl (0, 256, .inl (d.1 146))) := rfl
theorem hp_147 (d : Dt) : HP d 147 = some (.inl (0, 256, .inl (d.1 147))) := rfl
theorem hp_148 (d : Dt) : HP d 148 = some (.inr (1, [.ref 149, .int (d.1 148 1), .int (d.1 148 2)])) := rfl
theorem hp_149 (d : Dt) : HP d 149 = some (.inl (5, 9, .inr (.inr (.inr (.inr (fun j => some (24 + 12 * j))))))) := rfl
theorem hp_150 (d : Dt) : HP d 150 = some (.inr (2, [.ref 151, .ref 152, .int (d.1 150 2), cmdv (d.1 150 3), .int (d.1 150 4)])) := rfl
theorem hp_151 (d : Dt) : HP d 151 = some (.inl (3, 80, .inl (d.1 151))) := rfl
theorem hp_152 (d : Dt) : HP d 152 = some (.inl (0, 4, .inl (d.1 152))) := rfl
theorem hp_160 (d : Dt) : HP d 160 = some (.inr (8, [.ref 161, .ref 162, .ref 163, .int (d.1 160 3), .ref 164, .int (d.1 160 5), .int (d.1 160 6), .int (d.1 160 7), .ref 165, .int (d.1 160 9), .ref 166, .ref 167, .ref 168, .ref 169, .ref 170, .ref 171, .ref 172, .int (d.1 160 17), .int (d.1 160 18), .ref 173, .int (d.1 160 20), .ref 174])) := rfl
theorem hp_161 (d : Dt) : HP d 161 = some (.inl (0, 113, .inl (d.1 161))) := rfl
theorem hp_162 (d : Dt) : HP d 162 = some (.inl (0, 113, .inl (d.1 162))) := rfl
theorem hp_163 (d : Dt) : HP d 163 = some (.inl (0, 904, .inl (d.1 163))) := rfl
theorem hp_164 (d : Dt) : HP d 164 = some (.inl (0, 113, .inl (d.1 164))) := rfl
theorem hp_165 (d : Dt) : HP d 165 = some (.inl (0, 12, .inl (d.1 165))) := rfl
theorem hp_166 (d : Dt) : HP d 166 = some (.inl (0, 12, .inl (d.1 166))) := rfl
theorem hp_167 (d : Dt) : HP d 167 = some (.inl (2, 256, .inl (d.1 167))) := rfl
theorem hp_168 (d : Dt) : HP d 168 = some (.inl (2, 1024, .inl (d.1 168))) := rfl
theorem hp_169 (d : Dt) : HP d 169 = some (.inl (1, 256, .inr (.inl (d.2.1 169)))) := rfl
theorem hp_170 (d : Dt) : HP d 170 = some (.inl (1, 256, .inr (.inl (d.2.1 170)))) := rfl
theorem hp_171 (d : Dt) : HP d 171 = some (.inl (0, 8, .inl (d.1 171))) := rfl
theorem hp_172 (d : Dt) : HP d 172 = some (.inl (3, 80, .inl (d.1 172))) := rfl
theorem hp_173 (d : Dt) : HP d 173 = some (.inl (0, 4, .inl (d.1 173))) := rfl
theorem hp_174 (d : Dt) : HP d 174 = some (.inl (6, 6, .inr (.inr (.inr (.inr (fun j => some (209 + j))))))) := rfl
theorem hp_190 (d : Dt) : HP d 190 = some (.inl (1, 1, .inr (.inl (d.2.1 190)))) := rfl
theorem hp_191 (d : Dt) : HP d 191 = some (.inl (4, 1, .inr (.inr (.inr (.inl (d.2.2 191)))))) := rfl
theorem hpw_0 {w : Nat} (hw : w = 134 ∨ w = 139) (d : Dt) : HP d w = some (.inr (6, [.ref (w + 1), .ref (w + 2), .ref (w + 3), .int (d.1 w 3), .int (d.1 w 4), .int (d.1 w 5), .int (d.1 w 6), .int (d.1 w 7)])) := by rcases hw with rfl | rfl <;> rfl
theorem hpw_1 {w : Nat} (hw : w = 134 ∨ w = 139) (d : Dt) : HP d (w + 1) = some (.inl (0, 12, .inl (d.1 (w + 1)))) := by rcases hw with rfl | rfl <;> rfl
theorem hpw_2 {w : Nat} (hw : w = 134 ∨ w = 139) (d : Dt) : HP d (w + 2) = some (.inl (0, 3, .inl (d.1 (w + 2)))) := by rcases hw with rfl | rfl <;> rfl
theorem hpw_3 {w : Nat} (hw : w = 134 ∨ w = 139) (d : Dt) : HP d (w + 3) = some (.inl (0, 3, .inl (d.1 (w + 3)))) := by rcases hw with rfl | rfl <;> rfl
theorem hps_0 {a : Nat} (ha : a < 11) (d : Dt) : HP d (12 * a) = some (.inr (4, [.int (d.1 (12 * a) 0), .int (d.1 (12 * a) 1), .ref (12 * a + 1), .ref (12 * a + 2), .ref (12 * a + 3), .ref (12 * a + 4), .ref (12 * a + 5), .ref (12 * a + 6), .ref (12 * a + 7), .ref (12 * a + 8), .ref (12 * a + 9), .ref (12 * a + 10), .ref (12 * a + 11)])) := by
  have h := HP_of (SH_st a ha (show 0 < 12 by omega)) d
  have e : ∀ k, k ≤ 11 → ¬ (12 * a + k = 1000) := by intro k hk; omega
  rw [Nat.add_zero] at h
  rw [h]
  simp [mkC, mkF, stS, e 1, e 2, e 3, e 4, e 5, e 6, e 7, e 8, e 9, e 10, e 11]
theorem hps_1 {a : Nat} (ha : a < 11) (d : Dt) : HP d (12 * a + 1) = some (.inl (0, 3, .inl (d.1 (12 * a + 1)))) := HP_of (SH_st a ha (show 1 < 12 by omega)) d
theorem hps_2 {a : Nat} (ha : a < 11) (d : Dt) : HP d (12 * a + 2) = some (.inl (0, 4, .inl (d.1 (12 * a + 2)))) := HP_of (SH_st a ha (show 2 < 12 by omega)) d
theorem hps_3 {a : Nat} (ha : a < 11) (d : Dt) : HP d (12 * a + 3) = some (.inl (0, 8, .inl (d.1 (12 * a + 3)))) := HP_of (SH_st a ha (show 3 < 12 by omega)) d
theorem hps_4 {a : Nat} (ha : a < 11) (d : Dt) : HP d (12 * a + 4) = some (.inl (0, 36, .inl (d.1 (12 * a + 4)))) := HP_of (SH_st a ha (show 4 < 12 by omega)) d
theorem hps_5 {a : Nat} (ha : a < 11) (d : Dt) : HP d (12 * a + 5) = some (.inl (0, 12, .inl (d.1 (12 * a + 5)))) := HP_of (SH_st a ha (show 5 < 12 by omega)) d
theorem hps_6 {a : Nat} (ha : a < 11) (d : Dt) : HP d (12 * a + 6) = some (.inl (0, 12, .inl (d.1 (12 * a + 6)))) := HP_of (SH_st a ha (show 6 < 12 by omega)) d
theorem hps_7 {a : Nat} (ha : a < 11) (d : Dt) : HP d (12 * a + 7) = some (.inl (0, 12, .inl (d.1 (12 * a + 7)))) := HP_of (SH_st a ha (show 7 < 12 by omega)) d
theorem hps_8 {a : Nat} (ha : a < 11) (d : Dt) : HP d (12 * a + 8) = some (.inl (0, 12, .inl (d.1 (12 * a + 8)))) := HP_of (SH_st a ha (show 8 < 12 by omega)) d
theorem hps_9 {a : Nat} (ha : a < 11) (d : Dt) : HP d (12 * a + 9) = some (.inl (0, 12, .inl (d.1 (12 * a + 9)))) := HP_of (SH_st a ha (show 9 < 12 by omega)) d
theorem hps_10 {a : Nat} (ha : a < 11) (d : Dt) : HP d (12 * a + 10) = some (.inl (0, 12, .inl (d.1 (12 * a + 10)))) := HP_of (SH_st a ha (show 10 < 12 by omega)) d
theorem hps_11 {a : Nat} (ha : a < 11) (d : Dt) : HP d (12 * a + 11) = some (.inl (0, 12, .inl (d.1 (12 * a + 11)))) := HP_of (SH_st a ha (show 11 < 12 by omega)) d
/-- what a method's end says, in numbers -/
abbrev nX : String → Dt → Prop := fun _ _ => False
def PX (P : Option Value → Dt → Prop) (X : String → Dt → Prop) : Rs → ah → Prop := fun r h' => ∃ d', h' = HP d' ∧ match r with
  | .inl v => P v d'
  | .inr E => X E d'
abbrev PIx (P : Int32 → Dt → Prop) (X : String → Dt → Prop) : Rs → ah → Prop := PX (fun v d' => ∃ x, v = some (.int x) ∧ P x d') X
abbrev PVx (P : Dt → Prop) (X : String → Dt → Prop) : Rs → ah → Prop := PX (fun v d' => v = none ∧ P d') X
abbrev PLx (P : Int64 → Dt → Prop) (X : String → Dt → Prop) : Rs → ah → Prop := PX (fun v d' => ∃ x, v = some (.long x) ∧ P x d') X
abbrev PFx (P : UInt32 → Dt → Prop) (X : String → Dt → Prop) : Rs → ah → Prop := PX (fun v d' => ∃ x, v = some (.float x) ∧ P x d') X
abbrev PRx (P : Value → Dt → Prop) (X : String → Dt → Prop) : Rs → ah → Prop := PX (fun v d' => ∃ x, v = some x ∧ P x d') X
theorem PX_dom {P : Option Value → Dt → Prop} {X : String → Dt → Prop} {d : Dt} : ∀ (v : Rs) (h' : ah), PX P X v h' → ∀ i x, HP d i = some x → ∃ y, h' i = some y := by
  rintro v h' ⟨d', rfl, -⟩ i x hx
  exact HP_dom hx
section AD
variable {M M' : MI} {dep dep' : Nat} {Φ : Rs → ah → Prop} {k n k' n' pc na idx : Nat} {lv : List (Nat × Value)} {st stk as : List Value} {d : Dt} {P' : Option Value → Dt → Prop} {X' : String → Dt → Prop}
/-- put a number into a field -/
theorem aw_putI {i ci j N : Nat} {C : String} {T : u_T} {fs : List Value} {x : Int32} (ty0 : FieldType) (dc : decode M.2.1 pc = .ok (.putfield idx, 3)) (hw : Cond.fieldLink M.1.cls idx (T j).1 (T j).2.1 (T j).2.2.1 ∈ lw_tbl) (hc : kcl[ci]? = some (C, T, N)) (hk : j < N) (hfin : (T j).2.2.2 = false) (tys : Nat → FieldType) (htys : ∀ k, k < N → parseFieldDescriptor (T k).2.2.1 = some (tys k)) (hnm : ∀ a, a < N → ∀ b, b < N → a ≠ b → (T a).2.1 ≠ (T b).2.1) (hty : tys j = ty0) (hn : narrow ty0 (.int x) = .int x) (hfit : fits ty0 (.int x) = true) (hh : HP d i = some (.inr (ci, fs))) (hlen : j < fs.length) (hnew : HP (dI d i (upd (d.1 i) j x)) i = some (.inr (ci, fs.set j (.int x))))
    (kk : AW M dep true Φ k n (pc + 3) lv st (HP (dI d i (upd (d.1 i) j x)))) : AW M dep true Φ k n pc lv (.int x :: .ref i :: st) (HP d) :=
  aw_putf ty0 dc hc hw hk hfin tys htys hnm hty (fun _ => hn) (fun _ => hfit) hh hlen (by rw [HP_dI hnew]; exact kk)
theorem aw_iastD {i N : Nat} {x y : Int32} (dc : decode M.2.1 pc = .ok (.iastore, 1)) (hh : ∀ d, HP d i = some (.inl (0, N, .inl (d.1 i)))) (hin : vp_in x N)
    (kk : AW M dep true Φ k n (pc + 1) lv st (HP (dI d i (upd (d.1 i) x.toNatClampNeg y)))) : AW M dep true Φ k n pc lv (.int y :: .int x :: .ref i :: st) (HP d) :=
  aw_iast dc (hh d) rfl hin (by rw [HP_dI (f := upd (d.1 i) x.toNatClampNeg y) (by rw [hh, dI_s])]; exact kk)
theorem aw_zastD {i N : Nat} {x y : Int32} (dc : decode M.2.1 pc = .ok (.bastore, 1)) (hh : ∀ d, HP d i = some (.inl (2, N, .inl (d.1 i)))) (hin : vp_in x N) (hy : narrow .boolean (.int y) = .int y)
    (kk : AW M dep true Φ k n (pc + 1) lv st (HP (dI d i (upd (d.1 i) x.toNatClampNeg y)))) : AW M dep true Φ k n pc lv (.int y :: .int x :: .ref i :: st) (HP d) :=
  aw_zast dc (hh d) rfl hin hy (by rw [HP_dI (f := upd (d.1 i) x.toNatClampNeg y) (by rw [hh, dI_s])]; exact kk)
theorem aw_castD {i N : Nat} {x y : Int32} (dc : decode M.2.1 pc = .ok (.castore, 1)) (hh : ∀ d, HP d i = some (.inl (3, N, .inl (d.1 i)))) (hin : vp_in x N) (hy : narrow .char (.int y) = .int y)
    (kk : AW M dep true Φ k n (pc + 1) lv st (HP (dI d i (upd (d.1 i) x.toNatClampNeg y)))) : AW M dep true Φ k n pc lv (.int y :: .int x :: .ref i :: st) (HP d) :=
  aw_cast dc (hh d) rfl hin hy (by rw [HP_dI (f := upd (d.1 i) x.toNatClampNeg y) (by rw [hh, dI_s])]; exact kk)
theorem aw_lastD {i N : Nat} {x : Int32} {y : Int64} (dc : decode M.2.1 pc = .ok (.lastore, 1)) (hh : ∀ d, HP d i = some (.inl (1, N, .inr (.inl (d.2.1 i))))) (hin : vp_in x N)
    (kk : AW M dep true Φ k n (pc + 1) lv st (HP (dL d i (vp_updL (d.2.1 i) x.toNatClampNeg y)))) : AW M dep true Φ k n pc lv (.long y :: .int x :: .ref i :: st) (HP d) :=
  aw_last dc (hh d) rfl hin (by rw [HP_dL (f := vp_updL (d.2.1 i) x.toNatClampNeg y) (by rw [hh, dL_s])]; exact kk)
/-- a method that answers a number and leaves all as it is -/
def CP (M : MI) (dep : Nat) (as : List Value) (d : Dt) (x : Int32) : Prop := AC M dep true (PIx (fun y d' => y = x ∧ d' = d) nX) 0 0 as (HP d)
def CI (M : MI) (dep : Nat) (as : List Value) (d : Dt) (P : Int32 → Dt → Prop) : Prop := AC M dep true (PIx P nX) 0 0 as (HP d)
def CV (M : MI) (dep : Nat) (as : List Value) (d : Dt) (P : Dt → Prop) : Prop := AC M dep true (PVx P nX) 0 0 as (HP d)
def CL (M : MI) (dep : Nat) (as : List Value) (d : Dt) (P : Int64 → Dt → Prop) : Prop := AC M dep true (PLx P nX) 0 0 as (HP d)
def CR (M : MI) (dep : Nat) (as : List Value) (d : Dt) (P : Value → Dt → Prop) : Prop := AC M dep true (PRx P nX) 0 0 as (HP d)
theorem CP.I {as : List Value} {x : Int32} (h : CP M dep as d x) : CI M dep as d (fun y d' => y = x ∧ d' = d) := h
theorem nX_no {P : Option Value → Dt → Prop} (E : String) (h' : ah) : ¬ PX P nX (.inr E) h' := fun ⟨_, _, q⟩ => q
/-- virtual calls that come back -/
theorem aw_cV {b ci N : Nat} {C : String} {T : u_T} {fs : List Value} (dc : decode M.2.1 pc = .ok (.invokevirtual idx, 3)) (ho : MO M' na) (hv : MV M') (ht0 : M.2.2.2.2 = []) (hl0 : Cond.methodLink M.1.cls idx M'.1 ∈ lw_tbl) (hA : AC M' dep' true (PX P' nX) 0 0 (.ref b :: as) (HP d)) (hst : stk = as.reverse ++ .ref b :: st) (hh : HP d b = some (.inr (ci, fs))) (hc : kcl[ci]? = some (C, T, N)) (hcl : M'.1.cls = C) (hna : as.length = na) (hlen : (lg_sl (.ref b :: as)).length ≤ M'.2.2.1) (hd : dep' + 1 ≤ dep) (hcat : (st.map fun v => v.category).sum ≤ 8)
    (kk : ∀ v d', P' v d' → AW M dep true Φ k n (pc + 3) lv (v.toList ++ st) (HP d')) : AW M dep true Φ k n pc lv stk (HP d) :=
  aw_callV dc ht0 hl0 ho hv hA hst hh hc hcl hna hlen hd hcat (Nat.zero_le _) (Nat.zero_le _) (fun _ => rfl) PX_dom (Or.inl rfl) (fun v h' ⟨d', e, q⟩ => by subst e; exact kk v d' q) (fun E h' q => (nX_no E h' q).elim)
theorem aw_cS (dc : decode M.2.1 pc = .ok (.invokestatic idx, 3)) (ho : MO M' na) (hv : MS M') (ht0 : M.2.2.2.2 = []) (hl0 : Cond.methodLink M.1.cls idx M'.1 ∈ lw_tbl) (hA : AC M' dep' true (PX P' nX) 0 0 as (HP d)) (hst : stk = as.reverse ++ st) (hna : as.length = na) (hlen : (lg_sl as).length ≤ M'.2.2.1) (hd : dep' + 1 ≤ dep) (hcat : (st.map fun v => v.category).sum ≤ 8)
    (kk : ∀ v d', P' v d' → AW M dep true Φ k n (pc + 3) lv (v.toList ++ st) (HP d')) : AW M dep true Φ k n pc lv stk (HP d) :=
  aw_callS dc ht0 hl0 ho hv hA hst hna hlen hd hcat (Nat.zero_le _) (Nat.zero_le _) (fun _ => rfl) PX_dom (Or.inl rfl) (fun v h' ⟨d', e, q⟩ => by subst e; exact kk v d' q) (fun E h' q => (nX_no E h' q).elim)
theorem aw_cSN {host : String} (dc : decode M.2.1 pc = .ok (.invokestatic idx, 3)) (ho : MO M' na) (hv : MS M') (hl0 : Cond.methodLinkNest M.1.cls idx M'.1 host ∈ lw_tbl) (hA : AC M' dep' true (PX P' nX) 0 0 as (HP d)) (hst : stk = as.reverse ++ st) (hna : as.length = na) (hlen : (lg_sl as).length ≤ M'.2.2.1) (hd : dep' + 1 ≤ dep) (hcat : (st.map fun v => v.category).sum ≤ 8)
    (kk : ∀ v d', P' v d' → AW M dep true Φ k n (pc + 3) lv (v.toList ++ st) (HP d')) : AW M dep true Φ k n pc lv stk (HP d) :=
  aw_callSN dc hl0 ho hv hA hst (fun E h' => nX_no E h') hna hlen hd hcat (Nat.zero_le _) (Nat.zero_le _) (fun _ => rfl) PX_dom (Or.inl rfl) (fun v h' ⟨d', e, q⟩ => by subst e; exact kk v d' q)
theorem aw_cVP {x : Int32} {b ci N : Nat} {C : String} {T : u_T} {fs : List Value} (dc : decode M.2.1 pc = .ok (.invokevirtual idx, 3)) (ho : MO M' na) (hv : MV M') (ht0 : M.2.2.2.2 = []) (hl0 : Cond.methodLink M.1.cls idx M'.1 ∈ lw_tbl) (hA : CP M' dep' (.ref b :: as) d x) (hst : stk = as.reverse ++ .ref b :: st) (hh : HP d b = some (.inr (ci, fs))) (hc : kcl[ci]? = some (C, T, N)) (hcl : M'.1.cls = C) (hna : as.length = na) (hlen : (lg_sl (.ref b :: as)).length ≤ M'.2.2.1) (hd : dep' + 1 ≤ dep) (hcat : (st.map fun v => v.category).sum ≤ 8) (kk : AW M dep true Φ k n (pc + 3) lv (.int x :: st) (HP d)) : AW M dep true Φ k n pc lv stk (HP d) := aw_cV dc ho hv ht0 hl0 hA hst hh hc hcl hna hlen hd hcat (by rintro _ _ ⟨_, rfl, rfl, rfl⟩; exact kk)
theorem aw_cVI {P : Int32 → Dt → Prop} {b ci N : Nat} {C : String} {T : u_T} {fs : List Value} (dc : decode M.2.1 pc = .ok (.invokevirtual idx, 3)) (ho : MO M' na) (hv : MV M') (ht0 : M.2.2.2.2 = []) (hl0 : Cond.methodLink M.1.cls idx M'.1 ∈ lw_tbl) (hA : CI M' dep' (.ref b :: as) d P) (hst : stk = as.reverse ++ .ref b :: st) (hh : HP d b = some (.inr (ci, fs))) (hc : kcl[ci]? = some (C, T, N)) (hcl : M'.1.cls = C) (hna : as.length = na) (hlen : (lg_sl (.ref b :: as)).length ≤ M'.2.2.1) (hd : dep' + 1 ≤ dep) (hcat : (st.map fun v => v.category).sum ≤ 8) (kk : ∀ x d', P x d' → AW M dep true Φ k n (pc + 3) lv (.int x :: st) (HP d')) : AW M dep true Φ k n pc lv stk (HP d) := aw_cV dc ho hv ht0 hl0 hA hst hh hc hcl hna hlen hd hcat (by rintro _ d' ⟨x, rfl, q⟩; exact kk x d' q)
theorem aw_cVv {P : Dt → Prop} {b ci N : Nat} {C : String} {T : u_T} {fs : List Value} (dc : decode M.2.1 pc = .ok (.invokevirtual idx, 3)) (ho : MO M' na) (hv : MV M') (ht0 : M.2.2.2.2 = []) (hl0 : Cond.methodLink M.1.cls idx M'.1 ∈ lw_tbl) (hA : CV M' dep' (.ref b :: as) d P) (hst : stk = as.reverse ++ .ref b :: st) (hh : HP d b = some (.inr (ci, fs))) (hc : kcl[ci]? = some (C, T, N)) (hcl : M'.1.cls = C) (hna : as.length = na) (hlen : (lg_sl (.ref b :: as)).length ≤ M'.2.2.1) (hd : dep' + 1 ≤ dep) (hcat : (st.map fun v => v.category).sum ≤ 8) (kk : ∀ d', P d' → AW M dep true Φ k n (pc + 3) lv st (HP d')) : AW M dep true Φ k n pc lv stk (HP d) := aw_cV dc ho hv ht0 hl0 hA hst hh hc hcl hna hlen hd hcat (by rintro _ d' ⟨rfl, q⟩; exact kk d' q)
theorem aw_cVL {P : Int64 → Dt → Prop} {b ci N : Nat} {C : String} {T : u_T} {fs : List Value} (dc : decode M.2.1 pc = .ok (.invokevirtual idx, 3)) (ho : MO M' na) (hv : MV M') (ht0 : M.2.2.2.2 = []) (hl0 : Cond.methodLink M.1.cls idx M'.1 ∈ lw_tbl) (hA : CL M' dep' (.ref b :: as) d P) (hst : stk = as.reverse ++ .ref b :: st) (hh : HP d b = some (.inr (ci, fs))) (hc : kcl[ci]? = some (C, T, N)) (hcl : M'.1.cls = C) (hna : as.length = na) (hlen : (lg_sl (.ref b :: as)).length ≤ M'.2.2.1) (hd : dep' + 1 ≤ dep) (hcat : (st.map fun v => v.category).sum ≤ 8) (kk : ∀ x d', P x d' → AW M dep true Φ k n (pc + 3) lv (.long x :: st) (HP d')) : AW M dep true Φ k n pc lv stk (HP d) := aw_cV dc ho hv ht0 hl0 hA hst hh hc hcl hna hlen hd hcat (by rintro _ d' ⟨x, rfl, q⟩; exact kk x d' q)
theorem aw_cVR {P : Value → Dt → Prop} {b ci N : Nat} {C : String} {T : u_T} {fs : List Value} (dc : decode M.2.1 pc = .ok (.invokevirtual idx, 3)) (ho : MO M' na) (hv : MV M') (ht0 : M.2.2.2.2 = []) (hl0 : Cond.methodLink M.1.cls idx M'.1 ∈ lw_tbl) (hA : CR M' dep' (.ref b :: as) d P) (hst : stk = as.reverse ++ .ref b :: st) (hh : HP d b = some (.inr (ci, fs))) (hc : kcl[ci]? = some (C, T, N)) (hcl : M'.1.cls = C) (hna : as.length = na) (hlen : (lg_sl (.ref b :: as)).length ≤ M'.2.2.1) (hd : dep' + 1 ≤ dep) (hcat : (st.map fun v => v.category).sum ≤ 8) (kk : ∀ x d', P x d' → AW M dep true Φ k n (pc + 3) lv (x :: st) (HP d')) : AW M dep true Φ k n pc lv stk (HP d) := aw_cV dc ho hv ht0 hl0 hA hst hh hc hcl hna hlen hd hcat (by rintro _ d' ⟨x, rfl, q⟩; exact kk x d' q)
theorem aw_cSP {x : Int32} (dc : decode M.2.1 pc = .ok (.invokestatic idx, 3)) (ho : MO M' na) (hv : MS M') (ht0 : M.2.2.2.2 = []) (hl0 : Cond.methodLink M.1.cls idx M'.1 ∈ lw_tbl) (hA : CP M' dep' as d x) (hst : stk = as.reverse ++ st) (hna : as.length = na) (hlen : (lg_sl as).length ≤ M'.2.2.1) (hd : dep' + 1 ≤ dep) (hcat : (st.map fun v => v.category).sum ≤ 8) (kk : AW M dep true Φ k n (pc + 3) lv (.int x :: st) (HP d)) : AW M dep true Φ k n pc lv stk (HP d) := aw_cS dc ho hv ht0 hl0 hA hst hna hlen hd hcat (by rintro _ _ ⟨_, rfl, rfl, rfl⟩; exact kk)
theorem aw_cSI {P : Int32 → Dt → Prop} (dc : decode M.2.1 pc = .ok (.invokestatic idx, 3)) (ho : MO M' na) (hv : MS M') (ht0 : M.2.2.2.2 = []) (hl0 : Cond.methodLink M.1.cls idx M'.1 ∈ lw_tbl) (hA : CI M' dep' as d P) (hst : stk = as.reverse ++ st) (hna : as.length = na) (hlen : (lg_sl as).length ≤ M'.2.2.1) (hd : dep' + 1 ≤ dep) (hcat : (st.map fun v => v.category).sum ≤ 8) (kk : ∀ x d', P x d' → AW M dep true Φ k n (pc + 3) lv (.int x :: st) (HP d')) : AW M dep true Φ k n pc lv stk (HP d) := aw_cS dc ho hv ht0 hl0 hA hst hna hlen hd hcat (by rintro _ d' ⟨x, rfl, q⟩; exact kk x d' q)
theorem aw_cSv {P : Dt → Prop} (dc : decode M.2.1 pc = .ok (.invokestatic idx, 3)) (ho : MO M' na) (hv : MS M') (ht0 : M.2.2.2.2 = []) (hl0 : Cond.methodLink M.1.cls idx M'.1 ∈ lw_tbl) (hA : CV M' dep' as d P) (hst : stk = as.reverse ++ st) (hna : as.length = na) (hlen : (lg_sl as).length ≤ M'.2.2.1) (hd : dep' + 1 ≤ dep) (hcat : (st.map fun v => v.category).sum ≤ 8) (kk : ∀ d', P d' → AW M dep true Φ k n (pc + 3) lv st (HP d')) : AW M dep true Φ k n pc lv stk (HP d) := aw_cS dc ho hv ht0 hl0 hA hst hna hlen hd hcat (by rintro _ d' ⟨rfl, q⟩; exact kk d' q)
theorem aw_cSL {P : Int64 → Dt → Prop} (dc : decode M.2.1 pc = .ok (.invokestatic idx, 3)) (ho : MO M' na) (hv : MS M') (ht0 : M.2.2.2.2 = []) (hl0 : Cond.methodLink M.1.cls idx M'.1 ∈ lw_tbl) (hA : CL M' dep' as d P) (hst : stk = as.reverse ++ st) (hna : as.length = na) (hlen : (lg_sl as).length ≤ M'.2.2.1) (hd : dep' + 1 ≤ dep) (hcat : (st.map fun v => v.category).sum ≤ 8) (kk : ∀ x d', P x d' → AW M dep true Φ k n (pc + 3) lv (.long x :: st) (HP d')) : AW M dep true Φ k n pc lv stk (HP d) := aw_cS dc ho hv ht0 hl0 hA hst hna hlen hd hcat (by rintro _ d' ⟨x, rfl, q⟩; exact kk x d' q)
theorem aw_cSR {P : Value → Dt → Prop} (dc : decode M.2.1 pc = .ok (.invokestatic idx, 3)) (ho : MO M' na) (hv : MS M') (ht0 : M.2.2.2.2 = []) (hl0 : Cond.methodLink M.1.cls idx M'.1 ∈ lw_tbl) (hA : CR M' dep' as d P) (hst : stk = as.reverse ++ st) (hna : as.length = na) (hlen : (lg_sl as).length ≤ M'.2.2.1) (hd : dep' + 1 ≤ dep) (hcat : (st.map fun v => v.category).sum ≤ 8) (kk : ∀ x d', P x d' → AW M dep true Φ k n (pc + 3) lv (x :: st) (HP d')) : AW M dep true Φ k n pc lv stk (HP d) := aw_cS dc ho hv ht0 hl0 hA hst hna hlen hd hcat (by rintro _ d' ⟨x, rfl, q⟩; exact kk x d' q)
theorem aw_cSNP {x : Int32} {host : String} (dc : decode M.2.1 pc = .ok (.invokestatic idx, 3)) (ho : MO M' na) (hv : MS M') (hl0 : Cond.methodLinkNest M.1.cls idx M'.1 host ∈ lw_tbl) (hA : CP M' dep' as d x) (hst : stk = as.reverse ++ st) (hna : as.length = na) (hlen : (lg_sl as).length ≤ M'.2.2.1) (hd : dep' + 1 ≤ dep) (hcat : (st.map fun v => v.category).sum ≤ 8) (kk : AW M dep true Φ k n (pc + 3) lv (.int x :: st) (HP d)) : AW M dep true Φ k n pc lv stk (HP d) := aw_cSN dc ho hv hl0 hA hst hna hlen hd hcat (by rintro _ _ ⟨_, rfl, rfl, rfl⟩; exact kk)
theorem aw_cSNI {P : Int32 → Dt → Prop} {host : String} (dc : decode M.2.1 pc = .ok (.invokestatic idx, 3)) (ho : MO M' na) (hv : MS M') (hl0 : Cond.methodLinkNest M.1.cls idx M'.1 host ∈ lw_tbl) (hA : CI M' dep' as d P) (hst : stk = as.reverse ++ st) (hna : as.length = na) (hlen : (lg_sl as).length ≤ M'.2.2.1) (hd : dep' + 1 ≤ dep) (hcat : (st.map fun v => v.category).sum ≤ 8) (kk : ∀ x d', P x d' → AW M dep true Φ k n (pc + 3) lv (.int x :: st) (HP d')) : AW M dep true Φ k n pc lv stk (HP d) := aw_cSN dc ho hv hl0 hA hst hna hlen hd hcat (by rintro _ d' ⟨x, rfl, q⟩; exact kk x d' q)
theorem aw_cSNv {P : Dt → Prop} {host : String} (dc : decode M.2.1 pc = .ok (.invokestatic idx, 3)) (ho : MO M' na) (hv : MS M') (hl0 : Cond.methodLinkNest M.1.cls idx M'.1 host ∈ lw_tbl) (hA : CV M' dep' as d P) (hst : stk = as.reverse ++ st) (hna : as.length = na) (hlen : (lg_sl as).length ≤ M'.2.2.1) (hd : dep' + 1 ≤ dep) (hcat : (st.map fun v => v.category).sum ≤ 8) (kk : ∀ d', P d' → AW M dep true Φ k n (pc + 3) lv st (HP d')) : AW M dep true Φ k n pc lv stk (HP d) := aw_cSN dc ho hv hl0 hA hst hna hlen hd hcat (by rintro _ d' ⟨rfl, q⟩; exact kk d' q)
theorem aw_cSNL {P : Int64 → Dt → Prop} {host : String} (dc : decode M.2.1 pc = .ok (.invokestatic idx, 3)) (ho : MO M' na) (hv : MS M') (hl0 : Cond.methodLinkNest M.1.cls idx M'.1 host ∈ lw_tbl) (hA : CL M' dep' as d P) (hst : stk = as.reverse ++ st) (hna : as.length = na) (hlen : (lg_sl as).length ≤ M'.2.2.1) (hd : dep' + 1 ≤ dep) (hcat : (st.map fun v => v.category).sum ≤ 8) (kk : ∀ x d', P x d' → AW M dep true Φ k n (pc + 3) lv (.long x :: st) (HP d')) : AW M dep true Φ k n pc lv stk (HP d) := aw_cSN dc ho hv hl0 hA hst hna hlen hd hcat (by rintro _ d' ⟨x, rfl, q⟩; exact kk x d' q)
theorem aw_cSNR {P : Value → Dt → Prop} {host : String} (dc : decode M.2.1 pc = .ok (.invokestatic idx, 3)) (ho : MO M' na) (hv : MS M') (hl0 : Cond.methodLinkNest M.1.cls idx M'.1 host ∈ lw_tbl) (hA : CR M' dep' as d P) (hst : stk = as.reverse ++ st) (hna : as.length = na) (hlen : (lg_sl as).length ≤ M'.2.2.1) (hd : dep' + 1 ≤ dep) (hcat : (st.map fun v => v.category).sum ≤ 8) (kk : ∀ x d', P x d' → AW M dep true Φ k n (pc + 3) lv (x :: st) (HP d')) : AW M dep true Φ k n pc lv stk (HP d) := aw_cSN dc ho hv hl0 hA hst hna hlen hd hcat (by rintro _ d' ⟨x, rfl, q⟩; exact kk x d' q)
theorem aw_gf {fx : Bool} {i ci j N : Nat} {h : ah} {C : String} {T : u_T} {fs : List Value} {v : Value} (dc : decode M.2.1 pc = .ok (.getfield idx, 3)) (hh : h i = some (.inr (ci, fs))) (hc : kcl[ci]? = some (C, T, N)) (hw : Cond.fieldLink M.1.cls idx (T j).1 (T j).2.1 (T j).2.2.1 ∈ lw_tbl) (hk : j < N) (hv : fs[j]? = some v)
    (kk : AW M dep fx Φ k n (pc + 3) lv (v :: st) h) : AW M dep fx Φ k n pc lv (.ref i :: st) h := aw_getf dc hc hw hk hh hv kk
theorem aw_inc {fx : Bool} {h : ah} {i : Nat} {z : Int} {x c : Int32} (dc : decode M.2.1 pc = .ok (.iinc i z, 3)) (hz : Int32.ofInt z = c) (hg : lget lv i = some (.int x)) (hn : i < M.2.2.1) (hs : sok i lv = true) (kk : AW M dep fx Φ k n (pc + 3) (su i (.int (x + c)) lv) st h) : AW M dep fx Φ k n pc lv st h := aw_iinc dc hg (by rw [hz]) hn hs kk
/-- ends -/
theorem aw_endI {P : Int32 → Dt → Prop} {X : String → Dt → Prop} {x : Int32} (dc : decode M.2.1 pc = .ok (.ireturn, 1)) (hr : M.2.2.2.1 = some .int) (hp : P x d) : AW M dep true (PIx P X) k n pc lv [.int x] (HP d) := aw_iret dc hr ⟨d, rfl, x, rfl, hp⟩
theorem aw_endZ {P : Int32 → Dt → Prop} {X : String → Dt → Prop} {x : Int32} (dc : decode M.2.1 pc = .ok (.ireturn, 1)) (hr : M.2.2.2.1 = some .boolean) (hx : narrow .boolean (.int x) = .int x) (hp : P x d) : AW M dep true (PIx P X) k n pc lv [.int x] (HP d) := aw_zret dc hr hx ⟨d, rfl, x, rfl, hp⟩
theorem aw_endL {P : Int64 → Dt → Prop} {X : String → Dt → Prop} {x : Int64} (dc : decode M.2.1 pc = .ok (.lreturn, 1)) (hr : M.2.2.2.1 = some .long) (hp : P x d) : AW M dep true (PLx P X) k n pc lv [.long x] (HP d) := aw_lret dc hr ⟨d, rfl, x, rfl, hp⟩
theorem aw_endF {P : UInt32 → Dt → Prop} {X : String → Dt → Prop} {x : UInt32} (dc : decode M.2.1 pc = .ok (.freturn, 1)) (hr : M.2.2.2.1 = some .float) (hp : P x d) : AW M dep true (PFx P X) k n pc lv [.float x] (HP d) := aw_fret dc hr ⟨d, rfl, x, rfl, hp⟩
theorem aw_endV {P : Dt → Prop} {X : String → Dt → Prop} (dc : decode M.2.1 pc = .ok (.return_, 1)) (hr : M.2.2.2.1 = none) (hp : P d) : AW M dep true (PVx P X) k n pc lv [] (HP d) := aw_vret dc hr ⟨d, rfl, rfl, hp⟩
theorem aw_endR {P : Value → Dt → Prop} {X : String → Dt → Prop} {i : Nat} {C : String} (dc : decode M.2.1 pc = .ok (.areturn, 1)) (hr : M.2.2.2.1 = some (.object C)) (hp : P (.ref i) d) : AW M dep true (PRx P X) k n pc lv [.ref i] (HP d) := aw_aret dc hr ⟨d, rfl, _, rfl, hp⟩
end AD
def b2i (b : Bool) : Int32 := if b then 1 else 0
theorem b2i_nar (b : Bool) : narrow .boolean (.int (b2i b)) = .int (b2i b) := by cases b <;> decide
theorem b2i_1 : b2i true = 1 := rfl
theorem b2i_0 : b2i false = 0 := rfl
theorem b2i_ne {b : Bool} : ¬ b2i b = 0 ↔ b = true := by cases b <;> decide
theorem b2i_t {p : Prop} {h : Decidable p} (q : p) : b2i (decide p) = 1 := by simp [b2i, q]
theorem b2i_f {p : Prop} {h : Decidable p} (q : ¬ p) : b2i (decide p) = 0 := by simp [b2i, q]
theorem b2i_eq {b : Bool} : b2i b = 0 ↔ b = false := by cases b <;> decide
