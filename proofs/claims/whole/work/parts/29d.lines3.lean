/-! what the lines' methods write; floats that are numbers -/
theorem n32_of {r : UInt32} (h : FP.Core.val32 r ≠ .nan) : vf_n32 r := by
  unfold vf_n32
  rw [UInt32.le_iff_toNat_le, UInt32.toNat_and]
  rw [show (0x7fffffff : UInt32).toNat = 2 ^ 31 - 1 from rfl, Nat.and_two_pow_sub_one_eq_mod, show (0x7f800000 : UInt32).toNat = 2139095040 from rfl]
  unfold FP.Core.val32 FP.Core.decode at h
  have e1 : FP.Core.fieldE FP.Core.b32 r.toNat = r.toNat / 2 ^ 23 % 256 := rfl
  have e2 : FP.Core.fieldT FP.Core.b32 r.toNat = r.toNat % 2 ^ 23 := rfl
  have e3 : FP.Core.b32.exps - 1 = 255 := rfl
  rw [e1, e2, e3] at h
  by_cases a : r.toNat / 2 ^ 23 % 256 = 255
  · rw [if_pos a] at h
    by_cases b : r.toNat % 2 ^ 23 = 0
    · omega
    · rw [if_neg b] at h
      exact absurd rfl h
  · omega
theorem n64_of {r : UInt64} (h : FP.Core.val64 r ≠ .nan) : vf_n64 r := by
  unfold vf_n64
  rw [UInt64.le_iff_toNat_le, UInt64.toNat_and]
  rw [show (0x7fffffffffffffff : UInt64).toNat = 2 ^ 63 - 1 from rfl, Nat.and_two_pow_sub_one_eq_mod, show (0x7ff0000000000000 : UInt64).toNat = 9218868437227405312 from rfl]
  unfold FP.Core.val64 FP.Core.decode at h
  have e1 : FP.Core.fieldE FP.Core.b64 r.toNat = r.toNat / 2 ^ 52 % 2048 := rfl
  have e2 : FP.Core.fieldT FP.Core.b64 r.toNat = r.toNat % 2 ^ 52 := rfl
  have e3 : FP.Core.b64.exps - 1 = 2047 := rfl
  rw [e1, e2, e3] at h
  by_cases a : r.toNat / 2 ^ 52 % 2048 = 2047
  · rw [if_pos a] at h
    by_cases b : r.toNat % 2 ^ 52 = 0
    · omega
    · rw [if_neg b] at h
      exact absurd rfl h
  · omega
theorem eff_val {a b : Nat} (ha : a ≤ 2 ^ 24) (hb : b ≤ 2 ^ 24) (h0 : b ≠ 0) : FP.Core.val32 (FP.fdiv (FP.i2f (nI a)) (FP.i2f (nI b))) ≠ .nan := by
  have h1 : FP.Core.FInt (nI a).toInt (FP.i2f (nI a)) := FP.Core.i2f_int (by rw [nI_toInt (by omega)]; omega)
  have h2 : FP.Core.FInt (nI b).toInt (FP.i2f (nI b)) := FP.Core.i2f_int (by rw [nI_toInt (by omega)]; omega)
  unfold FP.Core.FInt at h1 h2
  rw [show FP.fdiv (FP.i2f (nI a)) (FP.i2f (nI b)) = FP.Core.fdiv (FP.i2f (nI a)) (FP.i2f (nI b)) from rfl, FP.Core.val32_fdiv]
  rw [nI_toInt (by omega)] at h1 h2
  cases e1 : FP.Core.val32 (FP.i2f (nI a)) with
  | nan => rw [e1] at h1; exact absurd h1 (by unfold FP.Core.Whole; exact fun z => z)
  | inf s => rw [e1] at h1; exact absurd h1 (by unfold FP.Core.Whole; exact fun z => z)
  | fin s c q =>
    cases e2 : FP.Core.val32 (FP.i2f (nI b)) with
    | nan => rw [e2] at h2; exact absurd h2 (by unfold FP.Core.Whole; exact fun z => z)
    | inf s => rw [e2] at h2; exact absurd h2 (by unfold FP.Core.Whole; exact fun z => z)
    | fin t d r =>
      rw [e2] at h2
      have hd : d ≠ 0 := fun z => by have := (FP.Core.whole_zero h2).mp z; omega
      unfold FP.Core.quotient
      show (if d = 0 then (if c = 0 then FP.Core.Datum.nan else .inf (s != t)) else FP.Core.roundRatio FP.Core.b32 (s != t) c d (q - r)) ≠ .nan
      rw [if_neg hd]
      unfold FP.Core.roundRatio FP.Core.roundAt FP.Core.settle FP.Core.bound
      repeat' split
      all_goals (intro z; cases z)
theorem effA_le {q : St} (ok : QOK q) : effA q ≤ 32076 := by
  have h : effA q ≤ q 0 1 * 2673 := sN_le fun t ht => by
    split
    · omega
    · exact wt_le ok (by have := ok.2.1; omega)
  have h2 : q 0 1 * 2673 ≤ 12 * 2673 := Nat.mul_le_mul_right _ ok.2.1
  omega
theorem ovQ1_le {q : St} (ok : QOK q) : ovQ q 1 ≤ 24 := sN_le (n := 8) (b := 3) (f := ovF q 1) fun s hs => by
  show (if stn q s ≠ 0 then q 3 s else 0) ≤ 3
  have := ok.2.2.2.2.1 s hs
  split <;> omega
theorem effB_le {q : St} (ok : QOK q) : effB q ≤ 24 * 999 * 27 := Nat.mul_le_mul (Nat.mul_le_mul (ovQ1_le ok) ok.2.2.2.1.2.1) (td_le ok).2
theorem effB_ne {q : St} (ok : QOK q) (h : ovQ q 1 ≠ 0) : effB q ≠ 0 := by
  have h1 := ok.2.2.2.1.1
  have h2 := (td_le ok).1
  exact Nat.ne_of_gt (Nat.mul_pos (Nat.mul_pos (by omega) (by omega)) (by omega))
theorem effV_val {q : St} (ok : QOK q) (h : ovQ q 1 ≠ 0) : FP.Core.val32 (effV q) ≠ .nan := eff_val (Nat.le_trans (effA_le ok) (by decide)) (Nat.le_trans (effB_le ok) (by decide)) (effB_ne ok h)
theorem effV_n {q : St} (ok : QOK q) (h : ovQ q 1 ≠ 0) : vf_n32 (effV q) := n32_of (effV_val ok h)
/-! frames -/
def mT (d d' : Dt) : Prop := d'.2.2 = d.2.2 ∧ (∀ i, i ≠ 169 → i ≠ 170 → d'.2.1 i = d.2.1 i) ∧ (∀ i, i ≠ 160 → i ≠ 165 → i ≠ 166 → i ≠ 167 → i ≠ 168 → i ≠ 171 → d'.1 i = d.1 i) ∧ ∀ k, k ≠ 9 → d'.1 160 k = d.1 160 k
theorem mT_r (d : Dt) : mT d d := ⟨rfl, fun _ _ _ => rfl, fun _ _ _ _ _ _ _ => rfl, fun _ _ => rfl⟩
theorem mT_t {a b c : Dt} (h : mT a b) (g : mT b c) : mT a c := ⟨g.1.trans h.1, fun i x y => (g.2.1 i x y).trans (h.2.1 i x y), fun i x1 x2 x3 x4 x5 x6 => (g.2.2.1 i x1 x2 x3 x4 x5 x6).trans (h.2.2.1 i x1 x2 x3 x4 x5 x6), fun k hk => (g.2.2.2 k hk).trans (h.2.2.2 k hk)⟩
theorem mS_mT {d d' : Dt} (h : mS d d') : mT d d' := ⟨by rw [h.1], fun i _ _ => by rw [h.1], fun i x1 x2 x3 _ _ _ => h.2.1 i x2 x3 x1, h.2.2⟩
theorem mT_dI {d d' : Dt} (h : mT d d') {i : Nat} (hi : i = 167 ∨ i = 168 ∨ i = 171) (f : Nat → Int32) : mT d (dI d' i f) := ⟨h.1, h.2.1, fun j x1 x2 x3 x4 x5 x6 => by rw [dI_n _ _ (by omega)]; exact h.2.2.1 j x1 x2 x3 x4 x5 x6, fun k hk => by rw [dI_n _ _ (by omega)]; exact h.2.2.2 k hk⟩
theorem mT_dL {d d' : Dt} (h : mT d d') {i : Nat} (hi : i = 169 ∨ i = 170) (f : Nat → Int64) : mT d (dL d' i f) := ⟨h.1, fun j x1 x2 => by rw [dL_n _ _ (by omega)]; exact h.2.1 j x1 x2, h.2.2.1, h.2.2.2⟩
theorem mT_g {d d' : Dt} (h : mT d d') : d'.1 161 = d.1 161 := h.2.2.1 161 (by decide) (by decide) (by decide) (by decide) (by decide) (by decide)
theorem mT_fM {d d' : Dt} (h : mT d d') : fM d d' := ⟨fun i hi => ⟨h.2.2.1 i (by omega) (by omega) (by omega) (by omega) (by omega) (by omega), h.2.1 i (by omega) (by omega)⟩, h.1⟩
theorem mT_mK {d d' : Dt} (h : mT d d') : mK d d' := ⟨h.2.2.1 163 (by decide) (by decide) (by decide) (by decide) (by decide) (by decide), h.2.2.1 164 (by decide) (by decide) (by decide) (by decide) (by decide) (by decide), h.2.2.1 172 (by decide) (by decide) (by decide) (by decide) (by decide) (by decide), h.2.2.2 3 (by decide), h.2.2.2 5 (by decide), h.2.2.2 17 (by decide)⟩
theorem MR_mT {d d' : Dt} {y : Sy} (h : MR d y) (hm : mT d d') (x : Int32) : MR (dI d' 160 (upd (d'.1 160) 7 x)) y :=
  MR_keep h (mK_160 (mT_mK hm) (by decide) x) (q := y.1) (by rw [dI_n _ _ (by decide), mT_g hm]; exact h.1.1) h.1.2 (w := y.2.2.2.1) (by rw [dI_s]; simp only [upd]; rw [if_neg (by decide), hm.2.2.2 6 (by decide)]; exact h.2.2.2.1.1) h.2.2.2.1.2
theorem MR_mT0 {d d' : Dt} {y : Sy} (h : MR d y) (hm : mT d d') : MR d' y :=
  MR_keep h (mT_mK hm) (q := y.1) (by rw [mT_g hm]; exact h.1.1) h.1.2 (w := y.2.2.2.1) (by rw [hm.2.2.2 6 (by decide)]; exact h.2.2.2.1.1) h.2.2.2.1.2
theorem RO_qT {d d1 : Dt} {y : Sy} {x v : Int32} (h : MR d y) (hm : mT d d1) (hx : x = v) : RO d (dI d1 160 (upd (d1.1 160) 7 0)) x (0, v, y) :=
  ⟨fM_dI (mT_fM hm) (by decide) _, by rw [dI_s]; rfl, fun _ => hx, MR_mT h hm 0⟩
theorem RO_fT {d d1 : Dt} {y : Sy} {x v c : Int32} {n : Nat} (h : MR d y) (hm : mT d d1) (hc : c = nI n) (hn : n ≠ 0) : RO d (dI d1 160 (upd (d1.1 160) 7 c)) x (n, v, y) :=
  ⟨fM_dI (mT_fM hm) (by decide) _, by rw [dI_s]; exact hc, fun z => absurd z hn, MR_mT h hm c⟩
/-- only the counts -/
def mL (d d' : Dt) : Prop := d'.1 = d.1 ∧ d'.2.2 = d.2.2 ∧ ∀ i, i ≠ 169 → i ≠ 170 → d'.2.1 i = d.2.1 i
theorem mL_r (d : Dt) : mL d d := ⟨rfl, rfl, fun _ _ _ => rfl⟩
theorem mL_dL {d d' : Dt} (h : mL d d') {i : Nat} (hi : i = 169 ∨ i = 170) (f : Nat → Int64) : mL d (dL d' i f) := ⟨h.1, h.2.1, fun j x1 x2 => by rw [dL_n _ _ (by omega)]; exact h.2.2 j x1 x2⟩
theorem mL_mT {d d' : Dt} (h : mL d d') : mT d d' := ⟨h.2.1, h.2.2, fun i _ _ _ _ _ _ => by rw [h.1], fun k _ => by rw [h.1]⟩
theorem mL_t {a b c : Dt} (h : mL a b) (g : mL b c) : mL a c := ⟨g.1.trans h.1, g.2.1.trans h.2.1, fun i x y => (g.2.2 i x y).trans (h.2.2 i x y)⟩
/-- the tables of the sets, below n -/
def TS (q : St) (d : Dt) (n : Nat) : Prop := ∀ S, S < n → d.1 167 S = b2i (clB q S) ∧ ∀ c, 1 ≤ c → c ≤ 3 → d.1 168 (4 * S + c) = b2i (rgB q S c)
/-- what is told -/
def TL (d : Dt) (tl : Nat → Nat) : Prop := ∀ t, t < 8 → d.1 171 t = pv (tl t) ∧ tl t ≤ 9
theorem upL (f : Nat → Int64) (j : Nat) (v : Int64) (i : Nat) : vp_updL f j v i = if i = j then v else f i := rfl
theorem lN_pos {a : Nat} (h : a < 2 ^ 63) : lN a ≤ 0 ↔ a = 0 := by
  rw [show (0 : Int64) = lN 0 from rfl, pk_lLE h (by omega)]
  omega
theorem lN_z {a : Nat} (h : a < 2 ^ 63) : lN a = 0 ↔ a = 0 := by
  constructor
  · intro z; exact (lN_pos h).mp (by rw [z]; exact Int64.le_refl _)
  · intro z; rw [z]; rfl
theorem seF_iff {q : St} {S t : Nat} : seF q S t = true ↔ (S.testBit t = false ∨ (q 10 t &&& S = 0 ∧ lacks (q 11 t) S = 0)) := by
  unfold seF
  cases S.testBit t <;> simp
theorem clF_iff {q : St} {S t : Nat} : clF q S t = true ↔ (S.testBit t = false ∨ lacks (q 8 t) S = 0) := by
  unfold clF
  cases S.testBit t <;> simp
theorem tlF0 {P s t : Nat} {tl : Nat → Nat} (h : tl t = 0) : tlF tl P s t = true := by unfold tlF; rw [decide_eq_true h]; rfl
theorem bT {b : Bool} (h : b = true) : b2i b = 1 := by rw [h]; rfl
theorem bF {b : Bool} (h : b = false) : b2i b = 0 := by rw [h]; rfl
theorem p2_256 {n : Nat} (h : n ≤ 8) : 1 ≤ 2 ^ n ∧ 2 ^ n ≤ 256 := ⟨Nat.one_le_two_pow, Nat.le_trans (Nat.pow_le_pow_right (by omega) h) (by decide)⟩
theorem tlB0 (q : St) (P s : Nat) : tlB q tl0 P s = true := alB_iff.mpr fun _ _ => tlF0 rfl
theorem lacks_and {T a : Nat} (hT : T < 4096) : lacks T a &&& a = 0 := by
  refine Nat.eq_of_testBit_eq fun i => ?_
  rw [Nat.zero_testBit, Nat.testBit_and, lacks_bit hT]
  cases a.testBit i <;> simp
theorem lacks_or {T a : Nat} (hT : T < 4096) (h : a &&& T = a) : lacks T a ||| a = T := by
  refine bits_eq fun i => ?_
  rw [Nat.testBit_or, lacks_bit hT, Bool.or_eq_true, Bool.and_eq_true]
  constructor
  · rintro (z | z)
    · exact z.1
    · exact sub_bit h z
  · intro z
    cases hb : a.testBit i with
    | true => exact Or.inr rfl
    | false => exact Or.inl ⟨z, rfl⟩
theorem and_orR {a b : Nat} : a &&& (b ||| a) = a := by
  refine bits_eq fun i => ?_
  rw [Nat.testBit_and, Nat.testBit_or]
  cases a.testBit i <;> simp
theorem or_lt {a b n : Nat} (ha : a < 2 ^ n) (hb : b < 2 ^ n) : a ||| b < 2 ^ n := Nat.or_lt_two_pow ha hb
theorem lacks_orR {a b : Nat} (h : b ||| a < 4096) (h0 : b &&& a = 0) : lacks (b ||| a) a = b := by
  refine bits_eq fun i => ?_
  have h1 : (b &&& a).testBit i = false := by rw [h0, Nat.zero_testBit]
  rw [Nat.testBit_and] at h1
  rw [lacks_bit h, Nat.testBit_or]
  revert h1
  cases a.testBit i <;> cases b.testBit i <;> simp
