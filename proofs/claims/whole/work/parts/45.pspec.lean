/-! the plan: sets, the stations one by one -/
def fP (d d' : Dt) : Prop := (∀ i, i < 138 ∨ 147 < i → d'.1 i = d.1 i) ∧ (∀ i, i ≠ 145 → d'.2.1 i = d.2.1 i) ∧ d'.2.2 = d.2.2
theorem fP_r (d : Dt) : fP d d := ⟨fun _ _ => rfl, fun _ _ => rfl, rfl⟩
theorem fP_t {a b c : Dt} (h : fP a b) (g : fP b c) : fP a c := ⟨fun i hi => (g.1 i hi).trans (h.1 i hi), fun i hi => (g.2.1 i hi).trans (h.2.1 i hi), g.2.2.trans h.2.2⟩
theorem fP_dI {d d' : Dt} (h : fP d d') {i : Nat} (hi : 138 ≤ i ∧ i ≤ 147) (f : Nat → Int32) : fP d (dI d' i f) := ⟨fun j hj => by rw [dI_n _ _ (by omega)]; exact h.1 j hj, h.2.1, h.2.2⟩
theorem fP_dL {d d' : Dt} (h : fP d d') (f : Nat → Int64) : fP d (dL d' 145 f) := ⟨h.1, fun j hj => by rw [dL_n _ _ hj]; exact h.2.1 j hj, h.2.2⟩
theorem fW_P {d d' : Dt} (h : fW 139 d d') : fP d d' := ⟨fun i hi => h.2 i (by omega), fun i _ => by rw [h.1], by rw [h.1]⟩
theorem KS_P {d d' : Dt} {q : St} (h : KS 0 d q) (g : fP d d') : KS 0 d' q := KS_k h (fun j hj => g.1 _ (by omega))
def ndQ (q : St) (S : Nat) : Nat := if alB (q 0 1) (seF q S) = false then 4 else if ¬ pc (tls q S) ≤ q 2 2 then 4 else if fitB q S 1 = true then 1 else if fitB q S 2 = true then 2 else if fitB q S 3 = true then 3 else 4
theorem fitB_mono {q : St} {S c c' : Nat} (h : c ≤ c') (hf : fitB q S c = true) : fitB q S c' = true := by
  unfold fitB at *
  have h1 : c * q 2 0 ≤ c' * q 2 0 := Nat.mul_le_mul_right _ h
  split at hf
  · rename_i z
    rw [if_pos z]
    have h2 : c * q 2 0 * td q ≤ c' * q 2 0 * td q := Nat.mul_le_mul_right _ h1
    exact decide_eq_true (Nat.le_trans (of_decide_eq_true hf) h2)
  · rename_i z
    rw [if_neg z]
    exact decide_eq_true (fun m hm => Nat.le_trans (of_decide_eq_true hf m hm) h1)
theorem ndQ_4 {q : St} {S : Nat} (h : seB q S = false) : ndQ q S = 4 := by
  unfold seB at h
  unfold ndQ
  rw [Bool.and_eq_false_iff, decide_eq_false_iff_not] at h
  split
  · rfl
  · rename_i z
    rcases h with h | h
    · rw [if_pos h]
    · exact absurd h z
theorem ndQ_s {q : St} {S : Nat} (h : seB q S = true) : ndQ q S = if fitB q S 1 = true then 1 else if fitB q S 2 = true then 2 else if fitB q S 3 = true then 3 else 4 := by
  unfold seB at h
  rw [Bool.and_eq_true, decide_eq_true_eq] at h
  unfold ndQ
  rw [if_neg (by rw [h.2]; exact Bool.noConfusion), if_neg (fun z => z h.1)]
theorem nd_iff {q : St} {S c : Nat} (h1 : 1 ≤ c) (h3 : c ≤ 3) : ndQ q S ≤ c ↔ rgB q S c = true := by
  unfold rgB
  cases hs : seB q S with
  | false => rw [ndQ_4 hs]; simp; omega
  | true =>
    rw [ndQ_s hs, Bool.true_and]
    constructor
    · intro h
      split at h
      · rename_i z; exact fitB_mono h1 z
      · split at h
        · rename_i z; exact fitB_mono h z
        · split at h
          · rename_i z; exact fitB_mono h z
          · omega
    · intro h
      rcases (show c = 1 ∨ c = 2 ∨ c = 3 by omega) with rfl | rfl | rfl
      · rw [if_pos h]; exact Nat.le_refl _
      · split
        · omega
        · first | exact Nat.le_refl _ | (rw [if_pos h]; exact Nat.le_refl _)
      · split
        · omega
        · split
          · omega
          · first | exact Nat.le_refl _ | (rw [if_pos h]; exact Nat.le_refl _)
theorem ndQ_le (q : St) (S : Nat) : 1 ≤ ndQ q S ∧ ndQ q S ≤ 4 := by
  unfold ndQ
  (repeat' split) <;> omega
/-! the empty set -/
theorem pc_0 : pc 0 = 0 := by decide +kernel
theorem tls_0 (q : St) : tls q 0 = 0 := by
  refine bits_eq fun i => ?_
  unfold tls
  rw [oN_bit, Nat.zero_testBit]
  constructor
  · rintro ⟨k, _, h⟩
    rw [if_neg (fun z => by rw [Nat.zero_testBit] at z; cases z.1), Nat.zero_testBit] at h
    exact h
  · intro h; cases h
theorem tm_0 (q : St) (m : Nat) : tm q 0 m = 0 := by
  unfold tm ordL
  rw [ordF_z]
  show 0 * q 2 1 + 0 = 0
  omega
theorem ld_0 (q : St) : ld q 0 = 0 := by
  have := sN_le (n := q 0 0) (b := 0) (f := fun m => q 1 m * tm q 0 m) (fun m _ => by rw [tm_0, Nat.mul_zero]; exact Nat.le_refl _)
  unfold ld
  omega
theorem rg_0 (q : St) (c : Nat) : rgB q 0 c = true := by
  unfold rgB seB
  rw [tls_0, pc_0, decide_eq_true (Nat.zero_le _), Bool.true_and, Bool.and_eq_true]
  constructor
  · exact alB_iff.mpr fun t _ => seF_iff.mpr (Or.inl (Nat.zero_testBit _))
  · unfold fitB
    split
    · rw [ld_0]; exact decide_eq_true (Nat.zero_le _)
    · exact decide_eq_true fun m _ => by rw [tm_0]; exact Nat.zero_le _
theorem cl_0 (q : St) : clB q 0 = true := alB_iff.mpr fun t _ => clF_iff.mpr (Or.inl (Nat.zero_testBit _))
theorem lacks_z {T : Nat} (hT : T < 4096) : lacks T 0 = T := bits_eq fun i => by rw [lacks_bit hT, Nat.zero_testBit, Bool.not_false, Bool.and_true]
theorem dig_0 : dig 0 = 0 := by decide +kernel
/-- what is not closed has no lines -/
theorem cnt_nc {q : St} {tl : Nat → Nat} {s T : Nat} (h : clB q T = false) : cntQ q tl s T = 0 := by
  cases s with
  | zero => exact if_neg (fun z => by rw [z, cl_0] at h; cases h)
  | succ s => exact if_neg (by rw [h]; exact Bool.noConfusion)
theorem fst_cnt {q : St} (hm : q 0 1 ≤ 12) {n S : Nat} (hS : S < 2 ^ q 0 1) (h : cntQ q tl0 n S = 0) : fstQ q n S = 0 := by
  rcases Nat.eq_zero_or_pos (fstQ q n S) with z | z
  · exact z
  · have := (cnt_fst (n := n) hm hS).mpr (by omega)
    omega
/-! the submask that comes next -/
theorem nx_le : ∀ (n S part P : Nat), S < 2 ^ n → P &&& S = P → part &&& S = part → P < part → P ≤ (part - 1) &&& S := by
  intro n
  induction n with
  | zero => intro S part P hS _ h2 h3; have : S = 0 := (by have : 2 ^ 0 = 1 := rfl; omega); rw [this, Nat.and_zero] at h2; omega
  | succ n ih =>
    intro S part P hS h1 h2 h3
    have dv : ∀ a b : Nat, (a &&& b) / 2 = a / 2 &&& b / 2 := fun a b => Nat.and_div_two
    have md : ∀ a b : Nat, (a &&& b) % 2 = (a % 2) * (b % 2) := fun a b => by
      have := Nat.and_mod_two_pow (a := a) (b := b) (n := 1)
      rw [show (2 : Nat) ^ 1 = 2 from rfl] at this
      rw [this]
      rcases Nat.mod_two_eq_zero_or_one a with x | x <;> rcases Nat.mod_two_eq_zero_or_one b with y | y <;> rw [x, y] <;> rfl
    have p1 := dv P S
    have p2 := md P S
    have q1 := dv part S
    have q2 := md part S
    have r1 := dv (part - 1) S
    have r2 := md (part - 1) S
    rw [h1] at p1 p2
    rw [h2] at q1 q2
    have hS2 : S / 2 < 2 ^ n := by rw [Nat.pow_succ] at hS; omega
    generalize hR : (part - 1) &&& S = R at r1 r2 ⊢
    rcases Nat.mod_two_eq_zero_or_one part with y | y
    · have hb : P / 2 < part / 2 := by omega
      have hi := ih (S / 2) (part / 2) (P / 2) hS2 p1.symm q1.symm hb
      rw [show (part - 1) / 2 = part / 2 - 1 by omega] at r1
      rw [show (part - 1) % 2 = 1 by omega, Nat.one_mul] at r2
      rw [← r1] at hi
      have : P % 2 ≤ S % 2 := by
        rw [p2]
        rcases Nat.mod_two_eq_zero_or_one P with z | z <;> rw [z] <;> omega
      omega
    · rw [show (part - 1) / 2 = part / 2 by omega, ← q1] at r1
      omega
theorem nx_lt {S part : Nat} (h : 0 < part) : (part - 1) &&& S < part := Nat.lt_of_le_of_lt Nat.and_le_left (by omega)
theorem nx_sub {S part : Nat} : ((part - 1) &&& S) &&& S = (part - 1) &&& S := by rw [Nat.and_assoc, Nat.and_self]
def sbN (S part : Nat) : Nat := sN (part + 1) (fun P => if P &&& S = P then 1 else 0)
theorem sbN_a : ∀ S, S < 256 → sbN S S = 2 ^ pc S := by decide +kernel
theorem sN_nx {S part : Nat} {f : Nat → Nat} (hS : S < 256) (h : 0 < part) (hp : part &&& S = part) (hf : ∀ k, k &&& S ≠ k → f k = 0) : sN (part + 1) f = sN (((part - 1) &&& S) + 1) f + f part := by
  show sN part f + f part = _
  have hl := nx_lt (S := S) h
  rw [sN_cut (n := ((part - 1) &&& S) + 1) (m := part) (by omega) (fun k h1 h2 => by
    by_cases e : k &&& S = k
    · have := nx_le 8 S part k hS e hp h2
      omega
    · exact hf k e)]
theorem sbN_s {S part : Nat} (hS : S < 256) (h : 0 < part) (hp : part &&& S = part) : sbN S part = sbN S ((part - 1) &&& S) + 1 := by
  unfold sbN
  rw [sN_nx hS h hp (fun k hk => if_neg hk), if_pos hp]
theorem sbN_1 {S part : Nat} (hS : S < 256) (hp : part &&& S = part) (h : sbN S part = 1) : part = 0 := by
  rcases Nat.eq_zero_or_pos part with z | z
  · exact z
  · have h1 := sbN_s hS z hp
    have h2 : 1 ≤ sbN S ((part - 1) &&& S) := by
      unfold sbN
      exact sN_pos.mpr ⟨0, by omega, by rw [if_pos (Nat.zero_and _)]; omega⟩
    omega
theorem sbN_pos (S part : Nat) : 1 ≤ sbN S part := sN_pos.mpr ⟨0, by omega, by rw [if_pos (Nat.zero_and _)]; omega⟩
/-! codes are small -/
theorem sN_mono {n : Nat} {f g : Nat → Nat} (h : ∀ k, k < n → f k ≤ g k) : sN n f ≤ sN n g := by
  induction n with
  | zero => exact Nat.le_refl _
  | succ n ih => simp only [sN]; have := ih (fun k hk => h k (by omega)); have := h n (by omega); omega
theorem cod_lt {q : St} (hm : q 0 1 ≤ 8) {f : Nat → Nat} {S : Nat} (hf : ∀ t, S.testBit t = true → f t < 8) : cod q f S ≤ 16777215 := by
  have h1 : cod q f S ≤ sN (q 0 1) (fun t => 7 * 8 ^ (7 - t)) := sN_mono fun t ht => by
    unfold cdF
    split
    · rename_i z; exact Nat.mul_le_mul_right _ (by have := hf t z; omega)
    · exact Nat.zero_le _
  have h2 : ∀ m, m ≤ 8 → sN m (fun t => 7 * 8 ^ (7 - t)) ≤ 16777215 := by decide +kernel
  exact Nat.le_trans h1 (h2 _ hm)
theorem Wc_lt {q : St} (hm : q 0 1 ≤ 8) {n S w : Nat} (hn : n ≤ 8) (hS : S < 2 ^ q 0 1) (h : Wc q n S w) : w ≤ 16777215 := by
  obtain ⟨f, h1, h2⟩ := h
  rw [h2]
  exact cod_lt hm (fun t ht => by have := Wy_lt (by omega) n S hS h1 t ht; omega)
theorem fst_lt {q : St} (hm : q 0 1 ≤ 8) {n S : Nat} (hn : n ≤ 8) (hS : S < 2 ^ q 0 1) : fstQ q n S ≤ 16777216 := by
  rcases mnOf_spec (Wc q n S) with ⟨h0, _⟩ | ⟨w, hw, h1, _⟩
  · show mnOf _ ≤ _; omega
  · have := Wc_lt hm hn hS h1
    show mnOf _ ≤ _
    omega
theorem dig_lt (P : Nat) : dig P ≤ 2396745 := by
  have h1 : dig P ≤ sN 8 (fun t => 8 ^ (7 - t)) := sN_mono fun t _ => by
    unfold dgF
    split
    · exact Nat.le_refl _
    · exact Nat.zero_le _
  have h2 : sN 8 (fun t => 8 ^ (7 - t)) = 2396745 := by decide +kernel
  omega
/-! on the way through the submasks -/
def Aw (q : St) (s S part w : Nat) : Prop := Wc q s S w ∨ ∃ P w', P &&& S = P ∧ part < P ∧ rgB q P (q 3 s) = true ∧ Wc q s (lacks S P) w' ∧ w = w' + s * dig P
theorem Aw_0 {q : St} {s S w : Nat} (hS : S < 2 ^ q 0 1) : Aw q s S S w ↔ Wc q s S w := by
  constructor
  · rintro (h | ⟨P, w', h1, h2, -⟩)
    · exact h
    · have : P ≤ S := by rw [← h1]; exact Nat.and_le_right
      omega
  · exact Or.inl
theorem Aw_e {q : St} (hm : q 0 1 ≤ 8) {s S w : Nat} (hS : S < 2 ^ q 0 1) (hc : clB q S = true) : Aw q s S 0 w ↔ Wc q (s + 1) S w := by
  have hp := p2_256 hm
  rw [Wc_s hm hS]
  constructor
  · rintro (h | ⟨P, w', h1, _, h3, h4, h5⟩)
    · exact ⟨hc, 0, w, Nat.zero_and _, rg_0 q _, by rw [lacks_z (by omega)]; exact h, by rw [dig_0, Nat.mul_zero, Nat.add_zero]⟩
    · exact ⟨hc, P, w', h1, h3, h4, h5⟩
  · rintro ⟨_, P, w', h1, h3, h4, h5⟩
    rcases Nat.eq_zero_or_pos P with z | z
    · subst z
      rw [lacks_z (by omega)] at h4
      rw [dig_0, Nat.mul_zero, Nat.add_zero] at h5
      rw [h5]
      exact Or.inl h4
    · exact Or.inr ⟨P, w', h1, z, h3, h4, h5⟩
theorem Aw_s {q : St} (hm : q 0 1 ≤ 8) {s S part w : Nat} (hS : S < 2 ^ q 0 1) (h0 : 0 < part) (hp : part &&& S = part) : Aw q s S ((part - 1) &&& S) w ↔ Aw q s S part w ∨ (rgB q part (q 3 s) = true ∧ ∃ w', Wc q s (lacks S part) w' ∧ w = w' + s * dig part) := by
  have h256 := p2_256 hm
  constructor
  · rintro (h | ⟨P, w', h1, h2, h3, h4, h5⟩)
    · exact Or.inl (Or.inl h)
    · by_cases e : P = part
      · subst e; exact Or.inr ⟨h3, w', h4, h5⟩
      · refine Or.inl (Or.inr ⟨P, w', h1, ?_, h3, h4, h5⟩)
        rcases Nat.lt_or_ge P part with z | z
        · have := nx_le 8 S part P (by omega) h1 hp z
          omega
        · omega
  · rintro ((h | ⟨P, w', h1, h2, h3, h4, h5⟩) | ⟨h3, w', h4, h5⟩)
    · exact Or.inl h
    · exact Or.inr ⟨P, w', h1, Nat.lt_trans (nx_lt h0) h2, h3, h4, h5⟩
    · exact Or.inr ⟨part, w', hp, nx_lt h0, h3, h4, h5⟩
/-- the least of more -/
theorem MinOf.more {A B : Nat → Prop} {z w : Nat} (h : MinOf A z) (hB : MinOf B (w + 1)) : MinOf (fun x => A x ∨ B x) (if z = 0 then w + 1 else if w + 1 < z then w + 1 else z) := by
  rcases hB with ⟨h0, _⟩ | ⟨v, hv, b1, b2⟩
  · omega
  · have e : v = w := by omega
    subst e
    rcases h with ⟨rfl, h⟩ | ⟨u, rfl, a1, a2⟩
    · rw [if_pos rfl]
      exact Or.inr ⟨v, rfl, Or.inr b1, fun x hx => hx.elim (fun y => absurd y (h x)) (b2 x)⟩
    · rw [if_neg (by omega)]
      split
      · exact Or.inr ⟨v, rfl, Or.inr b1, fun x hx => hx.elim (fun y => by have := a2 x y; omega) (b2 x)⟩
      · exact Or.inr ⟨u, rfl, Or.inl a1, fun x hx => hx.elim (a2 x) (fun y => by have := b2 x y; omega)⟩
theorem MinOf.shift {A : Nat → Prop} {w c : Nat} (h : MinOf A (w + 1)) : MinOf (fun x => ∃ y, A y ∧ x = y + c) (w + c + 1) := by
  rcases h with ⟨h0, _⟩ | ⟨v, hv, b1, b2⟩
  · omega
  · have e : v = w := by omega
    subst e
    exact Or.inr ⟨v + c, rfl, ⟨v, b1, rfl⟩, fun x ⟨y, hy, hx⟩ => by have := b2 y hy; omega⟩
/-- what the plan holds -/
def PD (d : Dt) (q : St) : Prop := d.1 138 7 = nI (fulQ q) ∧ ∀ S, S < 2 ^ q 0 1 → d.1 143 S = nI (ndQ q S) ∧ d.1 144 S = b2i (clB q S) ∧ d.1 147 S = nI (dig S)
def PC (d : Dt) (q : St) (s S : Nat) : Prop := d.2.1 145 S = lN (cntQ q tl0 s S) ∧ d.1 146 S = pv (fstQ q s S)
theorem PD_k {d d' : Dt} {q : St} (h : PD d q) (e7 : d'.1 138 = d.1 138) (e3 : d'.1 143 = d.1 143) (e4 : d'.1 144 = d.1 144) (e5 : d'.1 147 = d.1 147) : PD d' q := ⟨by rw [e7]; exact h.1, fun S hS => by rw [e3, e4, e5]; exact h.2 S hS⟩
theorem PC_0 {q : St} (hm : q 0 1 ≤ 12) {S : Nat} (hS : S < 2 ^ q 0 1) : cntQ q tl0 0 S = (if S = 0 then 1 else 0) ∧ fstQ q 0 S = (if S = 0 then 1 else 0) := by
  refine ⟨rfl, ?_⟩
  refine MinOf.uniq (mnOf_spec (Wc q 0 S)) ?_
  by_cases e : S = 0
  · rw [if_pos e]
    exact Or.inr ⟨0, rfl, Wc_0.mpr ⟨e, rfl⟩, fun _ _ => Nat.zero_le _⟩
  · rw [if_neg e]
    exact Or.inl ⟨rfl, fun w hw => e (Wc_0.mp hw).1⟩
