/-! LEAST LINES: sets of tasks, lines station by station, how many there are, and the first one -/
def alB : Nat → (Nat → Bool) → Bool
  | 0, _ => true
  | n + 1, f => alB n f && f n
theorem alB_iff {n : Nat} {f : Nat → Bool} : alB n f = true ↔ ∀ k, k < n → f k = true := by
  induction n with
  | zero => exact ⟨fun _ k hk => absurd hk (Nat.not_lt_zero _), fun _ => rfl⟩
  | succ n ih =>
    simp only [alB, Bool.and_eq_true, ih]
    constructor
    · rintro ⟨h1, h2⟩ k hk
      by_cases e : k = n
      · rw [e]; exact h2
      · exact h1 k (by omega)
    · intro h
      exact ⟨fun k hk => h k (by omega), h n (by omega)⟩
def clF (q : St) (S t : Nat) : Bool := !S.testBit t || decide (lacks (q 8 t) S = 0)
def seF (q : St) (S t : Nat) : Bool := !S.testBit t || (decide (q 10 t &&& S = 0) && decide (lacks (q 11 t) S = 0))
def clB (q : St) (S : Nat) : Bool := alB (q 0 1) (clF q S)
def seB (q : St) (S : Nat) : Bool := decide (pc (tls q S) ≤ q 2 2) && alB (q 0 1) (seF q S)
def rgB (q : St) (S c : Nat) : Bool := seB q S && fitB q S c
/-- told: 0 nothing, else the station and one -/
def tlF (tl : Nat → Nat) (P s t : Nat) : Bool := decide (tl t = 0) || (decide (tl t = s + 1) == P.testBit t)
def tlB (q : St) (tl : Nat → Nat) (P s : Nat) : Bool := alB (q 0 1) (tlF tl P s)
def cntF (q : St) (tl : Nat → Nat) (c : Nat → Nat) (s T P : Nat) : Nat := if P &&& T = P ∧ rgB q P (q 3 s) = true ∧ tlB q tl P s = true then c (lacks T P) else 0
def cntQ (q : St) (tl : Nat → Nat) : Nat → Nat → Nat
  | 0, T => if T = 0 then 1 else 0
  | s + 1, T => if clB q T = true then sN (2 ^ q 0 1) (cntF q tl (cntQ q tl s) s T) else 0
theorem sN_single {n a v : Nat} {f : Nat → Nat} (h : ∀ k, k < n → k ≠ a → f k = 0) (ha : f a ≤ v) : sN n f ≤ v := by
  induction n with
  | zero => exact Nat.zero_le _
  | succ n ih =>
    simp only [sN]
    by_cases e : n = a
    · have : sN n f = 0 := by
        have := sN_le (n := n) (b := 0) (f := f) (fun k hk => by rw [h k (by omega) (by omega)]; exact Nat.le_refl _)
        omega
      rw [this, e]
      omega
    · rw [h n (by omega) e]
      exact ih (fun k hk hne => h k (by omega) hne)
theorem lacks_0 {T P : Nat} (hT : T < 4096) (h : lacks T P = 0) (hs : P &&& T = P) : P = T := by
  refine bits_eq fun i => ⟨fun hi => ?_, fun hi => ?_⟩
  · rw [← hs, Nat.testBit_and, Bool.and_eq_true] at hi
    exact hi.2
  · have := lacks_bit (s := P) (i := i) hT
    rw [h, Nat.zero_testBit, hi] at this
    cases hp : P.testBit i with
    | true => rfl
    | false => rw [hp] at this; cases this
theorem cntQ_1 (q : St) (tl : Nat → Nat) (hm : q 0 1 ≤ 12) {T : Nat} (hT : T < 2 ^ q 0 1) : cntQ q tl 1 T ≤ 1 := by
  have hp := pow12 hm
  show (if clB q T = true then sN (2 ^ q 0 1) (cntF q tl (cntQ q tl 0) 0 T) else 0) ≤ 1
  split
  · refine sN_single (a := T) (fun k _ hne => ?_) ?_
    · unfold cntF
      split
      · rename_i h
        exact if_neg (fun z => hne (lacks_0 (by omega) z h.1))
      · rfl
    · unfold cntF cntQ
      (repeat' split) <;> omega
  · omega
theorem cntQ_le (q : St) (tl : Nat → Nat) (hm : q 0 1 ≤ 8) : ∀ s T, T < 2 ^ q 0 1 → cntQ q tl (s + 1) T ≤ 256 ^ s := by
  have hp : 2 ^ q 0 1 ≤ 256 := Nat.le_trans (Nat.pow_le_pow_right (by omega) hm) (by decide)
  intro s
  induction s with
  | zero => intro T hT; exact cntQ_1 q tl (by omega) hT
  | succ s ih =>
    intro T hT
    show (if clB q T = true then sN (2 ^ q 0 1) (cntF q tl (cntQ q tl (s + 1)) (s + 1) T) else 0) ≤ _
    split
    · have h := sN_le (n := 2 ^ q 0 1) (b := 256 ^ s) (f := cntF q tl (cntQ q tl (s + 1)) (s + 1) T) (fun P hP => by
        unfold cntF
        split
        · exact ih _ (lacks_lt hT)
        · exact Nat.zero_le _)
      refine Nat.le_trans h ?_
      rw [Nat.pow_succ, Nat.mul_comm (256 ^ s) 256]
      exact Nat.mul_le_mul_right _ hp
    · exact Nat.zero_le _
theorem p256 {s : Nat} (h : s ≤ 7) : 256 ^ s ≤ 2 ^ 56 := Nat.le_trans (Nat.pow_le_pow_right (by omega) h) (by decide)
theorem cntQ_lt (q : St) (tl : Nat → Nat) (hm : q 0 1 ≤ 8) {s : Nat} (hs : s ≤ 8) {T : Nat} (hT : T < 2 ^ q 0 1) : cntQ q tl s T ≤ 2 ^ 56 := by
  match s, hs with
  | 0, _ => show (if T = 0 then 1 else 0) ≤ _; split <;> exact Nat.le_of_ble_eq_true rfl
  | s + 1, hs => exact Nat.le_trans (cntQ_le q tl hm s T hT) (p256 (by omega))
/-- part of the way: the sum over the sets below a -/
theorem cntF_lt (q : St) (tl : Nat → Nat) (hm : q 0 1 ≤ 8) {s a : Nat} (hs : s ≤ 7) (ha : a ≤ 2 ^ q 0 1) {T : Nat} (hT : T < 2 ^ q 0 1) : sN a (cntF q tl (cntQ q tl s) s T) ≤ 2 ^ 56 := by
  have hp : 2 ^ q 0 1 ≤ 256 := Nat.le_trans (Nat.pow_le_pow_right (by omega) hm) (by decide)
  match s, hs with
  | 0, _ =>
    refine Nat.le_trans (sN_le (b := 1) (fun P _ => ?_)) (Nat.le_trans (by rw [Nat.mul_one]; exact Nat.le_trans ha hp) (Nat.le_of_ble_eq_true rfl))
    unfold cntF cntQ
    (repeat' split) <;> omega
  | s + 1, hs =>
    have h := sN_le (n := a) (b := 256 ^ s) (f := cntF q tl (cntQ q tl (s + 1)) (s + 1) T) (fun P hP => by
        unfold cntF
        split
        · exact cntQ_le q tl hm s _ (lacks_lt hT)
        · exact Nat.zero_le _)
    have h2 : a * 256 ^ s ≤ 256 * 256 ^ s := Nat.mul_le_mul_right _ (Nat.le_trans ha hp)
    have h3 : 256 * 256 ^ s = 256 ^ (s + 1) := by rw [Nat.pow_succ, Nat.mul_comm]
    have h4 := p256 (s := s + 1) (by omega)
    omega
/-! lines as functions: the station of each task -/
def prtQ (q : St) (f : Nat → Nat) (s S : Nat) : Nat := oN (q 0 1) (fun t => if S.testBit t = true ∧ f t = s then 2 ^ t else 0)
def Wy (q : St) (f : Nat → Nat) : Nat → Nat → Prop
  | 0, S => S = 0
  | s + 1, S => clB q S = true ∧ rgB q (prtQ q f s S) (q 3 s) = true ∧ Wy q f s (lacks S (prtQ q f s S))
def cdF (f : Nat → Nat) (S t : Nat) : Nat := if S.testBit t = true then f t * 8 ^ (7 - t) else 0
def cod (q : St) (f : Nat → Nat) (S : Nat) : Nat := sN (q 0 1) (cdF f S)
theorem prt_bit (q : St) (f : Nat → Nat) (s S i : Nat) : (prtQ q f s S).testBit i = true ↔ i < q 0 1 ∧ S.testBit i = true ∧ f i = s := by
  unfold prtQ
  rw [@oN_p (q 0 1) (fun t => S.testBit t = true ∧ f t = s) _ i]
theorem prt_sub {q : St} {f : Nat → Nat} {s S : Nat} : prtQ q f s S &&& S = prtQ q f s S := by
  refine bits_eq fun i => ?_
  rw [Nat.testBit_and, Bool.and_eq_true, prt_bit]
  exact ⟨fun h => h.1, fun h => ⟨h, h.2.1⟩⟩
theorem sub_lt {P S w : Nat} (h : P &&& S = P) (hS : S < w) : P < w := by
  rw [← h]; exact Nat.lt_of_le_of_lt Nat.and_le_right hS
theorem sub_bit {P S i : Nat} (h : P &&& S = P) (hi : P.testBit i = true) : S.testBit i = true := by
  rw [← h, Nat.testBit_and, Bool.and_eq_true] at hi
  exact hi.2
/-- who is in a line's set has a station below -/
theorem Wy_lt {q : St} {f : Nat → Nat} (hm : q 0 1 ≤ 12) : ∀ n S, S < 2 ^ q 0 1 → Wy q f n S → ∀ t, S.testBit t = true → f t < n := by
  have hp := pow12 hm
  intro n
  induction n with
  | zero => intro S _ h t ht; rw [show S = 0 from h, Nat.zero_testBit] at ht; cases ht
  | succ n ih =>
    intro S hS h t ht
    by_cases e : f t = n
    · omega
    · have := ih _ (lacks_lt hS) h.2.2 t (by
        rw [lacks_bit (by omega), ht, Bool.true_and]
        cases hb : (prtQ q f n S).testBit t with
        | false => rfl
        | true => exact absurd ((prt_bit _ _ _ _ _).mp hb).2.2 e)
      omega
theorem Wy_congr {q : St} {f g : Nat → Nat} (hm : q 0 1 ≤ 12) : ∀ n S, S < 2 ^ q 0 1 → (∀ t, S.testBit t = true → f t = g t) → Wy q f n S → Wy q g n S := by
  have hp := pow12 hm
  intro n
  induction n with
  | zero => intro S _ _ h; exact h
  | succ n ih =>
    intro S hS hfg h
    have e : prtQ q g n S = prtQ q f n S := bits_eq fun i => by
      rw [prt_bit, prt_bit]
      constructor
      · rintro ⟨a, b, c⟩; exact ⟨a, b, by rw [hfg i b]; exact c⟩
      · rintro ⟨a, b, c⟩; exact ⟨a, b, by rw [← hfg i b]; exact c⟩
    refine ⟨h.1, by rw [e]; exact h.2.1, ?_⟩
    rw [e]
    refine ih _ (lacks_lt hS) (fun t ht => hfg t ?_) h.2.2
    rw [lacks_bit (by omega), Bool.and_eq_true] at ht
    exact ht.1
def ext (f : Nat → Nat) (P s : Nat) : Nat → Nat := fun t => if P.testBit t = true then s else f t
/-- a line of a smaller set, and a station more -/
theorem Wy_ext {q : St} {f : Nat → Nat} (hm : q 0 1 ≤ 12) {n S P : Nat} (hS : S < 2 ^ q 0 1) (hc : clB q S = true) (hP : P &&& S = P) (hr : rgB q P (q 3 n) = true) (h : Wy q f n (lacks S P)) : Wy q (ext f P n) (n + 1) S ∧ prtQ q (ext f P n) n S = P := by
  have hp := pow12 hm
  have hl := Wy_lt hm n _ (lacks_lt hS) h
  have e : prtQ q (ext f P n) n S = P := bits_eq fun i => by
    rw [prt_bit]
    constructor
    · rintro ⟨a, b, c⟩
      unfold ext at c
      split at c
      · assumption
      · rename_i hb
        have := hl i (by rw [lacks_bit (by omega), b, Bool.true_and]; cases hz : P.testBit i with | false => rfl | true => exact absurd hz hb)
        omega
    · intro hi
      refine ⟨lt_of_bit hS (sub_bit hP hi), sub_bit hP hi, by unfold ext; rw [if_pos hi]⟩
  refine ⟨⟨hc, by rw [e]; exact hr, ?_⟩, e⟩
  rw [e]
  refine Wy_congr hm n _ (lacks_lt hS) (fun t ht => ?_) h
  unfold ext
  rw [lacks_bit (by omega), Bool.and_eq_true] at ht
  rw [if_neg (fun z => by rw [z] at ht; cases ht.2)]
theorem sN_add {n : Nat} {f g : Nat → Nat} : sN n (fun k => f k + g k) = sN n f + sN n g := by
  induction n with
  | zero => rfl
  | succ n ih => simp only [sN, ih]; omega
def dgF (P t : Nat) : Nat := if P.testBit t = true then 8 ^ (7 - t) else 0
def dig (P : Nat) : Nat := sN 8 (dgF P)
theorem sN_mul {n c : Nat} {f : Nat → Nat} : sN n (fun k => c * f k) = c * sN n f := by
  induction n with
  | zero => rfl
  | succ n ih => simp only [sN, ih, Nat.mul_add]
theorem cod_s {q : St} {f : Nat → Nat} (hm : q 0 1 ≤ 8) {S P s : Nat} (hS : S < 2 ^ q 0 1) (hP : P &&& S = P) (hf : ∀ t, P.testBit t = true → f t = s) : cod q f S = cod q f (lacks S P) + s * dig P := by
  have hp := pow12 (n := q 0 1) (by omega)
  have e : s * dig P = sN (q 0 1) (fun t => s * dgF P t) := by
    unfold dig
    rw [← sN_mul]
    refine sN_cut hm (fun k h1 _ => ?_)
    unfold dgF
    rw [if_neg (fun z => by have := lt_of_bit (sub_lt hP hS) z; omega), Nat.mul_zero]
  rw [e]
  unfold cod
  rw [← sN_add]
  refine sN_congr fun t _ => ?_
  unfold cdF dgF
  rw [lacks_bit (by omega)]
  cases hb : P.testBit t with
  | true => rw [sub_bit hP hb, hf t hb]; simp
  | false => simp
theorem cod_congr {q : St} {f g : Nat → Nat} {S : Nat} (h : ∀ t, S.testBit t = true → f t = g t) : cod q f S = cod q g S := sN_congr fun t _ => by
  unfold cdF
  split
  · rename_i z; rw [h t z]
  · rfl
theorem cod_ext {q : St} {f : Nat → Nat} (hm : q 0 1 ≤ 8) {n S P : Nat} (hS : S < 2 ^ q 0 1) (hP : P &&& S = P) : cod q (ext f P n) S = cod q f (lacks S P) + n * dig P := by
  have hp := pow12 (n := q 0 1) (by omega)
  rw [cod_s (f := ext f P n) hm hS hP (fun t ht => by unfold ext; rw [if_pos ht])]
  congr 1
  refine cod_congr fun t ht => ?_
  rw [lacks_bit (by omega), Bool.and_eq_true] at ht
  unfold ext
  rw [if_neg (fun z => by rw [z] at ht; cases ht.2)]
/-- the codes of lines -/
def Wc (q : St) (n S w : Nat) : Prop := ∃ f, Wy q f n S ∧ w = cod q f S
theorem Wc_0 {q : St} {S w : Nat} : Wc q 0 S w ↔ S = 0 ∧ w = 0 := by
  constructor
  · rintro ⟨f, h1, h2⟩
    have e : S = 0 := h1
    refine ⟨e, ?_⟩
    rw [h2, e]
    have := sN_le (n := q 0 1) (b := 0) (f := cdF f 0) (fun k _ => by unfold cdF; simp)
    unfold cod
    omega
  · rintro ⟨rfl, rfl⟩
    refine ⟨fun _ => 0, rfl, ?_⟩
    have := sN_le (n := q 0 1) (b := 0) (f := cdF (fun _ => 0) 0) (fun k _ => by unfold cdF; simp)
    unfold cod
    omega
theorem Wc_s {q : St} (hm : q 0 1 ≤ 8) {n S w : Nat} (hS : S < 2 ^ q 0 1) : Wc q (n + 1) S w ↔ clB q S = true ∧ ∃ P w', P &&& S = P ∧ rgB q P (q 3 n) = true ∧ Wc q n (lacks S P) w' ∧ w = w' + n * dig P := by
  constructor
  · rintro ⟨f, h1, h2⟩
    refine ⟨h1.1, prtQ q f n S, cod q f (lacks S (prtQ q f n S)), prt_sub, h1.2.1, ⟨f, h1.2.2, rfl⟩, ?_⟩
    rw [h2]
    exact cod_s hm hS prt_sub (fun t ht => ((prt_bit _ _ _ _ _).mp ht).2.2)
  · rintro ⟨hc, P, w', hP, hr, ⟨f, h1, h2⟩, h3⟩
    refine ⟨ext f P n, (Wy_ext (by omega) hS hc hP hr h1).1, ?_⟩
    rw [cod_ext hm hS hP, h3, h2]
