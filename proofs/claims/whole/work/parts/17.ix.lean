theorem li_0 : (0 : Int32) = nI 0 := rfl
theorem li_1 : (1 : Int32) = nI 1 := rfl
theorem li_2 : (2 : Int32) = nI 2 := rfl
theorem li_3 : (3 : Int32) = nI 3 := rfl
theorem li_4 : (4 : Int32) = nI 4 := rfl
theorem li_5 : (5 : Int32) = nI 5 := rfl
theorem li_7 : (7 : Int32) = nI 7 := rfl
theorem li_8 : (8 : Int32) = nI 8 := rfl
theorem li_9 : (9 : Int32) = nI 9 := rfl
theorem li_11 : (11 : Int32) = nI 11 := rfl
theorem li_12 : (12 : Int32) = nI 12 := rfl
theorem li_16 : (16 : Int32) = nI 16 := rfl
theorem li_17 : (17 : Int32) = nI 17 := rfl
theorem li_31 : (31 : Int32) = nI 31 := rfl
theorem li_32 : (32 : Int32) = nI 32 := rfl
theorem li_60 : (60 : Int32) = nI 60 := rfl
theorem li_77 : (77 : Int32) = nI 77 := rfl
theorem li_80 : (80 : Int32) = nI 80 := rfl
theorem li_89 : (89 : Int32) = nI 89 := rfl
theorem li_99 : (99 : Int32) = nI 99 := rfl
theorem li_101 : (101 : Int32) = nI 101 := rfl
theorem li_112 : (112 : Int32) = nI 112 := rfl
theorem li_113 : (113 : Int32) = nI 113 := rfl
theorem li_256 : (256 : Int32) = nI 256 := rfl
theorem li_999 : (999 : Int32) = nI 999 := rfl
theorem li_1023 : (1023 : Int32) = nI 1023 := rfl
theorem nI_nle0 (j : Nat) : nI j + nI 1 = nI (j + 1) := nI_add j 1
section IX
variable {M M' : MI} {dep : Nat} {fx : Bool} {Φ : Rs → ah → Prop} {k n pc : Nat} {lv : List (Nat × Value)} {st : List Value} {d : Dt} {h : ah}
theorem aw_ialdN {i t N : Nat} {f : Nat → Int32} {x : Int32} (dc : decode M.2.1 pc = .ok (.iaload, 1)) (hh : h i = some (.inl (t, N, .inl f))) (ht : ktl[t]? = some .int) (j : Nat) (hx : x = nI j) (hj : j < N) (hN : N ≤ 1024) (kk : AW M dep fx Φ k n (pc + 1) lv (.int (f j) :: st) h) : AW M dep fx Φ k n pc lv (.int x :: .ref i :: st) h := by
  subst hx
  exact aw_iald dc hh ht (vp_in_nI hj (by omega)) (by rw [nI_clamp (by omega)]; exact kk)
theorem aw_zaldN {i t N : Nat} {f : Nat → Int32} {x : Int32} (dc : decode M.2.1 pc = .ok (.baload, 1)) (hh : h i = some (.inl (t, N, .inl f))) (ht : ktl[t]? = some .boolean) (j : Nat) (hx : x = nI j) (hj : j < N) (hN : N ≤ 1024) (kk : AW M dep fx Φ k n (pc + 1) lv (.int (f j) :: st) h) : AW M dep fx Φ k n pc lv (.int x :: .ref i :: st) h := by
  subst hx
  exact aw_zald dc hh ht (vp_in_nI hj (by omega)) (by rw [nI_clamp (by omega)]; exact kk)
theorem aw_caldN {i t N : Nat} {f : Nat → Int32} {x : Int32} (dc : decode M.2.1 pc = .ok (.caload, 1)) (hh : h i = some (.inl (t, N, .inl f))) (ht : ktl[t]? = some .char) (j : Nat) (hx : x = nI j) (hj : j < N) (hN : N ≤ 1024) (kk : AW M dep fx Φ k n (pc + 1) lv (.int (f j) :: st) h) : AW M dep fx Φ k n pc lv (.int x :: .ref i :: st) h := by
  subst hx
  exact aw_cald dc hh ht (vp_in_nI hj (by omega)) (by rw [nI_clamp (by omega)]; exact kk)
theorem aw_laldN {i t N : Nat} {f : Nat → Int64} {x : Int32} (dc : decode M.2.1 pc = .ok (.laload, 1)) (hh : h i = some (.inl (t, N, .inr (.inl f)))) (ht : ktl[t]? = some .long) (j : Nat) (hx : x = nI j) (hj : j < N) (hN : N ≤ 1024) (kk : AW M dep fx Φ k n (pc + 1) lv (.long (f j) :: st) h) : AW M dep fx Φ k n pc lv (.int x :: .ref i :: st) h := by
  subst hx
  exact aw_lald dc hh ht (vp_in_nI hj (by omega)) (by rw [nI_clamp (by omega)]; exact kk)
theorem aw_iastN {i N : Nat} {x y : Int32} (dc : decode M.2.1 pc = .ok (.iastore, 1)) (hh : ∀ d, HP d i = some (.inl (0, N, .inl (d.1 i)))) (j : Nat) (hx : x = nI j) (hj : j < N) (hN : N ≤ 1024) (kk : AW M dep true Φ k n (pc + 1) lv st (HP (dI d i (upd (d.1 i) j y)))) : AW M dep true Φ k n pc lv (.int y :: .int x :: .ref i :: st) (HP d) := by
  subst hx
  exact aw_iastD dc hh (vp_in_nI hj (by omega)) (by rw [nI_clamp (by omega)]; exact kk)
theorem aw_zastN {i N : Nat} {x y : Int32} (dc : decode M.2.1 pc = .ok (.bastore, 1)) (hh : ∀ d, HP d i = some (.inl (2, N, .inl (d.1 i)))) (j : Nat) (hx : x = nI j) (hj : j < N) (hN : N ≤ 1024) (hy : narrow .boolean (.int y) = .int y) (kk : AW M dep true Φ k n (pc + 1) lv st (HP (dI d i (upd (d.1 i) j y)))) : AW M dep true Φ k n pc lv (.int y :: .int x :: .ref i :: st) (HP d) := by
  subst hx
  exact aw_zastD dc hh (vp_in_nI hj (by omega)) hy (by rw [nI_clamp (by omega)]; exact kk)
theorem aw_castN {i N : Nat} {x y : Int32} (dc : decode M.2.1 pc = .ok (.castore, 1)) (hh : ∀ d, HP d i = some (.inl (3, N, .inl (d.1 i)))) (j : Nat) (hx : x = nI j) (hj : j < N) (hN : N ≤ 1024) (hy : narrow .char (.int y) = .int y) (kk : AW M dep true Φ k n (pc + 1) lv st (HP (dI d i (upd (d.1 i) j y)))) : AW M dep true Φ k n pc lv (.int y :: .int x :: .ref i :: st) (HP d) := by
  subst hx
  exact aw_castD dc hh (vp_in_nI hj (by omega)) hy (by rw [nI_clamp (by omega)]; exact kk)
theorem aw_lastN {i N : Nat} {x : Int32} {y : Int64} (dc : decode M.2.1 pc = .ok (.lastore, 1)) (hh : ∀ d, HP d i = some (.inl (1, N, .inr (.inl (d.2.1 i))))) (j : Nat) (hx : x = nI j) (hj : j < N) (hN : N ≤ 1024) (kk : AW M dep true Φ k n (pc + 1) lv st (HP (dL d i (vp_updL (d.2.1 i) j y)))) : AW M dep true Φ k n pc lv (.long y :: .int x :: .ref i :: st) (HP d) := by
  subst hx
  exact aw_lastD dc hh (vp_in_nI hj (by omega)) (by rw [nI_clamp (by omega)]; exact kk)
end IX
theorem le_nI {x y : Int32} {a b : Nat} (hx : x = nI a) (hy : y = nI b) (ha : a < 2 ^ 31) (hb : b < 2 ^ 31) : x ≤ y ↔ a ≤ b := by subst hx hy; exact nI_leI ha hb
theorem lt_nI {x y : Int32} {a b : Nat} (hx : x = nI a) (hy : y = nI b) (ha : a < 2 ^ 31) (hb : b < 2 ^ 31) : x < y ↔ a < b := by subst hx hy; exact nI_ltI ha hb
theorem m1_ne {a : Nat} (h : a < 2 ^ 31) : ¬ (-1 : Int32) = nI a := fun z => by
  have e1 := congrArg Int32.toInt z
  rw [nI_toInt h, show (-1 : Int32).toInt = -1 from by decide] at e1
  omega
theorem eq_nI {x y : Int32} {a b : Nat} (hx : x = nI a) (hy : y = nI b) (ha : a < 2 ^ 31) (hb : b < 2 ^ 31) : x = y ↔ a = b := by subst hx hy; exact nI_eq ha hb
