/-! CONSTRUCTORS: all things of the class and of the reference are made -/
theorem d00_st0 {a : Nat} (ha : a < 11) : d00.1 (12 * a) = stD 0 := d00_st (j := 0) ha (by decide)
theorem aw_iaddV {M : MI} {dep : Nat} {fx : Bool} {Φ : Rs → ah → Prop} {k n pc : Nat} {lv : List (Nat × Value)} {st : List Value} {h : ah} {x y v : Int32} (d : decode M.2.1 pc = .ok (.iadd, 1)) (hv : x + y = v) (kk : AW M dep fx Φ k n (pc + 1) lv (.int v :: st) h) : AW M dep fx Φ k n pc lv (.int y :: .int x :: st) h := by
  subst hv
  exact aw_iadd d kk
theorem aw_istV {M : MI} {dep : Nat} {fx : Bool} {Φ : Rs → ah → Prop} {k n pc : Nat} {lv lv' : List (Nat × Value)} {st : List Value} {h : ah} {j : Fin 4} {x : Int32} (d : decode M.2.1 pc = .ok (.istore_n j, 1)) (hn : (j : Nat) < M.2.2.1) (hs : sok (j : Nat) lv = true) (hl : su (j : Nat) (.int x) lv = lv') (kk : AW M dep fx Φ k n (pc + 1) lv' st h) : AW M dep fx Φ k n pc lv (.int x :: st) h := by
  subst hl
  exact aw_istore_n d hn hs kk
theorem aw_iincV {M : MI} {dep : Nat} {fx : Bool} {Φ : Rs → ah → Prop} {k n pc : Nat} {lv lv' : List (Nat × Value)} {st : List Value} {h : ah} {i : Nat} {z : Int} {x v : Int32} (d : decode M.2.1 pc = .ok (.iinc i z, 3)) (hg : lget lv i = some (.int x)) (hv : x + Int32.ofInt z = v) (hn : i < M.2.2.1) (hs : sok i lv = true) (hl : su i (.int v) lv = lv') (kk : AW M dep fx Φ k n (pc + 3) lv' st h) : AW M dep fx Φ k n pc lv st h := by
  subst hl
  exact aw_iinc d hg hv hn hs kk
set_option maxHeartbeats 4000000 in
set_option maxRecDepth 100000 in
theorem kX4_init {b a : Nat} (hb : b = 12 * a) (ha : a < 11) {h : ah} (hC : Clo h) (h0 : h b = some (.inr (4, [.int 0, .int 0, .null, .null, .null, .null, .null, .null, .null, .null, .null, .null, .null]))) (hz : ∀ i, b < i → i < b + 12 → h i = none) : AC mX4_init 2 false (FN h (rg b 12)) 11 135 [.ref b] h := by
  subst hb
  show AW mX4_init 2 false (FN h (rg (12 * a) 12)) 11 135 0 [(0, .ref (12 * a))] [] h
  refine ov_start (b := 12 * a) (j := 0) (i := 12 * a) rfl h0 hC (fun hC => ?_)
  refine aw_aload_n dX4_init_0 rfl ?_
  refine aw_objInit dX4_init_1 (by decide +kernel) (by decide) (Nat.le_of_ble_eq_true rfl) ?_
  refine aw_aload_n dX4_init_4 rfl ?_
  refine aw_iconst (v := 1) dX4_init_5 (by decide) ?_
  refine aw_putIO (L' := [(0, .inr (4, [.int 1, .int 0, .null, .null, .null, .null, .null, .null, .null, .null, .null, .null, .null]))]) (j := 0) (i := 12 * a) (ci := 4) (jf := 0) .int dX4_init_6 rfl rfl fX4_9 (by decide) rfl tyX4 tyX4_ok nmX4 rfl rfl rfl rfl (Nat.le_of_ble_eq_true rfl) rfl hC (fun hC => ?_)
  refine aw_aload_n dX4_init_9 rfl ?_
  refine aw_iconst (v := 3) dX4_init_10 (by decide) ?_
  refine aw_newI (j := 1) (i := 12 * a + 1) (N := 3) dX4_init_11 rfl (by decide) (by decide) (by decide) rfl (hz _ (by omega) (by omega)) (by omega) (by simp) (by simp) (Nat.le_of_ble_eq_true rfl) (Nat.le_of_ble_eq_true rfl) hC (fun hC => ?_)
  refine aw_putRO (L' := [(1, .inl (0, 3, .inl z0)), (0, .inr (4, [.int 1, .int 0, .ref (12 * a + 1), .null, .null, .null, .null, .null, .null, .null, .null, .null, .null]))]) (j := 0) (i := 12 * a) (ci := 4) (jf := 2) _ dX4_init_13 rfl rfl fX4_15 (by decide) rfl rfl rfl tyX4 tyX4_ok nmX4 rfl (fun _ => rfl) (fun _ => rfl) rfl (Nat.le_of_ble_eq_true rfl) rfl (ex_at (j := 1) rfl rfl) hC (fun hC => ?_)
  refine aw_aload_n dX4_init_16 rfl ?_
  refine aw_iconst (v := 4) dX4_init_17 (by decide) ?_
  refine aw_newI (j := 2) (i := 12 * a + 2) (N := 4) dX4_init_18 rfl (by decide) (by decide) (by decide) rfl (hz _ (by omega) (by omega)) (by omega) (by simp) (by simp) (Nat.le_of_ble_eq_true rfl) (Nat.le_of_ble_eq_true rfl) hC (fun hC => ?_)
  refine aw_putRO (L' := [(2, .inl (0, 4, .inl z0)), (1, .inl (0, 3, .inl z0)), (0, .inr (4, [.int 1, .int 0, .ref (12 * a + 1), .ref (12 * a + 2), .null, .null, .null, .null, .null, .null, .null, .null, .null]))]) (j := 0) (i := 12 * a) (ci := 4) (jf := 3) _ dX4_init_20 rfl rfl fX4_19 (by decide) rfl rfl rfl tyX4 tyX4_ok nmX4 rfl (fun _ => rfl) (fun _ => rfl) rfl (Nat.le_of_ble_eq_true rfl) rfl (ex_at (j := 2) rfl rfl) hC (fun hC => ?_)
  refine aw_aload_n dX4_init_23 rfl ?_
  refine aw_bipush (v := 8) dX4_init_24 (by decide) ?_
  refine aw_newI (j := 3) (i := 12 * a + 3) (N := 8) dX4_init_26 rfl (by decide) (by decide) (by decide) rfl (hz _ (by omega) (by omega)) (by omega) (by simp) (by simp) (Nat.le_of_ble_eq_true rfl) (Nat.le_of_ble_eq_true rfl) hC (fun hC => ?_)
  refine aw_putRO (L' := [(3, .inl (0, 8, .inl z0)), (2, .inl (0, 4, .inl z0)), (1, .inl (0, 3, .inl z0)), (0, .inr (4, [.int 1, .int 0, .ref (12 * a + 1), .ref (12 * a + 2), .ref (12 * a + 3), .null, .null, .null, .null, .null, .null, .null, .null]))]) (j := 0) (i := 12 * a) (ci := 4) (jf := 4) _ dX4_init_28 rfl rfl fX4_22 (by decide) rfl rfl rfl tyX4 tyX4_ok nmX4 rfl (fun _ => rfl) (fun _ => rfl) rfl (Nat.le_of_ble_eq_true rfl) rfl (ex_at (j := 3) rfl rfl) hC (fun hC => ?_)
  refine aw_aload_n dX4_init_31 rfl ?_
  refine aw_bipush (v := 36) dX4_init_32 (by decide) ?_
  refine aw_newI (j := 4) (i := 12 * a + 4) (N := 36) dX4_init_34 rfl (by decide) (by decide) (by decide) rfl (hz _ (by omega) (by omega)) (by omega) (by simp) (by simp) (Nat.le_of_ble_eq_true rfl) (Nat.le_of_ble_eq_true rfl) hC (fun hC => ?_)
  refine aw_putRO (L' := [(4, .inl (0, 36, .inl z0)), (3, .inl (0, 8, .inl z0)), (2, .inl (0, 4, .inl z0)), (1, .inl (0, 3, .inl z0)), (0, .inr (4, [.int 1, .int 0, .ref (12 * a + 1), .ref (12 * a + 2), .ref (12 * a + 3), .ref (12 * a + 4), .null, .null, .null, .null, .null, .null, .null]))]) (j := 0) (i := 12 * a) (ci := 4) (jf := 5) _ dX4_init_36 rfl rfl fX4_25 (by decide) rfl rfl rfl tyX4 tyX4_ok nmX4 rfl (fun _ => rfl) (fun _ => rfl) rfl (Nat.le_of_ble_eq_true rfl) rfl (ex_at (j := 4) rfl rfl) hC (fun hC => ?_)
  refine aw_aload_n dX4_init_39 rfl ?_
  refine aw_bipush (v := 12) dX4_init_40 (by decide) ?_
  refine aw_newI (j := 5) (i := 12 * a + 5) (N := 12) dX4_init_42 rfl (by decide) (by decide) (by decide) rfl (hz _ (by omega) (by omega)) (by omega) (by simp) (by simp) (Nat.le_of_ble_eq_true rfl) (Nat.le_of_ble_eq_true rfl) hC (fun hC => ?_)
  refine aw_putRO (L' := [(5, .inl (0, 12, .inl z0)), (4, .inl (0, 36, .inl z0)), (3, .inl (0, 8, .inl z0)), (2, .inl (0, 4, .inl z0)), (1, .inl (0, 3, .inl z0)), (0, .inr (4, [.int 1, .int 0, .ref (12 * a + 1), .ref (12 * a + 2), .ref (12 * a + 3), .ref (12 * a + 4), .ref (12 * a + 5), .null, .null, .null, .null, .null, .null]))]) (j := 0) (i := 12 * a) (ci := 4) (jf := 6) _ dX4_init_44 rfl rfl fX4_28 (by decide) rfl rfl rfl tyX4 tyX4_ok nmX4 rfl (fun _ => rfl) (fun _ => rfl) rfl (Nat.le_of_ble_eq_true rfl) rfl (ex_at (j := 5) rfl rfl) hC (fun hC => ?_)
  refine aw_aload_n dX4_init_47 rfl ?_
  refine aw_bipush (v := 12) dX4_init_48 (by decide) ?_
  refine aw_newI (j := 6) (i := 12 * a + 6) (N := 12) dX4_init_50 rfl (by decide) (by decide) (by decide) rfl (hz _ (by omega) (by omega)) (by omega) (by simp) (by simp) (Nat.le_of_ble_eq_true rfl) (Nat.le_of_ble_eq_true rfl) hC (fun hC => ?_)
  refine aw_putRO (L' := [(6, .inl (0, 12, .inl z0)), (5, .inl (0, 12, .inl z0)), (4, .inl (0, 36, .inl z0)), (3, .inl (0, 8, .inl z0)), (2, .inl (0, 4, .inl z0)), (1, .inl (0, 3, .inl z0)), (0, .inr (4, [.int 1, .int 0, .ref (12 * a + 1), .ref (12 * a + 2), .ref (12 * a + 3), .ref (12 * a + 4), .ref (12 * a + 5), .ref (12 * a + 6), .null, .null, .null, .null, .null]))]) (j := 0) (i := 12 * a) (ci := 4) (jf := 7) _ dX4_init_52 rfl rfl fX4_31 (by decide) rfl rfl rfl tyX4 tyX4_ok nmX4 rfl (fun _ => rfl) (fun _ => rfl) rfl (Nat.le_of_ble_eq_true rfl) rfl (ex_at (j := 6) rfl rfl) hC (fun hC => ?_)
  refine aw_aload_n dX4_init_55 rfl ?_
  refine aw_bipush (v := 12) dX4_init_56 (by decide) ?_
  refine aw_newI (j := 7) (i := 12 * a + 7) (N := 12) dX4_init_58 rfl (by decide) (by decide) (by decide) rfl (hz _ (by omega) (by omega)) (by omega) (by simp) (by simp) (Nat.le_of_ble_eq_true rfl) (Nat.le_of_ble_eq_true rfl) hC (fun hC => ?_)
  refine aw_putRO (L' := [(7, .inl (0, 12, .inl z0)), (6, .inl (0, 12, .inl z0)), (5, .inl (0, 12, .inl z0)), (4, .inl (0, 36, .inl z0)), (3, .inl (0, 8, .inl z0)), (2, .inl (0, 4, .inl z0)), (1, .inl (0, 3, .inl z0)), (0, .inr (4, [.int 1, .int 0, .ref (12 * a + 1), .ref (12 * a + 2), .ref (12 * a + 3), .ref (12 * a + 4), .ref (12 * a + 5), .ref (12 * a + 6), .ref (12 * a + 7), .null, .null, .null, .null]))]) (j := 0) (i := 12 * a) (ci := 4) (jf := 8) _ dX4_init_60 rfl rfl fX4_34 (by decide) rfl rfl rfl tyX4 tyX4_ok nmX4 rfl (fun _ => rfl) (fun _ => rfl) rfl (Nat.le_of_ble_eq_true rfl) rfl (ex_at (j := 7) rfl rfl) hC (fun hC => ?_)
  refine aw_aload_n dX4_init_63 rfl ?_
  refine aw_bipush (v := 12) dX4_init_64 (by decide) ?_
  refine aw_newI (j := 8) (i := 12 * a + 8) (N := 12) dX4_init_66 rfl (by decide) (by decide) (by decide) rfl (hz _ (by omega) (by omega)) (by omega) (by simp) (by simp) (Nat.le_of_ble_eq_true rfl) (Nat.le_of_ble_eq_true rfl) hC (fun hC => ?_)
  refine aw_putRO (L' := [(8, .inl (0, 12, .inl z0)), (7, .inl (0, 12, .inl z0)), (6, .inl (0, 12, .inl z0)), (5, .inl (0, 12, .inl z0)), (4, .inl (0, 36, .inl z0)), (3, .inl (0, 8, .inl z0)), (2, .inl (0, 4, .inl z0)), (1, .inl (0, 3, .inl z0)), (0, .inr (4, [.int 1, .int 0, .ref (12 * a + 1), .ref (12 * a + 2), .ref (12 * a + 3), .ref (12 * a + 4), .ref (12 * a + 5), .ref (12 * a + 6), .ref (12 * a + 7), .ref (12 * a + 8), .null, .null, .null]))]) (j := 0) (i := 12 * a) (ci := 4) (jf := 9) _ dX4_init_68 rfl rfl fX4_37 (by decide) rfl rfl rfl tyX4 tyX4_ok nmX4 rfl (fun _ => rfl) (fun _ => rfl) rfl (Nat.le_of_ble_eq_true rfl) rfl (ex_at (j := 8) rfl rfl) hC (fun hC => ?_)
  refine aw_aload_n dX4_init_71 rfl ?_
  refine aw_bipush (v := 12) dX4_init_72 (by decide) ?_
  refine aw_newI (j := 9) (i := 12 * a + 9) (N := 12) dX4_init_74 rfl (by decide) (by decide) (by decide) rfl (hz _ (by omega) (by omega)) (by omega) (by simp) (by simp) (Nat.le_of_ble_eq_true rfl) (Nat.le_of_ble_eq_true rfl) hC (fun hC => ?_)
  refine aw_putRO (L' := [(9, .inl (0, 12, .inl z0)), (8, .inl (0, 12, .inl z0)), (7, .inl (0, 12, .inl z0)), (6, .inl (0, 12, .inl z0)), (5, .inl (0, 12, .inl z0)), (4, .inl (0, 36, .inl z0)), (3, .inl (0, 8, .inl z0)), (2, .inl (0, 4, .inl z0)), (1, .inl (0, 3, .inl z0)), (0, .inr (4, [.int 1, .int 0, .ref (12 * a + 1), .ref (12 * a + 2), .ref (12 * a + 3), .ref (12 * a + 4), .ref (12 * a + 5), .ref (12 * a + 6), .ref (12 * a + 7), .ref (12 * a + 8), .ref (12 * a + 9), .null, .null]))]) (j := 0) (i := 12 * a) (ci := 4) (jf := 10) _ dX4_init_76 rfl rfl fX4_40 (by decide) rfl rfl rfl tyX4 tyX4_ok nmX4 rfl (fun _ => rfl) (fun _ => rfl) rfl (Nat.le_of_ble_eq_true rfl) rfl (ex_at (j := 9) rfl rfl) hC (fun hC => ?_)
  refine aw_aload_n dX4_init_79 rfl ?_
  refine aw_bipush (v := 12) dX4_init_80 (by decide) ?_
  refine aw_newI (j := 10) (i := 12 * a + 10) (N := 12) dX4_init_82 rfl (by decide) (by decide) (by decide) rfl (hz _ (by omega) (by omega)) (by omega) (by simp) (by simp) (Nat.le_of_ble_eq_true rfl) (Nat.le_of_ble_eq_true rfl) hC (fun hC => ?_)
  refine aw_putRO (L' := [(10, .inl (0, 12, .inl z0)), (9, .inl (0, 12, .inl z0)), (8, .inl (0, 12, .inl z0)), (7, .inl (0, 12, .inl z0)), (6, .inl (0, 12, .inl z0)), (5, .inl (0, 12, .inl z0)), (4, .inl (0, 36, .inl z0)), (3, .inl (0, 8, .inl z0)), (2, .inl (0, 4, .inl z0)), (1, .inl (0, 3, .inl z0)), (0, .inr (4, [.int 1, .int 0, .ref (12 * a + 1), .ref (12 * a + 2), .ref (12 * a + 3), .ref (12 * a + 4), .ref (12 * a + 5), .ref (12 * a + 6), .ref (12 * a + 7), .ref (12 * a + 8), .ref (12 * a + 9), .ref (12 * a + 10), .null]))]) (j := 0) (i := 12 * a) (ci := 4) (jf := 11) _ dX4_init_84 rfl rfl fX4_43 (by decide) rfl rfl rfl tyX4 tyX4_ok nmX4 rfl (fun _ => rfl) (fun _ => rfl) rfl (Nat.le_of_ble_eq_true rfl) rfl (ex_at (j := 10) rfl rfl) hC (fun hC => ?_)
  refine aw_aload_n dX4_init_87 rfl ?_
  refine aw_bipush (v := 12) dX4_init_88 (by decide) ?_
  refine aw_newI (j := 11) (i := 12 * a + 11) (N := 12) dX4_init_90 rfl (by decide) (by decide) (by decide) rfl (hz _ (by omega) (by omega)) (by omega) (by simp) (by simp) (Nat.le_of_ble_eq_true rfl) (Nat.le_of_ble_eq_true rfl) hC (fun hC => ?_)
  refine aw_putRO (L' := [(11, .inl (0, 12, .inl z0)), (10, .inl (0, 12, .inl z0)), (9, .inl (0, 12, .inl z0)), (8, .inl (0, 12, .inl z0)), (7, .inl (0, 12, .inl z0)), (6, .inl (0, 12, .inl z0)), (5, .inl (0, 12, .inl z0)), (4, .inl (0, 36, .inl z0)), (3, .inl (0, 8, .inl z0)), (2, .inl (0, 4, .inl z0)), (1, .inl (0, 3, .inl z0)), (0, .inr (4, [.int 1, .int 0, .ref (12 * a + 1), .ref (12 * a + 2), .ref (12 * a + 3), .ref (12 * a + 4), .ref (12 * a + 5), .ref (12 * a + 6), .ref (12 * a + 7), .ref (12 * a + 8), .ref (12 * a + 9), .ref (12 * a + 10), .ref (12 * a + 11)]))]) (j := 0) (i := 12 * a) (ci := 4) (jf := 12) _ dX4_init_92 rfl rfl fX4_46 (by decide) rfl rfl rfl tyX4 tyX4_ok nmX4 rfl (fun _ => rfl) (fun _ => rfl) rfl (Nat.le_of_ble_eq_true rfl) rfl (ex_at (j := 11) rfl rfl) hC (fun hC => ?_)
  refine aw_aload_n dX4_init_95 rfl ?_
  refine aw_gf dX4_init_96 (ov_at (j := 0) rfl) rfl fX4_15 (by decide) rfl ?_
  refine aw_iconst (v := 1) dX4_init_99 (by decide) ?_
  refine aw_fillO (L' := [(11, .inl (0, 12, .inl z0)), (10, .inl (0, 12, .inl z0)), (9, .inl (0, 12, .inl z0)), (8, .inl (0, 12, .inl z0)), (7, .inl (0, 12, .inl z0)), (6, .inl (0, 12, .inl z0)), (5, .inl (0, 12, .inl z0)), (4, .inl (0, 36, .inl z0)), (3, .inl (0, 8, .inl z0)), (2, .inl (0, 4, .inl z0)), (1, .inl (0, 3, .inl (cpy z0 (fun _ => 1) 3))), (0, .inr (4, [.int 1, .int 0, .ref (12 * a + 1), .ref (12 * a + 2), .ref (12 * a + 3), .ref (12 * a + 4), .ref (12 * a + 5), .ref (12 * a + 6), .ref (12 * a + 7), .ref (12 * a + 8), .ref (12 * a + 9), .ref (12 * a + 10), .ref (12 * a + 11)]))]) (j := 1) (i := 12 * a + 1) dX4_init_100 lX4_49 rfl rfl rfl (by decide) rfl (by decide) (Nat.le_of_ble_eq_true rfl) rfl hC (fun hC => ?_)
  refine aw_aload_n dX4_init_103 rfl ?_
  refine aw_gf dX4_init_104 (ov_at (j := 0) rfl) rfl fX4_22 (by decide) rfl ?_
  refine aw_iconst (v := 1) dX4_init_107 (by decide) ?_
  refine aw_fillO (L' := [(11, .inl (0, 12, .inl z0)), (10, .inl (0, 12, .inl z0)), (9, .inl (0, 12, .inl z0)), (8, .inl (0, 12, .inl z0)), (7, .inl (0, 12, .inl z0)), (6, .inl (0, 12, .inl z0)), (5, .inl (0, 12, .inl z0)), (4, .inl (0, 36, .inl z0)), (3, .inl (0, 8, .inl (cpy z0 (fun _ => 1) 8))), (2, .inl (0, 4, .inl z0)), (1, .inl (0, 3, .inl (cpy z0 (fun _ => 1) 3))), (0, .inr (4, [.int 1, .int 0, .ref (12 * a + 1), .ref (12 * a + 2), .ref (12 * a + 3), .ref (12 * a + 4), .ref (12 * a + 5), .ref (12 * a + 6), .ref (12 * a + 7), .ref (12 * a + 8), .ref (12 * a + 9), .ref (12 * a + 10), .ref (12 * a + 11)]))]) (j := 3) (i := 12 * a + 3) dX4_init_108 lX4_49 rfl rfl rfl (by decide) rfl (by decide) (Nat.le_of_ble_eq_true rfl) rfl hC (fun hC => ?_)
  refine aw_aload_n dX4_init_111 rfl ?_
  refine aw_gf dX4_init_112 (ov_at (j := 0) rfl) rfl fX4_31 (by decide) rfl ?_
  refine aw_iconst (v := (-1)) dX4_init_115 (by decide) ?_
  refine aw_fillO (L' := [(11, .inl (0, 12, .inl z0)), (10, .inl (0, 12, .inl z0)), (9, .inl (0, 12, .inl z0)), (8, .inl (0, 12, .inl z0)), (7, .inl (0, 12, .inl z0)), (6, .inl (0, 12, .inl (cpy z0 (fun _ => (-1)) 12))), (5, .inl (0, 12, .inl z0)), (4, .inl (0, 36, .inl z0)), (3, .inl (0, 8, .inl (cpy z0 (fun _ => 1) 8))), (2, .inl (0, 4, .inl z0)), (1, .inl (0, 3, .inl (cpy z0 (fun _ => 1) 3))), (0, .inr (4, [.int 1, .int 0, .ref (12 * a + 1), .ref (12 * a + 2), .ref (12 * a + 3), .ref (12 * a + 4), .ref (12 * a + 5), .ref (12 * a + 6), .ref (12 * a + 7), .ref (12 * a + 8), .ref (12 * a + 9), .ref (12 * a + 10), .ref (12 * a + 11)]))]) (j := 6) (i := 12 * a + 6) dX4_init_116 lX4_49 rfl rfl rfl (by decide) rfl (by decide) (Nat.le_of_ble_eq_true rfl) rfl hC (fun hC => ?_)
  refine aw_aload_n dX4_init_119 rfl ?_
  refine aw_gf dX4_init_120 (ov_at (j := 0) rfl) rfl fX4_19 (by decide) rfl ?_
  refine aw_iconst (v := 0) dX4_init_123 (by decide) ?_
  refine aw_bipush (v := 60) dX4_init_124 (by decide) ?_
  refine aw_iastO (L' := [(11, .inl (0, 12, .inl z0)), (10, .inl (0, 12, .inl z0)), (9, .inl (0, 12, .inl z0)), (8, .inl (0, 12, .inl z0)), (7, .inl (0, 12, .inl z0)), (6, .inl (0, 12, .inl (cpy z0 (fun _ => (-1)) 12))), (5, .inl (0, 12, .inl z0)), (4, .inl (0, 36, .inl z0)), (3, .inl (0, 8, .inl (cpy z0 (fun _ => 1) 8))), (2, .inl (0, 4, .inl (upd z0 0 60))), (1, .inl (0, 3, .inl (cpy z0 (fun _ => 1) 3))), (0, .inr (4, [.int 1, .int 0, .ref (12 * a + 1), .ref (12 * a + 2), .ref (12 * a + 3), .ref (12 * a + 4), .ref (12 * a + 5), .ref (12 * a + 6), .ref (12 * a + 7), .ref (12 * a + 8), .ref (12 * a + 9), .ref (12 * a + 10), .ref (12 * a + 11)]))]) (j := 2) (i := 12 * a + 2) (m := 0) dX4_init_126 rfl rfl rfl (by unfold vp_in; decide) (by decide) rfl hC (fun hC => ?_)
  refine aw_aload_n dX4_init_127 rfl ?_
  refine aw_gf dX4_init_128 (ov_at (j := 0) rfl) rfl fX4_19 (by decide) rfl ?_
  refine aw_iconst (v := 1) dX4_init_131 (by decide) ?_
  refine aw_iconst (v := 2) dX4_init_132 (by decide) ?_
  refine aw_iastO (L' := [(11, .inl (0, 12, .inl z0)), (10, .inl (0, 12, .inl z0)), (9, .inl (0, 12, .inl z0)), (8, .inl (0, 12, .inl z0)), (7, .inl (0, 12, .inl z0)), (6, .inl (0, 12, .inl (cpy z0 (fun _ => (-1)) 12))), (5, .inl (0, 12, .inl z0)), (4, .inl (0, 36, .inl z0)), (3, .inl (0, 8, .inl (cpy z0 (fun _ => 1) 8))), (2, .inl (0, 4, .inl (upd (upd z0 0 60) 1 2))), (1, .inl (0, 3, .inl (cpy z0 (fun _ => 1) 3))), (0, .inr (4, [.int 1, .int 0, .ref (12 * a + 1), .ref (12 * a + 2), .ref (12 * a + 3), .ref (12 * a + 4), .ref (12 * a + 5), .ref (12 * a + 6), .ref (12 * a + 7), .ref (12 * a + 8), .ref (12 * a + 9), .ref (12 * a + 10), .ref (12 * a + 11)]))]) (j := 2) (i := 12 * a + 2) (m := 1) dX4_init_133 rfl rfl rfl (by unfold vp_in; decide) (by decide) rfl hC (fun hC => ?_)
  refine aw_aload_n dX4_init_134 rfl ?_
  refine aw_gf dX4_init_135 (ov_at (j := 0) rfl) rfl fX4_19 (by decide) rfl ?_
  refine aw_iconst (v := 2) dX4_init_138 (by decide) ?_
  refine aw_iconst (v := 5) dX4_init_139 (by decide) ?_
  refine aw_iastO (L' := [(11, .inl (0, 12, .inl z0)), (10, .inl (0, 12, .inl z0)), (9, .inl (0, 12, .inl z0)), (8, .inl (0, 12, .inl z0)), (7, .inl (0, 12, .inl z0)), (6, .inl (0, 12, .inl (cpy z0 (fun _ => (-1)) 12))), (5, .inl (0, 12, .inl z0)), (4, .inl (0, 36, .inl z0)), (3, .inl (0, 8, .inl (cpy z0 (fun _ => 1) 8))), (2, .inl (0, 4, .inl (upd (upd (upd z0 0 60) 1 2) 2 5))), (1, .inl (0, 3, .inl (cpy z0 (fun _ => 1) 3))), (0, .inr (4, [.int 1, .int 0, .ref (12 * a + 1), .ref (12 * a + 2), .ref (12 * a + 3), .ref (12 * a + 4), .ref (12 * a + 5), .ref (12 * a + 6), .ref (12 * a + 7), .ref (12 * a + 8), .ref (12 * a + 9), .ref (12 * a + 10), .ref (12 * a + 11)]))]) (j := 2) (i := 12 * a + 2) (m := 2) dX4_init_140 rfl rfl rfl (by unfold vp_in; decide) (by decide) rfl hC (fun hC => ?_)
  refine aw_vret dX4_init_141 rfl ⟨rfl, ?_, hC⟩
  rw [ov_fill (all_c ((hps_11 ha d00).trans (by rw [d00_st ha (by decide)] <;> rfl)) (all_c ((hps_10 ha d00).trans (by rw [d00_st ha (by decide)] <;> rfl)) (all_c ((hps_9 ha d00).trans (by rw [d00_st ha (by decide)] <;> rfl)) (all_c ((hps_8 ha d00).trans (by rw [d00_st ha (by decide)] <;> rfl)) (all_c ((hps_7 ha d00).trans (by rw [d00_st ha (by decide)] <;> rfl)) (all_c ((hps_6 ha d00).trans (by rw [d00_st ha (by decide)] <;> rfl)) (all_c ((hps_5 ha d00).trans (by rw [d00_st ha (by decide)] <;> rfl)) (all_c ((hps_4 ha d00).trans (by rw [d00_st ha (by decide)] <;> rfl)) (all_c ((hps_3 ha d00).trans (by rw [d00_st ha (by decide)] <;> rfl)) (all_c ((hps_2 ha d00).trans (by rw [d00_st ha (by decide)] <;> rfl)) (all_c ((hps_1 ha d00).trans (by rw [d00_st ha (by decide)] <;> rfl)) (all_c ((hps_0 ha d00).trans (by rw [d00_st0 ha] <;> rfl)) all_n))))))))))))]
  skip
  exact fill_congr (fun i => Bool.eq_iff_iff.mpr (by simp only [ks, rg, List.any_cons, List.any_nil, Bool.or_eq_true, nb_i, decide_eq_true_eq, Bool.false_eq_true, or_false]; omega))

set_option maxHeartbeats 4000000 in
set_option maxRecDepth 100000 in
theorem kX6_init_134 {h : ah} (hC : Clo h) (h0 : h 134 = some (.inr (6, [.null, .null, .null, .int 0, .int 0, .int 0, .int 0, .int 0]))) (hz : ∀ i, 134 < i → i < 134 + 4 → h i = none) : AC mX6_init 1 false (FN h (rg 134 4)) 3 18 [.ref 134] h := by
  show AW mX6_init 1 false (FN h (rg 134 4)) 3 18 0 [(0, .ref 134)] [] h
  refine ov_start (b := 134) (j := 0) (i := 134) rfl h0 hC (fun hC => ?_)
  refine aw_aload_n dX6_init_0 rfl ?_
  refine aw_objInit dX6_init_1 (by decide +kernel) (by decide) (Nat.le_of_ble_eq_true rfl) ?_
  refine aw_aload_n dX6_init_4 rfl ?_
  refine aw_bipush (v := 12) dX6_init_5 (by decide) ?_
  refine aw_newI (j := 1) (i := 135) (N := 12) dX6_init_7 rfl (by decide) (by decide) (by decide) rfl (hz _ (by decide) (by decide)) (by decide) (by simp) (by simp) (Nat.le_of_ble_eq_true rfl) (Nat.le_of_ble_eq_true rfl) hC (fun hC => ?_)
  refine aw_putRO (L' := [(1, .inl (0, 12, .inl z0)), (0, .inr (6, [.ref 135, .null, .null, .int 0, .int 0, .int 0, .int 0, .int 0]))]) (j := 0) (i := 134) (ci := 6) (jf := 0) _ dX6_init_9 rfl rfl fX6_9 (by decide) rfl rfl rfl tyX6 tyX6_ok nmX6 rfl (fun _ => rfl) (fun _ => rfl) rfl (Nat.le_of_ble_eq_true rfl) rfl (ex_at (j := 1) rfl rfl) hC (fun hC => ?_)
  refine aw_aload_n dX6_init_12 rfl ?_
  refine aw_iconst (v := 3) dX6_init_13 (by decide) ?_
  refine aw_newI (j := 2) (i := 136) (N := 3) dX6_init_14 rfl (by decide) (by decide) (by decide) rfl (hz _ (by decide) (by decide)) (by decide) (by simp) (by simp) (Nat.le_of_ble_eq_true rfl) (Nat.le_of_ble_eq_true rfl) hC (fun hC => ?_)
  refine aw_putRO (L' := [(2, .inl (0, 3, .inl z0)), (1, .inl (0, 12, .inl z0)), (0, .inr (6, [.ref 135, .ref 136, .null, .int 0, .int 0, .int 0, .int 0, .int 0]))]) (j := 0) (i := 134) (ci := 6) (jf := 1) _ dX6_init_16 rfl rfl fX6_15 (by decide) rfl rfl rfl tyX6 tyX6_ok nmX6 rfl (fun _ => rfl) (fun _ => rfl) rfl (Nat.le_of_ble_eq_true rfl) rfl (ex_at (j := 2) rfl rfl) hC (fun hC => ?_)
  refine aw_aload_n dX6_init_19 rfl ?_
  refine aw_iconst (v := 3) dX6_init_20 (by decide) ?_
  refine aw_newI (j := 3) (i := 137) (N := 3) dX6_init_21 rfl (by decide) (by decide) (by decide) rfl (hz _ (by decide) (by decide)) (by decide) (by simp) (by simp) (Nat.le_of_ble_eq_true rfl) (Nat.le_of_ble_eq_true rfl) hC (fun hC => ?_)
  refine aw_putRO (L' := [(3, .inl (0, 3, .inl z0)), (2, .inl (0, 3, .inl z0)), (1, .inl (0, 12, .inl z0)), (0, .inr (6, [.ref 135, .ref 136, .ref 137, .int 0, .int 0, .int 0, .int 0, .int 0]))]) (j := 0) (i := 134) (ci := 6) (jf := 2) _ dX6_init_23 rfl rfl fX6_18 (by decide) rfl rfl rfl tyX6 tyX6_ok nmX6 rfl (fun _ => rfl) (fun _ => rfl) rfl (Nat.le_of_ble_eq_true rfl) rfl (ex_at (j := 3) rfl rfl) hC (fun hC => ?_)
  refine aw_vret dX6_init_26 rfl ⟨rfl, ?_, hC⟩
  rw [ov_fill (all_c rfl (all_c rfl (all_c rfl (all_c rfl all_n))))]
  skip
  exact fill_congr (fun i => Bool.eq_iff_iff.mpr (by simp only [ks, rg, List.any_cons, List.any_nil, Bool.or_eq_true, nb_i, decide_eq_true_eq, Bool.false_eq_true, or_false]; omega))

set_option maxHeartbeats 4000000 in
set_option maxRecDepth 100000 in
theorem kX6_init_139 {h : ah} (hC : Clo h) (h0 : h 139 = some (.inr (6, [.null, .null, .null, .int 0, .int 0, .int 0, .int 0, .int 0]))) (hz : ∀ i, 139 < i → i < 139 + 4 → h i = none) : AC mX6_init 1 false (FN h (rg 139 4)) 3 18 [.ref 139] h := by
  show AW mX6_init 1 false (FN h (rg 139 4)) 3 18 0 [(0, .ref 139)] [] h
  refine ov_start (b := 139) (j := 0) (i := 139) rfl h0 hC (fun hC => ?_)
  refine aw_aload_n dX6_init_0 rfl ?_
  refine aw_objInit dX6_init_1 (by decide +kernel) (by decide) (Nat.le_of_ble_eq_true rfl) ?_
  refine aw_aload_n dX6_init_4 rfl ?_
  refine aw_bipush (v := 12) dX6_init_5 (by decide) ?_
  refine aw_newI (j := 1) (i := 140) (N := 12) dX6_init_7 rfl (by decide) (by decide) (by decide) rfl (hz _ (by decide) (by decide)) (by decide) (by simp) (by simp) (Nat.le_of_ble_eq_true rfl) (Nat.le_of_ble_eq_true rfl) hC (fun hC => ?_)
  refine aw_putRO (L' := [(1, .inl (0, 12, .inl z0)), (0, .inr (6, [.ref 140, .null, .null, .int 0, .int 0, .int 0, .int 0, .int 0]))]) (j := 0) (i := 139) (ci := 6) (jf := 0) _ dX6_init_9 rfl rfl fX6_9 (by decide) rfl rfl rfl tyX6 tyX6_ok nmX6 rfl (fun _ => rfl) (fun _ => rfl) rfl (Nat.le_of_ble_eq_true rfl) rfl (ex_at (j := 1) rfl rfl) hC (fun hC => ?_)
  refine aw_aload_n dX6_init_12 rfl ?_
  refine aw_iconst (v := 3) dX6_init_13 (by decide) ?_
  refine aw_newI (j := 2) (i := 141) (N := 3) dX6_init_14 rfl (by decide) (by decide) (by decide) rfl (hz _ (by decide) (by decide)) (by decide) (by simp) (by simp) (Nat.le_of_ble_eq_true rfl) (Nat.le_of_ble_eq_true rfl) hC (fun hC => ?_)
  refine aw_putRO (L' := [(2, .inl (0, 3, .inl z0)), (1, .inl (0, 12, .inl z0)), (0, .inr (6, [.ref 140, .ref 141, .null, .int 0, .int 0, .int 0, .int 0, .int 0]))]) (j := 0) (i := 139) (ci := 6) (jf := 1) _ dX6_init_16 rfl rfl fX6_15 (by decide) rfl rfl rfl tyX6 tyX6_ok nmX6 rfl (fun _ => rfl) (fun _ => rfl) rfl (Nat.le_of_ble_eq_true rfl) rfl (ex_at (j := 2) rfl rfl) hC (fun hC => ?_)
  refine aw_aload_n dX6_init_19 rfl ?_
  refine aw_iconst (v := 3) dX6_init_20 (by decide) ?_
  refine aw_newI (j := 3) (i := 142) (N := 3) dX6_init_21 rfl (by decide) (by decide) (by decide) rfl (hz _ (by decide) (by decide)) (by decide) (by simp) (by simp) (Nat.le_of_ble_eq_true rfl) (Nat.le_of_ble_eq_true rfl) hC (fun hC => ?_)
  refine aw_putRO (L' := [(3, .inl (0, 3, .inl z0)), (2, .inl (0, 3, .inl z0)), (1, .inl (0, 12, .inl z0)), (0, .inr (6, [.ref 140, .ref 141, .ref 142, .int 0, .int 0, .int 0, .int 0, .int 0]))]) (j := 0) (i := 139) (ci := 6) (jf := 2) _ dX6_init_23 rfl rfl fX6_18 (by decide) rfl rfl rfl tyX6 tyX6_ok nmX6 rfl (fun _ => rfl) (fun _ => rfl) rfl (Nat.le_of_ble_eq_true rfl) rfl (ex_at (j := 3) rfl rfl) hC (fun hC => ?_)
  refine aw_vret dX6_init_26 rfl ⟨rfl, ?_, hC⟩
  rw [ov_fill (all_c rfl (all_c rfl (all_c rfl (all_c rfl all_n))))]
  skip
  exact fill_congr (fun i => Bool.eq_iff_iff.mpr (by simp only [ks, rg, List.any_cons, List.any_nil, Bool.or_eq_true, nb_i, decide_eq_true_eq, Bool.false_eq_true, or_false]; omega))

set_option maxHeartbeats 4000000 in
set_option maxRecDepth 100000 in
theorem kX5_init {h : ah} (hC : Clo h) (h0 : h 133 = some (.inr (5, [.null, .null]))) (hz : ∀ i, 133 < i → i < 138 → h i = none) (hx : ∃ y, h 0 = some y) : AC mX5_init 2 false (FN h (rg 133 5)) 4 26 [.ref 133, .ref 0] h := by
  show AW mX5_init 2 false (FN h (rg 133 5)) 4 26 0 [(0, .ref 133), (1, .ref 0)] [] h
  refine ov_start (b := 133) (j := 0) (i := 133) rfl h0 hC (fun hC => ?_)
  refine aw_aload_n dX5_init_0 rfl ?_
  refine aw_objInit dX5_init_1 (by decide +kernel) (by decide) (Nat.le_of_ble_eq_true rfl) ?_
  refine aw_aload_n dX5_init_4 rfl ?_
  refine aw_newO (j := 1) (i := 134) (ci := 6) (N := 8) (fs := [.null, .null, .null, .int 0, .int 0, .int 0, .int 0, .int 0]) dX5_init_5 rfl rfl (tbk1 124 rfl) (tbk1 125 rfl) (tbk1 5 rfl) tyX6 tyX6_ok (by decide) (fun _ => rfl) (by simp) rfl (hz _ (by decide) (by decide)) (by decide) (by simp) (by simp) (Nat.le_of_ble_eq_true rfl) (Nat.le_of_ble_eq_true rfl) hC (fun hC => ?_)
  refine aw_dup dX5_init_8 rfl ?_
  refine aw_ctorN (j := 1) (i := 134) (P := rg 134 4) (M' := mX6_init) (as := []) dX5_init_9 lX5_11 oX6_init iX6_init rfl rfl rfl (kX6_init_134 hC (ov_at (j := 1) rfl) (fun i h1 h2 => ov_is (by simp <;> omega) (hz i (by omega) (by omega)))) rfl rfl (Nat.le_of_ble_eq_true rfl) (by decide) (Nat.le_of_ble_eq_true rfl) (Nat.le_of_ble_eq_true rfl) (Nat.le_of_ble_eq_true rfl) rfl (hs_1 (by decide)) rfl (okv_r (ex_at (j := 1) rfl rfl) (okv_r (ex_at (j := 0) rfl rfl) okv_n)) (okv_r (ex_at (j := 0) rfl rfl) (okv_r (ex_ov (by simp) hx) okv_n)) (fun hC => ?_)
  refine aw_putRO (L' := [(0, .inr (5, [.null, .ref 134]))]) (j := 0) (i := 133) (ci := 5) (jf := 1) _ dX5_init_12 rfl rfl fX5_12 (by decide) rfl rfl rfl tyX5 tyX5_ok nmX5 rfl (fun _ => rfl) (fun _ => rfl) rfl (Nat.le_of_ble_eq_true rfl) rfl (ex_ov (by simp) (ex_in rfl rfl)) hC (fun hC => ?_)
  refine aw_aload_n dX5_init_15 rfl ?_
  refine aw_aload_n dX5_init_16 rfl ?_
  refine aw_putRO (L' := [(0, .inr (5, [.ref 0, .ref 134]))]) (j := 0) (i := 133) (ci := 5) (jf := 0) _ dX5_init_17 rfl rfl fX5_18 (by decide) rfl rfl rfl tyX5 tyX5_ok nmX5 rfl (fun _ => rfl) (fun _ => rfl) rfl (Nat.le_of_ble_eq_true rfl) rfl (ex_ov (by simp) (ex_fl rfl hx)) hC (fun hC => ?_)
  refine aw_vret dX5_init_20 rfl ⟨rfl, ?_, hC⟩
  rw [ov_fill (all_c rfl all_n)]
  simp only [fill_fill]
  exact fill_congr (fun i => Bool.eq_iff_iff.mpr (by simp only [ks, rg, List.any_cons, List.any_nil, Bool.or_eq_true, nb_i, decide_eq_true_eq, Bool.false_eq_true, or_false]; omega))

set_option maxHeartbeats 4000000 in
set_option maxRecDepth 100000 in
theorem kX3_init {h : ah} (hC : Clo h) (h0 : h 138 = some (.inr (3, [.null, .null, .null, .null, .null, .null, .null, .int 0]))) (hz : ∀ i, 138 < i → i < 148 → h i = none) (hx : ∃ y, h 0 = some y) : AC mX3_init 2 false (FN h (rg 138 10)) 9 1306 [.ref 138, .ref 0] h := by
  show AW mX3_init 2 false (FN h (rg 138 10)) 9 1306 0 [(0, .ref 138), (1, .ref 0)] [] h
  refine ov_start (b := 138) (j := 0) (i := 138) rfl h0 hC (fun hC => ?_)
  refine aw_aload_n dX3_init_0 rfl ?_
  refine aw_objInit dX3_init_1 (by decide +kernel) (by decide) (Nat.le_of_ble_eq_true rfl) ?_
  refine aw_aload_n dX3_init_4 rfl ?_
  refine aw_newO (j := 1) (i := 139) (ci := 6) (N := 8) (fs := [.null, .null, .null, .int 0, .int 0, .int 0, .int 0, .int 0]) dX3_init_5 rfl rfl (tbk1 174 rfl) (tbk1 125 rfl) (tbk1 5 rfl) tyX6 tyX6_ok (by decide) (fun _ => rfl) (by simp) rfl (hz _ (by decide) (by decide)) (by decide) (by simp) (by simp) (Nat.le_of_ble_eq_true rfl) (Nat.le_of_ble_eq_true rfl) hC (fun hC => ?_)
  refine aw_dup dX3_init_8 rfl ?_
  refine aw_ctorN (j := 1) (i := 139) (P := rg 139 4) (M' := mX6_init) (as := []) dX3_init_9 lX3_13 oX6_init iX6_init rfl rfl rfl (kX6_init_139 hC (ov_at (j := 1) rfl) (fun i h1 h2 => ov_is (by simp <;> omega) (hz i (by omega) (by omega)))) rfl rfl (Nat.le_of_ble_eq_true rfl) (by decide) (Nat.le_of_ble_eq_true rfl) (Nat.le_of_ble_eq_true rfl) (Nat.le_of_ble_eq_true rfl) rfl (hs_1 (by decide)) rfl (okv_r (ex_at (j := 1) rfl rfl) (okv_r (ex_at (j := 0) rfl rfl) okv_n)) (okv_r (ex_at (j := 0) rfl rfl) (okv_r (ex_ov (by simp) hx) okv_n)) (fun hC => ?_)
  refine aw_putRO (L' := [(0, .inr (3, [.null, .ref 139, .null, .null, .null, .null, .null, .int 0]))]) (j := 0) (i := 138) (ci := 3) (jf := 1) _ dX3_init_12 rfl rfl fX3_14 (by decide) rfl rfl rfl tyX3 tyX3_ok nmX3 rfl (fun _ => rfl) (fun _ => rfl) rfl (Nat.le_of_ble_eq_true rfl) rfl (ex_ov (by simp) (ex_in rfl rfl)) hC (fun hC => ?_)
  refine aw_aload_n dX3_init_15 rfl ?_
  refine aw_sipush (v := 256) dX3_init_16 (by decide) ?_
  refine aw_newI (j := 5) (i := 143) (N := 256) dX3_init_19 rfl (by decide) (by decide) (by decide) rfl (fill_no rfl (hz _ (by decide) (by decide))) (by decide) (by simp) (by simp) (Nat.le_of_ble_eq_true rfl) (Nat.le_of_ble_eq_true rfl) hC (fun hC => ?_)
  refine aw_putRO (L' := [(5, .inl (0, 256, .inl z0)), (0, .inr (3, [.null, .ref 139, .ref 143, .null, .null, .null, .null, .int 0]))]) (j := 0) (i := 138) (ci := 3) (jf := 2) _ dX3_init_21 rfl rfl fX3_18 (by decide) rfl rfl rfl tyX3 tyX3_ok nmX3 rfl (fun _ => rfl) (fun _ => rfl) rfl (Nat.le_of_ble_eq_true rfl) rfl (ex_at (j := 5) rfl rfl) hC (fun hC => ?_)
  refine aw_aload_n dX3_init_24 rfl ?_
  refine aw_sipush (v := 256) dX3_init_25 (by decide) ?_
  refine aw_newZ (j := 6) (i := 144) (N := 256) dX3_init_28 rfl (by decide) (by decide) (by decide) rfl (fill_no rfl (hz _ (by decide) (by decide))) (by decide) (by simp) (by simp) (Nat.le_of_ble_eq_true rfl) (Nat.le_of_ble_eq_true rfl) hC (fun hC => ?_)
  refine aw_putRO (L' := [(6, .inl (2, 256, .inl z0)), (5, .inl (0, 256, .inl z0)), (0, .inr (3, [.null, .ref 139, .ref 143, .ref 144, .null, .null, .null, .int 0]))]) (j := 0) (i := 138) (ci := 3) (jf := 3) _ dX3_init_30 rfl rfl fX3_22 (by decide) rfl rfl rfl tyX3 tyX3_ok nmX3 rfl (fun _ => rfl) (fun _ => rfl) rfl (Nat.le_of_ble_eq_true rfl) rfl (ex_at (j := 6) rfl rfl) hC (fun hC => ?_)
  refine aw_aload_n dX3_init_33 rfl ?_
  refine aw_sipush (v := 256) dX3_init_34 (by decide) ?_
  refine aw_newL (j := 7) (i := 145) (N := 256) dX3_init_37 rfl (by decide) (by decide) (by decide) rfl (fill_no rfl (hz _ (by decide) (by decide))) (by decide) (by simp) (by simp) (Nat.le_of_ble_eq_true rfl) (Nat.le_of_ble_eq_true rfl) hC (fun hC => ?_)
  refine aw_putRO (L' := [(7, .inl (1, 256, .inr (.inl zL))), (6, .inl (2, 256, .inl z0)), (5, .inl (0, 256, .inl z0)), (0, .inr (3, [.null, .ref 139, .ref 143, .ref 144, .ref 145, .null, .null, .int 0]))]) (j := 0) (i := 138) (ci := 3) (jf := 4) _ dX3_init_39 rfl rfl fX3_26 (by decide) rfl rfl rfl tyX3 tyX3_ok nmX3 rfl (fun _ => rfl) (fun _ => rfl) rfl (Nat.le_of_ble_eq_true rfl) rfl (ex_at (j := 7) rfl rfl) hC (fun hC => ?_)
  refine aw_aload_n dX3_init_42 rfl ?_
  refine aw_sipush (v := 256) dX3_init_43 (by decide) ?_
  refine aw_newI (j := 8) (i := 146) (N := 256) dX3_init_46 rfl (by decide) (by decide) (by decide) rfl (fill_no rfl (hz _ (by decide) (by decide))) (by decide) (by simp) (by simp) (Nat.le_of_ble_eq_true rfl) (Nat.le_of_ble_eq_true rfl) hC (fun hC => ?_)
  refine aw_putRO (L' := [(8, .inl (0, 256, .inl z0)), (7, .inl (1, 256, .inr (.inl zL))), (6, .inl (2, 256, .inl z0)), (5, .inl (0, 256, .inl z0)), (0, .inr (3, [.null, .ref 139, .ref 143, .ref 144, .ref 145, .ref 146, .null, .int 0]))]) (j := 0) (i := 138) (ci := 3) (jf := 5) _ dX3_init_48 rfl rfl fX3_30 (by decide) rfl rfl rfl tyX3 tyX3_ok nmX3 rfl (fun _ => rfl) (fun _ => rfl) rfl (Nat.le_of_ble_eq_true rfl) rfl (ex_at (j := 8) rfl rfl) hC (fun hC => ?_)
  refine aw_aload_n dX3_init_51 rfl ?_
  refine aw_sipush (v := 256) dX3_init_52 (by decide) ?_
  refine aw_newI (j := 9) (i := 147) (N := 256) dX3_init_55 rfl (by decide) (by decide) (by decide) rfl (fill_no rfl (hz _ (by decide) (by decide))) (by decide) (by simp) (by simp) (Nat.le_of_ble_eq_true rfl) (Nat.le_of_ble_eq_true rfl) hC (fun hC => ?_)
  refine aw_putRO (L' := [(9, .inl (0, 256, .inl z0)), (8, .inl (0, 256, .inl z0)), (7, .inl (1, 256, .inr (.inl zL))), (6, .inl (2, 256, .inl z0)), (5, .inl (0, 256, .inl z0)), (0, .inr (3, [.null, .ref 139, .ref 143, .ref 144, .ref 145, .ref 146, .ref 147, .int 0]))]) (j := 0) (i := 138) (ci := 3) (jf := 6) _ dX3_init_57 rfl rfl fX3_33 (by decide) rfl rfl rfl tyX3 tyX3_ok nmX3 rfl (fun _ => rfl) (fun _ => rfl) rfl (Nat.le_of_ble_eq_true rfl) rfl (ex_at (j := 9) rfl rfl) hC (fun hC => ?_)
  refine aw_aload_n dX3_init_60 rfl ?_
  refine aw_aload_n dX3_init_61 rfl ?_
  refine aw_putRO (L' := [(9, .inl (0, 256, .inl z0)), (8, .inl (0, 256, .inl z0)), (7, .inl (1, 256, .inr (.inl zL))), (6, .inl (2, 256, .inl z0)), (5, .inl (0, 256, .inl z0)), (0, .inr (3, [.ref 0, .ref 139, .ref 143, .ref 144, .ref 145, .ref 146, .ref 147, .int 0]))]) (j := 0) (i := 138) (ci := 3) (jf := 0) _ dX3_init_62 rfl rfl fX3_36 (by decide) rfl rfl rfl tyX3 tyX3_ok nmX3 rfl (fun _ => rfl) (fun _ => rfl) rfl (Nat.le_of_ble_eq_true rfl) rfl (ex_ov (by simp) (ex_fl rfl hx)) hC (fun hC => ?_)
  refine aw_vret dX3_init_65 rfl ⟨rfl, ?_, hC⟩
  rw [ov_fill (all_c rfl (all_c rfl (all_c rfl (all_c rfl (all_c rfl (all_c rfl all_n))))))]
  simp only [fill_fill]
  exact fill_congr (fun i => Bool.eq_iff_iff.mpr (by simp only [ks, rg, List.any_cons, List.any_nil, Bool.or_eq_true, nb_i, decide_eq_true_eq, Bool.false_eq_true, or_false]; omega))

set_option maxHeartbeats 4000000 in
set_option maxRecDepth 100000 in
theorem kX2_init {h : ah} (hC : Clo h) (h0 : h 150 = some (.inr (2, [.null, .null, .int 0, .null, .int 0]))) (hz : ∀ i, 150 < i → i < 153 → h i = none) : AC mX2_init 1 false (FN h (rg 150 3)) 2 84 [.ref 150] h := by
  show AW mX2_init 1 false (FN h (rg 150 3)) 2 84 0 [(0, .ref 150)] [] h
  refine ov_start (b := 150) (j := 0) (i := 150) rfl h0 hC (fun hC => ?_)
  refine aw_aload_n dX2_init_0 rfl ?_
  refine aw_objInit dX2_init_1 (by decide +kernel) (by decide) (Nat.le_of_ble_eq_true rfl) ?_
  refine aw_aload_n dX2_init_4 rfl ?_
  refine aw_bipush (v := 80) dX2_init_5 (by decide) ?_
  refine aw_newC (j := 1) (i := 151) (N := 80) dX2_init_7 rfl (by decide) (by decide) (by decide) rfl (hz _ (by decide) (by decide)) (by decide) (by simp) (by simp) (Nat.le_of_ble_eq_true rfl) (Nat.le_of_ble_eq_true rfl) hC (fun hC => ?_)
  refine aw_putRO (L' := [(1, .inl (3, 80, .inl z0)), (0, .inr (2, [.ref 151, .null, .int 0, .null, .int 0]))]) (j := 0) (i := 150) (ci := 2) (jf := 0) _ dX2_init_9 rfl rfl fX2_9 (by decide) rfl rfl rfl tyX2 tyX2_ok nmX2 rfl (fun _ => rfl) (fun _ => rfl) rfl (Nat.le_of_ble_eq_true rfl) rfl (ex_at (j := 1) rfl rfl) hC (fun hC => ?_)
  refine aw_aload_n dX2_init_12 rfl ?_
  refine aw_iconst (v := 4) dX2_init_13 (by decide) ?_
  refine aw_newI (j := 2) (i := 152) (N := 4) dX2_init_14 rfl (by decide) (by decide) (by decide) rfl (hz _ (by decide) (by decide)) (by decide) (by simp) (by simp) (Nat.le_of_ble_eq_true rfl) (Nat.le_of_ble_eq_true rfl) hC (fun hC => ?_)
  refine aw_putRO (L' := [(2, .inl (0, 4, .inl z0)), (1, .inl (3, 80, .inl z0)), (0, .inr (2, [.ref 151, .ref 152, .int 0, .null, .int 0]))]) (j := 0) (i := 150) (ci := 2) (jf := 1) _ dX2_init_16 rfl rfl fX2_13 (by decide) rfl rfl rfl tyX2 tyX2_ok nmX2 rfl (fun _ => rfl) (fun _ => rfl) rfl (Nat.le_of_ble_eq_true rfl) rfl (ex_at (j := 2) rfl rfl) hC (fun hC => ?_)
  refine aw_vret dX2_init_19 rfl ⟨rfl, ?_, hC⟩
  rw [ov_fill (all_c rfl (all_c rfl (all_c rfl all_n)))]
  skip
  exact fill_congr (fun i => Bool.eq_iff_iff.mpr (by simp only [ks, rg, List.any_cons, List.any_nil, Bool.or_eq_true, nb_i, decide_eq_true_eq, Bool.false_eq_true, or_false]; omega))

set_option maxHeartbeats 4000000 in
set_option maxRecDepth 100000 in
theorem kX1_init {h : ah} (hC : Clo h) (h0 : h 148 = some (.inr (1, [.null, .int 0, .int 0]))) (hz : ∀ i, 23 < i → i < 132 → h i = none) (hy : ∀ i, 148 < i → i < 150 → h i = none) : AC mX1_init 3 false (FN h (fun i => rg 24 108 i || rg 148 2 i)) 109 1341 [.ref 148] h := by
  show AW mX1_init 3 false (FN h (fun i => rg 24 108 i || rg 148 2 i)) 109 1341 0 [(0, .ref 148)] [] h
  refine ov_start (b := 0) (j := 148) (i := 148) rfl h0 hC (fun hC => ?_)
  refine aw_aload_n dX1_init_0 rfl ?_
  refine aw_objInit dX1_init_1 (by decide +kernel) (by decide) (Nat.le_of_ble_eq_true rfl) ?_
  refine aw_aload_n dX1_init_4 rfl ?_
  refine aw_bipush (v := 9) dX1_init_5 (by decide) ?_
  refine aw_anewO (j := 149) (i := 149) (t := 5) (N := 9) (C := "LineBalancer$State") dX1_init_7 rfl (tbk1 209 rfl) (by decide +kernel) rfl (by decide) (by decide) (by decide) rfl (hy _ (by decide) (by decide)) (by decide) (by simp) (by simp) (Nat.le_of_ble_eq_true rfl) (Nat.le_of_ble_eq_true rfl) hC (fun hC => ?_)
  refine aw_putRO (L' := [(149, .inl (5, 9, .inr (.inr (.inr (.inr (fun _ => none)))))), (148, .inr (1, [.ref 149, .int 0, .int 0]))]) (j := 148) (i := 148) (ci := 1) (jf := 0) _ dX1_init_10 rfl rfl fX1_11 (by decide) rfl rfl rfl tyX1 tyX1_ok nmX1 rfl (fun _ => rfl) (fun _ => rfl) rfl (Nat.le_of_ble_eq_true rfl) rfl (ex_at (j := 149) rfl rfl) hC (fun hC => ?_)
  refine aw_iconst (v := 0) dX1_init_13 (by decide) ?_
  refine aw_istV (lv' := [(0, .ref 148), (1, .int 0)]) dX1_init_14 (by decide) rfl rfl ?_
  refine aw_iload_n dX1_init_15 rfl ?_
  refine aw_bipush (v := 9) dX1_init_16 (by decide) ?_
  refine aw_icmp_ge 40 dX1_init_18 (by decide) (fun c => absurd c (by decide)) (fun _ => ?_)
  refine aw_aload_n dX1_init_21 rfl ?_
  refine aw_gf dX1_init_22 (ov_at (j := 148) rfl) rfl fX1_11 (by decide) rfl ?_
  refine aw_iload_n dX1_init_25 rfl ?_
  refine aw_newO (j := 24) (i := 24) (ci := 4) (N := 13) (fs := [.int 0, .int 0, .null, .null, .null, .null, .null, .null, .null, .null, .null, .null, .null]) dX1_init_26 rfl rfl (tbk1 209 rfl) (tbk1 38 rfl) (tbk1 2 rfl) tyX4 tyX4_ok (by decide) (fun _ => rfl) (by simp) rfl (hz _ (by decide) (by decide)) (by decide) (by simp) (by simp) (Nat.le_of_ble_eq_true rfl) (Nat.le_of_ble_eq_true rfl) hC (fun hC => ?_)
  refine aw_dup dX1_init_29 rfl ?_
  refine aw_ctor (j := 24) (i := 24) (P := rg 24 12) (M' := mX4_init) (as := []) dX1_init_30 lX1_15 oX4_init iX4_init rfl rfl rfl (kX4_init (b := 24) (a := 2) rfl (by decide) hC (ov_at (j := 24) rfl) (fun i h1 h2 => ov_is (by simp <;> omega) (hz i (by omega) (by omega)))) rfl rfl (Nat.le_of_ble_eq_true rfl) (by decide) (Nat.le_of_ble_eq_true rfl) (Nat.le_of_ble_eq_true rfl) (Nat.le_of_ble_eq_true rfl) rfl (hs_1 (by decide)) rfl (okv_r (ex_at (j := 24) rfl rfl) (okv_i (okv_r (ex_at (j := 149) rfl rfl) okv_n))) (okv_r (ex_at (j := 148) rfl rfl) (okv_i okv_n)) (fun hC => ?_)
  refine aw_aastO (L' := [(149, .inl (5, 9, .inr (.inr (.inr (.inr (va_up (fun _ => none) 0 (some 24))))))), (148, .inr (1, [.ref 149, .int 0, .int 0]))]) (j := 149) (i := 149) (m := 0) dX1_init_33 rfl rfl rfl (by unfold vp_in; decide) (by decide) (any_obj (r := 24) (ci := 4) rfl (ov_is (by simp) ((fill_at (P := rg 24 12) rfl).trans rfl))) (Or.inr (ex_ov (by simp) (ex_in rfl rfl))) rfl hC (fun hC => ?_)
  refine aw_iincV (v := 1) (lv' := [(0, .ref 148), (1, .int 1)]) dX1_init_34 rfl (by decide) (by decide) rfl rfl ?_
  refine aw_goto (tgt := 15) dX1_init_37 (by decide) ?_
  refine aw_iload_n dX1_init_15 rfl ?_
  refine aw_bipush (v := 9) dX1_init_16 (by decide) ?_
  refine aw_icmp_ge 40 dX1_init_18 (by decide) (fun c => absurd c (by decide)) (fun _ => ?_)
  refine aw_aload_n dX1_init_21 rfl ?_
  refine aw_gf dX1_init_22 (ov_at (j := 148) rfl) rfl fX1_11 (by decide) rfl ?_
  refine aw_iload_n dX1_init_25 rfl ?_
  refine aw_newO (j := 36) (i := 36) (ci := 4) (N := 13) (fs := [.int 0, .int 0, .null, .null, .null, .null, .null, .null, .null, .null, .null, .null, .null]) dX1_init_26 rfl rfl (tbk1 209 rfl) (tbk1 38 rfl) (tbk1 2 rfl) tyX4 tyX4_ok (by decide) (fun _ => rfl) (by simp) rfl (fill_no rfl (hz _ (by decide) (by decide))) (by decide) (by simp) (by simp) (Nat.le_of_ble_eq_true rfl) (Nat.le_of_ble_eq_true rfl) hC (fun hC => ?_)
  refine aw_dup dX1_init_29 rfl ?_
  refine aw_ctor (j := 36) (i := 36) (P := rg 36 12) (M' := mX4_init) (as := []) dX1_init_30 lX1_15 oX4_init iX4_init rfl rfl rfl (kX4_init (b := 36) (a := 3) rfl (by decide) hC (ov_at (j := 36) rfl) (fun i h1 h2 => ov_is (by simp <;> omega) (fill_no (rg_f (by omega)) (hz i (by omega) (by omega))))) rfl rfl (Nat.le_of_ble_eq_true rfl) (by decide) (Nat.le_of_ble_eq_true rfl) (Nat.le_of_ble_eq_true rfl) (Nat.le_of_ble_eq_true rfl) rfl (hs_1 (by decide)) rfl (okv_r (ex_at (j := 36) rfl rfl) (okv_i (okv_r (ex_at (j := 149) rfl rfl) okv_n))) (okv_r (ex_at (j := 148) rfl rfl) (okv_i okv_n)) (fun hC => ?_)
  refine aw_aastO (L' := [(149, .inl (5, 9, .inr (.inr (.inr (.inr (va_up (va_up (fun _ => none) 0 (some 24)) 1 (some 36))))))), (148, .inr (1, [.ref 149, .int 0, .int 0]))]) (j := 149) (i := 149) (m := 1) dX1_init_33 rfl rfl rfl (by unfold vp_in; decide) (by decide) (any_obj (r := 36) (ci := 4) rfl (ov_is (by simp) ((fill_at (P := rg 36 12) rfl).trans rfl))) (Or.inr (ex_ov (by simp) (ex_in rfl rfl))) rfl hC (fun hC => ?_)
  refine aw_iincV (v := 2) (lv' := [(0, .ref 148), (1, .int 2)]) dX1_init_34 rfl (by decide) (by decide) rfl rfl ?_
  refine aw_goto (tgt := 15) dX1_init_37 (by decide) ?_
  refine aw_iload_n dX1_init_15 rfl ?_
  refine aw_bipush (v := 9) dX1_init_16 (by decide) ?_
  refine aw_icmp_ge 40 dX1_init_18 (by decide) (fun c => absurd c (by decide)) (fun _ => ?_)
  refine aw_aload_n dX1_init_21 rfl ?_
  refine aw_gf dX1_init_22 (ov_at (j := 148) rfl) rfl fX1_11 (by decide) rfl ?_
  refine aw_iload_n dX1_init_25 rfl ?_
  refine aw_newO (j := 48) (i := 48) (ci := 4) (N := 13) (fs := [.int 0, .int 0, .null, .null, .null, .null, .null, .null, .null, .null, .null, .null, .null]) dX1_init_26 rfl rfl (tbk1 209 rfl) (tbk1 38 rfl) (tbk1 2 rfl) tyX4 tyX4_ok (by decide) (fun _ => rfl) (by simp) rfl (fill_no rfl (fill_no rfl (hz _ (by decide) (by decide)))) (by decide) (by simp) (by simp) (Nat.le_of_ble_eq_true rfl) (Nat.le_of_ble_eq_true rfl) hC (fun hC => ?_)
  refine aw_dup dX1_init_29 rfl ?_
  refine aw_ctor (j := 48) (i := 48) (P := rg 48 12) (M' := mX4_init) (as := []) dX1_init_30 lX1_15 oX4_init iX4_init rfl rfl rfl (kX4_init (b := 48) (a := 4) rfl (by decide) hC (ov_at (j := 48) rfl) (fun i h1 h2 => ov_is (by simp <;> omega) (fill_no (rg_f (by omega)) (fill_no (rg_f (by omega)) (hz i (by omega) (by omega)))))) rfl rfl (Nat.le_of_ble_eq_true rfl) (by decide) (Nat.le_of_ble_eq_true rfl) (Nat.le_of_ble_eq_true rfl) (Nat.le_of_ble_eq_true rfl) rfl (hs_1 (by decide)) rfl (okv_r (ex_at (j := 48) rfl rfl) (okv_i (okv_r (ex_at (j := 149) rfl rfl) okv_n))) (okv_r (ex_at (j := 148) rfl rfl) (okv_i okv_n)) (fun hC => ?_)
  refine aw_aastO (L' := [(149, .inl (5, 9, .inr (.inr (.inr (.inr (va_up (va_up (va_up (fun _ => none) 0 (some 24)) 1 (some 36)) 2 (some 48))))))), (148, .inr (1, [.ref 149, .int 0, .int 0]))]) (j := 149) (i := 149) (m := 2) dX1_init_33 rfl rfl rfl (by unfold vp_in; decide) (by decide) (any_obj (r := 48) (ci := 4) rfl (ov_is (by simp) ((fill_at (P := rg 48 12) rfl).trans rfl))) (Or.inr (ex_ov (by simp) (ex_in rfl rfl))) rfl hC (fun hC => ?_)
  refine aw_iincV (v := 3) (lv' := [(0, .ref 148), (1, .int 3)]) dX1_init_34 rfl (by decide) (by decide) rfl rfl ?_
  refine aw_goto (tgt := 15) dX1_init_37 (by decide) ?_
  refine aw_iload_n dX1_init_15 rfl ?_
  refine aw_bipush (v := 9) dX1_init_16 (by decide) ?_
  refine aw_icmp_ge 40 dX1_init_18 (by decide) (fun c => absurd c (by decide)) (fun _ => ?_)
  refine aw_aload_n dX1_init_21 rfl ?_
  refine aw_gf dX1_init_22 (ov_at (j := 148) rfl) rfl fX1_11 (by decide) rfl ?_
  refine aw_iload_n dX1_init_25 rfl ?_
  refine aw_newO (j := 60) (i := 60) (ci := 4) (N := 13) (fs := [.int 0, .int 0, .null, .null, .null, .null, .null, .null, .null, .null, .null, .null, .null]) dX1_init_26 rfl rfl (tbk1 209 rfl) (tbk1 38 rfl) (tbk1 2 rfl) tyX4 tyX4_ok (by decide) (fun _ => rfl) (by simp) rfl (fill_no rfl (fill_no rfl (fill_no rfl (hz _ (by decide) (by decide))))) (by decide) (by simp) (by simp) (Nat.le_of_ble_eq_true rfl) (Nat.le_of_ble_eq_true rfl) hC (fun hC => ?_)
  refine aw_dup dX1_init_29 rfl ?_
  refine aw_ctor (j := 60) (i := 60) (P := rg 60 12) (M' := mX4_init) (as := []) dX1_init_30 lX1_15 oX4_init iX4_init rfl rfl rfl (kX4_init (b := 60) (a := 5) rfl (by decide) hC (ov_at (j := 60) rfl) (fun i h1 h2 => ov_is (by simp <;> omega) (fill_no (rg_f (by omega)) (fill_no (rg_f (by omega)) (fill_no (rg_f (by omega)) (hz i (by omega) (by omega))))))) rfl rfl (Nat.le_of_ble_eq_true rfl) (by decide) (Nat.le_of_ble_eq_true rfl) (Nat.le_of_ble_eq_true rfl) (Nat.le_of_ble_eq_true rfl) rfl (hs_1 (by decide)) rfl (okv_r (ex_at (j := 60) rfl rfl) (okv_i (okv_r (ex_at (j := 149) rfl rfl) okv_n))) (okv_r (ex_at (j := 148) rfl rfl) (okv_i okv_n)) (fun hC => ?_)
  refine aw_aastO (L' := [(149, .inl (5, 9, .inr (.inr (.inr (.inr (va_up (va_up (va_up (va_up (fun _ => none) 0 (some 24)) 1 (some 36)) 2 (some 48)) 3 (some 60))))))), (148, .inr (1, [.ref 149, .int 0, .int 0]))]) (j := 149) (i := 149) (m := 3) dX1_init_33 rfl rfl rfl (by unfold vp_in; decide) (by decide) (any_obj (r := 60) (ci := 4) rfl (ov_is (by simp) ((fill_at (P := rg 60 12) rfl).trans rfl))) (Or.inr (ex_ov (by simp) (ex_in rfl rfl))) rfl hC (fun hC => ?_)
  refine aw_iincV (v := 4) (lv' := [(0, .ref 148), (1, .int 4)]) dX1_init_34 rfl (by decide) (by decide) rfl rfl ?_
  refine aw_goto (tgt := 15) dX1_init_37 (by decide) ?_
  refine aw_iload_n dX1_init_15 rfl ?_
  refine aw_bipush (v := 9) dX1_init_16 (by decide) ?_
  refine aw_icmp_ge 40 dX1_init_18 (by decide) (fun c => absurd c (by decide)) (fun _ => ?_)
  refine aw_aload_n dX1_init_21 rfl ?_
  refine aw_gf dX1_init_22 (ov_at (j := 148) rfl) rfl fX1_11 (by decide) rfl ?_
  refine aw_iload_n dX1_init_25 rfl ?_
  refine aw_newO (j := 72) (i := 72) (ci := 4) (N := 13) (fs := [.int 0, .int 0, .null, .null, .null, .null, .null, .null, .null, .null, .null, .null, .null]) dX1_init_26 rfl rfl (tbk1 209 rfl) (tbk1 38 rfl) (tbk1 2 rfl) tyX4 tyX4_ok (by decide) (fun _ => rfl) (by simp) rfl (fill_no rfl (fill_no rfl (fill_no rfl (fill_no rfl (hz _ (by decide) (by decide)))))) (by decide) (by simp) (by simp) (Nat.le_of_ble_eq_true rfl) (Nat.le_of_ble_eq_true rfl) hC (fun hC => ?_)
  refine aw_dup dX1_init_29 rfl ?_
  refine aw_ctor (j := 72) (i := 72) (P := rg 72 12) (M' := mX4_init) (as := []) dX1_init_30 lX1_15 oX4_init iX4_init rfl rfl rfl (kX4_init (b := 72) (a := 6) rfl (by decide) hC (ov_at (j := 72) rfl) (fun i h1 h2 => ov_is (by simp <;> omega) (fill_no (rg_f (by omega)) (fill_no (rg_f (by omega)) (fill_no (rg_f (by omega)) (fill_no (rg_f (by omega)) (hz i (by omega) (by omega)))))))) rfl rfl (Nat.le_of_ble_eq_true rfl) (by decide) (Nat.le_of_ble_eq_true rfl) (Nat.le_of_ble_eq_true rfl) (Nat.le_of_ble_eq_true rfl) rfl (hs_1 (by decide)) rfl (okv_r (ex_at (j := 72) rfl rfl) (okv_i (okv_r (ex_at (j := 149) rfl rfl) okv_n))) (okv_r (ex_at (j := 148) rfl rfl) (okv_i okv_n)) (fun hC => ?_)
  refine aw_aastO (L' := [(149, .inl (5, 9, .inr (.inr (.inr (.inr (va_up (va_up (va_up (va_up (va_up (fun _ => none) 0 (some 24)) 1 (some 36)) 2 (some 48)) 3 (some 60)) 4 (some 72))))))), (148, .inr (1, [.ref 149, .int 0, .int 0]))]) (j := 149) (i := 149) (m := 4) dX1_init_33 rfl rfl rfl (by unfold vp_in; decide) (by decide) (any_obj (r := 72) (ci := 4) rfl (ov_is (by simp) ((fill_at (P := rg 72 12) rfl).trans rfl))) (Or.inr (ex_ov (by simp) (ex_in rfl rfl))) rfl hC (fun hC => ?_)
  refine aw_iincV (v := 5) (lv' := [(0, .ref 148), (1, .int 5)]) dX1_init_34 rfl (by decide) (by decide) rfl rfl ?_
  refine aw_goto (tgt := 15) dX1_init_37 (by decide) ?_
  refine aw_iload_n dX1_init_15 rfl ?_
  refine aw_bipush (v := 9) dX1_init_16 (by decide) ?_
  refine aw_icmp_ge 40 dX1_init_18 (by decide) (fun c => absurd c (by decide)) (fun _ => ?_)
  refine aw_aload_n dX1_init_21 rfl ?_
  refine aw_gf dX1_init_22 (ov_at (j := 148) rfl) rfl fX1_11 (by decide) rfl ?_
  refine aw_iload_n dX1_init_25 rfl ?_
  refine aw_newO (j := 84) (i := 84) (ci := 4) (N := 13) (fs := [.int 0, .int 0, .null, .null, .null, .null, .null, .null, .null, .null, .null, .null, .null]) dX1_init_26 rfl rfl (tbk1 209 rfl) (tbk1 38 rfl) (tbk1 2 rfl) tyX4 tyX4_ok (by decide) (fun _ => rfl) (by simp) rfl (fill_no rfl (fill_no rfl (fill_no rfl (fill_no rfl (fill_no rfl (hz _ (by decide) (by decide))))))) (by decide) (by simp) (by simp) (Nat.le_of_ble_eq_true rfl) (Nat.le_of_ble_eq_true rfl) hC (fun hC => ?_)
  refine aw_dup dX1_init_29 rfl ?_
  refine aw_ctor (j := 84) (i := 84) (P := rg 84 12) (M' := mX4_init) (as := []) dX1_init_30 lX1_15 oX4_init iX4_init rfl rfl rfl (kX4_init (b := 84) (a := 7) rfl (by decide) hC (ov_at (j := 84) rfl) (fun i h1 h2 => ov_is (by simp <;> omega) (fill_no (rg_f (by omega)) (fill_no (rg_f (by omega)) (fill_no (rg_f (by omega)) (fill_no (rg_f (by omega)) (fill_no (rg_f (by omega)) (hz i (by omega) (by omega))))))))) rfl rfl (Nat.le_of_ble_eq_true rfl) (by decide) (Nat.le_of_ble_eq_true rfl) (Nat.le_of_ble_eq_true rfl) (Nat.le_of_ble_eq_true rfl) rfl (hs_1 (by decide)) rfl (okv_r (ex_at (j := 84) rfl rfl) (okv_i (okv_r (ex_at (j := 149) rfl rfl) okv_n))) (okv_r (ex_at (j := 148) rfl rfl) (okv_i okv_n)) (fun hC => ?_)
  refine aw_aastO (L' := [(149, .inl (5, 9, .inr (.inr (.inr (.inr (va_up (va_up (va_up (va_up (va_up (va_up (fun _ => none) 0 (some 24)) 1 (some 36)) 2 (some 48)) 3 (some 60)) 4 (some 72)) 5 (some 84))))))), (148, .inr (1, [.ref 149, .int 0, .int 0]))]) (j := 149) (i := 149) (m := 5) dX1_init_33 rfl rfl rfl (by unfold vp_in; decide) (by decide) (any_obj (r := 84) (ci := 4) rfl (ov_is (by simp) ((fill_at (P := rg 84 12) rfl).trans rfl))) (Or.inr (ex_ov (by simp) (ex_in rfl rfl))) rfl hC (fun hC => ?_)
  refine aw_iincV (v := 6) (lv' := [(0, .ref 148), (1, .int 6)]) dX1_init_34 rfl (by decide) (by decide) rfl rfl ?_
  refine aw_goto (tgt := 15) dX1_init_37 (by decide) ?_
  refine aw_iload_n dX1_init_15 rfl ?_
  refine aw_bipush (v := 9) dX1_init_16 (by decide) ?_
  refine aw_icmp_ge 40 dX1_init_18 (by decide) (fun c => absurd c (by decide)) (fun _ => ?_)
  refine aw_aload_n dX1_init_21 rfl ?_
  refine aw_gf dX1_init_22 (ov_at (j := 148) rfl) rfl fX1_11 (by decide) rfl ?_
  refine aw_iload_n dX1_init_25 rfl ?_
  refine aw_newO (j := 96) (i := 96) (ci := 4) (N := 13) (fs := [.int 0, .int 0, .null, .null, .null, .null, .null, .null, .null, .null, .null, .null, .null]) dX1_init_26 rfl rfl (tbk1 209 rfl) (tbk1 38 rfl) (tbk1 2 rfl) tyX4 tyX4_ok (by decide) (fun _ => rfl) (by simp) rfl (fill_no rfl (fill_no rfl (fill_no rfl (fill_no rfl (fill_no rfl (fill_no rfl (hz _ (by decide) (by decide)))))))) (by decide) (by simp) (by simp) (Nat.le_of_ble_eq_true rfl) (Nat.le_of_ble_eq_true rfl) hC (fun hC => ?_)
  refine aw_dup dX1_init_29 rfl ?_
  refine aw_ctor (j := 96) (i := 96) (P := rg 96 12) (M' := mX4_init) (as := []) dX1_init_30 lX1_15 oX4_init iX4_init rfl rfl rfl (kX4_init (b := 96) (a := 8) rfl (by decide) hC (ov_at (j := 96) rfl) (fun i h1 h2 => ov_is (by simp <;> omega) (fill_no (rg_f (by omega)) (fill_no (rg_f (by omega)) (fill_no (rg_f (by omega)) (fill_no (rg_f (by omega)) (fill_no (rg_f (by omega)) (fill_no (rg_f (by omega)) (hz i (by omega) (by omega)))))))))) rfl rfl (Nat.le_of_ble_eq_true rfl) (by decide) (Nat.le_of_ble_eq_true rfl) (Nat.le_of_ble_eq_true rfl) (Nat.le_of_ble_eq_true rfl) rfl (hs_1 (by decide)) rfl (okv_r (ex_at (j := 96) rfl rfl) (okv_i (okv_r (ex_at (j := 149) rfl rfl) okv_n))) (okv_r (ex_at (j := 148) rfl rfl) (okv_i okv_n)) (fun hC => ?_)
  refine aw_aastO (L' := [(149, .inl (5, 9, .inr (.inr (.inr (.inr (va_up (va_up (va_up (va_up (va_up (va_up (va_up (fun _ => none) 0 (some 24)) 1 (some 36)) 2 (some 48)) 3 (some 60)) 4 (some 72)) 5 (some 84)) 6 (some 96))))))), (148, .inr (1, [.ref 149, .int 0, .int 0]))]) (j := 149) (i := 149) (m := 6) dX1_init_33 rfl rfl rfl (by unfold vp_in; decide) (by decide) (any_obj (r := 96) (ci := 4) rfl (ov_is (by simp) ((fill_at (P := rg 96 12) rfl).trans rfl))) (Or.inr (ex_ov (by simp) (ex_in rfl rfl))) rfl hC (fun hC => ?_)
  refine aw_iincV (v := 7) (lv' := [(0, .ref 148), (1, .int 7)]) dX1_init_34 rfl (by decide) (by decide) rfl rfl ?_
  refine aw_goto (tgt := 15) dX1_init_37 (by decide) ?_
  refine aw_iload_n dX1_init_15 rfl ?_
  refine aw_bipush (v := 9) dX1_init_16 (by decide) ?_
  refine aw_icmp_ge 40 dX1_init_18 (by decide) (fun c => absurd c (by decide)) (fun _ => ?_)
  refine aw_aload_n dX1_init_21 rfl ?_
  refine aw_gf dX1_init_22 (ov_at (j := 148) rfl) rfl fX1_11 (by decide) rfl ?_
  refine aw_iload_n dX1_init_25 rfl ?_
  refine aw_newO (j := 108) (i := 108) (ci := 4) (N := 13) (fs := [.int 0, .int 0, .null, .null, .null, .null, .null, .null, .null, .null, .null, .null, .null]) dX1_init_26 rfl rfl (tbk1 209 rfl) (tbk1 38 rfl) (tbk1 2 rfl) tyX4 tyX4_ok (by decide) (fun _ => rfl) (by simp) rfl (fill_no rfl (fill_no rfl (fill_no rfl (fill_no rfl (fill_no rfl (fill_no rfl (fill_no rfl (hz _ (by decide) (by decide))))))))) (by decide) (by simp) (by simp) (Nat.le_of_ble_eq_true rfl) (Nat.le_of_ble_eq_true rfl) hC (fun hC => ?_)
  refine aw_dup dX1_init_29 rfl ?_
  refine aw_ctor (j := 108) (i := 108) (P := rg 108 12) (M' := mX4_init) (as := []) dX1_init_30 lX1_15 oX4_init iX4_init rfl rfl rfl (kX4_init (b := 108) (a := 9) rfl (by decide) hC (ov_at (j := 108) rfl) (fun i h1 h2 => ov_is (by simp <;> omega) (fill_no (rg_f (by omega)) (fill_no (rg_f (by omega)) (fill_no (rg_f (by omega)) (fill_no (rg_f (by omega)) (fill_no (rg_f (by omega)) (fill_no (rg_f (by omega)) (fill_no (rg_f (by omega)) (hz i (by omega) (by omega))))))))))) rfl rfl (Nat.le_of_ble_eq_true rfl) (by decide) (Nat.le_of_ble_eq_true rfl) (Nat.le_of_ble_eq_true rfl) (Nat.le_of_ble_eq_true rfl) rfl (hs_1 (by decide)) rfl (okv_r (ex_at (j := 108) rfl rfl) (okv_i (okv_r (ex_at (j := 149) rfl rfl) okv_n))) (okv_r (ex_at (j := 148) rfl rfl) (okv_i okv_n)) (fun hC => ?_)
  refine aw_aastO (L' := [(149, .inl (5, 9, .inr (.inr (.inr (.inr (va_up (va_up (va_up (va_up (va_up (va_up (va_up (va_up (fun _ => none) 0 (some 24)) 1 (some 36)) 2 (some 48)) 3 (some 60)) 4 (some 72)) 5 (some 84)) 6 (some 96)) 7 (some 108))))))), (148, .inr (1, [.ref 149, .int 0, .int 0]))]) (j := 149) (i := 149) (m := 7) dX1_init_33 rfl rfl rfl (by unfold vp_in; decide) (by decide) (any_obj (r := 108) (ci := 4) rfl (ov_is (by simp) ((fill_at (P := rg 108 12) rfl).trans rfl))) (Or.inr (ex_ov (by simp) (ex_in rfl rfl))) rfl hC (fun hC => ?_)
  refine aw_iincV (v := 8) (lv' := [(0, .ref 148), (1, .int 8)]) dX1_init_34 rfl (by decide) (by decide) rfl rfl ?_
  refine aw_goto (tgt := 15) dX1_init_37 (by decide) ?_
  refine aw_iload_n dX1_init_15 rfl ?_
  refine aw_bipush (v := 9) dX1_init_16 (by decide) ?_
  refine aw_icmp_ge 40 dX1_init_18 (by decide) (fun c => absurd c (by decide)) (fun _ => ?_)
  refine aw_aload_n dX1_init_21 rfl ?_
  refine aw_gf dX1_init_22 (ov_at (j := 148) rfl) rfl fX1_11 (by decide) rfl ?_
  refine aw_iload_n dX1_init_25 rfl ?_
  refine aw_newO (j := 120) (i := 120) (ci := 4) (N := 13) (fs := [.int 0, .int 0, .null, .null, .null, .null, .null, .null, .null, .null, .null, .null, .null]) dX1_init_26 rfl rfl (tbk1 209 rfl) (tbk1 38 rfl) (tbk1 2 rfl) tyX4 tyX4_ok (by decide) (fun _ => rfl) (by simp) rfl (fill_no rfl (fill_no rfl (fill_no rfl (fill_no rfl (fill_no rfl (fill_no rfl (fill_no rfl (fill_no rfl (hz _ (by decide) (by decide)))))))))) (by decide) (by simp) (by simp) (Nat.le_of_ble_eq_true rfl) (Nat.le_of_ble_eq_true rfl) hC (fun hC => ?_)
  refine aw_dup dX1_init_29 rfl ?_
  refine aw_ctor (j := 120) (i := 120) (P := rg 120 12) (M' := mX4_init) (as := []) dX1_init_30 lX1_15 oX4_init iX4_init rfl rfl rfl (kX4_init (b := 120) (a := 10) rfl (by decide) hC (ov_at (j := 120) rfl) (fun i h1 h2 => ov_is (by simp <;> omega) (fill_no (rg_f (by omega)) (fill_no (rg_f (by omega)) (fill_no (rg_f (by omega)) (fill_no (rg_f (by omega)) (fill_no (rg_f (by omega)) (fill_no (rg_f (by omega)) (fill_no (rg_f (by omega)) (fill_no (rg_f (by omega)) (hz i (by omega) (by omega)))))))))))) rfl rfl (Nat.le_of_ble_eq_true rfl) (by decide) (Nat.le_of_ble_eq_true rfl) (Nat.le_of_ble_eq_true rfl) (Nat.le_of_ble_eq_true rfl) rfl (hs_1 (by decide)) rfl (okv_r (ex_at (j := 120) rfl rfl) (okv_i (okv_r (ex_at (j := 149) rfl rfl) okv_n))) (okv_r (ex_at (j := 148) rfl rfl) (okv_i okv_n)) (fun hC => ?_)
  refine aw_aastO (L' := [(149, .inl (5, 9, .inr (.inr (.inr (.inr (va_up (va_up (va_up (va_up (va_up (va_up (va_up (va_up (va_up (fun _ => none) 0 (some 24)) 1 (some 36)) 2 (some 48)) 3 (some 60)) 4 (some 72)) 5 (some 84)) 6 (some 96)) 7 (some 108)) 8 (some 120))))))), (148, .inr (1, [.ref 149, .int 0, .int 0]))]) (j := 149) (i := 149) (m := 8) dX1_init_33 rfl rfl rfl (by unfold vp_in; decide) (by decide) (any_obj (r := 120) (ci := 4) rfl (ov_is (by simp) ((fill_at (P := rg 120 12) rfl).trans rfl))) (Or.inr (ex_ov (by simp) (ex_in rfl rfl))) rfl hC (fun hC => ?_)
  refine aw_iincV (v := 9) (lv' := [(0, .ref 148), (1, .int 9)]) dX1_init_34 rfl (by decide) (by decide) rfl rfl ?_
  refine aw_goto (tgt := 15) dX1_init_37 (by decide) ?_
  refine aw_iload_n dX1_init_15 rfl ?_
  refine aw_bipush (v := 9) dX1_init_16 (by decide) ?_
  refine aw_icmp_ge 40 dX1_init_18 (by decide) (fun _ => ?_) (fun c => absurd (by decide) c)
  refine aw_sameO (L' := [(149, .inl (5, 9, .inr (.inr (.inr (.inr (fun j => some (24 + 12 * j))))))), (148, .inr (1, [.ref 149, .int 0, .int 0]))]) (j := 149) (g := (fun j => some (24 + 12 * j))) rfl (by decide) rfl hC (fun hC => ?_)
  refine aw_vret dX1_init_40 rfl ⟨rfl, ?_, hC⟩
  rw [ov_fill (all_c rfl (all_c rfl all_n))]
  simp only [fill_fill]
  exact fill_congr (fun i => Bool.eq_iff_iff.mpr (by simp only [ks, rg, List.any_cons, List.any_nil, Bool.or_eq_true, nb_i, decide_eq_true_eq, Bool.false_eq_true, or_false]; omega))

set_option maxHeartbeats 4000000 in
set_option maxRecDepth 100000 in
theorem kX7_init {h : ah} (hC : Clo h) (h0 : h 132 = some (.inr (7, [.null, .null, .null, .null, .null, .null, .int 0, .int 0]))) (hz : ∀ i, i < 153 → i ≠ 132 → h i = none) : AC mX7_init 4 false (FN h (rg 0 153)) 152 3071 [.ref 132] h := by
  show AW mX7_init 4 false (FN h (rg 0 153)) 152 3071 0 [(0, .ref 132)] [] h
  refine ov_start (b := 0) (j := 132) (i := 132) rfl h0 hC (fun hC => ?_)
  refine aw_aload_n dX7_init_0 rfl ?_
  refine aw_objInit dX7_init_1 (by decide +kernel) (by decide) (Nat.le_of_ble_eq_true rfl) ?_
  refine aw_aload_n dX7_init_4 rfl ?_
  refine aw_newO (j := 0) (i := 0) (ci := 4) (N := 13) (fs := [.int 0, .int 0, .null, .null, .null, .null, .null, .null, .null, .null, .null, .null, .null]) dX7_init_5 rfl rfl (tbk1 37 rfl) (tbk1 38 rfl) (tbk1 2 rfl) tyX4 tyX4_ok (by decide) (fun _ => rfl) (by simp) rfl (hz _ (by decide) (by decide)) (by decide) (by simp) (by simp) (Nat.le_of_ble_eq_true rfl) (Nat.le_of_ble_eq_true rfl) hC (fun hC => ?_)
  refine aw_dup dX7_init_8 rfl ?_
  refine aw_ctor (j := 0) (i := 0) (P := rg 0 12) (M' := mX4_init) (as := []) dX7_init_9 lX7_11 oX4_init iX4_init rfl rfl rfl (kX4_init (b := 0) (a := 0) rfl (by decide) hC (ov_at (j := 0) rfl) (fun i h1 h2 => ov_is (by simp <;> omega) (hz i (by omega) (by omega)))) rfl rfl (Nat.le_of_ble_eq_true rfl) (by decide) (Nat.le_of_ble_eq_true rfl) (Nat.le_of_ble_eq_true rfl) (Nat.le_of_ble_eq_true rfl) rfl (hs_1 (by decide)) rfl (okv_r (ex_at (j := 0) rfl rfl) (okv_r (ex_at (j := 132) rfl rfl) okv_n)) (okv_r (ex_at (j := 132) rfl rfl) okv_n) (fun hC => ?_)
  refine aw_putRO (L' := [(132, .inr (7, [.ref 0, .null, .null, .null, .null, .null, .int 0, .int 0]))]) (j := 132) (i := 132) (ci := 7) (jf := 0) _ dX7_init_12 rfl rfl fX7_12 (by decide) rfl rfl rfl tyX7 tyX7_ok nmX7 rfl (fun _ => rfl) (fun _ => rfl) rfl (Nat.le_of_ble_eq_true rfl) rfl (ex_ov (by simp) (ex_in rfl rfl)) hC (fun hC => ?_)
  refine aw_aload_n dX7_init_15 rfl ?_
  refine aw_newO (j := 12) (i := 12) (ci := 4) (N := 13) (fs := [.int 0, .int 0, .null, .null, .null, .null, .null, .null, .null, .null, .null, .null, .null]) dX7_init_16 rfl rfl (tbk1 37 rfl) (tbk1 38 rfl) (tbk1 2 rfl) tyX4 tyX4_ok (by decide) (fun _ => rfl) (by simp) rfl (fill_no rfl (hz _ (by decide) (by decide))) (by decide) (by simp) (by simp) (Nat.le_of_ble_eq_true rfl) (Nat.le_of_ble_eq_true rfl) hC (fun hC => ?_)
  refine aw_dup dX7_init_19 rfl ?_
  refine aw_ctor (j := 12) (i := 12) (P := rg 12 12) (M' := mX4_init) (as := []) dX7_init_20 lX7_11 oX4_init iX4_init rfl rfl rfl (kX4_init (b := 12) (a := 1) rfl (by decide) hC (ov_at (j := 12) rfl) (fun i h1 h2 => ov_is (by simp <;> omega) (fill_no (rg_f (by omega)) (hz i (by omega) (by omega))))) rfl rfl (Nat.le_of_ble_eq_true rfl) (by decide) (Nat.le_of_ble_eq_true rfl) (Nat.le_of_ble_eq_true rfl) (Nat.le_of_ble_eq_true rfl) rfl (hs_1 (by decide)) rfl (okv_r (ex_at (j := 12) rfl rfl) (okv_r (ex_at (j := 132) rfl rfl) okv_n)) (okv_r (ex_at (j := 132) rfl rfl) okv_n) (fun hC => ?_)
  refine aw_putRO (L' := [(132, .inr (7, [.ref 0, .ref 12, .null, .null, .null, .null, .int 0, .int 0]))]) (j := 132) (i := 132) (ci := 7) (jf := 1) _ dX7_init_23 rfl rfl fX7_16 (by decide) rfl rfl rfl tyX7 tyX7_ok nmX7 rfl (fun _ => rfl) (fun _ => rfl) rfl (Nat.le_of_ble_eq_true rfl) rfl (ex_ov (by simp) (ex_in rfl rfl)) hC (fun hC => ?_)
  refine aw_aload_n dX7_init_26 rfl ?_
  refine aw_newO (j := 133) (i := 133) (ci := 5) (N := 2) (fs := [.null, .null]) dX7_init_27 rfl rfl (tbk1 118 rfl) (tbk1 119 rfl) (tbk1 4 rfl) tyX5 tyX5_ok (by decide) (fun _ => rfl) (by simp) rfl (fill_no rfl (fill_no rfl (hz _ (by decide) (by decide)))) (by decide) (by simp) (by simp) (Nat.le_of_ble_eq_true rfl) (Nat.le_of_ble_eq_true rfl) hC (fun hC => ?_)
  refine aw_dup dX7_init_30 rfl ?_
  refine aw_aload_n dX7_init_31 rfl ?_
  refine aw_gf dX7_init_32 (ov_at (j := 132) rfl) rfl fX7_12 (by decide) rfl ?_
  refine aw_ctor (j := 133) (i := 133) (P := rg 133 5) (M' := mX5_init) (as := [.ref 0]) dX7_init_35 lX7_21 oX5_init iX5_init rfl rfl rfl (kX5_init hC (ov_at (j := 133) rfl) (fun i h1 h2 => ov_is (by simp <;> omega) (fill_no (rg_f (by omega)) (fill_no (rg_f (by omega)) (hz i (by omega) (by omega))))) (ex_ov (by simp) (ex_fl rfl (ex_in rfl rfl)))) rfl rfl (Nat.le_of_ble_eq_true rfl) (by decide) (Nat.le_of_ble_eq_true rfl) (Nat.le_of_ble_eq_true rfl) (Nat.le_of_ble_eq_true rfl) rfl (hs_1 (by decide)) rfl (okv_r (ex_at (j := 133) rfl rfl) (okv_r (ex_at (j := 132) rfl rfl) okv_n)) (okv_r (ex_at (j := 132) rfl rfl) okv_n) (fun hC => ?_)
  refine aw_putRO (L' := [(132, .inr (7, [.ref 0, .ref 12, .ref 133, .null, .null, .null, .int 0, .int 0]))]) (j := 132) (i := 132) (ci := 7) (jf := 2) _ dX7_init_38 rfl rfl fX7_24 (by decide) rfl rfl rfl tyX7 tyX7_ok nmX7 rfl (fun _ => rfl) (fun _ => rfl) rfl (Nat.le_of_ble_eq_true rfl) rfl (ex_ov (by simp) (ex_in rfl rfl)) hC (fun hC => ?_)
  refine aw_aload_n dX7_init_41 rfl ?_
  refine aw_newO (j := 138) (i := 138) (ci := 3) (N := 8) (fs := [.null, .null, .null, .null, .null, .null, .null, .int 0]) dX7_init_42 rfl rfl (tbk1 168 rfl) (tbk1 169 rfl) (tbk1 6 rfl) tyX3 tyX3_ok (by decide) (fun _ => rfl) (by simp) rfl (fill_no rfl (fill_no rfl (fill_no rfl (hz _ (by decide) (by decide))))) (by decide) (by simp) (by simp) (Nat.le_of_ble_eq_true rfl) (Nat.le_of_ble_eq_true rfl) hC (fun hC => ?_)
  refine aw_dup dX7_init_45 rfl ?_
  refine aw_aload_n dX7_init_46 rfl ?_
  refine aw_gf dX7_init_47 (ov_at (j := 132) rfl) rfl fX7_12 (by decide) rfl ?_
  refine aw_ctor (j := 138) (i := 138) (P := rg 138 10) (M' := mX3_init) (as := [.ref 0]) dX7_init_50 lX7_30 oX3_init iX3_init rfl rfl rfl (kX3_init hC (ov_at (j := 138) rfl) (fun i h1 h2 => ov_is (by simp <;> omega) (fill_no (rg_f (by omega)) (fill_no (rg_f (by omega)) (fill_no (rg_f (by omega)) (hz i (by omega) (by omega)))))) (ex_ov (by simp) (ex_fl rfl (ex_fl rfl (ex_in rfl rfl))))) rfl rfl (Nat.le_of_ble_eq_true rfl) (by decide) (Nat.le_of_ble_eq_true rfl) (Nat.le_of_ble_eq_true rfl) (Nat.le_of_ble_eq_true rfl) rfl (hs_1 (by decide)) rfl (okv_r (ex_at (j := 138) rfl rfl) (okv_r (ex_at (j := 132) rfl rfl) okv_n)) (okv_r (ex_at (j := 132) rfl rfl) okv_n) (fun hC => ?_)
  refine aw_putRO (L' := [(132, .inr (7, [.ref 0, .ref 12, .ref 133, .ref 138, .null, .null, .int 0, .int 0]))]) (j := 132) (i := 132) (ci := 7) (jf := 3) _ dX7_init_53 rfl rfl fX7_31 (by decide) rfl rfl rfl tyX7 tyX7_ok nmX7 rfl (fun _ => rfl) (fun _ => rfl) rfl (Nat.le_of_ble_eq_true rfl) rfl (ex_ov (by simp) (ex_in rfl rfl)) hC (fun hC => ?_)
  refine aw_aload_n dX7_init_56 rfl ?_
  refine aw_newO (j := 148) (i := 148) (ci := 1) (N := 3) (fs := [.null, .int 0, .int 0]) dX7_init_57 rfl rfl (tbk1 203 rfl) (tbk1 204 rfl) (tbk1 7 rfl) tyX1 tyX1_ok (by decide) (fun _ => rfl) (by simp) rfl (fill_no rfl (fill_no rfl (fill_no rfl (fill_no rfl (hz _ (by decide) (by decide)))))) (by decide) (by simp) (by simp) (Nat.le_of_ble_eq_true rfl) (Nat.le_of_ble_eq_true rfl) hC (fun hC => ?_)
  refine aw_dup dX7_init_60 rfl ?_
  refine aw_ctor (j := 148) (i := 148) (P := fun i => rg 24 108 i || rg 148 2 i) (M' := mX1_init) (as := []) dX7_init_61 lX7_37 oX1_init iX1_init rfl rfl rfl (kX1_init hC (ov_at (j := 148) rfl) (fun i h1 h2 => ov_is (by simp <;> omega) (fill_no (rg_f (by omega)) (fill_no (rg_f (by omega)) (fill_no (rg_f (by omega)) (fill_no (rg_f (by omega)) (hz i (by omega) (by omega))))))) (fun i h1 h2 => ov_is (by simp <;> omega) (fill_no (rg_f (by omega)) (fill_no (rg_f (by omega)) (fill_no (rg_f (by omega)) (fill_no (rg_f (by omega)) (hz i (by omega) (by omega)))))))) rfl rfl (Nat.le_of_ble_eq_true rfl) (by decide) (Nat.le_of_ble_eq_true rfl) (Nat.le_of_ble_eq_true rfl) (Nat.le_of_ble_eq_true rfl) rfl (hs_o (hs_1 (by decide)) (hs_1 (by decide))) rfl (okv_r (ex_at (j := 148) rfl rfl) (okv_r (ex_at (j := 132) rfl rfl) okv_n)) (okv_r (ex_at (j := 132) rfl rfl) okv_n) (fun hC => ?_)
  refine aw_putRO (L' := [(132, .inr (7, [.ref 0, .ref 12, .ref 133, .ref 138, .ref 148, .null, .int 0, .int 0]))]) (j := 132) (i := 132) (ci := 7) (jf := 4) _ dX7_init_64 rfl rfl fX7_38 (by decide) rfl rfl rfl tyX7 tyX7_ok nmX7 rfl (fun _ => rfl) (fun _ => rfl) rfl (Nat.le_of_ble_eq_true rfl) rfl (ex_ov (by simp) (ex_in rfl rfl)) hC (fun hC => ?_)
  refine aw_aload_n dX7_init_67 rfl ?_
  refine aw_newO (j := 150) (i := 150) (ci := 2) (N := 5) (fs := [.null, .null, .int 0, .null, .int 0]) dX7_init_68 rfl rfl (tbk1 223 rfl) (tbk1 224 rfl) (tbk1 8 rfl) tyX2 tyX2_ok (by decide) (fun _ => rfl) (by simp) rfl (fill_no rfl (fill_no rfl (fill_no rfl (fill_no rfl (fill_no rfl (hz _ (by decide) (by decide))))))) (by decide) (by simp) (by simp) (Nat.le_of_ble_eq_true rfl) (Nat.le_of_ble_eq_true rfl) hC (fun hC => ?_)
  refine aw_dup dX7_init_71 rfl ?_
  refine aw_ctorN (j := 150) (i := 150) (P := rg 150 3) (M' := mX2_init) (as := []) dX7_init_72 lX7_44 oX2_init iX2_init rfl rfl rfl (kX2_init hC (ov_at (j := 150) rfl) (fun i h1 h2 => ov_is (by simp <;> omega) (fill_no (Bool.or_eq_false_iff.mpr ⟨rg_f (by omega), rg_f (by omega)⟩) (fill_no (rg_f (by omega)) (fill_no (rg_f (by omega)) (fill_no (rg_f (by omega)) (fill_no (rg_f (by omega)) (hz i (by omega) (by omega))))))))) rfl rfl (Nat.le_of_ble_eq_true rfl) (by decide) (Nat.le_of_ble_eq_true rfl) (Nat.le_of_ble_eq_true rfl) (Nat.le_of_ble_eq_true rfl) rfl (hs_1 (by decide)) rfl (okv_r (ex_at (j := 150) rfl rfl) (okv_r (ex_at (j := 132) rfl rfl) okv_n)) (okv_r (ex_at (j := 132) rfl rfl) okv_n) (fun hC => ?_)
  refine aw_putRO (L' := [(132, .inr (7, [.ref 0, .ref 12, .ref 133, .ref 138, .ref 148, .ref 150, .int 0, .int 0]))]) (j := 132) (i := 132) (ci := 7) (jf := 5) _ dX7_init_75 rfl rfl fX7_45 (by decide) rfl rfl rfl tyX7 tyX7_ok nmX7 rfl (fun _ => rfl) (fun _ => rfl) rfl (Nat.le_of_ble_eq_true rfl) rfl (ex_ov (by simp) (ex_in rfl rfl)) hC (fun hC => ?_)
  refine aw_vret dX7_init_78 rfl ⟨rfl, ?_, hC⟩
  rw [ov_fill (all_c rfl all_n)]
  simp only [fill_fill]
  exact fill_congr (fun i => Bool.eq_iff_iff.mpr (by simp only [ks, rg, List.any_cons, List.any_nil, Bool.or_eq_true, nb_i, decide_eq_true_eq, Bool.false_eq_true, or_false]; omega))

set_option maxHeartbeats 4000000 in
set_option maxRecDepth 100000 in
theorem kX8_init {h : ah} (hC : Clo h) (h0 : h 160 = some (.inr (8, [.null, .null, .null, .int 0, .null, .int 0, .int 0, .int 0, .null, .int 0, .null, .null, .null, .null, .null, .null, .null, .int 0, .int 0, .null, .int 0, .null]))) (hz : ∀ i, 160 < i → i < 175 → h i = none) : AC mX8_init 1 false (FN h (rg 160 15)) 14 3157 [.ref 160] h := by
  show AW mX8_init 1 false (FN h (rg 160 15)) 14 3157 0 [(0, .ref 160)] [] h
  refine ov_start (b := 160) (j := 0) (i := 160) rfl h0 hC (fun hC => ?_)
  refine aw_aload_n dX8_init_0 rfl ?_
  refine aw_objInit dX8_init_1 (by decide +kernel) (by decide) (Nat.le_of_ble_eq_true rfl) ?_
  refine aw_aload_n dX8_init_4 rfl ?_
  refine aw_bipush (v := 113) dX8_init_5 (by decide) ?_
  refine aw_newI (j := 1) (i := 161) (N := 113) dX8_init_7 rfl (by decide) (by decide) (by decide) rfl (hz _ (by decide) (by decide)) (by decide) (by simp) (by simp) (Nat.le_of_ble_eq_true rfl) (Nat.le_of_ble_eq_true rfl) hC (fun hC => ?_)
  refine aw_putRO (L' := [(1, .inl (0, 113, .inl z0)), (0, .inr (8, [.ref 161, .null, .null, .int 0, .null, .int 0, .int 0, .int 0, .null, .int 0, .null, .null, .null, .null, .null, .null, .null, .int 0, .int 0, .null, .int 0, .null]))]) (j := 0) (i := 160) (ci := 8) (jf := 0) _ dX8_init_9 rfl rfl fX8_7 (by decide) rfl rfl rfl tyX8 tyX8_ok nmX8 rfl (fun _ => rfl) (fun _ => rfl) rfl (Nat.le_of_ble_eq_true rfl) rfl (ex_at (j := 1) rfl rfl) hC (fun hC => ?_)
  refine aw_aload_n dX8_init_12 rfl ?_
  refine aw_bipush (v := 113) dX8_init_13 (by decide) ?_
  refine aw_newI (j := 2) (i := 162) (N := 113) dX8_init_15 rfl (by decide) (by decide) (by decide) rfl (hz _ (by decide) (by decide)) (by decide) (by simp) (by simp) (Nat.le_of_ble_eq_true rfl) (Nat.le_of_ble_eq_true rfl) hC (fun hC => ?_)
  refine aw_putRO (L' := [(2, .inl (0, 113, .inl z0)), (1, .inl (0, 113, .inl z0)), (0, .inr (8, [.ref 161, .ref 162, .null, .int 0, .null, .int 0, .int 0, .int 0, .null, .int 0, .null, .null, .null, .null, .null, .null, .null, .int 0, .int 0, .null, .int 0, .null]))]) (j := 0) (i := 160) (ci := 8) (jf := 1) _ dX8_init_17 rfl rfl fX8_13 (by decide) rfl rfl rfl tyX8 tyX8_ok nmX8 rfl (fun _ => rfl) (fun _ => rfl) rfl (Nat.le_of_ble_eq_true rfl) rfl (ex_at (j := 2) rfl rfl) hC (fun hC => ?_)
  refine aw_aload_n dX8_init_20 rfl ?_
  refine aw_sipush (v := 904) dX8_init_21 (by decide) ?_
  refine aw_newI (j := 3) (i := 163) (N := 904) dX8_init_24 rfl (by decide) (by decide) (by decide) rfl (hz _ (by decide) (by decide)) (by decide) (by simp) (by simp) (Nat.le_of_ble_eq_true rfl) (Nat.le_of_ble_eq_true rfl) hC (fun hC => ?_)
  refine aw_putRO (L' := [(3, .inl (0, 904, .inl z0)), (2, .inl (0, 113, .inl z0)), (1, .inl (0, 113, .inl z0)), (0, .inr (8, [.ref 161, .ref 162, .ref 163, .int 0, .null, .int 0, .int 0, .int 0, .null, .int 0, .null, .null, .null, .null, .null, .null, .null, .int 0, .int 0, .null, .int 0, .null]))]) (j := 0) (i := 160) (ci := 8) (jf := 2) _ dX8_init_26 rfl rfl fX8_16 (by decide) rfl rfl rfl tyX8 tyX8_ok nmX8 rfl (fun _ => rfl) (fun _ => rfl) rfl (Nat.le_of_ble_eq_true rfl) rfl (ex_at (j := 3) rfl rfl) hC (fun hC => ?_)
  refine aw_aload_n dX8_init_29 rfl ?_
  refine aw_bipush (v := 113) dX8_init_30 (by decide) ?_
  refine aw_newI (j := 4) (i := 164) (N := 113) dX8_init_32 rfl (by decide) (by decide) (by decide) rfl (hz _ (by decide) (by decide)) (by decide) (by simp) (by simp) (Nat.le_of_ble_eq_true rfl) (Nat.le_of_ble_eq_true rfl) hC (fun hC => ?_)
  refine aw_putRO (L' := [(4, .inl (0, 113, .inl z0)), (3, .inl (0, 904, .inl z0)), (2, .inl (0, 113, .inl z0)), (1, .inl (0, 113, .inl z0)), (0, .inr (8, [.ref 161, .ref 162, .ref 163, .int 0, .ref 164, .int 0, .int 0, .int 0, .null, .int 0, .null, .null, .null, .null, .null, .null, .null, .int 0, .int 0, .null, .int 0, .null]))]) (j := 0) (i := 160) (ci := 8) (jf := 4) _ dX8_init_34 rfl rfl fX8_19 (by decide) rfl rfl rfl tyX8 tyX8_ok nmX8 rfl (fun _ => rfl) (fun _ => rfl) rfl (Nat.le_of_ble_eq_true rfl) rfl (ex_at (j := 4) rfl rfl) hC (fun hC => ?_)
  refine aw_aload_n dX8_init_37 rfl ?_
  refine aw_bipush (v := 12) dX8_init_38 (by decide) ?_
  refine aw_newI (j := 5) (i := 165) (N := 12) dX8_init_40 rfl (by decide) (by decide) (by decide) rfl (hz _ (by decide) (by decide)) (by decide) (by simp) (by simp) (Nat.le_of_ble_eq_true rfl) (Nat.le_of_ble_eq_true rfl) hC (fun hC => ?_)
  refine aw_putRO (L' := [(5, .inl (0, 12, .inl z0)), (4, .inl (0, 113, .inl z0)), (3, .inl (0, 904, .inl z0)), (2, .inl (0, 113, .inl z0)), (1, .inl (0, 113, .inl z0)), (0, .inr (8, [.ref 161, .ref 162, .ref 163, .int 0, .ref 164, .int 0, .int 0, .int 0, .ref 165, .int 0, .null, .null, .null, .null, .null, .null, .null, .int 0, .int 0, .null, .int 0, .null]))]) (j := 0) (i := 160) (ci := 8) (jf := 8) _ dX8_init_42 rfl rfl fX8_22 (by decide) rfl rfl rfl tyX8 tyX8_ok nmX8 rfl (fun _ => rfl) (fun _ => rfl) rfl (Nat.le_of_ble_eq_true rfl) rfl (ex_at (j := 5) rfl rfl) hC (fun hC => ?_)
  refine aw_aload_n dX8_init_45 rfl ?_
  refine aw_bipush (v := 12) dX8_init_46 (by decide) ?_
  refine aw_newI (j := 6) (i := 166) (N := 12) dX8_init_48 rfl (by decide) (by decide) (by decide) rfl (hz _ (by decide) (by decide)) (by decide) (by simp) (by simp) (Nat.le_of_ble_eq_true rfl) (Nat.le_of_ble_eq_true rfl) hC (fun hC => ?_)
  refine aw_putRO (L' := [(6, .inl (0, 12, .inl z0)), (5, .inl (0, 12, .inl z0)), (4, .inl (0, 113, .inl z0)), (3, .inl (0, 904, .inl z0)), (2, .inl (0, 113, .inl z0)), (1, .inl (0, 113, .inl z0)), (0, .inr (8, [.ref 161, .ref 162, .ref 163, .int 0, .ref 164, .int 0, .int 0, .int 0, .ref 165, .int 0, .ref 166, .null, .null, .null, .null, .null, .null, .int 0, .int 0, .null, .int 0, .null]))]) (j := 0) (i := 160) (ci := 8) (jf := 10) _ dX8_init_50 rfl rfl fX8_25 (by decide) rfl rfl rfl tyX8 tyX8_ok nmX8 rfl (fun _ => rfl) (fun _ => rfl) rfl (Nat.le_of_ble_eq_true rfl) rfl (ex_at (j := 6) rfl rfl) hC (fun hC => ?_)
  refine aw_aload_n dX8_init_53 rfl ?_
  refine aw_sipush (v := 256) dX8_init_54 (by decide) ?_
  refine aw_newZ (j := 7) (i := 167) (N := 256) dX8_init_57 rfl (by decide) (by decide) (by decide) rfl (hz _ (by decide) (by decide)) (by decide) (by simp) (by simp) (Nat.le_of_ble_eq_true rfl) (Nat.le_of_ble_eq_true rfl) hC (fun hC => ?_)
  refine aw_putRO (L' := [(7, .inl (2, 256, .inl z0)), (6, .inl (0, 12, .inl z0)), (5, .inl (0, 12, .inl z0)), (4, .inl (0, 113, .inl z0)), (3, .inl (0, 904, .inl z0)), (2, .inl (0, 113, .inl z0)), (1, .inl (0, 113, .inl z0)), (0, .inr (8, [.ref 161, .ref 162, .ref 163, .int 0, .ref 164, .int 0, .int 0, .int 0, .ref 165, .int 0, .ref 166, .ref 167, .null, .null, .null, .null, .null, .int 0, .int 0, .null, .int 0, .null]))]) (j := 0) (i := 160) (ci := 8) (jf := 11) _ dX8_init_59 rfl rfl fX8_28 (by decide) rfl rfl rfl tyX8 tyX8_ok nmX8 rfl (fun _ => rfl) (fun _ => rfl) rfl (Nat.le_of_ble_eq_true rfl) rfl (ex_at (j := 7) rfl rfl) hC (fun hC => ?_)
  refine aw_aload_n dX8_init_62 rfl ?_
  refine aw_sipush (v := 1024) dX8_init_63 (by decide) ?_
  refine aw_newZ (j := 8) (i := 168) (N := 1024) dX8_init_66 rfl (by decide) (by decide) (by decide) rfl (hz _ (by decide) (by decide)) (by decide) (by simp) (by simp) (Nat.le_of_ble_eq_true rfl) (Nat.le_of_ble_eq_true rfl) hC (fun hC => ?_)
  refine aw_putRO (L' := [(8, .inl (2, 1024, .inl z0)), (7, .inl (2, 256, .inl z0)), (6, .inl (0, 12, .inl z0)), (5, .inl (0, 12, .inl z0)), (4, .inl (0, 113, .inl z0)), (3, .inl (0, 904, .inl z0)), (2, .inl (0, 113, .inl z0)), (1, .inl (0, 113, .inl z0)), (0, .inr (8, [.ref 161, .ref 162, .ref 163, .int 0, .ref 164, .int 0, .int 0, .int 0, .ref 165, .int 0, .ref 166, .ref 167, .ref 168, .null, .null, .null, .null, .int 0, .int 0, .null, .int 0, .null]))]) (j := 0) (i := 160) (ci := 8) (jf := 12) _ dX8_init_68 rfl rfl fX8_32 (by decide) rfl rfl rfl tyX8 tyX8_ok nmX8 rfl (fun _ => rfl) (fun _ => rfl) rfl (Nat.le_of_ble_eq_true rfl) rfl (ex_at (j := 8) rfl rfl) hC (fun hC => ?_)
  refine aw_aload_n dX8_init_71 rfl ?_
  refine aw_sipush (v := 256) dX8_init_72 (by decide) ?_
  refine aw_newL (j := 9) (i := 169) (N := 256) dX8_init_75 rfl (by decide) (by decide) (by decide) rfl (hz _ (by decide) (by decide)) (by decide) (by simp) (by simp) (Nat.le_of_ble_eq_true rfl) (Nat.le_of_ble_eq_true rfl) hC (fun hC => ?_)
  refine aw_putRO (L' := [(9, .inl (1, 256, .inr (.inl zL))), (8, .inl (2, 1024, .inl z0)), (7, .inl (2, 256, .inl z0)), (6, .inl (0, 12, .inl z0)), (5, .inl (0, 12, .inl z0)), (4, .inl (0, 113, .inl z0)), (3, .inl (0, 904, .inl z0)), (2, .inl (0, 113, .inl z0)), (1, .inl (0, 113, .inl z0)), (0, .inr (8, [.ref 161, .ref 162, .ref 163, .int 0, .ref 164, .int 0, .int 0, .int 0, .ref 165, .int 0, .ref 166, .ref 167, .ref 168, .ref 169, .null, .null, .null, .int 0, .int 0, .null, .int 0, .null]))]) (j := 0) (i := 160) (ci := 8) (jf := 13) _ dX8_init_77 rfl rfl fX8_35 (by decide) rfl rfl rfl tyX8 tyX8_ok nmX8 rfl (fun _ => rfl) (fun _ => rfl) rfl (Nat.le_of_ble_eq_true rfl) rfl (ex_at (j := 9) rfl rfl) hC (fun hC => ?_)
  refine aw_aload_n dX8_init_80 rfl ?_
  refine aw_sipush (v := 256) dX8_init_81 (by decide) ?_
  refine aw_newL (j := 10) (i := 170) (N := 256) dX8_init_84 rfl (by decide) (by decide) (by decide) rfl (hz _ (by decide) (by decide)) (by decide) (by simp) (by simp) (Nat.le_of_ble_eq_true rfl) (Nat.le_of_ble_eq_true rfl) hC (fun hC => ?_)
  refine aw_putRO (L' := [(10, .inl (1, 256, .inr (.inl zL))), (9, .inl (1, 256, .inr (.inl zL))), (8, .inl (2, 1024, .inl z0)), (7, .inl (2, 256, .inl z0)), (6, .inl (0, 12, .inl z0)), (5, .inl (0, 12, .inl z0)), (4, .inl (0, 113, .inl z0)), (3, .inl (0, 904, .inl z0)), (2, .inl (0, 113, .inl z0)), (1, .inl (0, 113, .inl z0)), (0, .inr (8, [.ref 161, .ref 162, .ref 163, .int 0, .ref 164, .int 0, .int 0, .int 0, .ref 165, .int 0, .ref 166, .ref 167, .ref 168, .ref 169, .ref 170, .null, .null, .int 0, .int 0, .null, .int 0, .null]))]) (j := 0) (i := 160) (ci := 8) (jf := 14) _ dX8_init_86 rfl rfl fX8_39 (by decide) rfl rfl rfl tyX8 tyX8_ok nmX8 rfl (fun _ => rfl) (fun _ => rfl) rfl (Nat.le_of_ble_eq_true rfl) rfl (ex_at (j := 10) rfl rfl) hC (fun hC => ?_)
  refine aw_aload_n dX8_init_89 rfl ?_
  refine aw_bipush (v := 8) dX8_init_90 (by decide) ?_
  refine aw_newI (j := 11) (i := 171) (N := 8) dX8_init_92 rfl (by decide) (by decide) (by decide) rfl (hz _ (by decide) (by decide)) (by decide) (by simp) (by simp) (Nat.le_of_ble_eq_true rfl) (Nat.le_of_ble_eq_true rfl) hC (fun hC => ?_)
  refine aw_putRO (L' := [(11, .inl (0, 8, .inl z0)), (10, .inl (1, 256, .inr (.inl zL))), (9, .inl (1, 256, .inr (.inl zL))), (8, .inl (2, 1024, .inl z0)), (7, .inl (2, 256, .inl z0)), (6, .inl (0, 12, .inl z0)), (5, .inl (0, 12, .inl z0)), (4, .inl (0, 113, .inl z0)), (3, .inl (0, 904, .inl z0)), (2, .inl (0, 113, .inl z0)), (1, .inl (0, 113, .inl z0)), (0, .inr (8, [.ref 161, .ref 162, .ref 163, .int 0, .ref 164, .int 0, .int 0, .int 0, .ref 165, .int 0, .ref 166, .ref 167, .ref 168, .ref 169, .ref 170, .ref 171, .null, .int 0, .int 0, .null, .int 0, .null]))]) (j := 0) (i := 160) (ci := 8) (jf := 15) _ dX8_init_94 rfl rfl fX8_42 (by decide) rfl rfl rfl tyX8 tyX8_ok nmX8 rfl (fun _ => rfl) (fun _ => rfl) rfl (Nat.le_of_ble_eq_true rfl) rfl (ex_at (j := 11) rfl rfl) hC (fun hC => ?_)
  refine aw_aload_n dX8_init_97 rfl ?_
  refine aw_bipush (v := 80) dX8_init_98 (by decide) ?_
  refine aw_newC (j := 12) (i := 172) (N := 80) dX8_init_100 rfl (by decide) (by decide) (by decide) rfl (hz _ (by decide) (by decide)) (by decide) (by simp) (by simp) (Nat.le_of_ble_eq_true rfl) (Nat.le_of_ble_eq_true rfl) hC (fun hC => ?_)
  refine aw_putRO (L' := [(12, .inl (3, 80, .inl z0)), (11, .inl (0, 8, .inl z0)), (10, .inl (1, 256, .inr (.inl zL))), (9, .inl (1, 256, .inr (.inl zL))), (8, .inl (2, 1024, .inl z0)), (7, .inl (2, 256, .inl z0)), (6, .inl (0, 12, .inl z0)), (5, .inl (0, 12, .inl z0)), (4, .inl (0, 113, .inl z0)), (3, .inl (0, 904, .inl z0)), (2, .inl (0, 113, .inl z0)), (1, .inl (0, 113, .inl z0)), (0, .inr (8, [.ref 161, .ref 162, .ref 163, .int 0, .ref 164, .int 0, .int 0, .int 0, .ref 165, .int 0, .ref 166, .ref 167, .ref 168, .ref 169, .ref 170, .ref 171, .ref 172, .int 0, .int 0, .null, .int 0, .null]))]) (j := 0) (i := 160) (ci := 8) (jf := 16) _ dX8_init_102 rfl rfl fX8_45 (by decide) rfl rfl rfl tyX8 tyX8_ok nmX8 rfl (fun _ => rfl) (fun _ => rfl) rfl (Nat.le_of_ble_eq_true rfl) rfl (ex_at (j := 12) rfl rfl) hC (fun hC => ?_)
  refine aw_aload_n dX8_init_105 rfl ?_
  refine aw_iconst (v := 4) dX8_init_106 (by decide) ?_
  refine aw_newI (j := 13) (i := 173) (N := 4) dX8_init_107 rfl (by decide) (by decide) (by decide) rfl (hz _ (by decide) (by decide)) (by decide) (by simp) (by simp) (Nat.le_of_ble_eq_true rfl) (Nat.le_of_ble_eq_true rfl) hC (fun hC => ?_)
  refine aw_putRO (L' := [(13, .inl (0, 4, .inl z0)), (12, .inl (3, 80, .inl z0)), (11, .inl (0, 8, .inl z0)), (10, .inl (1, 256, .inr (.inl zL))), (9, .inl (1, 256, .inr (.inl zL))), (8, .inl (2, 1024, .inl z0)), (7, .inl (2, 256, .inl z0)), (6, .inl (0, 12, .inl z0)), (5, .inl (0, 12, .inl z0)), (4, .inl (0, 113, .inl z0)), (3, .inl (0, 904, .inl z0)), (2, .inl (0, 113, .inl z0)), (1, .inl (0, 113, .inl z0)), (0, .inr (8, [.ref 161, .ref 162, .ref 163, .int 0, .ref 164, .int 0, .int 0, .int 0, .ref 165, .int 0, .ref 166, .ref 167, .ref 168, .ref 169, .ref 170, .ref 171, .ref 172, .int 0, .int 0, .ref 173, .int 0, .null]))]) (j := 0) (i := 160) (ci := 8) (jf := 19) _ dX8_init_109 rfl rfl fX8_49 (by decide) rfl rfl rfl tyX8 tyX8_ok nmX8 rfl (fun _ => rfl) (fun _ => rfl) rfl (Nat.le_of_ble_eq_true rfl) rfl (ex_at (j := 13) rfl rfl) hC (fun hC => ?_)
  refine aw_aload_n dX8_init_112 rfl ?_
  refine aw_bipush (v := 6) dX8_init_113 (by decide) ?_
  refine aw_anewO (j := 14) (i := 174) (t := 6) (N := 6) (C := "java/lang/String") dX8_init_115 rfl (tbk5 188 rfl) (by decide +kernel) rfl (by decide) (by decide) (by decide) rfl (hz _ (by decide) (by decide)) (by decide) (by simp) (by simp) (Nat.le_of_ble_eq_true rfl) (Nat.le_of_ble_eq_true rfl) hC (fun hC => ?_)
  refine aw_dup dX8_init_118 rfl ?_
  refine aw_iconst (v := 0) dX8_init_119 (by decide) ?_
  refine aw_ldcS (j := 9) (tx := "task") dX8_init_120 rfl (by decide +kernel) ?_
  refine aw_aastO (L' := [(14, .inl (6, 6, .inr (.inr (.inr (.inr (va_up (fun _ => none) 0 (some 209))))))), (13, .inl (0, 4, .inl z0)), (12, .inl (3, 80, .inl z0)), (11, .inl (0, 8, .inl z0)), (10, .inl (1, 256, .inr (.inl zL))), (9, .inl (1, 256, .inr (.inl zL))), (8, .inl (2, 1024, .inl z0)), (7, .inl (2, 256, .inl z0)), (6, .inl (0, 12, .inl z0)), (5, .inl (0, 12, .inl z0)), (4, .inl (0, 113, .inl z0)), (3, .inl (0, 904, .inl z0)), (2, .inl (0, 113, .inl z0)), (1, .inl (0, 113, .inl z0)), (0, .inr (8, [.ref 161, .ref 162, .ref 163, .int 0, .ref 164, .int 0, .int 0, .int 0, .ref 165, .int 0, .ref 166, .ref 167, .ref 168, .ref 169, .ref 170, .ref 171, .ref 172, .int 0, .int 0, .ref 173, .int 0, .null]))]) (j := 14) (i := 174) (m := 0) dX8_init_122 rfl rfl rfl (by unfold vp_in; decide) (by decide) (any_con (by decide) cc_s0) (Or.inl (by decide)) rfl hC (fun hC => ?_)
  refine aw_dup dX8_init_123 rfl ?_
  refine aw_iconst (v := 1) dX8_init_124 (by decide) ?_
  refine aw_ldcS (j := 10) (tx := "before") dX8_init_125 rfl (by decide +kernel) ?_
  refine aw_aastO (L' := [(14, .inl (6, 6, .inr (.inr (.inr (.inr (va_up (va_up (fun _ => none) 0 (some 209)) 1 (some 210))))))), (13, .inl (0, 4, .inl z0)), (12, .inl (3, 80, .inl z0)), (11, .inl (0, 8, .inl z0)), (10, .inl (1, 256, .inr (.inl zL))), (9, .inl (1, 256, .inr (.inl zL))), (8, .inl (2, 1024, .inl z0)), (7, .inl (2, 256, .inl z0)), (6, .inl (0, 12, .inl z0)), (5, .inl (0, 12, .inl z0)), (4, .inl (0, 113, .inl z0)), (3, .inl (0, 904, .inl z0)), (2, .inl (0, 113, .inl z0)), (1, .inl (0, 113, .inl z0)), (0, .inr (8, [.ref 161, .ref 162, .ref 163, .int 0, .ref 164, .int 0, .int 0, .int 0, .ref 165, .int 0, .ref 166, .ref 167, .ref 168, .ref 169, .ref 170, .ref 171, .ref 172, .int 0, .int 0, .ref 173, .int 0, .null]))]) (j := 14) (i := 174) (m := 1) dX8_init_127 rfl rfl rfl (by unfold vp_in; decide) (by decide) (any_con (by decide) cc_s1) (Or.inl (by decide)) rfl hC (fun hC => ?_)
  refine aw_dup dX8_init_128 rfl ?_
  refine aw_iconst (v := 2) dX8_init_129 (by decide) ?_
  refine aw_ldcS (j := 11) (tx := "apart") dX8_init_130 rfl (by decide +kernel) ?_
  refine aw_aastO (L' := [(14, .inl (6, 6, .inr (.inr (.inr (.inr (va_up (va_up (va_up (fun _ => none) 0 (some 209)) 1 (some 210)) 2 (some 211))))))), (13, .inl (0, 4, .inl z0)), (12, .inl (3, 80, .inl z0)), (11, .inl (0, 8, .inl z0)), (10, .inl (1, 256, .inr (.inl zL))), (9, .inl (1, 256, .inr (.inl zL))), (8, .inl (2, 1024, .inl z0)), (7, .inl (2, 256, .inl z0)), (6, .inl (0, 12, .inl z0)), (5, .inl (0, 12, .inl z0)), (4, .inl (0, 113, .inl z0)), (3, .inl (0, 904, .inl z0)), (2, .inl (0, 113, .inl z0)), (1, .inl (0, 113, .inl z0)), (0, .inr (8, [.ref 161, .ref 162, .ref 163, .int 0, .ref 164, .int 0, .int 0, .int 0, .ref 165, .int 0, .ref 166, .ref 167, .ref 168, .ref 169, .ref 170, .ref 171, .ref 172, .int 0, .int 0, .ref 173, .int 0, .null]))]) (j := 14) (i := 174) (m := 2) dX8_init_132 rfl rfl rfl (by unfold vp_in; decide) (by decide) (any_con (by decide) cc_s2) (Or.inl (by decide)) rfl hC (fun hC => ?_)
  refine aw_dup dX8_init_133 rfl ?_
  refine aw_iconst (v := 3) dX8_init_134 (by decide) ?_
  refine aw_ldcS (j := 12) (tx := "together") dX8_init_135 rfl (by decide +kernel) ?_
  refine aw_aastO (L' := [(14, .inl (6, 6, .inr (.inr (.inr (.inr (va_up (va_up (va_up (va_up (fun _ => none) 0 (some 209)) 1 (some 210)) 2 (some 211)) 3 (some 212))))))), (13, .inl (0, 4, .inl z0)), (12, .inl (3, 80, .inl z0)), (11, .inl (0, 8, .inl z0)), (10, .inl (1, 256, .inr (.inl zL))), (9, .inl (1, 256, .inr (.inl zL))), (8, .inl (2, 1024, .inl z0)), (7, .inl (2, 256, .inl z0)), (6, .inl (0, 12, .inl z0)), (5, .inl (0, 12, .inl z0)), (4, .inl (0, 113, .inl z0)), (3, .inl (0, 904, .inl z0)), (2, .inl (0, 113, .inl z0)), (1, .inl (0, 113, .inl z0)), (0, .inr (8, [.ref 161, .ref 162, .ref 163, .int 0, .ref 164, .int 0, .int 0, .int 0, .ref 165, .int 0, .ref 166, .ref 167, .ref 168, .ref 169, .ref 170, .ref 171, .ref 172, .int 0, .int 0, .ref 173, .int 0, .null]))]) (j := 14) (i := 174) (m := 3) dX8_init_137 rfl rfl rfl (by unfold vp_in; decide) (by decide) (any_con (by decide) cc_s3) (Or.inl (by decide)) rfl hC (fun hC => ?_)
  refine aw_dup dX8_init_138 rfl ?_
  refine aw_iconst (v := 4) dX8_init_139 (by decide) ?_
  refine aw_ldcS (j := 13) (tx := "put") dX8_init_140 rfl (by decide +kernel) ?_
  refine aw_aastO (L' := [(14, .inl (6, 6, .inr (.inr (.inr (.inr (va_up (va_up (va_up (va_up (va_up (fun _ => none) 0 (some 209)) 1 (some 210)) 2 (some 211)) 3 (some 212)) 4 (some 213))))))), (13, .inl (0, 4, .inl z0)), (12, .inl (3, 80, .inl z0)), (11, .inl (0, 8, .inl z0)), (10, .inl (1, 256, .inr (.inl zL))), (9, .inl (1, 256, .inr (.inl zL))), (8, .inl (2, 1024, .inl z0)), (7, .inl (2, 256, .inl z0)), (6, .inl (0, 12, .inl z0)), (5, .inl (0, 12, .inl z0)), (4, .inl (0, 113, .inl z0)), (3, .inl (0, 904, .inl z0)), (2, .inl (0, 113, .inl z0)), (1, .inl (0, 113, .inl z0)), (0, .inr (8, [.ref 161, .ref 162, .ref 163, .int 0, .ref 164, .int 0, .int 0, .int 0, .ref 165, .int 0, .ref 166, .ref 167, .ref 168, .ref 169, .ref 170, .ref 171, .ref 172, .int 0, .int 0, .ref 173, .int 0, .null]))]) (j := 14) (i := 174) (m := 4) dX8_init_142 rfl rfl rfl (by unfold vp_in; decide) (by decide) (any_con (by decide) cc_s4) (Or.inl (by decide)) rfl hC (fun hC => ?_)
  refine aw_dup dX8_init_143 rfl ?_
  refine aw_iconst (v := 5) dX8_init_144 (by decide) ?_
  refine aw_ldcS (j := 14) (tx := "cycle") dX8_init_145 rfl (by decide +kernel) ?_
  refine aw_aastO (L' := [(14, .inl (6, 6, .inr (.inr (.inr (.inr (va_up (va_up (va_up (va_up (va_up (va_up (fun _ => none) 0 (some 209)) 1 (some 210)) 2 (some 211)) 3 (some 212)) 4 (some 213)) 5 (some 214))))))), (13, .inl (0, 4, .inl z0)), (12, .inl (3, 80, .inl z0)), (11, .inl (0, 8, .inl z0)), (10, .inl (1, 256, .inr (.inl zL))), (9, .inl (1, 256, .inr (.inl zL))), (8, .inl (2, 1024, .inl z0)), (7, .inl (2, 256, .inl z0)), (6, .inl (0, 12, .inl z0)), (5, .inl (0, 12, .inl z0)), (4, .inl (0, 113, .inl z0)), (3, .inl (0, 904, .inl z0)), (2, .inl (0, 113, .inl z0)), (1, .inl (0, 113, .inl z0)), (0, .inr (8, [.ref 161, .ref 162, .ref 163, .int 0, .ref 164, .int 0, .int 0, .int 0, .ref 165, .int 0, .ref 166, .ref 167, .ref 168, .ref 169, .ref 170, .ref 171, .ref 172, .int 0, .int 0, .ref 173, .int 0, .null]))]) (j := 14) (i := 174) (m := 5) dX8_init_147 rfl rfl rfl (by unfold vp_in; decide) (by decide) (any_con (by decide) cc_s5) (Or.inl (by decide)) rfl hC (fun hC => ?_)
  refine aw_putRO (L' := [(14, .inl (6, 6, .inr (.inr (.inr (.inr (va_up (va_up (va_up (va_up (va_up (va_up (fun _ => none) 0 (some 209)) 1 (some 210)) 2 (some 211)) 3 (some 212)) 4 (some 213)) 5 (some 214))))))), (13, .inl (0, 4, .inl z0)), (12, .inl (3, 80, .inl z0)), (11, .inl (0, 8, .inl z0)), (10, .inl (1, 256, .inr (.inl zL))), (9, .inl (1, 256, .inr (.inl zL))), (8, .inl (2, 1024, .inl z0)), (7, .inl (2, 256, .inl z0)), (6, .inl (0, 12, .inl z0)), (5, .inl (0, 12, .inl z0)), (4, .inl (0, 113, .inl z0)), (3, .inl (0, 904, .inl z0)), (2, .inl (0, 113, .inl z0)), (1, .inl (0, 113, .inl z0)), (0, .inr (8, [.ref 161, .ref 162, .ref 163, .int 0, .ref 164, .int 0, .int 0, .int 0, .ref 165, .int 0, .ref 166, .ref 167, .ref 168, .ref 169, .ref 170, .ref 171, .ref 172, .int 0, .int 0, .ref 173, .int 0, .ref 174]))]) (j := 0) (i := 160) (ci := 8) (jf := 21) _ dX8_init_148 rfl rfl fX8_66 (by decide) rfl rfl rfl tyX8 tyX8_ok nmX8 rfl (fun _ => rfl) (fun _ => rfl) rfl (Nat.le_of_ble_eq_true rfl) rfl (ex_at (j := 14) rfl rfl) hC (fun hC => ?_)
  refine aw_aload_n dX8_init_151 rfl ?_
  refine aw_gf dX8_init_152 (ov_at (j := 0) rfl) rfl fX8_7 (by decide) rfl ?_
  refine aw_iconst (v := 0) dX8_init_155 (by decide) ?_
  refine aw_iconst (v := 1) dX8_init_156 (by decide) ?_
  refine aw_iastO (L' := [(14, .inl (6, 6, .inr (.inr (.inr (.inr (va_up (va_up (va_up (va_up (va_up (va_up (fun _ => none) 0 (some 209)) 1 (some 210)) 2 (some 211)) 3 (some 212)) 4 (some 213)) 5 (some 214))))))), (13, .inl (0, 4, .inl z0)), (12, .inl (3, 80, .inl z0)), (11, .inl (0, 8, .inl z0)), (10, .inl (1, 256, .inr (.inl zL))), (9, .inl (1, 256, .inr (.inl zL))), (8, .inl (2, 1024, .inl z0)), (7, .inl (2, 256, .inl z0)), (6, .inl (0, 12, .inl z0)), (5, .inl (0, 12, .inl z0)), (4, .inl (0, 113, .inl z0)), (3, .inl (0, 904, .inl z0)), (2, .inl (0, 113, .inl z0)), (1, .inl (0, 113, .inl (upd z0 0 1))), (0, .inr (8, [.ref 161, .ref 162, .ref 163, .int 0, .ref 164, .int 0, .int 0, .int 0, .ref 165, .int 0, .ref 166, .ref 167, .ref 168, .ref 169, .ref 170, .ref 171, .ref 172, .int 0, .int 0, .ref 173, .int 0, .ref 174]))]) (j := 1) (i := 161) (m := 0) dX8_init_157 rfl rfl rfl (by unfold vp_in; decide) (by decide) rfl hC (fun hC => ?_)
  refine aw_iconst (v := 0) dX8_init_158 (by decide) ?_
  refine aw_istV (lv' := [(0, .ref 160), (1, .int 0)]) dX8_init_159 (by decide) rfl rfl ?_
  refine aw_iload_n dX8_init_160 rfl ?_
  refine aw_iconst (v := 3) dX8_init_161 (by decide) ?_
  refine aw_icmp_ge 180 dX8_init_162 (by decide) (fun c => absurd c (by decide)) (fun _ => ?_)
  refine aw_aload_n dX8_init_165 rfl ?_
  refine aw_gf dX8_init_166 (ov_at (j := 0) rfl) rfl fX8_7 (by decide) rfl ?_
  refine aw_iconst (v := 1) dX8_init_169 (by decide) ?_
  refine aw_iload_n dX8_init_170 rfl ?_
  refine aw_iaddV (v := 1) dX8_init_171 (by decide) ?_
  refine aw_iconst (v := 1) dX8_init_172 (by decide) ?_
  refine aw_iastO (L' := [(14, .inl (6, 6, .inr (.inr (.inr (.inr (va_up (va_up (va_up (va_up (va_up (va_up (fun _ => none) 0 (some 209)) 1 (some 210)) 2 (some 211)) 3 (some 212)) 4 (some 213)) 5 (some 214))))))), (13, .inl (0, 4, .inl z0)), (12, .inl (3, 80, .inl z0)), (11, .inl (0, 8, .inl z0)), (10, .inl (1, 256, .inr (.inl zL))), (9, .inl (1, 256, .inr (.inl zL))), (8, .inl (2, 1024, .inl z0)), (7, .inl (2, 256, .inl z0)), (6, .inl (0, 12, .inl z0)), (5, .inl (0, 12, .inl z0)), (4, .inl (0, 113, .inl z0)), (3, .inl (0, 904, .inl z0)), (2, .inl (0, 113, .inl z0)), (1, .inl (0, 113, .inl (upd (upd z0 0 1) 1 1))), (0, .inr (8, [.ref 161, .ref 162, .ref 163, .int 0, .ref 164, .int 0, .int 0, .int 0, .ref 165, .int 0, .ref 166, .ref 167, .ref 168, .ref 169, .ref 170, .ref 171, .ref 172, .int 0, .int 0, .ref 173, .int 0, .ref 174]))]) (j := 1) (i := 161) (m := 1) dX8_init_173 rfl rfl rfl (by unfold vp_in; decide) (by decide) rfl hC (fun hC => ?_)
  refine aw_iincV (v := 1) (lv' := [(0, .ref 160), (1, .int 1)]) dX8_init_174 rfl (by decide) (by decide) rfl rfl ?_
  refine aw_goto (tgt := 160) dX8_init_177 (by decide) ?_
  refine aw_iload_n dX8_init_160 rfl ?_
  refine aw_iconst (v := 3) dX8_init_161 (by decide) ?_
  refine aw_icmp_ge 180 dX8_init_162 (by decide) (fun c => absurd c (by decide)) (fun _ => ?_)
  refine aw_aload_n dX8_init_165 rfl ?_
  refine aw_gf dX8_init_166 (ov_at (j := 0) rfl) rfl fX8_7 (by decide) rfl ?_
  refine aw_iconst (v := 1) dX8_init_169 (by decide) ?_
  refine aw_iload_n dX8_init_170 rfl ?_
  refine aw_iaddV (v := 2) dX8_init_171 (by decide) ?_
  refine aw_iconst (v := 1) dX8_init_172 (by decide) ?_
  refine aw_iastO (L' := [(14, .inl (6, 6, .inr (.inr (.inr (.inr (va_up (va_up (va_up (va_up (va_up (va_up (fun _ => none) 0 (some 209)) 1 (some 210)) 2 (some 211)) 3 (some 212)) 4 (some 213)) 5 (some 214))))))), (13, .inl (0, 4, .inl z0)), (12, .inl (3, 80, .inl z0)), (11, .inl (0, 8, .inl z0)), (10, .inl (1, 256, .inr (.inl zL))), (9, .inl (1, 256, .inr (.inl zL))), (8, .inl (2, 1024, .inl z0)), (7, .inl (2, 256, .inl z0)), (6, .inl (0, 12, .inl z0)), (5, .inl (0, 12, .inl z0)), (4, .inl (0, 113, .inl z0)), (3, .inl (0, 904, .inl z0)), (2, .inl (0, 113, .inl z0)), (1, .inl (0, 113, .inl (upd (upd (upd z0 0 1) 1 1) 2 1))), (0, .inr (8, [.ref 161, .ref 162, .ref 163, .int 0, .ref 164, .int 0, .int 0, .int 0, .ref 165, .int 0, .ref 166, .ref 167, .ref 168, .ref 169, .ref 170, .ref 171, .ref 172, .int 0, .int 0, .ref 173, .int 0, .ref 174]))]) (j := 1) (i := 161) (m := 2) dX8_init_173 rfl rfl rfl (by unfold vp_in; decide) (by decide) rfl hC (fun hC => ?_)
  refine aw_iincV (v := 2) (lv' := [(0, .ref 160), (1, .int 2)]) dX8_init_174 rfl (by decide) (by decide) rfl rfl ?_
  refine aw_goto (tgt := 160) dX8_init_177 (by decide) ?_
  refine aw_iload_n dX8_init_160 rfl ?_
  refine aw_iconst (v := 3) dX8_init_161 (by decide) ?_
  refine aw_icmp_ge 180 dX8_init_162 (by decide) (fun c => absurd c (by decide)) (fun _ => ?_)
  refine aw_aload_n dX8_init_165 rfl ?_
  refine aw_gf dX8_init_166 (ov_at (j := 0) rfl) rfl fX8_7 (by decide) rfl ?_
  refine aw_iconst (v := 1) dX8_init_169 (by decide) ?_
  refine aw_iload_n dX8_init_170 rfl ?_
  refine aw_iaddV (v := 3) dX8_init_171 (by decide) ?_
  refine aw_iconst (v := 1) dX8_init_172 (by decide) ?_
  refine aw_iastO (L' := [(14, .inl (6, 6, .inr (.inr (.inr (.inr (va_up (va_up (va_up (va_up (va_up (va_up (fun _ => none) 0 (some 209)) 1 (some 210)) 2 (some 211)) 3 (some 212)) 4 (some 213)) 5 (some 214))))))), (13, .inl (0, 4, .inl z0)), (12, .inl (3, 80, .inl z0)), (11, .inl (0, 8, .inl z0)), (10, .inl (1, 256, .inr (.inl zL))), (9, .inl (1, 256, .inr (.inl zL))), (8, .inl (2, 1024, .inl z0)), (7, .inl (2, 256, .inl z0)), (6, .inl (0, 12, .inl z0)), (5, .inl (0, 12, .inl z0)), (4, .inl (0, 113, .inl z0)), (3, .inl (0, 904, .inl z0)), (2, .inl (0, 113, .inl z0)), (1, .inl (0, 113, .inl (upd (upd (upd (upd z0 0 1) 1 1) 2 1) 3 1))), (0, .inr (8, [.ref 161, .ref 162, .ref 163, .int 0, .ref 164, .int 0, .int 0, .int 0, .ref 165, .int 0, .ref 166, .ref 167, .ref 168, .ref 169, .ref 170, .ref 171, .ref 172, .int 0, .int 0, .ref 173, .int 0, .ref 174]))]) (j := 1) (i := 161) (m := 3) dX8_init_173 rfl rfl rfl (by unfold vp_in; decide) (by decide) rfl hC (fun hC => ?_)
  refine aw_iincV (v := 3) (lv' := [(0, .ref 160), (1, .int 3)]) dX8_init_174 rfl (by decide) (by decide) rfl rfl ?_
  refine aw_goto (tgt := 160) dX8_init_177 (by decide) ?_
  refine aw_iload_n dX8_init_160 rfl ?_
  refine aw_iconst (v := 3) dX8_init_161 (by decide) ?_
  refine aw_icmp_ge 180 dX8_init_162 (by decide) (fun _ => ?_) (fun c => absurd (by decide) c)
  refine aw_aload_n dX8_init_180 rfl ?_
  refine aw_gf dX8_init_181 (ov_at (j := 0) rfl) rfl fX8_7 (by decide) rfl ?_
  refine aw_iconst (v := 4) dX8_init_184 (by decide) ?_
  refine aw_bipush (v := 60) dX8_init_185 (by decide) ?_
  refine aw_iastO (L' := [(14, .inl (6, 6, .inr (.inr (.inr (.inr (va_up (va_up (va_up (va_up (va_up (va_up (fun _ => none) 0 (some 209)) 1 (some 210)) 2 (some 211)) 3 (some 212)) 4 (some 213)) 5 (some 214))))))), (13, .inl (0, 4, .inl z0)), (12, .inl (3, 80, .inl z0)), (11, .inl (0, 8, .inl z0)), (10, .inl (1, 256, .inr (.inl zL))), (9, .inl (1, 256, .inr (.inl zL))), (8, .inl (2, 1024, .inl z0)), (7, .inl (2, 256, .inl z0)), (6, .inl (0, 12, .inl z0)), (5, .inl (0, 12, .inl z0)), (4, .inl (0, 113, .inl z0)), (3, .inl (0, 904, .inl z0)), (2, .inl (0, 113, .inl z0)), (1, .inl (0, 113, .inl (upd (upd (upd (upd (upd z0 0 1) 1 1) 2 1) 3 1) 4 60))), (0, .inr (8, [.ref 161, .ref 162, .ref 163, .int 0, .ref 164, .int 0, .int 0, .int 0, .ref 165, .int 0, .ref 166, .ref 167, .ref 168, .ref 169, .ref 170, .ref 171, .ref 172, .int 0, .int 0, .ref 173, .int 0, .ref 174]))]) (j := 1) (i := 161) (m := 4) dX8_init_187 rfl rfl rfl (by unfold vp_in; decide) (by decide) rfl hC (fun hC => ?_)
  refine aw_aload_n dX8_init_188 rfl ?_
  refine aw_gf dX8_init_189 (ov_at (j := 0) rfl) rfl fX8_7 (by decide) rfl ?_
  refine aw_iconst (v := 5) dX8_init_192 (by decide) ?_
  refine aw_iconst (v := 2) dX8_init_193 (by decide) ?_
  refine aw_iastO (L' := [(14, .inl (6, 6, .inr (.inr (.inr (.inr (va_up (va_up (va_up (va_up (va_up (va_up (fun _ => none) 0 (some 209)) 1 (some 210)) 2 (some 211)) 3 (some 212)) 4 (some 213)) 5 (some 214))))))), (13, .inl (0, 4, .inl z0)), (12, .inl (3, 80, .inl z0)), (11, .inl (0, 8, .inl z0)), (10, .inl (1, 256, .inr (.inl zL))), (9, .inl (1, 256, .inr (.inl zL))), (8, .inl (2, 1024, .inl z0)), (7, .inl (2, 256, .inl z0)), (6, .inl (0, 12, .inl z0)), (5, .inl (0, 12, .inl z0)), (4, .inl (0, 113, .inl z0)), (3, .inl (0, 904, .inl z0)), (2, .inl (0, 113, .inl z0)), (1, .inl (0, 113, .inl (upd (upd (upd (upd (upd (upd z0 0 1) 1 1) 2 1) 3 1) 4 60) 5 2))), (0, .inr (8, [.ref 161, .ref 162, .ref 163, .int 0, .ref 164, .int 0, .int 0, .int 0, .ref 165, .int 0, .ref 166, .ref 167, .ref 168, .ref 169, .ref 170, .ref 171, .ref 172, .int 0, .int 0, .ref 173, .int 0, .ref 174]))]) (j := 1) (i := 161) (m := 5) dX8_init_194 rfl rfl rfl (by unfold vp_in; decide) (by decide) rfl hC (fun hC => ?_)
  refine aw_aload_n dX8_init_195 rfl ?_
  refine aw_gf dX8_init_196 (ov_at (j := 0) rfl) rfl fX8_7 (by decide) rfl ?_
  refine aw_bipush (v := 6) dX8_init_199 (by decide) ?_
  refine aw_iconst (v := 5) dX8_init_201 (by decide) ?_
  refine aw_iastO (L' := [(14, .inl (6, 6, .inr (.inr (.inr (.inr (va_up (va_up (va_up (va_up (va_up (va_up (fun _ => none) 0 (some 209)) 1 (some 210)) 2 (some 211)) 3 (some 212)) 4 (some 213)) 5 (some 214))))))), (13, .inl (0, 4, .inl z0)), (12, .inl (3, 80, .inl z0)), (11, .inl (0, 8, .inl z0)), (10, .inl (1, 256, .inr (.inl zL))), (9, .inl (1, 256, .inr (.inl zL))), (8, .inl (2, 1024, .inl z0)), (7, .inl (2, 256, .inl z0)), (6, .inl (0, 12, .inl z0)), (5, .inl (0, 12, .inl z0)), (4, .inl (0, 113, .inl z0)), (3, .inl (0, 904, .inl z0)), (2, .inl (0, 113, .inl z0)), (1, .inl (0, 113, .inl (upd (upd (upd (upd (upd (upd (upd z0 0 1) 1 1) 2 1) 3 1) 4 60) 5 2) 6 5))), (0, .inr (8, [.ref 161, .ref 162, .ref 163, .int 0, .ref 164, .int 0, .int 0, .int 0, .ref 165, .int 0, .ref 166, .ref 167, .ref 168, .ref 169, .ref 170, .ref 171, .ref 172, .int 0, .int 0, .ref 173, .int 0, .ref 174]))]) (j := 1) (i := 161) (m := 6) dX8_init_202 rfl rfl rfl (by unfold vp_in; decide) (by decide) rfl hC (fun hC => ?_)
  refine aw_iconst (v := 0) dX8_init_203 (by decide) ?_
  refine aw_istV (lv' := [(0, .ref 160), (1, .int 0)]) dX8_init_204 (by decide) rfl rfl ?_
  refine aw_iload_n dX8_init_205 rfl ?_
  refine aw_bipush (v := 8) dX8_init_206 (by decide) ?_
  refine aw_icmp_ge 227 dX8_init_208 (by decide) (fun c => absurd c (by decide)) (fun _ => ?_)
  refine aw_aload_n dX8_init_211 rfl ?_
  refine aw_gf dX8_init_212 (ov_at (j := 0) rfl) rfl fX8_7 (by decide) rfl ?_
  refine aw_bipush (v := 8) dX8_init_215 (by decide) ?_
  refine aw_iload_n dX8_init_217 rfl ?_
  refine aw_iaddV (v := 8) dX8_init_218 (by decide) ?_
  refine aw_iconst (v := 1) dX8_init_219 (by decide) ?_
  refine aw_iastO (L' := [(14, .inl (6, 6, .inr (.inr (.inr (.inr (va_up (va_up (va_up (va_up (va_up (va_up (fun _ => none) 0 (some 209)) 1 (some 210)) 2 (some 211)) 3 (some 212)) 4 (some 213)) 5 (some 214))))))), (13, .inl (0, 4, .inl z0)), (12, .inl (3, 80, .inl z0)), (11, .inl (0, 8, .inl z0)), (10, .inl (1, 256, .inr (.inl zL))), (9, .inl (1, 256, .inr (.inl zL))), (8, .inl (2, 1024, .inl z0)), (7, .inl (2, 256, .inl z0)), (6, .inl (0, 12, .inl z0)), (5, .inl (0, 12, .inl z0)), (4, .inl (0, 113, .inl z0)), (3, .inl (0, 904, .inl z0)), (2, .inl (0, 113, .inl z0)), (1, .inl (0, 113, .inl (upd (upd (upd (upd (upd (upd (upd (upd z0 0 1) 1 1) 2 1) 3 1) 4 60) 5 2) 6 5) 8 1))), (0, .inr (8, [.ref 161, .ref 162, .ref 163, .int 0, .ref 164, .int 0, .int 0, .int 0, .ref 165, .int 0, .ref 166, .ref 167, .ref 168, .ref 169, .ref 170, .ref 171, .ref 172, .int 0, .int 0, .ref 173, .int 0, .ref 174]))]) (j := 1) (i := 161) (m := 8) dX8_init_220 rfl rfl rfl (by unfold vp_in; decide) (by decide) rfl hC (fun hC => ?_)
  refine aw_iincV (v := 1) (lv' := [(0, .ref 160), (1, .int 1)]) dX8_init_221 rfl (by decide) (by decide) rfl rfl ?_
  refine aw_goto (tgt := 205) dX8_init_224 (by decide) ?_
  refine aw_iload_n dX8_init_205 rfl ?_
  refine aw_bipush (v := 8) dX8_init_206 (by decide) ?_
  refine aw_icmp_ge 227 dX8_init_208 (by decide) (fun c => absurd c (by decide)) (fun _ => ?_)
  refine aw_aload_n dX8_init_211 rfl ?_
  refine aw_gf dX8_init_212 (ov_at (j := 0) rfl) rfl fX8_7 (by decide) rfl ?_
  refine aw_bipush (v := 8) dX8_init_215 (by decide) ?_
  refine aw_iload_n dX8_init_217 rfl ?_
  refine aw_iaddV (v := 9) dX8_init_218 (by decide) ?_
  refine aw_iconst (v := 1) dX8_init_219 (by decide) ?_
  refine aw_iastO (L' := [(14, .inl (6, 6, .inr (.inr (.inr (.inr (va_up (va_up (va_up (va_up (va_up (va_up (fun _ => none) 0 (some 209)) 1 (some 210)) 2 (some 211)) 3 (some 212)) 4 (some 213)) 5 (some 214))))))), (13, .inl (0, 4, .inl z0)), (12, .inl (3, 80, .inl z0)), (11, .inl (0, 8, .inl z0)), (10, .inl (1, 256, .inr (.inl zL))), (9, .inl (1, 256, .inr (.inl zL))), (8, .inl (2, 1024, .inl z0)), (7, .inl (2, 256, .inl z0)), (6, .inl (0, 12, .inl z0)), (5, .inl (0, 12, .inl z0)), (4, .inl (0, 113, .inl z0)), (3, .inl (0, 904, .inl z0)), (2, .inl (0, 113, .inl z0)), (1, .inl (0, 113, .inl (upd (upd (upd (upd (upd (upd (upd (upd (upd z0 0 1) 1 1) 2 1) 3 1) 4 60) 5 2) 6 5) 8 1) 9 1))), (0, .inr (8, [.ref 161, .ref 162, .ref 163, .int 0, .ref 164, .int 0, .int 0, .int 0, .ref 165, .int 0, .ref 166, .ref 167, .ref 168, .ref 169, .ref 170, .ref 171, .ref 172, .int 0, .int 0, .ref 173, .int 0, .ref 174]))]) (j := 1) (i := 161) (m := 9) dX8_init_220 rfl rfl rfl (by unfold vp_in; decide) (by decide) rfl hC (fun hC => ?_)
  refine aw_iincV (v := 2) (lv' := [(0, .ref 160), (1, .int 2)]) dX8_init_221 rfl (by decide) (by decide) rfl rfl ?_
  refine aw_goto (tgt := 205) dX8_init_224 (by decide) ?_
  refine aw_iload_n dX8_init_205 rfl ?_
  refine aw_bipush (v := 8) dX8_init_206 (by decide) ?_
  refine aw_icmp_ge 227 dX8_init_208 (by decide) (fun c => absurd c (by decide)) (fun _ => ?_)
  refine aw_aload_n dX8_init_211 rfl ?_
  refine aw_gf dX8_init_212 (ov_at (j := 0) rfl) rfl fX8_7 (by decide) rfl ?_
  refine aw_bipush (v := 8) dX8_init_215 (by decide) ?_
  refine aw_iload_n dX8_init_217 rfl ?_
  refine aw_iaddV (v := 10) dX8_init_218 (by decide) ?_
  refine aw_iconst (v := 1) dX8_init_219 (by decide) ?_
  refine aw_iastO (L' := [(14, .inl (6, 6, .inr (.inr (.inr (.inr (va_up (va_up (va_up (va_up (va_up (va_up (fun _ => none) 0 (some 209)) 1 (some 210)) 2 (some 211)) 3 (some 212)) 4 (some 213)) 5 (some 214))))))), (13, .inl (0, 4, .inl z0)), (12, .inl (3, 80, .inl z0)), (11, .inl (0, 8, .inl z0)), (10, .inl (1, 256, .inr (.inl zL))), (9, .inl (1, 256, .inr (.inl zL))), (8, .inl (2, 1024, .inl z0)), (7, .inl (2, 256, .inl z0)), (6, .inl (0, 12, .inl z0)), (5, .inl (0, 12, .inl z0)), (4, .inl (0, 113, .inl z0)), (3, .inl (0, 904, .inl z0)), (2, .inl (0, 113, .inl z0)), (1, .inl (0, 113, .inl (upd (upd (upd (upd (upd (upd (upd (upd (upd (upd z0 0 1) 1 1) 2 1) 3 1) 4 60) 5 2) 6 5) 8 1) 9 1) 10 1))), (0, .inr (8, [.ref 161, .ref 162, .ref 163, .int 0, .ref 164, .int 0, .int 0, .int 0, .ref 165, .int 0, .ref 166, .ref 167, .ref 168, .ref 169, .ref 170, .ref 171, .ref 172, .int 0, .int 0, .ref 173, .int 0, .ref 174]))]) (j := 1) (i := 161) (m := 10) dX8_init_220 rfl rfl rfl (by unfold vp_in; decide) (by decide) rfl hC (fun hC => ?_)
  refine aw_iincV (v := 3) (lv' := [(0, .ref 160), (1, .int 3)]) dX8_init_221 rfl (by decide) (by decide) rfl rfl ?_
  refine aw_goto (tgt := 205) dX8_init_224 (by decide) ?_
  refine aw_iload_n dX8_init_205 rfl ?_
  refine aw_bipush (v := 8) dX8_init_206 (by decide) ?_
  refine aw_icmp_ge 227 dX8_init_208 (by decide) (fun c => absurd c (by decide)) (fun _ => ?_)
  refine aw_aload_n dX8_init_211 rfl ?_
  refine aw_gf dX8_init_212 (ov_at (j := 0) rfl) rfl fX8_7 (by decide) rfl ?_
  refine aw_bipush (v := 8) dX8_init_215 (by decide) ?_
  refine aw_iload_n dX8_init_217 rfl ?_
  refine aw_iaddV (v := 11) dX8_init_218 (by decide) ?_
  refine aw_iconst (v := 1) dX8_init_219 (by decide) ?_
  refine aw_iastO (L' := [(14, .inl (6, 6, .inr (.inr (.inr (.inr (va_up (va_up (va_up (va_up (va_up (va_up (fun _ => none) 0 (some 209)) 1 (some 210)) 2 (some 211)) 3 (some 212)) 4 (some 213)) 5 (some 214))))))), (13, .inl (0, 4, .inl z0)), (12, .inl (3, 80, .inl z0)), (11, .inl (0, 8, .inl z0)), (10, .inl (1, 256, .inr (.inl zL))), (9, .inl (1, 256, .inr (.inl zL))), (8, .inl (2, 1024, .inl z0)), (7, .inl (2, 256, .inl z0)), (6, .inl (0, 12, .inl z0)), (5, .inl (0, 12, .inl z0)), (4, .inl (0, 113, .inl z0)), (3, .inl (0, 904, .inl z0)), (2, .inl (0, 113, .inl z0)), (1, .inl (0, 113, .inl (upd (upd (upd (upd (upd (upd (upd (upd (upd (upd (upd z0 0 1) 1 1) 2 1) 3 1) 4 60) 5 2) 6 5) 8 1) 9 1) 10 1) 11 1))), (0, .inr (8, [.ref 161, .ref 162, .ref 163, .int 0, .ref 164, .int 0, .int 0, .int 0, .ref 165, .int 0, .ref 166, .ref 167, .ref 168, .ref 169, .ref 170, .ref 171, .ref 172, .int 0, .int 0, .ref 173, .int 0, .ref 174]))]) (j := 1) (i := 161) (m := 11) dX8_init_220 rfl rfl rfl (by unfold vp_in; decide) (by decide) rfl hC (fun hC => ?_)
  refine aw_iincV (v := 4) (lv' := [(0, .ref 160), (1, .int 4)]) dX8_init_221 rfl (by decide) (by decide) rfl rfl ?_
  refine aw_goto (tgt := 205) dX8_init_224 (by decide) ?_
  refine aw_iload_n dX8_init_205 rfl ?_
  refine aw_bipush (v := 8) dX8_init_206 (by decide) ?_
  refine aw_icmp_ge 227 dX8_init_208 (by decide) (fun c => absurd c (by decide)) (fun _ => ?_)
  refine aw_aload_n dX8_init_211 rfl ?_
  refine aw_gf dX8_init_212 (ov_at (j := 0) rfl) rfl fX8_7 (by decide) rfl ?_
  refine aw_bipush (v := 8) dX8_init_215 (by decide) ?_
  refine aw_iload_n dX8_init_217 rfl ?_
  refine aw_iaddV (v := 12) dX8_init_218 (by decide) ?_
  refine aw_iconst (v := 1) dX8_init_219 (by decide) ?_
  refine aw_iastO (L' := [(14, .inl (6, 6, .inr (.inr (.inr (.inr (va_up (va_up (va_up (va_up (va_up (va_up (fun _ => none) 0 (some 209)) 1 (some 210)) 2 (some 211)) 3 (some 212)) 4 (some 213)) 5 (some 214))))))), (13, .inl (0, 4, .inl z0)), (12, .inl (3, 80, .inl z0)), (11, .inl (0, 8, .inl z0)), (10, .inl (1, 256, .inr (.inl zL))), (9, .inl (1, 256, .inr (.inl zL))), (8, .inl (2, 1024, .inl z0)), (7, .inl (2, 256, .inl z0)), (6, .inl (0, 12, .inl z0)), (5, .inl (0, 12, .inl z0)), (4, .inl (0, 113, .inl z0)), (3, .inl (0, 904, .inl z0)), (2, .inl (0, 113, .inl z0)), (1, .inl (0, 113, .inl (upd (upd (upd (upd (upd (upd (upd (upd (upd (upd (upd (upd z0 0 1) 1 1) 2 1) 3 1) 4 60) 5 2) 6 5) 8 1) 9 1) 10 1) 11 1) 12 1))), (0, .inr (8, [.ref 161, .ref 162, .ref 163, .int 0, .ref 164, .int 0, .int 0, .int 0, .ref 165, .int 0, .ref 166, .ref 167, .ref 168, .ref 169, .ref 170, .ref 171, .ref 172, .int 0, .int 0, .ref 173, .int 0, .ref 174]))]) (j := 1) (i := 161) (m := 12) dX8_init_220 rfl rfl rfl (by unfold vp_in; decide) (by decide) rfl hC (fun hC => ?_)
  refine aw_iincV (v := 5) (lv' := [(0, .ref 160), (1, .int 5)]) dX8_init_221 rfl (by decide) (by decide) rfl rfl ?_
  refine aw_goto (tgt := 205) dX8_init_224 (by decide) ?_
  refine aw_iload_n dX8_init_205 rfl ?_
  refine aw_bipush (v := 8) dX8_init_206 (by decide) ?_
  refine aw_icmp_ge 227 dX8_init_208 (by decide) (fun c => absurd c (by decide)) (fun _ => ?_)
  refine aw_aload_n dX8_init_211 rfl ?_
  refine aw_gf dX8_init_212 (ov_at (j := 0) rfl) rfl fX8_7 (by decide) rfl ?_
  refine aw_bipush (v := 8) dX8_init_215 (by decide) ?_
  refine aw_iload_n dX8_init_217 rfl ?_
  refine aw_iaddV (v := 13) dX8_init_218 (by decide) ?_
  refine aw_iconst (v := 1) dX8_init_219 (by decide) ?_
  refine aw_iastO (L' := [(14, .inl (6, 6, .inr (.inr (.inr (.inr (va_up (va_up (va_up (va_up (va_up (va_up (fun _ => none) 0 (some 209)) 1 (some 210)) 2 (some 211)) 3 (some 212)) 4 (some 213)) 5 (some 214))))))), (13, .inl (0, 4, .inl z0)), (12, .inl (3, 80, .inl z0)), (11, .inl (0, 8, .inl z0)), (10, .inl (1, 256, .inr (.inl zL))), (9, .inl (1, 256, .inr (.inl zL))), (8, .inl (2, 1024, .inl z0)), (7, .inl (2, 256, .inl z0)), (6, .inl (0, 12, .inl z0)), (5, .inl (0, 12, .inl z0)), (4, .inl (0, 113, .inl z0)), (3, .inl (0, 904, .inl z0)), (2, .inl (0, 113, .inl z0)), (1, .inl (0, 113, .inl (upd (upd (upd (upd (upd (upd (upd (upd (upd (upd (upd (upd (upd z0 0 1) 1 1) 2 1) 3 1) 4 60) 5 2) 6 5) 8 1) 9 1) 10 1) 11 1) 12 1) 13 1))), (0, .inr (8, [.ref 161, .ref 162, .ref 163, .int 0, .ref 164, .int 0, .int 0, .int 0, .ref 165, .int 0, .ref 166, .ref 167, .ref 168, .ref 169, .ref 170, .ref 171, .ref 172, .int 0, .int 0, .ref 173, .int 0, .ref 174]))]) (j := 1) (i := 161) (m := 13) dX8_init_220 rfl rfl rfl (by unfold vp_in; decide) (by decide) rfl hC (fun hC => ?_)
  refine aw_iincV (v := 6) (lv' := [(0, .ref 160), (1, .int 6)]) dX8_init_221 rfl (by decide) (by decide) rfl rfl ?_
  refine aw_goto (tgt := 205) dX8_init_224 (by decide) ?_
  refine aw_iload_n dX8_init_205 rfl ?_
  refine aw_bipush (v := 8) dX8_init_206 (by decide) ?_
  refine aw_icmp_ge 227 dX8_init_208 (by decide) (fun c => absurd c (by decide)) (fun _ => ?_)
  refine aw_aload_n dX8_init_211 rfl ?_
  refine aw_gf dX8_init_212 (ov_at (j := 0) rfl) rfl fX8_7 (by decide) rfl ?_
  refine aw_bipush (v := 8) dX8_init_215 (by decide) ?_
  refine aw_iload_n dX8_init_217 rfl ?_
  refine aw_iaddV (v := 14) dX8_init_218 (by decide) ?_
  refine aw_iconst (v := 1) dX8_init_219 (by decide) ?_
  refine aw_iastO (L' := [(14, .inl (6, 6, .inr (.inr (.inr (.inr (va_up (va_up (va_up (va_up (va_up (va_up (fun _ => none) 0 (some 209)) 1 (some 210)) 2 (some 211)) 3 (some 212)) 4 (some 213)) 5 (some 214))))))), (13, .inl (0, 4, .inl z0)), (12, .inl (3, 80, .inl z0)), (11, .inl (0, 8, .inl z0)), (10, .inl (1, 256, .inr (.inl zL))), (9, .inl (1, 256, .inr (.inl zL))), (8, .inl (2, 1024, .inl z0)), (7, .inl (2, 256, .inl z0)), (6, .inl (0, 12, .inl z0)), (5, .inl (0, 12, .inl z0)), (4, .inl (0, 113, .inl z0)), (3, .inl (0, 904, .inl z0)), (2, .inl (0, 113, .inl z0)), (1, .inl (0, 113, .inl (upd (upd (upd (upd (upd (upd (upd (upd (upd (upd (upd (upd (upd (upd z0 0 1) 1 1) 2 1) 3 1) 4 60) 5 2) 6 5) 8 1) 9 1) 10 1) 11 1) 12 1) 13 1) 14 1))), (0, .inr (8, [.ref 161, .ref 162, .ref 163, .int 0, .ref 164, .int 0, .int 0, .int 0, .ref 165, .int 0, .ref 166, .ref 167, .ref 168, .ref 169, .ref 170, .ref 171, .ref 172, .int 0, .int 0, .ref 173, .int 0, .ref 174]))]) (j := 1) (i := 161) (m := 14) dX8_init_220 rfl rfl rfl (by unfold vp_in; decide) (by decide) rfl hC (fun hC => ?_)
  refine aw_iincV (v := 7) (lv' := [(0, .ref 160), (1, .int 7)]) dX8_init_221 rfl (by decide) (by decide) rfl rfl ?_
  refine aw_goto (tgt := 205) dX8_init_224 (by decide) ?_
  refine aw_iload_n dX8_init_205 rfl ?_
  refine aw_bipush (v := 8) dX8_init_206 (by decide) ?_
  refine aw_icmp_ge 227 dX8_init_208 (by decide) (fun c => absurd c (by decide)) (fun _ => ?_)
  refine aw_aload_n dX8_init_211 rfl ?_
  refine aw_gf dX8_init_212 (ov_at (j := 0) rfl) rfl fX8_7 (by decide) rfl ?_
  refine aw_bipush (v := 8) dX8_init_215 (by decide) ?_
  refine aw_iload_n dX8_init_217 rfl ?_
  refine aw_iaddV (v := 15) dX8_init_218 (by decide) ?_
  refine aw_iconst (v := 1) dX8_init_219 (by decide) ?_
  refine aw_iastO (L' := [(14, .inl (6, 6, .inr (.inr (.inr (.inr (va_up (va_up (va_up (va_up (va_up (va_up (fun _ => none) 0 (some 209)) 1 (some 210)) 2 (some 211)) 3 (some 212)) 4 (some 213)) 5 (some 214))))))), (13, .inl (0, 4, .inl z0)), (12, .inl (3, 80, .inl z0)), (11, .inl (0, 8, .inl z0)), (10, .inl (1, 256, .inr (.inl zL))), (9, .inl (1, 256, .inr (.inl zL))), (8, .inl (2, 1024, .inl z0)), (7, .inl (2, 256, .inl z0)), (6, .inl (0, 12, .inl z0)), (5, .inl (0, 12, .inl z0)), (4, .inl (0, 113, .inl z0)), (3, .inl (0, 904, .inl z0)), (2, .inl (0, 113, .inl z0)), (1, .inl (0, 113, .inl (upd (upd (upd (upd (upd (upd (upd (upd (upd (upd (upd (upd (upd (upd (upd z0 0 1) 1 1) 2 1) 3 1) 4 60) 5 2) 6 5) 8 1) 9 1) 10 1) 11 1) 12 1) 13 1) 14 1) 15 1))), (0, .inr (8, [.ref 161, .ref 162, .ref 163, .int 0, .ref 164, .int 0, .int 0, .int 0, .ref 165, .int 0, .ref 166, .ref 167, .ref 168, .ref 169, .ref 170, .ref 171, .ref 172, .int 0, .int 0, .ref 173, .int 0, .ref 174]))]) (j := 1) (i := 161) (m := 15) dX8_init_220 rfl rfl rfl (by unfold vp_in; decide) (by decide) rfl hC (fun hC => ?_)
  refine aw_iincV (v := 8) (lv' := [(0, .ref 160), (1, .int 8)]) dX8_init_221 rfl (by decide) (by decide) rfl rfl ?_
  refine aw_goto (tgt := 205) dX8_init_224 (by decide) ?_
  refine aw_iload_n dX8_init_205 rfl ?_
  refine aw_bipush (v := 8) dX8_init_206 (by decide) ?_
  refine aw_icmp_ge 227 dX8_init_208 (by decide) (fun _ => ?_) (fun c => absurd (by decide) c)
  refine aw_sameO (L' := [(14, .inl (6, 6, .inr (.inr (.inr (.inr (fun j => some (209 + j))))))), (13, .inl (0, 4, .inl z0)), (12, .inl (3, 80, .inl z0)), (11, .inl (0, 8, .inl z0)), (10, .inl (1, 256, .inr (.inl zL))), (9, .inl (1, 256, .inr (.inl zL))), (8, .inl (2, 1024, .inl z0)), (7, .inl (2, 256, .inl z0)), (6, .inl (0, 12, .inl z0)), (5, .inl (0, 12, .inl z0)), (4, .inl (0, 113, .inl z0)), (3, .inl (0, 904, .inl z0)), (2, .inl (0, 113, .inl z0)), (1, .inl (0, 113, .inl (upd (upd (upd (upd (upd (upd (upd (upd (upd (upd (upd (upd (upd (upd (upd z0 0 1) 1 1) 2 1) 3 1) 4 60) 5 2) 6 5) 8 1) 9 1) 10 1) 11 1) 12 1) 13 1) 14 1) 15 1))), (0, .inr (8, [.ref 161, .ref 162, .ref 163, .int 0, .ref 164, .int 0, .int 0, .int 0, .ref 165, .int 0, .ref 166, .ref 167, .ref 168, .ref 169, .ref 170, .ref 171, .ref 172, .int 0, .int 0, .ref 173, .int 0, .ref 174]))]) (j := 14) (g := (fun j => some (209 + j))) rfl (by decide) rfl hC (fun hC => ?_)
  refine aw_vret dX8_init_227 rfl ⟨rfl, ?_, hC⟩
  rw [ov_fill (all_c rfl (all_c rfl (all_c rfl (all_c rfl (all_c rfl (all_c rfl (all_c rfl (all_c rfl (all_c rfl (all_c rfl (all_c rfl (all_c rfl (all_c rfl (all_c rfl (all_c rfl all_n)))))))))))))))]
  skip
  exact fill_congr (fun i => Bool.eq_iff_iff.mpr (by simp only [ks, rg, List.any_cons, List.any_nil, Bool.or_eq_true, nb_i, decide_eq_true_eq, Bool.false_eq_true, or_false]; omega))
