set_option maxHeartbeats 4000000 in
set_option maxRecDepth 100000 in
theorem kX8_behind {q : St} {d : Dt} (hr : RR (d.1 161) q) (ok : QOK q) {t : Nat} (ht : t < 12) : CP mX8_behind 3 [.ref 160, .int (nI t)] d (nI (q 9 t)) := by
  show AW mX8_behind 3 true (PIx (fun y d' => y = nI (q 9 t) ∧ d' = d) nX) 0 0 0 [(0, .ref 160), (1, .int (nI t))] [] (HP d)
  obtain ⟨⟨okM1, okM2⟩, okn, -⟩ := id ok
  have hp12 := pow12 okn
  refine aw_iconst (v := 0) dX8_behind_0 (by decide) ?_
  refine aw_istore_n dX8_behind_1 (by decide) rfl ?_
  refine aw_iconst (v := 0) dX8_behind_2 (by decide) ?_
  refine aw_istore_n dX8_behind_3 (by decide) rfl ?_
  have L4 : ∀ j, j ≤ q 0 1 → ∀ (v1 v2 : Int32), v1 = nI (oN j (fun k => if (q 8 k).testBit t = true then 2 ^ k else 0)) → v2 = nI j → AW mX8_behind 3 true (PIx (fun y d' => y = nI (q 9 t) ∧ d' = d) nX) 0 0 4 [(0, .ref 160), (1, .int (nI t)), (2, .int v1), (3, .int v2)] [] (HP d) := by
    refine up_ind (fun j hj ih => ?_)
    rintro _ _ rfl rfl
    refine aw_iload_n dX8_behind_4 rfl ?_
    refine aw_aload_n dX8_behind_5 rfl ?_
    refine aw_gf dX8_behind_6 (hp_160 _) rfl fX8_7 (by decide) rfl ?_
    refine aw_bipush (v := 16) dX8_behind_9 (by decide) ?_
    refine aw_ialdN dX8_behind_11 (hp_161 _) rfl (16) (by first | rfl | (simp only [li_0, li_1, li_2, li_3, li_4, li_5, li_7, li_8, li_9, li_11, li_12, li_16, li_17, li_31, li_32, li_60, li_77, li_80, li_89, li_99, li_101, li_112, li_113, li_256, li_999, li_1023, nI_add, pk_mul])) (by omega) (by decide) ?_
    refine aw_icmp_ge 43 dX8_behind_12 (by decide) (fun c12 => ?_) (fun c12 => ?_)
    · have hge : q 0 1 ≤ j := (le_nI hr.1.2 rfl (by omega) (by omega)).mp c12
      have hj2 : j = q 0 1 := by omega
      subst hj2
      refine aw_iload_n dX8_behind_43 rfl ?_
      exact aw_endI dX8_behind_44 rfl ⟨by rw [← q9_eq ok ht], rfl⟩
    · have hlt : j < q 0 1 := Nat.lt_of_not_le (fun z => c12 ((le_nI hr.1.2 rfl (by omega) (by omega)).mpr z))
      have h8 := q8_lt ok (show j < 12 by omega)
      refine aw_iload_n dX8_behind_15 rfl ?_
      refine aw_aload_n dX8_behind_16 rfl ?_
      refine aw_iload_n dX8_behind_17 rfl ?_
      refine aw_cVP dX8_behind_18 oX8_aheadOf vX8_aheadOf rfl lX8_130 (kX8_aheadOf hr ok (t := j) (by omega)) rfl (hp_160 _) rfl rfl rfl (Nat.le_of_ble_eq_true rfl) (by decide) (Nat.le_of_ble_eq_true rfl) ?_
      refine aw_iload_n dX8_behind_21 rfl ?_
      refine aw_cSP dX8_behind_22 oX8_has sX8_has rfl lX8_127 kX8_has rfl rfl (Nat.le_of_ble_eq_true rfl) (by decide) (Nat.le_of_ble_eq_true rfl) ?_
      refine aw_if_eq 34 dX8_behind_25 (by decide) (fun c25 => ?_) (fun c25 => ?_)
      · refine aw_iconst (v := 0) dX8_behind_34 (by decide) ?_
        refine aw_ior dX8_behind_35 ?_
        refine aw_istore_n dX8_behind_36 (by decide) rfl ?_
        refine aw_inc (c := 1) dX8_behind_37 (by decide) rfl (by decide) rfl ?_
        refine aw_goto (tgt := 4) dX8_behind_40 (by decide) ?_
        exact ih hlt _ _ (by rw [hb_nI (by omega) (by omega)] at c25; (first | (rw [b2i_eq] at c25) | (rw [b2i_ne] at c25)); simp only [oN, c25]; (first | (rw [nI_sh1 j (by omega), nI_or]; rfl) | (rw [show (0 : Int32) = nI 0 from rfl, nI_or]; rfl))) (nI_1 j)
      · refine aw_iconst (v := 1) dX8_behind_28 (by decide) ?_
        refine aw_iload_n dX8_behind_29 rfl ?_
        refine aw_ishl dX8_behind_30 ?_
        refine aw_goto (tgt := 35) dX8_behind_31 (by decide) ?_
        refine aw_ior dX8_behind_35 ?_
        refine aw_istore_n dX8_behind_36 (by decide) rfl ?_
        refine aw_inc (c := 1) dX8_behind_37 (by decide) rfl (by decide) rfl ?_
        refine aw_goto (tgt := 4) dX8_behind_40 (by decide) ?_
        exact ih hlt _ _ (by rw [hb_nI (by omega) (by omega)] at c25; (first | (rw [b2i_eq] at c25) | (rw [b2i_ne] at c25)); simp only [oN, c25]; (first | (rw [nI_sh1 j (by omega), nI_or]; rfl) | (rw [show (0 : Int32) = nI 0 from rfl, nI_or]; rfl))) (nI_1 j)
  exact L4 0 (Nat.zero_le _) _ _ rfl rfl

set_option maxHeartbeats 4000000 in
set_option maxRecDepth 100000 in
theorem kX8_pairOf {q : St} {d : Dt} (hr : RR (d.1 161) q) (ok : QOK q) {t u : Nat} (ht : t < 12) (hu : u < 12) : CP mX8_pairOf 2 [.ref 160, .int (nI t), .int (nI u)] d (nI (pk q t u)) := by
  show AW mX8_pairOf 2 true (PIx (fun y d' => y = nI (pk q t u) ∧ d' = d) nX) 0 0 0 [(0, .ref 160), (1, .int (nI t)), (2, .int (nI u))] [] (HP d)
  obtain ⟨⟨okM1, okM2⟩, okn, -⟩ := id ok
  have hp12 := pow12 okn
  have hq := ok.2.2.2.2.2.2.2.2.1 t ht
  refine aw_aload_n dX8_pairOf_0 rfl ?_
  refine aw_gf dX8_pairOf_1 (hp_160 _) rfl fX8_7 (by decide) rfl ?_
  refine aw_bipush (v := 89) dX8_pairOf_4 (by decide) ?_
  refine aw_iload_n dX8_pairOf_6 rfl ?_
  refine aw_iadd dX8_pairOf_7 ?_
  refine aw_ialdN dX8_pairOf_8 (hp_161 _) rfl (89 + t) (by first | rfl | (simp only [li_0, li_1, li_2, li_3, li_4, li_5, li_7, li_8, li_9, li_11, li_12, li_16, li_17, li_31, li_32, li_60, li_77, li_80, li_89, li_99, li_101, li_112, li_113, li_256, li_999, li_1023, nI_add, pk_mul])) (by omega) (by decide) ?_
  refine aw_iload_n dX8_pairOf_9 rfl ?_
  refine aw_cSP dX8_pairOf_10 oX8_has sX8_has rfl lX8_127 kX8_has rfl rfl (Nat.le_of_ble_eq_true rfl) (by decide) (Nat.le_of_ble_eq_true rfl) ?_
  refine aw_if_eq 20 dX8_pairOf_13 (by decide) (fun c13 => ?_) (fun c13 => ?_)
  · refine aw_aload_n dX8_pairOf_20 rfl ?_
    refine aw_gf dX8_pairOf_21 (hp_160 _) rfl fX8_7 (by decide) rfl ?_
    refine aw_bipush (v := 101) dX8_pairOf_24 (by decide) ?_
    refine aw_iload_n dX8_pairOf_26 rfl ?_
    refine aw_iadd dX8_pairOf_27 ?_
    refine aw_ialdN dX8_pairOf_28 (hp_161 _) rfl (101 + t) (by first | rfl | (simp only [li_0, li_1, li_2, li_3, li_4, li_5, li_7, li_8, li_9, li_11, li_12, li_16, li_17, li_31, li_32, li_60, li_77, li_80, li_89, li_99, li_101, li_112, li_113, li_256, li_999, li_1023, nI_add, pk_mul])) (by omega) (by decide) ?_
    refine aw_iload_n dX8_pairOf_29 rfl ?_
    refine aw_cSP dX8_pairOf_30 oX8_has sX8_has rfl lX8_127 kX8_has rfl rfl (Nat.le_of_ble_eq_true rfl) (by decide) (Nat.le_of_ble_eq_true rfl) ?_
    refine aw_if_eq 40 dX8_pairOf_33 (by decide) (fun c33 => ?_) (fun c33 => ?_)
    · refine aw_iconst (v := 0) dX8_pairOf_40 (by decide) ?_
      exact aw_endI dX8_pairOf_41 rfl ⟨by rw [(hr.2.2.2.2.2 t ht).2.1] at c13; rw [hb_nI (by omega) (by omega)] at c13; (first | (rw [b2i_eq] at c13) | (rw [b2i_ne] at c13)); simp only [pk, c13]; (first | rfl | (rw [(hr.2.2.2.2.2 t ht).2.2] at c33; rw [hb_nI (by omega) (by omega)] at c33; (first | (rw [b2i_eq] at c33) | (rw [b2i_ne] at c33)); simp only [c33]; rfl)), rfl⟩
    · refine aw_iconst (v := 2) dX8_pairOf_36 (by decide) ?_
      refine aw_goto (tgt := 41) dX8_pairOf_37 (by decide) ?_
      exact aw_endI dX8_pairOf_41 rfl ⟨by rw [(hr.2.2.2.2.2 t ht).2.1] at c13; rw [hb_nI (by omega) (by omega)] at c13; (first | (rw [b2i_eq] at c13) | (rw [b2i_ne] at c13)); simp only [pk, c13]; (first | rfl | (rw [(hr.2.2.2.2.2 t ht).2.2] at c33; rw [hb_nI (by omega) (by omega)] at c33; (first | (rw [b2i_eq] at c33) | (rw [b2i_ne] at c33)); simp only [c33]; rfl)), rfl⟩
  · refine aw_iconst (v := 1) dX8_pairOf_16 (by decide) ?_
    refine aw_goto (tgt := 41) dX8_pairOf_17 (by decide) ?_
    exact aw_endI dX8_pairOf_41 rfl ⟨by rw [(hr.2.2.2.2.2 t ht).2.1] at c13; rw [hb_nI (by omega) (by omega)] at c13; (first | (rw [b2i_eq] at c13) | (rw [b2i_ne] at c13)); simp only [pk, c13]; (first | rfl | (rw [(hr.2.2.2.2.2 t ht).2.2] at c33; rw [hb_nI (by omega) (by omega)] at c33; (first | (rw [b2i_eq] at c33) | (rw [b2i_ne] at c33)); simp only [c33]; rfl)), rfl⟩

set_option maxHeartbeats 4000000 in
set_option maxRecDepth 100000 in
theorem kX8_inStation {q : St} {d : Dt} (hr : RR (d.1 161) q) (ok : QOK q) {s : Nat} (hs : s < 8) : CP mX8_inStation 2 [.ref 160, .int (nI s)] d (nI (stn q s)) := by
  show AW mX8_inStation 2 true (PIx (fun y d' => y = nI (stn q s) ∧ d' = d) nX) 0 0 0 [(0, .ref 160), (1, .int (nI s))] [] (HP d)
  obtain ⟨⟨okM1, okM2⟩, okn, -⟩ := id ok
  refine aw_iconst (v := 0) dX8_inStation_0 (by decide) ?_
  refine aw_istore_n dX8_inStation_1 (by decide) rfl ?_
  refine aw_iconst (v := 0) dX8_inStation_2 (by decide) ?_
  refine aw_istore_n dX8_inStation_3 (by decide) rfl ?_
  have L4 : ∀ j, j ≤ q 0 1 → ∀ (v1 v2 : Int32), v1 = nI (oN j (fun t => if q 6 t = s + 1 then 2 ^ t else 0)) → v2 = nI j → AW mX8_inStation 2 true (PIx (fun y d' => y = nI (stn q s) ∧ d' = d) nX) 0 0 4 [(0, .ref 160), (1, .int (nI s)), (2, .int v1), (3, .int v2)] [] (HP d) := by
    refine up_ind (fun j hj ih => ?_)
    rintro _ _ rfl rfl
    refine aw_iload_n dX8_inStation_4 rfl ?_
    refine aw_aload_n dX8_inStation_5 rfl ?_
    refine aw_gf dX8_inStation_6 (hp_160 _) rfl fX8_7 (by decide) rfl ?_
    refine aw_bipush (v := 16) dX8_inStation_9 (by decide) ?_
    refine aw_ialdN dX8_inStation_11 (hp_161 _) rfl (16) (by first | rfl | (simp only [li_0, li_1, li_2, li_3, li_4, li_5, li_7, li_8, li_9, li_11, li_12, li_16, li_17, li_31, li_32, li_60, li_77, li_80, li_89, li_99, li_101, li_112, li_113, li_256, li_999, li_1023, nI_add, pk_mul])) (by omega) (by decide) ?_
    refine aw_icmp_ge 41 dX8_inStation_12 (by decide) (fun c12 => ?_) (fun c12 => ?_)
    · have hge : q 0 1 ≤ j := (le_nI hr.1.2 rfl (by omega) (by omega)).mp c12
      have hj2 : j = q 0 1 := by omega
      subst hj2
      refine aw_iload_n dX8_inStation_41 rfl ?_
      exact aw_endI dX8_inStation_42 rfl ⟨by rw [← stn_eq ok s], rfl⟩
    · have hlt : j < q 0 1 := Nat.lt_of_not_le (fun z => c12 ((le_nI hr.1.2 rfl (by omega) (by omega)).mpr z))
      refine aw_iload_n dX8_inStation_15 rfl ?_
      refine aw_aload_n dX8_inStation_16 rfl ?_
      refine aw_iload_n dX8_inStation_17 rfl ?_
      refine aw_iconst (v := 4) dX8_inStation_18 (by decide) ?_
      refine aw_cVP dX8_inStation_19 oX8_of vX8_of rfl lX8_124 (kX8_of (t := j) (w := 4) (by omega) (by omega)) rfl (hp_160 _) rfl rfl rfl (Nat.le_of_ble_eq_true rfl) (by decide) (Nat.le_of_ble_eq_true rfl) ?_
      refine aw_iload_n dX8_inStation_22 rfl ?_
      refine aw_icmp_ne 32 dX8_inStation_23 (by decide) (fun c23 => ?_) (fun c23 => ?_)
      · refine aw_iconst (v := 0) dX8_inStation_32 (by decide) ?_
        refine aw_ior dX8_inStation_33 ?_
        refine aw_istore_n dX8_inStation_34 (by decide) rfl ?_
        refine aw_inc (c := 1) dX8_inStation_35 (by decide) rfl (by decide) rfl ?_
        refine aw_goto (tgt := 4) dX8_inStation_38 (by decide) ?_
        exact ih hlt _ _ (by rw [(hr.2.2.2.2.1 j hlt).2.2, pv_nI (ok.2.2.2.2.2.2.1 j (by omega)).2 (by omega)] at c23; simp only [oN, c23]; (first | (rw [nI_sh1 j (by omega), nI_or]; rfl) | (rw [show (0 : Int32) = nI 0 from rfl, nI_or]; rfl))) (nI_1 j)
      · refine aw_iconst (v := 1) dX8_inStation_26 (by decide) ?_
        refine aw_iload_n dX8_inStation_27 rfl ?_
        refine aw_ishl dX8_inStation_28 ?_
        refine aw_goto (tgt := 33) dX8_inStation_29 (by decide) ?_
        refine aw_ior dX8_inStation_33 ?_
        refine aw_istore_n dX8_inStation_34 (by decide) rfl ?_
        refine aw_inc (c := 1) dX8_inStation_35 (by decide) rfl (by decide) rfl ?_
        refine aw_goto (tgt := 4) dX8_inStation_38 (by decide) ?_
        exact ih hlt _ _ (by rw [(hr.2.2.2.2.1 j hlt).2.2, pv_nI (ok.2.2.2.2.2.2.1 j (by omega)).2 (by omega)] at c23; simp only [oN, c23]; (first | (rw [nI_sh1 j (by omega), nI_or]; rfl) | (rw [show (0 : Int32) = nI 0 from rfl, nI_or]; rfl))) (nI_1 j)
  exact L4 0 (Nat.zero_le _) _ _ rfl rfl

set_option maxHeartbeats 4000000 in
set_option maxRecDepth 100000 in
theorem kX8_toolsOf {q : St} {d : Dt} (hr : RR (d.1 161) q) (ok : QOK q) {S : Nat} (hS : S < 2 ^ q 0 1) : CP mX8_toolsOf 2 [.ref 160, .int (nI S)] d (nI (tls q S)) := by
  show AW mX8_toolsOf 2 true (PIx (fun y d' => y = nI (tls q S) ∧ d' = d) nX) 0 0 0 [(0, .ref 160), (1, .int (nI S))] [] (HP d)
  obtain ⟨⟨okM1, okM2⟩, okn, -⟩ := id ok
  have hp12 := pow12 okn
  refine aw_iconst (v := 0) dX8_toolsOf_0 (by decide) ?_
  refine aw_istore_n dX8_toolsOf_1 (by decide) rfl ?_
  refine aw_iconst (v := 0) dX8_toolsOf_2 (by decide) ?_
  refine aw_istore_n dX8_toolsOf_3 (by decide) rfl ?_
  have L4 : ∀ j, j ≤ q 0 1 → ∀ (v1 v2 : Int32), v1 = nI (oN j (fun t => if S.testBit t = true then 2 ^ q 5 t else 0)) → v2 = nI j → AW mX8_toolsOf 2 true (PIx (fun y d' => y = nI (tls q S) ∧ d' = d) nX) 0 0 4 [(0, .ref 160), (1, .int (nI S)), (2, .int v1), (3, .int v2)] [] (HP d) := by
    refine up_ind (fun j hj ih => ?_)
    rintro _ _ rfl rfl
    refine aw_iload_n dX8_toolsOf_4 rfl ?_
    refine aw_aload_n dX8_toolsOf_5 rfl ?_
    refine aw_gf dX8_toolsOf_6 (hp_160 _) rfl fX8_7 (by decide) rfl ?_
    refine aw_bipush (v := 16) dX8_toolsOf_9 (by decide) ?_
    refine aw_ialdN dX8_toolsOf_11 (hp_161 _) rfl (16) (by first | rfl | (simp only [li_0, li_1, li_2, li_3, li_4, li_5, li_7, li_8, li_9, li_11, li_12, li_16, li_17, li_31, li_32, li_60, li_77, li_80, li_89, li_99, li_101, li_112, li_113, li_256, li_999, li_1023, nI_add, pk_mul])) (by omega) (by decide) ?_
    refine aw_icmp_ge 44 dX8_toolsOf_12 (by decide) (fun c12 => ?_) (fun c12 => ?_)
    · have hge : q 0 1 ≤ j := (le_nI hr.1.2 rfl (by omega) (by omega)).mp c12
      have hj2 : j = q 0 1 := by omega
      subst hj2
      refine aw_iload_n dX8_toolsOf_44 rfl ?_
      refine aw_bipush (v := (-2)) dX8_toolsOf_45 (by decide) ?_
      refine aw_iand dX8_toolsOf_47 ?_
      exact aw_endI dX8_toolsOf_48 rfl ⟨by rw [nI_m2 (oN_lt (w := 12) fun k hk => by have h5 := (ok.2.2.2.2.2.2.1 k (by omega)).1; split; exact Nat.lt_of_le_of_lt (Nat.pow_le_pow_right (by omega) h5) (by decide); decide), tls_eq ok hS], rfl⟩
    · have hlt : j < q 0 1 := Nat.lt_of_not_le (fun z => c12 ((le_nI hr.1.2 rfl (by omega) (by omega)).mpr z))
      refine aw_iload_n dX8_toolsOf_15 rfl ?_
      refine aw_iload_n dX8_toolsOf_16 rfl ?_
      refine aw_iload_n dX8_toolsOf_17 rfl ?_
      refine aw_cSP dX8_toolsOf_18 oX8_has sX8_has rfl lX8_127 kX8_has rfl rfl (Nat.le_of_ble_eq_true rfl) (by decide) (Nat.le_of_ble_eq_true rfl) ?_
      refine aw_if_eq 35 dX8_toolsOf_21 (by decide) (fun c21 => ?_) (fun c21 => ?_)
      · refine aw_iconst (v := 0) dX8_toolsOf_35 (by decide) ?_
        refine aw_ior dX8_toolsOf_36 ?_
        refine aw_istore_n dX8_toolsOf_37 (by decide) rfl ?_
        refine aw_inc (c := 1) dX8_toolsOf_38 (by decide) rfl (by decide) rfl ?_
        refine aw_goto (tgt := 4) dX8_toolsOf_41 (by decide) ?_
        exact ih hlt _ _ (by rw [hb_nI (by omega) (by omega)] at c21; (first | (rw [b2i_eq] at c21) | (rw [b2i_ne] at c21)); simp only [oN, c21]; (first | (rw [(hr.2.2.2.2.1 j hlt).2.1, nI_sh1 _ (by have := (ok.2.2.2.2.2.2.1 j (by omega)).1; omega), nI_or]; rfl) | (rw [show (0 : Int32) = nI 0 from rfl, nI_or]; rfl))) (nI_1 j)
      · refine aw_iconst (v := 1) dX8_toolsOf_24 (by decide) ?_
        refine aw_aload_n dX8_toolsOf_25 rfl ?_
        refine aw_iload_n dX8_toolsOf_26 rfl ?_
        refine aw_iconst (v := 3) dX8_toolsOf_27 (by decide) ?_
        refine aw_cVP dX8_toolsOf_28 oX8_of vX8_of rfl lX8_124 (kX8_of (t := j) (w := 3) (by omega) (by omega)) rfl (hp_160 _) rfl rfl rfl (Nat.le_of_ble_eq_true rfl) (by decide) (Nat.le_of_ble_eq_true rfl) ?_
        refine aw_ishl dX8_toolsOf_31 ?_
        refine aw_goto (tgt := 36) dX8_toolsOf_32 (by decide) ?_
        refine aw_ior dX8_toolsOf_36 ?_
        refine aw_istore_n dX8_toolsOf_37 (by decide) rfl ?_
        refine aw_inc (c := 1) dX8_toolsOf_38 (by decide) rfl (by decide) rfl ?_
        refine aw_goto (tgt := 4) dX8_toolsOf_41 (by decide) ?_
        exact ih hlt _ _ (by rw [hb_nI (by omega) (by omega)] at c21; (first | (rw [b2i_eq] at c21) | (rw [b2i_ne] at c21)); simp only [oN, c21]; (first | (rw [(hr.2.2.2.2.1 j hlt).2.1, nI_sh1 _ (by have := (ok.2.2.2.2.2.2.1 j (by omega)).1; omega), nI_or]; rfl) | (rw [show (0 : Int32) = nI 0 from rfl, nI_or]; rfl))) (nI_1 j)
  exact L4 0 (Nat.zero_le _) _ _ rfl rfl

set_option maxHeartbeats 4000000 in
set_option maxRecDepth 100000 in
theorem kX8_sumOfAll {q : St} {d : Dt} (hr : RR (d.1 161) q) (ok : QOK q) : CP mX8_sumOfAll 3 [.ref 160] d (nI (sN (q 0 1) (wt q))) := by
  show AW mX8_sumOfAll 3 true (PIx (fun y d' => y = nI (sN (q 0 1) (wt q)) ∧ d' = d) nX) 0 0 0 [(0, .ref 160)] [] (HP d)
  obtain ⟨⟨okM1, okM2⟩, okn, -⟩ := id ok
  refine aw_iconst (v := 0) dX8_sumOfAll_0 (by decide) ?_
  refine aw_istore_n dX8_sumOfAll_1 (by decide) rfl ?_
  refine aw_iconst (v := 0) dX8_sumOfAll_2 (by decide) ?_
  refine aw_istore_n dX8_sumOfAll_3 (by decide) rfl ?_
  have L4 : ∀ j, j ≤ q 0 1 → ∀ (v1 v2 : Int32), v1 = nI (sN j (wt q)) → v2 = nI j → AW mX8_sumOfAll 3 true (PIx (fun y d' => y = nI (sN (q 0 1) (wt q)) ∧ d' = d) nX) 0 0 4 [(0, .ref 160), (1, .int v1), (2, .int v2)] [] (HP d) := by
    refine up_ind (fun j hj ih => ?_)
    rintro _ _ rfl rfl
    refine aw_iload_n dX8_sumOfAll_4 rfl ?_
    refine aw_aload_n dX8_sumOfAll_5 rfl ?_
    refine aw_gf dX8_sumOfAll_6 (hp_160 _) rfl fX8_7 (by decide) rfl ?_
    refine aw_bipush (v := 16) dX8_sumOfAll_9 (by decide) ?_
    refine aw_ialdN dX8_sumOfAll_11 (hp_161 _) rfl (16) (by first | rfl | (simp only [li_0, li_1, li_2, li_3, li_4, li_5, li_7, li_8, li_9, li_11, li_12, li_16, li_17, li_31, li_32, li_60, li_77, li_80, li_89, li_99, li_101, li_112, li_113, li_256, li_999, li_1023, nI_add, pk_mul])) (by omega) (by decide) ?_
    refine aw_icmp_ge 29 dX8_sumOfAll_12 (by decide) (fun c12 => ?_) (fun c12 => ?_)
    · have hge : q 0 1 ≤ j := (le_nI hr.1.2 rfl (by omega) (by omega)).mp c12
      have hj2 : j = q 0 1 := by omega
      subst hj2
      refine aw_iload_n dX8_sumOfAll_29 rfl ?_
      exact aw_endI dX8_sumOfAll_30 rfl ⟨rfl, rfl⟩
    · have hlt : j < q 0 1 := Nat.lt_of_not_le (fun z => c12 ((le_nI hr.1.2 rfl (by omega) (by omega)).mpr z))
      refine aw_iload_n dX8_sumOfAll_15 rfl ?_
      refine aw_aload_n dX8_sumOfAll_16 rfl ?_
      refine aw_iload_n dX8_sumOfAll_17 rfl ?_
      refine aw_cVP dX8_sumOfAll_18 oX8_weighted vX8_weighted rfl lX8_150 (kX8_weighted hr ok (t := j) hlt) rfl (hp_160 _) rfl rfl rfl (Nat.le_of_ble_eq_true rfl) (by decide) (Nat.le_of_ble_eq_true rfl) ?_
      refine aw_iadd dX8_sumOfAll_21 ?_
      refine aw_istore_n dX8_sumOfAll_22 (by decide) rfl ?_
      refine aw_inc (c := 1) dX8_sumOfAll_23 (by decide) rfl (by decide) rfl ?_
      refine aw_goto (tgt := 4) dX8_sumOfAll_26 (by decide) ?_
      exact ih hlt _ _ (nI_add _ _) (nI_1 j)
  exact L4 0 (Nat.zero_le _) _ _ rfl rfl

set_option maxHeartbeats 4000000 in
set_option maxRecDepth 100000 in
theorem kX8_worth_0 {q : St} {d : Dt} (hr : RR (d.1 161) q) (ok : QOK q) {t : Nat} (ht : t < q 0 1) : CP mX8_worth 4 [.ref 160, .int (nI t), .int 0] d (nI (prio q t 0)) := by
  show AW mX8_worth 4 true (PIx (fun y d' => y = nI (prio q t 0) ∧ d' = d) nX) 0 0 0 [(0, .ref 160), (1, .int (nI t)), (2, .int 0)] [] (HP d)
  obtain ⟨⟨okM1, okM2⟩, okn, -⟩ := id ok
  have hp12 := pow12 okn
  have h9 := q9_lt ok (show t < 12 by omega)
  refine aw_aload_n dX8_worth_0 rfl ?_
  refine aw_iload_n dX8_worth_1 rfl ?_
  refine aw_cVP dX8_worth_2 oX8_behind vX8_behind rfl lX8_153 (kX8_behind hr ok (t := t) (by omega)) rfl (hp_160 _) rfl rfl rfl (Nat.le_of_ble_eq_true rfl) (by decide) (Nat.le_of_ble_eq_true rfl) ?_
  refine aw_istore_n dX8_worth_5 (by decide) rfl ?_
  refine aw_aload_n dX8_worth_6 rfl ?_
  refine aw_iload_n dX8_worth_7 rfl ?_
  refine aw_cVP dX8_worth_8 oX8_weighted vX8_weighted rfl lX8_150 (kX8_weighted hr ok (t := t) ht) rfl (hp_160 _) rfl rfl rfl (Nat.le_of_ble_eq_true rfl) (by decide) (Nat.le_of_ble_eq_true rfl) ?_
  refine aw_istore dX8_worth_11 (by decide) rfl ?_
  refine aw_iload_n dX8_worth_13 rfl ?_
  refine aw_tabIn (off := 26) (tgt := 40) dX8_worth_14 (by decide) (by decide) (by decide) (by decide) ?_
  refine aw_iconst (v := 0) dX8_worth_40 (by decide) ?_
  refine aw_istore dX8_worth_41 (by decide) rfl ?_
  have L43 : ∀ j, j ≤ q 0 1 → ∀ (v1 v2 : Int32), v1 = nI (wt q t + sN j (fun k => if (q 9 t).testBit k = true then wt q k else 0)) → v2 = nI j → AW mX8_worth 4 true (PIx (fun y d' => y = nI (prio q t 0) ∧ d' = d) nX) 0 0 43 [(0, .ref 160), (1, .int (nI t)), (2, .int 0), (3, .int (nI (q 9 t))), (4, .int v1), (5, .int v2)] [] (HP d) := by
    refine up_ind (fun j hj ih => ?_)
    rintro _ _ rfl rfl
    refine aw_iload dX8_worth_43 rfl ?_
    refine aw_aload_n dX8_worth_45 rfl ?_
    refine aw_gf dX8_worth_46 (hp_160 _) rfl fX8_7 (by decide) rfl ?_
    refine aw_bipush (v := 16) dX8_worth_49 (by decide) ?_
    refine aw_ialdN dX8_worth_51 (hp_161 _) rfl (16) (by first | rfl | (simp only [li_0, li_1, li_2, li_3, li_4, li_5, li_7, li_8, li_9, li_11, li_12, li_16, li_17, li_31, li_32, li_60, li_77, li_80, li_89, li_99, li_101, li_112, li_113, li_256, li_999, li_1023, nI_add, pk_mul])) (by omega) (by decide) ?_
    refine aw_icmp_ge 85 dX8_worth_52 (by decide) (fun c52 => ?_) (fun c52 => ?_)
    · have hge : q 0 1 ≤ j := (le_nI hr.1.2 rfl (by omega) (by omega)).mp c52
      have hj2 : j = q 0 1 := by omega
      subst hj2
      refine aw_iload dX8_worth_85 rfl ?_
      exact aw_endI dX8_worth_87 rfl ⟨rfl, rfl⟩
    · have hlt : j < q 0 1 := Nat.lt_of_not_le (fun z => c52 ((le_nI hr.1.2 rfl (by omega) (by omega)).mpr z))
      refine aw_iload dX8_worth_55 rfl ?_
      refine aw_iload_n dX8_worth_57 rfl ?_
      refine aw_iload dX8_worth_58 rfl ?_
      refine aw_cSP dX8_worth_60 oX8_has sX8_has rfl lX8_127 kX8_has rfl rfl (Nat.le_of_ble_eq_true rfl) (by decide) (Nat.le_of_ble_eq_true rfl) ?_
      refine aw_if_eq 75 dX8_worth_63 (by decide) (fun c63 => ?_) (fun c63 => ?_)
      · refine aw_iconst (v := 0) dX8_worth_75 (by decide) ?_
        refine aw_iadd dX8_worth_76 ?_
        refine aw_istore dX8_worth_77 (by decide) rfl ?_
        refine aw_inc (c := 1) dX8_worth_79 (by decide) rfl (by decide) rfl ?_
        refine aw_goto (tgt := 43) dX8_worth_82 (by decide) ?_
        exact ih hlt _ _ (by rw [hb_nI (by omega) (by omega)] at c63; (first | (rw [b2i_eq] at c63) | (rw [b2i_ne] at c63)); simp only [sN, c63]; (first | (rw [nI_add, Nat.add_assoc]; rfl) | (rw [show (0 : Int32) = nI 0 from rfl, nI_add, Nat.add_assoc]; rfl))) (nI_1 j)
      · refine aw_aload_n dX8_worth_66 rfl ?_
        refine aw_iload dX8_worth_67 rfl ?_
        refine aw_cVP dX8_worth_69 oX8_weighted vX8_weighted rfl lX8_150 (kX8_weighted hr ok (t := j) hlt) rfl (hp_160 _) rfl rfl rfl (Nat.le_of_ble_eq_true rfl) (by decide) (Nat.le_of_ble_eq_true rfl) ?_
        refine aw_goto (tgt := 76) dX8_worth_72 (by decide) ?_
        refine aw_iadd dX8_worth_76 ?_
        refine aw_istore dX8_worth_77 (by decide) rfl ?_
        refine aw_inc (c := 1) dX8_worth_79 (by decide) rfl (by decide) rfl ?_
        refine aw_goto (tgt := 43) dX8_worth_82 (by decide) ?_
        exact ih hlt _ _ (by rw [hb_nI (by omega) (by omega)] at c63; (first | (rw [b2i_eq] at c63) | (rw [b2i_ne] at c63)); simp only [sN, c63]; (first | (rw [nI_add, Nat.add_assoc]; rfl) | (rw [show (0 : Int32) = nI 0 from rfl, nI_add, Nat.add_assoc]; rfl))) (nI_1 j)
  exact L43 0 (Nat.zero_le _) _ _ rfl rfl

set_option maxHeartbeats 4000000 in
set_option maxRecDepth 100000 in
theorem kX8_worth_1 {q : St} {d : Dt} (hr : RR (d.1 161) q) (ok : QOK q) {t : Nat} (ht : t < q 0 1) : CP mX8_worth 4 [.ref 160, .int (nI t), .int 1] d (nI (prio q t 1)) := by
  show AW mX8_worth 4 true (PIx (fun y d' => y = nI (prio q t 1) ∧ d' = d) nX) 0 0 0 [(0, .ref 160), (1, .int (nI t)), (2, .int 1)] [] (HP d)
  obtain ⟨⟨okM1, okM2⟩, okn, -⟩ := id ok
  have hp12 := pow12 okn
  have h9 := q9_lt ok (show t < 12 by omega)
  refine aw_aload_n dX8_worth_0 rfl ?_
  refine aw_iload_n dX8_worth_1 rfl ?_
  refine aw_cVP dX8_worth_2 oX8_behind vX8_behind rfl lX8_153 (kX8_behind hr ok (t := t) (by omega)) rfl (hp_160 _) rfl rfl rfl (Nat.le_of_ble_eq_true rfl) (by decide) (Nat.le_of_ble_eq_true rfl) ?_
  refine aw_istore_n dX8_worth_5 (by decide) rfl ?_
  refine aw_aload_n dX8_worth_6 rfl ?_
  refine aw_iload_n dX8_worth_7 rfl ?_
  refine aw_cVP dX8_worth_8 oX8_weighted vX8_weighted rfl lX8_150 (kX8_weighted hr ok (t := t) ht) rfl (hp_160 _) rfl rfl rfl (Nat.le_of_ble_eq_true rfl) (by decide) (Nat.le_of_ble_eq_true rfl) ?_
  refine aw_istore dX8_worth_11 (by decide) rfl ?_
  refine aw_iload_n dX8_worth_13 rfl ?_
  refine aw_tabIn (off := 74) (tgt := 88) dX8_worth_14 (by decide) (by decide) (by decide) (by decide) ?_
  refine aw_iload dX8_worth_88 rfl ?_
  exact aw_endI dX8_worth_90 rfl ⟨rfl, rfl⟩

set_option maxHeartbeats 4000000 in
set_option maxRecDepth 100000 in
theorem kX8_worth_2 {q : St} {d : Dt} (hr : RR (d.1 161) q) (ok : QOK q) {t : Nat} (ht : t < q 0 1) : CP mX8_worth 4 [.ref 160, .int (nI t), .int 2] d (nI (prio q t 2)) := by
  show AW mX8_worth 4 true (PIx (fun y d' => y = nI (prio q t 2) ∧ d' = d) nX) 0 0 0 [(0, .ref 160), (1, .int (nI t)), (2, .int 2)] [] (HP d)
  obtain ⟨⟨okM1, okM2⟩, okn, -⟩ := id ok
  have hp12 := pow12 okn
  have h9 := q9_lt ok (show t < 12 by omega)
  refine aw_aload_n dX8_worth_0 rfl ?_
  refine aw_iload_n dX8_worth_1 rfl ?_
  refine aw_cVP dX8_worth_2 oX8_behind vX8_behind rfl lX8_153 (kX8_behind hr ok (t := t) (by omega)) rfl (hp_160 _) rfl rfl rfl (Nat.le_of_ble_eq_true rfl) (by decide) (Nat.le_of_ble_eq_true rfl) ?_
  refine aw_istore_n dX8_worth_5 (by decide) rfl ?_
  refine aw_aload_n dX8_worth_6 rfl ?_
  refine aw_iload_n dX8_worth_7 rfl ?_
  refine aw_cVP dX8_worth_8 oX8_weighted vX8_weighted rfl lX8_150 (kX8_weighted hr ok (t := t) ht) rfl (hp_160 _) rfl rfl rfl (Nat.le_of_ble_eq_true rfl) (by decide) (Nat.le_of_ble_eq_true rfl) ?_
  refine aw_istore dX8_worth_11 (by decide) rfl ?_
  refine aw_iload_n dX8_worth_13 rfl ?_
  refine aw_tabIn (off := 77) (tgt := 91) dX8_worth_14 (by decide) (by decide) (by decide) (by decide) ?_
  refine aw_iload_n dX8_worth_91 rfl ?_
  refine aw_cSP dX8_worth_92 oX8_many sX8_many rfl lX8_133 (kX8_many (s := q 9 t) (by omega)) rfl rfl (Nat.le_of_ble_eq_true rfl) (by decide) (Nat.le_of_ble_eq_true rfl) ?_
  exact aw_endI dX8_worth_95 rfl ⟨rfl, rfl⟩

set_option maxHeartbeats 4000000 in
set_option maxRecDepth 100000 in
theorem kX8_worth_3 {q : St} {d : Dt} (hr : RR (d.1 161) q) (ok : QOK q) {t : Nat} (ht : t < q 0 1) : CP mX8_worth 4 [.ref 160, .int (nI t), .int 3] d (nI (prio q t 3)) := by
  show AW mX8_worth 4 true (PIx (fun y d' => y = nI (prio q t 3) ∧ d' = d) nX) 0 0 0 [(0, .ref 160), (1, .int (nI t)), (2, .int 3)] [] (HP d)
  obtain ⟨⟨okM1, okM2⟩, okn, -⟩ := id ok
  have hp12 := pow12 okn
  have h9 := q9_lt ok (show t < 12 by omega)
  refine aw_aload_n dX8_worth_0 rfl ?_
  refine aw_iload_n dX8_worth_1 rfl ?_
  refine aw_cVP dX8_worth_2 oX8_behind vX8_behind rfl lX8_153 (kX8_behind hr ok (t := t) (by omega)) rfl (hp_160 _) rfl rfl rfl (Nat.le_of_ble_eq_true rfl) (by decide) (Nat.le_of_ble_eq_true rfl) ?_
  refine aw_istore_n dX8_worth_5 (by decide) rfl ?_
  refine aw_aload_n dX8_worth_6 rfl ?_
  refine aw_iload_n dX8_worth_7 rfl ?_
  refine aw_cVP dX8_worth_8 oX8_weighted vX8_weighted rfl lX8_150 (kX8_weighted hr ok (t := t) ht) rfl (hp_160 _) rfl rfl rfl (Nat.le_of_ble_eq_true rfl) (by decide) (Nat.le_of_ble_eq_true rfl) ?_
  refine aw_istore dX8_worth_11 (by decide) rfl ?_
  refine aw_iload_n dX8_worth_13 rfl ?_
  refine aw_tabOut (tgt := 96) dX8_worth_14 (by decide) (by decide) ?_
  refine aw_iconst (v := 0) dX8_worth_96 (by decide) ?_
  exact aw_endI dX8_worth_97 rfl ⟨rfl, rfl⟩

theorem kX8_worth {q : St} {d : Dt} (hr : RR (d.1 161) q) (ok : QOK q) {t p : Nat} (ht : t < q 0 1) (hp : p < 4) : CP mX8_worth 4 [.ref 160, .int (nI t), .int (nI p)] d (nI (prio q t p)) := by
  rcases (show p = 0 ∨ p = 1 ∨ p = 2 ∨ p = 3 by omega) with rfl | rfl | rfl | rfl
  · exact kX8_worth_0 hr ok ht
  · exact kX8_worth_1 hr ok ht
  · exact kX8_worth_2 hr ok ht
  · exact kX8_worth_3 hr ok ht

set_option maxHeartbeats 4000000 in
set_option maxRecDepth 100000 in
theorem kX8_fails {c : Int32} {d : Dt} : CI mX8_fails 1 [.ref 160, .int c] d (fun x d' => x = 0 ∧ d' = dI d 160 (upd (d.1 160) 7 c)) := by
  show AW mX8_fails 1 true (PIx (fun x d' => x = 0 ∧ d' = dI d 160 (upd (d.1 160) 7 c)) nX) 0 0 0 [(0, .ref 160), (1, .int c)] [] (HP d)
  refine aw_aload_n dX8_fails_0 rfl ?_
  refine aw_iload_n dX8_fails_1 rfl ?_
  refine aw_putI (ci := 8) (j := 7) .int dX8_fails_2 fX8_70 rfl (by decide) rfl tyX8 tyX8_ok nmX8 rfl rfl rfl (hp_160 _) (Nat.le_of_ble_eq_true rfl) rfl ?_
  refine aw_iconst (v := 0) dX8_fails_5 (by decide) ?_
  exact aw_endI dX8_fails_6 rfl ⟨rfl, rfl⟩

set_option maxHeartbeats 4000000 in
set_option maxRecDepth 100000 in
theorem kX8_done {c : Int32} {d : Dt} : CI mX8_done 1 [.ref 160, .int c] d (fun x d' => x = c ∧ d' = dI d 160 (upd (d.1 160) 7 0)) := by
  show AW mX8_done 1 true (PIx (fun x d' => x = c ∧ d' = dI d 160 (upd (d.1 160) 7 0)) nX) 0 0 0 [(0, .ref 160), (1, .int c)] [] (HP d)
  refine aw_aload_n dX8_done_0 rfl ?_
  refine aw_iconst (v := 0) dX8_done_1 (by decide) ?_
  refine aw_putI (ci := 8) (j := 7) .int dX8_done_2 fX8_70 rfl (by decide) rfl tyX8 tyX8_ok nmX8 rfl rfl rfl (hp_160 _) (Nat.le_of_ble_eq_true rfl) rfl ?_
  refine aw_iload_n dX8_done_5 rfl ?_
  exact aw_endI dX8_done_6 rfl ⟨rfl, rfl⟩

set_option maxHeartbeats 4000000 in
set_option maxRecDepth 100000 in
theorem kX8_sets {t w : Nat} {x : Int32} (ht : t < 12) (hw : w < 5) {d : Dt} : CV mX8_sets 1 [.ref 160, .int (nI t), .int (nI w), .int x] d (fun d' => d' = dI d 161 (upd (d.1 161) (17 + 5 * t + w) x)) := by
  show AW mX8_sets 1 true (PVx (fun d' => d' = dI d 161 (upd (d.1 161) (17 + 5 * t + w) x)) nX) 0 0 0 [(0, .ref 160), (1, .int (nI t)), (2, .int (nI w)), (3, .int x)] [] (HP d)
  refine aw_aload_n dX8_sets_0 rfl ?_
  refine aw_gf dX8_sets_1 (hp_160 _) rfl fX8_7 (by decide) rfl ?_
  refine aw_bipush (v := 17) dX8_sets_4 (by decide) ?_
  refine aw_iconst (v := 5) dX8_sets_6 (by decide) ?_
  refine aw_iload_n dX8_sets_7 rfl ?_
  refine aw_imul dX8_sets_8 ?_
  refine aw_iadd dX8_sets_9 ?_
  refine aw_iload_n dX8_sets_10 rfl ?_
  refine aw_iadd dX8_sets_11 ?_
  refine aw_iload_n dX8_sets_12 rfl ?_
  refine aw_iastN dX8_sets_13 hp_161 (17 + 5 * t + w) (by first | rfl | (simp only [li_0, li_1, li_2, li_3, li_4, li_5, li_7, li_8, li_9, li_11, li_12, li_16, li_17, li_31, li_32, li_60, li_77, li_80, li_89, li_99, li_101, li_112, li_113, li_256, li_999, li_1023, nI_add, pk_mul])) (by omega) (by decide)  ?_
  exact aw_endV dX8_sets_14 rfl rfl
