set_option maxHeartbeats 4000000 in
set_option maxRecDepth 100000 in
theorem kX8_leastOf {q : St} {d : Dt} (hr : RR (d.1 161) q) (ok : QOK q) (h8 : q 0 1 ≤ 8) : CI mX8_leastOf 7 [.ref 160] d (fun x d' => mT d d' ∧ TS q d' (2 ^ q 0 1) ∧ TL d' tl0 ∧ x = pv (lstQ q 9)) := by
  show AW mX8_leastOf 7 true (PIx (fun x d' => mT d d' ∧ TS q d' (2 ^ q 0 1) ∧ TL d' tl0 ∧ x = pv (lstQ q 9)) nX) 0 0 0 [(0, .ref 160)] [] (HP d)
  obtain ⟨⟨okM1, okM2⟩, okn, -⟩ := id ok
  obtain ⟨hN1, hN2⟩ := p2_256 h8
  have hp12 := pow12 ok.2.1
  refine aw_aload_n dX8_leastOf_0 rfl ?_
  refine aw_cVv dX8_leastOf_1 oX8_tellSets vX8_tellSets rfl lX8_226 (kX8_tellSets hr ok h8) rfl (hp_160 _) rfl rfl rfl (Nat.le_of_ble_eq_true rfl) (by decide) (Nat.le_of_ble_eq_true rfl) ?_
  rintro d1 ⟨hm1, hts1⟩
  have hr1 : RR (d1.1 161) q := by rw [mT_g hm1]; exact hr
  refine aw_aload_n dX8_leastOf_4 rfl ?_
  refine aw_cVv dX8_leastOf_5 oX8_tellsNothing vX8_tellsNothing rfl lX8_229 kX8_tellsNothing rfl (hp_160 _) rfl rfl rfl (Nat.le_of_ble_eq_true rfl) (by decide) (Nat.le_of_ble_eq_true rfl) ?_
  rintro _ ⟨f, rfl, hf⟩
  refine aw_iconst (v := 0) dX8_leastOf_8 (by decide) ?_
  refine aw_istore_n dX8_leastOf_9 (by decide) rfl ?_
  have L10 : ∀ j, j ≤ 9 → ∀ (d2 : Dt) (v1 : Int32), mT d d2 → TS q d2 (2 ^ q 0 1) → TL d2 tl0 → lstQ q 9 = lstQ q (9 - j) → v1 = nI j → AW mX8_leastOf 7 true (PIx (fun x d' => mT d d' ∧ TS q d' (2 ^ q 0 1) ∧ TL d' tl0 ∧ x = pv (lstQ q 9)) nX) 0 0 10 [(0, .ref 160), (1, .int v1)] [] (HP d2) := by
    refine up_ind (fun j hj ih => ?_)
    rintro d2 _ hm2 hts2 hT2 hls rfl; have hr2 : RR (d2.1 161) q := by rw [mT_g hm2]; exact hr
    refine aw_iload_n dX8_leastOf_10 rfl ?_
    refine aw_bipush (v := 8) dX8_leastOf_11 (by decide) ?_
    refine aw_icmp_gt 34 dX8_leastOf_13 (by decide) (fun c13 => ?_) (fun c13 => ?_)
    · have hge : 9 ≤ j := (((lt_nI (show (8 : Int32) = nI 8 from rfl) rfl (by omega) (by omega)).trans (show 8 < j ↔ 9 ≤ j by omega))).mp c13
      have hj2 : j = 9 := by omega
      subst hj2
      refine aw_iconst (v := (-1)) dX8_leastOf_34 (by decide) ?_
      exact aw_endI dX8_leastOf_35 rfl (by exact ⟨hm2, hts2, hT2, by rw [hls]; rfl⟩)
    · have hlt : j < 9 := Nat.lt_of_not_le (fun z => c13 ((((lt_nI (show (8 : Int32) = nI 8 from rfl) rfl (by omega) (by omega)).trans (show 8 < j ↔ 9 ≤ j by omega))).mpr z))
      have e8 : lstQ q (9 - j) = if 0 < cntQ q tl0 j (fulQ q) then j + 1 else lstQ q (8 - j) := by
        rw [show 9 - j = (8 - j) + 1 by omega]
        simp only [lstQ]
        rw [show 8 - (8 - j) = j by omega, show 9 - (8 - j) = j + 1 by omega]
      have hcl := cntQ_lt q tl0 h8 (s := j) (by omega) (ful_lt q)
      refine aw_aload_n dX8_leastOf_16 rfl ?_
      refine aw_iload_n dX8_leastOf_17 rfl ?_
      refine aw_cVL dX8_leastOf_18 oX8_linesOf vX8_linesOf rfl lX8_232 (kX8_linesOf hr2 ok h8 hts2 hT2 (n := j) (by omega)) rfl (hp_160 _) rfl rfl rfl (Nat.le_of_ble_eq_true rfl) (by decide) (Nat.le_of_ble_eq_true rfl) ?_
      rintro _ d3 ⟨hm3, rfl⟩
      refine aw_lconst (v := 0) dX8_leastOf_21 (by decide) ?_
      refine aw_lcmp dX8_leastOf_22 ?_
      refine aw_if_le 28 dX8_leastOf_23 (by decide) (fun c23 => ?_) (fun c23 => ?_)
      · refine aw_inc (c := 1) dX8_leastOf_28 (by decide) rfl (by decide) rfl ?_
        refine aw_goto (tgt := 10) dX8_leastOf_31 (by decide) ?_
        rw [lg_cmp_le, lN_pos (by omega)] at c23
        exact ih hlt _ _ (mT_t hm2 (mL_mT hm3)) (TS_L hts2 hm3) (TL_L hT2 hm3) (by rw [hls, e8, if_neg (by omega), show 9 - (j + 1) = 8 - j by omega]) (nI_1 j)
      · refine aw_iload_n dX8_leastOf_26 rfl ?_
        exact aw_endI dX8_leastOf_27 rfl (by rw [lg_cmp_le, lN_pos (by omega)] at c23; exact ⟨mT_t hm2 (mL_mT hm3), TS_L hts2 hm3, TL_L hT2 hm3, by rw [hls, e8, if_pos (by omega), pv_s]⟩)
  exact L10 0 (Nat.zero_le _) _ _ (mT_dI hm1 (by decide) _) (TS_k hts1 (by rw [dI_n _ _ (by decide)]) (by rw [dI_n _ _ (by decide)])) (fun t ht => ⟨by rw [dI_s]; exact hf t ht, Nat.zero_le _⟩) rfl rfl

set_option maxHeartbeats 4000000 in
set_option maxRecDepth 100000 in
theorem kX8_least {y : Sy} {d : Dt} (hM : MR d y) : CI mX8_least 8 [.ref 160] d (fun x d' => RO d d' x (oLeast y)) := by
  show AW mX8_least 8 true (PIx (fun x d' => RO d d' x (oLeast y)) nX) 0 0 0 [(0, .ref 160)] [] (HP d)
  have ok := hM.1.2
  have hr := hM.1.1
  have h12 := ok.2.1
  refine aw_aload_n dX8_least_0 rfl ?_
  refine aw_gf dX8_least_1 (hp_160 _) rfl fX8_7 (by decide) rfl ?_
  refine aw_bipush (v := 16) dX8_least_4 (by decide) ?_
  refine aw_ialdN dX8_least_6 (hp_161 _) rfl (16) (by first | rfl | (simp only [li_0, li_1, li_2, li_3, li_4, li_5, li_7, li_8, li_9, li_11, li_12, li_16, li_17, li_31, li_32, li_60, li_77, li_80, li_89, li_99, li_101, li_112, li_113, li_256, li_999, li_1023, nI_add, pk_mul])) (by omega) (by decide) ?_
  refine aw_bipush (v := 8) dX8_least_7 (by decide) ?_
  refine aw_icmp_le 18 dX8_least_9 (by decide) (fun c9 => ?_) (fun c9 => ?_)
  · have h8 : y.1 0 1 ≤ 8 := (le_nI hr.1.2 (show (8 : Int32) = nI 8 from rfl) (by omega) (by omega)).mp c9
    refine aw_aload_n dX8_least_18 rfl ?_
    refine aw_cVI dX8_least_19 oX8_leastOf vX8_leastOf rfl lX8_236 (kX8_leastOf hr ok h8) rfl (hp_160 _) rfl rfl rfl (Nat.le_of_ble_eq_true rfl) (by decide) (Nat.le_of_ble_eq_true rfl) ?_
    rintro _ d1 ⟨hm1, -, -, rfl⟩
    have hl9 := (lstQ_in y.1 9 (Nat.le_refl _)).1
    refine aw_istore_n dX8_least_22 (by decide) rfl ?_
    refine aw_iload_n dX8_least_23 rfl ?_
    refine aw_iconst (v := (-1)) dX8_least_24 (by decide) ?_
    refine aw_icmp_ne 36 dX8_least_25 (by decide) (fun c25 => ?_) (fun c25 => ?_)
    · refine aw_aload_n dX8_least_36 rfl ?_
      refine aw_iload_n dX8_least_37 rfl ?_
      refine aw_cVI dX8_least_38 oX8_done vX8_done rfl lX8_91 kX8_done rfl (hp_160 _) rfl rfl rfl (Nat.le_of_ble_eq_true rfl) (by decide) (Nat.le_of_ble_eq_true rfl) ?_
      rintro _ d8 ⟨rfl, rfl⟩
      exact aw_endI dX8_least_41 rfl (by have h0 : lstQ y.1 9 ≠ 0 := fun z => c25 ((pv_m1g (by omega)).mpr z); unfold oLeast; rw [if_neg (by omega), if_neg h0]; exact RO_qT hM hm1 (if_neg h0))
    · refine aw_aload_n dX8_least_28 rfl ?_
      refine aw_iconst (v := 2) dX8_least_29 (by decide) ?_
      refine aw_cVI dX8_least_30 oX8_fails vX8_fails rfl lX8_87 kX8_fails rfl (hp_160 _) rfl rfl rfl (Nat.le_of_ble_eq_true rfl) (by decide) (Nat.le_of_ble_eq_true rfl) ?_
      rintro _ d9 ⟨rfl, rfl⟩
      refine aw_goto (tgt := 41) dX8_least_33 (by decide) ?_
      exact aw_endI dX8_least_41 rfl (by have h0 : lstQ y.1 9 = 0 := (pv_m1g (by omega)).mp c25; unfold oLeast; rw [if_neg (by omega), if_pos h0]; exact RO_fT hM hm1 rfl (by decide))
  · have n8 : 8 < y.1 0 1 := by have := mt (le_nI hr.1.2 (show (8 : Int32) = nI 8 from rfl) (by omega) (by omega)).mpr c9; omega
    refine aw_aload_n dX8_least_12 rfl ?_
    refine aw_iconst (v := 1) dX8_least_13 (by decide) ?_
    refine aw_cVI dX8_least_14 oX8_fails vX8_fails rfl lX8_87 kX8_fails rfl (hp_160 _) rfl rfl rfl (Nat.le_of_ble_eq_true rfl) (by decide) (Nat.le_of_ble_eq_true rfl) ?_
    rintro _ d9 ⟨rfl, rfl⟩
    exact aw_endI dX8_least_17 rfl (by unfold oLeast; rw [if_pos n8]; exact RO_f hM (mS_r d) rfl (by decide))

set_option maxHeartbeats 4000000 in
set_option maxRecDepth 100000 in
theorem kX8_ways {y : Sy} {d : Dt} (hM : MR d y) {s : Int32} : CL mX8_ways 7 [.ref 160, .int s] d (fun x d' => fM d d' ∧ MR d' y ∧ d'.1 160 7 = nI (oWays y s).1 ∧ ((oWays y s).1 = 0 → x = (oWays y s).2)) := by
  show AW mX8_ways 7 true (PLx (fun x d' => fM d d' ∧ MR d' y ∧ d'.1 160 7 = nI (oWays y s).1 ∧ ((oWays y s).1 = 0 → x = (oWays y s).2)) nX) 0 0 0 [(0, .ref 160), (1, .int s)] [] (HP d)
  have ok := hM.1.2
  have hr := hM.1.1
  have h12 := ok.2.1
  refine aw_iload_n dX8_ways_0 rfl ?_
  refine aw_iconst (v := 0) dX8_ways_1 (by decide) ?_
  refine aw_bipush (v := 8) dX8_ways_2 (by decide) ?_
  refine aw_cSP dX8_ways_4 oX8_in sX8_in rfl lX8_74 kX8_in rfl rfl (Nat.le_of_ble_eq_true rfl) (by decide) (Nat.le_of_ble_eq_true rfl) ?_
  refine aw_if_eq 22 dX8_ways_7 (by decide) (fun c7 => ?_) (fun c7 => ?_)
  · refine aw_aload_n dX8_ways_22 rfl ?_
    refine aw_iload_n dX8_ways_23 rfl ?_
    refine aw_iconst (v := 0) dX8_ways_24 (by decide) ?_
    refine aw_bipush (v := 8) dX8_ways_25 (by decide) ?_
    refine aw_cSP dX8_ways_27 oX8_in sX8_in rfl lX8_74 kX8_in rfl rfl (Nat.le_of_ble_eq_true rfl) (by decide) (Nat.le_of_ble_eq_true rfl) ?_
    refine aw_if_ne 37 dX8_ways_30 (by decide) (fun c30 => ?_) (fun c30 => ?_)
    · refine aw_iconst (v := 2) dX8_ways_37 (by decide) ?_
      refine aw_cVI dX8_ways_38 oX8_fails vX8_fails rfl lX8_87 kX8_fails rfl (hp_160 _) rfl rfl rfl (Nat.le_of_ble_eq_true rfl) (by decide) (Nat.le_of_ble_eq_true rfl) ?_
      rintro _ d9 ⟨rfl, rfl⟩
      refine aw_i2l dX8_ways_41 ?_
      exact (c30 c7).elim
    · refine aw_iconst (v := 1) dX8_ways_33 (by decide) ?_
      refine aw_goto (tgt := 38) dX8_ways_34 (by decide) ?_
      refine aw_cVI dX8_ways_38 oX8_fails vX8_fails rfl lX8_87 kX8_fails rfl (hp_160 _) rfl rfl rfl (Nat.le_of_ble_eq_true rfl) (by decide) (Nat.le_of_ble_eq_true rfl) ?_
      rintro _ d9 ⟨rfl, rfl⟩
      refine aw_i2l dX8_ways_41 ?_
      exact aw_endL dX8_ways_42 rfl (by unfold oWays; rw [if_neg (b2d_f c7)]; exact ⟨fM_dI (fM_r d) (by decide) _, MR_7 hM _, by rw [dI_s]; rfl, fun z => absurd z (by decide)⟩)
  · refine aw_aload_n dX8_ways_10 rfl ?_
    refine aw_gf dX8_ways_11 (hp_160 _) rfl fX8_7 (by decide) rfl ?_
    refine aw_bipush (v := 16) dX8_ways_14 (by decide) ?_
    refine aw_ialdN dX8_ways_16 (hp_161 _) rfl (16) (by first | rfl | (simp only [li_0, li_1, li_2, li_3, li_4, li_5, li_7, li_8, li_9, li_11, li_12, li_16, li_17, li_31, li_32, li_60, li_77, li_80, li_89, li_99, li_101, li_112, li_113, li_256, li_999, li_1023, nI_add, pk_mul])) (by omega) (by decide) ?_
    refine aw_bipush (v := 8) dX8_ways_17 (by decide) ?_
    refine aw_icmp_le 43 dX8_ways_19 (by decide) (fun c19 => ?_) (fun c19 => ?_)
    · have hg := b2d_t c7
      obtain ⟨n, rfl, hn1, hn2⟩ := in_nI (a := 0) (b := 8) rfl rfl (by decide) (by decide) (b2d_t c7)
      have h8 : y.1 0 1 ≤ 8 := (le_nI hr.1.2 (show (8 : Int32) = nI 8 from rfl) (by omega) (by omega)).mp c19
      refine aw_aload_n dX8_ways_43 rfl ?_
      refine aw_cVv dX8_ways_44 oX8_tellSets vX8_tellSets rfl lX8_226 (kX8_tellSets hr ok h8) rfl (hp_160 _) rfl rfl rfl (Nat.le_of_ble_eq_true rfl) (by decide) (Nat.le_of_ble_eq_true rfl) ?_
      rintro d1 ⟨hm1, hts1⟩
      refine aw_aload_n dX8_ways_47 rfl ?_
      refine aw_cVv dX8_ways_48 oX8_tellsNothing vX8_tellsNothing rfl lX8_229 kX8_tellsNothing rfl (hp_160 _) rfl rfl rfl (Nat.le_of_ble_eq_true rfl) (by decide) (Nat.le_of_ble_eq_true rfl) ?_
      rintro _ ⟨f, rfl, hf⟩
      refine aw_aload_n dX8_ways_51 rfl ?_
      refine aw_iconst (v := 0) dX8_ways_52 (by decide) ?_
      refine aw_putI (ci := 8) (j := 7) .int dX8_ways_53 fX8_70 rfl (by decide) rfl tyX8 tyX8_ok nmX8 rfl rfl rfl (hp_160 _) (Nat.le_of_ble_eq_true rfl) rfl ?_
      generalize hd2 : dI d1 171 f = d2
      have hm2 : mT d d2 := by rw [← hd2]; exact mT_dI hm1 (by decide) _
      have hT2 : TL d2 tl0 := fun t ht => ⟨by rw [← hd2, dI_s]; exact hf t ht, Nat.zero_le _⟩
      have hts2 : TS y.1 d2 (2 ^ y.1 0 1) := TS_k hts1 (by rw [← hd2, dI_n _ _ (by decide)]) (by rw [← hd2, dI_n _ _ (by decide)])
      have hM3 := MR_mT hM hm2 0
      have hf3 : fM d (dI d2 160 (upd (d2.1 160) 7 0)) := fM_dI (mT_fM hm2) (by decide) _
      have h73 : (dI d2 160 (upd (d2.1 160) 7 0)).1 160 7 = 0 := by rw [dI_s]; rfl
      have hT3 : TL (dI d2 160 (upd (d2.1 160) 7 0)) tl0 := TL_k hT2 (by rw [dI_n _ _ (by decide)])
      have hts3 : TS y.1 (dI d2 160 (upd (d2.1 160) 7 0)) (2 ^ y.1 0 1) := TS_k hts2 (by rw [dI_n _ _ (by decide)]) (by rw [dI_n _ _ (by decide)])
      generalize dI d2 160 (upd (d2.1 160) 7 0) = d3 at hM3 hf3 h73 hT3 hts3 ⊢
      have hr3 := hM3.1.1
      refine aw_aload_n dX8_ways_56 rfl ?_
      refine aw_iload_n dX8_ways_57 rfl ?_
      refine aw_cVL dX8_ways_58 oX8_linesOf vX8_linesOf rfl lX8_232 (kX8_linesOf (q := y.1) (d := d3) (n := n) hr3 ok h8 hts3 hT3 (by omega)) rfl (hp_160 _) rfl rfl rfl (Nat.le_of_ble_eq_true rfl) (by decide) (Nat.le_of_ble_eq_true rfl) ?_
      rintro _ d4 ⟨hm4, rfl⟩
      exact aw_endL dX8_ways_61 rfl (by unfold oWays; rw [if_pos hg, if_neg (by omega), ivn (by omega)]; exact ⟨fM_t hf3 (mT_fM (mL_mT hm4)), MR_mT0 hM3 (mL_mT hm4), by rw [hm4.1]; exact h73, fun _ => rfl⟩)
    · refine aw_aload_n dX8_ways_22 rfl ?_
      refine aw_iload_n dX8_ways_23 rfl ?_
      refine aw_iconst (v := 0) dX8_ways_24 (by decide) ?_
      refine aw_bipush (v := 8) dX8_ways_25 (by decide) ?_
      refine aw_cSP dX8_ways_27 oX8_in sX8_in rfl lX8_74 kX8_in rfl rfl (Nat.le_of_ble_eq_true rfl) (by decide) (Nat.le_of_ble_eq_true rfl) ?_
      refine aw_if_ne 37 dX8_ways_30 (by decide) (fun c30 => ?_) (fun c30 => ?_)
      · refine aw_iconst (v := 2) dX8_ways_37 (by decide) ?_
        refine aw_cVI dX8_ways_38 oX8_fails vX8_fails rfl lX8_87 kX8_fails rfl (hp_160 _) rfl rfl rfl (Nat.le_of_ble_eq_true rfl) (by decide) (Nat.le_of_ble_eq_true rfl) ?_
        rintro _ d9 ⟨rfl, rfl⟩
        refine aw_i2l dX8_ways_41 ?_
        exact aw_endL dX8_ways_42 rfl (by have n8 : 8 < y.1 0 1 := (by have := mt (le_nI hr.1.2 (show (8 : Int32) = nI 8 from rfl) (by omega) (by omega)).mpr c19; omega); unfold oWays; rw [if_pos (b2d_t c7), if_pos n8]; exact ⟨fM_dI (fM_r d) (by decide) _, MR_7 hM _, by rw [dI_s]; rfl, fun z => absurd z (by decide)⟩)
      · refine aw_iconst (v := 1) dX8_ways_33 (by decide) ?_
        refine aw_goto (tgt := 38) dX8_ways_34 (by decide) ?_
        refine aw_cVI dX8_ways_38 oX8_fails vX8_fails rfl lX8_87 kX8_fails rfl (hp_160 _) rfl rfl rfl (Nat.le_of_ble_eq_true rfl) (by decide) (Nat.le_of_ble_eq_true rfl) ?_
        rintro _ d9 ⟨rfl, rfl⟩
        refine aw_i2l dX8_ways_41 ?_
        exact (c7 c30).elim

set_option maxHeartbeats 4000000 in
set_option maxRecDepth 100000 in
theorem kX8_takeLeast {y : Sy} {d : Dt} (hM : MR d y) : CI mX8_takeLeast 8 [.ref 160] d (fun x d' => RO d d' x (oTake y)) := by
  show AW mX8_takeLeast 8 true (PIx (fun x d' => RO d d' x (oTake y)) nX) 0 0 0 [(0, .ref 160)] [] (HP d)
  have ok := hM.1.2
  have hr := hM.1.1
  have h12 := ok.2.1
  refine aw_aload_n dX8_takeLeast_0 rfl ?_
  refine aw_gf dX8_takeLeast_1 (hp_160 _) rfl fX8_7 (by decide) rfl ?_
  refine aw_bipush (v := 16) dX8_takeLeast_4 (by decide) ?_
  refine aw_ialdN dX8_takeLeast_6 (hp_161 _) rfl (16) (by first | rfl | (simp only [li_0, li_1, li_2, li_3, li_4, li_5, li_7, li_8, li_9, li_11, li_12, li_16, li_17, li_31, li_32, li_60, li_77, li_80, li_89, li_99, li_101, li_112, li_113, li_256, li_999, li_1023, nI_add, pk_mul])) (by omega) (by decide) ?_
  refine aw_bipush (v := 8) dX8_takeLeast_7 (by decide) ?_
  refine aw_icmp_le 18 dX8_takeLeast_9 (by decide) (fun c9 => ?_) (fun c9 => ?_)
  · have h8 : y.1 0 1 ≤ 8 := (le_nI hr.1.2 (show (8 : Int32) = nI 8 from rfl) (by omega) (by omega)).mp c9
    refine aw_aload_n dX8_takeLeast_18 rfl ?_
    refine aw_cVI dX8_takeLeast_19 oX8_leastOf vX8_leastOf rfl lX8_236 (kX8_leastOf hr ok h8) rfl (hp_160 _) rfl rfl rfl (Nat.le_of_ble_eq_true rfl) (by decide) (Nat.le_of_ble_eq_true rfl) ?_
    rintro _ d1 ⟨hm1, hts1, hT1, rfl⟩
    have hl9 := (lstQ_in y.1 9 (Nat.le_refl _)).1
    have hM1 := MR_mT0 hM hm1
    refine aw_istore_n dX8_takeLeast_22 (by decide) rfl ?_
    refine aw_iload_n dX8_takeLeast_23 rfl ?_
    refine aw_iconst (v := (-1)) dX8_takeLeast_24 (by decide) ?_
    refine aw_icmp_ne 34 dX8_takeLeast_25 (by decide) (fun c25 => ?_) (fun c25 => ?_)
    · have h0 : lstQ y.1 9 ≠ 0 := fun z => c25 ((pv_m1g (by omega)).mpr z)
      obtain ⟨w, hw, hwe, hn8⟩ := lst_fst ok h0
      rw [show pv (lstQ y.1 9) = nI (lstQ y.1 9 - 1) from if_neg h0]
      refine aw_aload_n dX8_takeLeast_34 rfl ?_
      refine aw_cVv dX8_takeLeast_35 oX8_remembers vX8_remembers rfl lX8_84 (kX8_rem hM1) rfl (hp_160 _) rfl rfl rfl (Nat.le_of_ble_eq_true rfl) (by decide) (Nat.le_of_ble_eq_true rfl) ?_
      rintro d2 ⟨hm0, hd2⟩
      have hr2 := hm0.2.2.2.1.1
      have hts2 : TS y.1 d2 (2 ^ y.1 0 1) := TS_k hts1 (by rw [hd2, dI_n _ _ (by decide)]) (by rw [hd2, dI_n _ _ (by decide)])
      have hT2 : TL d2 tl0 := TL_k hT1 (by rw [hd2, dI_n _ _ (by decide)])
      refine aw_iconst (v := 0) dX8_takeLeast_38 (by decide) ?_
      refine aw_istore_n dX8_takeLeast_39 (by decide) rfl ?_
      refine aw_iconst (v := 0) dX8_takeLeast_40 (by decide) ?_
      refine aw_istore_n dX8_takeLeast_41 (by decide) rfl ?_
      have L42 : ∀ t, t ≤ y.1 0 1 → ∀ (d3 : Dt) (v2 v3 : Int32), mT d2 d3 → TS y.1 d3 (2 ^ y.1 0 1) → TL d3 (tlD w t) → v2 = nI (mvd y.1 (lstQ y.1 9 - 1) t) → v3 = nI t → AW mX8_takeLeast 8 true (PIx (fun x d' => RO d d' x (oTake y)) nX) 0 0 42 [(0, .ref 160), (1, .int (nI (lstQ y.1 9 - 1))), (2, .int v2), (3, .int v3)] [] (HP d3) := by
        refine up_ind (fun t hj42 ih42 => ?_)
        rintro d3 _ _ hm3 hts3 hT3 rfl rfl; have hr3 : RR (d3.1 161) y.1 := by rw [mT_g hm3]; exact hr2
        refine aw_iload_n dX8_takeLeast_42 rfl ?_
        refine aw_aload_n dX8_takeLeast_43 rfl ?_
        refine aw_gf dX8_takeLeast_44 (hp_160 _) rfl fX8_7 (by decide) rfl ?_
        refine aw_bipush (v := 16) dX8_takeLeast_47 (by decide) ?_
        refine aw_ialdN dX8_takeLeast_49 (hp_161 _) rfl (16) (by first | rfl | (simp only [li_0, li_1, li_2, li_3, li_4, li_5, li_7, li_8, li_9, li_11, li_12, li_16, li_17, li_31, li_32, li_60, li_77, li_80, li_89, li_99, li_101, li_112, li_113, li_256, li_999, li_1023, nI_add, pk_mul])) (by omega) (by decide) ?_
        refine aw_icmp_ge 112 dX8_takeLeast_50 (by decide) (fun c50 => ?_) (fun c50 => ?_)
        · have hge42 : y.1 0 1 ≤ t := (le_nI hr3.1.2 rfl (by omega) (by omega)).mp c50
          have hj242 : t = y.1 0 1 := by omega
          subst hj242
          refine aw_iconst (v := 0) dX8_takeLeast_112 (by decide) ?_
          refine aw_istore_n dX8_takeLeast_113 (by decide) rfl ?_
          have L114 : ∀ u, u ≤ y.1 0 1 → ∀ (d6 : Dt) (v3 : Int32), MC d1 d6 y (tkj y.1 w u) y.2.2.2.1 → d6.1 171 = d3.1 171 → v3 = nI u → AW mX8_takeLeast 8 true (PIx (fun x d' => RO d d' x (oTake y)) nX) 0 0 114 [(0, .ref 160), (1, .int (nI (lstQ y.1 9 - 1))), (2, .int (nI (mvd y.1 (lstQ y.1 9 - 1) (y.1 0 1)))), (3, .int v3)] [] (HP d6) := by
            refine up_ind (fun u hj114 ih114 => ?_)
            rintro d6 _ hmc h71 rfl; have hr6 := hmc.2.2.2.1.1; have e61 : d6.1 161 16 = nI (y.1 0 1) := hr6.1.2
            refine aw_iload_n dX8_takeLeast_114 rfl ?_
            refine aw_aload_n dX8_takeLeast_115 rfl ?_
            refine aw_gf dX8_takeLeast_116 (hp_160 _) rfl fX8_7 (by decide) rfl ?_
            refine aw_bipush (v := 16) dX8_takeLeast_119 (by decide) ?_
            refine aw_ialdN dX8_takeLeast_121 (hp_161 _) rfl (16) (by first | rfl | (simp only [li_0, li_1, li_2, li_3, li_4, li_5, li_7, li_8, li_9, li_11, li_12, li_16, li_17, li_31, li_32, li_60, li_77, li_80, li_89, li_99, li_101, li_112, li_113, li_256, li_999, li_1023, nI_add, pk_mul])) (by omega) (by decide) ?_
            refine aw_icmp_ge 143 dX8_takeLeast_122 (by decide) (fun c122 => ?_) (fun c122 => ?_)
            · have hge114 : y.1 0 1 ≤ u := (le_nI e61 rfl (by omega) (by omega)).mp c122
              have hj2114 : u = y.1 0 1 := by omega
              subst hj2114
              refine aw_aload_n dX8_takeLeast_143 rfl ?_
              refine aw_aload_n dX8_takeLeast_144 rfl ?_
              refine aw_iload_n dX8_takeLeast_145 rfl ?_
              refine aw_cVI dX8_takeLeast_146 oX8_done vX8_done rfl lX8_91 kX8_done rfl (hp_160 _) rfl rfl rfl (Nat.le_of_ble_eq_true rfl) (by decide) (Nat.le_of_ble_eq_true rfl) ?_
              rintro _ d8 ⟨rfl, rfl⟩
              refine aw_cVI dX8_takeLeast_149 oX8_changed vX8_changed rfl lX8_94 (kX8_changed (MC_7 hmc 0) 0 (by decide) (by rw [dI_s]; rfl)) rfl (hp_160 _) rfl rfl rfl (Nat.le_of_ble_eq_true rfl) (by decide) (Nat.le_of_ble_eq_true rfl) ?_
              rintro _ d9 ⟨rfl, hC⟩
              exact aw_endI dX8_takeLeast_152 rfl (by unfold oTake; rw [if_neg (by omega), if_neg h0, show tkq y.1 (lstQ y.1 9 - 1) = tkj y.1 w (y.1 0 1) from by rw [← hwe]; rfl]; exact RO_ch (CH_b (mT_fM hm1) hC) rfl)
            · have hlt114 : u < y.1 0 1 := Nat.lt_of_not_le (fun z => c122 ((le_nI e61 rfl (by omega) (by omega)).mpr z))
              have hd8 := dgt_lt w u
              have h171 : d6.1 171 u = nI (dgt w u) := by rw [h71, (hT3 u (by omega)).1]; simp only [tlD]; rw [if_pos hlt114, pv_s]
              refine aw_aload_n dX8_takeLeast_125 rfl ?_
              refine aw_iload_n dX8_takeLeast_126 rfl ?_
              refine aw_iconst (v := 4) dX8_takeLeast_127 (by decide) ?_
              refine aw_aload_n dX8_takeLeast_128 rfl ?_
              refine aw_gf dX8_takeLeast_129 (hp_160 _) rfl fX8_42 (by decide) rfl ?_
              refine aw_iload_n dX8_takeLeast_132 rfl ?_
              refine aw_ialdN dX8_takeLeast_133 (hp_171 _) rfl (u) (by first | rfl | (simp only [li_0, li_1, li_2, li_3, li_4, li_5, li_7, li_8, li_9, li_11, li_12, li_16, li_17, li_31, li_32, li_60, li_77, li_80, li_89, li_99, li_101, li_112, li_113, li_256, li_999, li_1023, nI_add, pk_mul])) (by omega) (by decide) ?_
              rw [h171]
              refine aw_cVv dX8_takeLeast_134 oX8_sets vX8_sets rfl lX8_113 (kX8_sets (t := u) (w := 4) (by omega) (by omega)) rfl (hp_160 _) rfl rfl rfl (Nat.le_of_ble_eq_true rfl) (by decide) (Nat.le_of_ble_eq_true rfl) ?_
              rintro _ rfl
              refine aw_inc (c := 1) dX8_takeLeast_137 (by decide) rfl (by decide) rfl ?_
              refine aw_goto (tgt := 114) dX8_takeLeast_140 (by decide) ?_
              exact ih114 hlt114 _ _ (by rw [← tkj_s]; exact MC_g hmc (j := 6) (k := u) (v := dgt w u + 1) (by decide) (show u < 12 by omega) rfl (by rw [if_pos rfl, pv_s]) (by rw [tkj_s]; exact QOK_tkj ok w (by omega))) (by rw [dI_n _ _ (by decide)]; exact h71) (nI_1 u)
          exact L114 0 (Nat.zero_le _) _ _ (by rw [tkj_0]; exact MC_mT hm0 hm3) rfl rfl
        · have hlt42 : t < y.1 0 1 := Nat.lt_of_not_le (fun z => c50 ((le_nI hr3.1.2 rfl (by omega) (by omega)).mpr z))
          have hd8 := dgt_lt w t
          have h6 := (ok.2.2.2.2.2.2.1 t (by omega)).2
          refine aw_aload_n dX8_takeLeast_53 rfl ?_
          refine aw_gf dX8_takeLeast_54 (hp_160 _) rfl fX8_42 (by decide) rfl ?_
          refine aw_iload_n dX8_takeLeast_57 rfl ?_
          refine aw_iconst (v := 0) dX8_takeLeast_58 (by decide) ?_
          refine aw_iastN dX8_takeLeast_59 hp_171 (t) (by first | rfl | (simp only [li_0, li_1, li_2, li_3, li_4, li_5, li_7, li_8, li_9, li_11, li_12, li_16, li_17, li_31, li_32, li_60, li_77, li_80, li_89, li_99, li_101, li_112, li_113, li_256, li_999, li_1023, nI_add, pk_mul])) (by omega) (by decide)  ?_
          have L60 : ∀ v, v ≤ dgt w t → ∀ (d4 : Dt), mT d3 d4 → d4.1 167 = d3.1 167 → d4.1 168 = d3.1 168 → TL d4 (tlV w t v) → AW mX8_takeLeast 8 true (PIx (fun x d' => RO d d' x (oTake y)) nX) 0 0 60 [(0, .ref 160), (1, .int (nI (lstQ y.1 9 - 1))), (2, .int (nI (mvd y.1 (lstQ y.1 9 - 1) t))), (3, .int (nI t))] [] (HP d4) := by
            refine up_ind (fun v hj60 ih60 => ?_)
            rintro d4 hm4 h167 h168 hT4; have hr4 : RR (d4.1 161) y.1 := by rw [mT_g hm4]; exact hr3
            refine aw_aload_n dX8_takeLeast_60 rfl ?_
            refine aw_iload_n dX8_takeLeast_61 rfl ?_
            refine aw_cVL dX8_takeLeast_62 oX8_linesOf vX8_linesOf rfl lX8_232 (kX8_linesOf hr4 ok h8 (TS_k hts3 h167 h168) hT4 hn8) rfl (hp_160 _) rfl rfl rfl (Nat.le_of_ble_eq_true rfl) (by decide) (Nat.le_of_ble_eq_true rfl) ?_
            rintro _ d5 ⟨hm5, rfl⟩
            refine aw_lconst (v := 0) dX8_takeLeast_65 (by decide) ?_
            refine aw_lcmp dX8_takeLeast_66 ?_
            refine aw_if_ne 83 dX8_takeLeast_67 (by decide) (fun c67 => ?_) (fun c67 => ?_)
            · rw [lg_cmp_eq, lN_z (by have := cntQ_lt y.1 (tlV w t v) h8 hn8 (ful_lt y.1); omega)] at c67
              have hve : v = dgt w t := by
                rcases Nat.lt_or_ge v (dgt w t) with z | z
                · exact absurd (greedy_no h8 hn8 hw hlt42 z) c67
                · omega
              subst hve
              have hm4 := mT_t hm4 (mL_mT hm5)
              have h167 : d5.1 167 = d3.1 167 := by rw [hm5.1]; exact h167
              have h168 : d5.1 168 = d3.1 168 := by rw [hm5.1]; exact h168
              have hT4 := TL_L hT4 hm5
              have hr4 : RR (d5.1 161) y.1 := by rw [mT_g hm4]; exact hr3
              have h171 : d5.1 171 t = pv (dgt w t + 1) := by have := (hT4 t (by omega)).1; simp only [tlV, if_true] at this; exact this
              refine aw_iload_n dX8_takeLeast_83 rfl ?_
              refine aw_aload_n dX8_takeLeast_84 rfl ?_
              refine aw_iload_n dX8_takeLeast_85 rfl ?_
              refine aw_iconst (v := 4) dX8_takeLeast_86 (by decide) ?_
              refine aw_cVP dX8_takeLeast_87 oX8_of vX8_of rfl lX8_124 (kX8_of (t := t) (w := 4) (by omega) (by omega)) rfl (hp_160 _) rfl rfl rfl (Nat.le_of_ble_eq_true rfl) (by decide) (Nat.le_of_ble_eq_true rfl) ?_
              refine aw_aload_n dX8_takeLeast_90 rfl ?_
              refine aw_gf dX8_takeLeast_91 (hp_160 _) rfl fX8_42 (by decide) rfl ?_
              refine aw_iload_n dX8_takeLeast_94 rfl ?_
              refine aw_ialdN dX8_takeLeast_95 (hp_171 _) rfl (t) (by first | rfl | (simp only [li_0, li_1, li_2, li_3, li_4, li_5, li_7, li_8, li_9, li_11, li_12, li_16, li_17, li_31, li_32, li_60, li_77, li_80, li_89, li_99, li_101, li_112, li_113, li_256, li_999, li_1023, nI_add, pk_mul])) (by omega) (by decide) ?_
              rw [show d5.1 161 (17 + 5 * t + 4) = pv (y.1 6 t) from (hr4.2.2.2.2.1 t hlt42).2.2, h171]
              refine aw_icmp_eq 103 dX8_takeLeast_96 (by decide) (fun c96 => ?_) (fun c96 => ?_)
              · refine aw_iconst (v := 0) dX8_takeLeast_103 (by decide) ?_
                refine aw_iadd dX8_takeLeast_104 ?_
                refine aw_istore_n dX8_takeLeast_105 (by decide) rfl ?_
                refine aw_inc (c := 1) dX8_takeLeast_106 (by decide) rfl (by decide) rfl ?_
                refine aw_goto (tgt := 42) dX8_takeLeast_109 (by decide) ?_
                have e6 := pvd_eq (by omega) (by omega) c96
                exact ih42 hlt42 _ _ _ (mT_t hm3 hm4) (TS_k hts3 h167 h168) (by rw [← tlV_s]; exact hT4) (by unfold mvd; simp only [sN]; rw [hwe, if_pos e6]; exact nI_add _ _) (nI_1 t)
              · refine aw_iconst (v := 1) dX8_takeLeast_99 (by decide) ?_
                refine aw_goto (tgt := 104) dX8_takeLeast_100 (by decide) ?_
                refine aw_iadd dX8_takeLeast_104 ?_
                refine aw_istore_n dX8_takeLeast_105 (by decide) rfl ?_
                refine aw_inc (c := 1) dX8_takeLeast_106 (by decide) rfl (by decide) rfl ?_
                refine aw_goto (tgt := 42) dX8_takeLeast_109 (by decide) ?_
                have e6 : ¬ y.1 6 t = dgt w t + 1 := fun z => c96 (by rw [z])
                exact ih42 hlt42 _ _ _ (mT_t hm3 hm4) (TS_k hts3 h167 h168) (by rw [← tlV_s]; exact hT4) (by unfold mvd; simp only [sN]; rw [hwe, if_neg e6]; exact nI_add _ _) (nI_1 t)
            · rw [lg_cmp_eq, lN_z (by have := cntQ_lt y.1 (tlV w t v) h8 hn8 (ful_lt y.1); omega)] at c67
              have hlt60 : v < dgt w t := by
                rcases Nat.lt_or_ge v (dgt w t) with z | z
                · exact z
                · have hve : v = dgt w t := by omega
                  have := greedy_yes h8 hn8 hw hlt42
                  rw [← hve] at this
                  omega
              have hT5 := TL_L hT4 hm5
              have h171 : d5.1 171 t = nI v := by have := (hT5 t (by omega)).1; simp only [tlV, if_true] at this; rw [this, pv_s]
              refine aw_aload_n dX8_takeLeast_70 rfl ?_
              refine aw_gf dX8_takeLeast_71 (hp_160 _) rfl fX8_42 (by decide) rfl ?_
              refine aw_iload_n dX8_takeLeast_74 rfl ?_
              refine aw_dup2 dX8_takeLeast_75 rfl rfl ?_
              refine aw_ialdN dX8_takeLeast_76 (hp_171 _) rfl (t) (by first | rfl | (simp only [li_0, li_1, li_2, li_3, li_4, li_5, li_7, li_8, li_9, li_11, li_12, li_16, li_17, li_31, li_32, li_60, li_77, li_80, li_89, li_99, li_101, li_112, li_113, li_256, li_999, li_1023, nI_add, pk_mul])) (by omega) (by decide) ?_
              refine aw_iconst (v := 1) dX8_takeLeast_77 (by decide) ?_
              refine aw_iadd dX8_takeLeast_78 ?_
              refine aw_iastN dX8_takeLeast_79 hp_171 (t) (by first | rfl | (simp only [li_0, li_1, li_2, li_3, li_4, li_5, li_7, li_8, li_9, li_11, li_12, li_16, li_17, li_31, li_32, li_60, li_77, li_80, li_89, li_99, li_101, li_112, li_113, li_256, li_999, li_1023, nI_add, pk_mul])) (by omega) (by decide)  ?_
              refine aw_goto (tgt := 60) dX8_takeLeast_80 (by decide) ?_
              rw [h171, nI_1]
              exact ih60 hlt60 _ (mT_dI (mT_t hm4 (mL_mT hm5)) (by decide) _) (by rw [dI_n _ _ (by decide), hm5.1]; exact h167) (by rw [dI_n _ _ (by decide), hm5.1]; exact h168) (TL_V hT5 (by omega))
          exact L60 0 (Nat.zero_le _) _ (mT_dI (mT_r d3) (by decide) _) (by rw [dI_n _ _ (by decide)]) (by rw [dI_n _ _ (by decide)]) (TL_V0 hT3)
      exact L42 0 (Nat.zero_le _) _ _ _ (mT_r d2) hts2 (by rw [tlD_0]; exact hT2) rfl rfl
    · refine aw_aload_n dX8_takeLeast_28 rfl ?_
      refine aw_iconst (v := 2) dX8_takeLeast_29 (by decide) ?_
      refine aw_cVI dX8_takeLeast_30 oX8_fails vX8_fails rfl lX8_87 kX8_fails rfl (hp_160 _) rfl rfl rfl (Nat.le_of_ble_eq_true rfl) (by decide) (Nat.le_of_ble_eq_true rfl) ?_
      rintro _ d9 ⟨rfl, rfl⟩
      exact aw_endI dX8_takeLeast_33 rfl (by have h0 : lstQ y.1 9 = 0 := (pv_m1g (by omega)).mp c25; unfold oTake; rw [if_neg (by omega), if_pos h0]; exact RO_fT hM hm1 rfl (by decide))
  · have n8 : 8 < y.1 0 1 := by have := mt (le_nI hr.1.2 (show (8 : Int32) = nI 8 from rfl) (by omega) (by omega)).mpr c9; omega
    refine aw_aload_n dX8_takeLeast_12 rfl ?_
    refine aw_iconst (v := 1) dX8_takeLeast_13 (by decide) ?_
    refine aw_cVI dX8_takeLeast_14 oX8_fails vX8_fails rfl lX8_87 kX8_fails rfl (hp_160 _) rfl rfl rfl (Nat.le_of_ble_eq_true rfl) (by decide) (Nat.le_of_ble_eq_true rfl) ?_
    rintro _ d9 ⟨rfl, rfl⟩
    exact aw_endI dX8_takeLeast_17 rfl (by unfold oTake; rw [if_pos n8]; exact RO_f hM (mS_r d) rfl (by decide))
