set_option maxHeartbeats 4000000 in
set_option maxRecDepth 100000 in
theorem kX7_read {y : Sy} {d : Dt} (hC : CC d y) : AO mX7_read 16 [.ref 132] d [exU] (oRead y) := by
  show AW mX7_read 16 true (PIx (PO d (oRead y)) (XO d [exU] (oRead y))) 4 24 0 [(0, .ref 132)] [] (HP d)
  have hs := hC.1.1
  have ok := hC.1.2
  have h12 := ok.2.1
  have hT := hC.2.2.2.2
  have hl80 := hT.2.1
  refine aw_aload_n dX7_read_0 rfl ?_
  refine aw_gf dX7_read_1 (hp_132 _) rfl fX7_45 (by decide) rfl ?_
  refine aw_cVI dX7_read_4 oX2_errorPosition vX2_errorPosition rfl lX7_296 (kX2_errorPosition hT) rfl (hp_150 _) rfl rfl rfl (Nat.le_of_ble_eq_true rfl) (by decide) (Nat.le_of_ble_eq_true rfl) ?_
  rintro _ d1 ⟨hm1, rfl⟩
  have hC1 := CC_mP hC hm1
  refine aw_istore_n dX7_read_7 (by decide) rfl ?_
  by_cases hok : (prs y.2.2.2.2 80 0).1 = true ∧ y.2.2.2.2.length ≤ (prs y.2.2.2.2 80 0).2
  · rw [show errQ y.2.2.2.2 = -1 from if_pos hok]
    obtain ⟨nx, hnx, n1, n2, n4, n5⟩ := id hC1.2.1
    refine aw_iload_n dX7_read_8 rfl ?_
    refine aw_if_lt 24 dX7_read_9 (by decide) (fun c9 => ?_) (fun c9 => (c9 (by decide)).elim)
    refine aw_aload_n dX7_read_24 rfl ?_
    refine aw_gf dX7_read_25 (hp_132 _) rfl fX7_38 (by decide) rfl ?_
    refine aw_aload_n dX7_read_28 rfl ?_
    refine aw_gf dX7_read_29 (hp_132 _) rfl fX7_12 (by decide) rfl ?_
    refine aw_cVv dX7_read_32 oX1_begin vX1_begin rfl lX7_268 (kX1_begin hnx n1) rfl (hp_148 _) rfl rfl rfl (Nat.le_of_ble_eq_true rfl) (by decide) (Nat.le_of_ble_eq_true rfl) ?_
    rintro d2 hc
    refine aw_aload_n dX7_read_35 rfl ?_
    refine aw_cVI dX7_read_36 oX7_carryOutAll vX7_carryOutAll rfl lX7_302 (kX7_carryOutAll (q := y.1) (w := y.2.2.2.1) (T := y.2.2.2.2) (d := d2) ⟨KS_k hC1.1.1 (fun j hj => CP_out hc (by omega)), ok, by rw [CP_out hc (by omega)]; exact hC1.2.2.2.1.1, hC1.2.2.2.1.2⟩ (by rw [CP_out hc (by omega), CP_out hc (by omega)]; exact hC1.2.2.2.2) hok.1) rfl (hp_132 _) rfl rfl rfl (Nat.le_of_ble_eq_true rfl) (by decide) (Nat.le_of_ble_eq_true rfl) ?_
    rintro _ d3 ⟨hE, rfl, ⟨hw7, hw6⟩, h3⟩
    by_cases he : (exe y.2.2.2.2 80 0 y.1 y.2.2.2.1 0).1 = true
    · rw [if_pos he]
      obtain ⟨hs3, ok3, h80⟩ := h3 he
      refine aw_istore_n dX7_read_39 (by decide) rfl ?_
      refine aw_aload_n dX7_read_40 rfl ?_
      refine aw_gf dX7_read_41 (hp_132 _) rfl fX7_45 (by decide) rfl ?_
      refine aw_cVv dX7_read_44 oX2_clear vX2_clear rfl lX7_299 (kX2_clear) rfl (hp_150 _) rfl rfl rfl (Nat.le_of_ble_eq_true rfl) (by decide) (Nat.le_of_ble_eq_true rfl) ?_
      rintro d4 hd4
      have e4 : ∀ i, i ≠ 150 → d4.1 i = d3.1 i := fun i hi => by rw [hd4, dI_n _ _ hi]
      have z4 : d4.1 150 2 = 0 := by rw [hd4, dI_s, upd_at]
      have fC4 : fC d d4 := fC_t (fC_t (mP_C hm1) (fC_t (fC_CP (by omega) hc) (fE_C hE))) (by rw [hd4]; exact fC_dI (fC_r d3) (by decide) _)
      have e148 : d4.1 148 = d1.1 148 := by rw [e4 _ (by decide), hE.2.1 148 (by decide) (by decide) (Or.inr (by decide)) (by decide) (by decide), CP_out hc (by omega)]
      refine aw_iload_n dX7_read_47 rfl ?_
      refine aw_if_ge 62 dX7_read_48 (by decide) (fun c48 => ?_) (fun c48 => (c48 ((le_nI (show (0 : Int32) = nI 0 from rfl) (rfl : nI (exe y.2.2.2.2 80 0 y.1 y.2.2.2.1 0).2.1 = _) (by omega) (by omega)).mpr (Nat.zero_le _))).elim)
      refine aw_iload_n dX7_read_62 rfl ?_
      refine aw_if_lt 70 dX7_read_63 (by decide) (fun c63 => (show False from by have := (lt_nI (rfl : nI (exe y.2.2.2.2 80 0 y.1 y.2.2.2.1 0).2.1 = _) (show (0 : Int32) = nI 0 from rfl) (by omega) (by omega)).mp c63; omega).elim) (fun c63 => ?_)
      refine aw_iconst (v := 1) dX7_read_66 (by decide) ?_
      refine aw_goto (tgt := 71) dX7_read_67 (by decide) ?_
      refine aw_ck dX7_read_71 oX7_checkSupported sX7_checkSupported rfl lX7_124 kX7_checkSupported (Nat.le_of_ble_eq_true rfl) (by decide) (Nat.le_of_ble_eq_true rfl) (by decide) (by decide) (fun x71 => ?_) (fun x71 => ?_)
      · exact absurd x71 (by decide)
      refine aw_aload_n dX7_read_74 rfl ?_
      refine aw_gf dX7_read_75 (hp_132 _) rfl fX7_38 (by decide) rfl ?_
      refine aw_cVv dX7_read_78 oX1_finish vX1_finish rfl lX7_277 (kX1_finish hnx (d := d4) (by rw [e148]; exact n1) n4 (by rw [e148]; exact n2)) rfl (hp_148 _) rfl rfl rfl (Nat.le_of_ble_eq_true rfl) (by decide) (Nat.le_of_ble_eq_true rfl) ?_
      rintro d5 hd5
      have e5 : ∀ i, i ≠ 148 → d5.1 i = d4.1 i := fun i hi => by rw [hd5, dI_n _ _ hi, dI_n _ _ hi]
      refine aw_iload_n dX7_read_81 rfl ?_
      exact aw_endI dX7_read_82 rfl (by
        rw [oRead_y hok he]
        refine PO_v (fC_t fC4 ?_) (CC_fin hC1 hnx n5 n4 hc (KS_k hs3 (fun j hj => by rw [e5 _ (by omega), e4 _ (by omega)])) ok3 (fun i a b => by rw [e5 i (by omega), e4 i (by omega)]; exact hE.2.1 i (by omega) (by omega) (Or.inl (by omega)) (by omega) (by omega)) (by rw [e5 _ (by decide), e4 _ (by decide)]; exact hE.2.2.1 6 (by decide)) ?_ ?_ ?_ hw6 ?_) rfl
        · rw [hd5]; exact fC_dI (fC_dI (fC_r d4) (by decide) _) (by decide) _
        · rw [hd5, dI_s, upd_ne _ _ (by decide), dI_s, upd_at]
        · rw [hd5, dI_s, upd_at]
        · rw [e5 _ (by decide), e4 _ (by decide)]; exact hw7
        · rw [e5 _ (by decide), e5 _ (by decide), z4]; exact TP_nil _)
    · rw [if_neg he]
      refine aw_istore_n dX7_read_39 (by decide) rfl ?_
      refine aw_aload_n dX7_read_40 rfl ?_
      refine aw_gf dX7_read_41 (hp_132 _) rfl fX7_45 (by decide) rfl ?_
      refine aw_cVv dX7_read_44 oX2_clear vX2_clear rfl lX7_299 (kX2_clear) rfl (hp_150 _) rfl rfl rfl (Nat.le_of_ble_eq_true rfl) (by decide) (Nat.le_of_ble_eq_true rfl) ?_
      rintro d4 hd4
      have e4 : ∀ i, i ≠ 150 → d4.1 i = d3.1 i := fun i hi => by rw [hd4, dI_n _ _ hi]
      have z4 : d4.1 150 2 = 0 := by rw [hd4, dI_s, upd_at]
      have fC4 : fC d d4 := fC_t (fC_t (mP_C hm1) (fC_t (fC_CP (by omega) hc) (fE_C hE))) (by rw [hd4]; exact fC_dI (fC_r d3) (by decide) _)
      have e148 : d4.1 148 = d1.1 148 := by rw [e4 _ (by decide), hE.2.1 148 (by decide) (by decide) (Or.inr (by decide)) (by decide) (by decide), CP_out hc (by omega)]
      refine aw_iload_n dX7_read_47 rfl ?_
      refine aw_if_ge 62 dX7_read_48 (by decide) (fun c48 => (show False from absurd c48 (by decide)).elim) (fun c48 => ?_)
      refine aw_aload_n dX7_read_51 rfl ?_
      refine aw_gf dX7_read_52 (hp_132 _) rfl fX7_38 (by decide) rfl ?_
      refine aw_aload_n dX7_read_55 rfl ?_
      refine aw_gf dX7_read_56 (hp_132 _) rfl fX7_12 (by decide) rfl ?_
      refine aw_cVv dX7_read_59 oX1_cancel vX1_cancel rfl lX7_274 (kX1_cancel hnx (d := d4) (by rw [e148]; exact n1)) rfl (hp_148 _) rfl rfl rfl (Nat.le_of_ble_eq_true rfl) (by decide) (Nat.le_of_ble_eq_true rfl) ?_
      rintro d5 hc5
      refine aw_iload_n dX7_read_62 rfl ?_
      refine aw_if_lt 70 dX7_read_63 (by decide) (fun c63 => ?_) (fun c63 => (c63 (by decide)).elim)
      refine aw_iconst (v := 0) dX7_read_70 (by decide) ?_
      refine aw_ck dX7_read_71 oX7_checkSupported sX7_checkSupported rfl lX7_124 kX7_checkSupported (Nat.le_of_ble_eq_true rfl) (by decide) (Nat.le_of_ble_eq_true rfl) (by decide) (by decide) (fun x71 => ?_) (fun x71 => ?_)
      · exact (by
          rw [oRead_f hok he]
          refine ⟨fC_t fC4 (fC_CP (by decide) hc5), CC_can hC1 hnx n1 n2 n5 n4 hc ?_ (fun i a b => by rw [CP_out hc5 (by omega), e4 i (by omega)]; exact hE.2.1 i (by omega) (by omega) (Or.inl (by omega)) (by omega) (by omega)) (by rw [CP_out hc5 (by omega), e4 _ (by decide)]; exact hE.2.2.1 6 (by decide)) ?_ ?_ ?_ hw6 ?_, Nat.succ_ne_zero _, rfl⟩
          · exact CP_KS hc5 (KS_k (CP_KS hc hC1.1.1) (fun j hj => by rw [e4 _ (by omega)]; exact hE.2.1 _ (by omega) (by omega) (Or.inl (by omega)) (by omega) (by omega)))
          · rw [CP_out hc5 (by omega), e148, CP_out hc (by omega)]
          · rw [CP_out hc5 (by omega), e148, CP_out hc (by omega)]
          · rw [CP_out hc5 (by omega), e4 _ (by decide)]; exact hw7
          · rw [CP_out hc5 (by omega), CP_out hc5 (by omega), z4]; exact TP_nil _)
      exact absurd rfl x71
  · have hp80 : (prs y.2.2.2.2 80 0).2 ≤ y.2.2.2.2.length := prs_le 80 0 (Nat.zero_le _)
    rw [show errQ y.2.2.2.2 = nI (prs y.2.2.2.2 80 0).2 from if_neg hok]
    refine aw_iload_n dX7_read_8 rfl ?_
    refine aw_if_lt 24 dX7_read_9 (by decide) (fun c9 => (show False from by have := (lt_nI (rfl : nI (prs y.2.2.2.2 80 0).2 = _) (show (0 : Int32) = nI 0 from rfl) (by omega) (by omega)).mp c9; omega).elim) (fun c9 => ?_)
    refine aw_aload_n dX7_read_12 rfl ?_
    refine aw_gf dX7_read_13 (hp_132 _) rfl fX7_45 (by decide) rfl ?_
    refine aw_cVv dX7_read_16 oX2_clear vX2_clear rfl lX7_299 (kX2_clear) rfl (hp_150 _) rfl rfl rfl (Nat.le_of_ble_eq_true rfl) (by decide) (Nat.le_of_ble_eq_true rfl) ?_
    rintro d4 hd4
    refine aw_bipush (v := (-100)) dX7_read_19 (by decide) ?_
    refine aw_iload_n dX7_read_21 rfl ?_
    refine aw_isub dX7_read_22 ?_
    exact aw_endI dX7_read_23 rfl (by rw [oRead_n hok]; exact PO_v (fC_t (mP_C hm1) (by rw [hd4]; exact fC_dI (fC_r d1) (by decide) _)) (CC_T (CC_mP hC hm1) (fun i a b => by rw [hd4, dI_n _ _ a]) (by rw [hd4, dI_s, upd_at]; exact TP_nil _)) rfl)
