set_option maxHeartbeats 4000000 in
set_option maxRecDepth 100000 in
theorem kX7_undo {y : Sy} {d : Dt} (hC : CC d y) : AO mX7_undo 16 [.ref 132] d [exS] (oUndo y) := by
  show AW mX7_undo 16 true (PIx (PO d (oUndo y)) (XO d [exS] (oUndo y))) 4 24 0 [(0, .ref 132)] [] (HP d)
  have hs := hC.1.1
  have ok := hC.1.2
  have h12 := ok.2.1
  obtain ⟨nx, hnx, n1, n2, n4, n5⟩ := id hC.2.1
  refine aw_join (P := fun v => v = b2i (decide (0 < y.2.1.length))) 15 (fun v hv15 => ?_) (fun kJ15 => ?_)
  · subst hv15
    refine aw_ck dX7_undo_15 oX7_checkState sX7_checkState rfl lX7_96 kX7_checkState (Nat.le_of_ble_eq_true rfl) (by decide) (Nat.le_of_ble_eq_true rfl) (by decide) (by decide) (fun x15 => ?_) (fun x15 => ?_)
    · exact (by have h0 := b2d_f x15; unfold oUndo; cases hh : y.2.1 with | nil => exact ⟨fC_r d, hC, Nat.succ_ne_zero _, rfl⟩ | cons q L => rw [hh] at h0; exact absurd (Nat.succ_pos _) h0)
    have hpos := b2d_t x15
    obtain ⟨q, L, hL⟩ : ∃ q L, y.2.1 = q :: L := by cases hh : y.2.1 with | nil => rw [hh] at hpos; exact absurd hpos (Nat.lt_irrefl _) | cons q L => exact ⟨q, L, rfl⟩
    have ho : oUndo y = (0, nI L.length, q, L, y.2.2) := by unfold oUndo; rw [hL]
    refine aw_aload_n dX7_undo_18 rfl ?_
    refine aw_gf dX7_undo_19 (hp_132 _) rfl fX7_38 (by decide) rfl ?_
    refine aw_aload_n dX7_undo_22 rfl ?_
    refine aw_gf dX7_undo_23 (hp_132 _) rfl fX7_12 (by decide) rfl ?_
    refine aw_cVv dX7_undo_26 oX1_stepBack vX1_stepBack rfl lX7_306 (kX1_stepBack hnx n1 (cn := y.2.1.length) hpos n2) rfl (hp_148 _) rfl rfl rfl (Nat.le_of_ble_eq_true rfl) (by decide) (Nat.le_of_ble_eq_true rfl) ?_
    rintro d2 ⟨d1, hd1, hc⟩
    have f1 : fC d d1 := by rw [hd1]; exact fC_dI (fC_dI (fC_r d) (by decide) _) (by decide) _
    have e1 : ∀ i, i ≠ 148 → d1.1 i = d.1 i := fun i hi => by rw [hd1, dI_n _ _ hi, dI_n _ _ hi]
    have k1 : d1.1 148 1 = nI (if 0 < nx then nx - 1 else 8) := by rw [hd1, dI_s, upd_ne _ _ (by decide), dI_s, upd_at]
    have k2 : d1.1 148 2 = nI L.length := by rw [hd1, dI_s, upd_at, hL]; rfl
    refine aw_aload_n dX7_undo_29 rfl ?_
    refine aw_gf dX7_undo_30 (hp_132 _) rfl fX7_38 (by decide) rfl ?_
    refine aw_gf dX7_undo_33 (hp_148 _) rfl fX7_305 (by decide) rfl ?_
    exact aw_endI dX7_undo_36 rfl (by rw [ho]; exact PO_v (fC_t f1 (fC_CP (by decide) hc)) (CC_un hC hL hnx n1 n5 n4 e1 k1 k2 hc) (by rw [CP_out hc (by omega)]; exact k2))
  · refine aw_aload_n dX7_undo_0 rfl ?_
    refine aw_gf dX7_undo_1 (hp_132 _) rfl fX7_38 (by decide) rfl ?_
    refine aw_gf dX7_undo_4 (hp_148 _) rfl fX7_305 (by decide) rfl ?_
    refine aw_if_le 14 dX7_undo_7 (by decide) (fun c7 => ?_) (fun c7 => ?_)
    · refine aw_iconst (v := 0) dX7_undo_14 (by decide) ?_
      exact kJ15 _ (by rw [n2] at c7; exact (b2i_f (fun z => by have := (le_nI rfl (show (0 : Int32) = nI 0 from rfl) (by omega) (by omega)).mp c7; omega)).symm)
    · refine aw_iconst (v := 1) dX7_undo_10 (by decide) ?_
      refine aw_goto (tgt := 15) dX7_undo_11 (by decide) ?_
      exact kJ15 _ (by rw [n2] at c7; exact (b2i_t (by have := mt (le_nI (rfl : nI y.2.1.length = _) (show (0 : Int32) = nI 0 from rfl) (by omega) (by omega)).mpr c7; omega)).symm)

set_option maxHeartbeats 4000000 in
set_option maxRecDepth 100000 in
theorem kX7_clearLine {y : Sy} {d : Dt} (hC : CC d y) : AO mX7_clearLine 16 [.ref 132] d [] (oClear y) := by
  show AW mX7_clearLine 16 true (PIx (PO d (oClear y)) (XO d [] (oClear y))) 4 24 0 [(0, .ref 132)] [] (HP d)
  have hs := hC.1.1
  have ok := hC.1.2
  have h12 := ok.2.1
  refine aw_aload_n dX7_clearLine_0 rfl ?_
  refine aw_cVv dX7_clearLine_1 oX7_remember vX7_remember rfl lX7_57 (kX7_remember hC) rfl (hp_132 _) rfl rfl rfl (Nat.le_of_ble_eq_true rfl) (by decide) (Nat.le_of_ble_eq_true rfl) ?_
  rintro d1 ⟨f1, hC1⟩
  have hs1 : KS 0 d1 y.1 := hC1.1.1
  refine aw_aload_n dX7_clearLine_4 rfl ?_
  refine aw_gf dX7_clearLine_5 (hp_132 _) rfl fX7_24 (by decide) rfl ?_
  refine aw_cVP dX7_clearLine_8 oX5_placed vX5_placed rfl lX7_230 (kX5_placed (q := y.1) hs1 ok) rfl (hp_133 _) rfl rfl rfl (Nat.le_of_ble_eq_true rfl) (by decide) (Nat.le_of_ble_eq_true rfl) ?_
  refine aw_cSP dX7_clearLine_11 oJ6_bitCount_0f7a4 sJ6_bitCount_0f7a4 rfl lX7_134 (kJ6_bitCount_0f7a4 (s := tiI y.1 0 7) (tiI_lt _ _ _)) rfl rfl (Nat.le_of_ble_eq_true rfl) (by decide) (Nat.le_of_ble_eq_true rfl) ?_
  refine aw_istore_n dX7_clearLine_14 (by decide) rfl ?_
  refine aw_aload_n dX7_clearLine_15 rfl ?_
  refine aw_gf dX7_clearLine_16 (hp_132 _) rfl fX7_12 (by decide) rfl ?_
  refine aw_cVv dX7_clearLine_19 oX4_takeAllOut vX4_takeAllOut rfl lX7_265 (kX4_takeAllOut (q := y.1) hs1 ok) rfl (hp_0 _) rfl rfl rfl (Nat.le_of_ble_eq_true rfl) (by decide) (Nat.le_of_ble_eq_true rfl) ?_
  rintro d2 ⟨g2, hs2⟩
  refine aw_iload_n dX7_clearLine_22 rfl ?_
  exact aw_endI dX7_clearLine_23 rfl (PO_ch hC1 f1 (fN_NW g2) hs2 (QOK_clrP ok) (by rw [pc_tiI ok]))

set_option maxHeartbeats 4000000 in
set_option maxRecDepth 100000 in
theorem kX7_station {y : Sy} {d : Dt} (hC : CC d y) {s w : Int32} : AO mX7_station 16 [.ref 132, .int s, .int w] d [exI, exA] (oStation y s w) := by
  show AW mX7_station 16 true (PIx (PO d (oStation y s w)) (XO d [exI, exA] (oStation y s w))) 4 24 0 [(0, .ref 132), (1, .int s), (2, .int w)] [] (HP d)
  have hs := hC.1.1
  have ok := hC.1.2
  have h12 := ok.2.1
  refine aw_iload_n dX7_station_0 rfl ?_
  refine aw_cSP dX7_station_1 oX7_isStation sX7_isStation rfl lX7_82 kX7_isStation rfl rfl (Nat.le_of_ble_eq_true rfl) (by decide) (Nat.le_of_ble_eq_true rfl) ?_
  refine aw_ck dX7_station_4 oX7_checkIndex sX7_checkIndex rfl lX7_64 kX7_checkIndex (Nat.le_of_ble_eq_true rfl) (by decide) (Nat.le_of_ble_eq_true rfl) (by decide) (by decide) (fun x4 => ?_) (fun x4 => ?_)
  · exact (by unfold oStation; rw [if_neg (b2d_f x4)]; exact ⟨fC_r d, hC, Nat.succ_ne_zero _, rfl⟩)
  refine aw_iload_n dX7_station_7 rfl ?_
  refine aw_iconst (v := 0) dX7_station_8 (by decide) ?_
  refine aw_iconst (v := 5) dX7_station_9 (by decide) ?_
  refine aw_cSP dX7_station_10 oX7_isIn sX7_isIn rfl lX7_49 kX7_isIn rfl rfl (Nat.le_of_ble_eq_true rfl) (by decide) (Nat.le_of_ble_eq_true rfl) ?_
  refine aw_ck dX7_station_13 oX7_checkArgument sX7_checkArgument rfl lX7_53 kX7_checkArgument (Nat.le_of_ble_eq_true rfl) (by decide) (Nat.le_of_ble_eq_true rfl) (by decide) (by decide) (fun x13 => ?_) (fun x13 => ?_)
  · exact (by unfold oStation; rw [if_pos (b2d_t x4), if_neg (b2d_f x13)]; exact ⟨fC_r d, hC, Nat.succ_ne_zero _, rfl⟩)
  have hg1 := b2d_t x4
  have hg2 := b2d_t x13
  obtain ⟨k, rfl, hk1, hk2⟩ := in_nI (a := 0) (b := 7) rfl rfl (by decide) (by decide) (hg1)
  obtain ⟨i, rfl, hi1, hi2⟩ := in_nI (a := 0) (b := 5) rfl rfl (by decide) (by decide) (hg2)
  rcases (show i = 0 ∨ i = 1 ∨ i = 2 ∨ i = 3 ∨ i = 4 ∨ i = 5 by omega) with rfl | rfl | rfl | rfl | rfl | rfl
  · refine aw_iload_n dX7_station_16 rfl ?_
    refine aw_tabIn (off := 35) (tgt := 52) dX7_station_17 (by decide) (by decide) (by decide) (by decide) ?_
    refine aw_aload_n dX7_station_52 rfl ?_
    refine aw_gf dX7_station_53 (hp_132 _) rfl fX7_24 (by decide) rfl ?_
    refine aw_iload_n dX7_station_56 rfl ?_
    refine aw_iload_n dX7_station_57 rfl ?_
    refine aw_cVP dX7_station_58 oX5_tasksIn vX5_tasksIn rfl lX7_194 (kX5_tasksIn hs ok) rfl (hp_133 _) rfl rfl rfl (Nat.le_of_ble_eq_true rfl) (by decide) (Nat.le_of_ble_eq_true rfl) ?_
    exact aw_endI dX7_station_61 rfl (by unfold oStation; rw [if_pos hg1, if_pos hg2, ivn (by omega), ivn (by omega)]; exact PO_v (fC_r d) hC (by rw [tiI_s ok (by omega)]; rfl))
  · refine aw_iload_n dX7_station_16 rfl ?_
    refine aw_tabIn (off := 45) (tgt := 62) dX7_station_17 (by decide) (by decide) (by decide) (by decide) ?_
    refine aw_aload_n dX7_station_62 rfl ?_
    refine aw_gf dX7_station_63 (hp_132 _) rfl fX7_12 (by decide) rfl ?_
    refine aw_gf dX7_station_66 (hp_0 _) rfl fX7_86 (by decide) rfl ?_
    refine aw_iload_n dX7_station_69 rfl ?_
    refine aw_ialdN dX7_station_70 (hp_3 _) rfl (k) (by first | rfl | (simp only [li_0, li_1, li_2, li_3, li_4, li_5, li_7, li_8, li_9, li_11, li_12, li_16, li_17, li_31, li_32, li_60, li_77, li_80, li_89, li_99, li_101, li_112, li_113, li_256, li_999, li_1023, nI_add, pk_mul])) (by omega) (by decide) ?_
    exact aw_endI dX7_station_71 rfl (by unfold oStation; rw [if_pos hg1, if_pos hg2, ivn (by omega), ivn (by omega)]; exact PO_v (fC_r d) hC (hs 3 k (by decide) (show k < 8 by omega)))
  · refine aw_iload_n dX7_station_16 rfl ?_
    refine aw_tabIn (off := 55) (tgt := 72) dX7_station_17 (by decide) (by decide) (by decide) (by decide) ?_
    refine aw_aload_n dX7_station_72 rfl ?_
    refine aw_gf dX7_station_73 (hp_132 _) rfl fX7_24 (by decide) rfl ?_
    refine aw_iload_n dX7_station_76 rfl ?_
    refine aw_cVI dX7_station_77 oX5_loadOf vX5_loadOf rfl lX7_197 (kX5_loadOf hs ok (by omega)) rfl (hp_133 _) rfl rfl rfl (Nat.le_of_ble_eq_true rfl) (by decide) (Nat.le_of_ble_eq_true rfl) ?_
    rintro _ d1 ⟨g1, rfl⟩
    exact aw_endI dX7_station_80 rfl (by unfold oStation; rw [if_pos hg1, if_pos hg2, ivn (by omega), ivn (by omega)]; exact PO_v (fW_C g1) (CC_W hC g1) rfl)
  · refine aw_iload_n dX7_station_16 rfl ?_
    refine aw_tabIn (off := 64) (tgt := 81) dX7_station_17 (by decide) (by decide) (by decide) (by decide) ?_
    refine aw_aload_n dX7_station_81 rfl ?_
    refine aw_gf dX7_station_82 (hp_132 _) rfl fX7_24 (by decide) rfl ?_
    refine aw_iload_n dX7_station_85 rfl ?_
    refine aw_cVI dX7_station_86 oX5_isFitting vX5_isFitting rfl lX7_200 (kX5_isFitting hs ok (by omega)) rfl (hp_133 _) rfl rfl rfl (Nat.le_of_ble_eq_true rfl) (by decide) (Nat.le_of_ble_eq_true rfl) ?_
    rintro _ d1 ⟨g1, rfl⟩
    refine aw_if_eq 96 dX7_station_89 (by decide) (fun c89 => ?_) (fun c89 => ?_)
    · refine aw_iconst (v := 0) dX7_station_96 (by decide) ?_
      exact aw_endI dX7_station_97 rfl (by unfold oStation; rw [if_pos hg1, if_pos hg2, ivn (by omega), ivn (by omega)]; exact PO_v (fW_C g1) (CC_W hC g1) c89.symm)
    · refine aw_iconst (v := 1) dX7_station_92 (by decide) ?_
      refine aw_goto (tgt := 97) dX7_station_93 (by decide) ?_
      exact aw_endI dX7_station_97 rfl (by unfold oStation; rw [if_pos hg1, if_pos hg2, ivn (by omega), ivn (by omega)]; exact PO_v (fW_C g1) (CC_W hC g1) (bT (b2i_ne.mp c89)).symm)
  · refine aw_iload_n dX7_station_16 rfl ?_
    refine aw_tabIn (off := 81) (tgt := 98) dX7_station_17 (by decide) (by decide) (by decide) (by decide) ?_
    refine aw_aload_n dX7_station_98 rfl ?_
    refine aw_gf dX7_station_99 (hp_132 _) rfl fX7_24 (by decide) rfl ?_
    refine aw_iload_n dX7_station_102 rfl ?_
    refine aw_cVR dX7_station_103 oX5_workIn vX5_workIn rfl lX7_203 (kX5_workIn hs ok (by omega)) rfl (hp_133 _) rfl rfl rfl (Nat.le_of_ble_eq_true rfl) (by decide) (Nat.le_of_ble_eq_true rfl) ?_
    rintro _ d1 ⟨rfl, g1, hW⟩
    refine aw_gf dX7_station_106 (hp_134 _) rfl fX7_207 (by decide) rfl ?_
    exact aw_endI dX7_station_109 rfl (by unfold oStation; rw [if_pos hg1, if_pos hg2, ivn (by omega), ivn (by omega)]; exact PO_v (fW_C g1) (CC_W hC g1) hW.2.1)
  · refine aw_iload_n dX7_station_16 rfl ?_
    refine aw_tabOut (tgt := 110) dX7_station_17 (by decide) (by decide) ?_
    refine aw_aload_n dX7_station_110 rfl ?_
    refine aw_gf dX7_station_111 (hp_132 _) rfl fX7_24 (by decide) rfl ?_
    refine aw_iload_n dX7_station_114 rfl ?_
    refine aw_cVI dX7_station_115 oX5_lackOf vX5_lackOf rfl lX7_211 (kX5_lackOf hs ok (by omega)) rfl (hp_133 _) rfl rfl rfl (Nat.le_of_ble_eq_true rfl) (by decide) (Nat.le_of_ble_eq_true rfl) ?_
    rintro _ d1 ⟨g1, rfl⟩
    exact aw_endI dX7_station_118 rfl (by unfold oStation; rw [if_pos hg1, if_pos hg2, ivn (by omega), ivn (by omega)]; exact PO_v (fW_C g1) (CC_W hC g1) rfl)

set_option maxHeartbeats 4000000 in
set_option maxRecDepth 100000 in
theorem kX7_time_t {y : Sy} {d : Dt} (hC : CC d y) {s m : Int32} : AO mX7_time 16 [.ref 132, .int s, .int m, .int 1] d [exI] (oTime y s m true) := by
  show AW mX7_time 16 true (PIx (PO d (oTime y s m true)) (XO d [exI] (oTime y s m true))) 4 24 0 [(0, .ref 132), (1, .int s), (2, .int m), (3, .int 1)] [] (HP d)
  have hs := hC.1.1
  have ok := hC.1.2
  have h12 := ok.2.1
  have hM3 := ok.1
  refine aw_join (P := fun v => v = b2i (decide (gI 0 7 s ∧ (0 ≤ m ∧ m ≤ nI (y.1 0 0) - 1)))) 29 (fun v hv29 => ?_) (fun kJ29 => ?_)
  · subst hv29
    refine aw_ck dX7_time_29 oX7_checkIndex sX7_checkIndex rfl lX7_64 kX7_checkIndex (Nat.le_of_ble_eq_true rfl) (by decide) (Nat.le_of_ble_eq_true rfl) (by decide) (by decide) (fun x29 => ?_) (fun x29 => ?_)
    · exact (by unfold oTime; rw [if_neg (b2d_f x29)]; exact ⟨fC_r d, hC, Nat.succ_ne_zero _, rfl⟩)
    have hg := b2d_t x29
    obtain ⟨k, rfl, hk1, hk2⟩ := in_nI (a := 0) (b := 7) rfl rfl (by decide) (by decide) (hg.1)
    obtain ⟨n, rfl, hn1, hn2⟩ := in_nI (a := 0) (b := y.1 0 0 - 1) rfl (tv_s hM3.1) (by omega) (by omega) (hg.2)
    refine aw_aload_n dX7_time_32 rfl ?_
    refine aw_gf dX7_time_33 (hp_132 _) rfl fX7_24 (by decide) rfl ?_
    refine aw_iload_n dX7_time_36 rfl ?_
    refine aw_cVR dX7_time_37 oX5_workIn vX5_workIn rfl lX7_203 (kX5_workIn hs ok (by omega)) rfl (hp_133 _) rfl rfl rfl (Nat.le_of_ble_eq_true rfl) (by decide) (Nat.le_of_ble_eq_true rfl) ?_
    rintro _ d1 ⟨rfl, g1, hW⟩
    refine aw_astore dX7_time_40 (by decide) rfl ?_
    refine aw_iload_n dX7_time_42 rfl ?_
    refine aw_if_eq 56 dX7_time_43 (by decide) (fun c43 => (by first | exact absurd c43 (by decide) | exact absurd rfl c43)) (fun _ => ?_)
    refine aw_aload dX7_time_46 rfl ?_
    refine aw_gf dX7_time_48 (hp_134 _) rfl fX7_214 (by decide) rfl ?_
    refine aw_iload_n dX7_time_51 rfl ?_
    refine aw_ialdN dX7_time_52 (hp_136 _) rfl (n) (by first | rfl | (simp only [li_0, li_1, li_2, li_3, li_4, li_5, li_7, li_8, li_9, li_11, li_12, li_16, li_17, li_31, li_32, li_60, li_77, li_80, li_89, li_99, li_101, li_112, li_113, li_256, li_999, li_1023, nI_add, pk_mul])) (by omega) (by decide) ?_
    refine aw_goto (tgt := 63) dX7_time_53 (by decide) ?_
    exact aw_endI dX7_time_63 rfl (by unfold oTime; rw [if_pos hg, ivn (by omega), ivn (by omega)]; exact PO_v (fW_C g1) (CC_W hC g1) (hW.2.2.2.2.2.1 n (by omega)))
  · refine aw_iload_n dX7_time_0 rfl ?_
    refine aw_cSP dX7_time_1 oX7_isStation sX7_isStation rfl lX7_82 kX7_isStation rfl rfl (Nat.le_of_ble_eq_true rfl) (by decide) (Nat.le_of_ble_eq_true rfl) ?_
    refine aw_if_eq 28 dX7_time_4 (by decide) (fun c4 => ?_) (fun c4 => ?_)
    · refine aw_iconst (v := 0) dX7_time_28 (by decide) ?_
      exact kJ29 _ (b2i_f (fun z => b2d_f c4 z.1)).symm
    · refine aw_iload_n dX7_time_7 rfl ?_
      refine aw_iconst (v := 0) dX7_time_8 (by decide) ?_
      refine aw_aload_n dX7_time_9 rfl ?_
      refine aw_gf dX7_time_10 (hp_132 _) rfl fX7_12 (by decide) rfl ?_
      refine aw_gf dX7_time_13 (hp_0 _) rfl fX7_60 (by decide) rfl ?_
      rw [show d.1 0 (0) = nI (y.1 0 (0)) from hs 0 (0) (by decide) (show (0) < 2 by omega)]
      refine aw_iconst (v := 1) dX7_time_16 (by decide) ?_
      refine aw_isub dX7_time_17 ?_
      refine aw_cSP dX7_time_18 oX7_isIn sX7_isIn rfl lX7_49 kX7_isIn rfl rfl (Nat.le_of_ble_eq_true rfl) (by decide) (Nat.le_of_ble_eq_true rfl) ?_
      refine aw_if_eq 28 dX7_time_21 (by decide) (fun c21 => ?_) (fun c21 => ?_)
      · refine aw_iconst (v := 0) dX7_time_28 (by decide) ?_
        exact kJ29 _ (b2i_f (fun z => b2d_f c21 z.2)).symm
      · refine aw_iconst (v := 1) dX7_time_24 (by decide) ?_
        refine aw_goto (tgt := 29) dX7_time_25 (by decide) ?_
        exact kJ29 _ (b2i_t ⟨b2d_t c4, b2d_t c21⟩).symm

set_option maxHeartbeats 4000000 in
set_option maxRecDepth 100000 in
theorem kX7_time_f {y : Sy} {d : Dt} (hC : CC d y) {s m : Int32} : AO mX7_time 16 [.ref 132, .int s, .int m, .int 0] d [exI] (oTime y s m false) := by
  show AW mX7_time 16 true (PIx (PO d (oTime y s m false)) (XO d [exI] (oTime y s m false))) 4 24 0 [(0, .ref 132), (1, .int s), (2, .int m), (3, .int 0)] [] (HP d)
  have hs := hC.1.1
  have ok := hC.1.2
  have h12 := ok.2.1
  have hM3 := ok.1
  refine aw_join (P := fun v => v = b2i (decide (gI 0 7 s ∧ (0 ≤ m ∧ m ≤ nI (y.1 0 0) - 1)))) 29 (fun v hv29 => ?_) (fun kJ29 => ?_)
  · subst hv29
    refine aw_ck dX7_time_29 oX7_checkIndex sX7_checkIndex rfl lX7_64 kX7_checkIndex (Nat.le_of_ble_eq_true rfl) (by decide) (Nat.le_of_ble_eq_true rfl) (by decide) (by decide) (fun x29 => ?_) (fun x29 => ?_)
    · exact (by unfold oTime; rw [if_neg (b2d_f x29)]; exact ⟨fC_r d, hC, Nat.succ_ne_zero _, rfl⟩)
    have hg := b2d_t x29
    obtain ⟨k, rfl, hk1, hk2⟩ := in_nI (a := 0) (b := 7) rfl rfl (by decide) (by decide) (hg.1)
    obtain ⟨n, rfl, hn1, hn2⟩ := in_nI (a := 0) (b := y.1 0 0 - 1) rfl (tv_s hM3.1) (by omega) (by omega) (hg.2)
    refine aw_aload_n dX7_time_32 rfl ?_
    refine aw_gf dX7_time_33 (hp_132 _) rfl fX7_24 (by decide) rfl ?_
    refine aw_iload_n dX7_time_36 rfl ?_
    refine aw_cVR dX7_time_37 oX5_workIn vX5_workIn rfl lX7_203 (kX5_workIn hs ok (by omega)) rfl (hp_133 _) rfl rfl rfl (Nat.le_of_ble_eq_true rfl) (by decide) (Nat.le_of_ble_eq_true rfl) ?_
    rintro _ d1 ⟨rfl, g1, hW⟩
    refine aw_astore dX7_time_40 (by decide) rfl ?_
    refine aw_iload_n dX7_time_42 rfl ?_
    refine aw_if_eq 56 dX7_time_43 (by decide) (fun _ => ?_) (fun c43 => (by first | exact absurd c43 (by decide) | exact absurd rfl c43))
    refine aw_aload dX7_time_56 rfl ?_
    refine aw_gf dX7_time_58 (hp_134 _) rfl fX7_217 (by decide) rfl ?_
    refine aw_iload_n dX7_time_61 rfl ?_
    refine aw_ialdN dX7_time_62 (hp_137 _) rfl (n) (by first | rfl | (simp only [li_0, li_1, li_2, li_3, li_4, li_5, li_7, li_8, li_9, li_11, li_12, li_16, li_17, li_31, li_32, li_60, li_77, li_80, li_89, li_99, li_101, li_112, li_113, li_256, li_999, li_1023, nI_add, pk_mul])) (by omega) (by decide) ?_
    exact aw_endI dX7_time_63 rfl (by unfold oTime; rw [if_pos hg, ivn (by omega), ivn (by omega)]; exact PO_v (fW_C g1) (CC_W hC g1) (hW.2.2.2.2.2.2 n (by omega)))
  · refine aw_iload_n dX7_time_0 rfl ?_
    refine aw_cSP dX7_time_1 oX7_isStation sX7_isStation rfl lX7_82 kX7_isStation rfl rfl (Nat.le_of_ble_eq_true rfl) (by decide) (Nat.le_of_ble_eq_true rfl) ?_
    refine aw_if_eq 28 dX7_time_4 (by decide) (fun c4 => ?_) (fun c4 => ?_)
    · refine aw_iconst (v := 0) dX7_time_28 (by decide) ?_
      exact kJ29 _ (b2i_f (fun z => b2d_f c4 z.1)).symm
    · refine aw_iload_n dX7_time_7 rfl ?_
      refine aw_iconst (v := 0) dX7_time_8 (by decide) ?_
      refine aw_aload_n dX7_time_9 rfl ?_
      refine aw_gf dX7_time_10 (hp_132 _) rfl fX7_12 (by decide) rfl ?_
      refine aw_gf dX7_time_13 (hp_0 _) rfl fX7_60 (by decide) rfl ?_
      rw [show d.1 0 (0) = nI (y.1 0 (0)) from hs 0 (0) (by decide) (show (0) < 2 by omega)]
      refine aw_iconst (v := 1) dX7_time_16 (by decide) ?_
      refine aw_isub dX7_time_17 ?_
      refine aw_cSP dX7_time_18 oX7_isIn sX7_isIn rfl lX7_49 kX7_isIn rfl rfl (Nat.le_of_ble_eq_true rfl) (by decide) (Nat.le_of_ble_eq_true rfl) ?_
      refine aw_if_eq 28 dX7_time_21 (by decide) (fun c21 => ?_) (fun c21 => ?_)
      · refine aw_iconst (v := 0) dX7_time_28 (by decide) ?_
        exact kJ29 _ (b2i_f (fun z => b2d_f c21 z.2)).symm
      · refine aw_iconst (v := 1) dX7_time_24 (by decide) ?_
        refine aw_goto (tgt := 29) dX7_time_25 (by decide) ?_
        exact kJ29 _ (b2i_t ⟨b2d_t c4, b2d_t c21⟩).symm

set_option maxHeartbeats 4000000 in
set_option maxRecDepth 100000 in
theorem kX7_quotientUp {a b : Nat} {d : Dt} (hb : 1 ≤ b) (hab : a + b < 2 ^ 31) : CP mX7_quotientUp 1 [.int (nI a), .int (nI b)] d (nI ((a + b - 1) / b)) := by
  show AW mX7_quotientUp 1 true (PIx (fun y d' => y = nI ((a + b - 1) / b) ∧ d' = d) nX) 0 0 0 [(0, .int (nI a)), (1, .int (nI b))] [] (HP d)
  refine aw_iload_n dX7_quotientUp_0 rfl ?_
  refine aw_if_gt 8 dX7_quotientUp_1 (by decide) (fun c1 => ?_) (fun c1 => (show False from absurd ((lt_nI (show (0 : Int32) = nI 0 from rfl) (rfl : nI b = nI b) (by omega) (by omega)).mpr (show 0 < b by omega)) c1).elim)
  refine aw_iload_n dX7_quotientUp_8 rfl ?_
  refine aw_iload_n dX7_quotientUp_9 rfl ?_
  refine aw_iadd dX7_quotientUp_10 ?_
  refine aw_iconst (v := 1) dX7_quotientUp_11 (by decide) ?_
  refine aw_isub dX7_quotientUp_12 ?_
  refine aw_iload_n dX7_quotientUp_13 rfl ?_
  rw [nI_add, tv_s (by omega)]
  refine aw_idiv dX7_quotientUp_14 (nI_ne0 (by omega) (by omega)) ?_
  exact aw_endI dX7_quotientUp_15 rfl ⟨by rw [pk_div (by omega) (by omega) (by omega)], rfl⟩

set_option maxHeartbeats 4000000 in
set_option maxRecDepth 100000 in
theorem kX7_line {y : Sy} {d : Dt} (hC : CC d y) {w : Int32} : AO mX7_line 16 [.ref 132, .int w] d [exA] (oLine y w) := by
  show AW mX7_line 16 true (PIx (PO d (oLine y w)) (XO d [exA] (oLine y w))) 4 24 0 [(0, .ref 132), (1, .int w)] [] (HP d)
  have hs := hC.1.1
  have ok := hC.1.2
  have h12 := ok.2.1
  have htd := td_le ok
  have hC0 := ok.2.2.2.1
  have hroom : 1 ≤ 1 * y.1 2 0 * td y.1 ∧ 1 * y.1 2 0 * td y.1 ≤ 999 * 27 := by rw [Nat.one_mul]; exact ⟨Nat.mul_pos (by omega) (by omega), Nat.mul_le_mul (by omega) htd.2⟩
  have hw9 := wts_le ok 4095
  refine aw_iload_n dX7_line_0 rfl ?_
  refine aw_iconst (v := 0) dX7_line_1 (by decide) ?_
  refine aw_bipush (v := 7) dX7_line_2 (by decide) ?_
  refine aw_cSP dX7_line_4 oX7_isIn sX7_isIn rfl lX7_49 kX7_isIn rfl rfl (Nat.le_of_ble_eq_true rfl) (by decide) (Nat.le_of_ble_eq_true rfl) ?_
  refine aw_ck dX7_line_7 oX7_checkArgument sX7_checkArgument rfl lX7_53 kX7_checkArgument (Nat.le_of_ble_eq_true rfl) (by decide) (Nat.le_of_ble_eq_true rfl) (by decide) (by decide) (fun x7 => ?_) (fun x7 => ?_)
  · exact (by unfold oLine; rw [if_neg (b2d_f x7)]; exact ⟨fC_r d, hC, Nat.succ_ne_zero _, rfl⟩)
  have hg := b2d_t x7
  obtain ⟨i, rfl, hi1, hi2⟩ := in_nI (a := 0) (b := 7) rfl rfl (by decide) (by decide) (hg)
  rcases (show i = 0 ∨ i = 1 ∨ i = 2 ∨ i = 3 ∨ i = 4 ∨ i = 5 ∨ i = 6 ∨ i = 7 by omega) with rfl | rfl | rfl | rfl | rfl | rfl | rfl | rfl
  · refine aw_iload_n dX7_line_10 rfl ?_
    refine aw_tabIn (off := 41) (tgt := 52) dX7_line_11 (by decide) (by decide) (by decide) (by decide) ?_
    refine aw_aload_n dX7_line_52 rfl ?_
    refine aw_gf dX7_line_53 (hp_132 _) rfl fX7_24 (by decide) rfl ?_
    refine aw_cVP dX7_line_56 oX5_countUsed vX5_countUsed rfl lX7_224 (kX5_countUsed hs ok) rfl (hp_133 _) rfl rfl rfl (Nat.le_of_ble_eq_true rfl) (by decide) (Nat.le_of_ble_eq_true rfl) ?_
    exact aw_endI dX7_line_59 rfl (by unfold oLine; rw [if_pos hg, ivn (by omega)]; exact PO_v (fC_r d) hC rfl)
  · refine aw_iload_n dX7_line_10 rfl ?_
    refine aw_tabIn (off := 49) (tgt := 60) dX7_line_11 (by decide) (by decide) (by decide) (by decide) ?_
    refine aw_aload_n dX7_line_60 rfl ?_
    refine aw_gf dX7_line_61 (hp_132 _) rfl fX7_24 (by decide) rfl ?_
    refine aw_cVP dX7_line_64 oX5_usedCopies vX5_usedCopies rfl lX7_227 (kX5_usedCopies hs ok) rfl (hp_133 _) rfl rfl rfl (Nat.le_of_ble_eq_true rfl) (by decide) (Nat.le_of_ble_eq_true rfl) ?_
    exact aw_endI dX7_line_67 rfl (by unfold oLine; rw [if_pos hg, ivn (by omega)]; exact PO_v (fC_r d) hC rfl)
  · refine aw_iload_n dX7_line_10 rfl ?_
    refine aw_tabIn (off := 57) (tgt := 68) dX7_line_11 (by decide) (by decide) (by decide) (by decide) ?_
    refine aw_aload_n dX7_line_68 rfl ?_
    refine aw_gf dX7_line_69 (hp_132 _) rfl fX7_24 (by decide) rfl ?_
    refine aw_cVP dX7_line_72 oX5_placed vX5_placed rfl lX7_230 (kX5_placed hs ok) rfl (hp_133 _) rfl rfl rfl (Nat.le_of_ble_eq_true rfl) (by decide) (Nat.le_of_ble_eq_true rfl) ?_
    refine aw_cSP dX7_line_75 oJ6_bitCount_0f7a4 sJ6_bitCount_0f7a4 rfl lX7_134 (kJ6_bitCount_0f7a4 (s := tiI y.1 0 7) (tiI_lt _ _ _)) rfl rfl (Nat.le_of_ble_eq_true rfl) (by decide) (Nat.le_of_ble_eq_true rfl) ?_
    exact aw_endI dX7_line_78 rfl (by unfold oLine; rw [if_pos hg, ivn (by omega)]; exact PO_v (fC_r d) hC (by rw [pc_tiI ok]; rfl))
  · refine aw_iload_n dX7_line_10 rfl ?_
    refine aw_tabIn (off := 68) (tgt := 79) dX7_line_11 (by decide) (by decide) (by decide) (by decide) ?_
    refine aw_aload_n dX7_line_79 rfl ?_
    refine aw_gf dX7_line_80 (hp_132 _) rfl fX7_24 (by decide) rfl ?_
    refine aw_cVI dX7_line_83 oX5_busiest vX5_busiest rfl lX7_233 (kX5_busiest hs ok) rfl (hp_133 _) rfl rfl rfl (Nat.le_of_ble_eq_true rfl) (by decide) (Nat.le_of_ble_eq_true rfl) ?_
    rintro _ d1 ⟨g1, rfl⟩
    exact aw_endI dX7_line_86 rfl (by unfold oLine; rw [if_pos hg, ivn (by omega)]; exact PO_v (fW_C g1) (CC_W hC g1) rfl)
  · refine aw_iload_n dX7_line_10 rfl ?_
    refine aw_tabIn (off := 76) (tgt := 87) dX7_line_11 (by decide) (by decide) (by decide) (by decide) ?_
    refine aw_aload_n dX7_line_87 rfl ?_
    refine aw_gf dX7_line_88 (hp_132 _) rfl fX7_24 (by decide) rfl ?_
    refine aw_cVI dX7_line_91 oX5_sumOfLoads vX5_sumOfLoads rfl lX7_236 (kX5_sumOfLoads hs ok) rfl (hp_133 _) rfl rfl rfl (Nat.le_of_ble_eq_true rfl) (by decide) (Nat.le_of_ble_eq_true rfl) ?_
    rintro _ d1 ⟨g1, rfl⟩
    exact aw_endI dX7_line_94 rfl (by unfold oLine; rw [if_pos hg, ivn (by omega)]; exact PO_v (fW_C g1) (CC_W hC g1) rfl)
  · refine aw_iload_n dX7_line_10 rfl ?_
    refine aw_tabIn (off := 84) (tgt := 95) dX7_line_11 (by decide) (by decide) (by decide) (by decide) ?_
    refine aw_aload_n dX7_line_95 rfl ?_
    refine aw_gf dX7_line_96 (hp_132 _) rfl fX7_24 (by decide) rfl ?_
    refine aw_cVI dX7_line_99 oX5_countRefused vX5_countRefused rfl lX7_239 (kX5_countRefused hs ok) rfl (hp_133 _) rfl rfl rfl (Nat.le_of_ble_eq_true rfl) (by decide) (Nat.le_of_ble_eq_true rfl) ?_
    rintro _ d1 ⟨g1, rfl⟩
    exact aw_endI dX7_line_102 rfl (by unfold oLine; rw [if_pos hg, ivn (by omega)]; exact PO_v (fW_C g1) (CC_W hC g1) rfl)
  · refine aw_iload_n dX7_line_10 rfl ?_
    refine aw_tabIn (off := 92) (tgt := 103) dX7_line_11 (by decide) (by decide) (by decide) (by decide) ?_
    refine aw_aload_n dX7_line_103 rfl ?_
    refine aw_gf dX7_line_104 (hp_132 _) rfl fX7_24 (by decide) rfl ?_
    refine aw_cVI dX7_line_107 oX5_countUnfitting vX5_countUnfitting rfl lX7_242 (kX5_countUnfitting hs ok) rfl (hp_133 _) rfl rfl rfl (Nat.le_of_ble_eq_true rfl) (by decide) (Nat.le_of_ble_eq_true rfl) ?_
    rintro _ d1 ⟨g1, rfl⟩
    exact aw_endI dX7_line_110 rfl (by unfold oLine; rw [if_pos hg, ivn (by omega)]; exact PO_v (fW_C g1) (CC_W hC g1) rfl)
  · refine aw_iload_n dX7_line_10 rfl ?_
    refine aw_tabOut (tgt := 111) dX7_line_11 (by decide) (by decide) ?_
    refine aw_aload_n dX7_line_111 rfl ?_
    refine aw_gf dX7_line_112 (hp_132 _) rfl fX7_12 (by decide) rfl ?_
    refine aw_sipush (v := 4095) dX7_line_115 (by decide) ?_
    refine aw_cVP dX7_line_118 oX4_weightedTimes vX4_weightedTimes rfl lX7_245 (kX4_weightedTimes hs ok (S := 4095) (by decide)) rfl (hp_0 _) rfl rfl rfl (Nat.le_of_ble_eq_true rfl) (by decide) (Nat.le_of_ble_eq_true rfl) ?_
    refine aw_aload_n dX7_line_121 rfl ?_
    refine aw_gf dX7_line_122 (hp_132 _) rfl fX7_12 (by decide) rfl ?_
    refine aw_iconst (v := 1) dX7_line_125 (by decide) ?_
    refine aw_cVP dX7_line_126 oX4_capacity vX4_capacity rfl lX7_248 (kX4_capacity hs ok (c := 1)) rfl (hp_0 _) rfl rfl rfl (Nat.le_of_ble_eq_true rfl) (by decide) (Nat.le_of_ble_eq_true rfl) ?_
    refine aw_cSP dX7_line_129 oX7_quotientUp sX7_quotientUp rfl lX7_251 (kX7_quotientUp (a := wts y.1 4095) (b := 1 * y.1 2 0 * td y.1) (by omega) (by omega)) rfl rfl (Nat.le_of_ble_eq_true rfl) (by decide) (Nat.le_of_ble_eq_true rfl) ?_
    exact aw_endI dX7_line_132 rfl (by unfold oLine; rw [if_pos hg, ivn (by omega)]; exact PO_v (fC_r d) hC (by rw [wts_all ok, Nat.one_mul]; rfl))
