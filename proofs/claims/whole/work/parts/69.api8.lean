set_option maxHeartbeats 4000000 in
set_option maxRecDepth 100000 in
theorem kX7_remember2 {d : Dt} {y : Sy} (h : CC d y) : CV mX7_remember 4 [.ref 132] d (fun d' => (fC d d' ∧ CC d' (push2 y y.1 y.2.2.2.1)) ∧ ∀ i, 132 ≤ i → i ≠ 148 → d'.1 i = d.1 i) := by
  show AW mX7_remember 4 true (PVx (fun d' => (fC d d' ∧ CC d' (push2 y y.1 y.2.2.2.1)) ∧ ∀ i, 132 ≤ i → i ≠ 148 → d'.1 i = d.1 i) nX) 0 0 0 [(0, .ref 132)] [] (HP d)
  obtain ⟨⟨hk, ok⟩, ⟨nx, hnx, h1, h2, h3, h5⟩, hS, hW, hT⟩ := h
  refine aw_aload_n dX7_remember_0 rfl ?_
  refine aw_gf dX7_remember_1 (hp_132 _) rfl fX7_38 (by decide) rfl ?_
  refine aw_aload_n dX7_remember_4 rfl ?_
  refine aw_gf dX7_remember_5 (hp_132 _) rfl fX7_12 (by decide) rfl ?_
  refine aw_cVv dX7_remember_8 oX1_begin vX1_begin rfl lX7_268 (kX1_begin hnx h1) rfl (hp_148 _) rfl rfl rfl (Nat.le_of_ble_eq_true rfl) (by decide) (Nat.le_of_ble_eq_true rfl) ?_
  rintro d1 hc
  have h11 : d1.1 148 1 = nI nx := by rw [CP_out hc (by omega)]; exact h1
  have h12 : d1.1 148 2 = nI y.2.1.length := by rw [CP_out hc (by omega)]; exact h2
  refine aw_aload_n dX7_remember_11 rfl ?_
  refine aw_gf dX7_remember_12 (hp_132 _) rfl fX7_38 (by decide) rfl ?_
  refine aw_cVv dX7_remember_15 oX1_finish vX1_finish rfl lX7_277 (kX1_finish hnx h11 h3 h12) rfl (hp_148 _) rfl rfl rfl (Nat.le_of_ble_eq_true rfl) (by decide) (Nat.le_of_ble_eq_true rfl) ?_
  rintro _ rfl
  have e : ∀ (f g : Nat → Int32) i, i ≠ 148 → (dI (dI d1 148 f) 148 g).1 i = d1.1 i := fun f g i hi => by rw [dI_n _ _ hi, dI_n _ _ hi]
  refine aw_endV dX7_remember_18 rfl ⟨⟨fC_dI (fC_dI ⟨fun i hi => ⟨CP_out hc (by omega), by rw [hc.1]⟩, by rw [hc.1]⟩ (by decide) _) (by decide) _, ⟨KS_k hk (fun j hj => by rw [e _ _ _ (by omega), CP_out hc (by omega)]), ok⟩, ?_, SC_k hS (fun i a b => by rw [e _ _ _ (by omega), CP_out hc (by omega)]) (by rw [e _ _ _ (by decide), CP_out hc (by omega)]), ⟨by rw [e _ _ _ (by decide), CP_out hc (by omega)]; exact hW.1, hW.2⟩, ?_⟩, fun i a b => by rw [e _ _ _ b, CP_out hc (by omega)]⟩
  · refine HC_push hnx h3 h5 hk ok hc (fun i a b => e _ _ i (by omega)) ?_ ?_
    · rw [dI_s]; simp only [upd]; rw [if_neg (by decide), dI_s]; simp only [upd, if_true]
    · rw [dI_s]; simp only [upd, if_true]
  · show TP _ _ y.2.2.2.2
    rw [e _ _ 151 (by decide), e _ _ 150 (by decide), CP_out hc (by omega), CP_out hc (by omega)]
    exact hT

set_option maxHeartbeats 4000000 in
set_option maxRecDepth 100000 in
theorem kX7_takeLeast {y : Sy} {d : Dt} (hC : CC d y) (hE : ∀ x, CK mX7_checkElement exE x) : AO mX7_takeLeast 16 [.ref 132] d [exS, exE] (oTake y) := by
  show AW mX7_takeLeast 16 true (PIx (PO d (oTake y)) (XO d [exS, exE] (oTake y))) 4 24 0 [(0, .ref 132)] [] (HP d)
  have hs := hC.1.1
  have ok := hC.1.2
  have h12 := ok.2.1
  have hl9 := (lstQ_in y.1 9 (Nat.le_refl _)).1
  refine aw_join (P := fun v => v = b2i (decide (y.1 0 1 ≤ 8))) 17 (fun v hv17 => ?_) (fun kJ17 => ?_)
  · subst hv17
    refine aw_ck dX7_takeLeast_17 oX7_checkState sX7_checkState rfl lX7_96 kX7_checkState (Nat.le_of_ble_eq_true rfl) (by decide) (Nat.le_of_ble_eq_true rfl) (by decide) (by decide) (fun x17 => ?_) (fun x17 => ?_)
    · exact (by unfold oTake; rw [if_pos (by have := b2d_f x17; omega)]; exact ⟨fC_r d, hC, Nat.succ_ne_zero _, rfl⟩)
    have h8 := b2d_t x17
    refine aw_aload_n dX7_takeLeast_20 rfl ?_
    refine aw_gf dX7_takeLeast_21 (hp_132 _) rfl fX7_31 (by decide) rfl ?_
    refine aw_cVI dX7_takeLeast_24 oX3_findLeast vX3_findLeast rfl lX7_280 (kX3_findLeast hs ok h8) rfl (hp_138 _) rfl rfl rfl (Nat.le_of_ble_eq_true rfl) (by decide) (Nat.le_of_ble_eq_true rfl) ?_
    rintro _ d1 ⟨g1, rfl, h71, hf0⟩
    refine aw_if_lt 34 dX7_takeLeast_27 (by decide) (fun c27 => ?_) (fun c27 => ?_)
    · refine aw_iconst (v := 0) dX7_takeLeast_34 (by decide) ?_
      refine aw_ck dX7_takeLeast_35 oX7_checkElement sX7_checkElement rfl lX7_148 (hE _) (Nat.le_of_ble_eq_true rfl) (by decide) (Nat.le_of_ble_eq_true rfl) (by decide) (by decide) (fun x35 => ?_) (fun x35 => ?_)
      · exact (by unfold oTake; rw [if_neg (by omega), if_pos ((lst_lt0 hl9).mp c27)]; exact ⟨fP_C g1, CC_P hC g1, Nat.succ_ne_zero _, rfl⟩)
      exact absurd rfl x35
    · refine aw_iconst (v := 1) dX7_takeLeast_30 (by decide) ?_
      refine aw_goto (tgt := 35) dX7_takeLeast_31 (by decide) ?_
      refine aw_ck dX7_takeLeast_35 oX7_checkElement sX7_checkElement rfl lX7_148 (hE _) (Nat.le_of_ble_eq_true rfl) (by decide) (Nat.le_of_ble_eq_true rfl) (by decide) (by decide) (fun x35 => ?_) (fun x35 => ?_)
      · exact absurd x35 (by decide)
      have h0 : lstQ y.1 9 ≠ 0 := fun z => c27 ((lst_lt0 hl9).mpr z)
      obtain ⟨w, hw, hwe, hn8⟩ := lst_fst ok h0
      have hw31 : w < 2 ^ 31 := by have := fst_lt (q := y.1) h8 hn8 (ful_lt y.1); omega
      have hf1 : d1.1 146 (fulQ y.1) = nI w := by rw [hf0 h0, hw, pv_s]
      refine aw_aload_n dX7_takeLeast_38 rfl ?_
      refine aw_cVv dX7_takeLeast_39 oX7_remember vX7_remember rfl lX7_57 (kX7_remember2 (CC_P hC g1)) rfl (hp_132 _) rfl rfl rfl (Nat.le_of_ble_eq_true rfl) (by decide) (Nat.le_of_ble_eq_true rfl) ?_
      rintro d2 ⟨⟨f1, hC1⟩, hk2⟩
      have hs1 : KS 0 d2 y.1 := hC1.1.1
      have h72 : d2.1 138 7 = nI (fulQ y.1) := by rw [hk2 138 (by decide) (by decide)]; exact h71
      have hf2 : d2.1 146 (fulQ y.1) = nI w := by rw [hk2 146 (by decide) (by decide)]; exact hf1
      refine aw_iconst (v := 0) dX7_takeLeast_42 (by decide) ?_
      refine aw_istore_n dX7_takeLeast_43 (by decide) rfl ?_
      refine aw_iconst (v := 0) dX7_takeLeast_44 (by decide) ?_
      refine aw_istore_n dX7_takeLeast_45 (by decide) rfl ?_
      have L46 : ∀ t, t ≤ y.1 0 1 → ∀ (d3 : Dt) (v1 v2 : Int32), fN d2 d3 → KS 0 d3 (tkj y.1 w t) → v1 = nI (mvd y.1 (lstQ y.1 9 - 1) t) → v2 = nI t → AW mX7_takeLeast 16 true (PIx (PO d (oTake y)) (XO d [exS, exE] (oTake y))) 2 12 46 [(0, .ref 132), (1, .int v1), (2, .int v2)] [] (HP d3) := by
        refine up_ind (fun t hj ih => ?_)
        rintro d3 _ _ g3 hs3 rfl rfl; have e01 : d3.1 0 1 = nI (y.1 0 1) := hs3 0 1 (by decide) (by decide)
        refine aw_iload_n dX7_takeLeast_46 rfl ?_
        refine aw_aload_n dX7_takeLeast_47 rfl ?_
        refine aw_gf dX7_takeLeast_48 (hp_132 _) rfl fX7_12 (by decide) rfl ?_
        refine aw_gf dX7_takeLeast_51 (hp_0 _) rfl fX7_93 (by decide) rfl ?_
        refine aw_icmp_ge 103 dX7_takeLeast_54 (by decide) (fun c54 => ?_) (fun c54 => ?_)
        · have hge : y.1 0 1 ≤ t := (le_nI e01 rfl (by omega) (by omega)).mp c54
          have hj2 : t = y.1 0 1 := by omega
          subst hj2
          refine aw_iload_n dX7_takeLeast_103 rfl ?_
          exact aw_endI dX7_takeLeast_104 rfl (by unfold oTake; rw [if_neg (by omega), if_neg h0, show tkq y.1 (lstQ y.1 9 - 1) = tkj y.1 w (y.1 0 1) from by rw [← hwe]; rfl]; exact PO_ch hC1 (fC_t (fP_C g1) f1) (fN_NW g3) hs3 (QOK_tkj ok w (Nat.le_refl _)) rfl)
        · have hlt : t < y.1 0 1 := Nat.lt_of_not_le (fun z => c54 ((le_nI e01 rfl (by omega) (by omega)).mpr z))
          have hd8 := dgt_lt w t
          have h6 := (ok.2.2.2.2.2.2.1 t (by omega)).2
          have h7t : d3.1 138 7 = nI (fulQ y.1) := by rw [g3.2 138 (by decide)]; exact h72
          have hft : d3.1 146 (fulQ y.1) = nI w := by rw [g3.2 146 (by decide)]; exact hf2
          refine aw_aload_n dX7_takeLeast_57 rfl ?_
          refine aw_gf dX7_takeLeast_58 (hp_132 _) rfl fX7_31 (by decide) rfl ?_
          refine aw_iload_n dX7_takeLeast_61 rfl ?_
          refine aw_cVP dX7_takeLeast_62 oX3_stationOf vX3_stationOf rfl lX7_287 (kX3_stationOf (q := y.1) h8 h7t hw31 hft (t := t) (by omega)) rfl (hp_138 _) rfl rfl rfl (Nat.le_of_ble_eq_true rfl) (by decide) (Nat.le_of_ble_eq_true rfl) ?_
          refine aw_istore_n dX7_takeLeast_65 (by decide) rfl ?_
          refine aw_iload_n dX7_takeLeast_66 rfl ?_
          refine aw_aload_n dX7_takeLeast_67 rfl ?_
          refine aw_gf dX7_takeLeast_68 (hp_132 _) rfl fX7_12 (by decide) rfl ?_
          refine aw_gf dX7_takeLeast_71 (hp_0 _) rfl fX7_160 (by decide) rfl ?_
          refine aw_iload_n dX7_takeLeast_74 rfl ?_
          refine aw_ialdN dX7_takeLeast_75 (hp_6 _) rfl (t) (by first | rfl | (simp only [li_0, li_1, li_2, li_3, li_4, li_5, li_7, li_8, li_9, li_11, li_12, li_16, li_17, li_31, li_32, li_60, li_77, li_80, li_89, li_99, li_101, li_112, li_113, li_256, li_999, li_1023, nI_add, pk_mul])) (by omega) (by decide) ?_
          rw [show d3.1 6 t = pv (y.1 6 t) from (hs3 6 t (by decide) (show t < 12 by omega)).trans (by show pv (tkj y.1 w t 6 t) = _; simp only [tkj]; rw [if_neg (by omega)])]
          refine aw_iload_n dX7_takeLeast_76 rfl ?_
          refine aw_icmp_ne 84 dX7_takeLeast_77 (by decide) (fun c77 => ?_) (fun c77 => ?_)
          · refine aw_iconst (v := 1) dX7_takeLeast_84 (by decide) ?_
            refine aw_iadd dX7_takeLeast_85 ?_
            refine aw_istore_n dX7_takeLeast_86 (by decide) rfl ?_
            refine aw_aload_n dX7_takeLeast_87 rfl ?_
            refine aw_gf dX7_takeLeast_88 (hp_132 _) rfl fX7_12 (by decide) rfl ?_
            refine aw_gf dX7_takeLeast_91 (hp_0 _) rfl fX7_160 (by decide) rfl ?_
            refine aw_iload_n dX7_takeLeast_94 rfl ?_
            refine aw_iload_n dX7_takeLeast_95 rfl ?_
            refine aw_iastN dX7_takeLeast_96 hp_6 (t) (by first | rfl | (simp only [li_0, li_1, li_2, li_3, li_4, li_5, li_7, li_8, li_9, li_11, li_12, li_16, li_17, li_31, li_32, li_60, li_77, li_80, li_89, li_99, li_101, li_112, li_113, li_256, li_999, li_1023, nI_add, pk_mul])) (by omega) (by decide)  ?_
            refine aw_inc (c := 1) dX7_takeLeast_97 (by decide) rfl (by decide) rfl ?_
            refine aw_goto (tgt := 46) dX7_takeLeast_100 (by decide) ?_
            have e6 : ¬ y.1 6 t = dgt w t + 1 := fun z => c77 (by rw [z, pv_s])
            exact aw_pick [0, 1, 2] (ih hlt (dI d3 6 (upd (d3.1 6) t (nI (dgt w t)))) (nI (mvd y.1 (lstQ y.1 9 - 1) t) + 1) _ (fN_dI g3 (show 6 < 12 by decide) _) (by rw [← tkj_s]; exact KS_up hs3 (j := 6) (k := t) (v := dgt w t + 1) rfl (by rw [if_pos rfl, pv_s])) (by unfold mvd; simp only [sN]; rw [hwe, if_neg e6]; exact nI_add _ _) (nI_1 t))
          · refine aw_iconst (v := 0) dX7_takeLeast_80 (by decide) ?_
            refine aw_goto (tgt := 85) dX7_takeLeast_81 (by decide) ?_
            refine aw_iadd dX7_takeLeast_85 ?_
            refine aw_istore_n dX7_takeLeast_86 (by decide) rfl ?_
            refine aw_aload_n dX7_takeLeast_87 rfl ?_
            refine aw_gf dX7_takeLeast_88 (hp_132 _) rfl fX7_12 (by decide) rfl ?_
            refine aw_gf dX7_takeLeast_91 (hp_0 _) rfl fX7_160 (by decide) rfl ?_
            refine aw_iload_n dX7_takeLeast_94 rfl ?_
            refine aw_iload_n dX7_takeLeast_95 rfl ?_
            refine aw_iastN dX7_takeLeast_96 hp_6 (t) (by first | rfl | (simp only [li_0, li_1, li_2, li_3, li_4, li_5, li_7, li_8, li_9, li_11, li_12, li_16, li_17, li_31, li_32, li_60, li_77, li_80, li_89, li_99, li_101, li_112, li_113, li_256, li_999, li_1023, nI_add, pk_mul])) (by omega) (by decide)  ?_
            refine aw_inc (c := 1) dX7_takeLeast_97 (by decide) rfl (by decide) rfl ?_
            refine aw_goto (tgt := 46) dX7_takeLeast_100 (by decide) ?_
            have e6 := pvd_eq (by omega) (by omega) (c77.trans (pv_s _).symm)
            exact aw_pick [0, 1, 2] (ih hlt (dI d3 6 (upd (d3.1 6) t (nI (dgt w t)))) (nI (mvd y.1 (lstQ y.1 9 - 1) t) + 0) _ (fN_dI g3 (show 6 < 12 by decide) _) (by rw [← tkj_s]; exact KS_up hs3 (j := 6) (k := t) (v := dgt w t + 1) rfl (by rw [if_pos rfl, pv_s])) (by unfold mvd; simp only [sN]; rw [hwe, if_pos e6]; exact nI_add _ _) (nI_1 t))
      exact L46 0 (Nat.zero_le _) _ _ _ (fN_r d2) (by rw [tkj_0]; exact hs1) rfl rfl
  · refine aw_aload_n dX7_takeLeast_0 rfl ?_
    refine aw_gf dX7_takeLeast_1 (hp_132 _) rfl fX7_12 (by decide) rfl ?_
    refine aw_gf dX7_takeLeast_4 (hp_0 _) rfl fX7_93 (by decide) rfl ?_
    refine aw_bipush (v := 8) dX7_takeLeast_7 (by decide) ?_
    refine aw_icmp_gt 16 dX7_takeLeast_9 (by decide) (fun c9 => ?_) (fun c9 => ?_)
    · refine aw_iconst (v := 0) dX7_takeLeast_16 (by decide) ?_
      exact kJ17 _ (by rw [show d.1 0 (1) = nI (y.1 0 (1)) from hs 0 (1) (by decide) (show (1) < 2 by omega)] at c9; exact (b2i_f (fun z => by have := (lt_nI (show (8 : Int32) = nI 8 from rfl) rfl (by omega) (by omega)).mp c9; omega)).symm)
    · refine aw_iconst (v := 1) dX7_takeLeast_12 (by decide) ?_
      refine aw_goto (tgt := 17) dX7_takeLeast_13 (by decide) ?_
      exact kJ17 _ (by rw [show d.1 0 (1) = nI (y.1 0 (1)) from hs 0 (1) (by decide) (show (1) < 2 by omega)] at c9; exact (b2i_t (by have := mt (lt_nI (show (8 : Int32) = nI 8 from rfl) (rfl : nI (y.1 0 1) = _) (by omega) (by omega)).mpr c9; omega)).symm)
