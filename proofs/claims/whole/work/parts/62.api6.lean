set_option maxHeartbeats 4000000 in
set_option maxRecDepth 100000 in
theorem kX7_unevenness {y : Sy} {d : Dt} (hC : CC d y) : CL mX7_unevenness 6 [.ref 132] d (fun x d' => fC d d' ∧ CC d' y ∧ x = unL y.1 8) := by
  show AW mX7_unevenness 6 true (PLx (fun x d' => fC d d' ∧ CC d' y ∧ x = unL y.1 8) nX) 0 0 0 [(0, .ref 132)] [] (HP d)
  refine aw_aload_n dX7_unevenness_0 rfl ?_
  refine aw_gf dX7_unevenness_1 (hp_132 _) rfl fX7_24 (by decide) rfl ?_
  refine aw_cVL dX7_unevenness_4 oX5_sumOfSquares vX5_sumOfSquares rfl lX7_261 (kX5_sumOfSquares hC.1.1 hC.1.2) rfl (hp_133 _) rfl rfl rfl (Nat.le_of_ble_eq_true rfl) (by decide) (Nat.le_of_ble_eq_true rfl) ?_
  rintro _ d1 ⟨g1, rfl⟩
  exact aw_endL dX7_unevenness_7 rfl ⟨fW_C g1, CC_W hC g1, rfl⟩

set_option maxHeartbeats 4000000 in
set_option maxRecDepth 100000 in
theorem kX7_ways {y : Sy} {d : Dt} (hC : CC d y) {s : Int32} : AC mX7_ways 16 true (PLx (fun x d' => fC d d' ∧ CC d' y ∧ (oWays y s).1 = 0 ∧ x = (oWays y s).2) (XO d [exA, exS] ((oWays y s).1, 0, y))) 4 24 [.ref 132, .int s] (HP d) := by
  show AW mX7_ways 16 true (PLx (fun x d' => fC d d' ∧ CC d' y ∧ (oWays y s).1 = 0 ∧ x = (oWays y s).2) (XO d [exA, exS] ((oWays y s).1, 0, y))) 4 24 0 [(0, .ref 132), (1, .int s)] [] (HP d)
  have hs := hC.1.1
  have ok := hC.1.2
  have h12 := ok.2.1
  refine aw_iload_n dX7_ways_0 rfl ?_
  refine aw_iconst (v := 0) dX7_ways_1 (by decide) ?_
  refine aw_bipush (v := 8) dX7_ways_2 (by decide) ?_
  refine aw_cSP dX7_ways_4 oX7_isIn sX7_isIn rfl lX7_49 kX7_isIn rfl rfl (Nat.le_of_ble_eq_true rfl) (by decide) (Nat.le_of_ble_eq_true rfl) ?_
  refine aw_ck dX7_ways_7 oX7_checkArgument sX7_checkArgument rfl lX7_53 kX7_checkArgument (Nat.le_of_ble_eq_true rfl) (by decide) (Nat.le_of_ble_eq_true rfl) (by decide) (by decide) (fun x7 => ?_) (fun x7 => ?_)
  · exact (by unfold oWays; rw [if_neg (b2d_f x7)]; exact ⟨fC_r d, hC, Nat.succ_ne_zero _, rfl⟩)
  have hg := b2d_t x7
  obtain ⟨n, rfl, hn1, hn2⟩ := in_nI (a := 0) (b := 8) rfl rfl (by decide) (by decide) (hg)
  refine aw_join (P := fun v => v = b2i (decide (y.1 0 1 ≤ 8))) 27 (fun v hv27 => ?_) (fun kJ27 => ?_)
  · subst hv27
    refine aw_ck dX7_ways_27 oX7_checkState sX7_checkState rfl lX7_96 kX7_checkState (Nat.le_of_ble_eq_true rfl) (by decide) (Nat.le_of_ble_eq_true rfl) (by decide) (by decide) (fun x27 => ?_) (fun x27 => ?_)
    · exact (by unfold oWays; rw [if_pos hg, if_pos (by have := b2d_f x27; omega)]; exact ⟨fC_r d, hC, Nat.succ_ne_zero _, rfl⟩)
    have h8 := b2d_t x27
    refine aw_aload_n dX7_ways_30 rfl ?_
    refine aw_gf dX7_ways_31 (hp_132 _) rfl fX7_31 (by decide) rfl ?_
    refine aw_iload_n dX7_ways_34 rfl ?_
    refine aw_cVL dX7_ways_35 oX3_countLines vX3_countLines rfl lX7_283 (kX3_countLines hs ok h8 (n := n) (by omega)) rfl (hp_138 _) rfl rfl rfl (Nat.le_of_ble_eq_true rfl) (by decide) (Nat.le_of_ble_eq_true rfl) ?_
    rintro _ d1 ⟨g1, rfl⟩
    exact aw_endL dX7_ways_38 rfl (by unfold oWays; rw [if_pos hg, if_neg (by omega), ivn (by omega)]; exact ⟨fP_C g1, CC_P hC g1, rfl, rfl⟩)
  · refine aw_aload_n dX7_ways_10 rfl ?_
    refine aw_gf dX7_ways_11 (hp_132 _) rfl fX7_12 (by decide) rfl ?_
    refine aw_gf dX7_ways_14 (hp_0 _) rfl fX7_93 (by decide) rfl ?_
    refine aw_bipush (v := 8) dX7_ways_17 (by decide) ?_
    refine aw_icmp_gt 26 dX7_ways_19 (by decide) (fun c19 => ?_) (fun c19 => ?_)
    · refine aw_iconst (v := 0) dX7_ways_26 (by decide) ?_
      exact kJ27 _ (by rw [show d.1 0 (1) = nI (y.1 0 (1)) from hs 0 (1) (by decide) (show (1) < 2 by omega)] at c19; exact (b2i_f (fun z => by have := (lt_nI (show (8 : Int32) = nI 8 from rfl) rfl (by omega) (by omega)).mp c19; omega)).symm)
    · refine aw_iconst (v := 1) dX7_ways_22 (by decide) ?_
      refine aw_goto (tgt := 27) dX7_ways_23 (by decide) ?_
      exact kJ27 _ (by rw [show d.1 0 (1) = nI (y.1 0 (1)) from hs 0 (1) (by decide) (show (1) < 2 by omega)] at c19; exact (b2i_t (by have := mt (lt_nI (show (8 : Int32) = nI 8 from rfl) (rfl : nI (y.1 0 1) = _) (by omega) (by omega)).mpr c19; omega)).symm)

set_option maxHeartbeats 4000000 in
set_option maxRecDepth 100000 in
theorem kX7_efficiency {y : Sy} {d : Dt} (hC : CC d y) : AC mX7_efficiency 16 true (PFx (fun x d' => fC d d' ∧ CC d' y ∧ ovQ y.1 1 ≠ 0 ∧ x = effV y.1) (XO d [exR] ((if ovQ y.1 1 = 0 then 1 else 0), 0, y))) 4 24 [.ref 132] (HP d) := by
  show AW mX7_efficiency 16 true (PFx (fun x d' => fC d d' ∧ CC d' y ∧ ovQ y.1 1 ≠ 0 ∧ x = effV y.1) (XO d [exR] ((if ovQ y.1 1 = 0 then 1 else 0), 0, y))) 4 24 0 [(0, .ref 132)] [] (HP d)
  have hs := hC.1.1
  have ok := hC.1.2
  have h12 := ok.2.1
  have hB := effB_le ok
  refine aw_aload_n dX7_efficiency_0 rfl ?_
  refine aw_gf dX7_efficiency_1 (hp_132 _) rfl fX7_12 (by decide) rfl ?_
  refine aw_aload_n dX7_efficiency_4 rfl ?_
  refine aw_gf dX7_efficiency_5 (hp_132 _) rfl fX7_24 (by decide) rfl ?_
  refine aw_cVP dX7_efficiency_8 oX5_usedCopies vX5_usedCopies rfl lX7_227 (kX5_usedCopies hs ok) rfl (hp_133 _) rfl rfl rfl (Nat.le_of_ble_eq_true rfl) (by decide) (Nat.le_of_ble_eq_true rfl) ?_
  refine aw_cVP dX7_efficiency_11 oX4_capacity vX4_capacity rfl lX7_248 (kX4_capacity hs ok (c := ovQ y.1 1)) rfl (hp_0 _) rfl rfl rfl (Nat.le_of_ble_eq_true rfl) (by decide) (Nat.le_of_ble_eq_true rfl) ?_
  refine aw_istore_n dX7_efficiency_14 (by decide) rfl ?_
  refine aw_iload_n dX7_efficiency_15 rfl ?_
  refine aw_if_gt 30 dX7_efficiency_16 (by decide) (fun c16 => ?_) (fun c16 => ?_)
  · have hB0 : 0 < effB y.1 := (lt_nI (show (0 : Int32) = nI 0 from rfl) (rfl : nI (effB y.1) = _) (by omega) (by omega)).mp c16
    have h0 : ovQ y.1 1 ≠ 0 := fun z => by unfold effB at hB0; rw [z, Nat.zero_mul, Nat.zero_mul] at hB0; omega
    refine aw_aload_n dX7_efficiency_30 rfl ?_
    refine aw_gf dX7_efficiency_31 (hp_132 _) rfl fX7_12 (by decide) rfl ?_
    refine aw_aload_n dX7_efficiency_34 rfl ?_
    refine aw_gf dX7_efficiency_35 (hp_132 _) rfl fX7_24 (by decide) rfl ?_
    refine aw_cVP dX7_efficiency_38 oX5_placed vX5_placed rfl lX7_230 (kX5_placed hs ok) rfl (hp_133 _) rfl rfl rfl (Nat.le_of_ble_eq_true rfl) (by decide) (Nat.le_of_ble_eq_true rfl) ?_
    refine aw_cVP dX7_efficiency_41 oX4_weightedTimes vX4_weightedTimes rfl lX7_245 (kX4_weightedTimes hs ok (S := tiI y.1 0 7) (Nat.lt_of_lt_of_le (tiI_lt _ _ _) (by decide))) rfl (hp_0 _) rfl rfl rfl (Nat.le_of_ble_eq_true rfl) (by decide) (Nat.le_of_ble_eq_true rfl) ?_
    rw [wts_pl ok]
    refine aw_i2f dX7_efficiency_44 ?_
    refine aw_iload_n dX7_efficiency_45 rfl ?_
    refine aw_i2f dX7_efficiency_46 ?_
    refine aw_fdiv dX7_efficiency_47 (effV_n ok h0) ?_
    exact aw_endF dX7_efficiency_48 rfl ⟨fC_r d, hC, h0, rfl⟩
  · have hB0 : effB y.1 = 0 := by have := mt (lt_nI (show (0 : Int32) = nI 0 from rfl) (rfl : nI (effB y.1) = _) (by omega) (by omega)).mpr c16; omega
    have h0 : ovQ y.1 1 = 0 := Classical.byContradiction (fun z => effB_ne ok z hB0)
    exact aw_throw rfl tw_arith dX7_efficiency_19 dX7_efficiency_22 dX7_efficiency_23 dX7_efficiency_26 dX7_efficiency_29 (by decide) (by decide) (by decide) (by decide) ⟨d, rfl, by rw [if_pos h0]; exact ⟨fC_r d, hC, Nat.succ_ne_zero _, rfl⟩⟩

set_option maxHeartbeats 4000000 in
set_option maxRecDepth 100000 in
theorem kX7_fill {y : Sy} {d : Dt} (hC : CC d y) {p : Int32} : AO mX7_fill 16 [.ref 132, .int p] d [exA, exU] (oFill y p) := by
  show AW mX7_fill 16 true (PIx (PO d (oFill y p)) (XO d [exA, exU] (oFill y p))) 4 24 0 [(0, .ref 132), (1, .int p)] [] (HP d)
  have hs := hC.1.1
  have ok := hC.1.2
  have h12 := ok.2.1
  obtain ⟨nx, hnx, n1, n2, n4, n5⟩ := id hC.2.1
  refine aw_iload_n dX7_fill_0 rfl ?_
  refine aw_cSP dX7_fill_1 oX7_isPriority sX7_isPriority rfl lX7_178 kX7_isPriority rfl rfl (Nat.le_of_ble_eq_true rfl) (by decide) (Nat.le_of_ble_eq_true rfl) ?_
  refine aw_ck dX7_fill_4 oX7_checkArgument sX7_checkArgument rfl lX7_53 kX7_checkArgument (Nat.le_of_ble_eq_true rfl) (by decide) (Nat.le_of_ble_eq_true rfl) (by decide) (by decide) (fun x4 => ?_) (fun x4 => ?_)
  · exact (by unfold oFill; rw [if_neg (b2d_f x4)]; exact ⟨fC_r d, hC, Nat.succ_ne_zero _, rfl⟩)
  have hg := b2d_t x4
  obtain ⟨n, rfl, hn1, hn2⟩ := in_nI (a := 0) (b := 3) rfl rfl (by decide) (by decide) (hg)
  refine aw_aload_n dX7_fill_7 rfl ?_
  refine aw_gf dX7_fill_8 (hp_132 _) rfl fX7_38 (by decide) rfl ?_
  refine aw_aload_n dX7_fill_11 rfl ?_
  refine aw_gf dX7_fill_12 (hp_132 _) rfl fX7_12 (by decide) rfl ?_
  refine aw_cVv dX7_fill_15 oX1_begin vX1_begin rfl lX7_268 (kX1_begin hnx n1) rfl (hp_148 _) rfl rfl rfl (Nat.le_of_ble_eq_true rfl) (by decide) (Nat.le_of_ble_eq_true rfl) ?_
  rintro d1 hc
  refine aw_aload_n dX7_fill_18 rfl ?_
  refine aw_gf dX7_fill_19 (hp_132 _) rfl fX7_24 (by decide) rfl ?_
  refine aw_iload_n dX7_fill_22 rfl ?_
  refine aw_cVI dX7_fill_23 oX5_fillBy vX5_fillBy rfl lX7_271 (kX5_fillBy (q := y.1) (KS_k hs (fun j hj => CP_out hc (by omega))) ok (p := n) (by omega)) rfl (hp_133 _) rfl rfl rfl (Nat.le_of_ble_eq_true rfl) (by decide) (Nat.le_of_ble_eq_true rfl) ?_
  rintro _ d2 ⟨g2, rfl, hk2⟩
  refine aw_istore_n dX7_fill_26 (by decide) rfl ?_
  by_cases h0 : (filF n 12 (clrP y.1)).1 = 0
  · obtain ⟨hs2, ok2⟩ := hk2 h0
    rw [h0]
    refine aw_iload_n dX7_fill_27 rfl ?_
    refine aw_if_eq 42 dX7_fill_28 (by decide) (fun c28 => ?_) (fun c28 => (c28 rfl).elim)
    refine aw_aload_n dX7_fill_42 rfl ?_
    refine aw_iload_n dX7_fill_43 rfl ?_
    refine aw_cVv dX7_fill_44 oX7_keepReason vX7_keepReason rfl lX7_187 (kX7_keepReason (x := nI 0)) rfl (hp_132 _) rfl rfl rfl (Nat.le_of_ble_eq_true rfl) (by decide) (Nat.le_of_ble_eq_true rfl) ?_
    rintro d3 hd3
    rw [show d3 = d2 from hd3.trans (if_pos rfl)]
    refine aw_iload_n dX7_fill_47 rfl ?_
    refine aw_if_ne 55 dX7_fill_48 (by decide) (fun c48 => (c48 rfl).elim) (fun c48 => ?_)
    refine aw_iconst (v := 1) dX7_fill_51 (by decide) ?_
    refine aw_goto (tgt := 56) dX7_fill_52 (by decide) ?_
    refine aw_ck dX7_fill_56 oX7_checkSupported sX7_checkSupported rfl lX7_124 kX7_checkSupported (Nat.le_of_ble_eq_true rfl) (by decide) (Nat.le_of_ble_eq_true rfl) (by decide) (by decide) (fun x56 => ?_) (fun x56 => ?_)
    · exact absurd x56 (by decide)
    refine aw_aload_n dX7_fill_59 rfl ?_
    refine aw_gf dX7_fill_60 (hp_132 _) rfl fX7_38 (by decide) rfl ?_
    refine aw_cVv dX7_fill_63 oX1_finish vX1_finish rfl lX7_277 (kX1_finish hnx (d := d2) (by rw [g2.2 148 (by decide) (Or.inr (by decide)), CP_out hc (by omega)]; exact n1) n4 (by rw [g2.2 148 (by decide) (Or.inr (by decide)), CP_out hc (by omega)]; exact n2)) rfl (hp_148 _) rfl rfl rfl (Nat.le_of_ble_eq_true rfl) (by decide) (Nat.le_of_ble_eq_true rfl) ?_
    rintro d4 hd4
    have e4 : ∀ i, i ≠ 148 → d4.1 i = d2.1 i := fun i hi => by rw [hd4, dI_n _ _ hi, dI_n _ _ hi]
    refine aw_aload_n dX7_fill_66 rfl ?_
    refine aw_gf dX7_fill_67 (hp_132 _) rfl fX7_24 (by decide) rfl ?_
    refine aw_cVP dX7_fill_70 oX5_countUsed vX5_countUsed rfl lX7_224 (kX5_countUsed (q := (filF n 12 (clrP y.1)).2) (KS_k hs2 (fun j hj => e4 _ (by omega))) ok2) rfl (hp_133 _) rfl rfl rfl (Nat.le_of_ble_eq_true rfl) (by decide) (Nat.le_of_ble_eq_true rfl) ?_
    exact aw_endI dX7_fill_73 rfl (by
      unfold oFill
      rw [if_pos hg, ivn (by omega), if_pos h0]
      refine PO_v (fC_t (fC_t (fC_CP (by omega) hc) (fNW_C g2)) ?_) (CC_fin hC hnx n5 n4 hc (KS_k hs2 (fun j hj => e4 _ (by omega))) ok2 (fun i a b => by rw [e4 i (by omega)]; exact g2.2 i (by omega) (Or.inl (by omega))) (by rw [e4 _ (by decide)]; exact congrFun (g2.2 132 (by decide) (Or.inl (by decide))) 6) ?_ ?_ (w := y.2.2.2.1) ?_ hC.2.2.2.1.2 ?_) rfl
      · rw [hd4]; exact fC_dI (fC_dI (fC_r d2) (by decide) _) (by decide) _
      · rw [hd4, dI_s, upd_ne _ _ (by decide), dI_s, upd_at]
      · rw [hd4, dI_s, upd_at]
      · rw [e4 _ (by decide), g2.2 132 (by decide) (Or.inl (by decide)), CP_out hc (by omega)]; exact hC.2.2.2.1.1
      · rw [e4 _ (by decide), e4 _ (by decide), g2.2 151 (by decide) (Or.inr (by decide)), g2.2 150 (by decide) (Or.inr (by decide)), CP_out hc (by omega), CP_out hc (by omega)]; exact hC.2.2.2.2)
  · have hr6 : (filF n 12 (clrP y.1)).1 ≤ 6 := filF_le n 12 _
    have hx0 : ¬ nI (filF n 12 (clrP y.1)).1 = 0 := fun z => h0 (nI_inj (by omega) (by omega) (z : nI (filF n 12 (clrP y.1)).1 = nI 0))
    refine aw_iload_n dX7_fill_27 rfl ?_
    refine aw_if_eq 42 dX7_fill_28 (by decide) (fun c28 => (hx0 c28).elim) (fun c28 => ?_)
    refine aw_aload_n dX7_fill_31 rfl ?_
    refine aw_gf dX7_fill_32 (hp_132 _) rfl fX7_38 (by decide) rfl ?_
    refine aw_aload_n dX7_fill_35 rfl ?_
    refine aw_gf dX7_fill_36 (hp_132 _) rfl fX7_12 (by decide) rfl ?_
    refine aw_cVv dX7_fill_39 oX1_cancel vX1_cancel rfl lX7_274 (kX1_cancel hnx (d := d2) (by rw [g2.2 148 (by decide) (Or.inr (by decide)), CP_out hc (by omega)]; exact n1)) rfl (hp_148 _) rfl rfl rfl (Nat.le_of_ble_eq_true rfl) (by decide) (Nat.le_of_ble_eq_true rfl) ?_
    rintro d3 hc3
    refine aw_aload_n dX7_fill_42 rfl ?_
    refine aw_iload_n dX7_fill_43 rfl ?_
    refine aw_cVv dX7_fill_44 oX7_keepReason vX7_keepReason rfl lX7_187 (kX7_keepReason (x := nI (filF n 12 (clrP y.1)).1)) rfl (hp_132 _) rfl rfl rfl (Nat.le_of_ble_eq_true rfl) (by decide) (Nat.le_of_ble_eq_true rfl) ?_
    rintro d4 hd4
    rw [if_neg hx0] at hd4
    have e4 : ∀ i, i ≠ 132 → d4.1 i = d3.1 i := fun i hi => by rw [hd4, dI_n _ _ hi]
    refine aw_iload_n dX7_fill_47 rfl ?_
    refine aw_if_ne 55 dX7_fill_48 (by decide) (fun c48 => ?_) (fun c48 => (hx0 c48).elim)
    refine aw_iconst (v := 0) dX7_fill_55 (by decide) ?_
    refine aw_ck dX7_fill_56 oX7_checkSupported sX7_checkSupported rfl lX7_124 kX7_checkSupported (Nat.le_of_ble_eq_true rfl) (by decide) (Nat.le_of_ble_eq_true rfl) (by decide) (by decide) (fun x56 => ?_) (fun x56 => ?_)
    · exact (by
        unfold oFill
        rw [if_pos hg, ivn (by omega), if_neg h0]
        refine ⟨fC_t (fC_t (fC_t (fC_CP (by omega) hc) (fNW_C g2)) (fC_CP (by decide) hc3)) ?_, CC_can hC hnx n1 n2 n5 n4 hc ?_ (fun i a b => by rw [e4 i (by omega), CP_out hc3 (by omega)]; exact g2.2 i (by omega) (Or.inl (by omega))) ?_ ?_ ?_ ?_ hr6 ?_, Nat.succ_ne_zero _, rfl⟩
        · rw [hd4]; exact fC_dI (fC_r d3) (by decide) _
        · exact KS_k (CP_KS hc3 (KS_k (CP_KS hc hs) (fun j hj => g2.2 _ (by omega) (Or.inl (by omega))))) (fun j hj => e4 _ (by omega))
        · rw [hd4, dI_s, upd_ne _ _ (by decide), CP_out hc3 (by omega), g2.2 132 (by decide) (Or.inl (by decide))]
        · rw [e4 _ (by decide), CP_out hc3 (by omega), g2.2 148 (by decide) (Or.inr (by decide))]
        · rw [e4 _ (by decide), CP_out hc3 (by omega), g2.2 148 (by decide) (Or.inr (by decide))]
        · rw [hd4, dI_s, upd_at]
        · show TP _ _ y.2.2.2.2
          rw [e4 _ (by decide), e4 _ (by decide), CP_out hc3 (by omega), CP_out hc3 (by omega), g2.2 151 (by decide) (Or.inr (by decide)), g2.2 150 (by decide) (Or.inr (by decide)), CP_out hc (by omega), CP_out hc (by omega)]; exact hC.2.2.2.2)
    exact absurd rfl x56
