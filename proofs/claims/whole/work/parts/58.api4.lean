set_option maxHeartbeats 4000000 in
set_option maxRecDepth 100000 in
theorem kX7_assign {y : Sy} {d : Dt} (hC : CC d y) {a b : Int32} : AO mX7_assign 16 [.ref 132, .int a, .int b] d [exI, exU] (oAssign y a b) := by
  show AW mX7_assign 16 true (PIx (PO d (oAssign y a b)) (XO d [exI, exU] (oAssign y a b))) 4 24 0 [(0, .ref 132), (1, .int a), (2, .int b)] [] (HP d)
  have hs := hC.1.1
  have ok := hC.1.2
  have h12 := ok.2.1
  refine aw_join (P := fun v => v = b2i (decide (tkI y.1 a ∧ gI (-1) 7 b))) 28 (fun v hv28 => ?_) (fun kJ28 => ?_)
  · subst hv28
    refine aw_ck dX7_assign_28 oX7_checkIndex sX7_checkIndex rfl lX7_64 kX7_checkIndex (Nat.le_of_ble_eq_true rfl) (by decide) (Nat.le_of_ble_eq_true rfl) (by decide) (by decide) (fun x28 => ?_) (fun x28 => ?_)
    · exact (by unfold oAssign iAsg; rw [if_neg (b2d_f x28)]; exact ⟨fC_r d, hC, Nat.succ_ne_zero _, rfl⟩)
    have hg := b2d_t x28
    obtain ⟨k, rfl, hk⟩ := tk_nI h12 (hg.1)
    by_cases hb : b = -1
    · subst hb
      refine aw_iload_n dX7_assign_31 rfl ?_
      refine aw_iconst (v := (-1)) dX7_assign_32 (by decide) ?_
      refine aw_icmp_ne 40 dX7_assign_33 (by decide) (fun z => absurd rfl z) (fun _ => ?_)
      refine aw_iconst (v := 0) dX7_assign_36 (by decide) ?_
      refine aw_goto (tgt := 49) dX7_assign_37 (by decide) ?_
      refine aw_istore_n dX7_assign_49 (by decide) rfl ?_
      refine aw_aload_n dX7_assign_50 rfl ?_
      refine aw_iload_n dX7_assign_51 rfl ?_
      refine aw_cVv dX7_assign_52 oX7_keepReason vX7_keepReason rfl lX7_187 (kX7_keepReason (x := 0)) rfl (hp_132 _) rfl rfl rfl (Nat.le_of_ble_eq_true rfl) (by decide) (Nat.le_of_ble_eq_true rfl) ?_
      rintro d1 hd1
      rw [show d1 = d from hd1]
      refine aw_iload_n dX7_assign_55 rfl ?_
      refine aw_if_ne 63 dX7_assign_56 (by decide) (fun c56 => (by first | exact absurd c56 (by decide) | exact absurd rfl c56)) (fun _ => ?_)
      refine aw_iconst (v := 1) dX7_assign_59 (by decide) ?_
      refine aw_goto (tgt := 64) dX7_assign_60 (by decide) ?_
      refine aw_ck dX7_assign_64 oX7_checkSupported sX7_checkSupported rfl lX7_124 kX7_checkSupported (Nat.le_of_ble_eq_true rfl) (by decide) (Nat.le_of_ble_eq_true rfl) (by decide) (by decide) (fun x64 => ?_) (fun x64 => ?_)
      · exact absurd x64 (by decide)
      refine aw_aload_n dX7_assign_67 rfl ?_
      refine aw_cVv dX7_assign_68 oX7_remember vX7_remember rfl lX7_57 (kX7_remember hC) rfl (hp_132 _) rfl rfl rfl (Nat.le_of_ble_eq_true rfl) (by decide) (Nat.le_of_ble_eq_true rfl) ?_
      rintro d2 ⟨f1, hC1⟩
      have hs1 : KS 0 d2 y.1 := hC1.1.1
      refine aw_aload_n dX7_assign_71 rfl ?_
      refine aw_gf dX7_assign_72 (hp_132 _) rfl fX7_12 (by decide) rfl ?_
      refine aw_gf dX7_assign_75 (hp_0 _) rfl fX7_160 (by decide) rfl ?_
      refine aw_iload_n dX7_assign_78 rfl ?_
    
      refine aw_ialdN dX7_assign_79 (hp_6 _) rfl (k) (by first | rfl | (simp only [li_0, li_1, li_2, li_3, li_4, li_5, li_7, li_8, li_9, li_11, li_12, li_16, li_17, li_31, li_32, li_60, li_77, li_80, li_89, li_99, li_101, li_112, li_113, li_256, li_999, li_1023, nI_add, pk_mul])) (by omega) (by decide) ?_
      rw [show d2.1 6 (k) = pv (y.1 6 (k)) from hs1 6 k (by decide) (show k < 12 by omega)]
      refine aw_istore dX7_assign_80 (by decide) rfl ?_
      refine aw_aload_n dX7_assign_82 rfl ?_
      refine aw_gf dX7_assign_83 (hp_132 _) rfl fX7_12 (by decide) rfl ?_
      refine aw_gf dX7_assign_86 (hp_0 _) rfl fX7_160 (by decide) rfl ?_
      refine aw_iload_n dX7_assign_89 rfl ?_
      refine aw_iload_n dX7_assign_90 rfl ?_
      refine aw_iastN dX7_assign_91 hp_6 (k) (by first | rfl | (simp only [li_0, li_1, li_2, li_3, li_4, li_5, li_7, li_8, li_9, li_11, li_12, li_16, li_17, li_31, li_32, li_60, li_77, li_80, li_89, li_99, li_101, li_112, li_113, li_256, li_999, li_1023, nI_add, pk_mul])) (by omega) (by decide)  ?_
      refine aw_iload dX7_assign_92 rfl ?_
      exact aw_endI dX7_assign_94 rfl (by unfold oAssign iAsg; rw [if_pos hg, if_pos rfl, ivn (by omega)]; exact PO_ch hC1 f1 (fN_NW (fN_dI (fN_r d2) (by decide) _)) (KS_up hs1 (j := 6) (k := k) (v := 0) rfl rfl) (QOK_up ok (by decide) (by omega) ⟨fun z => absurd z (by decide), fun z => absurd z (by decide), fun z => absurd z (by decide), fun z => absurd z (by decide), fun z => absurd z (by decide), fun z => absurd z (by decide), fun _ => ⟨by decide, hk⟩, fun z => absurd z (by decide)⟩) rfl)
    · have hb7 : gI 0 7 b := by rcases gm1.mp hg.2 with w | w; exact absurd w hb; exact w
      obtain ⟨n, rfl, hn1, hn2⟩ := in_nI (a := 0) (b := 7) rfl rfl (by decide) (by decide) (hb7)
      have hr6 : refQ y.1 k n ≤ 6 := refQ_le y.1 k n
      refine aw_iload_n dX7_assign_31 rfl ?_
      refine aw_iconst (v := (-1)) dX7_assign_32 (by decide) ?_
      refine aw_icmp_ne 40 dX7_assign_33 (by decide) (fun _ => ?_) (fun z => absurd z hb)
      refine aw_aload_n dX7_assign_40 rfl ?_
      refine aw_gf dX7_assign_41 (hp_132 _) rfl fX7_24 (by decide) rfl ?_
      refine aw_iload_n dX7_assign_44 rfl ?_
      refine aw_iload_n dX7_assign_45 rfl ?_
      refine aw_cVI dX7_assign_46 oX5_refusal vX5_refusal rfl lX7_184 (kX5_refusal hs ok hk (by omega)) rfl (hp_133 _) rfl rfl rfl (Nat.le_of_ble_eq_true rfl) (by decide) (Nat.le_of_ble_eq_true rfl) ?_
      rintro _ d1 ⟨g1, rfl⟩
      refine aw_istore_n dX7_assign_49 (by decide) rfl ?_
      refine aw_aload_n dX7_assign_50 rfl ?_
      refine aw_iload_n dX7_assign_51 rfl ?_
      refine aw_cVv dX7_assign_52 oX7_keepReason vX7_keepReason rfl lX7_187 (kX7_keepReason (x := nI (refQ y.1 k n))) rfl (hp_132 _) rfl rfl rfl (Nat.le_of_ble_eq_true rfl) (by decide) (Nat.le_of_ble_eq_true rfl) ?_
      rintro _ rfl
      by_cases h0 : refQ y.1 k n = 0
      · rw [if_pos (show nI (refQ y.1 k n) = 0 from by rw [h0]; rfl)]
        refine aw_iload_n dX7_assign_55 rfl ?_
        refine aw_if_ne 63 dX7_assign_56 (by decide) (fun c56 => (c56 (by rw [h0]; rfl)).elim) (fun c56 => ?_)
        refine aw_iconst (v := 1) dX7_assign_59 (by decide) ?_
        refine aw_goto (tgt := 64) dX7_assign_60 (by decide) ?_
        refine aw_ck dX7_assign_64 oX7_checkSupported sX7_checkSupported rfl lX7_124 kX7_checkSupported (Nat.le_of_ble_eq_true rfl) (by decide) (Nat.le_of_ble_eq_true rfl) (by decide) (by decide) (fun x64 => ?_) (fun x64 => ?_)
        · exact absurd x64 (by decide)
        refine aw_aload_n dX7_assign_67 rfl ?_
        refine aw_cVv dX7_assign_68 oX7_remember vX7_remember rfl lX7_57 (kX7_remember (CC_W hC g1)) rfl (hp_132 _) rfl rfl rfl (Nat.le_of_ble_eq_true rfl) (by decide) (Nat.le_of_ble_eq_true rfl) ?_
        rintro d2 ⟨f1, hC1⟩
        have hs1 : KS 0 d2 y.1 := hC1.1.1
        refine aw_aload_n dX7_assign_71 rfl ?_
        refine aw_gf dX7_assign_72 (hp_132 _) rfl fX7_12 (by decide) rfl ?_
        refine aw_gf dX7_assign_75 (hp_0 _) rfl fX7_160 (by decide) rfl ?_
        refine aw_iload_n dX7_assign_78 rfl ?_
      
        refine aw_ialdN dX7_assign_79 (hp_6 _) rfl (k) (by first | rfl | (simp only [li_0, li_1, li_2, li_3, li_4, li_5, li_7, li_8, li_9, li_11, li_12, li_16, li_17, li_31, li_32, li_60, li_77, li_80, li_89, li_99, li_101, li_112, li_113, li_256, li_999, li_1023, nI_add, pk_mul])) (by omega) (by decide) ?_
        rw [show d2.1 6 (k) = pv (y.1 6 (k)) from hs1 6 k (by decide) (show k < 12 by omega)]
        refine aw_istore dX7_assign_80 (by decide) rfl ?_
        refine aw_aload_n dX7_assign_82 rfl ?_
        refine aw_gf dX7_assign_83 (hp_132 _) rfl fX7_12 (by decide) rfl ?_
        refine aw_gf dX7_assign_86 (hp_0 _) rfl fX7_160 (by decide) rfl ?_
        refine aw_iload_n dX7_assign_89 rfl ?_
        refine aw_iload_n dX7_assign_90 rfl ?_
        refine aw_iastN dX7_assign_91 hp_6 (k) (by first | rfl | (simp only [li_0, li_1, li_2, li_3, li_4, li_5, li_7, li_8, li_9, li_11, li_12, li_16, li_17, li_31, li_32, li_60, li_77, li_80, li_89, li_99, li_101, li_112, li_113, li_256, li_999, li_1023, nI_add, pk_mul])) (by omega) (by decide)  ?_
        refine aw_iload dX7_assign_92 rfl ?_
        exact aw_endI dX7_assign_94 rfl (by unfold oAssign iAsg; rw [if_pos hg, if_neg hb, ivn (by omega), ivn (by omega), if_pos h0]; exact PO_ch hC1 (fC_t (fW_C g1) f1) (fN_NW (fN_dI (fN_r d2) (by decide) _)) (KS_up hs1 (j := 6) (k := k) (v := n + 1) rfl (by rw [if_pos rfl, pv_s])) (QOK_up ok (by decide) (by omega) ⟨fun z => absurd z (by decide), fun z => absurd z (by decide), fun z => absurd z (by decide), fun z => absurd z (by decide), fun z => absurd z (by decide), fun z => absurd z (by decide), fun _ => ⟨by omega, hk⟩, fun z => absurd z (by decide)⟩) rfl)
      · have hx0 : ¬ nI (refQ y.1 k n) = 0 := fun z => h0 (nI_inj (by omega) (by omega) (z : nI (refQ y.1 k n) = nI 0))
        rw [if_neg hx0]
        refine aw_iload_n dX7_assign_55 rfl ?_
        refine aw_if_ne 63 dX7_assign_56 (by decide) (fun c56 => ?_) (fun c56 => (hx0 c56).elim)
        refine aw_iconst (v := 0) dX7_assign_63 (by decide) ?_
        refine aw_ck dX7_assign_64 oX7_checkSupported sX7_checkSupported rfl lX7_124 kX7_checkSupported (Nat.le_of_ble_eq_true rfl) (by decide) (Nat.le_of_ble_eq_true rfl) (by decide) (by decide) (fun x64 => ?_) (fun x64 => ?_)
        · exact (by unfold oAssign iAsg; rw [if_pos hg, if_neg hb, ivn (by omega), ivn (by omega), if_neg h0]; exact ⟨fC_dI (fW_C g1) (by decide) _, CC_kp (CC_W hC g1) hr6, Nat.succ_ne_zero _, rfl⟩)
        exact absurd rfl x64
  · refine aw_aload_n dX7_assign_0 rfl ?_
    refine aw_gf dX7_assign_1 (hp_132 _) rfl fX7_12 (by decide) rfl ?_
    refine aw_iload_n dX7_assign_4 rfl ?_
    refine aw_cVP dX7_assign_5 oX4_hasTask vX4_hasTask rfl lX7_103 (kX4_hasT hs) rfl (hp_0 _) rfl rfl rfl (Nat.le_of_ble_eq_true rfl) (by decide) (Nat.le_of_ble_eq_true rfl) ?_
    refine aw_if_eq 27 dX7_assign_8 (by decide) (fun c8 => ?_) (fun c8 => ?_)
    · refine aw_iconst (v := 0) dX7_assign_27 (by decide) ?_
      exact kJ28 _ (b2i_f (fun z => b2d_f c8 z.1)).symm
    · refine aw_iload_n dX7_assign_11 rfl ?_
      refine aw_iconst (v := (-1)) dX7_assign_12 (by decide) ?_
      refine aw_icmp_eq 23 dX7_assign_13 (by decide) (fun c13 => ?_) (fun c13 => ?_)
      · refine aw_iconst (v := 1) dX7_assign_23 (by decide) ?_
        refine aw_goto (tgt := 28) dX7_assign_24 (by decide) ?_
        exact kJ28 _ (b2i_t ⟨b2d_t c8, gm1.mpr (Or.inl c13)⟩).symm
      · refine aw_iload_n dX7_assign_16 rfl ?_
        refine aw_cSP dX7_assign_17 oX7_isStation sX7_isStation rfl lX7_82 kX7_isStation rfl rfl (Nat.le_of_ble_eq_true rfl) (by decide) (Nat.le_of_ble_eq_true rfl) ?_
        refine aw_if_eq 27 dX7_assign_20 (by decide) (fun c20 => ?_) (fun c20 => ?_)
        · refine aw_iconst (v := 0) dX7_assign_27 (by decide) ?_
          exact kJ28 _ (b2i_f (fun z => by rcases gm1.mp z.2 with w | w; exact c13 w; exact b2d_f c20 w)).symm
        · refine aw_iconst (v := 1) dX7_assign_23 (by decide) ?_
          refine aw_goto (tgt := 28) dX7_assign_24 (by decide) ?_
          exact kJ28 _ (b2i_t ⟨b2d_t c8, gm1.mpr (Or.inr (b2d_t c20))⟩).symm
