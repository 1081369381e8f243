set_option maxHeartbeats 4000000 in
set_option maxRecDepth 100000 in
theorem kX8_here {d : Dt} {T : List Nat} {a : Nat} (hp : RP d T a) : CP mX8_here 1 [.ref 160] d (nI (chA T a)) := by
  show AW mX8_here 1 true (PIx (fun y d' => y = nI (chA T a) ∧ d' = d) nX) 0 0 0 [(0, .ref 160)] [] (HP d)
  have hl80 := hp.1.2.1
  have hpa := hp.2.2
  refine aw_aload_n dX8_here_0 rfl ?_
  refine aw_gf dX8_here_1 (hp_160 _) rfl fX8_242 (by decide) rfl ?_
  refine aw_aload_n dX8_here_4 rfl ?_
  refine aw_gf dX8_here_5 (hp_160 _) rfl fX8_239 (by decide) rfl ?_
  rw [hp.2.1, hp.1.1]
  refine aw_icmp_ge 23 dX8_here_8 (by decide) (fun c8 => ?_) (fun c8 => ?_)
  · refine aw_iconst (v := 0) dX8_here_23 (by decide) ?_
    exact aw_endI dX8_here_24 rfl ⟨by rw [chA_o ((le_nI rfl rfl (by omega) (by omega)).mp c8)]; rfl, rfl⟩
  · have hlt : a < T.length := by have := mt (le_nI (rfl : nI T.length = nI T.length) (rfl : nI a = nI a) (by omega) (by omega)).mpr c8; omega
    refine aw_aload_n dX8_here_11 rfl ?_
    refine aw_gf dX8_here_12 (hp_160 _) rfl fX8_45 (by decide) rfl ?_
    refine aw_aload_n dX8_here_15 rfl ?_
    refine aw_gf dX8_here_16 (hp_160 _) rfl fX8_242 (by decide) rfl ?_
    refine aw_caldN dX8_here_19 (hp_172 _) rfl (a) hp.2.1 (by omega) (by decide) ?_
    refine aw_goto (tgt := 24) dX8_here_20 (by decide) ?_
    exact aw_endI dX8_here_24 rfl ⟨by rw [chA_i hlt]; exact (hp.1.2.2 a hlt).1, rfl⟩

set_option maxHeartbeats 4000000 in
set_option maxRecDepth 100000 in
theorem kX8_readsWord {d : Dt} {T : List Nat} {a : Nat} (hp : RP d T a) : CI mX8_readsWord 7 [.ref 160] d (fun x d' => mR d d' ∧ RP d' T (if wNo T a (wEnd T 80 a) 6 = 6 then a else wEnd T 80 a) ∧ x = (if wNo T a (wEnd T 80 a) 6 = 6 then -1 else nI (wNo T a (wEnd T 80 a) 6))) := by
  show AW mX8_readsWord 7 true (PIx (fun x d' => mR d d' ∧ RP d' T (if wNo T a (wEnd T 80 a) 6 = 6 then a else wEnd T 80 a) ∧ x = (if wNo T a (wEnd T 80 a) 6 = 6 then -1 else nI (wNo T a (wEnd T 80 a) 6))) nX) 0 0 0 [(0, .ref 160)] [] (HP d)
  have hl80 := hp.1.2.1
  have hpa := hp.2.2
  have hEa := wEnd_ge T 80 a
  have hEl := wEnd_le T 80 a hpa
  have KX : AW mX8_readsWord 7 true (PIx (fun x d' => mR d d' ∧ RP d' T (if wNo T a (wEnd T 80 a) 6 = 6 then a else wEnd T 80 a) ∧ x = (if wNo T a (wEnd T 80 a) 6 = 6 then -1 else nI (wNo T a (wEnd T 80 a) 6))) nX) 0 0 35 [(0, .ref 160), (1, .int (nI (wEnd T 80 a)))] [] (HP d) := by
    refine aw_iconst (v := 0) dX8_readsWord_35 (by decide) ?_
    refine aw_istore_n dX8_readsWord_36 (by decide) rfl ?_
    have L37 : ∀ w, w ≤ 6 → ∀ (v2 : Int32), wNo T a (wEnd T 80 a) 6 = wNo T a (wEnd T 80 a) (6 - w) → v2 = nI w → AW mX8_readsWord 7 true (PIx (fun x d' => mR d d' ∧ RP d' T (if wNo T a (wEnd T 80 a) 6 = 6 then a else wEnd T 80 a) ∧ x = (if wNo T a (wEnd T 80 a) 6 = 6 then -1 else nI (wNo T a (wEnd T 80 a) 6))) nX) 0 0 37 [(0, .ref 160), (1, .int (nI (wEnd T 80 a))), (2, .int v2)] [] (HP d) := by
      refine up_ind (fun w hjw ihw => ?_)
      rintro _ hno rfl
      refine aw_iload_n dX8_readsWord_37 rfl ?_
      refine aw_bipush (v := 6) dX8_readsWord_38 (by decide) ?_
      refine aw_icmp_ge 140 dX8_readsWord_40 (by decide) (fun c40 => ?_) (fun c40 => ?_)
      · have hge : 6 ≤ w := (le_nI (show (6 : Int32) = nI 6 from rfl) rfl (by omega) (by omega)).mp c40
        have hw6 : w = 6 := by omega
        subst hw6
        have h6 : wNo T a (wEnd T 80 a) 6 = 6 := hno
        refine aw_iconst (v := (-1)) dX8_readsWord_140 (by decide) ?_
        exact aw_endI dX8_readsWord_141 rfl (by rw [if_pos h6, if_pos h6]; exact ⟨mR_r d, hp, rfl⟩)
      · have hlt : w < 6 := Nat.lt_of_not_le (fun z => c40 ((le_nI (show (6 : Int32) = nI 6 from rfl) rfl (by omega) (by omega)).mpr z))
        have hlw9 := sW_len w (by omega)
        rw [wrd_sW hlt] at hlw9
        have KI : ∀ (b : Bool), (b = true ↔ wIs T a (wEnd T 80 a) w) → AW mX8_readsWord 7 true (PIx (fun x d' => mR d d' ∧ RP d' T (if wNo T a (wEnd T 80 a) 6 = 6 then a else wEnd T 80 a) ∧ x = (if wNo T a (wEnd T 80 a) 6 = 6 then -1 else nI (wNo T a (wEnd T 80 a) 6))) nX) 0 0 123 [(0, .ref 160), (1, .int (nI (wEnd T 80 a))), (2, .int (nI w)), (3, .int (b2i b))] [] (HP d) := by
          intro b hb
          refine aw_iload_n dX8_readsWord_123 rfl ?_
          refine aw_if_eq 134 dX8_readsWord_124 (by decide) (fun c124 => ?_) (fun c124 => ?_)
          · refine aw_inc (c := 1) dX8_readsWord_134 (by decide) rfl (by decide) rfl ?_
            refine aw_goto (tgt := 37) dX8_readsWord_137 (by decide) ?_
            exact aw_pick [0, 1, 2] (ihw hlt _ (by rw [hno, show 6 - (w + 1) = 5 - w by omega]; exact (wNo_at (T := T) (a := a) (e := wEnd T 80 a) hlt).2 (fun z => by rw [hb.mpr z] at c124; cases c124)) (nI_1 w))
          · refine aw_aload_n dX8_readsWord_127 rfl ?_
            refine aw_iload_n dX8_readsWord_128 rfl ?_
            refine aw_putI (ci := 8) (j := 18) .int dX8_readsWord_129 fX8_242 rfl (by decide) rfl tyX8 tyX8_ok nmX8 rfl rfl rfl (hp_160 _) (Nat.le_of_ble_eq_true rfl) rfl ?_
            refine aw_iload_n dX8_readsWord_132 rfl ?_
            exact aw_endI dX8_readsWord_133 rfl (by have hw : wIs T a (wEnd T 80 a) w := hb.mp (b2i_ne.mp c124); have e1 := (wNo_at (T := T) (a := a) (e := wEnd T 80 a) hlt).1 hw; rw [hno, e1, if_neg (by omega), if_neg (by omega)]; exact ⟨mR_160 (mR_r d) (by decide) _, RP_m hp (mR_160 (mR_r d) (by decide) _) (by rw [dI_s]; simp only [upd, if_true]) hEl, rfl⟩)
        refine aw_join (P := fun v => v = b2i (isD T a (wEnd T 80 a) w 0)) 66 (fun v hv66 => ?_) (fun kJ66 => ?_)
        · subst hv66
          refine aw_istore_n dX8_readsWord_66 (by decide) rfl ?_
          skip
          refine aw_iconst (v := 0) dX8_readsWord_67 (by decide) ?_
          refine aw_istore dX8_readsWord_68 (by decide) rfl ?_
          have L70 : ∀ j, j ≤ (wEnd T 80 a - a) → ∀ (v3 v4 : Int32), v3 = b2i (isD T a (wEnd T 80 a) w j) → v4 = nI j → AW mX8_readsWord 7 true (PIx (fun x d' => mR d d' ∧ RP d' T (if wNo T a (wEnd T 80 a) 6 = 6 then a else wEnd T 80 a) ∧ x = (if wNo T a (wEnd T 80 a) 6 = 6 then -1 else nI (wNo T a (wEnd T 80 a) 6))) nX) 0 0 70 [(0, .ref 160), (1, .int (nI (wEnd T 80 a))), (2, .int (nI w)), (3, .int v3), (4, .int v4)] [] (HP d) := by
            refine up_ind (fun j hjj ihj => ?_)
            rintro _ _ rfl rfl
            refine aw_iload_n dX8_readsWord_70 rfl ?_
            refine aw_if_eq 123 dX8_readsWord_71 (by decide) (fun c71 => ?_) (fun c71 => ?_)
            · exact aw_pick [0, 1, 2, 3] (KI (isD T a (wEnd T 80 a) w j) (by rw [b2i_eq] at c71; rw [c71]; exact ⟨fun z => (by cases z), fun z => absurd (show isK T a (wEnd T 80 a) w j from ⟨z.1, fun i hi => z.2 i (by omega)⟩) (isD_f.mp c71)⟩))
            · refine aw_iload dX8_readsWord_74 rfl ?_
              refine aw_iload_n dX8_readsWord_76 rfl ?_
              refine aw_aload_n dX8_readsWord_77 rfl ?_
              refine aw_gf dX8_readsWord_78 (hp_160 _) rfl fX8_242 (by decide) rfl ?_
              refine aw_isub dX8_readsWord_81 ?_
              refine aw_icmp_ge 123 dX8_readsWord_82 (by decide) (fun c82 => ?_) (fun c82 => ?_)
              · rw [hp.2.1, pk_sub hEa] at c82
                have hgej : wEnd T 80 a - a ≤ j := (le_nI rfl rfl (by omega) (by omega)).mp c82
                have hje : j = wEnd T 80 a - a := by omega
                exact aw_pick [0, 1, 2, 3] (KI (isD T a (wEnd T 80 a) w j) (by rw [isD_t, hje]; exact Iff.rfl))
              · rw [hp.2.1, pk_sub hEa] at c82
                have hltj : j < wEnd T 80 a - a := by have := mt (le_nI (rfl : nI (wEnd T 80 a - a) = _) (rfl : nI j = _) (by omega) (by omega)).mpr c82; omega
                have hk := isD_t.mp (b2i_ne.mp c71)
                have hlw := hk.1
                have hchr := (hp.1.2.2 (a + j) (by omega))
                refine aw_aload_n dX8_readsWord_85 rfl ?_
                refine aw_gf dX8_readsWord_86 (hp_160 _) rfl fX8_66 (by decide) rfl ?_
                refine aw_iload_n dX8_readsWord_89 rfl ?_
                refine aw_aald (r := 209 + w) dX8_readsWord_90 (hp_174 _) rfl (vp_in_nI hlt (by omega)) (by show some (209 + (nI w).toNatClampNeg) = _; rw [nI_clamp (by omega)]) ?_
                refine aw_iload dX8_readsWord_91 rfl ?_
                refine aw_cVC dX8_readsWord_93 oJ0_charAt_5068e vJ0_charAt_5068e lX8_248 (kJ0_charAt_5068e (w := w) (j := j) (by omega) (by rw [wrd_sW hlt]; omega)) rfl (cc_s w (by omega)) (by omega) rfl rfl (Nat.le_of_ble_eq_true rfl) (by decide) (Nat.le_of_ble_eq_true rfl) ?_
                rw [wrd_sW hlt]
                refine aw_aload_n dX8_readsWord_96 rfl ?_
                refine aw_gf dX8_readsWord_97 (hp_160 _) rfl fX8_45 (by decide) rfl ?_
                refine aw_aload_n dX8_readsWord_100 rfl ?_
                refine aw_gf dX8_readsWord_101 (hp_160 _) rfl fX8_242 (by decide) rfl ?_
                refine aw_iload dX8_readsWord_104 rfl ?_
                refine aw_iadd dX8_readsWord_106 ?_
                refine aw_caldN dX8_readsWord_107 (hp_172 _) rfl (a + j) (by rw [hp.2.1, nI_add]) (by omega) (by decide) ?_
                refine aw_icmp_ne 115 dX8_readsWord_108 (by decide) (fun c108 => ?_) (fun c108 => ?_)
                · refine aw_iconst (v := 0) dX8_readsWord_115 (by decide) ?_
                  refine aw_istore_n dX8_readsWord_116 (by decide) rfl ?_
                  refine aw_inc (c := 1) dX8_readsWord_117 (by decide) rfl (by decide) rfl ?_
                  refine aw_goto (tgt := 70) dX8_readsWord_120 (by decide) ?_
                  exact ihj hltj _ _ (by rw [bF (isD_f.mpr (fun z => c108 (by rw [hchr.1, z.2 j (by omega)])))]) (nI_1 j)
                · refine aw_iconst (v := 1) dX8_readsWord_111 (by decide) ?_
                  refine aw_goto (tgt := 116) dX8_readsWord_112 (by decide) ?_
                  refine aw_istore_n dX8_readsWord_116 (by decide) rfl ?_
                  refine aw_inc (c := 1) dX8_readsWord_117 (by decide) rfl (by decide) rfl ?_
                  refine aw_goto (tgt := 70) dX8_readsWord_120 (by decide) ?_
                  exact ihj hltj _ _ (by rw [bT (isD_t.mpr ⟨hlw, fun i hi => by rcases Nat.lt_succ_iff_lt_or_eq.mp hi with z | z; exact hk.2 i z; subst z; exact nI_inj (by have := wrd_128 w i; omega) (by omega) (c108.trans hchr.1)⟩)]) (nI_1 j)
          exact L70 0 (Nat.zero_le _) _ _ rfl rfl
        · refine aw_aload_n dX8_readsWord_43 rfl ?_
          refine aw_gf dX8_readsWord_44 (hp_160 _) rfl fX8_66 (by decide) rfl ?_
          refine aw_iload_n dX8_readsWord_47 rfl ?_
          refine aw_aald (r := 209 + w) dX8_readsWord_48 (hp_174 _) rfl (vp_in_nI hlt (by omega)) (by show some (209 + (nI w).toNatClampNeg) = _; rw [nI_clamp (by omega)]) ?_
          refine aw_cVC dX8_readsWord_49 oJ0_length_8abf5 vJ0_length_8abf5 lX8_245 (kJ0_length_8abf5 (by omega)) rfl (cc_s w (by omega)) (by omega) rfl rfl (Nat.le_of_ble_eq_true rfl) (by decide) (Nat.le_of_ble_eq_true rfl) ?_
          rw [wrd_sW hlt]
          refine aw_iload_n dX8_readsWord_52 rfl ?_
          refine aw_aload_n dX8_readsWord_53 rfl ?_
          refine aw_gf dX8_readsWord_54 (hp_160 _) rfl fX8_242 (by decide) rfl ?_
          refine aw_isub dX8_readsWord_57 ?_
          rw [hp.2.1, pk_sub hEa]
          refine aw_icmp_ne 65 dX8_readsWord_58 (by decide) (fun c58 => ?_) (fun c58 => ?_)
          · refine aw_iconst (v := 0) dX8_readsWord_65 (by decide) ?_
            exact kJ66 _ (by rw [bF (isD_f.mpr (fun z => c58 (by rw [z.1])))])
          · refine aw_iconst (v := 1) dX8_readsWord_61 (by decide) ?_
            refine aw_goto (tgt := 66) dX8_readsWord_62 (by decide) ?_
            exact kJ66 _ (by rw [bT (isD_t.mpr ⟨nI_inj (by omega) (by omega) c58, fun i hi => absurd hi (Nat.not_lt_zero _)⟩)])
    exact L37 0 (Nat.zero_le _) _ rfl rfl
  have K : ∀ (f e : Nat), e ≤ T.length → T.length ≤ e + f → wEnd T f e = wEnd T 80 a → AW mX8_readsWord 7 true (PIx (fun x d' => mR d d' ∧ RP d' T (if wNo T a (wEnd T 80 a) 6 = 6 then a else wEnd T 80 a) ∧ x = (if wNo T a (wEnd T 80 a) 6 = 6 then -1 else nI (wNo T a (wEnd T 80 a) 6))) nX) 0 0 5 [(0, .ref 160), (1, .int (nI e))] [] (HP d) := by
    intro f
    induction f with
    | zero =>
      intro e he hf hE
      have hEe : e = wEnd T 80 a := hE
      refine aw_iload_n dX8_readsWord_5 rfl ?_
      refine aw_aload_n dX8_readsWord_6 rfl ?_
      refine aw_gf dX8_readsWord_7 (hp_160 _) rfl fX8_239 (by decide) rfl ?_
      rw [hp.1.1]
      refine aw_icmp_ge 35 dX8_readsWord_10 (by decide) (fun c10 => ?_) (fun c10 => ?_)
      · rw [hEe]
        exact KX
      · exact absurd ((le_nI rfl rfl (by omega) (by omega)).mpr (show T.length ≤ e by omega)) c10
    | succ f ih =>
      intro e he hf hE
      refine aw_iload_n dX8_readsWord_5 rfl ?_
      refine aw_aload_n dX8_readsWord_6 rfl ?_
      refine aw_gf dX8_readsWord_7 (hp_160 _) rfl fX8_239 (by decide) rfl ?_
      rw [hp.1.1]
      refine aw_icmp_ge 35 dX8_readsWord_10 (by decide) (fun c10 => ?_) (fun c10 => ?_)
      · have ho : wEnd T (f + 1) e = e := wEnd_o (fun z => absurd ((le_nI rfl rfl (by omega) (by omega)).mp c10) (by omega))
        have hEe : e = wEnd T 80 a := by rw [← hE, ho]
        rw [hEe]
        exact KX
      · have hlt : e < T.length := by have := mt (le_nI (rfl : nI T.length = nI T.length) (rfl : nI e = nI e) (by omega) (by omega)).mpr c10; omega
        have hch := hp.1.2.2 e hlt
        refine aw_aload_n dX8_readsWord_13 rfl ?_
        refine aw_gf dX8_readsWord_14 (hp_160 _) rfl fX8_45 (by decide) rfl ?_
        refine aw_iload_n dX8_readsWord_17 rfl ?_
        refine aw_caldN dX8_readsWord_18 (hp_172 _) rfl (e) rfl (by omega) (by decide) ?_
        refine aw_bipush (v := 97) dX8_readsWord_19 (by decide) ?_
        refine aw_bipush (v := 122) dX8_readsWord_21 (by decide) ?_
        refine aw_cSP dX8_readsWord_23 oX8_in sX8_in rfl lX8_74 kX8_in rfl rfl (Nat.le_of_ble_eq_true rfl) (by decide) (Nat.le_of_ble_eq_true rfl) ?_
        rw [hch.1, show b2i (decide ((97 : Int32) ≤ nI (T.getD e 0) ∧ nI (T.getD e 0) ≤ 122)) = b2i (decide (97 ≤ T.getD e 0 ∧ T.getD e 0 ≤ 122)) from bde (gI_n (a := 97) (b := 122) (by omega) (by omega) (by omega))]
        refine aw_if_eq 35 dX8_readsWord_26 (by decide) (fun c26 => ?_) (fun c26 => ?_)
        · have ho : wEnd T (f + 1) e = e := wEnd_o (fun z => b2d_f c26 ⟨z.2.1, z.2.2⟩)
          have hEe : e = wEnd T 80 a := by rw [← hE, ho]
          rw [hEe]
          exact KX
        · refine aw_inc (c := 1) dX8_readsWord_29 (by decide) rfl (by decide) rfl ?_
          refine aw_goto (tgt := 5) dX8_readsWord_32 (by decide) ?_
          rw [nI_1]
          exact ih (e + 1) (by omega) (by omega) (by rw [← hE]; exact (wEnd_i ⟨hlt, (b2d_t c26).1, (b2d_t c26).2⟩).symm)
  refine aw_aload_n dX8_readsWord_0 rfl ?_
  refine aw_gf dX8_readsWord_1 (hp_160 _) rfl fX8_242 (by decide) rfl ?_
  refine aw_istore_n dX8_readsWord_4 (by decide) rfl ?_
  rw [hp.2.1]
  exact K 80 a hpa (by omega) rfl
