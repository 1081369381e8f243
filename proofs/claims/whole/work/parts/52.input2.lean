set_option maxHeartbeats 4000000 in
set_option maxRecDepth 100000 in
theorem kX2_passNumber {d : Dt} {T : List Nat} {a : Nat} (hp : RI d T a) {i : Nat} (hi : i < 4) : CI mX2_passNumber 2 [.ref 150, .int (nI i)] d (fun x d' => mP d d' ∧ RI d' T (rdN T a).2.1 ∧ x = b2i (rdN T a).1 ∧ (∀ k, k ≠ i → d'.1 152 k = d.1 152 k) ∧ ((rdN T a).1 = true → d'.1 152 i = nI (rdN T a).2.2) ∧ d'.1 150 3 = d.1 150 3) := by
  show AW mX2_passNumber 2 true (PIx (fun x d' => mP d d' ∧ RI d' T (rdN T a).2.1 ∧ x = b2i (rdN T a).1 ∧ (∀ k, k ≠ i → d'.1 152 k = d.1 152 k) ∧ ((rdN T a).1 = true → d'.1 152 i = nI (rdN T a).2.2) ∧ d'.1 150 3 = d.1 150 3) nX) 0 0 0 [(0, .ref 150), (1, .int (nI i))] [] (HP d)
  have hl80 := hp.1.2.1
  have hpa := hp.2.2
  refine aw_aload_n dX2_passNumber_0 rfl ?_
  refine aw_bipush (v := 32) dX2_passNumber_1 (by decide) ?_
  refine aw_cVI dX2_passNumber_3 oX2_passSign vX2_passSign rfl lX2_31 (kX2_passSign hp (c := 32) (by decide) (by decide)) rfl (hp_150 _) rfl rfl rfl (Nat.le_of_ble_eq_true rfl) (by decide) (Nat.le_of_ble_eq_true rfl) ?_
  rintro _ d2 ⟨hm1, hrp1, rfl, hc1, h152⟩
  refine aw_if_eq 14 dX2_passNumber_6 (by decide) (fun c6 => ?_) (fun c6 => ?_)
  · refine aw_iconst (v := 0) dX2_passNumber_14 (by decide) ?_
    exact aw_endZ dX2_passNumber_15 rfl (by decide) (by have hn := b2d_f c6; rw [if_neg hn] at hrp1; rw [rdN_n hn]; exact ⟨hm1, hrp1, rfl, fun _ _ => by rw [h152], fun z => absurd z Bool.false_ne_true, hc1⟩)
  · refine aw_iload_n dX2_passNumber_9 rfl ?_
    refine aw_iconst (v := 4) dX2_passNumber_10 (by decide) ?_
    refine aw_icmp_lt 16 dX2_passNumber_11 (by decide) (fun c11 => ?_) (fun c11 => (c11 ((lt_nI rfl (show (4 : Int32) = nI 4 from rfl) (by omega) (by omega)).mpr hi)).elim)
    have h32 : chA T a = 32 := b2d_t c6
    have hpT := (chA_pos (T := T) (a := a) (by omega)).1
    rw [if_pos h32] at hrp1
    have KX : ∀ (p v : Nat) (d1 : Dt), (mP d d1 ∧ RI d1 T p ∧ d1.1 152 = d.1 152 ∧ d1.1 150 3 = d.1 150 3) → a + 1 ≤ p → digs T 3 (a + 1) 0 = (p, v) → AW mX2_passNumber 2 true (PIx (fun x d' => mP d d' ∧ RI d' T (rdN T a).2.1 ∧ x = b2i (rdN T a).1 ∧ (∀ k, k ≠ i → d'.1 152 k = d.1 152 k) ∧ ((rdN T a).1 = true → d'.1 152 i = nI (rdN T a).2.2) ∧ d'.1 150 3 = d.1 150 3) nX) 0 0 90 [(0, .ref 150), (1, .int (nI i)), (2, .int (nI (a + 1))), (3, .int (nI v))] [] (HP d1) := by
      rintro p v d1 ⟨hm, hrp, hk1, hc⟩ hle hD0
      have hpl := hrp.2.2
      have hat := hrp.2.1
      have hD : rdN T a = (decide (a + 1 < p), p, v) := by rw [rdN_s h32, hD0]
      refine aw_aload_n dX2_passNumber_90 rfl ?_
      refine aw_gf dX2_passNumber_91 (hp_150 _) rfl fX2_13 (by decide) rfl ?_
      refine aw_iload_n dX2_passNumber_94 rfl ?_
      refine aw_iload_n dX2_passNumber_95 rfl ?_
      refine aw_iastN dX2_passNumber_96 hp_152 (i) rfl (by omega) (by decide)  ?_
      refine aw_aload_n dX2_passNumber_97 rfl ?_
      refine aw_gf dX2_passNumber_98 (hp_150 _) rfl fX2_21 (by decide) rfl ?_
      refine aw_iload_n dX2_passNumber_101 rfl ?_
      refine aw_icmp_le 109 dX2_passNumber_102 (by decide) (fun c102 => ?_) (fun c102 => ?_)
      · refine aw_iconst (v := 0) dX2_passNumber_109 (by decide) ?_
        exact aw_endZ dX2_passNumber_110 rfl (by decide) (by rw [dI_n _ _ (by decide), hat, le_nI rfl rfl (by omega) (by omega)] at c102; exact ⟨mP_152 hm _, RI_m hrp (mP_152 (mP_r d1) _) (by rw [dI_n _ _ (by decide)]; exact hD ▸ hat) (by rw [hD]; exact hpl), by rw [hD, decide_eq_false (by omega)]; rfl, fun k hk => by rw [dI_s, upd_ne _ _ hk, hk1], fun _ => by rw [dI_s, upd_at, hD], by rw [dI_n _ _ (by decide)]; exact hc⟩)
      · refine aw_iconst (v := 1) dX2_passNumber_105 (by decide) ?_
        refine aw_goto (tgt := 110) dX2_passNumber_106 (by decide) ?_
        exact aw_endZ dX2_passNumber_110 rfl (by decide) (by rw [dI_n _ _ (by decide), hat, le_nI rfl rfl (by omega) (by omega)] at c102; exact ⟨mP_152 hm _, RI_m hrp (mP_152 (mP_r d1) _) (by rw [dI_n _ _ (by decide)]; exact hD ▸ hat) (by rw [hD]; exact hpl), by rw [hD, decide_eq_true (by omega)]; rfl, fun k hk => by rw [dI_s, upd_ne _ _ hk, hk1], fun _ => by rw [dI_s, upd_at, hD], by rw [dI_n _ _ (by decide)]; exact hc⟩)
    have K : ∀ (f p v : Nat) (d1 : Dt), (mP d d1 ∧ RI d1 T p ∧ d1.1 152 = d.1 152 ∧ d1.1 150 3 = d.1 150 3) → a + 1 ≤ p → p + f = a + 1 + 3 → digs T f p v = digs T 3 (a + 1) 0 → AW mX2_passNumber 2 true (PIx (fun x d' => mP d d' ∧ RI d' T (rdN T a).2.1 ∧ x = b2i (rdN T a).1 ∧ (∀ k, k ≠ i → d'.1 152 k = d.1 152 k) ∧ ((rdN T a).1 = true → d'.1 152 i = nI (rdN T a).2.2) ∧ d'.1 150 3 = d.1 150 3) nX) 0 0 23 [(0, .ref 150), (1, .int (nI i)), (2, .int (nI (a + 1))), (3, .int (nI v))] [] (HP d1) := by
      intro f
      induction f with
      | zero =>
        intro p v d1 h1 hle hf hD
        have hat := h1.2.1.2.1
        have hpl := h1.2.1.2.2
        refine aw_aload_n dX2_passNumber_23 rfl ?_
        refine aw_gf dX2_passNumber_24 (hp_150 _) rfl fX2_21 (by decide) rfl ?_
        refine aw_aload_n dX2_passNumber_27 rfl ?_
        refine aw_gf dX2_passNumber_28 (hp_150 _) rfl fX2_17 (by decide) rfl ?_
        rw [hat, h1.2.1.1.1]
        refine aw_icmp_ge 90 dX2_passNumber_31 (by decide) (fun c31 => ?_) (fun c31 => ?_)
        · exact KX p v d1 h1 hle hD.symm
        · refine aw_aload_n dX2_passNumber_34 rfl ?_
          refine aw_gf dX2_passNumber_35 (hp_150 _) rfl fX2_21 (by decide) rfl ?_
          refine aw_iload_n dX2_passNumber_38 rfl ?_
          refine aw_iconst (v := 3) dX2_passNumber_39 (by decide) ?_
          refine aw_iadd dX2_passNumber_40 ?_
          have e3 : nI (a + 1) + 3 = nI (a + 1 + 3) := nI_add (a + 1) 3
          rw [hat, e3]
          refine aw_icmp_ge 90 dX2_passNumber_41 (by decide) (fun c41 => ?_) (fun c41 => ?_)
          · exact KX p v d1 h1 hle hD.symm
          · exact absurd ((le_nI rfl rfl (by omega) (by omega)).mpr (show a + 1 + 3 ≤ p by omega)) c41
      | succ f ih =>
        intro p v d1 h1 hle hf hD
        have hat := h1.2.1.2.1
        have hpl := h1.2.1.2.2
        refine aw_aload_n dX2_passNumber_23 rfl ?_
        refine aw_gf dX2_passNumber_24 (hp_150 _) rfl fX2_21 (by decide) rfl ?_
        refine aw_aload_n dX2_passNumber_27 rfl ?_
        refine aw_gf dX2_passNumber_28 (hp_150 _) rfl fX2_17 (by decide) rfl ?_
        rw [hat, h1.2.1.1.1]
        refine aw_icmp_ge 90 dX2_passNumber_31 (by decide) (fun c31 => ?_) (fun c31 => ?_)
        · have hge : T.length ≤ p := (le_nI rfl rfl (by omega) (by omega)).mp c31
          exact KX p v d1 h1 hle (by rw [← hD]; exact digs_o (fun z => by rw [chA_o hge] at z; omega))
        · have hlt : p < T.length := Nat.lt_of_not_le (fun z => c31 ((le_nI rfl rfl (by omega) (by omega)).mpr z))
          refine aw_aload_n dX2_passNumber_34 rfl ?_
          refine aw_gf dX2_passNumber_35 (hp_150 _) rfl fX2_21 (by decide) rfl ?_
          refine aw_iload_n dX2_passNumber_38 rfl ?_
          refine aw_iconst (v := 3) dX2_passNumber_39 (by decide) ?_
          refine aw_iadd dX2_passNumber_40 ?_
          have e3 : nI (a + 1) + 3 = nI (a + 1 + 3) := nI_add (a + 1) 3
          rw [hat, e3]
          refine aw_icmp_ge 90 dX2_passNumber_41 (by decide) (fun c41 => ?_) (fun c41 => ?_)
          · exact absurd ((le_nI rfl rfl (by omega) (by omega)).mp c41) (by omega)
          · refine aw_aload_n dX2_passNumber_44 rfl ?_
            refine aw_aload_n dX2_passNumber_45 rfl ?_
            refine aw_gf dX2_passNumber_46 (hp_150 _) rfl fX2_21 (by decide) rfl ?_
            refine aw_bipush (v := 48) dX2_passNumber_49 (by decide) ?_
            refine aw_bipush (v := 57) dX2_passNumber_51 (by decide) ?_
            rw [hat]
            refine aw_cVP dX2_passNumber_53 oX2_isBetween vX2_isBetween rfl lX2_50 (kX2_isBetween h1.2.1.1 (lo := 48) (hi := 57) hlt (by decide) (by decide)) rfl (hp_150 _) rfl rfl rfl (Nat.le_of_ble_eq_true rfl) (by decide) (Nat.le_of_ble_eq_true rfl) ?_
            refine aw_if_eq 90 dX2_passNumber_56 (by decide) (fun c56 => ?_) (fun c56 => ?_)
            · have h57 := b2d_f c56
              rw [← chA_i hlt] at h57
              exact KX p v d1 h1 hle (by rw [← hD]; exact digs_o h57)
            · refine aw_iload_n dX2_passNumber_59 rfl ?_
              refine aw_bipush (v := 10) dX2_passNumber_60 (by decide) ?_
              refine aw_imul dX2_passNumber_62 ?_
              refine aw_aload_n dX2_passNumber_63 rfl ?_
              refine aw_gf dX2_passNumber_64 (hp_150 _) rfl fX2_9 (by decide) rfl ?_
              refine aw_aload_n dX2_passNumber_67 rfl ?_
              refine aw_gf dX2_passNumber_68 (hp_150 _) rfl fX2_21 (by decide) rfl ?_
              refine aw_caldN dX2_passNumber_71 (hp_151 _) rfl (p) hat (by omega) (by decide) ?_
              refine aw_iadd dX2_passNumber_72 ?_
              refine aw_bipush (v := 48) dX2_passNumber_73 (by decide) ?_
              refine aw_isub dX2_passNumber_75 ?_
              refine aw_istore_n dX2_passNumber_76 (by decide) rfl ?_
              refine aw_aload_n dX2_passNumber_77 rfl ?_
              refine aw_dup dX2_passNumber_78 rfl ?_
              refine aw_gf dX2_passNumber_79 (hp_150 _) rfl fX2_21 (by decide) rfl ?_
              refine aw_iconst (v := 1) dX2_passNumber_82 (by decide) ?_
              refine aw_iadd dX2_passNumber_83 ?_
              refine aw_putI (ci := 2) (j := 4) .int dX2_passNumber_84 fX2_21 rfl (by decide) rfl tyX2 tyX2_ok nmX2 rfl rfl rfl (hp_150 _) (Nat.le_of_ble_eq_true rfl) rfl ?_
              refine aw_goto (tgt := 23) dX2_passNumber_87 (by decide) ?_
              have h57 := b2d_t c56
              rw [← chA_i hlt] at h57
              have hpT := (chA_pos (T := T) (a := p) (by omega)).1
              have hch := (h1.2.1.1.2.2 p hlt).1
              rw [hch, ← chA_i hlt]
              rw [show nI v * 10 + nI (chA T p) - 48 = nI (10 * v + (chA T p - 48)) from by rw [show (10 : Int32) = nI 10 from rfl, pk_mul, nI_add, show (48 : Int32) = nI 48 from rfl, pk_sub (by omega)]; exact congrArg nI (by omega)]
              exact ih (p + 1) (10 * v + (chA T p - 48)) _ ⟨mP_150 h1.1 (Or.inr rfl) _, RI_m h1.2.1 (mP_150 (mP_r d1) (Or.inr rfl) _) (by rw [dI_s, upd_at, hat, nI_1]) hpT, by rw [dI_n _ _ (by decide)]; exact h1.2.2.1, by rw [dI_s, upd_ne _ _ (by decide)]; exact h1.2.2.2⟩ (by omega) (by omega) (by rw [← hD]; exact (digs_i h57).symm)
    refine aw_aload_n dX2_passNumber_16 rfl ?_
    refine aw_gf dX2_passNumber_17 (hp_150 _) rfl fX2_21 (by decide) rfl ?_
    refine aw_istore_n dX2_passNumber_20 (by decide) rfl ?_
    refine aw_iconst (v := 0) dX2_passNumber_21 (by decide) ?_
    refine aw_istore_n dX2_passNumber_22 (by decide) rfl ?_
    rw [hrp1.2.1]
    exact K 3 (a + 1) 0 d2 ⟨hm1, hrp1, h152, hc1⟩ (Nat.le_refl _) rfl rfl

set_option maxHeartbeats 4000000 in
set_option maxRecDepth 100000 in
theorem kX2_passCommand {d : Dt} {T : List Nat} {a : Nat} (hp : RI d T a) : CI mX2_passCommand 10 [.ref 150] d (fun x d' => mP d d' ∧ RI d' T (rdC T a).2.1 ∧ x = b2i (rdC T a).1 ∧ ((rdC T a).1 = true → d'.1 150 3 = nI (rdC T a).2.2.1 ∧ (rdC T a).2.2.1 < 6 ∧ ∀ k, k < nN (rdC T a).2.2.1 → d'.1 152 k = nI ((rdC T a).2.2.2 k))) := by
  show AW mX2_passCommand 10 true (PIx (fun x d' => mP d d' ∧ RI d' T (rdC T a).2.1 ∧ x = b2i (rdC T a).1 ∧ ((rdC T a).1 = true → d'.1 150 3 = nI (rdC T a).2.2.1 ∧ (rdC T a).2.2.1 < 6 ∧ ∀ k, k < nN (rdC T a).2.2.1 → d'.1 152 k = nI ((rdC T a).2.2.2 k))) nX) 0 0 0 [(0, .ref 150)] [] (HP d)
  have hl80 := hp.1.2.1
  have hpa := hp.2.2
  have hEl := wEnd_le T 80 a hpa
  have hw6 := (@wNo_spec T a (wEnd T 80 a) 6 (Nat.le_refl _)).1
  refine aw_aload_n dX2_passCommand_0 rfl ?_
  refine aw_cVI dX2_passCommand_1 oX2_passWord vX2_passWord rfl lX2_35 (kX2_passWord hp) rfl (hp_150 _) rfl rfl rfl (Nat.le_of_ble_eq_true rfl) (by decide) (Nat.le_of_ble_eq_true rfl) ?_
  rintro _ d2 ⟨hm2, hrp2, rfl, hc2, -⟩
  refine aw_if_eq 14 dX2_passCommand_4 (by decide) (fun c4 => ?_) (fun c4 => ?_)
  · refine aw_iconst (v := 0) dX2_passCommand_14 (by decide) ?_
    exact aw_endZ dX2_passCommand_15 rfl (by decide) (by have h6 := Classical.not_not.mp (b2d_f c4); rw [if_pos h6] at hrp2; rw [rdC_0 h6]; exact ⟨hm2, hrp2, rfl, fun z => absurd z Bool.false_ne_true⟩)
  · refine aw_aload_n dX2_passCommand_7 rfl ?_
    refine aw_gf dX2_passCommand_8 (hp_150 _) rfl fX2_38 (by decide) rfl ?_
    have h6 := b2d_t c4
    rw [if_neg h6] at hrp2
    rw [wI_w h6] at hc2
    have hC0 := rdC_1 h6
    have hw6 : wNo T a (wEnd T 80 a) 6 < 6 := by omega
    generalize hw : wNo T a (wEnd T 80 a) 6 = w at hc2 hC0 h6 hw6
    have hn4 := nN_le w
    have K : ∀ (f i p : Nat) (v : Nat → Nat) (d1 : Dt), mP d d1 → RI d1 T p → d1.1 150 3 = nI w → i + f = nN w → (∀ k, k < i → d1.1 152 k = nI (v k)) → rdNs T f p v i = rdNs T (nN w) (wEnd T 80 a) (fun _ => 0) 0 → AW mX2_passCommand 10 true (PIx (fun x d' => mP d d' ∧ RI d' T (rdC T a).2.1 ∧ x = b2i (rdC T a).1 ∧ ((rdC T a).1 = true → d'.1 150 3 = nI (rdC T a).2.2.1 ∧ (rdC T a).2.2.1 < 6 ∧ ∀ k, k < nN (rdC T a).2.2.1 → d'.1 152 k = nI ((rdC T a).2.2.2 k))) nX) 0 0 18 [(0, .ref 150), (1, .int (nI i))] [] (HP d1) := by
      intro f
      induction f with
      | zero =>
        intro i p v d1 hm hrp hc hf hv hR
        have hC : rdC T a = (true, p, w, v) := by rw [hC0, ← hR]; rfl
        refine aw_iload_n dX2_passCommand_18 rfl ?_
        refine aw_aload_n dX2_passCommand_19 rfl ?_
        refine aw_gf dX2_passCommand_20 (hp_150 _) rfl fX2_38 (by decide) rfl ?_
        rw [hc, cmdv_n (by omega)]
        refine aw_gfC dX2_passCommand_23 (oc_n w hw6) (by omega) (cok_i _) fX2_42 ?_
        refine aw_icmp_ge 45 dX2_passCommand_26 (by decide) (fun c26 => ?_) (fun c26 => ?_)
        · refine aw_iconst (v := 1) dX2_passCommand_45 (by decide) ?_
          exact aw_endZ dX2_passCommand_46 rfl (by decide) (by rw [hC]; exact ⟨hm, hrp, rfl, fun _ => ⟨hc, hw6, fun k hk => hv k (by have : k < nN w := hk; omega)⟩⟩)
        · exact absurd ((le_nI rfl rfl (by omega) (by omega)).mpr (show nN w ≤ i by omega)) c26
      | succ f ih =>
        intro i p v d1 hm hrp hc hf hv hR
        refine aw_iload_n dX2_passCommand_18 rfl ?_
        refine aw_aload_n dX2_passCommand_19 rfl ?_
        refine aw_gf dX2_passCommand_20 (hp_150 _) rfl fX2_38 (by decide) rfl ?_
        rw [hc, cmdv_n (by omega)]
        refine aw_gfC dX2_passCommand_23 (oc_n w hw6) (by omega) (cok_i _) fX2_42 ?_
        refine aw_icmp_ge 45 dX2_passCommand_26 (by decide) (fun c26 => ?_) (fun c26 => ?_)
        · exact absurd ((le_nI rfl rfl (by omega) (by omega)).mp c26) (by omega)
        · refine aw_aload_n dX2_passCommand_29 rfl ?_
          refine aw_iload_n dX2_passCommand_30 rfl ?_
          refine aw_cVI dX2_passCommand_31 oX2_passNumber vX2_passNumber rfl lX2_46 (kX2_passNumber hrp (i := i) (by omega)) rfl (hp_150 _) rfl rfl rfl (Nat.le_of_ble_eq_true rfl) (by decide) (Nat.le_of_ble_eq_true rfl) ?_
          rintro _ d2 ⟨hm2, hrp2, rfl, hk2, hv2, hc2⟩
          refine aw_if_ne 39 dX2_passCommand_34 (by decide) (fun c34 => ?_) (fun c34 => ?_)
          · refine aw_inc (c := 1) dX2_passCommand_39 (by decide) rfl (by decide) rfl ?_
            refine aw_goto (tgt := 18) dX2_passCommand_42 (by decide) ?_
            have hb := b2i_ne.mp c34
            rw [nI_1]
            refine ih (i + 1) _ _ d2 (mP_t hm hm2) hrp2 (hc2.trans hc) (by omega) (fun k hk => ?_) (by rw [← hR]; exact (rdNs_t hb).symm)
            show d2.1 152 k = nI (if k = i then (rdN T p).2.2 else v k)
            by_cases e : k = i
            · rw [if_pos e, e]; exact hv2 hb
            · rw [if_neg e, hk2 k e]; exact hv k (by omega)
          · refine aw_iconst (v := 0) dX2_passCommand_37 (by decide) ?_
            exact aw_endZ dX2_passCommand_38 rfl (by decide) (by have hb : (rdN T p).1 = false := b2i_eq.mp c34; rw [show rdC T a = (false, (rdN T p).2.1, w, v) from by rw [hC0, ← hR, rdNs_f (by rw [hb]; exact Bool.false_ne_true)]]; exact ⟨mP_t hm hm2, hrp2, rfl, fun z => absurd z Bool.false_ne_true⟩)
    rw [hc2, cmdv_n (by omega)]
    refine aw_ifnonnull_r (tgt := 16) dX2_passCommand_11 (by decide) ?_
    refine aw_iconst (v := 0) dX2_passCommand_16 (by decide) ?_
    refine aw_istore_n dX2_passCommand_17 (by decide) rfl ?_
    exact K (nN w) 0 (wEnd T 80 a) (fun _ => 0) d2 hm2 hrp2 hc2 (by omega) (fun k hk => absurd hk (Nat.not_lt_zero _)) rfl

set_option maxHeartbeats 4000000 in
set_option maxRecDepth 100000 in
theorem kX2_errorPosition {d : Dt} {T : List Nat} (hT : TP (d.1 151) (d.1 150 2) T) : CI mX2_errorPosition 11 [.ref 150] d (fun x d' => mP d d' ∧ x = errQ T) := by
  show AW mX2_errorPosition 11 true (PIx (fun x d' => mP d d' ∧ x = errQ T) nX) 0 0 0 [(0, .ref 150)] [] (HP d)
  have hl80 := hT.2.1
  have KE : ∀ (i p : Nat) (d1 : Dt), mP d d1 → RI d1 T p → prs T 80 0 = (true, p) → AW mX2_errorPosition 11 true (PIx (fun x d' => mP d d' ∧ x = errQ T) nX) 0 0 8 [(0, .ref 150), (1, .int (0)), (2, .int (nI i))] [] (HP d1) := by
    intro i p d1 hm hrp hP
    have hpl := hrp.2.2
    refine aw_iload_n dX2_errorPosition_8 rfl ?_
    refine aw_if_eq 43 dX2_errorPosition_9 (by decide) (fun _ => ?_) (fun c9 => (by first | exact absurd c9 (by decide) | exact absurd rfl c9))
    refine aw_aload_n dX2_errorPosition_43 rfl ?_
    refine aw_gf dX2_errorPosition_44 (hp_150 _) rfl fX2_21 (by decide) rfl ?_
    refine aw_aload_n dX2_errorPosition_47 rfl ?_
    refine aw_gf dX2_errorPosition_48 (hp_150 _) rfl fX2_17 (by decide) rfl ?_
    refine aw_icmp_ge 61 dX2_errorPosition_51 (by decide) (fun c51 => ?_) (fun c51 => ?_)
    · refine aw_iconst (v := (-1)) dX2_errorPosition_61 (by decide) ?_
      have hge : T.length ≤ p := (by rw [hrp.2.1, hrp.1.1] at c51; exact (le_nI rfl rfl (by omega) (by omega)).mp c51); exact aw_endI dX2_errorPosition_62 rfl ⟨hm, by unfold errQ; rw [hP, if_pos ⟨rfl, hge⟩]⟩
    · refine aw_aload_n dX2_errorPosition_54 rfl ?_
      refine aw_gf dX2_errorPosition_55 (hp_150 _) rfl fX2_21 (by decide) rfl ?_
      refine aw_goto (tgt := 62) dX2_errorPosition_58 (by decide) ?_
      have hlt : p < T.length := (by rw [hrp.2.1, hrp.1.1] at c51; exact Nat.lt_of_not_le (fun z => c51 ((le_nI rfl rfl (by omega) (by omega)).mpr z))); exact aw_endI dX2_errorPosition_62 rfl ⟨hm, by unfold errQ; rw [hP, if_neg (fun z => by have := z.2; omega)]; exact hrp.2.1⟩
  have K : ∀ (f i p : Nat) (d1 : Dt), mP d d1 → RI d1 T p → i + f = 80 → 2 * i ≤ p → prs T f p = prs T 80 0 → AW mX2_errorPosition 11 true (PIx (fun x d' => mP d d' ∧ x = errQ T) nX) 0 0 8 [(0, .ref 150), (1, .int (1)), (2, .int (nI i))] [] (HP d1) := by
    intro f
    induction f with
    | zero =>
      intro i p d1 hm hrp hf h2 hP
      have := hrp.2.2
      omega
    | succ f ih =>
      intro i p d1 hm hrp hf h2 hP
      have hp1 := hrp.2.2
      refine aw_iload_n dX2_errorPosition_8 rfl ?_
      refine aw_if_eq 43 dX2_errorPosition_9 (by decide) (fun c9 => (by first | exact absurd c9 (by decide) | exact absurd rfl c9)) (fun _ => ?_)
      refine aw_iload_n dX2_errorPosition_12 rfl ?_
      refine aw_bipush (v := 80) dX2_errorPosition_13 (by decide) ?_
      refine aw_icmp_ge 43 dX2_errorPosition_15 (by decide) (fun c15 => (show False from absurd ((le_nI (show (80 : Int32) = nI 80 from rfl) rfl (by omega) (by omega)).mp c15) (by omega)).elim) (fun c15 => ?_)
      refine aw_aload_n dX2_errorPosition_18 rfl ?_
      refine aw_cVI dX2_errorPosition_19 oX2_passCommand vX2_passCommand rfl lX2_27 (kX2_passCommand hrp) rfl (hp_150 _) rfl rfl rfl (Nat.le_of_ble_eq_true rfl) (by decide) (Nat.le_of_ble_eq_true rfl) ?_
      rintro _ d2 ⟨hm2, hrp2, rfl, -⟩
      refine aw_if_ne 30 dX2_errorPosition_22 (by decide) (fun c22 => ?_) (fun c22 => ?_)
      · refine aw_aload_n dX2_errorPosition_30 rfl ?_
        refine aw_bipush (v := 59) dX2_errorPosition_31 (by decide) ?_
        refine aw_cVI dX2_errorPosition_33 oX2_passSign vX2_passSign rfl lX2_31 (kX2_passSign hrp2 (c := 59) (by decide) (by decide)) rfl (hp_150 _) rfl rfl rfl (Nat.le_of_ble_eq_true rfl) (by decide) (Nat.le_of_ble_eq_true rfl) ?_
        rintro _ d3 ⟨hm3, hrp3, rfl, -, -⟩
        refine aw_istore_n dX2_errorPosition_36 (by decide) rfl ?_
        refine aw_inc (c := 1) dX2_errorPosition_37 (by decide) rfl (by decide) rfl ?_
        refine aw_goto (tgt := 8) dX2_errorPosition_40 (by decide) ?_
        have hC := b2i_ne.mp c22
        rw [nI_1]
        by_cases h59 : chA T (rdC T p).2.1 = 59
        · rw [if_pos h59] at hrp3
          rw [b2i_t h59]
          have hC2 := ((rdC_le hp1).2.2.2 hC).1
          have hpT := (chA_pos (T := T) (a := (rdC T p).2.1) (by omega)).1
          exact ih (i + 1) ((rdC T p).2.1 + 1) d3 (mP_t hm (mP_t hm2 hm3)) hrp3 (by omega) (by omega) (by rw [← hP]; exact (prs_i ⟨hC, h59⟩).symm)
        · rw [if_neg h59] at hrp3
          rw [b2i_f h59]
          exact KE (i + 1) _ d3 (mP_t hm (mP_t hm2 hm3)) hrp3 (by rw [← hP, prs_o (fun z => h59 z.2), hC])
      · refine aw_aload_n dX2_errorPosition_25 rfl ?_
        refine aw_gf dX2_errorPosition_26 (hp_150 _) rfl fX2_21 (by decide) rfl ?_
        have hb : (rdC T p).1 = false := b2i_eq.mp c22
        have hn : ¬ (rdC T p).1 = true := fun z => by rw [hb] at z; exact Bool.false_ne_true z
        exact aw_endI dX2_errorPosition_29 rfl ⟨mP_t hm hm2, by unfold errQ; rw [← hP, prs_o (fun z => hn z.1), if_neg (fun z => hn z.1)]; exact hrp2.2.1⟩
  refine aw_aload_n dX2_errorPosition_0 rfl ?_
  refine aw_cVv dX2_errorPosition_1 oX2_rewind vX2_rewind rfl lX2_24 (kX2_rewind) rfl (hp_150 _) rfl rfl rfl (Nat.le_of_ble_eq_true rfl) (by decide) (Nat.le_of_ble_eq_true rfl) ?_
  rintro _ rfl
  refine aw_iconst (v := 1) dX2_errorPosition_4 (by decide) ?_
  refine aw_istore_n dX2_errorPosition_5 (by decide) rfl ?_
  refine aw_iconst (v := 0) dX2_errorPosition_6 (by decide) ?_
  refine aw_istore_n dX2_errorPosition_7 (by decide) rfl ?_
  exact K 80 0 0 _ (mP_150 (mP_r d) (Or.inr rfl) _) ⟨by rw [dI_n _ _ (show (151 : Nat) ≠ 150 by decide), dI_s, upd_ne _ _ (by decide)]; exact hT, by rw [dI_s, upd_at]; rfl, Nat.zero_le _⟩ rfl (Nat.le_refl _) rfl
