set_option maxHeartbeats 4000000 in
set_option maxRecDepth 100000 in
theorem kX8_eatsEnd {d : Dt} {T : List Nat} {a : Nat} (hp : RP d T a) : CI mX8_eatsEnd 2 [.ref 160] d (fun x d' => mR d d' ∧ RP d' T (if chA T a = 59 then a + 1 else a) ∧ x = b2i (decide (chA T a = 59)) ∧ d'.1 160 20 = d.1 160 20 ∧ d'.1 173 = d.1 173) := by
  show AW mX8_eatsEnd 2 true (PIx (fun x d' => mR d d' ∧ RP d' T (if chA T a = 59 then a + 1 else a) ∧ x = b2i (decide (chA T a = 59)) ∧ d'.1 160 20 = d.1 160 20 ∧ d'.1 173 = d.1 173) nX) 0 0 0 [(0, .ref 160)] [] (HP d)
  have hl80 := hp.1.2.1
  have hpa := hp.2.2
  have h64 := chA_64 hp.1 a
  refine aw_join (P := fun v => v = b2i (decide (chA T a = 59))) 25 (fun v hv25 => ?_) (fun kJ25 => ?_)
  · subst hv25
    refine aw_istore_n dX8_eatsEnd_25 (by decide) rfl ?_
    refine aw_aload_n dX8_eatsEnd_26 rfl ?_
    refine aw_dup dX8_eatsEnd_27 rfl ?_
    refine aw_gf dX8_eatsEnd_28 (hp_160 _) rfl fX8_242 (by decide) rfl ?_
    refine aw_iload_n dX8_eatsEnd_31 rfl ?_
    refine aw_if_eq 39 dX8_eatsEnd_32 (by decide) (fun c32 => ?_) (fun c32 => ?_)
    · refine aw_iconst (v := 0) dX8_eatsEnd_39 (by decide) ?_
      refine aw_iadd dX8_eatsEnd_40 ?_
      refine aw_putI (ci := 8) (j := 18) .int dX8_eatsEnd_41 fX8_242 rfl (by decide) rfl tyX8 tyX8_ok nmX8 rfl rfl rfl (hp_160 _) (Nat.le_of_ble_eq_true rfl) rfl ?_
      refine aw_iload_n dX8_eatsEnd_44 rfl ?_
      exact aw_endZ dX8_eatsEnd_45 rfl (b2i_nar _) ⟨mR_160 (mR_r d) (by decide) _, by have h59 := b2d_f c32; rw [if_neg h59]; exact RP_m hp (mR_160 (mR_r d) (by decide) _) (by rw [dI_s]; simp only [upd, if_true]; rw [hp.2.1]; exact nI_add _ 0) hpa, rfl, by rw [dI_s]; rfl, by rw [dI_n _ _ (by decide)]⟩
    · refine aw_iconst (v := 1) dX8_eatsEnd_35 (by decide) ?_
      refine aw_goto (tgt := 40) dX8_eatsEnd_36 (by decide) ?_
      refine aw_iadd dX8_eatsEnd_40 ?_
      refine aw_putI (ci := 8) (j := 18) .int dX8_eatsEnd_41 fX8_242 rfl (by decide) rfl tyX8 tyX8_ok nmX8 rfl rfl rfl (hp_160 _) (Nat.le_of_ble_eq_true rfl) rfl ?_
      refine aw_iload_n dX8_eatsEnd_44 rfl ?_
      exact aw_endZ dX8_eatsEnd_45 rfl (b2i_nar _) ⟨mR_160 (mR_r d) (by decide) _, by have h59 := b2d_t c32; rw [if_pos h59]; exact RP_m hp (mR_160 (mR_r d) (by decide) _) (by rw [dI_s]; simp only [upd, if_true]; rw [hp.2.1]; exact nI_add _ 1) (by have := (chA_pos (T := T) (a := a) (by omega)).1; omega), rfl, by rw [dI_s]; rfl, by rw [dI_n _ _ (by decide)]⟩
  · refine aw_aload_n dX8_eatsEnd_0 rfl ?_
    refine aw_cVP dX8_eatsEnd_1 oX8_here vX8_here rfl lX8_252 (kX8_here hp) rfl (hp_160 _) rfl rfl rfl (Nat.le_of_ble_eq_true rfl) (by decide) (Nat.le_of_ble_eq_true rfl) ?_
    refine aw_bipush (v := 59) dX8_eatsEnd_4 (by decide) ?_
    refine aw_icmp_ne 24 dX8_eatsEnd_6 (by decide) (fun c6 => ?_) (fun c6 => ?_)
    · refine aw_iconst (v := 0) dX8_eatsEnd_24 (by decide) ?_
      exact kJ25 _ (by rw [b2i_f (fun z => c6 (by rw [z]; rfl))])
    · refine aw_aload_n dX8_eatsEnd_9 rfl ?_
      refine aw_gf dX8_eatsEnd_10 (hp_160 _) rfl fX8_242 (by decide) rfl ?_
      refine aw_aload_n dX8_eatsEnd_13 rfl ?_
      refine aw_gf dX8_eatsEnd_14 (hp_160 _) rfl fX8_239 (by decide) rfl ?_
      rw [hp.2.1, hp.1.1]
      refine aw_icmp_ge 24 dX8_eatsEnd_17 (by decide) (fun c17 => ?_) (fun c17 => ?_)
      · refine aw_iconst (v := 0) dX8_eatsEnd_24 (by decide) ?_
        exact absurd ((le_nI rfl rfl (by omega) (by omega)).mp c17) (by have := ((eq_nI rfl (show (59 : Int32) = nI 59 from rfl) (by omega) (by omega)).mp c6); have := (chA_pos (T := T) (a := a) (by omega)).1; omega)
      · refine aw_iconst (v := 1) dX8_eatsEnd_20 (by decide) ?_
        refine aw_goto (tgt := 25) dX8_eatsEnd_21 (by decide) ?_
        exact kJ25 _ (by rw [b2i_t ((eq_nI rfl (show (59 : Int32) = nI 59 from rfl) (by omega) (by omega)).mp c6)])

set_option maxHeartbeats 4000000 in
set_option maxRecDepth 100000 in
theorem kX8_readsNumber {d : Dt} {T : List Nat} {a : Nat} (hp : RP d T a) {i : Nat} (hi : i < 4) : CI mX8_readsNumber 4 [.ref 160, .int (nI i)] d (fun x d' => mR d d' ∧ RP d' T (rdN T a).2.1 ∧ x = b2i (rdN T a).1 ∧ (∀ k, k ≠ i → d'.1 173 k = d.1 173 k) ∧ ((rdN T a).1 = true → d'.1 173 i = nI (rdN T a).2.2) ∧ d'.1 160 20 = d.1 160 20) := by
  show AW mX8_readsNumber 4 true (PIx (fun x d' => mR d d' ∧ RP d' T (rdN T a).2.1 ∧ x = b2i (rdN T a).1 ∧ (∀ k, k ≠ i → d'.1 173 k = d.1 173 k) ∧ ((rdN T a).1 = true → d'.1 173 i = nI (rdN T a).2.2) ∧ d'.1 160 20 = d.1 160 20) nX) 0 0 0 [(0, .ref 160), (1, .int (nI i))] [] (HP d)
  have hl80 := hp.1.2.1
  have hpa := hp.2.2
  have h64 := chA_64 hp.1 a
  refine aw_aload_n dX8_readsNumber_0 rfl ?_
  refine aw_cVP dX8_readsNumber_1 oX8_here vX8_here rfl lX8_252 (kX8_here hp) rfl (hp_160 _) rfl rfl rfl (Nat.le_of_ble_eq_true rfl) (by decide) (Nat.le_of_ble_eq_true rfl) ?_
  refine aw_bipush (v := 32) dX8_readsNumber_4 (by decide) ?_
  refine aw_icmp_eq 11 dX8_readsNumber_6 (by decide) (fun c6 => ?_) (fun c6 => ?_)
  · have h32 : chA T a = 32 := (eq_nI rfl (show (32 : Int32) = nI 32 from rfl) (by omega) (by omega)).mp c6
    have hpT := (chA_pos (T := T) (a := a) (by omega)).1
    have KX : ∀ (p v : Nat) (d1 : Dt), (mR d d1 ∧ RP d1 T p ∧ (∀ k, k ≠ i → d1.1 173 k = d.1 173 k) ∧ d1.1 173 i = nI v ∧ d1.1 160 20 = d.1 160 20) → a + 1 ≤ p → digs T 3 (a + 1) 0 = (p, v) → AW mX8_readsNumber 4 true (PIx (fun x d' => mR d d' ∧ RP d' T (rdN T a).2.1 ∧ x = b2i (rdN T a).1 ∧ (∀ k, k ≠ i → d'.1 173 k = d.1 173 k) ∧ ((rdN T a).1 = true → d'.1 173 i = nI (rdN T a).2.2) ∧ d'.1 160 20 = d.1 160 20) nX) 0 0 93 [(0, .ref 160), (1, .int (nI i)), (2, .int (nI (a + 1)))] [] (HP d1) := by
      rintro p v d1 ⟨hm, hrp, hk, hv, hc⟩ hle hD0
      have hpl := hrp.2.2
      have hat := hrp.2.1
      have hD : rdN T a = (decide (a + 1 < p), p, v) := by rw [rdN_s h32, hD0]
      refine aw_aload_n dX8_readsNumber_93 rfl ?_
      refine aw_gf dX8_readsNumber_94 (hp_160 _) rfl fX8_242 (by decide) rfl ?_
      refine aw_iload_n dX8_readsNumber_97 rfl ?_
      refine aw_icmp_le 105 dX8_readsNumber_98 (by decide) (fun c98 => ?_) (fun c98 => ?_)
      · refine aw_iconst (v := 0) dX8_readsNumber_105 (by decide) ?_
        exact aw_endZ dX8_readsNumber_106 rfl (by decide) (by rw [hat, le_nI rfl rfl (by omega) (by omega)] at c98; exact ⟨hm, by rw [hD]; exact hrp, by rw [hD, decide_eq_false (by omega)]; rfl, hk, fun _ => by rw [hD]; exact hv, hc⟩)
      · refine aw_iconst (v := 1) dX8_readsNumber_101 (by decide) ?_
        refine aw_goto (tgt := 106) dX8_readsNumber_102 (by decide) ?_
        exact aw_endZ dX8_readsNumber_106 rfl (by decide) (by rw [hat, le_nI rfl rfl (by omega) (by omega)] at c98; exact ⟨hm, by rw [hD]; exact hrp, by rw [hD, decide_eq_true (by omega)]; rfl, hk, fun _ => by rw [hD]; exact hv, hc⟩)
    have K : ∀ (f p v : Nat) (d1 : Dt), (mR d d1 ∧ RP d1 T p ∧ (∀ k, k ≠ i → d1.1 173 k = d.1 173 k) ∧ d1.1 173 i = nI v ∧ d1.1 160 20 = d.1 160 20) → a + 1 ≤ p → p + f = a + 1 + 3 → digs T f p v = digs T 3 (a + 1) 0 → AW mX8_readsNumber 4 true (PIx (fun x d' => mR d d' ∧ RP d' T (rdN T a).2.1 ∧ x = b2i (rdN T a).1 ∧ (∀ k, k ≠ i → d'.1 173 k = d.1 173 k) ∧ ((rdN T a).1 = true → d'.1 173 i = nI (rdN T a).2.2) ∧ d'.1 160 20 = d.1 160 20) nX) 0 0 33 [(0, .ref 160), (1, .int (nI i)), (2, .int (nI (a + 1)))] [] (HP d1) := by
      intro f
      induction f with
      | zero =>
        intro p v d1 h1 hle hf hD
        have hat := h1.2.1.2.1
        have hpl := h1.2.1.2.2
        refine aw_aload_n dX8_readsNumber_33 rfl ?_
        refine aw_gf dX8_readsNumber_34 (hp_160 _) rfl fX8_242 (by decide) rfl ?_
        refine aw_iload_n dX8_readsNumber_37 rfl ?_
        refine aw_isub dX8_readsNumber_38 ?_
        rw [hat, pk_sub hle]
        refine aw_iconst (v := 3) dX8_readsNumber_39 (by decide) ?_
        refine aw_icmp_ge 93 dX8_readsNumber_40 (by decide) (fun c40 => ?_) (fun c40 => ?_)
        · exact aw_pick [0, 1, 2] (KX p v d1 h1 hle hD.symm)
        · exact absurd ((le_nI (show (3 : Int32) = nI 3 from rfl) rfl (by omega) (by omega)).mpr (show 3 ≤ p - (a + 1) by omega)) c40
      | succ f ih =>
        intro p v d1 h1 hle hf hD
        have hat := h1.2.1.2.1
        have hpl := h1.2.1.2.2
        have h64 := chA_64 h1.2.1.1 p
        refine aw_aload_n dX8_readsNumber_33 rfl ?_
        refine aw_gf dX8_readsNumber_34 (hp_160 _) rfl fX8_242 (by decide) rfl ?_
        refine aw_iload_n dX8_readsNumber_37 rfl ?_
        refine aw_isub dX8_readsNumber_38 ?_
        rw [hat, pk_sub hle]
        refine aw_iconst (v := 3) dX8_readsNumber_39 (by decide) ?_
        refine aw_icmp_ge 93 dX8_readsNumber_40 (by decide) (fun c40 => ?_) (fun c40 => ?_)
        · exact absurd ((le_nI (show (3 : Int32) = nI 3 from rfl) rfl (by omega) (by omega)).mp c40) (by omega)
        · refine aw_aload_n dX8_readsNumber_43 rfl ?_
          refine aw_cVP dX8_readsNumber_44 oX8_here vX8_here rfl lX8_252 (kX8_here h1.2.1) rfl (hp_160 _) rfl rfl rfl (Nat.le_of_ble_eq_true rfl) (by decide) (Nat.le_of_ble_eq_true rfl) ?_
          refine aw_bipush (v := 48) dX8_readsNumber_47 (by decide) ?_
          refine aw_bipush (v := 57) dX8_readsNumber_49 (by decide) ?_
          refine aw_cSP dX8_readsNumber_51 oX8_in sX8_in rfl lX8_74 kX8_in rfl rfl (Nat.le_of_ble_eq_true rfl) (by decide) (Nat.le_of_ble_eq_true rfl) ?_
          refine aw_if_eq 93 dX8_readsNumber_54 (by decide) (fun c54 => ?_) (fun c54 => ?_)
          · rw [show b2i (decide ((48 : Int32) ≤ nI (chA T p) ∧ nI (chA T p) ≤ 57)) = b2i (decide (48 ≤ chA T p ∧ chA T p ≤ 57)) from bde (gI_n (a := 48) (b := 57) (by omega) (by omega) (by omega))] at c54
            have h57 := b2d_f c54
            exact aw_pick [0, 1, 2] (KX p v d1 h1 hle (by rw [← hD]; exact digs_o h57))
          · skip
            refine aw_aload_n dX8_readsNumber_57 rfl ?_
            refine aw_gf dX8_readsNumber_58 (hp_160 _) rfl fX8_49 (by decide) rfl ?_
            refine aw_iload_n dX8_readsNumber_61 rfl ?_
            refine aw_bipush (v := 10) dX8_readsNumber_62 (by decide) ?_
            refine aw_aload_n dX8_readsNumber_64 rfl ?_
            refine aw_gf dX8_readsNumber_65 (hp_160 _) rfl fX8_49 (by decide) rfl ?_
            refine aw_iload_n dX8_readsNumber_68 rfl ?_
            refine aw_ialdN dX8_readsNumber_69 (hp_173 _) rfl (i) (by first | rfl | (simp only [li_0, li_1, li_2, li_3, li_4, li_5, li_7, li_8, li_9, li_11, li_12, li_16, li_17, li_31, li_32, li_60, li_77, li_80, li_89, li_99, li_101, li_112, li_113, li_256, li_999, li_1023, nI_add, pk_mul])) (by omega) (by decide) ?_
            refine aw_imul dX8_readsNumber_70 ?_
            refine aw_aload_n dX8_readsNumber_71 rfl ?_
            refine aw_cVP dX8_readsNumber_72 oX8_here vX8_here rfl lX8_252 (kX8_here h1.2.1) rfl (hp_160 _) rfl rfl rfl (Nat.le_of_ble_eq_true rfl) (by decide) (Nat.le_of_ble_eq_true rfl) ?_
            refine aw_iadd dX8_readsNumber_75 ?_
            refine aw_bipush (v := 48) dX8_readsNumber_76 (by decide) ?_
            refine aw_isub dX8_readsNumber_78 ?_
            refine aw_iastN dX8_readsNumber_79 hp_173 (i) rfl (by omega) (by decide)  ?_
            refine aw_aload_n dX8_readsNumber_80 rfl ?_
            refine aw_dup dX8_readsNumber_81 rfl ?_
            refine aw_gf dX8_readsNumber_82 (hp_160 _) rfl fX8_242 (by decide) rfl ?_
            refine aw_iconst (v := 1) dX8_readsNumber_85 (by decide) ?_
            refine aw_iadd dX8_readsNumber_86 ?_
            refine aw_putI (ci := 8) (j := 18) .int dX8_readsNumber_87 fX8_242 rfl (by decide) rfl tyX8 tyX8_ok nmX8 rfl rfl rfl (hp_160 _) (Nat.le_of_ble_eq_true rfl) rfl ?_
            refine aw_goto (tgt := 33) dX8_readsNumber_90 (by decide) ?_
            rw [show b2i (decide ((48 : Int32) ≤ nI (chA T p) ∧ nI (chA T p) ≤ 57)) = b2i (decide (48 ≤ chA T p ∧ chA T p ≤ 57)) from bde (gI_n (a := 48) (b := 57) (by omega) (by omega) (by omega))] at c54
            have h57 := b2d_t c54
            have hpT := (chA_pos (T := T) (a := p) (by omega)).1
            refine aw_pick [0, 1, 2] (ih (p + 1) (10 * v + (chA T p - 48)) _ ⟨mR_160 (mR_173 h1.1 _) (by decide) _, RP_m h1.2.1 (mR_160 (mR_173 (mR_r d1) _) (by decide) _) (by rw [dI_s]; simp only [upd, if_true]; rw [dI_n _ _ (by decide), hat, nI_1]) hpT, fun k hk => ?_, ?_, ?_⟩ (by omega) (by omega) (by rw [← hD]; exact (digs_i h57).symm))
            · rw [dI_n _ _ (by decide), dI_s]; simp only [upd]; rw [if_neg hk]; exact h1.2.2.1 k hk
            · rw [dI_n _ _ (by decide), dI_s]; simp only [upd, if_true]; rw [h1.2.2.2.1, show (10 : Int32) = nI 10 from rfl, pk_mul, nI_add, show (48 : Int32) = nI 48 from rfl, pk_sub (by omega)]; exact congrArg nI (by omega)
            · rw [dI_s]; simp only [upd]; rw [if_neg (by decide), dI_n _ _ (by decide)]; exact h1.2.2.2.2
    refine aw_aload_n dX8_readsNumber_11 rfl ?_
    refine aw_dup dX8_readsNumber_12 rfl ?_
    refine aw_gf dX8_readsNumber_13 (hp_160 _) rfl fX8_242 (by decide) rfl ?_
    refine aw_iconst (v := 1) dX8_readsNumber_16 (by decide) ?_
    refine aw_iadd dX8_readsNumber_17 ?_
    refine aw_putI (ci := 8) (j := 18) .int dX8_readsNumber_18 fX8_242 rfl (by decide) rfl tyX8 tyX8_ok nmX8 rfl rfl rfl (hp_160 _) (Nat.le_of_ble_eq_true rfl) rfl ?_
    refine aw_aload_n dX8_readsNumber_21 rfl ?_
    refine aw_gf dX8_readsNumber_22 (hp_160 _) rfl fX8_242 (by decide) rfl ?_
    rw [dI_s]
    simp only [upd, if_true]
    rw [hp.2.1, nI_1]
    refine aw_istore_n dX8_readsNumber_25 (by decide) rfl ?_
    refine aw_aload_n dX8_readsNumber_26 rfl ?_
    refine aw_gf dX8_readsNumber_27 (hp_160 _) rfl fX8_49 (by decide) rfl ?_
    refine aw_iload_n dX8_readsNumber_30 rfl ?_
    refine aw_iconst (v := 0) dX8_readsNumber_31 (by decide) ?_
    refine aw_iastN dX8_readsNumber_32 hp_173 (i) rfl (by omega) (by decide)  ?_
    refine aw_pick [0, 1, 2] (K 3 (a + 1) 0 _ ⟨mR_173 (mR_160 (mR_r d) (by decide) _) _, RP_m hp (mR_173 (mR_160 (mR_r d) (by decide) _) _) (by rw [dI_n _ _ (by decide), dI_s]; simp only [upd, if_true]) hpT, fun k hk => ?_, ?_, ?_⟩ (by omega) rfl rfl)
    · rw [dI_s]; simp only [upd]; rw [if_neg hk, dI_n _ _ (by decide)]
    · rw [dI_s]; simp only [upd, if_true]; rfl
    · rw [dI_n _ _ (by decide), dI_s]; rfl
  · refine aw_iconst (v := 0) dX8_readsNumber_9 (by decide) ?_
    exact aw_endZ dX8_readsNumber_10 rfl (by decide) (by rw [rdN_n (fun z => c6 (by rw [z]; rfl))]; exact ⟨mR_r d, hp, rfl, fun _ _ => rfl, fun z => absurd z Bool.false_ne_true, rfl⟩)

set_option maxHeartbeats 4000000 in
set_option maxRecDepth 100000 in
theorem kX8_readsCommand {d : Dt} {T : List Nat} {a : Nat} (hp : RP d T a) : CI mX8_readsCommand 8 [.ref 160] d (fun x d' => mR d d' ∧ RP d' T (rdC T a).2.1 ∧ x = b2i (rdC T a).1 ∧ ((rdC T a).1 = true → d'.1 160 20 = nI (rdC T a).2.2.1 ∧ ∀ k, k < nN (rdC T a).2.2.1 → d'.1 173 k = nI ((rdC T a).2.2.2 k))) := by
  show AW mX8_readsCommand 8 true (PIx (fun x d' => mR d d' ∧ RP d' T (rdC T a).2.1 ∧ x = b2i (rdC T a).1 ∧ ((rdC T a).1 = true → d'.1 160 20 = nI (rdC T a).2.2.1 ∧ ∀ k, k < nN (rdC T a).2.2.1 → d'.1 173 k = nI ((rdC T a).2.2.2 k))) nX) 0 0 0 [(0, .ref 160)] [] (HP d)
  have hl80 := hp.1.2.1
  have hpa := hp.2.2
  have hEl := wEnd_le T 80 a hpa
  have hw6 := (@wNo_spec T a (wEnd T 80 a) 6 (Nat.le_refl _)).1
  refine aw_aload_n dX8_readsCommand_0 rfl ?_
  refine aw_aload_n dX8_readsCommand_1 rfl ?_
  refine aw_cVI dX8_readsCommand_2 oX8_readsWord vX8_readsWord rfl lX8_255 (kX8_readsWord hp) rfl (hp_160 _) rfl rfl rfl (Nat.le_of_ble_eq_true rfl) (by decide) (Nat.le_of_ble_eq_true rfl) ?_
  rintro _ d2 ⟨hm2, hrp2, rfl⟩
  refine aw_putI (ci := 8) (j := 20) .int dX8_readsCommand_5 fX8_258 rfl (by decide) rfl tyX8 tyX8_ok nmX8 rfl rfl rfl (hp_160 _) (Nat.le_of_ble_eq_true rfl) rfl ?_
  generalize hd3 : dI d2 160 (upd (d2.1 160) 20 (if wNo T a (wEnd T 80 a) 6 = 6 then -1 else nI (wNo T a (wEnd T 80 a) 6))) = d3
  have hm3 : mR d d3 := by rw [← hd3]; exact mR_160 hm2 (by decide) _
  have hrp3 : RP d3 T (if wNo T a (wEnd T 80 a) 6 = 6 then a else wEnd T 80 a) := by rw [← hd3]; exact RP_m hrp2 (mR_160 (mR_r d2) (by decide) _) (by rw [dI_s]; exact hrp2.2.1) hrp2.2.2
  have hc3 : d3.1 160 20 = (if wNo T a (wEnd T 80 a) 6 = 6 then -1 else nI (wNo T a (wEnd T 80 a) 6)) := by rw [← hd3, dI_s]; simp only [upd, if_true]
  refine aw_aload_n dX8_readsCommand_8 rfl ?_
  refine aw_gf dX8_readsCommand_9 (hp_160 _) rfl fX8_258 (by decide) rfl ?_
  refine aw_iconst (v := (-1)) dX8_readsCommand_12 (by decide) ?_
  rw [hc3]
  refine aw_icmp_ne 18 dX8_readsCommand_13 (by decide) (fun c13 => ?_) (fun c13 => ?_)
  · have h6 : ¬ wNo T a (wEnd T 80 a) 6 = 6 := fun z => c13 (by rw [if_pos z])
    rw [if_neg h6] at hrp3 hc3
    have hC0 := rdC_1 h6
    generalize hw : wNo T a (wEnd T 80 a) 6 = w at hc3 hC0 h6 hw6
    have hn4 := nN_le w
    have KZ : ∀ (i : Nat) (d1 : Dt), i ≤ 4 → mR d d1 → RP d1 T (rdC T a).2.1 → (rdC T a).1 = false → AW mX8_readsCommand 8 true (PIx (fun x d' => mR d d' ∧ RP d' T (rdC T a).2.1 ∧ x = b2i (rdC T a).1 ∧ ((rdC T a).1 = true → d'.1 160 20 = nI (rdC T a).2.2.1 ∧ ∀ k, k < nN (rdC T a).2.2.1 → d'.1 173 k = nI ((rdC T a).2.2.2 k))) nX) 0 0 47 [(0, .ref 160), (1, .int (nI (nN w))), (2, .int 0), (3, .int (nI i))] [] (HP d1) := by
      intro i d1 hi hm hrp hb
      refine aw_iload_n dX8_readsCommand_47 rfl ?_
      refine aw_iload_n dX8_readsCommand_48 rfl ?_
      refine aw_icmp_ge 68 dX8_readsCommand_49 (by decide) (fun c49 => ?_) (fun c49 => ?_)
      · refine aw_iload_n dX8_readsCommand_68 rfl ?_
        exact aw_endZ dX8_readsCommand_69 rfl (by decide) (by rw [hb]; exact ⟨hm, hrp, rfl, fun z => absurd z Bool.false_ne_true⟩)
      · refine aw_iload_n dX8_readsCommand_52 rfl ?_
        refine aw_if_eq 68 dX8_readsCommand_53 (by decide) (fun _ => ?_) (fun c53 => (by first | exact absurd c53 (by decide) | exact absurd rfl c53))
        refine aw_iload_n dX8_readsCommand_68 rfl ?_
        exact aw_endZ dX8_readsCommand_69 rfl (by decide) (by rw [hb]; exact ⟨hm, hrp, rfl, fun z => absurd z Bool.false_ne_true⟩)
    have K : ∀ (f i p : Nat) (v : Nat → Nat) (d1 : Dt), mR d d1 → RP d1 T p → d1.1 160 20 = nI w → i + f = nN w → (∀ k, k < i → d1.1 173 k = nI (v k)) → rdNs T f p v i = rdNs T (nN w) (wEnd T 80 a) (fun _ => 0) 0 → AW mX8_readsCommand 8 true (PIx (fun x d' => mR d d' ∧ RP d' T (rdC T a).2.1 ∧ x = b2i (rdC T a).1 ∧ ((rdC T a).1 = true → d'.1 160 20 = nI (rdC T a).2.2.1 ∧ ∀ k, k < nN (rdC T a).2.2.1 → d'.1 173 k = nI ((rdC T a).2.2.2 k))) nX) 0 0 47 [(0, .ref 160), (1, .int (nI (nN w))), (2, .int 1), (3, .int (nI i))] [] (HP d1) := by
      intro f
      induction f with
      | zero =>
        intro i p v d1 hm hrp hc hf hv hR
        have hC : rdC T a = (true, p, w, v) := by rw [hC0, ← hR]; rfl
        refine aw_iload_n dX8_readsCommand_47 rfl ?_
        refine aw_iload_n dX8_readsCommand_48 rfl ?_
        refine aw_icmp_ge 68 dX8_readsCommand_49 (by decide) (fun c49 => ?_) (fun c49 => ?_)
        · refine aw_iload_n dX8_readsCommand_68 rfl ?_
          exact aw_endZ dX8_readsCommand_69 rfl (by decide) (by rw [hC]; exact ⟨hm, hrp, rfl, fun _ => ⟨hc, fun k hk => hv k (by have : k < nN w := hk; omega)⟩⟩)
        · exact absurd ((le_nI rfl rfl (by omega) (by omega)).mpr (show nN w ≤ i by omega)) c49
      | succ f ih =>
        intro i p v d1 hm hrp hc hf hv hR
        refine aw_iload_n dX8_readsCommand_47 rfl ?_
        refine aw_iload_n dX8_readsCommand_48 rfl ?_
        refine aw_icmp_ge 68 dX8_readsCommand_49 (by decide) (fun c49 => ?_) (fun c49 => ?_)
        · exact absurd ((le_nI rfl rfl (by omega) (by omega)).mp c49) (by omega)
        · refine aw_iload_n dX8_readsCommand_52 rfl ?_
          refine aw_if_eq 68 dX8_readsCommand_53 (by decide) (fun c53 => (by first | exact absurd c53 (by decide) | exact absurd rfl c53)) (fun _ => ?_)
          refine aw_aload_n dX8_readsCommand_56 rfl ?_
          refine aw_iload_n dX8_readsCommand_57 rfl ?_
          refine aw_cVI dX8_readsCommand_58 oX8_readsNumber vX8_readsNumber rfl lX8_261 (kX8_readsNumber hrp (i := i) (by omega)) rfl (hp_160 _) rfl rfl rfl (Nat.le_of_ble_eq_true rfl) (by decide) (Nat.le_of_ble_eq_true rfl) ?_
          rintro _ d2 ⟨hm2, hrp2, rfl, hk2, hv2, hc2⟩
          refine aw_istore_n dX8_readsCommand_61 (by decide) rfl ?_
          refine aw_inc (c := 1) dX8_readsCommand_62 (by decide) rfl (by decide) rfl ?_
          refine aw_goto (tgt := 47) dX8_readsCommand_65 (by decide) ?_
          cases hb : (rdN T p).1 with
          | true =>
            rw [nI_1]
            refine ih (i + 1) _ _ d2 (mR_t hm hm2) hrp2 (hc2.trans hc) (by omega) (fun k hk => ?_) (by rw [← hR]; exact (rdNs_t hb).symm)
            show d2.1 173 k = nI (if k = i then (rdN T p).2.2 else v k)
            by_cases e : k = i
            · rw [if_pos e, e]; exact hv2 hb
            · rw [if_neg e, hk2 k e]; exact hv k (by omega)
          | false =>
            have hCf : rdC T a = (false, (rdN T p).2.1, w, v) := by rw [hC0, ← hR, rdNs_f (by rw [hb]; exact Bool.false_ne_true)]
            rw [nI_1]
            exact KZ (i + 1) d2 (by omega) (mR_t hm hm2) (by rw [hCf]; exact hrp2) (by rw [hCf])
    refine aw_join (P := fun v => v = nI (nN w)) 42 (fun v hv42 => ?_) (fun kJ42 => ?_)
    · subst hv42
      refine aw_istore_n dX8_readsCommand_42 (by decide) rfl ?_
      refine aw_iconst (v := 1) dX8_readsCommand_43 (by decide) ?_
      refine aw_istore_n dX8_readsCommand_44 (by decide) rfl ?_
      refine aw_iconst (v := 0) dX8_readsCommand_45 (by decide) ?_
      refine aw_istore_n dX8_readsCommand_46 (by decide) rfl ?_
      exact K (nN w) 0 (wEnd T 80 a) (fun _ => 0) d3 hm3 hrp3 hc3 (by omega) (fun k hk => absurd hk (Nat.not_lt_zero _)) rfl
    · refine aw_aload_n dX8_readsCommand_18 rfl ?_
      refine aw_gf dX8_readsCommand_19 (hp_160 _) rfl fX8_258 (by decide) rfl ?_
      rw [hc3]
      refine aw_if_ne 29 dX8_readsCommand_22 (by decide) (fun c22 => ?_) (fun c22 => ?_)
      · refine aw_aload_n dX8_readsCommand_29 rfl ?_
        refine aw_gf dX8_readsCommand_30 (hp_160 _) rfl fX8_258 (by decide) rfl ?_
        refine aw_iconst (v := 5) dX8_readsCommand_33 (by decide) ?_
        rw [hc3]
        refine aw_icmp_ne 41 dX8_readsCommand_34 (by decide) (fun c34 => ?_) (fun c34 => ?_)
        · refine aw_iconst (v := 2) dX8_readsCommand_41 (by decide) ?_
          exact kJ42 _ (by unfold nN; rw [if_neg (fun z => c22 (by rw [z]; rfl)), if_neg (fun z => c34 (by rw [z]; rfl))]; rfl)
        · refine aw_iconst (v := 1) dX8_readsCommand_37 (by decide) ?_
          refine aw_goto (tgt := 42) dX8_readsCommand_38 (by decide) ?_
          exact kJ42 _ (by have e : w = 5 := (eq_nI rfl (show (5 : Int32) = nI 5 from rfl) (by omega) (by omega)).mp c34; rw [e]; rfl)
      · refine aw_iconst (v := 4) dX8_readsCommand_25 (by decide) ?_
        refine aw_goto (tgt := 42) dX8_readsCommand_26 (by decide) ?_
        exact kJ42 _ (by have e : w = 0 := (eq_nI rfl (show (0 : Int32) = nI 0 from rfl) (by omega) (by omega)).mp c22; rw [e]; rfl)
  · have h6 : wNo T a (wEnd T 80 a) 6 = 6 := by
      by_cases e : wNo T a (wEnd T 80 a) 6 = 6
      · exact e
      · rw [if_neg e] at c13; exact absurd c13.symm (m1_ne0 (by omega))
    refine aw_iconst (v := 0) dX8_readsCommand_16 (by decide) ?_
    exact aw_endZ dX8_readsCommand_17 rfl (by decide) (by rw [rdC_0 h6]; rw [if_pos h6] at hrp3; exact ⟨hm3, hrp3, rfl, fun z => absurd z Bool.false_ne_true⟩)
