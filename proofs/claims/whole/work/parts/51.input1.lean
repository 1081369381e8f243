set_option maxHeartbeats 4000000 in
set_option maxRecDepth 100000 in
theorem kX2_append {d : Dt} {T : List Nat} (hT : TP (d.1 151) (d.1 150 2) T) {c : Nat} (hc : c < 65536) : CV mX2_append 1 [.ref 150, .int (nI c)] d (fun d' => (∀ i, i ≠ 150 → i ≠ 151 → d'.1 i = d.1 i) ∧ d'.2 = d.2 ∧ TP (d'.1 151) (d'.1 150 2) (if T.length < 80 then T ++ [c] else T)) := by
  show AW mX2_append 1 true (PVx (fun d' => (∀ i, i ≠ 150 → i ≠ 151 → d'.1 i = d.1 i) ∧ d'.2 = d.2 ∧ TP (d'.1 151) (d'.1 150 2) (if T.length < 80 then T ++ [c] else T)) nX) 0 0 0 [(0, .ref 150), (1, .int (nI c))] [] (HP d)
  have hl80 := hT.2.1
  refine aw_aload_n dX2_append_0 rfl ?_
  refine aw_gf dX2_append_1 (hp_150 _) rfl fX2_17 (by decide) rfl ?_
  refine aw_bipush (v := 80) dX2_append_4 (by decide) ?_
  rw [hT.1]
  refine aw_icmp_ge 29 dX2_append_6 (by decide) (fun c6 => ?_) (fun c6 => ?_)
  · have h80 : 80 ≤ T.length := (le_nI (show (80 : Int32) = nI 80 from rfl) rfl (by omega) (by omega)).mp c6
    exact aw_endV dX2_append_29 rfl ⟨fun _ _ _ => rfl, rfl, by rw [if_neg (by omega)]; exact hT⟩
  · have hlt : T.length < 80 := Nat.lt_of_not_le (fun z => c6 ((le_nI (show (80 : Int32) = nI 80 from rfl) rfl (by omega) (by omega)).mpr z))
    refine aw_aload_n dX2_append_9 rfl ?_
    refine aw_gf dX2_append_10 (hp_150 _) rfl fX2_9 (by decide) rfl ?_
    refine aw_aload_n dX2_append_13 rfl ?_
    refine aw_gf dX2_append_14 (hp_150 _) rfl fX2_17 (by decide) rfl ?_
    refine aw_iload_n dX2_append_17 rfl ?_
    refine aw_castN dX2_append_18 hp_151 (T.length) hT.1 (by omega) (by decide) (pk_charN hc).1 ?_
    refine aw_aload_n dX2_append_19 rfl ?_
    refine aw_dup dX2_append_20 rfl ?_
    refine aw_gf dX2_append_21 (hp_150 _) rfl fX2_17 (by decide) rfl ?_
    refine aw_iconst (v := 1) dX2_append_24 (by decide) ?_
    refine aw_iadd dX2_append_25 ?_
    refine aw_putI (ci := 2) (j := 2) .int dX2_append_26 fX2_17 rfl (by decide) rfl tyX2 tyX2_ok nmX2 rfl rfl rfl (hp_150 _) (Nat.le_of_ble_eq_true rfl) rfl ?_
    exact aw_endV dX2_append_29 rfl ⟨fun i a b => by rw [dI_n _ _ a, dI_n _ _ b], rfl, by rw [if_pos hlt, dI_n _ _ (show (151 : Nat) ≠ 150 by decide), dI_s, dI_s, upd_at, dI_n _ _ (show (150 : Nat) ≠ 151 by decide), hT.1, nI_1]; exact TP_app hT hc hlt⟩

set_option maxHeartbeats 4000000 in
set_option maxRecDepth 100000 in
theorem kX2_clear {d : Dt} : CV mX2_clear 1 [.ref 150] d (fun d' => d' = dI d 150 (upd (d.1 150) 2 0)) := by
  show AW mX2_clear 1 true (PVx (fun d' => d' = dI d 150 (upd (d.1 150) 2 0)) nX) 0 0 0 [(0, .ref 150)] [] (HP d)
  refine aw_aload_n dX2_clear_0 rfl ?_
  refine aw_iconst (v := 0) dX2_clear_1 (by decide) ?_
  refine aw_putI (ci := 2) (j := 2) .int dX2_clear_2 fX2_17 rfl (by decide) rfl tyX2 tyX2_ok nmX2 rfl rfl rfl (hp_150 _) (Nat.le_of_ble_eq_true rfl) rfl ?_
  exact aw_endV dX2_clear_5 rfl rfl

set_option maxHeartbeats 4000000 in
set_option maxRecDepth 100000 in
theorem kX2_rewind {d : Dt} : CV mX2_rewind 1 [.ref 150] d (fun d' => d' = dI d 150 (upd (d.1 150) 4 0)) := by
  show AW mX2_rewind 1 true (PVx (fun d' => d' = dI d 150 (upd (d.1 150) 4 0)) nX) 0 0 0 [(0, .ref 150)] [] (HP d)
  refine aw_aload_n dX2_rewind_0 rfl ?_
  refine aw_iconst (v := 0) dX2_rewind_1 (by decide) ?_
  refine aw_putI (ci := 2) (j := 4) .int dX2_rewind_2 fX2_21 rfl (by decide) rfl tyX2 tyX2_ok nmX2 rfl rfl rfl (hp_150 _) (Nat.le_of_ble_eq_true rfl) rfl ?_
  exact aw_endV dX2_rewind_5 rfl rfl

set_option maxHeartbeats 4000000 in
set_option maxRecDepth 100000 in
theorem kX2_passSign {d : Dt} {T : List Nat} {a : Nat} (hp : RI d T a) {c : Nat} (h0 : 0 < c) (hc : c < 65536) : CI mX2_passSign 1 [.ref 150, .int (nI c)] d (fun x d' => mP d d' ∧ RI d' T (if chA T a = c then a + 1 else a) ∧ x = b2i (decide (chA T a = c)) ∧ d'.1 150 3 = d.1 150 3 ∧ d'.1 152 = d.1 152) := by
  show AW mX2_passSign 1 true (PIx (fun x d' => mP d d' ∧ RI d' T (if chA T a = c then a + 1 else a) ∧ x = b2i (decide (chA T a = c)) ∧ d'.1 150 3 = d.1 150 3 ∧ d'.1 152 = d.1 152) nX) 0 0 0 [(0, .ref 150), (1, .int (nI c))] [] (HP d)
  have hl80 := hp.1.2.1
  have hpa := hp.2.2
  refine aw_aload_n dX2_passSign_0 rfl ?_
  refine aw_gf dX2_passSign_1 (hp_150 _) rfl fX2_21 (by decide) rfl ?_
  refine aw_aload_n dX2_passSign_4 rfl ?_
  refine aw_gf dX2_passSign_5 (hp_150 _) rfl fX2_17 (by decide) rfl ?_
  rw [hp.2.1, hp.1.1]
  refine aw_icmp_ge 24 dX2_passSign_8 (by decide) (fun c8 => ?_) (fun c8 => ?_)
  · refine aw_iconst (v := 0) dX2_passSign_24 (by decide) ?_
    exact aw_endZ dX2_passSign_25 rfl (by decide) (by have hn : ¬ chA T a = c := (by rw [chA_o ((le_nI rfl rfl (by omega) (by omega)).mp c8)]; omega); rw [if_neg hn, b2i_f hn]; exact ⟨mP_r d, hp, rfl, rfl, rfl⟩)
  · have hlt : a < T.length := Nat.lt_of_not_le (fun z => c8 ((le_nI rfl rfl (by omega) (by omega)).mpr z))
    have hch := hp.1.2.2 a hlt
    refine aw_aload_n dX2_passSign_11 rfl ?_
    refine aw_gf dX2_passSign_12 (hp_150 _) rfl fX2_9 (by decide) rfl ?_
    refine aw_aload_n dX2_passSign_15 rfl ?_
    refine aw_gf dX2_passSign_16 (hp_150 _) rfl fX2_21 (by decide) rfl ?_
    refine aw_caldN dX2_passSign_19 (hp_151 _) rfl (a) hp.2.1 (by omega) (by decide) ?_
    refine aw_iload_n dX2_passSign_20 rfl ?_
    refine aw_icmp_eq 26 dX2_passSign_21 (by decide) (fun c21 => ?_) (fun c21 => ?_)
    · refine aw_aload_n dX2_passSign_26 rfl ?_
      refine aw_dup dX2_passSign_27 rfl ?_
      refine aw_gf dX2_passSign_28 (hp_150 _) rfl fX2_21 (by decide) rfl ?_
      refine aw_iconst (v := 1) dX2_passSign_31 (by decide) ?_
      refine aw_iadd dX2_passSign_32 ?_
      refine aw_putI (ci := 2) (j := 4) .int dX2_passSign_33 fX2_21 rfl (by decide) rfl tyX2 tyX2_ok nmX2 rfl rfl rfl (hp_150 _) (Nat.le_of_ble_eq_true rfl) rfl ?_
      refine aw_iconst (v := 1) dX2_passSign_36 (by decide) ?_
      exact aw_endZ dX2_passSign_37 rfl (by decide) (by have hy : chA T a = c := (by rw [chA_i hlt]; exact nI_inj (by omega) (by omega) (hch.1.symm.trans c21)); rw [if_pos hy, b2i_t hy]; exact ⟨mP_150 (mP_r d) (Or.inr rfl) _, RI_m hp (mP_150 (mP_r d) (Or.inr rfl) _) (by rw [dI_s, upd_at, hp.2.1, nI_1]) hlt, rfl, by rw [dI_s, upd_ne _ _ (by decide)], by rw [dI_n _ _ (by decide)]⟩)
    · refine aw_iconst (v := 0) dX2_passSign_24 (by decide) ?_
      exact aw_endZ dX2_passSign_25 rfl (by decide) (by have hn : ¬ chA T a = c := (fun z => c21 (by rw [hch.1, ← z, chA_i hlt])); rw [if_neg hn, b2i_f hn]; exact ⟨mP_r d, hp, rfl, rfl, rfl⟩)

set_option maxHeartbeats 4000000 in
set_option maxRecDepth 100000 in
theorem kX2_isBetween {d : Dt} {T : List Nat} (hT : TP (d.1 151) (d.1 150 2) T) {p lo hi : Nat} (hpl : p < T.length) (hlo : lo < 65536) (hhi : hi < 65536) : CP mX2_isBetween 1 [.ref 150, .int (nI p), .int (nI lo), .int (nI hi)] d (b2i (decide (lo ≤ T.getD p 0 ∧ T.getD p 0 ≤ hi))) := by
  show AW mX2_isBetween 1 true (PIx (fun y d' => y = b2i (decide (lo ≤ T.getD p 0 ∧ T.getD p 0 ≤ hi)) ∧ d' = d) nX) 0 0 0 [(0, .ref 150), (1, .int (nI p)), (2, .int (nI lo)), (3, .int (nI hi))] [] (HP d)
  have hl80 := hT.2.1
  have hch := hT.2.2 p hpl
  refine aw_aload_n dX2_isBetween_0 rfl ?_
  refine aw_gf dX2_isBetween_1 (hp_150 _) rfl fX2_9 (by decide) rfl ?_
  refine aw_iload_n dX2_isBetween_4 rfl ?_
  refine aw_caldN dX2_isBetween_5 (hp_151 _) rfl (p) (by first | rfl | (simp only [li_0, li_1, li_2, li_3, li_4, li_5, li_7, li_8, li_9, li_11, li_12, li_16, li_17, li_31, li_32, li_60, li_77, li_80, li_89, li_99, li_101, li_112, li_113, li_256, li_999, li_1023, nI_add, pk_mul])) (by omega) (by decide) ?_
  refine aw_iload_n dX2_isBetween_6 rfl ?_
  refine aw_icmp_lt 24 dX2_isBetween_7 (by decide) (fun c7 => ?_) (fun c7 => ?_)
  · refine aw_iconst (v := 0) dX2_isBetween_24 (by decide) ?_
    exact aw_endZ dX2_isBetween_25 rfl (by decide) (by rw [hch.1] at c7; have h1 := (lt_nI rfl rfl (by omega) (by omega)).mp c7; rw [b2i_f (fun z => by omega)]; exact ⟨rfl, rfl⟩)
  · refine aw_aload_n dX2_isBetween_10 rfl ?_
    refine aw_gf dX2_isBetween_11 (hp_150 _) rfl fX2_9 (by decide) rfl ?_
    refine aw_iload_n dX2_isBetween_14 rfl ?_
    refine aw_caldN dX2_isBetween_15 (hp_151 _) rfl (p) (by first | rfl | (simp only [li_0, li_1, li_2, li_3, li_4, li_5, li_7, li_8, li_9, li_11, li_12, li_16, li_17, li_31, li_32, li_60, li_77, li_80, li_89, li_99, li_101, li_112, li_113, li_256, li_999, li_1023, nI_add, pk_mul])) (by omega) (by decide) ?_
    refine aw_iload_n dX2_isBetween_16 rfl ?_
    refine aw_icmp_gt 24 dX2_isBetween_17 (by decide) (fun c17 => ?_) (fun c17 => ?_)
    · refine aw_iconst (v := 0) dX2_isBetween_24 (by decide) ?_
      exact aw_endZ dX2_isBetween_25 rfl (by decide) (by rw [hch.1] at c17; have h1 := (lt_nI rfl rfl (by omega) (by omega)).mp c17; rw [b2i_f (fun z => by omega)]; exact ⟨rfl, rfl⟩)
    · refine aw_iconst (v := 1) dX2_isBetween_20 (by decide) ?_
      refine aw_goto (tgt := 25) dX2_isBetween_21 (by decide) ?_
      exact aw_endZ dX2_isBetween_25 rfl (by decide) (by rw [hch.1] at c7 c17; have h1 := mt (lt_nI rfl rfl (by omega) (by omega)).mpr c7; have h2 := mt (lt_nI rfl rfl (by omega) (by omega)).mpr c17; rw [b2i_t (by omega)]; exact ⟨rfl, rfl⟩)

set_option maxHeartbeats 4000000 in
set_option maxRecDepth 100000 in
theorem kX2_isWord {d : Dt} {T : List Nat} (hT : TP (d.1 151) (d.1 150 2) T) {w a e : Nat} (hw : w < 6) (hae : a ≤ e) (hel : e ≤ T.length) : CP mX2_isWord 7 [.ref 150, .ref (209 + (w + 6)), .int (nI a), .int (nI e)] d (b2i (isD T a e w (e - a))) := by
  show AW mX2_isWord 7 true (PIx (fun y d' => y = b2i (isD T a e w (e - a)) ∧ d' = d) nX) 0 0 0 [(0, .ref 150), (1, .ref (209 + (w + 6))), (2, .int (nI a)), (3, .int (nI e))] [] (HP d)
  have hl80 := hT.2.1
  have hw9 := sW_len (w + 6) (by omega)
  rw [sW_6] at hw9
  refine aw_aload_n dX2_isWord_0 rfl ?_
  refine aw_cVC dX2_isWord_1 oJ0_length_8abf5 vJ0_length_8abf5 lX2_72 (kJ0_length_8abf5 (w := w + 6) (by omega)) rfl (cc_s (w + 6) (by omega)) (by omega) rfl rfl (Nat.le_of_ble_eq_true rfl) (by decide) (Nat.le_of_ble_eq_true rfl) ?_
  rw [sW_6]
  refine aw_iload_n dX2_isWord_4 rfl ?_
  refine aw_iload_n dX2_isWord_5 rfl ?_
  refine aw_isub dX2_isWord_6 ?_
  rw [pk_sub hae]
  refine aw_icmp_eq 12 dX2_isWord_7 (by decide) (fun c7 => ?_) (fun c7 => ?_)
  · have hlen : (wrd w).length = e - a := nI_inj (by omega) (by omega) c7
    refine aw_iconst (v := 0) dX2_isWord_12 (by decide) ?_
    refine aw_istore dX2_isWord_13 (by decide) rfl ?_
    have L15 : ∀ j, j ≤ (wrd w).length → ∀ (v4 : Int32), (∀ i, i < j → (wrd w).getD i 0 = T.getD (a + i) 0) → v4 = nI j → AW mX2_isWord 7 true (PIx (fun y d' => y = b2i (isD T a e w (e - a)) ∧ d' = d) nX) 0 0 15 [(0, .ref 150), (1, .ref (209 + (w + 6))), (2, .int (nI a)), (3, .int (nI e)), (4, .int v4)] [] (HP d) := by
      refine up_ind (fun j hj ih => ?_)
      rintro _ hal rfl
      refine aw_iload dX2_isWord_15 rfl ?_
      refine aw_aload_n dX2_isWord_17 rfl ?_
      refine aw_cVC dX2_isWord_18 oJ0_length_8abf5 vJ0_length_8abf5 lX2_72 (kJ0_length_8abf5 (w := w + 6) (by omega)) rfl (cc_s (w + 6) (by omega)) (by omega) rfl rfl (Nat.le_of_ble_eq_true rfl) (by decide) (Nat.le_of_ble_eq_true rfl) ?_
      rw [sW_6]
      refine aw_icmp_ge 50 dX2_isWord_21 (by decide) (fun c21 => ?_) (fun c21 => ?_)
      · have hge : (wrd w).length ≤ j := (le_nI rfl rfl (by omega) (by omega)).mp c21
        refine aw_iconst (v := 1) dX2_isWord_50 (by decide) ?_
        exact aw_endZ dX2_isWord_51 rfl (by decide) (by rw [bT (isD_t.mpr ⟨hlen, fun i hi => hal i (by omega)⟩)]; exact ⟨rfl, rfl⟩)
      · have hlt : j < (wrd w).length := Nat.lt_of_not_le (fun z => c21 ((le_nI rfl rfl (by omega) (by omega)).mpr z))
        have hch := hT.2.2 (a + j) (by omega)
        have h128 := wrd_128 w j
        refine aw_aload_n dX2_isWord_24 rfl ?_
        refine aw_gf dX2_isWord_25 (hp_150 _) rfl fX2_9 (by decide) rfl ?_
        refine aw_iload_n dX2_isWord_28 rfl ?_
        refine aw_iload dX2_isWord_29 rfl ?_
        refine aw_iadd dX2_isWord_31 ?_
        refine aw_caldN dX2_isWord_32 (hp_151 _) rfl (a + j) (nI_add a j) (by omega) (by decide) ?_
        refine aw_aload_n dX2_isWord_33 rfl ?_
        refine aw_iload dX2_isWord_34 rfl ?_
        refine aw_cVC dX2_isWord_36 oJ0_charAt_5068e vJ0_charAt_5068e lX2_77 (kJ0_charAt_5068e (w := w + 6) (j := j) (by omega) (by rw [sW_6]; omega)) rfl (cc_s (w + 6) (by omega)) (by omega) rfl rfl (Nat.le_of_ble_eq_true rfl) (by decide) (Nat.le_of_ble_eq_true rfl) ?_
        rw [sW_6]
        refine aw_icmp_eq 44 dX2_isWord_39 (by decide) (fun c39 => ?_) (fun c39 => ?_)
        · refine aw_inc (c := 1) dX2_isWord_44 (by decide) rfl (by decide) rfl ?_
          refine aw_goto (tgt := 15) dX2_isWord_47 (by decide) ?_
          exact ih hlt _ (fun i hi => by rcases Nat.lt_succ_iff_lt_or_eq.mp hi with z | z; exact hal i z; subst z; exact (nI_inj (by omega) (by omega) (hch.1.symm.trans c39)).symm) (nI_1 j)
        · refine aw_iconst (v := 0) dX2_isWord_42 (by decide) ?_
          exact aw_endZ dX2_isWord_43 rfl (by decide) (by rw [bF (isD_f.mpr (fun z => c39 (by rw [hch.1, z.2 j (by omega)])))]; exact ⟨rfl, rfl⟩)
    exact L15 0 (Nat.zero_le _) _ (fun i hi => absurd hi (Nat.not_lt_zero _)) rfl
  · refine aw_iconst (v := 0) dX2_isWord_10 (by decide) ?_
    exact aw_endZ dX2_isWord_11 rfl (by decide) (by rw [bF (isD_f.mpr (fun z => c7 (by rw [z.1])))]; exact ⟨rfl, rfl⟩)

set_option maxHeartbeats 4000000 in
set_option maxRecDepth 100000 in
theorem kX2_commandAt {d : Dt} {T : List Nat} (hT : TP (d.1 151) (d.1 150 2) T) {a e : Nat} (hae : a ≤ e) (hel : e ≤ T.length) : CR mX2_commandAt 8 [.ref 150, .int (nI a), .int (nI e)] d (fun v d' => v = cmdv (wI T a e) ∧ d' = d) := by
  show AW mX2_commandAt 8 true (PRx (fun v d' => v = cmdv (wI T a e) ∧ d' = d) nX) 0 0 0 [(0, .ref 150), (1, .int (nI a)), (2, .int (nI e))] [] (HP d)
  have hl80 := hT.2.1
  refine aw_iconst (v := 0) dX2_commandAt_0 (by decide) ?_
  refine aw_istore_n dX2_commandAt_1 (by decide) rfl ?_
  have L2 : ∀ w, w ≤ 6 → ∀ (v3 : Int32), wNo T a e 6 = wNo T a e (6 - w) → v3 = nI w → AW mX2_commandAt 8 true (PRx (fun v d' => v = cmdv (wI T a e) ∧ d' = d) nX) 0 0 2 [(0, .ref 150), (1, .int (nI a)), (2, .int (nI e)), (3, .int v3)] [] (HP d) := by
    refine up_ind (fun w hj ih => ?_)
    rintro _ hno rfl
    refine aw_iload_n dX2_commandAt_2 rfl ?_
    refine aw_getsCN dX2_commandAt_3 zc_6 (cok_r (by omega)) fX2_58 ?_
    refine aw_alenC (v := 6) dX2_commandAt_6 tc_C (by omega) (by decide) ?_
    refine aw_icmp_ge 39 dX2_commandAt_7 (by decide) (fun c7 => ?_) (fun c7 => ?_)
    · have hge : 6 ≤ w := (le_nI (show (6 : Int32) = nI 6 from rfl) rfl (by omega) (by omega)).mp c7
      have hw6 : w = 6 := by omega
      subst hw6
      have h6 : wNo T a e 6 = 6 := hno
      refine aw_null dX2_commandAt_39 ?_
      exact aw_nuret dX2_commandAt_40 rfl ⟨d, rfl, _, rfl, by rw [wI_6 h6]; rfl, rfl⟩
    · have hlt : w < 6 := Nat.lt_of_not_le (fun z => c7 ((le_nI (show (6 : Int32) = nI 6 from rfl) rfl (by omega) (by omega)).mpr z))
      refine aw_aload_n dX2_commandAt_10 rfl ?_
      refine aw_getsCN dX2_commandAt_11 zc_6 (cok_r (by omega)) fX2_58 ?_
      refine aw_iload_n dX2_commandAt_14 rfl ?_
      refine aw_aaldC (g := fun j => j) dX2_commandAt_15 tc_C (by omega) (vp_in_nI hlt (by omega)) ?_
      rw [nI_clamp (by omega)]
      refine aw_gfC dX2_commandAt_16 (oc_w w hlt) (by omega) (cok_r (by omega)) fX2_64 ?_
      rw [show 215 + w = 209 + (w + 6) from by omega]
      refine aw_iload_n dX2_commandAt_19 rfl ?_
      refine aw_iload_n dX2_commandAt_20 rfl ?_
      refine aw_cVP dX2_commandAt_21 oX2_isWord vX2_isWord rfl lX2_68 (kX2_isWord hT hlt hae hel) rfl (hp_150 _) rfl rfl rfl (Nat.le_of_ble_eq_true rfl) (by decide) (Nat.le_of_ble_eq_true rfl) ?_
      refine aw_if_eq 33 dX2_commandAt_24 (by decide) (fun c24 => ?_) (fun c24 => ?_)
      · refine aw_inc (c := 1) dX2_commandAt_33 (by decide) rfl (by decide) rfl ?_
        refine aw_goto (tgt := 2) dX2_commandAt_36 (by decide) ?_
        exact ih hlt _ (by rw [hno, show 6 - (w + 1) = 5 - w by omega]; exact (wNo_at (T := T) (a := a) (e := e) hlt).2 (isD_f.mp (b2i_eq.mp c24))) (nI_1 w)
      · refine aw_getsCN dX2_commandAt_27 zc_6 (cok_r (by omega)) fX2_58 ?_
        refine aw_iload_n dX2_commandAt_30 rfl ?_
        refine aw_aaldC (g := fun j => j) dX2_commandAt_31 tc_C (by omega) (vp_in_nI hlt (by omega)) ?_
        rw [nI_clamp (by omega)]
        exact aw_endR dX2_commandAt_32 rfl ⟨by have e1 := (wNo_at (T := T) (a := a) (e := e) hlt).1 (isD_t.mp (b2i_ne.mp c24)); unfold wI; rw [hno, e1, if_neg (by omega), cmdv_n (by omega)], rfl⟩
  exact L2 0 (Nat.zero_le _) _ rfl rfl

set_option maxHeartbeats 4000000 in
set_option maxRecDepth 100000 in
theorem kX2_passWord {d : Dt} {T : List Nat} {a : Nat} (hp : RI d T a) : CI mX2_passWord 9 [.ref 150] d (fun x d' => mP d d' ∧ RI d' T (if wNo T a (wEnd T 80 a) 6 = 6 then a else (wEnd T 80 a)) ∧ x = b2i (decide (¬ wNo T a (wEnd T 80 a) 6 = 6)) ∧ d'.1 150 3 = wI T a (wEnd T 80 a) ∧ d'.1 152 = d.1 152) := by
  show AW mX2_passWord 9 true (PIx (fun x d' => mP d d' ∧ RI d' T (if wNo T a (wEnd T 80 a) 6 = 6 then a else (wEnd T 80 a)) ∧ x = b2i (decide (¬ wNo T a (wEnd T 80 a) 6 = 6)) ∧ d'.1 150 3 = wI T a (wEnd T 80 a) ∧ d'.1 152 = d.1 152) nX) 0 0 0 [(0, .ref 150)] [] (HP d)
  have hl80 := hp.1.2.1
  have hpa := hp.2.2
  have hEa := wEnd_ge T 80 a
  have hEl := wEnd_le T 80 a hpa
  have hw6 := (@wNo_spec T a (wEnd T 80 a) 6 (Nat.le_refl _)).1
  have KX : AW mX2_passWord 9 true (PIx (fun x d' => mP d d' ∧ RI d' T (if wNo T a (wEnd T 80 a) 6 = 6 then a else (wEnd T 80 a)) ∧ x = b2i (decide (¬ wNo T a (wEnd T 80 a) 6 = 6)) ∧ d'.1 150 3 = wI T a (wEnd T 80 a) ∧ d'.1 152 = d.1 152) nX) 0 0 31 [(0, .ref 150), (1, .int (nI (wEnd T 80 a)))] [] (HP d) := by
    refine aw_aload_n dX2_passWord_31 rfl ?_
    refine aw_aload_n dX2_passWord_32 rfl ?_
    refine aw_aload_n dX2_passWord_33 rfl ?_
    refine aw_gf dX2_passWord_34 (hp_150 _) rfl fX2_21 (by decide) rfl ?_
    refine aw_iload_n dX2_passWord_37 rfl ?_
    rw [hp.2.1]
    refine aw_cVR dX2_passWord_38 oX2_commandAt vX2_commandAt rfl lX2_54 (kX2_commandAt hp.1 hEa hEl) rfl (hp_150 _) rfl rfl rfl (Nat.le_of_ble_eq_true rfl) (by decide) (Nat.le_of_ble_eq_true rfl) ?_
    rintro _ d2 ⟨rfl, hd2⟩
    rw [hd2]
    clear hd2
    refine aw_putC dX2_passWord_41 fX2_38 rfl (by decide) rfl tyX2 tyX2_ok nmX2 rfl ?_
    have h13 : (dI d 150 (upd (d.1 150) 3 (wI T a (wEnd T 80 a)))).1 150 3 = wI T a (wEnd T 80 a) := by rw [dI_s, upd_at]
    have hm1 : mP d (dI d 150 (upd (d.1 150) 3 (wI T a (wEnd T 80 a)))) := mP_150 (mP_r d) (Or.inl rfl) _
    have h14 : (dI d 150 (upd (d.1 150) 3 (wI T a (wEnd T 80 a)))).1 150 4 = nI a := by rw [dI_s, upd_ne _ _ (by decide)]; exact hp.2.1
    have h152 : (dI d 150 (upd (d.1 150) 3 (wI T a (wEnd T 80 a)))).1 152 = d.1 152 := by rw [dI_n _ _ (by decide)]
    generalize dI d 150 (upd (d.1 150) 3 (wI T a (wEnd T 80 a))) = d1 at h13 hm1 h14 h152 ⊢
    refine aw_aload_n dX2_passWord_44 rfl ?_
    refine aw_gf dX2_passWord_45 (hp_150 _) rfl fX2_38 (by decide) rfl ?_
    by_cases h6 : wNo T a (wEnd T 80 a) 6 = 6
    · rw [h13, wI_6 h6, cmdv_m1]
      refine aw_ifnonnull_n dX2_passWord_48 ?_
      refine aw_iconst (v := 0) dX2_passWord_51 (by decide) ?_
      exact aw_endZ dX2_passWord_52 rfl (by decide) (by rw [if_pos h6, b2i_f (fun z => z h6)]; exact ⟨hm1, RI_m hp hm1 h14 hpa, rfl, h13.trans (wI_6 h6), h152⟩)
    · rw [h13, wI_w h6, cmdv_n (by omega)]
      refine aw_ifnonnull_r (tgt := 53) dX2_passWord_48 (by decide) ?_
      refine aw_aload_n dX2_passWord_53 rfl ?_
      refine aw_iload_n dX2_passWord_54 rfl ?_
      refine aw_putI (ci := 2) (j := 4) .int dX2_passWord_55 fX2_21 rfl (by decide) rfl tyX2 tyX2_ok nmX2 rfl rfl rfl (hp_150 _) (Nat.le_of_ble_eq_true rfl) rfl ?_
      refine aw_iconst (v := 1) dX2_passWord_58 (by decide) ?_
      exact aw_endZ dX2_passWord_59 rfl (by decide) (by rw [if_neg h6, b2i_t h6]; exact ⟨mP_150 hm1 (Or.inr rfl) _, RI_m hp (mP_150 hm1 (Or.inr rfl) _) (by rw [dI_s, upd_at]) hEl, rfl, by rw [dI_s, upd_ne _ _ (by decide)]; exact h13.trans (wI_w h6), by rw [dI_n _ _ (by decide)]; exact h152⟩)
  have K : ∀ (f e : Nat), e ≤ T.length → T.length ≤ e + f → wEnd T f e = wEnd T 80 a → AW mX2_passWord 9 true (PIx (fun x d' => mP d d' ∧ RI d' T (if wNo T a (wEnd T 80 a) 6 = 6 then a else (wEnd T 80 a)) ∧ x = b2i (decide (¬ wNo T a (wEnd T 80 a) 6 = 6)) ∧ d'.1 150 3 = wI T a (wEnd T 80 a) ∧ d'.1 152 = d.1 152) nX) 0 0 5 [(0, .ref 150), (1, .int (nI e))] [] (HP d) := by
    intro f
    induction f with
    | zero =>
      intro e he hf hE
      have hEe : e = wEnd T 80 a := hE
      refine aw_iload_n dX2_passWord_5 rfl ?_
      refine aw_aload_n dX2_passWord_6 rfl ?_
      refine aw_gf dX2_passWord_7 (hp_150 _) rfl fX2_17 (by decide) rfl ?_
      rw [hp.1.1]
      refine aw_icmp_ge 31 dX2_passWord_10 (by decide) (fun c10 => ?_) (fun c10 => ?_)
      · rw [hEe]
        exact KX
      · exact absurd ((le_nI rfl rfl (by omega) (by omega)).mpr (show T.length ≤ e by omega)) c10
    | succ f ih =>
      intro e he hf hE
      refine aw_iload_n dX2_passWord_5 rfl ?_
      refine aw_aload_n dX2_passWord_6 rfl ?_
      refine aw_gf dX2_passWord_7 (hp_150 _) rfl fX2_17 (by decide) rfl ?_
      rw [hp.1.1]
      refine aw_icmp_ge 31 dX2_passWord_10 (by decide) (fun c10 => ?_) (fun c10 => ?_)
      · have ho : wEnd T (f + 1) e = e := wEnd_o (fun z => absurd ((le_nI rfl rfl (by omega) (by omega)).mp c10) (by omega))
        have hEe : e = wEnd T 80 a := by rw [← hE, ho]
        rw [hEe]
        exact KX
      · have hlt : e < T.length := Nat.lt_of_not_le (fun z => c10 ((le_nI rfl rfl (by omega) (by omega)).mpr z))
        refine aw_aload_n dX2_passWord_13 rfl ?_
        refine aw_iload_n dX2_passWord_14 rfl ?_
        refine aw_bipush (v := 97) dX2_passWord_15 (by decide) ?_
        refine aw_bipush (v := 122) dX2_passWord_17 (by decide) ?_
        refine aw_cVP dX2_passWord_19 oX2_isBetween vX2_isBetween rfl lX2_50 (kX2_isBetween hp.1 (lo := 97) (hi := 122) hlt (by decide) (by decide)) rfl (hp_150 _) rfl rfl rfl (Nat.le_of_ble_eq_true rfl) (by decide) (Nat.le_of_ble_eq_true rfl) ?_
        refine aw_if_eq 31 dX2_passWord_22 (by decide) (fun c22 => ?_) (fun c22 => ?_)
        · have ho : wEnd T (f + 1) e = e := wEnd_o (fun z => b2d_f c22 ⟨z.2.1, z.2.2⟩)
          have hEe : e = wEnd T 80 a := by rw [← hE, ho]
          rw [hEe]
          exact KX
        · refine aw_inc (c := 1) dX2_passWord_25 (by decide) rfl (by decide) rfl ?_
          refine aw_goto (tgt := 5) dX2_passWord_28 (by decide) ?_
          rw [nI_1]
          exact ih (e + 1) (by omega) (by omega) (by rw [← hE]; exact (wEnd_i ⟨hlt, (b2d_t c22).1, (b2d_t c22).2⟩).symm)
  refine aw_aload_n dX2_passWord_0 rfl ?_
  refine aw_gf dX2_passWord_1 (hp_150 _) rfl fX2_21 (by decide) rfl ?_
  refine aw_istore_n dX2_passWord_4 (by decide) rfl ?_
  rw [hp.2.1]
  exact K 80 a hpa (by omega) rfl
