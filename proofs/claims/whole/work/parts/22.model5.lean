set_option maxHeartbeats 4000000 in
set_option maxRecDepth 100000 in
theorem kX8_timeOf {q : St} {d : Dt} (hr : RR (d.1 161) q) (ok : QOK q) {L : List Nat} (hL : rowI d L) (hLn : ∀ t ∈ L, t < q 0 1) (hl12 : L.length ≤ 12) {m : Nat} (hm : m < 3) : CI mX8_timeOf 3 [.ref 160, .int (nI m)] d (fun x d' => (mS d d' ∧ d'.1 165 = d.1 165 ∧ d'.1 160 = d.1 160) ∧ x = nI (tmL q L m)) := by
  show AW mX8_timeOf 3 true (PIx (fun x d' => (mS d d' ∧ d'.1 165 = d.1 165 ∧ d'.1 160 = d.1 160) ∧ x = nI (tmL q L m)) nX) 0 0 0 [(0, .ref 160), (1, .int (nI m))] [] (HP d)
  obtain ⟨⟨okM1, okM2⟩, okn, -⟩ := id ok
  refine aw_aload_n dX8_timeOf_0 rfl ?_
  refine aw_iload_n dX8_timeOf_1 rfl ?_
  refine aw_cVI dX8_timeOf_2 oX8_changes vX8_changes rfl lX8_165 (kX8_changes hr ok hL hLn hl12 hm) rfl (hp_160 _) rfl rfl rfl (Nat.le_of_ble_eq_true rfl) (by decide) (Nat.le_of_ble_eq_true rfl) ?_
  rintro _ d1 ⟨⟨hm1, h165, h160⟩, rfl⟩
  have hr1 : RR (d1.1 161) q := by rw [mS_g hm1]; exact hr
  have hL1 := rowI_m hL h165 (by rw [h160])
  refine aw_aload_n dX8_timeOf_5 rfl ?_
  refine aw_gf dX8_timeOf_6 (hp_160 _) rfl fX8_7 (by decide) rfl ?_
  refine aw_iconst (v := 5) dX8_timeOf_9 (by decide) ?_
  refine aw_ialdN dX8_timeOf_10 (hp_161 _) rfl (5) (by first | rfl | (simp only [li_0, li_1, li_2, li_3, li_4, li_5, li_7, li_8, li_9, li_11, li_12, li_16, li_17, li_31, li_32, li_60, li_77, li_80, li_89, li_99, li_101, li_112, li_113, li_256, li_999, li_1023, nI_add, pk_mul])) (by omega) (by decide) ?_
  refine aw_imul dX8_timeOf_11 ?_
  refine aw_istore_n dX8_timeOf_12 (by decide) rfl ?_
  refine aw_iconst (v := 0) dX8_timeOf_13 (by decide) ?_
  refine aw_istore_n dX8_timeOf_14 (by decide) rfl ?_
  have L15 : ∀ j, j ≤ L.length → ∀ (v1 v2 : Int32), v1 = nI (chg (tlL q L m) * q 2 1 + sN j (fun k => q 4 (3 * L.getD k 0 + m))) → v2 = nI j → AW mX8_timeOf 3 true (PIx (fun x d' => (mS d d' ∧ d'.1 165 = d.1 165 ∧ d'.1 160 = d.1 160) ∧ x = nI (tmL q L m)) nX) 0 0 15 [(0, .ref 160), (1, .int (nI m)), (2, .int v1), (3, .int v2)] [] (HP d1) := by
    refine up_ind (fun j hj ih => ?_)
    rintro _ _ rfl rfl
    refine aw_iload_n dX8_timeOf_15 rfl ?_
    refine aw_aload_n dX8_timeOf_16 rfl ?_
    refine aw_gf dX8_timeOf_17 (hp_160 _) rfl fX8_162 (by decide) rfl ?_
    refine aw_icmp_ge 43 dX8_timeOf_20 (by decide) (fun c20 => ?_) (fun c20 => ?_)
    · have hge : L.length ≤ j := (le_nI hL1.1 rfl (by omega) (by omega)).mp c20
      have hj2 : j = L.length := by omega
      subst hj2
      refine aw_iload_n dX8_timeOf_43 rfl ?_
      exact aw_endI dX8_timeOf_44 rfl ⟨⟨hm1, h165, h160⟩, rfl⟩
    · have hlt : j < L.length := Nat.lt_of_not_le (fun z => c20 ((le_nI hL1.1 rfl (by omega) (by omega)).mpr z))
      have ht := hLn _ (getD_mem hlt)
      refine aw_iload_n dX8_timeOf_23 rfl ?_
      refine aw_aload_n dX8_timeOf_24 rfl ?_
      refine aw_aload_n dX8_timeOf_25 rfl ?_
      refine aw_gf dX8_timeOf_26 (hp_160 _) rfl fX8_22 (by decide) rfl ?_
      refine aw_iload_n dX8_timeOf_29 rfl ?_
      refine aw_ialdN dX8_timeOf_30 (hp_165 _) rfl (j) (by first | rfl | (simp only [li_0, li_1, li_2, li_3, li_4, li_5, li_7, li_8, li_9, li_11, li_12, li_16, li_17, li_31, li_32, li_60, li_77, li_80, li_89, li_99, li_101, li_112, li_113, li_256, li_999, li_1023, nI_add, pk_mul])) (by omega) (by decide) ?_
      rw [show d1.1 165 j = nI (L.getD j 0) from hL1.2 j hlt]
      refine aw_iload_n dX8_timeOf_31 rfl ?_
      refine aw_cVP dX8_timeOf_32 oX8_of vX8_of rfl lX8_124 (kX8_of (t := L.getD j 0) (w := m) (by omega) (by omega)) rfl (hp_160 _) rfl rfl rfl (Nat.le_of_ble_eq_true rfl) (by decide) (Nat.le_of_ble_eq_true rfl) ?_
      refine aw_iadd dX8_timeOf_35 ?_
      refine aw_istore_n dX8_timeOf_36 (by decide) rfl ?_
      refine aw_inc (c := 1) dX8_timeOf_37 (by decide) rfl (by decide) rfl ?_
      refine aw_goto (tgt := 15) dX8_timeOf_40 (by decide) ?_
      exact ih hlt _ _ (by rw [(hr1.2.2.2.2.1 _ ht).1 m hm, nI_add, Nat.add_assoc]; rfl) (nI_1 j)
  exact L15 0 (Nat.zero_le _) _ _ (by rw [show d1.1 161 5 = nI (q 2 1) from hr1.2.2.1 1 (by decide), pk_mul]; rfl) rfl

set_option maxHeartbeats 4000000 in
set_option maxRecDepth 100000 in
theorem kX8_loadOf {q : St} {d : Dt} (hr : RR (d.1 161) q) (ok : QOK q) {S : Nat} (hS : S < 2 ^ q 0 1) : CI mX8_loadOf 4 [.ref 160, .int (nI S)] d (fun x d' => (mS d d' ∧ rowI d' (ordL q S)) ∧ x = nI (ld q S)) := by
  show AW mX8_loadOf 4 true (PIx (fun x d' => (mS d d' ∧ rowI d' (ordL q S)) ∧ x = nI (ld q S)) nX) 0 0 0 [(0, .ref 160), (1, .int (nI S))] [] (HP d)
  obtain ⟨⟨okM1, okM2⟩, okn, -⟩ := id ok
  refine aw_aload_n dX8_loadOf_0 rfl ?_
  refine aw_iload_n dX8_loadOf_1 rfl ?_
  refine aw_cVv dX8_loadOf_2 oX8_tellRow vX8_tellRow rfl lX8_168 (kX8_tellRow hr ok hS) rfl (hp_160 _) rfl rfl rfl (Nat.le_of_ble_eq_true rfl) (by decide) (Nat.le_of_ble_eq_true rfl) ?_
  intro d0 hT
  refine aw_iconst (v := 0) dX8_loadOf_5 (by decide) ?_
  refine aw_istore_n dX8_loadOf_6 (by decide) rfl ?_
  refine aw_iconst (v := 0) dX8_loadOf_7 (by decide) ?_
  refine aw_istore_n dX8_loadOf_8 (by decide) rfl ?_
  have L9 : ∀ j, j ≤ q 0 0 → ∀ (d1 : Dt) (v1 v2 : Int32), (mS d d1 ∧ rowI d1 (ordL q S)) → v1 = nI (sN j (fun m => q 1 m * tm q S m)) → v2 = nI j → AW mX8_loadOf 4 true (PIx (fun x d' => (mS d d' ∧ rowI d' (ordL q S)) ∧ x = nI (ld q S)) nX) 0 0 9 [(0, .ref 160), (1, .int (nI S)), (2, .int v1), (3, .int v2)] [] (HP d1) := by
    refine up_ind (fun j hj ih => ?_)
    rintro d1 _ _ ⟨hm1, hL1⟩ rfl rfl; have hr1 : RR (d1.1 161) q := by rw [mS_g hm1]; exact hr
    refine aw_iload_n dX8_loadOf_9 rfl ?_
    refine aw_aload_n dX8_loadOf_10 rfl ?_
    refine aw_gf dX8_loadOf_11 (hp_160 _) rfl fX8_7 (by decide) rfl ?_
    refine aw_iconst (v := 0) dX8_loadOf_14 (by decide) ?_
    refine aw_ialdN dX8_loadOf_15 (hp_161 _) rfl (0) (by first | rfl | (simp only [li_0, li_1, li_2, li_3, li_4, li_5, li_7, li_8, li_9, li_11, li_12, li_16, li_17, li_31, li_32, li_60, li_77, li_80, li_89, li_99, li_101, li_112, li_113, li_256, li_999, li_1023, nI_add, pk_mul])) (by omega) (by decide) ?_
    refine aw_icmp_ge 42 dX8_loadOf_16 (by decide) (fun c16 => ?_) (fun c16 => ?_)
    · have hge : q 0 0 ≤ j := (le_nI hr1.1.1 rfl (by omega) (by omega)).mp c16
      have hj2 : j = q 0 0 := by omega
      subst hj2
      refine aw_iload_n dX8_loadOf_42 rfl ?_
      exact aw_endI dX8_loadOf_43 rfl ⟨⟨hm1, hL1⟩, rfl⟩
    · have hlt : j < q 0 0 := Nat.lt_of_not_le (fun z => c16 ((le_nI hr1.1.1 rfl (by omega) (by omega)).mpr z))
      refine aw_iload_n dX8_loadOf_19 rfl ?_
      refine aw_aload_n dX8_loadOf_20 rfl ?_
      refine aw_gf dX8_loadOf_21 (hp_160 _) rfl fX8_7 (by decide) rfl ?_
      refine aw_iconst (v := 1) dX8_loadOf_24 (by decide) ?_
      refine aw_iload_n dX8_loadOf_25 rfl ?_
      refine aw_iadd dX8_loadOf_26 ?_
      refine aw_ialdN dX8_loadOf_27 (hp_161 _) rfl (1 + j) (by first | rfl | (simp only [li_0, li_1, li_2, li_3, li_4, li_5, li_7, li_8, li_9, li_11, li_12, li_16, li_17, li_31, li_32, li_60, li_77, li_80, li_89, li_99, li_101, li_112, li_113, li_256, li_999, li_1023, nI_add, pk_mul])) (by omega) (by decide) ?_
      refine aw_aload_n dX8_loadOf_28 rfl ?_
      refine aw_iload_n dX8_loadOf_29 rfl ?_
      refine aw_cVI dX8_loadOf_30 oX8_timeOf vX8_timeOf rfl lX8_172 (kX8_timeOf hr1 ok hL1 (fun t ht => (ordF_mem ok ok.2.1 12 S hS t ht).1) (ordF_len 12 S) (m := j) (by omega)) rfl (hp_160 _) rfl rfl rfl (Nat.le_of_ble_eq_true rfl) (by decide) (Nat.le_of_ble_eq_true rfl) ?_
      rintro _ d2 ⟨⟨hm2, h165, h160⟩, rfl⟩
      refine aw_imul dX8_loadOf_33 ?_
      refine aw_iadd dX8_loadOf_34 ?_
      refine aw_istore_n dX8_loadOf_35 (by decide) rfl ?_
      refine aw_inc (c := 1) dX8_loadOf_36 (by decide) rfl (by decide) rfl ?_
      refine aw_goto (tgt := 9) dX8_loadOf_39 (by decide) ?_
      exact ih hlt _ _ _ ⟨mS_t hm1 hm2, rowI_m hL1 h165 (by rw [h160])⟩ (by rw [show d1.1 161 (1 + j) = nI (q 1 j) from hr1.2.1 j (by omega), pk_mul, nI_add]; rfl) (nI_1 j)
  exact L9 0 (Nat.zero_le _) _ _ _ hT rfl rfl

set_option maxHeartbeats 4000000 in
set_option maxRecDepth 100000 in
theorem kX8_fits {q : St} {d : Dt} (hr : RR (d.1 161) q) (ok : QOK q) {S : Nat} (hS : S < 2 ^ q 0 1) {c : Nat} (hc : c ≤ 3) : CI mX8_fits 5 [.ref 160, .int (nI S), .int (nI c)] d (fun x d' => mS d d' ∧ x = b2i (fitB q S c)) := by
  show AW mX8_fits 5 true (PIx (fun x d' => mS d d' ∧ x = b2i (fitB q S c)) nX) 0 0 0 [(0, .ref 160), (1, .int (nI S)), (2, .int (nI c))] [] (HP d)
  obtain ⟨⟨okM1, okM2⟩, okn, -⟩ := id ok
  obtain ⟨h20, h21, h22, h23, h24, h25⟩ := ok.2.2.2.1
  have hb0 : c * q 2 0 ≤ 3 * 999 := Nat.mul_le_mul hc h21
  have htd := td_le ok
  have hld := ld_le ok hS
  have hb1 : c * q 2 0 * td q ≤ 3 * 999 * 27 := Nat.mul_le_mul hb0 htd.2
  have hb2 : c * q 2 0 * td q < 2 ^ 31 := by omega
  refine aw_aload_n dX8_fits_0 rfl ?_
  refine aw_gf dX8_fits_1 (hp_160 _) rfl fX8_7 (by decide) rfl ?_
  refine aw_bipush (v := 7) dX8_fits_4 (by decide) ?_
  refine aw_ialdN dX8_fits_6 (hp_161 _) rfl (7) (by first | rfl | (simp only [li_0, li_1, li_2, li_3, li_4, li_5, li_7, li_8, li_9, li_11, li_12, li_16, li_17, li_31, li_32, li_60, li_77, li_80, li_89, li_99, li_101, li_112, li_113, li_256, li_999, li_1023, nI_add, pk_mul])) (by omega) (by decide) ?_
  rw [show d.1 161 7 = nI (q 2 3) from hr.2.2.1 3 (by decide)]
  refine aw_if_ne 37 dX8_fits_7 (by decide) (fun c7 => ?_) (fun c7 => ?_)
  · have h0 : ¬ q 2 3 = 0 := fun z => c7 (by rw [z]; rfl)
    refine aw_aload_n dX8_fits_37 rfl ?_
    refine aw_iload_n dX8_fits_38 rfl ?_
    refine aw_cVv dX8_fits_39 oX8_tellRow vX8_tellRow rfl lX8_168 (kX8_tellRow hr ok hS) rfl (hp_160 _) rfl rfl rfl (Nat.le_of_ble_eq_true rfl) (by decide) (Nat.le_of_ble_eq_true rfl) ?_
    intro d0 hT
    refine aw_iconst (v := 1) dX8_fits_42 (by decide) ?_
    refine aw_istore_n dX8_fits_43 (by decide) rfl ?_
    refine aw_iconst (v := 0) dX8_fits_44 (by decide) ?_
    refine aw_istore dX8_fits_45 (by decide) rfl ?_
    have L47 : ∀ j, j ≤ q 0 0 → ∀ (d1 : Dt) (v1 v2 : Int32), (mS d d1 ∧ rowI d1 (ordL q S)) → v1 = b2i (decide (∀ m, m < j → tm q S m ≤ c * q 2 0)) → v2 = nI j → AW mX8_fits 5 true (PIx (fun x d' => mS d d' ∧ x = b2i (fitB q S c)) nX) 0 0 47 [(0, .ref 160), (1, .int (nI S)), (2, .int (nI c)), (3, .int v1), (4, .int v2)] [] (HP d1) := by
      refine up_ind (fun j hj ih => ?_)
      rintro d1 _ _ ⟨hm1, hL1⟩ rfl rfl; have hr1 : RR (d1.1 161) q := by rw [mS_g hm1]; exact hr
      refine aw_iload dX8_fits_47 rfl ?_
      refine aw_aload_n dX8_fits_49 rfl ?_
      refine aw_gf dX8_fits_50 (hp_160 _) rfl fX8_7 (by decide) rfl ?_
      refine aw_iconst (v := 0) dX8_fits_53 (by decide) ?_
      refine aw_ialdN dX8_fits_54 (hp_161 _) rfl (0) (by first | rfl | (simp only [li_0, li_1, li_2, li_3, li_4, li_5, li_7, li_8, li_9, li_11, li_12, li_16, li_17, li_31, li_32, li_60, li_77, li_80, li_89, li_99, li_101, li_112, li_113, li_256, li_999, li_1023, nI_add, pk_mul])) (by omega) (by decide) ?_
      refine aw_icmp_ge 91 dX8_fits_55 (by decide) (fun c55 => ?_) (fun c55 => ?_)
      · have hge : q 0 0 ≤ j := (le_nI hr1.1.1 rfl (by omega) (by omega)).mp c55
        have hj2 : j = q 0 0 := by omega
        subst hj2
        refine aw_iload_n dX8_fits_91 rfl ?_
        exact aw_endZ dX8_fits_92 rfl (by first | exact b2i_nar _ | decide) ⟨hm1, by unfold fitB; rw [if_neg h0]⟩
      · have hlt : j < q 0 0 := Nat.lt_of_not_le (fun z => c55 ((le_nI hr1.1.1 rfl (by omega) (by omega)).mpr z))
        refine aw_iload_n dX8_fits_58 rfl ?_
        refine aw_if_eq 83 dX8_fits_59 (by decide) (fun c59 => ?_) (fun c59 => ?_)
        · refine aw_iconst (v := 0) dX8_fits_83 (by decide) ?_
          refine aw_istore_n dX8_fits_84 (by decide) rfl ?_
          refine aw_inc (c := 1) dX8_fits_85 (by decide) rfl (by decide) rfl ?_
          refine aw_goto (tgt := 47) dX8_fits_88 (by decide) ?_
          rw [b2i_eq] at c59
          exact ih hlt _ _ _ ⟨hm1, hL1⟩ (by rw [b2i_f]; intro z; exact (of_decide_eq_false c59) (fun m hm => z m (by omega))) (nI_1 j)
        · refine aw_aload_n dX8_fits_62 rfl ?_
          refine aw_iload dX8_fits_63 rfl ?_
          refine aw_cVI dX8_fits_65 oX8_timeOf vX8_timeOf rfl lX8_172 (kX8_timeOf hr1 ok hL1 (fun t ht => (ordF_mem ok ok.2.1 12 S hS t ht).1) (ordF_len 12 S) (m := j) (by omega)) rfl (hp_160 _) rfl rfl rfl (Nat.le_of_ble_eq_true rfl) (by decide) (Nat.le_of_ble_eq_true rfl) ?_
          rintro _ d2 ⟨⟨hm2, h165, h160⟩, rfl⟩
          have hr2 : RR (d2.1 161) q := by rw [mS_g hm2]; exact hr1
          refine aw_iload_n dX8_fits_68 rfl ?_
          refine aw_aload_n dX8_fits_69 rfl ?_
          refine aw_gf dX8_fits_70 (hp_160 _) rfl fX8_7 (by decide) rfl ?_
          refine aw_iconst (v := 4) dX8_fits_73 (by decide) ?_
          refine aw_ialdN dX8_fits_74 (hp_161 _) rfl (4) (by first | rfl | (simp only [li_0, li_1, li_2, li_3, li_4, li_5, li_7, li_8, li_9, li_11, li_12, li_16, li_17, li_31, li_32, li_60, li_77, li_80, li_89, li_99, li_101, li_112, li_113, li_256, li_999, li_1023, nI_add, pk_mul])) (by omega) (by decide) ?_
          refine aw_imul dX8_fits_75 ?_
          refine aw_icmp_gt 83 dX8_fits_76 (by decide) (fun c76 => ?_) (fun c76 => ?_)
          · refine aw_iconst (v := 0) dX8_fits_83 (by decide) ?_
            refine aw_istore_n dX8_fits_84 (by decide) rfl ?_
            refine aw_inc (c := 1) dX8_fits_85 (by decide) rfl (by decide) rfl ?_
            refine aw_goto (tgt := 47) dX8_fits_88 (by decide) ?_
            rw [b2i_ne] at c59
            have h59 := of_decide_eq_true c59
            rw [show d2.1 161 4 = nI (q 2 0) from hr2.2.2.1 0 (by decide), pk_mul, lt_nI rfl rfl (by omega) (by have : tmL q (ordL q S) j ≤ 1428 := tm_le ok hS (by omega); omega)] at c76
            exact ih hlt _ _ _ ⟨mS_t hm1 hm2, rowI_m hL1 h165 (by rw [h160])⟩ (by rw [b2i_f]; intro z; have z2 : tmL q (ordL q S) j ≤ c * q 2 0 := z j (by omega); omega) (nI_1 j)
          · refine aw_iconst (v := 1) dX8_fits_79 (by decide) ?_
            refine aw_goto (tgt := 84) dX8_fits_80 (by decide) ?_
            refine aw_istore_n dX8_fits_84 (by decide) rfl ?_
            refine aw_inc (c := 1) dX8_fits_85 (by decide) rfl (by decide) rfl ?_
            refine aw_goto (tgt := 47) dX8_fits_88 (by decide) ?_
            rw [b2i_ne] at c59
            have h59 := of_decide_eq_true c59
            rw [show d2.1 161 4 = nI (q 2 0) from hr2.2.2.1 0 (by decide), pk_mul, lt_nI rfl rfl (by omega) (by have : tmL q (ordL q S) j ≤ 1428 := tm_le ok hS (by omega); omega)] at c76
            exact ih hlt _ _ _ ⟨mS_t hm1 hm2, rowI_m hL1 h165 (by rw [h160])⟩ (by rw [b2i_t]; intro m hm; rcases Nat.lt_succ_iff_lt_or_eq.mp hm with e | e; exact h59 m e; rw [e]; show tmL q (ordL q S) j ≤ c * q 2 0; omega) (nI_1 j)
    exact L47 0 (Nat.zero_le _) _ _ _ hT (by rw [b2i_t]; intro m hm; omega) rfl
  · have h0 : q 2 3 = 0 := (eq_nI rfl (show (0 : Int32) = nI 0 from rfl) (by omega) (by omega)).mp c7
    refine aw_aload_n dX8_fits_10 rfl ?_
    refine aw_iload_n dX8_fits_11 rfl ?_
    refine aw_cVI dX8_fits_12 oX8_loadOf vX8_loadOf rfl lX8_175 (kX8_loadOf hr ok hS) rfl (hp_160 _) rfl rfl rfl (Nat.le_of_ble_eq_true rfl) (by decide) (Nat.le_of_ble_eq_true rfl) ?_
    rintro _ d1 ⟨⟨hm1, -⟩, rfl⟩
    have hr1 : RR (d1.1 161) q := by rw [mS_g hm1]; exact hr
    refine aw_iload_n dX8_fits_15 rfl ?_
    refine aw_aload_n dX8_fits_16 rfl ?_
    refine aw_gf dX8_fits_17 (hp_160 _) rfl fX8_7 (by decide) rfl ?_
    refine aw_iconst (v := 4) dX8_fits_20 (by decide) ?_
    refine aw_ialdN dX8_fits_21 (hp_161 _) rfl (4) (by first | rfl | (simp only [li_0, li_1, li_2, li_3, li_4, li_5, li_7, li_8, li_9, li_11, li_12, li_16, li_17, li_31, li_32, li_60, li_77, li_80, li_89, li_99, li_101, li_112, li_113, li_256, li_999, li_1023, nI_add, pk_mul])) (by omega) (by decide) ?_
    refine aw_imul dX8_fits_22 ?_
    refine aw_aload_n dX8_fits_23 rfl ?_
    refine aw_cVP dX8_fits_24 oX8_totalDemand vX8_totalDemand rfl lX8_105 (kX8_totalDemand hr1 ok) rfl (hp_160 _) rfl rfl rfl (Nat.le_of_ble_eq_true rfl) (by decide) (Nat.le_of_ble_eq_true rfl) ?_
    refine aw_imul dX8_fits_27 ?_
    refine aw_icmp_gt 35 dX8_fits_28 (by decide) (fun c28 => ?_) (fun c28 => ?_)
    · refine aw_iconst (v := 0) dX8_fits_35 (by decide) ?_
      exact aw_endZ dX8_fits_36 rfl (by first | exact b2i_nar _ | decide) ⟨hm1, by rw [show d1.1 161 4 = nI (q 2 0) from hr1.2.2.1 0 (by decide), pk_mul, pk_mul, lt_nI rfl rfl hb2 (by omega)] at c28; unfold fitB; rw [if_pos h0]; first | (exact (b2i_f (by omega)).symm) | (exact (b2i_t (by omega)).symm)⟩
    · refine aw_iconst (v := 1) dX8_fits_31 (by decide) ?_
      refine aw_goto (tgt := 36) dX8_fits_32 (by decide) ?_
      exact aw_endZ dX8_fits_36 rfl (by first | exact b2i_nar _ | decide) ⟨hm1, by rw [show d1.1 161 4 = nI (q 2 0) from hr1.2.2.1 0 (by decide), pk_mul, pk_mul, lt_nI rfl rfl hb2 (by omega)] at c28; unfold fitB; rw [if_pos h0]; first | (exact (b2i_f (by omega)).symm) | (exact (b2i_t (by omega)).symm)⟩
