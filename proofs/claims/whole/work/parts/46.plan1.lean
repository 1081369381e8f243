set_option maxHeartbeats 4000000 in
set_option maxRecDepth 100000 in
theorem kX3_digitShift {t : Nat} {d : Dt} (ht : t < 8) : CP mX3_digitShift 1 [.int (nI t)] d (nI (3 * (7 - t))) := by
  show AW mX3_digitShift 1 true (PIx (fun y d' => y = nI (3 * (7 - t)) ∧ d' = d) nX) 0 0 0 [(0, .int (nI t))] [] (HP d)
  refine aw_iconst (v := 3) dX3_digitShift_0 (by decide) ?_
  refine aw_bipush (v := 7) dX3_digitShift_1 (by decide) ?_
  refine aw_iload_n dX3_digitShift_3 rfl ?_
  refine aw_isub dX3_digitShift_4 ?_
  refine aw_imul dX3_digitShift_5 ?_
  exact aw_endI dX3_digitShift_6 rfl ⟨by rw [show (7 : Int32) = nI 7 from rfl, pk_sub (by omega), show (3 : Int32) = nI 3 from rfl, pk_mul], rfl⟩

set_option maxHeartbeats 4000000 in
set_option maxRecDepth 100000 in
theorem kX3_digitsOf {S : Nat} {d : Dt} (hS : S < 4096) : CP mX3_digitsOf 2 [.int (nI S)] d (nI (dig S)) := by
  show AW mX3_digitsOf 2 true (PIx (fun y d' => y = nI (dig S) ∧ d' = d) nX) 0 0 0 [(0, .int (nI S))] [] (HP d)
  refine aw_iconst (v := 0) dX3_digitsOf_0 (by decide) ?_
  refine aw_istore_n dX3_digitsOf_1 (by decide) rfl ?_
  refine aw_iconst (v := 0) dX3_digitsOf_2 (by decide) ?_
  refine aw_istore_n dX3_digitsOf_3 (by decide) rfl ?_
  have L4 : ∀ j, j ≤ 8 → ∀ (v1 v2 : Int32), v1 = nI (sN j (dgF S)) → v2 = nI j → AW mX3_digitsOf 2 true (PIx (fun y d' => y = nI (dig S) ∧ d' = d) nX) 0 0 4 [(0, .int (nI S)), (1, .int v1), (2, .int v2)] [] (HP d) := by
    refine up_ind (fun j hj ih => ?_)
    rintro _ _ rfl rfl
    refine aw_iload_n dX3_digitsOf_4 rfl ?_
    refine aw_bipush (v := 8) dX3_digitsOf_5 (by decide) ?_
    refine aw_icmp_ge 37 dX3_digitsOf_7 (by decide) (fun c7 => ?_) (fun c7 => ?_)
    · have hge : 8 ≤ j := (le_nI (show (8 : Int32) = nI 8 from rfl) rfl (by omega) (by omega)).mp c7
      have hj2 : j = 8 := by omega
      subst hj2
      refine aw_iload_n dX3_digitsOf_37 rfl ?_
      exact aw_endI dX3_digitsOf_38 rfl ⟨rfl, rfl⟩
    · have hlt : j < 8 := Nat.lt_of_not_le (fun z => c7 ((le_nI (show (8 : Int32) = nI 8 from rfl) rfl (by omega) (by omega)).mpr z))
      refine aw_iload_n dX3_digitsOf_10 rfl ?_
      refine aw_iload_n dX3_digitsOf_11 rfl ?_
      refine aw_iload_n dX3_digitsOf_12 rfl ?_
      refine aw_cSNP dX3_digitsOf_13 oX7_has sX7_has lX3_91 (kX7_hasN (s := S) (k := j) (by omega) (by omega)) rfl rfl (Nat.le_of_ble_eq_true rfl) (by decide) (Nat.le_of_ble_eq_true rfl) ?_
      refine aw_if_eq 28 dX3_digitsOf_16 (by decide) (fun c16 => ?_) (fun c16 => ?_)
      · refine aw_iconst (v := 0) dX3_digitsOf_28 (by decide) ?_
        refine aw_iadd dX3_digitsOf_29 ?_
        refine aw_istore_n dX3_digitsOf_30 (by decide) rfl ?_
        refine aw_inc (c := 1) dX3_digitsOf_31 (by decide) rfl (by decide) rfl ?_
        refine aw_goto (tgt := 4) dX3_digitsOf_34 (by decide) ?_
        exact ih hlt _ _ (by simp only [sN, dgF]; rw [b2i_eq.mp c16, if_neg Bool.false_ne_true]; exact nI_add _ 0) (nI_1 j)
      · refine aw_iconst (v := 1) dX3_digitsOf_19 (by decide) ?_
        refine aw_iload_n dX3_digitsOf_20 rfl ?_
        refine aw_cSP dX3_digitsOf_21 oX3_digitShift sX3_digitShift rfl lX3_51 (kX3_digitShift hlt) rfl rfl (Nat.le_of_ble_eq_true rfl) (by decide) (Nat.le_of_ble_eq_true rfl) ?_
        refine aw_ishl dX3_digitsOf_24 ?_
        refine aw_goto (tgt := 29) dX3_digitsOf_25 (by decide) ?_
        refine aw_iadd dX3_digitsOf_29 ?_
        refine aw_istore_n dX3_digitsOf_30 (by decide) rfl ?_
        refine aw_inc (c := 1) dX3_digitsOf_31 (by decide) rfl (by decide) rfl ?_
        refine aw_goto (tgt := 4) dX3_digitsOf_34 (by decide) ?_
        exact ih hlt _ _ (by simp only [sN, dgF]; rw [b2i_ne.mp c16, if_pos rfl, nI_sh1 _ (by omega), show (8 : Nat) = 2 ^ 3 from rfl, ← Nat.pow_mul]; exact nI_add _ _) (nI_1 j)
  exact L4 0 (Nat.zero_le _) _ _ rfl rfl

set_option maxHeartbeats 4000000 in
set_option maxRecDepth 100000 in
theorem kX3_isSplit {q : St} {d : Dt} (hs : KS 0 d q) (ok : QOK q) (h8 : q 0 1 ≤ 8) {S : Nat} (hS : S < 2 ^ q 0 1) : CP mX3_isSplit 2 [.ref 138, .int (nI S)] d (b2i (!(alB (q 0 1) (seF q S)))) := by
  show AW mX3_isSplit 2 true (PIx (fun y d' => y = b2i (!(alB (q 0 1) (seF q S))) ∧ d' = d) nX) 0 0 0 [(0, .ref 138), (1, .int (nI S))] [] (HP d)
  have h12 := ok.2.1
  have hp12 := pow12 h12
  obtain ⟨hN1, hN2⟩ := p2_256 h8
  have hbo : ∀ t, q 0 1 ≤ t → S.testBit t = false := fun t ht => by
    cases hb : S.testBit t with
    | false => rfl
    | true => have := lt_of_bit hS hb; omega
  refine aw_iconst (v := 0) dX3_isSplit_0 (by decide) ?_
  refine aw_istore_n dX3_isSplit_1 (by decide) rfl ?_
  have L2 : ∀ j, j ≤ 8 → ∀ (v2 : Int32), (∀ t, t < j → seF q S t = true) → v2 = nI j → AW mX3_isSplit 2 true (PIx (fun y d' => y = b2i (!(alB (q 0 1) (seF q S))) ∧ d' = d) nX) 0 0 2 [(0, .ref 138), (1, .int (nI S)), (2, .int v2)] [] (HP d) := by
    refine up_ind (fun j hj ih => ?_)
    rintro _ hall rfl
    refine aw_iload_n dX3_isSplit_2 rfl ?_
    refine aw_bipush (v := 8) dX3_isSplit_3 (by decide) ?_
    refine aw_icmp_ge 54 dX3_isSplit_5 (by decide) (fun c5 => ?_) (fun c5 => ?_)
    · have hge : 8 ≤ j := (le_nI (show (8 : Int32) = nI 8 from rfl) rfl (by omega) (by omega)).mp c5
      have hj2 : j = 8 := by omega
      subst hj2
      refine aw_iconst (v := 0) dX3_isSplit_54 (by decide) ?_
      have hal : alB (q 0 1) (seF q S) = true := alB_iff.mpr (fun t ht => hall t (by omega))
      exact aw_endZ dX3_isSplit_55 rfl (by decide) ⟨by rw [hal]; rfl, rfl⟩
    · have hlt : j < 8 := Nat.lt_of_not_le (fun z => c5 ((le_nI (show (8 : Int32) = nI 8 from rfl) rfl (by omega) (by omega)).mpr z))
      have hqj := q78_lt ok (show j < 12 by omega)
      refine aw_iload_n dX3_isSplit_8 rfl ?_
      refine aw_iload_n dX3_isSplit_9 rfl ?_
      refine aw_cSNP dX3_isSplit_10 oX7_has sX7_has lX3_91 (kX7_hasN (s := S) (k := j) (by omega) (by omega)) rfl rfl (Nat.le_of_ble_eq_true rfl) (by decide) (Nat.le_of_ble_eq_true rfl) ?_
      refine aw_if_eq 48 dX3_isSplit_13 (by decide) (fun c13 => ?_) (fun c13 => ?_)
      · refine aw_inc (c := 1) dX3_isSplit_48 (by decide) rfl (by decide) rfl ?_
        refine aw_goto (tgt := 2) dX3_isSplit_51 (by decide) ?_
        exact ih hlt _ (fun t ht => by
            by_cases e : t = j
            · rw [e]; exact seF_iff.mpr (Or.inl (b2i_eq.mp c13))
            · exact hall t (by omega)) (nI_1 j)
      · refine aw_aload_n dX3_isSplit_16 rfl ?_
        refine aw_gf dX3_isSplit_17 (hp_138 _) rfl fX3_36 (by decide) rfl ?_
        refine aw_gf dX3_isSplit_20 (hp_0 _) rfl fX3_95 (by decide) rfl ?_
        refine aw_iload_n dX3_isSplit_23 rfl ?_
        refine aw_ialdN dX3_isSplit_24 (hp_10 _) rfl (j) (by first | rfl | (simp only [li_0, li_1, li_2, li_3, li_4, li_5, li_7, li_8, li_9, li_11, li_12, li_16, li_17, li_31, li_32, li_60, li_77, li_80, li_89, li_99, li_101, li_112, li_113, li_256, li_999, li_1023, nI_add, pk_mul])) (by omega) (by decide) ?_
        rw [show d.1 10 (j) = nI (q 10 (j)) from hs 10 (j) (by decide) (show (j) < 12 by omega)]
        refine aw_iload_n dX3_isSplit_25 rfl ?_
        refine aw_iand dX3_isSplit_26 ?_
        rw [nI_and]
        refine aw_if_ne 46 dX3_isSplit_27 (by decide) (fun c27 => ?_) (fun c27 => ?_)
        · refine aw_iconst (v := 1) dX3_isSplit_46 (by decide) ?_
          have hnf : seF q S j = false := by
            cases hb : seF q S j with
            | false => rfl
            | true =>
              rcases seF_iff.mp hb with z | z
              · rw [b2i_ne.mp c13] at z; cases z
              · exact absurd z (fun z => c27 (by rw [z.1]; rfl))
          have hjm : j < q 0 1 := lt_of_bit hS (b2i_ne.mp c13)
          have hna : alB (q 0 1) (seF q S) = false := by
            cases hb : alB (q 0 1) (seF q S) with
            | false => rfl
            | true => rw [alB_iff.mp hb j hjm] at hnf; cases hnf
          exact aw_endZ dX3_isSplit_47 rfl (by decide) ⟨by rw [hna]; rfl, rfl⟩
        · refine aw_aload_n dX3_isSplit_30 rfl ?_
          refine aw_gf dX3_isSplit_31 (hp_138 _) rfl fX3_36 (by decide) rfl ?_
          refine aw_gf dX3_isSplit_34 (hp_0 _) rfl fX3_98 (by decide) rfl ?_
          refine aw_iload_n dX3_isSplit_37 rfl ?_
          refine aw_ialdN dX3_isSplit_38 (hp_11 _) rfl (j) (by first | rfl | (simp only [li_0, li_1, li_2, li_3, li_4, li_5, li_7, li_8, li_9, li_11, li_12, li_16, li_17, li_31, li_32, li_60, li_77, li_80, li_89, li_99, li_101, li_112, li_113, li_256, li_999, li_1023, nI_add, pk_mul])) (by omega) (by decide) ?_
          rw [show d.1 11 (j) = nI (q 11 (j)) from hs 11 (j) (by decide) (show (j) < 12 by omega)]
          refine aw_iload_n dX3_isSplit_39 rfl ?_
          refine aw_iconst (v := (-1)) dX3_isSplit_40 (by decide) ?_
          refine aw_ixor dX3_isSplit_41 ?_
          refine aw_iand dX3_isSplit_42 ?_
          rw [nI_lacks (by omega) (by omega)]
          refine aw_if_eq 48 dX3_isSplit_43 (by decide) (fun c43 => ?_) (fun c43 => ?_)
          · refine aw_inc (c := 1) dX3_isSplit_48 (by decide) rfl (by decide) rfl ?_
            refine aw_goto (tgt := 2) dX3_isSplit_51 (by decide) ?_
            exact ih hlt _ (fun t ht => by
                by_cases e : t = j
                · rw [e]; exact seF_iff.mpr (Or.inr ⟨(nI_inj (Nat.lt_of_le_of_lt Nat.and_le_left (by omega)) (by omega) (c27 : _ = nI 0)), (nI_inj (Nat.lt_of_le_of_lt Nat.and_le_left (by omega)) (by omega) (c43 : _ = nI 0))⟩)
                · exact hall t (by omega)) (nI_1 j)
          · refine aw_iconst (v := 1) dX3_isSplit_46 (by decide) ?_
            have hnf : seF q S j = false := by
              cases hb : seF q S j with
              | false => rfl
              | true =>
                rcases seF_iff.mp hb with z | z
                · rw [b2i_ne.mp c13] at z; cases z
                · exact absurd z (fun z => c43 (by rw [z.2]; rfl))
            have hjm : j < q 0 1 := lt_of_bit hS (b2i_ne.mp c13)
            have hna : alB (q 0 1) (seF q S) = false := by
              cases hb : alB (q 0 1) (seF q S) with
              | false => rfl
              | true => rw [alB_iff.mp hb j hjm] at hnf; cases hnf
            exact aw_endZ dX3_isSplit_47 rfl (by decide) ⟨by rw [hna]; rfl, rfl⟩
  exact L2 0 (Nat.zero_le _) _ (fun t ht => absurd ht (Nat.not_lt_zero _)) rfl

set_option maxHeartbeats 4000000 in
set_option maxRecDepth 100000 in
theorem kX3_hasAllAhead {q : St} {d : Dt} (hs : KS 0 d q) (ok : QOK q) (h8 : q 0 1 ≤ 8) {S : Nat} (hS : S < 2 ^ q 0 1) : CP mX3_hasAllAhead 2 [.ref 138, .int (nI S)] d (b2i (clB q S)) := by
  show AW mX3_hasAllAhead 2 true (PIx (fun y d' => y = b2i (clB q S) ∧ d' = d) nX) 0 0 0 [(0, .ref 138), (1, .int (nI S))] [] (HP d)
  have h12 := ok.2.1
  have hp12 := pow12 h12
  obtain ⟨hN1, hN2⟩ := p2_256 h8
  have hbo : ∀ t, q 0 1 ≤ t → S.testBit t = false := fun t ht => by
    cases hb : S.testBit t with
    | false => rfl
    | true => have := lt_of_bit hS hb; omega
  refine aw_iconst (v := 0) dX3_hasAllAhead_0 (by decide) ?_
  refine aw_istore_n dX3_hasAllAhead_1 (by decide) rfl ?_
  have L2 : ∀ j, j ≤ 8 → ∀ (v2 : Int32), (∀ t, t < j → clF q S t = true) → v2 = nI j → AW mX3_hasAllAhead 2 true (PIx (fun y d' => y = b2i (clB q S) ∧ d' = d) nX) 0 0 2 [(0, .ref 138), (1, .int (nI S)), (2, .int v2)] [] (HP d) := by
    refine up_ind (fun j hj ih => ?_)
    rintro _ hall rfl
    refine aw_iload_n dX3_hasAllAhead_2 rfl ?_
    refine aw_bipush (v := 8) dX3_hasAllAhead_3 (by decide) ?_
    refine aw_icmp_ge 40 dX3_hasAllAhead_5 (by decide) (fun c5 => ?_) (fun c5 => ?_)
    · have hge : 8 ≤ j := (le_nI (show (8 : Int32) = nI 8 from rfl) rfl (by omega) (by omega)).mp c5
      have hj2 : j = 8 := by omega
      subst hj2
      refine aw_iconst (v := 1) dX3_hasAllAhead_40 (by decide) ?_
      have hal : clB q S = true := alB_iff.mpr (fun t ht => hall t (by omega))
      exact aw_endZ dX3_hasAllAhead_41 rfl (by decide) ⟨by rw [hal]; rfl, rfl⟩
    · have hlt : j < 8 := Nat.lt_of_not_le (fun z => c5 ((le_nI (show (8 : Int32) = nI 8 from rfl) rfl (by omega) (by omega)).mpr z))
      have hqj := q78_lt ok (show j < 12 by omega)
      refine aw_iload_n dX3_hasAllAhead_8 rfl ?_
      refine aw_iload_n dX3_hasAllAhead_9 rfl ?_
      refine aw_cSNP dX3_hasAllAhead_10 oX7_has sX7_has lX3_91 (kX7_hasN (s := S) (k := j) (by omega) (by omega)) rfl rfl (Nat.le_of_ble_eq_true rfl) (by decide) (Nat.le_of_ble_eq_true rfl) ?_
      refine aw_if_eq 34 dX3_hasAllAhead_13 (by decide) (fun c13 => ?_) (fun c13 => ?_)
      · refine aw_inc (c := 1) dX3_hasAllAhead_34 (by decide) rfl (by decide) rfl ?_
        refine aw_goto (tgt := 2) dX3_hasAllAhead_37 (by decide) ?_
        exact ih hlt _ (fun t ht => by
            by_cases e : t = j
            · rw [e]; exact clF_iff.mpr (Or.inl (b2i_eq.mp c13))
            · exact hall t (by omega)) (nI_1 j)
      · refine aw_aload_n dX3_hasAllAhead_16 rfl ?_
        refine aw_gf dX3_hasAllAhead_17 (hp_138 _) rfl fX3_36 (by decide) rfl ?_
        refine aw_gf dX3_hasAllAhead_20 (hp_0 _) rfl fX3_101 (by decide) rfl ?_
        refine aw_iload_n dX3_hasAllAhead_23 rfl ?_
        refine aw_ialdN dX3_hasAllAhead_24 (hp_8 _) rfl (j) (by first | rfl | (simp only [li_0, li_1, li_2, li_3, li_4, li_5, li_7, li_8, li_9, li_11, li_12, li_16, li_17, li_31, li_32, li_60, li_77, li_80, li_89, li_99, li_101, li_112, li_113, li_256, li_999, li_1023, nI_add, pk_mul])) (by omega) (by decide) ?_
        rw [show d.1 8 (j) = nI (q 8 (j)) from hs 8 (j) (by decide) (show (j) < 12 by omega)]
        refine aw_iload_n dX3_hasAllAhead_25 rfl ?_
        refine aw_iconst (v := (-1)) dX3_hasAllAhead_26 (by decide) ?_
        refine aw_ixor dX3_hasAllAhead_27 ?_
        refine aw_iand dX3_hasAllAhead_28 ?_
        rw [nI_lacks (by omega) (by omega)]
        refine aw_if_eq 34 dX3_hasAllAhead_29 (by decide) (fun c29 => ?_) (fun c29 => ?_)
        · refine aw_inc (c := 1) dX3_hasAllAhead_34 (by decide) rfl (by decide) rfl ?_
          refine aw_goto (tgt := 2) dX3_hasAllAhead_37 (by decide) ?_
          exact ih hlt _ (fun t ht => by
              by_cases e : t = j
              · rw [e]; exact clF_iff.mpr (Or.inr (nI_inj (Nat.lt_of_le_of_lt Nat.and_le_left (by omega)) (by omega) (c29 : _ = nI 0)))
              · exact hall t (by omega)) (nI_1 j)
        · refine aw_iconst (v := 0) dX3_hasAllAhead_32 (by decide) ?_
          have hnf : clF q S j = false := by
            cases hb : clF q S j with
            | false => rfl
            | true =>
              rcases clF_iff.mp hb with z | z
              · rw [b2i_ne.mp c13] at z; cases z
              · exact absurd (by rw [z]; rfl) c29
          have hjm : j < q 0 1 := lt_of_bit hS (b2i_ne.mp c13)
          have hna : clB q S = false := by
            cases hb : clB q S with
            | false => rfl
            | true => rw [alB_iff.mp hb j hjm] at hnf; cases hnf
          exact aw_endZ dX3_hasAllAhead_33 rfl (by decide) ⟨by rw [hna]; rfl, rfl⟩
  exact L2 0 (Nat.zero_le _) _ (fun t ht => absurd ht (Nat.not_lt_zero _)) rfl

set_option maxHeartbeats 4000000 in
set_option maxRecDepth 100000 in
theorem kX3_copiesNeeded {q : St} {d : Dt} (hs : KS 0 d q) (ok : QOK q) (h8 : q 0 1 ≤ 8) {S : Nat} (hS : S < 2 ^ q 0 1) : CI mX3_copiesNeeded 4 [.ref 138, .int (nI S)] d (fun x d' => fW 139 d d' ∧ x = nI (ndQ q S)) := by
  show AW mX3_copiesNeeded 4 true (PIx (fun x d' => fW 139 d d' ∧ x = nI (ndQ q S)) nX) 0 0 0 [(0, .ref 138), (1, .int (nI S))] [] (HP d)
  have h12 := ok.2.1
  have hp12 := pow12 h12
  obtain ⟨hN1, hN2⟩ := p2_256 h8
  refine aw_aload_n dX3_copiesNeeded_0 rfl ?_
  refine aw_iload_n dX3_copiesNeeded_1 rfl ?_
  refine aw_cVP dX3_copiesNeeded_2 oX3_isSplit vX3_isSplit rfl lX3_76 (kX3_isSplit hs ok h8 hS) rfl (hp_138 _) rfl rfl rfl (Nat.le_of_ble_eq_true rfl) (by decide) (Nat.le_of_ble_eq_true rfl) ?_
  refine aw_if_eq 10 dX3_copiesNeeded_5 (by decide) (fun c5 => ?_) (fun c5 => ?_)
  · have hna : alB (q 0 1) (seF q S) = true := by
      cases hb : alB (q 0 1) (seF q S) with
      | true => rfl
      | false => rw [hb] at c5; exact absurd c5 (by decide)
    refine aw_aload_n dX3_copiesNeeded_10 rfl ?_
    refine aw_gf dX3_copiesNeeded_11 (hp_138 _) rfl fX3_14 (by decide) rfl ?_
    refine aw_aload_n dX3_copiesNeeded_14 rfl ?_
    refine aw_gf dX3_copiesNeeded_15 (hp_138 _) rfl fX3_36 (by decide) rfl ?_
    refine aw_iload_n dX3_copiesNeeded_18 rfl ?_
    refine aw_cVv dX3_copiesNeeded_19 oX6_measure vX6_measure rfl lX3_79 (kX6_measure hs ok (Or.inr rfl) hS) rfl (hp_139 _) rfl rfl rfl (Nat.le_of_ble_eq_true rfl) (by decide) (Nat.le_of_ble_eq_true rfl) ?_
    rintro d1 ⟨f1, r1⟩
    have hs1 : KS 0 d1 q := KS_W (by decide) hs f1
    refine aw_aload_n dX3_copiesNeeded_22 rfl ?_
    refine aw_gf dX3_copiesNeeded_23 (hp_138 _) rfl fX3_14 (by decide) rfl ?_
    refine aw_aload_n dX3_copiesNeeded_26 rfl ?_
    refine aw_gf dX3_copiesNeeded_27 (hp_138 _) rfl fX3_36 (by decide) rfl ?_
    refine aw_cVP dX3_copiesNeeded_30 oX6_isWithinToolLimit vX6_isWithinToolLimit rfl lX3_83 (kX6_isWithinToolLimit hs1 ok (Or.inr rfl) hS r1) rfl (hp_139 _) rfl rfl rfl (Nat.le_of_ble_eq_true rfl) (by decide) (Nat.le_of_ble_eq_true rfl) ?_
    refine aw_if_ne 38 dX3_copiesNeeded_33 (by decide) (fun c33 => ?_) (fun c33 => ?_)
    · have hse : seB q S = true := by unfold seB; rw [hna, decide_eq_true (b2d_t c33)]; rfl
      refine aw_iconst (v := 1) dX3_copiesNeeded_38 (by decide) ?_
      refine aw_istore_n dX3_copiesNeeded_39 (by decide) rfl ?_
      have L40 : ∀ j, j ≤ 3 → ∀ (v2 : Int32), (∀ c, 1 ≤ c → c ≤ j → fitB q S c = false) → v2 = nI (j + 1) → AW mX3_copiesNeeded 4 true (PIx (fun x d' => fW 139 d d' ∧ x = nI (ndQ q S)) nX) 0 0 40 [(0, .ref 138), (1, .int (nI S)), (2, .int v2)] [] (HP d1) := by
        refine up_ind (fun j hj ih => ?_)
        rintro _ hno rfl
        refine aw_iload_n dX3_copiesNeeded_40 rfl ?_
        refine aw_iconst (v := 4) dX3_copiesNeeded_41 (by decide) ?_
        refine aw_icmp_ge 66 dX3_copiesNeeded_42 (by decide) (fun c42 => ?_) (fun c42 => ?_)
        · have hge : 4 ≤ j + 1 := (le_nI (show (4 : Int32) = nI 4 from rfl) rfl (by omega) (by omega)).mp c42
          refine aw_iload_n dX3_copiesNeeded_66 rfl ?_
          have hc4 : j = 3 := by omega
          subst hc4
          exact aw_endI dX3_copiesNeeded_67 rfl ⟨f1, by rw [ndQ_s hse, if_neg (by rw [hno 1 (by decide) (by decide)]; exact Bool.false_ne_true), if_neg (by rw [hno 2 (by decide) (by decide)]; exact Bool.false_ne_true), if_neg (by rw [hno 3 (by decide) (by decide)]; exact Bool.false_ne_true)]⟩
        · have hlt : j < 3 := by have := mt (le_nI (show (4 : Int32) = nI 4 from rfl) (rfl : nI (j + 1) = nI (j + 1)) (by omega) (by omega)).mpr c42; omega
          refine aw_aload_n dX3_copiesNeeded_45 rfl ?_
          refine aw_gf dX3_copiesNeeded_46 (hp_138 _) rfl fX3_14 (by decide) rfl ?_
          refine aw_aload_n dX3_copiesNeeded_49 rfl ?_
          refine aw_gf dX3_copiesNeeded_50 (hp_138 _) rfl fX3_36 (by decide) rfl ?_
          refine aw_iload_n dX3_copiesNeeded_53 rfl ?_
          refine aw_cVP dX3_copiesNeeded_54 oX6_fits vX6_fits rfl lX3_87 (kX6_fits hs1 ok (Or.inr rfl) hS r1 (c := j + 1) (by omega)) rfl (hp_139 _) rfl rfl rfl (Nat.le_of_ble_eq_true rfl) (by decide) (Nat.le_of_ble_eq_true rfl) ?_
          refine aw_if_ne 66 dX3_copiesNeeded_57 (by decide) (fun c57 => ?_) (fun c57 => ?_)
          · refine aw_iload_n dX3_copiesNeeded_66 rfl ?_
            have hy := b2i_ne.mp c57
            have hnd : ndQ q S = j + 1 := by
              rw [ndQ_s hse]
              rcases (show j = 0 ∨ j = 1 ∨ j = 2 by omega) with rfl | rfl | rfl
              · rw [if_pos hy]
              · rw [if_neg (by rw [hno 1 (by decide) (by decide)]; exact Bool.false_ne_true), if_pos hy]
              · rw [if_neg (by rw [hno 1 (by decide) (by decide)]; exact Bool.false_ne_true), if_neg (by rw [hno 2 (by decide) (by decide)]; exact Bool.false_ne_true), if_pos hy]
            exact aw_endI dX3_copiesNeeded_67 rfl ⟨f1, by rw [hnd]⟩
          · refine aw_inc (c := 1) dX3_copiesNeeded_60 (by decide) rfl (by decide) rfl ?_
            refine aw_goto (tgt := 40) dX3_copiesNeeded_63 (by decide) ?_
            exact ih hlt _ (fun c h1 h2 => by
                by_cases e : c = j + 1
                · rw [e]; exact b2i_eq.mp c57
                · exact hno c h1 (by omega)) (nI_1 (j + 1))
      exact L40 0 (Nat.zero_le _) _ (fun c h1 h2 => by omega) rfl
    · refine aw_iconst (v := 4) dX3_copiesNeeded_36 (by decide) ?_
      exact aw_endI dX3_copiesNeeded_37 rfl ⟨f1, by unfold ndQ; rw [if_neg (by rw [hna]; exact Bool.noConfusion), if_pos (b2d_f c33)]; rfl⟩
  · refine aw_iconst (v := 4) dX3_copiesNeeded_8 (by decide) ?_
    have hna : alB (q 0 1) (seF q S) = false := by
      cases hb : alB (q 0 1) (seF q S) with
      | false => rfl
      | true => rw [hb] at c5; exact absurd rfl c5
    exact aw_endI dX3_copiesNeeded_9 rfl ⟨fW_r _ _, by unfold ndQ; rw [if_pos hna]; rfl⟩

theorem min9 {z a : Nat} (h : z ≠ 0) (hz : z < 2 ^ 30) (ha : a < 2 ^ 30) : (if nI a < nI (z - 1) then nI a else nI (z - 1)) = pv (if a + 1 < z then a + 1 else z) := by
  by_cases e : a + 1 < z
  · rw [if_pos e, if_pos ((lt_nI rfl rfl (by omega) (by omega)).mpr (by omega)), pv_s]
  · rw [if_neg e, if_neg (fun y => e (by have := (lt_nI rfl rfl (by omega) (by omega)).mp y; omega))]
    exact (if_neg h).symm
set_option maxHeartbeats 4000000 in
set_option maxRecDepth 100000 in
theorem kX3_extend {q : St} {d : Dt} (hs : KS 0 d q) (ok : QOK q) (h8 : q 0 1 ≤ 8) {S : Nat} (hS : S < 2 ^ q 0 1) (hPD : PD d q) {s : Nat} (hs7 : s < 8) (hcl : clB q S = true) (hS0 : 0 < S) (hPC : ∀ T, T ≤ S → PC d q s T) : CV mX3_extend 3 [.ref 138, .int (nI S), .int (nI s)] d (fun d' => fP d d' ∧ PD d' q ∧ PC d' q (s + 1) S ∧ (∀ T, T ≠ S → d'.2.1 145 T = d.2.1 145 T ∧ d'.1 146 T = d.1 146 T)) := by
  show AW mX3_extend 3 true (PVx (fun d' => fP d d' ∧ PD d' q ∧ PC d' q (s + 1) S ∧ (∀ T, T ≠ S → d'.2.1 145 T = d.2.1 145 T ∧ d'.1 146 T = d.1 146 T)) nX) 0 0 0 [(0, .ref 138), (1, .int (nI S)), (2, .int (nI s))] [] (HP d)
  have h12 := ok.2.1
  have hp12 := pow12 h12
  obtain ⟨hN1, hN2⟩ := p2_256 h8
  have hS256 : S < 256 := by omega
  have hct := ok.2.2.2.2.1 s hs7
  have hF0 : ∀ k, k &&& S ≠ k → cntF q tl0 (cntQ q tl0 s) s S k = 0 := fun k hk => if_neg (fun y => hk y.1)
  have hF00 : cntF q tl0 (cntQ q tl0 s) s S 0 = cntQ q tl0 s S := by unfold cntF; rw [if_pos ⟨Nat.zero_and _, rg_0 q _, tlB0 q _ _⟩, lacks_z (by omega)]
  have hsum := cntF_lt q tl0 h8 (s := s) (a := 2 ^ q 0 1) (by omega) (Nat.le_refl _) hS
  have hcs := cntQ_lt q tl0 h8 (s := s) (by omega) hS
  have KE : ∀ (d1 : Dt) (c z : Nat), fP d d1 → PD d1 q → (∀ T, T ≠ S → d1.2.1 145 T = d.2.1 145 T ∧ d1.1 146 T = d.1 146 T) → 0 &&& S = 0 → d1.2.1 145 S = lN c → c + sN (0 + 1) (cntF q tl0 (cntQ q tl0 s) s S) = cntQ q tl0 s S + sN (2 ^ q 0 1) (cntF q tl0 (cntQ q tl0 s) s S) → d1.1 146 S = pv z → MinOf (Aw q s S 0) z → AW mX3_extend 3 true (PVx (fun d' => fP d d' ∧ PD d' q ∧ PC d' q (s + 1) S ∧ (∀ T, T ≠ S → d'.2.1 145 T = d.2.1 145 T ∧ d'.1 146 T = d.1 146 T)) nX) 0 0 21 [(0, .ref 138), (1, .int (nI S)), (2, .int (nI s)), (3, .int (nI (q 3 s))), (4, .int (nI 0)), (5, .int (nI (sbN S 0)))] [] (HP d1) := by
    intro d1 c z hf1 hpd hT hpm hc hcn hz hm
    have hc2 : c = cntQ q tl0 (s + 1) S := by
      have e1 : sN (0 + 1) (cntF q tl0 (cntQ q tl0 s) s S) = cntQ q tl0 s S := by simp only [sN]; rw [hF00, Nat.zero_add]
      rw [e1] at hcn
      show c = (if clB q S = true then sN (2 ^ q 0 1) (cntF q tl0 (cntQ q tl0 s) s S) else 0)
      rw [if_pos hcl]
      omega
    have hz2 : z = fstQ q (s + 1) S := MinOf.uniq (hm.congr (fun w => Aw_e h8 hS hcl)) (mnOf_spec _)
    have hsb1 : sbN S 0 = 1 := by unfold sbN; simp only [sN]; rw [if_pos (Nat.zero_and _)]
    rw [hsb1]
    refine aw_iload dX3_extend_21 rfl ?_
    refine aw_iconst (v := 1) dX3_extend_23 (by decide) ?_
    refine aw_icmp_le 138 dX3_extend_24 (by decide) (fun c24 => ?_) (fun c24 => (c24 (by decide)).elim)
    exact aw_endV dX3_extend_138 rfl ⟨hf1, hpd, ⟨by rw [hc, hc2], by rw [hz, hz2]⟩, hT⟩
  have K : ∀ (f part : Nat) (d1 : Dt) (c z : Nat), part ≤ f → fP d d1 → PD d1 q → (∀ T, T ≠ S → d1.2.1 145 T = d.2.1 145 T ∧ d1.1 146 T = d.1 146 T) → part &&& S = part → d1.2.1 145 S = lN c → c + sN (part + 1) (cntF q tl0 (cntQ q tl0 s) s S) = cntQ q tl0 s S + sN (2 ^ q 0 1) (cntF q tl0 (cntQ q tl0 s) s S) → d1.1 146 S = pv z → MinOf (Aw q s S part) z → AW mX3_extend 3 true (PVx (fun d' => fP d d' ∧ PD d' q ∧ PC d' q (s + 1) S ∧ (∀ T, T ≠ S → d'.2.1 145 T = d.2.1 145 T ∧ d'.1 146 T = d.1 146 T)) nX) 0 0 21 [(0, .ref 138), (1, .int (nI S)), (2, .int (nI s)), (3, .int (nI (q 3 s))), (4, .int (nI part)), (5, .int (nI (sbN S part)))] [] (HP d1) := by
    intro f
    induction f with
    | zero =>
      intro part d1 c z hpf hf1 hpd hT hpm hc hcn hz hm
      have e0 : part = 0 := by omega
      subst e0
      exact KE d1 c z hf1 hpd hT hpm hc hcn hz hm
    | succ f ih =>
      intro part d1 c z hpf hf1 hpd hT hpm hc hcn hz hm
      rcases Nat.eq_zero_or_pos part with e0 | h0
      · subst e0
        exact KE d1 c z hf1 hpd hT hpm hc hcn hz hm
      have hpS : part ≤ S := by rw [← hpm]; exact Nat.and_le_right
      have hsb := sbN_s hS256 h0 hpm
      have hsp := sbN_pos S ((part - 1) &&& S)
      have hsbl : sbN S part ≤ 4096 := by have := sN_le (n := part + 1) (b := 1) (f := fun P => if P &&& S = P then 1 else 0) (fun k _ => by split <;> omega); unfold sbN; omega
      have hnx := nx_lt (S := S) h0
      have hFs := sN_nx hS256 h0 hpm hF0
      have hr1 : lacks S part < 2 ^ q 0 1 := lacks_lt hS
      have hrS : lacks S part ≠ S := fun y => by
        obtain ⟨i, hi⟩ := Nat.exists_testBit_of_ne_zero (show part ≠ 0 by omega)
        have h9 := lacks_bit (a := S) (s := part) (i := i) (by omega)
        rw [y, sub_bit hpm hi, hi] at h9
        cases h9
      have hrl : lacks S part ≤ S := Nat.and_le_left
      have hpt := hPC (lacks S part) hrl
      have hTr := hT (lacks S part) hrS
      have hnp := (hpd.2 part (by omega))
      have hcr := cntQ_lt q tl0 h8 (s := s) (by omega) hr1
      have hndl := ndQ_le q part
      have hKN : ∀ (d2 : Dt) (c2 z2 : Nat), fP d d2 → PD d2 q → (∀ T, T ≠ S → d2.2.1 145 T = d.2.1 145 T ∧ d2.1 146 T = d.1 146 T) → d2.2.1 145 S = lN c2 → c2 = c + cntF q tl0 (cntQ q tl0 s) s S part → d2.1 146 S = pv z2 → MinOf (Aw q s S ((part - 1) &&& S)) z2 → AW mX3_extend 3 true (PVx (fun d' => fP d d' ∧ PD d' q ∧ PC d' q (s + 1) S ∧ (∀ T, T ≠ S → d'.2.1 145 T = d.2.1 145 T ∧ d'.1 146 T = d.1 146 T)) nX) 0 0 124 [(0, .ref 138), (1, .int (nI S)), (2, .int (nI s)), (3, .int (nI (q 3 s))), (4, .int (nI part)), (5, .int (nI (sbN S part)))] [] (HP d2) := by
        intro d2 c2 z2 g1 g2 g3 g4 g5 g6 g7
        refine aw_iload dX3_extend_124 rfl ?_
        refine aw_iconst (v := 1) dX3_extend_126 (by decide) ?_
        refine aw_isub dX3_extend_127 ?_
        refine aw_iload_n dX3_extend_128 rfl ?_
        skip
        refine aw_iand dX3_extend_129 ?_
        rw [show (1 : Int32) = nI 1 from rfl, pk_sub (by omega), nI_and]
        refine aw_istore dX3_extend_130 (by decide) rfl ?_
        refine aw_inc (c := (-1)) dX3_extend_132 (by decide) rfl (by decide) rfl ?_
        rw [tv_d, show nI (sbN S part) - 1 = nI (sbN S ((part - 1) &&& S)) from by rw [tv_s (by omega), hsb, Nat.add_sub_cancel]]
        refine aw_goto (tgt := 21) dX3_extend_135 (by decide) ?_
        exact ih ((part - 1) &&& S) d2 c2 z2 (by omega) g1 g2 g3 nx_sub g4 (by omega) g6 g7
      refine aw_iload dX3_extend_21 rfl ?_
      refine aw_iconst (v := 1) dX3_extend_23 (by decide) ?_
      refine aw_icmp_le 138 dX3_extend_24 (by decide) (fun c24 => (show False from absurd ((le_nI rfl (show (1 : Int32) = nI 1 from rfl) (by omega) (by omega)).mp c24) (by omega)).elim) (fun c24 => ?_)
      skip
      refine aw_iload_n dX3_extend_27 rfl ?_
      refine aw_iload dX3_extend_28 rfl ?_
      refine aw_iconst (v := (-1)) dX3_extend_30 (by decide) ?_
      refine aw_ixor dX3_extend_31 ?_
      refine aw_iand dX3_extend_32 ?_
      rw [nI_lacks (by omega) (by omega)]
      refine aw_istore dX3_extend_33 (by decide) rfl ?_
      refine aw_aload_n dX3_extend_35 rfl ?_
      refine aw_gf dX3_extend_36 (hp_138 _) rfl fX3_18 (by decide) rfl ?_
      refine aw_iload dX3_extend_39 rfl ?_
      refine aw_ialdN dX3_extend_41 (hp_143 _) rfl (part) (by first | rfl | (simp only [li_0, li_1, li_2, li_3, li_4, li_5, li_7, li_8, li_9, li_11, li_12, li_16, li_17, li_31, li_32, li_60, li_77, li_80, li_89, li_99, li_101, li_112, li_113, li_256, li_999, li_1023, nI_add, pk_mul])) (by omega) (by decide) ?_
      refine aw_iload_n dX3_extend_42 rfl ?_
      rw [hnp.1]
      refine aw_icmp_gt 124 dX3_extend_43 (by decide) (fun c43 => ?_) (fun c43 => ?_)
      · have hnr : ¬ rgB q part (q 3 s) = true := fun y => by
          have := (nd_iff hct.1 hct.2).mpr y
          have := (lt_nI rfl rfl (by omega) (by omega)).mp c43
          omega
        have hF : cntF q tl0 (cntQ q tl0 s) s S part = 0 := by
          unfold cntF
          rw [if_neg (fun y => hnr y.2.1)]
        exact aw_pick [0, 1, 2, 3, 4, 5] (hKN d1 c z hf1 hpd hT hc (by omega) hz (hm.congr (fun w => by
          rw [Aw_s h8 hS h0 hpm]
          exact ⟨Or.inl, fun y => y.elim id (fun y => absurd y.1 hnr)⟩)))
      · refine aw_aload_n dX3_extend_46 rfl ?_
        refine aw_gf dX3_extend_47 (hp_138 _) rfl fX3_26 (by decide) rfl ?_
        refine aw_iload dX3_extend_50 rfl ?_
        refine aw_laldN dX3_extend_52 (hp_145 _) rfl (lacks S part) (by first | rfl | (simp only [li_0, li_1, li_2, li_3, li_4, li_5, li_7, li_8, li_9, li_11, li_12, li_16, li_17, li_31, li_32, li_60, li_77, li_80, li_89, li_99, li_101, li_112, li_113, li_256, li_999, li_1023, nI_add, pk_mul])) (by omega) (by decide) ?_
        refine aw_lconst (v := 0) dX3_extend_53 (by decide) ?_
        refine aw_lcmp dX3_extend_54 ?_
        refine aw_if_le 124 dX3_extend_55 (by decide) (fun c55 => ?_) (fun c55 => ?_)
        · rw [lg_cmp_le, hTr.1, hpt.1, lN_pos (by omega)] at c55
          have hF : cntF q tl0 (cntQ q tl0 s) s S part = 0 := by
            unfold cntF
            split
            · exact c55
            · rfl
          exact aw_pick [0, 1, 2, 3, 4, 5] (hKN d1 c z hf1 hpd hT hc (by omega) hz (hm.congr (fun w => by
            rw [Aw_s h8 hS h0 hpm]
            exact ⟨Or.inl, fun y => y.elim id (fun y => by
              obtain ⟨_, w1, y1, _⟩ := y
              have f0 := fst_cnt (by omega) hr1 c55
              rcases mnOf_spec (Wc q s (lacks S part)) with ⟨_, n0⟩ | ⟨v, hv, _⟩
              · exact absurd y1 (n0 w1)
              · exact absurd (show fstQ q s (lacks S part) = v + 1 from hv) (by omega))⟩)))
        · have hrg : rgB q part (q 3 s) = true := (nd_iff hct.1 hct.2).mp (by have := mt (lt_nI (rfl : nI (q 3 s) = nI (q 3 s)) (rfl : nI (ndQ q part) = nI (ndQ q part)) (by omega) (by omega)).mpr c43; omega)
          rw [lg_cmp_le, hTr.1, hpt.1, lN_pos (by omega)] at c55
          have hFp : cntF q tl0 (cntQ q tl0 s) s S part = cntQ q tl0 s (lacks S part) := by unfold cntF; rw [if_pos ⟨hpm, hrg, tlB0 q _ _⟩]
          have hfr := (cnt_fst (by omega) hr1).mp (show 0 < cntQ q tl0 s (lacks S part) by omega)
          obtain ⟨w1, hw1⟩ : ∃ w, fstQ q s (lacks S part) = w + 1 := ⟨fstQ q s (lacks S part) - 1, by omega⟩
          have hwl := fst_lt h8 (n := s) (by omega) hr1
          have hdl := dig_lt part
          have hsd : s * dig part ≤ 7 * 2396745 := Nat.mul_le_mul (by omega) hdl
          have hzl : z ≤ 33554432 := by
            rcases hm with ⟨e, _⟩ | ⟨v, hv, h1, h2⟩
            · omega
            · rcases h1 with h1 | ⟨P, w', a1, a2, a3, a4, a5⟩
              · have := Wc_lt h8 (by omega) hS h1
                omega
              · have := Wc_lt h8 (by omega) (lacks_lt hS) a4
                have := dig_lt P
                have : s * dig P ≤ 7 * 2396745 := Nat.mul_le_mul (by omega) this
                omega
          have hmore := hm.more (B := fun x => ∃ y, Wc q s (lacks S part) y ∧ x = y + s * dig part) (w := w1 + s * dig part) (MinOf.shift (c := s * dig part) (by have := mnOf_spec (Wc q s (lacks S part)); rw [show mnOf (Wc q s (lacks S part)) = w1 + 1 from hw1] at this; exact this))
          have hmin := hmore.congr (B := Aw q s S ((part - 1) &&& S)) (fun w => by
            rw [Aw_s h8 hS h0 hpm]
            exact ⟨fun y => y.elim Or.inl (fun y => Or.inr ⟨hrg, y⟩), fun y => y.elim Or.inl (fun y => Or.inr y.2)⟩)
          refine aw_aload_n dX3_extend_58 rfl ?_
          refine aw_gf dX3_extend_59 (hp_138 _) rfl fX3_26 (by decide) rfl ?_
          refine aw_iload_n dX3_extend_62 rfl ?_
          refine aw_dup2 dX3_extend_63 rfl rfl ?_
          refine aw_laldN dX3_extend_64 (hp_145 _) rfl (S) (by first | rfl | (simp only [li_0, li_1, li_2, li_3, li_4, li_5, li_7, li_8, li_9, li_11, li_12, li_16, li_17, li_31, li_32, li_60, li_77, li_80, li_89, li_99, li_101, li_112, li_113, li_256, li_999, li_1023, nI_add, pk_mul])) (by omega) (by decide) ?_
          refine aw_aload_n dX3_extend_65 rfl ?_
          refine aw_gf dX3_extend_66 (hp_138 _) rfl fX3_26 (by decide) rfl ?_
          refine aw_iload dX3_extend_69 rfl ?_
          refine aw_laldN dX3_extend_71 (hp_145 _) rfl (lacks S part) (by first | rfl | (simp only [li_0, li_1, li_2, li_3, li_4, li_5, li_7, li_8, li_9, li_11, li_12, li_16, li_17, li_31, li_32, li_60, li_77, li_80, li_89, li_99, li_101, li_112, li_113, li_256, li_999, li_1023, nI_add, pk_mul])) (by omega) (by decide) ?_
          refine aw_ladd dX3_extend_72 ?_
          refine aw_lastN dX3_extend_73 hp_145 (S) rfl (by omega) (by decide)  ?_
          have hc3 : (dL d1 145 (vp_updL (d1.2.1 145) S (d1.2.1 145 S + d1.2.1 145 (lacks S part)))).2.1 145 S = lN (c + cntQ q tl0 s (lacks S part)) := by rw [dL_s, upL, if_pos rfl, hc, hTr.1, hpt.1, lN_add]
          have hf2 : fP d (dL d1 145 (vp_updL (d1.2.1 145) S (d1.2.1 145 S + d1.2.1 145 (lacks S part)))) := fP_dL hf1 _
          have hpd2 : PD (dL d1 145 (vp_updL (d1.2.1 145) S (d1.2.1 145 S + d1.2.1 145 (lacks S part)))) q := PD_k hpd rfl rfl rfl rfl
          have hT2 : ∀ T, T ≠ S → (dL d1 145 (vp_updL (d1.2.1 145) S (d1.2.1 145 S + d1.2.1 145 (lacks S part)))).2.1 145 T = d.2.1 145 T ∧ (dL d1 145 (vp_updL (d1.2.1 145) S (d1.2.1 145 S + d1.2.1 145 (lacks S part)))).1 146 T = d.1 146 T := fun T hTS => ⟨by rw [dL_s, upL, if_neg hTS]; exact (hT T hTS).1, (hT T hTS).2⟩
          have hz3 : (dL d1 145 (vp_updL (d1.2.1 145) S (d1.2.1 145 S + d1.2.1 145 (lacks S part)))).1 146 S = pv z := hz
          have hr3 : (dL d1 145 (vp_updL (d1.2.1 145) S (d1.2.1 145 S + d1.2.1 145 (lacks S part)))).1 146 (lacks S part) = nI w1 := by show d1.1 146 (lacks S part) = _; rw [hTr.2, hpt.2, hw1, pv_s]
          have hd3 : (dL d1 145 (vp_updL (d1.2.1 145) S (d1.2.1 145 S + d1.2.1 145 (lacks S part)))).1 147 part = nI (dig part) := hnp.2.2
          generalize dL d1 145 (vp_updL (d1.2.1 145) S (d1.2.1 145 S + d1.2.1 145 (lacks S part))) = d3 at hc3 hf2 hpd2 hT2 hz3 hr3 hd3 ⊢
          refine aw_aload_n dX3_extend_74 rfl ?_
          refine aw_gf dX3_extend_75 (hp_138 _) rfl fX3_30 (by decide) rfl ?_
          refine aw_iload dX3_extend_78 rfl ?_
          refine aw_ialdN dX3_extend_80 (hp_146 _) rfl (lacks S part) (by first | rfl | (simp only [li_0, li_1, li_2, li_3, li_4, li_5, li_7, li_8, li_9, li_11, li_12, li_16, li_17, li_31, li_32, li_60, li_77, li_80, li_89, li_99, li_101, li_112, li_113, li_256, li_999, li_1023, nI_add, pk_mul])) (by omega) (by decide) ?_
          refine aw_iload_n dX3_extend_81 rfl ?_
          refine aw_aload_n dX3_extend_82 rfl ?_
          refine aw_gf dX3_extend_83 (hp_138 _) rfl fX3_33 (by decide) rfl ?_
          refine aw_iload dX3_extend_86 rfl ?_
          refine aw_ialdN dX3_extend_88 (hp_147 _) rfl (part) (by first | rfl | (simp only [li_0, li_1, li_2, li_3, li_4, li_5, li_7, li_8, li_9, li_11, li_12, li_16, li_17, li_31, li_32, li_60, li_77, li_80, li_89, li_99, li_101, li_112, li_113, li_256, li_999, li_1023, nI_add, pk_mul])) (by omega) (by decide) ?_
          refine aw_imul dX3_extend_89 ?_
          refine aw_iadd dX3_extend_90 ?_
          rw [hr3, hd3, pk_mul, nI_add]
          refine aw_istore dX3_extend_91 (by decide) rfl ?_
          refine aw_aload_n dX3_extend_93 rfl ?_
          refine aw_gf dX3_extend_94 (hp_138 _) rfl fX3_30 (by decide) rfl ?_
          refine aw_iload_n dX3_extend_97 rfl ?_
          refine aw_aload_n dX3_extend_98 rfl ?_
          refine aw_gf dX3_extend_99 (hp_138 _) rfl fX3_30 (by decide) rfl ?_
          refine aw_iload_n dX3_extend_102 rfl ?_
          refine aw_ialdN dX3_extend_103 (hp_146 _) rfl (S) (by first | rfl | (simp only [li_0, li_1, li_2, li_3, li_4, li_5, li_7, li_8, li_9, li_11, li_12, li_16, li_17, li_31, li_32, li_60, li_77, li_80, li_89, li_99, li_101, li_112, li_113, li_256, li_999, li_1023, nI_add, pk_mul])) (by omega) (by decide) ?_
          rw [hz3]
          refine aw_if_ge 112 dX3_extend_104 (by decide) (fun c104 => ?_) (fun c104 => ?_)
          · refine aw_aload_n dX3_extend_112 rfl ?_
            refine aw_gf dX3_extend_113 (hp_138 _) rfl fX3_30 (by decide) rfl ?_
            refine aw_iload_n dX3_extend_116 rfl ?_
            refine aw_ialdN dX3_extend_117 (hp_146 _) rfl (S) (by first | rfl | (simp only [li_0, li_1, li_2, li_3, li_4, li_5, li_7, li_8, li_9, li_11, li_12, li_16, li_17, li_31, li_32, li_60, li_77, li_80, li_89, li_99, li_101, li_112, li_113, li_256, li_999, li_1023, nI_add, pk_mul])) (by omega) (by decide) ?_
            refine aw_iload dX3_extend_118 rfl ?_
            rw [hz3]
            have hz0 : z ≠ 0 := fun y => by rw [y] at c104; exact absurd c104 (by decide)
            rw [show pv z = nI (z - 1) from if_neg hz0]
            refine aw_mmin dX3_extend_120 lX3_60 (by decide) (Nat.le_of_ble_eq_true rfl) (v := pv (if w1 + s * dig part + 1 < z then w1 + s * dig part + 1 else z)) (min9 hz0 (by omega) (by omega)) ?_
            have hval : pv (if w1 + s * dig part + 1 < z then w1 + s * dig part + 1 else z) = pv (if z = 0 then w1 + s * dig part + 1 else if w1 + s * dig part + 1 < z then w1 + s * dig part + 1 else z) := by rw [if_neg hz0]
            refine aw_iastN dX3_extend_123 hp_146 (S) rfl (by omega) (by decide)  ?_
            refine aw_pick [0, 1, 2, 3, 4, 5] (hKN _ (c + cntQ q tl0 s (lacks S part)) (if z = 0 then w1 + s * dig part + 1 else if w1 + s * dig part + 1 < z then w1 + s * dig part + 1 else z) (fP_dI hf2 (by decide) _) (PD_k hpd2 (dI_n _ _ (by decide)) (dI_n _ _ (by decide)) (dI_n _ _ (by decide)) (dI_n _ _ (by decide))) (fun T hTS => ⟨(hT2 T hTS).1, by rw [dI_s]; simp only [upd]; rw [if_neg hTS]; exact (hT2 T hTS).2⟩) hc3 (by rw [hFp]) (by rw [dI_s]; simp only [upd, if_true]; exact hval) hmin)
          · have hz0 : z = 0 := by
              rcases Nat.eq_zero_or_pos z with y | y
              · exact y
              · rw [show pv z = nI (z - 1) from if_neg (by omega)] at c104; exact absurd (nI_pos' (by omega)) c104
            have hval : nI (w1 + s * dig part) = pv (if z = 0 then w1 + s * dig part + 1 else if w1 + s * dig part + 1 < z then w1 + s * dig part + 1 else z) := by rw [if_pos hz0, pv_s]
            refine aw_iload dX3_extend_107 rfl ?_
            refine aw_goto (tgt := 123) dX3_extend_109 (by decide) ?_
            refine aw_iastN dX3_extend_123 hp_146 (S) rfl (by omega) (by decide)  ?_
            refine aw_pick [0, 1, 2, 3, 4, 5] (hKN _ (c + cntQ q tl0 s (lacks S part)) (if z = 0 then w1 + s * dig part + 1 else if w1 + s * dig part + 1 < z then w1 + s * dig part + 1 else z) (fP_dI hf2 (by decide) _) (PD_k hpd2 (dI_n _ _ (by decide)) (dI_n _ _ (by decide)) (dI_n _ _ (by decide)) (dI_n _ _ (by decide))) (fun T hTS => ⟨(hT2 T hTS).1, by rw [dI_s]; simp only [upd]; rw [if_neg hTS]; exact (hT2 T hTS).2⟩) hc3 (by rw [hFp]) (by rw [dI_s]; simp only [upd, if_true]; exact hval) hmin)
  refine aw_aload_n dX3_extend_0 rfl ?_
  refine aw_gf dX3_extend_1 (hp_138 _) rfl fX3_36 (by decide) rfl ?_
  refine aw_gf dX3_extend_4 (hp_0 _) rfl fX3_108 (by decide) rfl ?_
  refine aw_iload_n dX3_extend_7 rfl ?_
  refine aw_ialdN dX3_extend_8 (hp_3 _) rfl (s) (by first | rfl | (simp only [li_0, li_1, li_2, li_3, li_4, li_5, li_7, li_8, li_9, li_11, li_12, li_16, li_17, li_31, li_32, li_60, li_77, li_80, li_89, li_99, li_101, li_112, li_113, li_256, li_999, li_1023, nI_add, pk_mul])) (by omega) (by decide) ?_
  rw [show d.1 3 (s) = nI (q 3 (s)) from hs 3 (s) (by decide) (show (s) < 8 by omega)]
  refine aw_istore_n dX3_extend_9 (by decide) rfl ?_
  refine aw_iload_n dX3_extend_10 rfl ?_
  refine aw_istore dX3_extend_11 (by decide) rfl ?_
  refine aw_iconst (v := 1) dX3_extend_13 (by decide) ?_
  refine aw_iload_n dX3_extend_14 rfl ?_
  refine aw_cSP dX3_extend_15 oJ6_bitCount_0f7a4 sJ6_bitCount_0f7a4 rfl lX3_111 (kJ6_bitCount_0f7a4 (s := S) (by omega)) rfl rfl (Nat.le_of_ble_eq_true rfl) (by decide) (Nat.le_of_ble_eq_true rfl) ?_
  refine aw_ishl dX3_extend_18 ?_
  rw [nI_sh1 (pc S) (by have := pc_12 (a := S) (by omega); have := pcx_le S; omega), ← sbN_a S hS256]
  refine aw_istore dX3_extend_19 (by decide) rfl ?_
  refine K S S d (cntQ q tl0 s S) (fstQ q s S) (Nat.le_refl _) (fP_r d) hPD (fun T _ => ⟨rfl, rfl⟩) (Nat.and_self _) (hPC S (Nat.le_refl _)).1 ?_ (hPC S (Nat.le_refl _)).2 ((mnOf_spec (Wc q s S)).congr (fun w => (Aw_0 hS).symm))
  rw [sN_cut (n := S + 1) (m := 2 ^ q 0 1) (by omega) (fun k h1 h2 => hF0 k (fun y => by have : k ≤ S := (by rw [← y]; exact Nat.and_le_right); omega))]
