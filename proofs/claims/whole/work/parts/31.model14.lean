set_option maxHeartbeats 4000000 in
set_option maxRecDepth 100000 in
theorem kX8_isSet {q : St} {d : Dt} (hr : RR (d.1 161) q) (ok : QOK q) {S : Nat} (hS : S < 2 ^ q 0 1) : CP mX8_isSet 3 [.ref 160, .int (nI S)] d (b2i (seB q S)) := by
  show AW mX8_isSet 3 true (PIx (fun y d' => y = b2i (seB q S) ∧ d' = d) nX) 0 0 0 [(0, .ref 160), (1, .int (nI S))] [] (HP d)
  obtain ⟨⟨okM1, okM2⟩, okn, -⟩ := id ok
  have hp12 := pow12 okn
  have hpc := pc_le32 (tls q S)
  have h22 := ok.2.2.2.1
  have htl := tls_lt ok S
  refine aw_join (P := fun v => v = b2i (decide (pc (tls q S) ≤ q 2 2))) 23 (fun v hv23 => ?_) (fun kJ23 => ?_)
  · subst hv23
    refine aw_istore_n dX8_isSet_23 (by decide) rfl ?_
    refine aw_iconst (v := 0) dX8_isSet_24 (by decide) ?_
    refine aw_istore_n dX8_isSet_25 (by decide) rfl ?_
    have L26 : ∀ j, j ≤ q 0 1 → ∀ (v1 v2 : Int32), v1 = b2i (decide (pc (tls q S) ≤ q 2 2) && alB j (seF q S)) → v2 = nI j → AW mX8_isSet 3 true (PIx (fun y d' => y = b2i (seB q S) ∧ d' = d) nX) 0 0 26 [(0, .ref 160), (1, .int (nI S)), (2, .int v1), (3, .int v2)] [] (HP d) := by
      refine up_ind (fun j hj ih => ?_)
      rintro _ _ rfl rfl
      refine aw_iload_n dX8_isSet_26 rfl ?_
      refine aw_aload_n dX8_isSet_27 rfl ?_
      refine aw_gf dX8_isSet_28 (hp_160 _) rfl fX8_7 (by decide) rfl ?_
      refine aw_bipush (v := 16) dX8_isSet_31 (by decide) ?_
      refine aw_ialdN dX8_isSet_33 (hp_161 _) rfl (16) (by first | rfl | (simp only [li_0, li_1, li_2, li_3, li_4, li_5, li_7, li_8, li_9, li_11, li_12, li_16, li_17, li_31, li_32, li_60, li_77, li_80, li_89, li_99, li_101, li_112, li_113, li_256, li_999, li_1023, nI_add, pk_mul])) (by omega) (by decide) ?_
      refine aw_icmp_ge 91 dX8_isSet_34 (by decide) (fun c34 => ?_) (fun c34 => ?_)
      · have hge : q 0 1 ≤ j := (le_nI hr.1.2 rfl (by omega) (by omega)).mp c34
        have hj2 : j = q 0 1 := by omega
        subst hj2
        refine aw_iload_n dX8_isSet_91 rfl ?_
        exact aw_endZ dX8_isSet_92 rfl (by first | exact b2i_nar _ | decide) ⟨rfl, rfl⟩
      · have hlt : j < q 0 1 := Nat.lt_of_not_le (fun z => c34 ((le_nI hr.1.2 rfl (by omega) (by omega)).mpr z))
        have hq := ok.2.2.2.2.2.2.2.2.1 j (by omega)
        have ha1 : q 10 j &&& S < 4096 := Nat.lt_of_le_of_lt Nat.and_le_left (by omega)
        have ha2 : lacks (q 11 j) S < 4096 := lacks_lt (by omega)
        refine aw_join (P := fun v => v = b2i ((decide (pc (tls q S) ≤ q 2 2) && alB j (seF q S)) && seF q S j)) 84 (fun v hv84 => ?_) (fun kJ84 => ?_)
        · subst hv84
          refine aw_istore_n dX8_isSet_84 (by decide) rfl ?_
          refine aw_inc (c := 1) dX8_isSet_85 (by decide) rfl (by decide) rfl ?_
          refine aw_goto (tgt := 26) dX8_isSet_88 (by decide) ?_
          exact ih hlt _ _ (by rw [Bool.and_assoc]; rfl) (nI_1 j)
        · refine aw_iload_n dX8_isSet_37 rfl ?_
          refine aw_if_eq 83 dX8_isSet_38 (by decide) (fun c38 => ?_) (fun c38 => ?_)
          · refine aw_iconst (v := 0) dX8_isSet_83 (by decide) ?_
            exact kJ84 _ (by rw [b2i_eq.mp c38]; rfl)
          · refine aw_iload_n dX8_isSet_41 rfl ?_
            refine aw_iload_n dX8_isSet_42 rfl ?_
            refine aw_cSP dX8_isSet_43 oX8_has sX8_has rfl lX8_127 kX8_has rfl rfl (Nat.le_of_ble_eq_true rfl) (by decide) (Nat.le_of_ble_eq_true rfl) ?_
            refine aw_if_eq 79 dX8_isSet_46 (by decide) (fun c46 => ?_) (fun c46 => ?_)
            · refine aw_iconst (v := 1) dX8_isSet_79 (by decide) ?_
              refine aw_goto (tgt := 84) dX8_isSet_80 (by decide) ?_
              exact kJ84 _ (by rw [hb_nI (by omega) (by omega)] at c46; rw [seF_iff.mpr (Or.inl (b2i_eq.mp c46)), Bool.and_true, b2i_ne.mp c38]; rfl)
            · refine aw_aload_n dX8_isSet_49 rfl ?_
              refine aw_gf dX8_isSet_50 (hp_160 _) rfl fX8_7 (by decide) rfl ?_
              refine aw_bipush (v := 89) dX8_isSet_53 (by decide) ?_
              refine aw_iload_n dX8_isSet_55 rfl ?_
              refine aw_iadd dX8_isSet_56 ?_
              refine aw_ialdN dX8_isSet_57 (hp_161 _) rfl (89 + j) (by first | rfl | (simp only [li_0, li_1, li_2, li_3, li_4, li_5, li_7, li_8, li_9, li_11, li_12, li_16, li_17, li_31, li_32, li_60, li_77, li_80, li_89, li_99, li_101, li_112, li_113, li_256, li_999, li_1023, nI_add, pk_mul])) (by omega) (by decide) ?_
              rw [(hr.2.2.2.2.2 j (by omega)).2.1]
              refine aw_iload_n dX8_isSet_58 rfl ?_
              refine aw_iand dX8_isSet_59 ?_
              rw [nI_and]
              refine aw_if_ne 83 dX8_isSet_60 (by decide) (fun c60 => ?_) (fun c60 => ?_)
              · refine aw_iconst (v := 0) dX8_isSet_83 (by decide) ?_
                exact kJ84 _ (by rw [hb_nI (by omega) (by omega)] at c46; rw [bF (by rw [Bool.and_eq_false_iff]; right; cases hh : seF q S j with | false => rfl | true => rcases seF_iff.mp hh with z | z; rw [b2i_ne.mp c46] at z; cases z; exact absurd (by rw [z.1]; rfl) c60)])
              · refine aw_aload_n dX8_isSet_63 rfl ?_
                refine aw_gf dX8_isSet_64 (hp_160 _) rfl fX8_7 (by decide) rfl ?_
                refine aw_bipush (v := 101) dX8_isSet_67 (by decide) ?_
                refine aw_iload_n dX8_isSet_69 rfl ?_
                refine aw_iadd dX8_isSet_70 ?_
                refine aw_ialdN dX8_isSet_71 (hp_161 _) rfl (101 + j) (by first | rfl | (simp only [li_0, li_1, li_2, li_3, li_4, li_5, li_7, li_8, li_9, li_11, li_12, li_16, li_17, li_31, li_32, li_60, li_77, li_80, li_89, li_99, li_101, li_112, li_113, li_256, li_999, li_1023, nI_add, pk_mul])) (by omega) (by decide) ?_
                rw [(hr.2.2.2.2.2 j (by omega)).2.2]
                refine aw_iload_n dX8_isSet_72 rfl ?_
                refine aw_iconst (v := (-1)) dX8_isSet_73 (by decide) ?_
                refine aw_ixor dX8_isSet_74 ?_
                refine aw_iand dX8_isSet_75 ?_
                rw [nI_lacks (by omega) (by omega)]
                refine aw_if_ne 83 dX8_isSet_76 (by decide) (fun c76 => ?_) (fun c76 => ?_)
                · refine aw_iconst (v := 0) dX8_isSet_83 (by decide) ?_
                  exact kJ84 _ (by rw [hb_nI (by omega) (by omega)] at c46; rw [bF (by rw [Bool.and_eq_false_iff]; right; cases hh : seF q S j with | false => rfl | true => rcases seF_iff.mp hh with z | z; rw [b2i_ne.mp c46] at z; cases z; exact absurd (by rw [z.2]; rfl) c76)])
                · refine aw_iconst (v := 1) dX8_isSet_79 (by decide) ?_
                  refine aw_goto (tgt := 84) dX8_isSet_80 (by decide) ?_
                  exact kJ84 _ (by rw [seF_iff.mpr (Or.inr ⟨nI_inj (by omega) (by omega) (c60 : _ = nI 0), nI_inj (by omega) (by omega) (c76 : _ = nI 0)⟩), Bool.and_true, b2i_ne.mp c38]; rfl)
    exact L26 0 (Nat.zero_le _) _ _ (by show _ = b2i (_ && true); rw [Bool.and_true]) rfl
  · refine aw_aload_n dX8_isSet_0 rfl ?_
    refine aw_iload_n dX8_isSet_1 rfl ?_
    refine aw_cVP dX8_isSet_2 oX8_toolsOf vX8_toolsOf rfl lX8_181 (kX8_toolsOf hr ok hS) rfl (hp_160 _) rfl rfl rfl (Nat.le_of_ble_eq_true rfl) (by decide) (Nat.le_of_ble_eq_true rfl) ?_
    refine aw_cSP dX8_isSet_5 oX8_many sX8_many rfl lX8_133 (kX8_many (by omega)) rfl rfl (Nat.le_of_ble_eq_true rfl) (by decide) (Nat.le_of_ble_eq_true rfl) ?_
    refine aw_aload_n dX8_isSet_8 rfl ?_
    refine aw_gf dX8_isSet_9 (hp_160 _) rfl fX8_7 (by decide) rfl ?_
    refine aw_bipush (v := 6) dX8_isSet_12 (by decide) ?_
    refine aw_ialdN dX8_isSet_14 (hp_161 _) rfl (6) (by first | rfl | (simp only [li_0, li_1, li_2, li_3, li_4, li_5, li_7, li_8, li_9, li_11, li_12, li_16, li_17, li_31, li_32, li_60, li_77, li_80, li_89, li_99, li_101, li_112, li_113, li_256, li_999, li_1023, nI_add, pk_mul])) (by omega) (by decide) ?_
    refine aw_icmp_gt 22 dX8_isSet_15 (by decide) (fun c15 => ?_) (fun c15 => ?_)
    · refine aw_iconst (v := 0) dX8_isSet_22 (by decide) ?_
      exact kJ23 _ (by rw [show d.1 161 6 = nI (q 2 2) from hr.2.2.1 2 (by decide), lt_nI rfl rfl (by omega) (by omega)] at c15; rw [b2i_f (by omega)])
    · refine aw_iconst (v := 1) dX8_isSet_18 (by decide) ?_
      refine aw_goto (tgt := 23) dX8_isSet_19 (by decide) ?_
      exact kJ23 _ (by rw [show d.1 161 6 = nI (q 2 2) from hr.2.2.1 2 (by decide), lt_nI rfl rfl (by omega) (by omega)] at c15; rw [b2i_t (by omega)])

set_option maxHeartbeats 4000000 in
set_option maxRecDepth 100000 in
theorem kX8_tellsNothing {d : Dt} : CV mX8_tellsNothing 1 [.ref 160] d (fun d' => ∃ f, d' = dI d 171 f ∧ ∀ t, t < 8 → f t = -1) := by
  show AW mX8_tellsNothing 1 true (PVx (fun d' => ∃ f, d' = dI d 171 f ∧ ∀ t, t < 8 → f t = -1) nX) 0 0 0 [(0, .ref 160)] [] (HP d)
  have K0 : dI d 171 (d.1 171) = d := dI_self d 171
  refine aw_iconst (v := 0) dX8_tellsNothing_0 (by decide) ?_
  refine aw_istore_n dX8_tellsNothing_1 (by decide) rfl ?_
  have L2 : ∀ j, j ≤ 8 → ∀ (f : Nat → Int32) (v1 : Int32), (∀ t, t < j → f t = -1) → v1 = nI j → AW mX8_tellsNothing 1 true (PVx (fun d' => ∃ f, d' = dI d 171 f ∧ ∀ t, t < 8 → f t = -1) nX) 0 0 2 [(0, .ref 160), (1, .int v1)] [] (HP (dI d 171 f)) := by
    refine up_ind (fun j hj ih => ?_)
    rintro f _ hf rfl
    refine aw_iload_n dX8_tellsNothing_2 rfl ?_
    refine aw_bipush (v := 8) dX8_tellsNothing_3 (by decide) ?_
    refine aw_icmp_ge 21 dX8_tellsNothing_5 (by decide) (fun c5 => ?_) (fun c5 => ?_)
    · have hge : 8 ≤ j := (le_nI (show (8 : Int32) = nI 8 from rfl) rfl (by omega) (by omega)).mp c5
      have hj2 : j = 8 := by omega
      subst hj2
      exact aw_endV dX8_tellsNothing_21 rfl ⟨f, rfl, hf⟩
    · have hlt : j < 8 := Nat.lt_of_not_le (fun z => c5 ((le_nI (show (8 : Int32) = nI 8 from rfl) rfl (by omega) (by omega)).mpr z))
      refine aw_aload_n dX8_tellsNothing_8 rfl ?_
      refine aw_gf dX8_tellsNothing_9 (hp_160 _) rfl fX8_42 (by decide) rfl ?_
      refine aw_iload_n dX8_tellsNothing_12 rfl ?_
      refine aw_iconst (v := (-1)) dX8_tellsNothing_13 (by decide) ?_
      refine aw_iastN dX8_tellsNothing_14 hp_171 (j) (by first | rfl | (simp only [li_0, li_1, li_2, li_3, li_4, li_5, li_7, li_8, li_9, li_11, li_12, li_16, li_17, li_31, li_32, li_60, li_77, li_80, li_89, li_99, li_101, li_112, li_113, li_256, li_999, li_1023, nI_add, pk_mul])) (by omega) (by decide)  ?_
      refine aw_inc (c := 1) dX8_tellsNothing_15 (by decide) rfl (by decide) rfl ?_
      refine aw_goto (tgt := 2) dX8_tellsNothing_18 (by decide) ?_
      rw [dI_dI, dI_s]
      exact ih hlt _ _ (fun t ht => by simp only [upd]; split; rfl; exact hf t (by omega)) (nI_1 j)
  have e2 := L2 0 (Nat.zero_le _) (d.1 171) _ (fun t ht => absurd ht (Nat.not_lt_zero _)) rfl
  rw [K0] at e2
  exact e2

set_option maxHeartbeats 4000000 in
set_option maxRecDepth 100000 in
theorem kX8_isTold {q : St} {d : Dt} (hr : RR (d.1 161) q) (ok : QOK q) (h8 : q 0 1 ≤ 8) {tl : Nat → Nat} (hT : TL d tl) {P s : Nat} (hP : P < 2 ^ q 0 1) (hs : s < 8) : CP mX8_isTold 2 [.ref 160, .int (nI P), .int (nI s)] d (b2i (tlB q tl P s)) := by
  show AW mX8_isTold 2 true (PIx (fun y d' => y = b2i (tlB q tl P s) ∧ d' = d) nX) 0 0 0 [(0, .ref 160), (1, .int (nI P)), (2, .int (nI s))] [] (HP d)
  obtain ⟨⟨okM1, okM2⟩, okn, -⟩ := id ok
  obtain ⟨hN1, hN2⟩ := p2_256 h8
  have hp12 := pow12 ok.2.1
  refine aw_iconst (v := 1) dX8_isTold_0 (by decide) ?_
  refine aw_istore_n dX8_isTold_1 (by decide) rfl ?_
  refine aw_iconst (v := 0) dX8_isTold_2 (by decide) ?_
  refine aw_istore dX8_isTold_3 (by decide) rfl ?_
  have L5 : ∀ j, j ≤ q 0 1 → ∀ (v1 v2 : Int32), v1 = b2i (alB j (tlF tl P s)) → v2 = nI j → AW mX8_isTold 2 true (PIx (fun y d' => y = b2i (tlB q tl P s) ∧ d' = d) nX) 0 0 5 [(0, .ref 160), (1, .int (nI P)), (2, .int (nI s)), (3, .int v1), (4, .int v2)] [] (HP d) := by
    refine up_ind (fun j hj ih => ?_)
    rintro _ _ rfl rfl
    refine aw_iload dX8_isTold_5 rfl ?_
    refine aw_aload_n dX8_isTold_7 rfl ?_
    refine aw_gf dX8_isTold_8 (hp_160 _) rfl fX8_7 (by decide) rfl ?_
    refine aw_bipush (v := 16) dX8_isTold_11 (by decide) ?_
    refine aw_ialdN dX8_isTold_13 (hp_161 _) rfl (16) (by first | rfl | (simp only [li_0, li_1, li_2, li_3, li_4, li_5, li_7, li_8, li_9, li_11, li_12, li_16, li_17, li_31, li_32, li_60, li_77, li_80, li_89, li_99, li_101, li_112, li_113, li_256, li_999, li_1023, nI_add, pk_mul])) (by omega) (by decide) ?_
    refine aw_icmp_ge 69 dX8_isTold_14 (by decide) (fun c14 => ?_) (fun c14 => ?_)
    · have hge : q 0 1 ≤ j := (le_nI hr.1.2 rfl (by omega) (by omega)).mp c14
      have hj2 : j = q 0 1 := by omega
      subst hj2
      refine aw_iload_n dX8_isTold_69 rfl ?_
      exact aw_endZ dX8_isTold_70 rfl (by first | exact b2i_nar _ | decide) ⟨rfl, rfl⟩
    · have hlt : j < q 0 1 := Nat.lt_of_not_le (fun z => c14 ((le_nI hr.1.2 rfl (by omega) (by omega)).mpr z))
      obtain ⟨ht1, ht9⟩ := hT j (by omega)
      have h0 : pv (tl j) = -1 ↔ tl j = 0 := pv_m1g (by omega)
      have hsI : pv (tl j) = nI s ↔ tl j = s + 1 := by
        unfold pv
        split
        · rename_i z; constructor
          · intro w; exact absurd w (m1_ne0 (by omega))
          · omega
        · rw [nI_eq (by omega) (by omega)]; omega
      refine aw_join (P := fun v => v = b2i (alB j (tlF tl P s) && tlF tl P s j)) 62 (fun v hv62 => ?_) (fun kJ62 => ?_)
      · subst hv62
        refine aw_istore_n dX8_isTold_62 (by decide) rfl ?_
        refine aw_inc (c := 1) dX8_isTold_63 (by decide) rfl (by decide) rfl ?_
        refine aw_goto (tgt := 5) dX8_isTold_66 (by decide) ?_
        exact ih hlt _ _ rfl (nI_1 j)
      · refine aw_iload_n dX8_isTold_17 rfl ?_
        refine aw_if_eq 61 dX8_isTold_18 (by decide) (fun c18 => ?_) (fun c18 => ?_)
        · refine aw_iconst (v := 0) dX8_isTold_61 (by decide) ?_
          exact kJ62 _ (by rw [b2i_eq.mp c18]; rfl)
        · refine aw_aload_n dX8_isTold_21 rfl ?_
          refine aw_gf dX8_isTold_22 (hp_160 _) rfl fX8_42 (by decide) rfl ?_
          refine aw_iload dX8_isTold_25 rfl ?_
          refine aw_ialdN dX8_isTold_27 (hp_171 _) rfl (j) (by first | rfl | (simp only [li_0, li_1, li_2, li_3, li_4, li_5, li_7, li_8, li_9, li_11, li_12, li_16, li_17, li_31, li_32, li_60, li_77, li_80, li_89, li_99, li_101, li_112, li_113, li_256, li_999, li_1023, nI_add, pk_mul])) (by omega) (by decide) ?_
          rw [ht1]
          refine aw_iconst (v := (-1)) dX8_isTold_28 (by decide) ?_
          refine aw_icmp_eq 57 dX8_isTold_29 (by decide) (fun c29 => ?_) (fun c29 => ?_)
          · refine aw_iconst (v := 1) dX8_isTold_57 (by decide) ?_
            refine aw_goto (tgt := 62) dX8_isTold_58 (by decide) ?_
            exact kJ62 _ (by rw [b2i_ne.mp c18, Bool.true_and, tlF0 (h0.mp c29)]; rfl)
          · refine aw_aload_n dX8_isTold_32 rfl ?_
            refine aw_gf dX8_isTold_33 (hp_160 _) rfl fX8_42 (by decide) rfl ?_
            refine aw_iload dX8_isTold_36 rfl ?_
            refine aw_ialdN dX8_isTold_38 (hp_171 _) rfl (j) (by first | rfl | (simp only [li_0, li_1, li_2, li_3, li_4, li_5, li_7, li_8, li_9, li_11, li_12, li_16, li_17, li_31, li_32, li_60, li_77, li_80, li_89, li_99, li_101, li_112, li_113, li_256, li_999, li_1023, nI_add, pk_mul])) (by omega) (by decide) ?_
            rw [ht1]
            refine aw_iload_n dX8_isTold_39 rfl ?_
            refine aw_icmp_ne 47 dX8_isTold_40 (by decide) (fun c40 => ?_) (fun c40 => ?_)
            · refine aw_iconst (v := 0) dX8_isTold_47 (by decide) ?_
              refine aw_iload_n dX8_isTold_48 rfl ?_
              refine aw_iload dX8_isTold_49 rfl ?_
              refine aw_cSP dX8_isTold_51 oX8_has sX8_has rfl lX8_127 kX8_has rfl rfl (Nat.le_of_ble_eq_true rfl) (by decide) (Nat.le_of_ble_eq_true rfl) ?_
              refine aw_icmp_ne 61 dX8_isTold_54 (by decide) (fun c54 => ?_) (fun c54 => ?_)
              · refine aw_iconst (v := 0) dX8_isTold_61 (by decide) ?_
                exact kJ62 _ (by rw [hb_nI (by omega) (by omega)] at c54; have n40 : ¬ tl j = s + 1 := fun z => c40 (hsI.mpr z); rw [b2i_ne.mp c18, Bool.true_and, bF (by cases hh : tlF tl P s j with | false => rfl | true => exact absurd ((tlF_iff (fun z => c29 (h0.mpr z))).mp hh |>.mpr (b2i_ne.mp (fun z => c54 z.symm))) n40)])
              · refine aw_iconst (v := 1) dX8_isTold_57 (by decide) ?_
                refine aw_goto (tgt := 62) dX8_isTold_58 (by decide) ?_
                exact kJ62 _ (by rw [hb_nI (by omega) (by omega)] at c54; have n40 : ¬ tl j = s + 1 := fun z => c40 (hsI.mpr z); rw [b2i_ne.mp c18, Bool.true_and, (tlF_iff (fun z => c29 (h0.mpr z))).mpr ⟨fun z => absurd z n40, fun z => by rw [z] at c54; exact absurd c54 (by decide)⟩]; rfl)
            · refine aw_iconst (v := 1) dX8_isTold_43 (by decide) ?_
              refine aw_goto (tgt := 48) dX8_isTold_44 (by decide) ?_
              refine aw_iload_n dX8_isTold_48 rfl ?_
              refine aw_iload dX8_isTold_49 rfl ?_
              refine aw_cSP dX8_isTold_51 oX8_has sX8_has rfl lX8_127 kX8_has rfl rfl (Nat.le_of_ble_eq_true rfl) (by decide) (Nat.le_of_ble_eq_true rfl) ?_
              refine aw_icmp_ne 61 dX8_isTold_54 (by decide) (fun c54 => ?_) (fun c54 => ?_)
              · refine aw_iconst (v := 0) dX8_isTold_61 (by decide) ?_
                exact kJ62 _ (by rw [hb_nI (by omega) (by omega)] at c54; have y40 := hsI.mp c40; rw [b2i_ne.mp c18, Bool.true_and, bF (by cases hh : tlF tl P s j with | false => rfl | true => exact absurd (by rw [((tlF_iff (fun z => c29 (h0.mpr z))).mp hh).mp y40]; rfl) c54)])
              · refine aw_iconst (v := 1) dX8_isTold_57 (by decide) ?_
                refine aw_goto (tgt := 62) dX8_isTold_58 (by decide) ?_
                exact kJ62 _ (by rw [hb_nI (by omega) (by omega)] at c54; have y40 := hsI.mp c40; rw [b2i_ne.mp c18, Bool.true_and, (tlF_iff (fun z => c29 (h0.mpr z))).mpr ⟨fun _ => b2i_ne.mp (fun z => by rw [z] at c54; exact absurd c54 (by decide)), fun _ => y40⟩]; rfl)
  exact L5 0 (Nat.zero_le _) _ _ rfl rfl

set_option maxHeartbeats 4000000 in
set_option maxRecDepth 100000 in
theorem kX8_tellSets {q : St} {d : Dt} (hr : RR (d.1 161) q) (ok : QOK q) (h8 : q 0 1 ≤ 8) : CV mX8_tellSets 6 [.ref 160] d (fun d' => mT d d' ∧ TS q d' (2 ^ q 0 1)) := by
  show AW mX8_tellSets 6 true (PVx (fun d' => mT d d' ∧ TS q d' (2 ^ q 0 1)) nX) 0 0 0 [(0, .ref 160)] [] (HP d)
  obtain ⟨⟨okM1, okM2⟩, okn, -⟩ := id ok
  obtain ⟨hN1, hN2⟩ := p2_256 h8
  have hp12 := pow12 ok.2.1
  refine aw_iconst (v := 0) dX8_tellSets_0 (by decide) ?_
  refine aw_istore_n dX8_tellSets_1 (by decide) rfl ?_
  have L2 : ∀ S, S ≤ 2 ^ q 0 1 → ∀ (d1 : Dt) (v1 : Int32), mT d d1 → TS q d1 S → v1 = nI S → AW mX8_tellSets 6 true (PVx (fun d' => mT d d' ∧ TS q d' (2 ^ q 0 1)) nX) 0 0 2 [(0, .ref 160), (1, .int v1)] [] (HP d1) := by
    refine up_ind (fun S hj ih => ?_)
    rintro d1 _ hm1 hts rfl; have hr1 : RR (d1.1 161) q := by rw [mT_g hm1]; exact hr
    refine aw_iload_n dX8_tellSets_2 rfl ?_
    refine aw_iconst (v := 1) dX8_tellSets_3 (by decide) ?_
    refine aw_aload_n dX8_tellSets_4 rfl ?_
    refine aw_gf dX8_tellSets_5 (hp_160 _) rfl fX8_7 (by decide) rfl ?_
    refine aw_bipush (v := 16) dX8_tellSets_8 (by decide) ?_
    refine aw_ialdN dX8_tellSets_10 (hp_161 _) rfl (16) (by first | rfl | (simp only [li_0, li_1, li_2, li_3, li_4, li_5, li_7, li_8, li_9, li_11, li_12, li_16, li_17, li_31, li_32, li_60, li_77, li_80, li_89, li_99, li_101, li_112, li_113, li_256, li_999, li_1023, nI_add, pk_mul])) (by omega) (by decide) ?_
    refine aw_ishl dX8_tellSets_11 ?_
    refine aw_icmp_ge 130 dX8_tellSets_12 (by decide) (fun c12 => ?_) (fun c12 => ?_)
    · have hge : 2 ^ q 0 1 ≤ S := (le_nI (by rw [hr1.1.2]; exact nI_sh1 _ (by omega)) rfl (by omega) (by omega)).mp c12
      have hj2 : S = 2 ^ q 0 1 := by omega
      subst hj2
      exact aw_endV dX8_tellSets_130 rfl ⟨hm1, hts⟩
    · have hlt : S < 2 ^ q 0 1 := Nat.lt_of_not_le (fun z => c12 ((le_nI (by rw [hr1.1.2]; exact nI_sh1 _ (by omega)) rfl (by omega) (by omega)).mpr z))
      refine aw_iconst (v := 1) dX8_tellSets_15 (by decide) ?_
      refine aw_istore_n dX8_tellSets_16 (by decide) rfl ?_
      refine aw_iconst (v := 0) dX8_tellSets_17 (by decide) ?_
      refine aw_istore_n dX8_tellSets_18 (by decide) rfl ?_
      have L19 : ∀ i, i ≤ q 0 1 → ∀ (v2 v3 : Int32), v2 = b2i (alB i (clF q S)) → v3 = nI i → AW mX8_tellSets 6 true (PVx (fun d' => mT d d' ∧ TS q d' (2 ^ q 0 1)) nX) 0 0 19 [(0, .ref 160), (1, .int (nI S)), (2, .int v2), (3, .int v3)] [] (HP d1) := by
        refine up_ind (fun i hji ihi => ?_)
        rintro _ _ rfl rfl
        refine aw_iload_n dX8_tellSets_19 rfl ?_
        refine aw_aload_n dX8_tellSets_20 rfl ?_
        refine aw_gf dX8_tellSets_21 (hp_160 _) rfl fX8_7 (by decide) rfl ?_
        refine aw_bipush (v := 16) dX8_tellSets_24 (by decide) ?_
        refine aw_ialdN dX8_tellSets_26 (hp_161 _) rfl (16) (by first | rfl | (simp only [li_0, li_1, li_2, li_3, li_4, li_5, li_7, li_8, li_9, li_11, li_12, li_16, li_17, li_31, li_32, li_60, li_77, li_80, li_89, li_99, li_101, li_112, li_113, li_256, li_999, li_1023, nI_add, pk_mul])) (by omega) (by decide) ?_
        refine aw_icmp_ge 66 dX8_tellSets_27 (by decide) (fun c27 => ?_) (fun c27 => ?_)
        · have hgei : q 0 1 ≤ i := (le_nI hr1.1.2 rfl (by omega) (by omega)).mp c27
          have hj2i : i = q 0 1 := by omega
          subst hj2i
          rw [show alB (q 0 1) (clF q S) = clB q S from rfl]
          refine aw_aload_n dX8_tellSets_66 rfl ?_
          refine aw_gf dX8_tellSets_67 (hp_160 _) rfl fX8_28 (by decide) rfl ?_
          refine aw_iload_n dX8_tellSets_70 rfl ?_
          refine aw_iload_n dX8_tellSets_71 rfl ?_
          refine aw_zastN dX8_tellSets_72 hp_167 (S) (by first | rfl | (simp only [li_0, li_1, li_2, li_3, li_4, li_5, li_7, li_8, li_9, li_11, li_12, li_16, li_17, li_31, li_32, li_60, li_77, li_80, li_89, li_99, li_101, li_112, li_113, li_256, li_999, li_1023, nI_add, pk_mul])) (by omega) (by decide) (b2i_nar _) ?_
          refine aw_aload_n dX8_tellSets_73 rfl ?_
          refine aw_iload_n dX8_tellSets_74 rfl ?_
          refine aw_cVP dX8_tellSets_75 oX8_isSet vX8_isSet rfl lX8_220 (kX8_isSet (q := q) (by rw [dI_n _ _ (by decide)]; exact hr1) ok (by omega)) rfl (hp_160 _) rfl rfl rfl (Nat.le_of_ble_eq_true rfl) (by decide) (Nat.le_of_ble_eq_true rfl) ?_
          refine aw_istore_n dX8_tellSets_78 (by decide) rfl ?_
          refine aw_iconst (v := 1) dX8_tellSets_79 (by decide) ?_
          refine aw_istore dX8_tellSets_80 (by decide) rfl ?_
          have L82 : ∀ c, c ≤ 3 → ∀ (d2 : Dt) (v4 : Int32), mT d d2 → d2.1 167 S = b2i (clB q S) → TS q d2 S → (∀ c0, 1 ≤ c0 → c0 ≤ c → d2.1 168 (4 * S + c0) = b2i (rgB q S c0)) → v4 = nI (c + 1) → AW mX8_tellSets 6 true (PVx (fun d' => mT d d' ∧ TS q d' (2 ^ q 0 1)) nX) 0 0 82 [(0, .ref 160), (1, .int (nI S)), (2, .int (b2i (clB q S))), (3, .int (b2i (seB q S))), (4, .int v4)] [] (HP d2) := by
            refine up_ind (fun c hjc ihc => ?_)
            rintro d2 _ hm2 h67 hts2 hcs rfl; have hr2 : RR (d2.1 161) q := by rw [mT_g hm2]; exact hr
            refine aw_iload dX8_tellSets_82 rfl ?_
            refine aw_iconst (v := 3) dX8_tellSets_84 (by decide) ?_
            refine aw_icmp_gt 124 dX8_tellSets_85 (by decide) (fun c85 => ?_) (fun c85 => ?_)
            · have hgec : 3 < c + 1 := (lt_nI (show (3 : Int32) = nI 3 from rfl) rfl (by omega) (by omega)).mp c85
              have hc3 : c = 3 := by omega
              subst hc3
              have hm4 := hm2
              have htsN : TS q d2 (S + 1) := fun T hT => by
                by_cases e : T = S
                · rw [e]; exact ⟨h67, fun c1 g1 g2 => hcs c1 g1 g2⟩
                · exact hts2 T (by omega)
              refine aw_inc (c := 1) dX8_tellSets_124 (by decide) rfl (by decide) rfl ?_
              refine aw_goto (tgt := 2) dX8_tellSets_127 (by decide) ?_
              exact aw_pick [0, 1] (ih hlt _ _ hm4 htsN (nI_1 S))
            · have hltc : c < 3 := by have := mt (lt_nI (show (3 : Int32) = nI 3 from rfl) (rfl : nI (c + 1) = nI (c + 1)) (by omega) (by omega)).mpr c85; omega
              refine aw_aload_n dX8_tellSets_88 rfl ?_
              refine aw_gf dX8_tellSets_89 (hp_160 _) rfl fX8_32 (by decide) rfl ?_
              refine aw_iconst (v := 4) dX8_tellSets_92 (by decide) ?_
              refine aw_iload_n dX8_tellSets_93 rfl ?_
              refine aw_imul dX8_tellSets_94 ?_
              refine aw_iload dX8_tellSets_95 rfl ?_
              refine aw_iadd dX8_tellSets_97 ?_
              refine aw_iload_n dX8_tellSets_98 rfl ?_
              refine aw_if_eq 116 dX8_tellSets_99 (by decide) (fun c99 => ?_) (fun c99 => ?_)
              · refine aw_iconst (v := 0) dX8_tellSets_116 (by decide) ?_
                refine aw_zastN dX8_tellSets_117 hp_168 (4 * S + (c + 1)) (by first | rfl | (simp only [li_0, li_1, li_2, li_3, li_4, li_5, li_7, li_8, li_9, li_11, li_12, li_16, li_17, li_31, li_32, li_60, li_77, li_80, li_89, li_99, li_101, li_112, li_113, li_256, li_999, li_1023, nI_add, pk_mul])) (by omega) (by decide) (by first | exact b2i_nar _ | decide) ?_
                refine aw_inc (c := 1) dX8_tellSets_118 (by decide) rfl (by decide) rfl ?_
                refine aw_goto (tgt := 82) dX8_tellSets_121 (by decide) ?_
                refine ihc hltc _ _ (mT_dI (hm2) (by decide) _) (by rw [dI_n _ _ (by decide)]; exact h67) (fun T hT => ?_) (fun c0 g1 g2 => ?_) (nI_1 (c + 1))
                · rw [dI_n _ _ (by decide), dI_s]
                  obtain ⟨w1, w2⟩ := hts2 T hT
                  exact ⟨w1, fun c1 g1 g2 => by simp only [upd]; rw [if_neg (by omega)]; exact w2 c1 g1 g2⟩
                · rw [dI_s]
                  simp only [upd]
                  by_cases e : c0 = c + 1
                  · rw [if_pos (by omega), e]; show 0 = _; rw [show rgB q S (c + 1) = false from by unfold rgB; rw [b2i_eq.mp c99]; rfl]; rfl
                  · rw [if_neg (by omega)]; exact hcs c0 g1 (by omega)
              · refine aw_aload_n dX8_tellSets_102 rfl ?_
                refine aw_iload_n dX8_tellSets_103 rfl ?_
                refine aw_iload dX8_tellSets_104 rfl ?_
                refine aw_cVI dX8_tellSets_106 oX8_fits vX8_fits rfl lX8_184 (kX8_fits hr2 ok (S := S) (by omega) (c := c + 1) (by omega)) rfl (hp_160 _) rfl rfl rfl (Nat.le_of_ble_eq_true rfl) (by decide) (Nat.le_of_ble_eq_true rfl) ?_
                rintro _ d3 ⟨hm3, rfl⟩
                refine aw_if_eq 116 dX8_tellSets_109 (by decide) (fun c109 => ?_) (fun c109 => ?_)
                · refine aw_iconst (v := 0) dX8_tellSets_116 (by decide) ?_
                  refine aw_zastN dX8_tellSets_117 hp_168 (4 * S + (c + 1)) (by first | rfl | (simp only [li_0, li_1, li_2, li_3, li_4, li_5, li_7, li_8, li_9, li_11, li_12, li_16, li_17, li_31, li_32, li_60, li_77, li_80, li_89, li_99, li_101, li_112, li_113, li_256, li_999, li_1023, nI_add, pk_mul])) (by omega) (by decide) (by first | exact b2i_nar _ | decide) ?_
                  refine aw_inc (c := 1) dX8_tellSets_118 (by decide) rfl (by decide) rfl ?_
                  refine aw_goto (tgt := 82) dX8_tellSets_121 (by decide) ?_
                  refine ihc hltc _ _ (mT_dI (mT_t hm2 (mS_mT hm3)) (by decide) _) (by rw [dI_n _ _ (by decide)]; exact (by rw [hm3.2.1 167 (by decide) (by decide) (by decide)]; exact h67)) (fun T hT => ?_) (fun c0 g1 g2 => ?_) (nI_1 (c + 1))
                  · rw [dI_n _ _ (by decide), dI_s]
                    obtain ⟨w1, w2⟩ := hts2 T hT
                    rw [hm3.2.1 167 (by decide) (by decide) (by decide), hm3.2.1 168 (by decide) (by decide) (by decide)]
                    exact ⟨w1, fun c1 g1 g2 => by simp only [upd]; rw [if_neg (by omega)]; exact w2 c1 g1 g2⟩
                  · rw [dI_s]
                    rw [hm3.2.1 168 (by decide) (by decide) (by decide)]
                    simp only [upd]
                    by_cases e : c0 = c + 1
                    · rw [if_pos (by omega), e, show rgB q S (c + 1) = fitB q S (c + 1) from by unfold rgB; rw [b2i_ne.mp c99]; rfl, b2i_eq.mp c109]; rfl
                    · rw [if_neg (by omega)]; exact hcs c0 g1 (by omega)
                · refine aw_iconst (v := 1) dX8_tellSets_112 (by decide) ?_
                  refine aw_goto (tgt := 117) dX8_tellSets_113 (by decide) ?_
                  refine aw_zastN dX8_tellSets_117 hp_168 (4 * S + (c + 1)) (by first | rfl | (simp only [li_0, li_1, li_2, li_3, li_4, li_5, li_7, li_8, li_9, li_11, li_12, li_16, li_17, li_31, li_32, li_60, li_77, li_80, li_89, li_99, li_101, li_112, li_113, li_256, li_999, li_1023, nI_add, pk_mul])) (by omega) (by decide) (by first | exact b2i_nar _ | decide) ?_
                  refine aw_inc (c := 1) dX8_tellSets_118 (by decide) rfl (by decide) rfl ?_
                  refine aw_goto (tgt := 82) dX8_tellSets_121 (by decide) ?_
                  refine ihc hltc _ _ (mT_dI (mT_t hm2 (mS_mT hm3)) (by decide) _) (by rw [dI_n _ _ (by decide)]; exact (by rw [hm3.2.1 167 (by decide) (by decide) (by decide)]; exact h67)) (fun T hT => ?_) (fun c0 g1 g2 => ?_) (nI_1 (c + 1))
                  · rw [dI_n _ _ (by decide), dI_s]
                    obtain ⟨w1, w2⟩ := hts2 T hT
                    rw [hm3.2.1 167 (by decide) (by decide) (by decide), hm3.2.1 168 (by decide) (by decide) (by decide)]
                    exact ⟨w1, fun c1 g1 g2 => by simp only [upd]; rw [if_neg (by omega)]; exact w2 c1 g1 g2⟩
                  · rw [dI_s]
                    rw [hm3.2.1 168 (by decide) (by decide) (by decide)]
                    simp only [upd]
                    by_cases e : c0 = c + 1
                    · rw [if_pos (by omega), e, show rgB q S (c + 1) = fitB q S (c + 1) from by unfold rgB; rw [b2i_ne.mp c99]; rfl, b2i_ne.mp c109]; rfl
                    · rw [if_neg (by omega)]; exact hcs c0 g1 (by omega)
          exact L82 0 (Nat.zero_le _) _ _ (mT_dI hm1 (by decide) _) (by rw [dI_s]; simp only [upd, if_true]) (fun T hT => by rw [dI_s, dI_n _ _ (by decide)]; obtain ⟨w1, w2⟩ := hts T hT; exact ⟨by simp only [upd]; rw [if_neg (by omega)]; exact w1, w2⟩) (fun c0 g1 g2 => by omega) rfl
        · have hlti : i < q 0 1 := Nat.lt_of_not_le (fun z => c27 ((le_nI hr1.1.2 rfl (by omega) (by omega)).mpr z))
          have h8i := q8_lt ok (show i < 12 by omega)
          have hla : lacks (q 8 i) S < 4096 := lacks_lt (by omega)
          refine aw_join (P := fun v => v = b2i (alB i (clF q S) && clF q S i)) 59 (fun v hv59 => ?_) (fun kJ59 => ?_)
          · subst hv59
            refine aw_istore_n dX8_tellSets_59 (by decide) rfl ?_
            refine aw_inc (c := 1) dX8_tellSets_60 (by decide) rfl (by decide) rfl ?_
            refine aw_goto (tgt := 19) dX8_tellSets_63 (by decide) ?_
            exact ihi hlti _ _ rfl (nI_1 i)
          · refine aw_iload_n dX8_tellSets_30 rfl ?_
            refine aw_if_eq 58 dX8_tellSets_31 (by decide) (fun c31 => ?_) (fun c31 => ?_)
            · refine aw_iconst (v := 0) dX8_tellSets_58 (by decide) ?_
              exact kJ59 _ (by rw [b2i_eq.mp c31]; rfl)
            · refine aw_iload_n dX8_tellSets_34 rfl ?_
              refine aw_iload_n dX8_tellSets_35 rfl ?_
              refine aw_cSP dX8_tellSets_36 oX8_has sX8_has rfl lX8_127 kX8_has rfl rfl (Nat.le_of_ble_eq_true rfl) (by decide) (Nat.le_of_ble_eq_true rfl) ?_
              refine aw_if_eq 54 dX8_tellSets_39 (by decide) (fun c39 => ?_) (fun c39 => ?_)
              · refine aw_iconst (v := 1) dX8_tellSets_54 (by decide) ?_
                refine aw_goto (tgt := 59) dX8_tellSets_55 (by decide) ?_
                exact kJ59 _ (by rw [hb_nI (by omega) (by omega)] at c39; rw [clF_iff.mpr (Or.inl (b2i_eq.mp c39)), Bool.and_true, b2i_ne.mp c31]; rfl)
              · refine aw_aload_n dX8_tellSets_42 rfl ?_
                refine aw_iload_n dX8_tellSets_43 rfl ?_
                refine aw_cVP dX8_tellSets_44 oX8_aheadOf vX8_aheadOf rfl lX8_130 (kX8_aheadOf hr1 ok (by omega)) rfl (hp_160 _) rfl rfl rfl (Nat.le_of_ble_eq_true rfl) (by decide) (Nat.le_of_ble_eq_true rfl) ?_
                refine aw_iload_n dX8_tellSets_47 rfl ?_
                refine aw_iconst (v := (-1)) dX8_tellSets_48 (by decide) ?_
                refine aw_ixor dX8_tellSets_49 ?_
                refine aw_iand dX8_tellSets_50 ?_
                rw [nI_lacks (by omega) (by omega)]
                refine aw_if_ne 58 dX8_tellSets_51 (by decide) (fun c51 => ?_) (fun c51 => ?_)
                · refine aw_iconst (v := 0) dX8_tellSets_58 (by decide) ?_
                  exact kJ59 _ (by rw [hb_nI (by omega) (by omega)] at c39; rw [bF (by rw [Bool.and_eq_false_iff]; right; cases hh : clF q S i with | false => rfl | true => rcases clF_iff.mp hh with z | z; rw [b2i_ne.mp c39] at z; cases z; exact absurd (by rw [z]; rfl) c51)])
                · refine aw_iconst (v := 1) dX8_tellSets_54 (by decide) ?_
                  refine aw_goto (tgt := 59) dX8_tellSets_55 (by decide) ?_
                  exact kJ59 _ (by rw [clF_iff.mpr (Or.inr (nI_inj (by omega) (by omega) (c51 : _ = nI 0))), Bool.and_true, b2i_ne.mp c31]; rfl)
      exact L19 0 (Nat.zero_le _) _ _ rfl rfl
  exact L2 0 (Nat.zero_le _) _ _ (mT_r d) (fun S hS => absurd hS (Nat.not_lt_zero _)) rfl
