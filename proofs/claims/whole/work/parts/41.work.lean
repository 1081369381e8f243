set_option maxHeartbeats 4000000 in
set_option maxRecDepth 100000 in
theorem kX6_arrange {q : St} {d : Dt} (hs : KS 0 d q) (ok : QOK q) {w : Nat} (hw : w = 134 ∨ w = 139) {S : Nat} (hS : S < 2 ^ q 0 1) : CV mX6_arrange 1 [.ref w, .ref 0, .int (nI S)] d (fun d' => fW w d d' ∧ WO w d' (ordL q S)) := by
  show AW mX6_arrange 1 true (PVx (fun d' => fW w d d' ∧ WO w d' (ordL q S)) nX) 0 0 0 [(0, .ref w), (1, .ref 0), (2, .int (nI S))] [] (HP d)
  have hw1 : 134 ≤ w ∧ w ≤ 139 := by omega
  have h12 := ok.2.1
  have hp12 := pow12 h12
  refine aw_iload_n dX6_arrange_0 rfl ?_
  refine aw_istore_n dX6_arrange_1 (by decide) rfl ?_
  refine aw_aload_n dX6_arrange_2 rfl ?_
  refine aw_iconst (v := 0) dX6_arrange_3 (by decide) ?_
  refine aw_putI (ci := 6) (j := 3) .int dX6_arrange_4 fX6_75 rfl (by decide) rfl tyX6 tyX6_ok nmX6 rfl rfl rfl (hpw_0 hw _) (Nat.le_of_ble_eq_true rfl) (by rw [hpw_0 hw, dI_s]; rfl) ?_
  refine aw_iconst (v := 0) dX6_arrange_7 (by decide) ?_
  refine aw_istore dX6_arrange_8 (by decide) rfl ?_
  have L10 : ∀ p, p ≤ 12 → ∀ (P : List Nat) (left : Nat) (d1 : Dt) (v3 v4 : Int32), fW w d d1 → left < 2 ^ q 0 1 → P ++ ordF q (12 - p) left = ordL q S → P.length = p → d1.1 w 3 = nI p → (∀ k, k < p → d1.1 (w + 1) k = nI (P.getD k 0)) → v3 = nI left → v4 = nI p → AW mX6_arrange 1 true (PVx (fun d' => fW w d d' ∧ WO w d' (ordL q S)) nX) 0 0 10 [(0, .ref w), (1, .ref 0), (2, .int (nI S)), (3, .int v3), (4, .int v4)] [] (HP d1) := by
    refine up_ind (fun p hjp ihp => ?_)
    rintro P left d1 _ _ hf1 hl hP hPl h3 hrow rfl rfl
    refine aw_iload dX6_arrange_10 rfl ?_
    refine aw_bipush (v := 12) dX6_arrange_12 (by decide) ?_
    refine aw_icmp_ge 92 dX6_arrange_14 (by decide) (fun c14 => ?_) (fun c14 => ?_)
    · have hgep : 12 ≤ p := (le_nI (show (12 : Int32) = nI 12 from rfl) rfl (by omega) (by omega)).mp c14
      have hj2p : p = 12 := by omega
      subst hj2p
      rw [show (12 - 12 : Nat) = 0 from rfl, show ordF q 0 left = [] from rfl, List.append_nil] at hP
      exact aw_endV dX6_arrange_92 rfl ⟨hf1, by rw [← hP]; exact ⟨by rw [h3, hPl], fun k hk => hrow k (by omega)⟩⟩
    · have hltp : p < 12 := Nat.lt_of_not_le (fun z => c14 ((le_nI (show (12 : Int32) = nI 12 from rfl) rfl (by omega) (by omega)).mpr z))
      have hs1 : KS 0 d1 q := KS_W (by omega) hs hf1
      refine aw_iload_n dX6_arrange_17 rfl ?_
      refine aw_if_eq 92 dX6_arrange_18 (by decide) (fun c18 => ?_) (fun c18 => ?_)
      · have hl0 : left = 0 := nI_inj (by omega) (by omega) (c18 : nI left = nI 0)
        rw [hl0, ordF_z, List.append_nil] at hP
        exact aw_endV dX6_arrange_92 rfl ⟨hf1, by rw [← hP]; exact ⟨by rw [h3, hPl], fun k hk => hrow k (by omega)⟩⟩
      · have h0 : left ≠ 0 := fun z => c18 (by rw [z]; rfl)
        have KI : ∀ u, u < 12 → (left.testBit u = true ∧ q 8 u &&& left = 0) → (∀ x, x < u → ¬ (left.testBit x = true ∧ q 8 x &&& left = 0)) → AW mX6_arrange 1 true (PVx (fun d' => fW w d d' ∧ WO w d' (ordL q S)) nX) 0 0 58 [(0, .ref w), (1, .ref 0), (2, .int (nI S)), (3, .int (nI left)), (4, .int (nI p)), (5, .int (nI u))] [] (HP d1) := by
          intro u hu12 hu hlow
          have hun := nxt_uniq ok (show left < 4096 by omega) h0 hu hlow
          refine aw_aload_n dX6_arrange_58 rfl ?_
          refine aw_gf dX6_arrange_59 (hpw_0 hw _) rfl fX6_9 (by decide) rfl ?_
          refine aw_iload dX6_arrange_62 rfl ?_
          refine aw_iload dX6_arrange_64 rfl ?_
          refine aw_iastN dX6_arrange_66 (hpw_1 hw) (p) rfl (by omega) (by decide)  ?_
          refine aw_aload_n dX6_arrange_67 rfl ?_
          refine aw_dup dX6_arrange_68 rfl ?_
          refine aw_gf dX6_arrange_69 (hpw_0 hw _) rfl fX6_75 (by decide) rfl ?_
          refine aw_iconst (v := 1) dX6_arrange_72 (by decide) ?_
          refine aw_iadd dX6_arrange_73 ?_
          rw [dI_n _ _ (show w ≠ w + 1 by omega), h3, nI_1]
          refine aw_putI (ci := 6) (j := 3) .int dX6_arrange_74 fX6_75 rfl (by decide) rfl tyX6 tyX6_ok nmX6 rfl rfl rfl (hpw_0 hw _) (Nat.le_of_ble_eq_true rfl) (by rw [hpw_0 hw, dI_s]; rfl) ?_
          refine aw_iload_n dX6_arrange_77 rfl ?_
          refine aw_iconst (v := 1) dX6_arrange_78 (by decide) ?_
          refine aw_iload dX6_arrange_79 rfl ?_
          refine aw_ishl dX6_arrange_81 ?_
          refine aw_iconst (v := (-1)) dX6_arrange_82 (by decide) ?_
          refine aw_ixor dX6_arrange_83 ?_
          refine aw_iand dX6_arrange_84 ?_
          rw [nI_sh1 u (by omega), nI_lacks (by omega) (Nat.pow_lt_pow_right (m := u) (n := 12) (by decide) hu12), show lacks left (2 ^ u) = clr left u from rfl]
          refine aw_istore_n dX6_arrange_85 (by decide) rfl ?_
          refine aw_inc (c := 1) dX6_arrange_86 (by decide) rfl (by decide) rfl ?_
          refine aw_goto (tgt := 10) dX6_arrange_89 (by decide) ?_
          refine aw_pick [0, 1, 2, 3, 4] (ihp hltp (P ++ [u]) (clr left u) _ _ _ (fW_dI (fW_dI hf1 (by omega) _) (by omega) _) (lacks_lt hl) ?_ (by rw [List.length_append, hPl]; rfl) (by rw [dI_s]; simp only [upd, if_true]) (fun k hk => ?_) rfl (nI_1 p))
          · rw [← hP, show 12 - p = (11 - p) + 1 by omega, ordF_s h0, ← hun, List.append_assoc, show 12 - (p + 1) = 11 - p by omega]
            rfl
          · rw [dI_n _ _ (by omega), dI_s]
            simp only [upd]
            by_cases e : k = p
            · rw [if_pos e, e, ← hPl, getD_app2]
            · rw [if_neg e, getD_app1 (by omega)]; exact hrow k (by omega)
        refine aw_iconst (v := 0) dX6_arrange_21 (by decide) ?_
        refine aw_istore dX6_arrange_22 (by decide) rfl ?_
        have L24 : ∀ u, u ≤ 11 → ∀ (v5 : Int32), (∀ x, x < u → ¬ (left.testBit x = true ∧ q 8 x &&& left = 0)) → v5 = nI u → AW mX6_arrange 1 true (PVx (fun d' => fW w d d' ∧ WO w d' (ordL q S)) nX) 0 0 24 [(0, .ref w), (1, .ref 0), (2, .int (nI S)), (3, .int (nI left)), (4, .int (nI p)), (5, .int v5)] [] (HP d1) := by
          refine up_ind (fun u hju ihu => ?_)
          rintro _ hlow rfl
          refine aw_iload dX6_arrange_24 rfl ?_
          refine aw_bipush (v := 11) dX6_arrange_26 (by decide) ?_
          refine aw_icmp_ge 58 dX6_arrange_28 (by decide) (fun c28 => ?_) (fun c28 => ?_)
          · have hgeu : 11 ≤ u := (le_nI (show (11 : Int32) = nI 11 from rfl) rfl (by omega) (by omega)).mp c28
            have hu11 : u = 11 := by omega
            subst hu11
            obtain ⟨t, ht1, ht2⟩ := exNext ok (show left < 4096 by omega) h0
            have ht11 : t = 11 := by
              rcases Nat.lt_or_ge t 11 with z | z
              · exact absurd ht2 (hlow t z)
              · omega
            subst ht11
            exact KI 11 (by decide) ht2 hlow
          · have hltu : u < 11 := Nat.lt_of_not_le (fun z => c28 ((le_nI (show (11 : Int32) = nI 11 from rfl) rfl (by omega) (by omega)).mpr z))
            refine aw_iload_n dX6_arrange_31 rfl ?_
            refine aw_iload dX6_arrange_32 rfl ?_
            refine aw_ishr dX6_arrange_34 ?_
            refine aw_iconst (v := 1) dX6_arrange_35 (by decide) ?_
            refine aw_iand dX6_arrange_36 ?_
            refine aw_if_eq 52 dX6_arrange_37 (by decide) (fun c37 => ?_) (fun c37 => ?_)
            · refine aw_inc (c := 1) dX6_arrange_52 (by decide) rfl (by decide) rfl ?_
              refine aw_goto (tgt := 24) dX6_arrange_55 (by decide) ?_
              have hbt : left.testBit u = false := by
                rw [← hb_nI (by omega) (by omega)]
                cases hz : hb (nI left) (nI u) with
                | false => rfl
                | true => exact absurd c37 ((hb_ne _ _).mpr hz)
              exact ihu hltu _ (fun x hx => by
                  by_cases e : x = u
                  · rw [e, hbt]; exact fun z => by cases z.1
                  · exact hlow x (by omega)) (nI_1 u)
            · refine aw_aload_n dX6_arrange_40 rfl ?_
              refine aw_gf dX6_arrange_41 (hp_0 _) rfl fX6_78 (by decide) rfl ?_
              refine aw_iload dX6_arrange_44 rfl ?_
              refine aw_ialdN dX6_arrange_46 (hp_8 _) rfl (u) (by first | rfl | (simp only [li_0, li_1, li_2, li_3, li_4, li_5, li_7, li_8, li_9, li_11, li_12, li_16, li_17, li_31, li_32, li_60, li_77, li_80, li_89, li_99, li_101, li_112, li_113, li_256, li_999, li_1023, nI_add, pk_mul])) (by omega) (by decide) ?_
              rw [show d1.1 8 u = nI (q 8 u) from hs1 8 u (by decide) (show u < 12 by omega)]
              refine aw_iload_n dX6_arrange_47 rfl ?_
              refine aw_iand dX6_arrange_48 ?_
              rw [nI_and]
              refine aw_if_eq 58 dX6_arrange_49 (by decide) (fun c49 => ?_) (fun c49 => ?_)
              · have hbt : left.testBit u = true := by
                  rw [← hb_nI (by omega) (by omega)]
                  exact (hb_ne _ _).mp c37
                exact KI u (by omega) ⟨hbt, nI_inj (Nat.lt_of_le_of_lt Nat.and_le_right (by omega)) (by omega) (c49 : nI (q 8 u &&& left) = nI 0)⟩ hlow
              · refine aw_inc (c := 1) dX6_arrange_52 (by decide) rfl (by decide) rfl ?_
                refine aw_goto (tgt := 24) dX6_arrange_55 (by decide) ?_
                exact ihu hltu _ (fun x hx => by
                    by_cases e : x = u
                    · rw [e]; exact fun z => c49 (by rw [z.2]; rfl)
                    · exact hlow x (by omega)) (nI_1 u)
        exact L24 0 (Nat.zero_le _) _ (fun x hx => absurd hx (Nat.not_lt_zero _)) rfl
  exact L10 0 (Nat.zero_le _) [] S _ _ _ (fW_dI (fW_r w d) (by omega) _) hS rfl rfl (by rw [dI_s]; rfl) (fun k hk => absurd hk (Nat.not_lt_zero _)) rfl rfl

set_option maxHeartbeats 4000000 in
set_option maxRecDepth 100000 in
theorem kX6_collectTools {q : St} {d : Dt} (hs : KS 0 d q) (ok : QOK q) {w : Nat} (hw : w = 134 ∨ w = 139) {L : List Nat} (hL : WO w d L) (hLt : ∀ t ∈ L, t < 12) (hl12 : L.length ≤ 12) : CV mX6_collectTools 1 [.ref w, .ref 0] d (fun d' => fW w d d' ∧ WO w d' L ∧ d'.1 w 4 = nI (oN L.length (toolF q L))) := by
  show AW mX6_collectTools 1 true (PVx (fun d' => fW w d d' ∧ WO w d' L ∧ d'.1 w 4 = nI (oN L.length (toolF q L))) nX) 0 0 0 [(0, .ref w), (1, .ref 0)] [] (HP d)
  have hw1 : 134 ≤ w ∧ w ≤ 139 := by omega
  have h12 := ok.2.1
  have hp12 := pow12 h12
  refine aw_aload_n dX6_collectTools_0 rfl ?_
  refine aw_iconst (v := 0) dX6_collectTools_1 (by decide) ?_
  refine aw_putI (ci := 6) (j := 4) .int dX6_collectTools_2 fX6_63 rfl (by decide) rfl tyX6 tyX6_ok nmX6 rfl rfl rfl (hpw_0 hw _) (Nat.le_of_ble_eq_true rfl) (by rw [hpw_0 hw, dI_s]; rfl) ?_
  refine aw_iconst (v := 0) dX6_collectTools_5 (by decide) ?_
  refine aw_istore_n dX6_collectTools_6 (by decide) rfl ?_
  have L7 : ∀ j, j ≤ L.length → ∀ (d1 : Dt) (v2 : Int32), fW w d d1 → WO w d1 L → d1.1 w 4 = nI (oN j (toolF q L)) → v2 = nI j → AW mX6_collectTools 1 true (PVx (fun d' => fW w d d' ∧ WO w d' L ∧ d'.1 w 4 = nI (oN L.length (toolF q L))) nX) 0 0 7 [(0, .ref w), (1, .ref 0), (2, .int v2)] [] (HP d1) := by
    refine up_ind (fun j hj ih => ?_)
    rintro d1 _ hf1 hL1 h4 rfl
    refine aw_iload_n dX6_collectTools_7 rfl ?_
    refine aw_aload_n dX6_collectTools_8 rfl ?_
    refine aw_gf dX6_collectTools_9 (hpw_0 hw _) rfl fX6_75 (by decide) rfl ?_
    refine aw_icmp_ge 53 dX6_collectTools_12 (by decide) (fun c12 => ?_) (fun c12 => ?_)
    · have hge : L.length ≤ j := (le_nI hL1.1 rfl (by omega) (by omega)).mp c12
      have hj2 : j = L.length := by omega
      subst hj2
      exact aw_endV dX6_collectTools_53 rfl ⟨hf1, hL1, h4⟩
    · have hlt : j < L.length := Nat.lt_of_not_le (fun z => c12 ((le_nI hL1.1 rfl (by omega) (by omega)).mpr z))
      have hord := hL1.2 j hlt
      have ht12 := hLt _ (getD_mem hlt)
      have hs1 : KS 0 d1 q := KS_W (by omega) hs hf1
      have h5 := (ok.2.2.2.2.2.2.1 _ ht12).1
      refine aw_aload_n dX6_collectTools_15 rfl ?_
      refine aw_gf dX6_collectTools_16 (hp_0 _) rfl fX6_81 (by decide) rfl ?_
      refine aw_aload_n dX6_collectTools_19 rfl ?_
      refine aw_gf dX6_collectTools_20 (hpw_0 hw _) rfl fX6_9 (by decide) rfl ?_
      refine aw_iload_n dX6_collectTools_23 rfl ?_
      refine aw_ialdN dX6_collectTools_24 (hpw_1 hw _) rfl (j) (by first | rfl | (simp only [li_0, li_1, li_2, li_3, li_4, li_5, li_7, li_8, li_9, li_11, li_12, li_16, li_17, li_31, li_32, li_60, li_77, li_80, li_89, li_99, li_101, li_112, li_113, li_256, li_999, li_1023, nI_add, pk_mul])) (by omega) (by decide) ?_
      rw [hord]
      refine aw_ialdN dX6_collectTools_25 (hp_5 _) rfl (L.getD j 0) (by first | rfl | (simp only [li_0, li_1, li_2, li_3, li_4, li_5, li_7, li_8, li_9, li_11, li_12, li_16, li_17, li_31, li_32, li_60, li_77, li_80, li_89, li_99, li_101, li_112, li_113, li_256, li_999, li_1023, nI_add, pk_mul])) (by omega) (by decide) ?_
      rw [show d1.1 5 (L.getD j 0) = nI (q 5 (L.getD j 0)) from hs1 5 (L.getD j 0) (by decide) (show L.getD j 0 < 12 by omega)]
      refine aw_istore_n dX6_collectTools_26 (by decide) rfl ?_
      refine aw_aload_n dX6_collectTools_27 rfl ?_
      refine aw_dup dX6_collectTools_28 rfl ?_
      refine aw_gf dX6_collectTools_29 (hpw_0 hw _) rfl fX6_63 (by decide) rfl ?_
      refine aw_iload_n dX6_collectTools_32 rfl ?_
      refine aw_if_ne 40 dX6_collectTools_33 (by decide) (fun c33 => ?_) (fun c33 => ?_)
      · refine aw_iconst (v := 1) dX6_collectTools_40 (by decide) ?_
        refine aw_iload_n dX6_collectTools_41 rfl ?_
        refine aw_ishl dX6_collectTools_42 ?_
        refine aw_ior dX6_collectTools_43 ?_
        refine aw_putI (ci := 6) (j := 4) .int dX6_collectTools_44 fX6_63 rfl (by decide) rfl tyX6 tyX6_ok nmX6 rfl rfl rfl (hpw_0 hw _) (Nat.le_of_ble_eq_true rfl) (by rw [hpw_0 hw, dI_s]; rfl) ?_
        refine aw_inc (c := 1) dX6_collectTools_47 (by decide) rfl (by decide) rfl ?_
        refine aw_goto (tgt := 7) dX6_collectTools_50 (by decide) ?_
        exact aw_pick [0, 1, 2] (ih hlt _ _ (fW_dI hf1 (by omega) _) (WO_k hL1 (by rw [dI_s]; rfl) (dI_n _ _ (by omega))) (by rw [dI_s]; simp only [upd, if_true]; rw [h4, nI_sh1 _ (by omega), nI_or]; show _ = nI (oN j (toolF q L) ||| toolF q L j); rw [show toolF q L j = 2 ^ q 5 (L.getD j 0) from if_neg (fun z => c33 (by rw [z]; rfl))]) (nI_1 j))
      · refine aw_iconst (v := 0) dX6_collectTools_36 (by decide) ?_
        refine aw_goto (tgt := 43) dX6_collectTools_37 (by decide) ?_
        refine aw_ior dX6_collectTools_43 ?_
        refine aw_putI (ci := 6) (j := 4) .int dX6_collectTools_44 fX6_63 rfl (by decide) rfl tyX6 tyX6_ok nmX6 rfl rfl rfl (hpw_0 hw _) (Nat.le_of_ble_eq_true rfl) (by rw [hpw_0 hw, dI_s]; rfl) ?_
        refine aw_inc (c := 1) dX6_collectTools_47 (by decide) rfl (by decide) rfl ?_
        refine aw_goto (tgt := 7) dX6_collectTools_50 (by decide) ?_
        exact aw_pick [0, 1, 2] (ih hlt _ _ (fW_dI hf1 (by omega) _) (WO_k hL1 (by rw [dI_s]; rfl) (dI_n _ _ (by omega))) (by rw [dI_s]; simp only [upd, if_true]; rw [h4, show (0 : Int32) = nI 0 from rfl, nI_or]; show _ = nI (oN j (toolF q L) ||| toolF q L j); rw [show toolF q L j = 0 from if_pos (show q 5 (L.getD j 0) = 0 from nI_inj (by omega) (by omega) (c33 : nI _ = nI 0))]) (nI_1 j))
  exact L7 0 (Nat.zero_le _) _ _ (fW_dI (fW_r w d) (by omega) _) (WO_k hL (by rw [dI_s]; rfl) (dI_n _ _ (by omega))) (by rw [dI_s]; rfl) rfl

set_option maxHeartbeats 4000000 in
set_option maxRecDepth 100000 in
theorem kX6_sumTimes {q : St} {d : Dt} (hs : KS 0 d q) (ok : QOK q) {w : Nat} (hw : w = 134 ∨ w = 139) {L : List Nat} (hL : WO w d L) (hLt : ∀ t ∈ L, t < 12) (hl12 : L.length ≤ 12) {m : Nat} (hm : m < 3) : CP mX6_sumTimes 1 [.ref w, .ref 0, .int (nI m)] d (nI (tsum q L m)) := by
  show AW mX6_sumTimes 1 true (PIx (fun y d' => y = nI (tsum q L m) ∧ d' = d) nX) 0 0 0 [(0, .ref w), (1, .ref 0), (2, .int (nI m))] [] (HP d)
  have hw1 : 134 ≤ w ∧ w ≤ 139 := by omega
  have h12 := ok.2.1
  have hp12 := pow12 h12
  refine aw_iconst (v := 0) dX6_sumTimes_0 (by decide) ?_
  refine aw_istore_n dX6_sumTimes_1 (by decide) rfl ?_
  refine aw_iconst (v := 0) dX6_sumTimes_2 (by decide) ?_
  refine aw_istore dX6_sumTimes_3 (by decide) rfl ?_
  have L5 : ∀ j, j ≤ L.length → ∀ (v1 v2 : Int32), v1 = nI (sN j (fun k => q 4 (3 * L.getD k 0 + m))) → v2 = nI j → AW mX6_sumTimes 1 true (PIx (fun y d' => y = nI (tsum q L m) ∧ d' = d) nX) 0 0 5 [(0, .ref w), (1, .ref 0), (2, .int (nI m)), (3, .int v1), (4, .int v2)] [] (HP d) := by
    refine up_ind (fun j hj ih => ?_)
    rintro _ _ rfl rfl
    refine aw_iload dX6_sumTimes_5 rfl ?_
    refine aw_aload_n dX6_sumTimes_7 rfl ?_
    refine aw_gf dX6_sumTimes_8 (hpw_0 hw _) rfl fX6_75 (by decide) rfl ?_
    refine aw_icmp_ge 39 dX6_sumTimes_11 (by decide) (fun c11 => ?_) (fun c11 => ?_)
    · have hge : L.length ≤ j := (le_nI hL.1 rfl (by omega) (by omega)).mp c11
      have hj2 : j = L.length := by omega
      subst hj2
      refine aw_iload_n dX6_sumTimes_39 rfl ?_
      exact aw_endI dX6_sumTimes_40 rfl ⟨rfl, rfl⟩
    · have hlt : j < L.length := Nat.lt_of_not_le (fun z => c11 ((le_nI hL.1 rfl (by omega) (by omega)).mpr z))
      have hord := hL.2 j hlt
      have ht12 := hLt _ (getD_mem hlt)
      refine aw_iload_n dX6_sumTimes_14 rfl ?_
      refine aw_aload_n dX6_sumTimes_15 rfl ?_
      refine aw_gf dX6_sumTimes_16 (hp_0 _) rfl fX6_83 (by decide) rfl ?_
      refine aw_aload_n dX6_sumTimes_19 rfl ?_
      refine aw_gf dX6_sumTimes_20 (hpw_0 hw _) rfl fX6_9 (by decide) rfl ?_
      refine aw_iload dX6_sumTimes_23 rfl ?_
      refine aw_ialdN dX6_sumTimes_25 (hpw_1 hw _) rfl (j) (by first | rfl | (simp only [li_0, li_1, li_2, li_3, li_4, li_5, li_7, li_8, li_9, li_11, li_12, li_16, li_17, li_31, li_32, li_60, li_77, li_80, li_89, li_99, li_101, li_112, li_113, li_256, li_999, li_1023, nI_add, pk_mul])) (by omega) (by decide) ?_
      rw [hord]
      refine aw_iconst (v := 3) dX6_sumTimes_26 (by decide) ?_
      refine aw_imul dX6_sumTimes_27 ?_
      refine aw_iload_n dX6_sumTimes_28 rfl ?_
      refine aw_iadd dX6_sumTimes_29 ?_
      refine aw_ialdN dX6_sumTimes_30 (hp_4 _) rfl (L.getD j 0 * 3 + m) (by first | rfl | (simp only [li_0, li_1, li_2, li_3, li_4, li_5, li_7, li_8, li_9, li_11, li_12, li_16, li_17, li_31, li_32, li_60, li_77, li_80, li_89, li_99, li_101, li_112, li_113, li_256, li_999, li_1023, nI_add, pk_mul])) (by omega) (by decide) ?_
      rw [show d.1 4 (L.getD j 0 * 3 + m) = nI (q 4 (L.getD j 0 * 3 + m)) from hs 4 (L.getD j 0 * 3 + m) (by decide) (show L.getD j 0 * 3 + m < 36 by omega)]
      refine aw_iadd dX6_sumTimes_31 ?_
      refine aw_istore_n dX6_sumTimes_32 (by decide) rfl ?_
      refine aw_inc (c := 1) dX6_sumTimes_33 (by decide) rfl (by decide) rfl ?_
      refine aw_goto (tgt := 5) dX6_sumTimes_36 (by decide) ?_
      exact ih hlt _ _ (by rw [nI_add, Nat.mul_comm (L.getD j 0) 3]; rfl) (nI_1 j)
  exact L5 0 (Nat.zero_le _) _ _ rfl rfl

set_option maxHeartbeats 4000000 in
set_option maxRecDepth 100000 in
theorem kX6_countChanges {q : St} {d : Dt} (hs : KS 0 d q) (ok : QOK q) {w : Nat} (hw : w = 134 ∨ w = 139) {L : List Nat} (hL : WO w d L) (hLt : ∀ t ∈ L, t < 12) (hl12 : L.length ≤ 12) {m : Nat} (hm : m < 3) : CP mX6_countChanges 1 [.ref w, .ref 0, .int (nI m)] d (nI (chg (tlL q L m))) := by
  show AW mX6_countChanges 1 true (PIx (fun y d' => y = nI (chg (tlL q L m)) ∧ d' = d) nX) 0 0 0 [(0, .ref w), (1, .ref 0), (2, .int (nI m))] [] (HP d)
  have hw1 : 134 ≤ w ∧ w ≤ 139 := by omega
  have h12 := ok.2.1
  have hp12 := pow12 h12
  refine aw_iconst (v := 0) dX6_countChanges_0 (by decide) ?_
  refine aw_istore_n dX6_countChanges_1 (by decide) rfl ?_
  refine aw_iconst (v := 0) dX6_countChanges_2 (by decide) ?_
  refine aw_istore dX6_countChanges_3 (by decide) rfl ?_
  refine aw_iconst (v := 0) dX6_countChanges_5 (by decide) ?_
  refine aw_istore dX6_countChanges_6 (by decide) rfl ?_
  refine aw_iconst (v := 0) dX6_countChanges_8 (by decide) ?_
  refine aw_istore dX6_countChanges_9 (by decide) rfl ?_
  have L11 : ∀ j, j ≤ L.length → ∀ (v3 v4 v5 v6 : Int32), v3 = nI ((tlL q (L.take j) m).getD 0 0) → v4 = nI ((tlL q (L.take j) m).getD ((tlL q (L.take j) m).length - 1) 0) → v5 = nI (lin (tlL q (L.take j) m)) → v6 = nI j → AW mX6_countChanges 1 true (PIx (fun y d' => y = nI (chg (tlL q L m)) ∧ d' = d) nX) 0 0 11 [(0, .ref w), (1, .ref 0), (2, .int (nI m)), (3, .int v3), (4, .int v4), (5, .int v5), (6, .int v6)] [] (HP d) := by
    refine up_ind (fun j hj ih => ?_)
    rintro _ _ _ _ rfl rfl rfl rfl
    refine aw_iload dX6_countChanges_11 rfl ?_
    refine aw_aload_n dX6_countChanges_13 rfl ?_
    refine aw_gf dX6_countChanges_14 (hpw_0 hw _) rfl fX6_75 (by decide) rfl ?_
    refine aw_icmp_ge 101 dX6_countChanges_17 (by decide) (fun c17 => ?_) (fun c17 => ?_)
    · have hge : L.length ≤ j := (le_nI hL.1 rfl (by omega) (by omega)).mp c17
      have hj2 : j = L.length := by omega
      subst hj2
      refine aw_iload dX6_countChanges_101 rfl ?_
      refine aw_iload_n dX6_countChanges_103 rfl ?_
      refine aw_icmp_ne 112 dX6_countChanges_104 (by decide) (fun c104 => ?_) (fun c104 => ?_)
      · refine aw_iload dX6_countChanges_112 rfl ?_
        refine aw_iconst (v := 1) dX6_countChanges_114 (by decide) ?_
        refine aw_iadd dX6_countChanges_115 ?_
        have hU1 := tlL_le ok (L := L) (m := m) (k := 0) hLt
        have hU2 := tlL_le ok (L := L) (m := m) (k := (tlL q L m).length - 1) hLt
        exact aw_endI dX6_countChanges_116 rfl ⟨by rw [List.take_length, chg_lin, if_neg (fun z => c104 (by rw [List.take_length, z])), nI_1], rfl⟩
      · refine aw_iload dX6_countChanges_107 rfl ?_
        refine aw_goto (tgt := 116) dX6_countChanges_109 (by decide) ?_
        have hU1 := tlL_le ok (L := L) (m := m) (k := 0) hLt
        have hU2 := tlL_le ok (L := L) (m := m) (k := (tlL q L m).length - 1) hLt
        exact aw_endI dX6_countChanges_116 rfl ⟨by rw [List.take_length, chg_lin, if_pos (nI_inj (by omega) (by omega) (by rw [List.take_length] at c104; exact c104)), Nat.add_zero], rfl⟩
    · have hlt : j < L.length := Nat.lt_of_not_le (fun z => c17 ((le_nI hL.1 rfl (by omega) (by omega)).mpr z))
      have hord := hL.2 j hlt
      have ht12 := hLt _ (getD_mem hlt)
      have h5 := (ok.2.2.2.2.2.2.1 _ ht12).1
      have h4 := ok.2.2.2.2.2.1 (L.getD j 0 * 3 + m) (by omega)
      have hU1 := tlL_le ok (L := L.take j) (m := m) (k := 0) (fun t ht => hLt t (List.mem_of_mem_take ht))
      have hU2 := tlL_le ok (L := L.take j) (m := m) (k := (tlL q (L.take j) m).length - 1) (fun t ht => hLt t (List.mem_of_mem_take ht))
      refine aw_aload_n dX6_countChanges_20 rfl ?_
      refine aw_gf dX6_countChanges_21 (hp_0 _) rfl fX6_81 (by decide) rfl ?_
      refine aw_aload_n dX6_countChanges_24 rfl ?_
      refine aw_gf dX6_countChanges_25 (hpw_0 hw _) rfl fX6_9 (by decide) rfl ?_
      refine aw_iload dX6_countChanges_28 rfl ?_
      refine aw_ialdN dX6_countChanges_30 (hpw_1 hw _) rfl (j) (by first | rfl | (simp only [li_0, li_1, li_2, li_3, li_4, li_5, li_7, li_8, li_9, li_11, li_12, li_16, li_17, li_31, li_32, li_60, li_77, li_80, li_89, li_99, li_101, li_112, li_113, li_256, li_999, li_1023, nI_add, pk_mul])) (by omega) (by decide) ?_
      rw [hord]
      refine aw_ialdN dX6_countChanges_31 (hp_5 _) rfl (L.getD j 0) (by first | rfl | (simp only [li_0, li_1, li_2, li_3, li_4, li_5, li_7, li_8, li_9, li_11, li_12, li_16, li_17, li_31, li_32, li_60, li_77, li_80, li_89, li_99, li_101, li_112, li_113, li_256, li_999, li_1023, nI_add, pk_mul])) (by omega) (by decide) ?_
      rw [show d.1 5 (L.getD j 0) = nI (q 5 (L.getD j 0)) from hs 5 (L.getD j 0) (by decide) (show L.getD j 0 < 12 by omega)]
      refine aw_istore dX6_countChanges_32 (by decide) rfl ?_
      refine aw_iload dX6_countChanges_34 rfl ?_
      refine aw_if_eq 95 dX6_countChanges_36 (by decide) (fun c36 => ?_) (fun c36 => ?_)
      · refine aw_inc (c := 1) dX6_countChanges_95 (by decide) rfl (by decide) rfl ?_
        refine aw_goto (tgt := 11) dX6_countChanges_98 (by decide) ?_
        have hts := take_snoc hlt
        have hsn := tlL_snoc q (L.take j) (L.getD j 0) m
        rw [← hts] at hsn
        rw [if_neg (fun z => z.2 (nI_inj (by omega) (by omega) (c36 : nI _ = nI 0)))] at hsn
        exact aw_pick [0, 1, 2, 3, 4, 5, 6] (ih hlt _ _ _ _ (by rw [hsn]) (by rw [hsn]) (by rw [hsn]) (nI_1 j))
      · refine aw_aload_n dX6_countChanges_39 rfl ?_
        refine aw_gf dX6_countChanges_40 (hp_0 _) rfl fX6_83 (by decide) rfl ?_
        refine aw_aload_n dX6_countChanges_43 rfl ?_
        refine aw_gf dX6_countChanges_44 (hpw_0 hw _) rfl fX6_9 (by decide) rfl ?_
        refine aw_iload dX6_countChanges_47 rfl ?_
        refine aw_ialdN dX6_countChanges_49 (hpw_1 hw _) rfl (j) (by first | rfl | (simp only [li_0, li_1, li_2, li_3, li_4, li_5, li_7, li_8, li_9, li_11, li_12, li_16, li_17, li_31, li_32, li_60, li_77, li_80, li_89, li_99, li_101, li_112, li_113, li_256, li_999, li_1023, nI_add, pk_mul])) (by omega) (by decide) ?_
        rw [hord]
        refine aw_iconst (v := 3) dX6_countChanges_50 (by decide) ?_
        refine aw_imul dX6_countChanges_51 ?_
        refine aw_iload_n dX6_countChanges_52 rfl ?_
        refine aw_iadd dX6_countChanges_53 ?_
        refine aw_ialdN dX6_countChanges_54 (hp_4 _) rfl (L.getD j 0 * 3 + m) (by first | rfl | (simp only [li_0, li_1, li_2, li_3, li_4, li_5, li_7, li_8, li_9, li_11, li_12, li_16, li_17, li_31, li_32, li_60, li_77, li_80, li_89, li_99, li_101, li_112, li_113, li_256, li_999, li_1023, nI_add, pk_mul])) (by omega) (by decide) ?_
        rw [show d.1 4 (L.getD j 0 * 3 + m) = nI (q 4 (L.getD j 0 * 3 + m)) from hs 4 (L.getD j 0 * 3 + m) (by decide) (show L.getD j 0 * 3 + m < 36 by omega)]
        refine aw_if_le 95 dX6_countChanges_55 (by decide) (fun c55 => ?_) (fun c55 => ?_)
        · refine aw_inc (c := 1) dX6_countChanges_95 (by decide) rfl (by decide) rfl ?_
          refine aw_goto (tgt := 11) dX6_countChanges_98 (by decide) ?_
          have hts := take_snoc hlt
          have hsn := tlL_snoc q (L.take j) (L.getD j 0) m
          rw [← hts] at hsn
          rw [if_neg (fun z => by have := (le_nI rfl (show (0 : Int32) = nI 0 from rfl) (by omega) (by omega)).mp c55; rw [Nat.mul_comm] at this; omega)] at hsn
          exact aw_pick [0, 1, 2, 3, 4, 5, 6] (ih hlt _ _ _ _ (by rw [hsn]) (by rw [hsn]) (by rw [hsn]) (nI_1 j))
        · refine aw_iload dX6_countChanges_58 rfl ?_
          refine aw_join (P := fun v => v = b2i (decide ((tlL q (L.take j) m).length ≠ 0 ∧ (tlL q (L.take j) m).getD ((tlL q (L.take j) m).length - 1) 0 ≠ q 5 (L.getD j 0)))) 77 (fun v hv77 => ?_) (fun kJ77 => ?_)
          · subst hv77
            refine aw_iadd dX6_countChanges_77 ?_
            refine aw_istore dX6_countChanges_78 (by decide) rfl ?_
            refine aw_join (P := fun v => v = nI ((tlL q (L.take j) m ++ [q 5 (L.getD j 0)]).getD 0 0)) 90 (fun v hv90 => ?_) (fun kJ90 => ?_)
            · subst hv90
              refine aw_istore_n dX6_countChanges_90 (by decide) rfl ?_
              refine aw_iload dX6_countChanges_91 rfl ?_
              refine aw_istore dX6_countChanges_93 (by decide) rfl ?_
              refine aw_inc (c := 1) dX6_countChanges_95 (by decide) rfl (by decide) rfl ?_
              refine aw_goto (tgt := 11) dX6_countChanges_98 (by decide) ?_
              have hts := take_snoc hlt
              have hsn := tlL_snoc q (L.take j) (L.getD j 0) m
              rw [← hts] at hsn
              rw [if_pos ⟨by have := mt (le_nI (rfl : nI (q 4 (L.getD j 0 * 3 + m)) = _) (show (0 : Int32) = nI 0 from rfl) (by omega) (by omega)).mpr c55; rw [Nat.mul_comm] at this; omega, fun z => c36 (by rw [z]; rfl)⟩] at hsn
              exact aw_pick [0, 1, 2, 3, 4, 5, 6] (ih hlt _ _ _ _ (by rw [hsn]) (by rw [hsn, List.length_append, show (tlL q (L.take j) m).length + [q 5 (L.getD j 0)].length - 1 = (tlL q (L.take j) m).length from by simp, getD_app2]) (by rw [hsn, lin_s]; show nI _ + b2i _ = _; unfold b2i; simp only [decide_eq_true_eq]; split <;> exact nI_add _ _) (nI_1 j))
            · refine aw_iload_n dX6_countChanges_80 rfl ?_
              refine aw_if_ne 89 dX6_countChanges_81 (by decide) (fun c81 => ?_) (fun c81 => ?_)
              · refine aw_iload_n dX6_countChanges_89 rfl ?_
                exact kJ90 _ (by rw [getD_app1 (by rcases Nat.eq_zero_or_pos (tlL q (L.take j) m).length with z | z; exact absurd (by rw [List.length_eq_zero_iff.mp z]; rfl) c81; exact z)])
              · refine aw_iload dX6_countChanges_84 rfl ?_
                refine aw_goto (tgt := 90) dX6_countChanges_86 (by decide) ?_
                exact kJ90 _ (by have z : (tlL q (L.take j) m).length = 0 := (by rcases Nat.eq_zero_or_pos (tlL q (L.take j) m).length with z | z; exact z; exact absurd (show (tlL q (L.take j) m).getD 0 0 = 0 from nI_inj (by omega) (by omega) (c81 : nI _ = nI 0)) (tlL_ne z)); rw [List.length_eq_zero_iff.mp z]; rfl)
          · refine aw_iload dX6_countChanges_60 rfl ?_
            refine aw_if_eq 76 dX6_countChanges_62 (by decide) (fun c62 => ?_) (fun c62 => ?_)
            · refine aw_iconst (v := 0) dX6_countChanges_76 (by decide) ?_
              exact kJ77 _ (by rw [b2i_f (fun z => tlL_ne (show (tlL q (L.take j) m).length - 1 < (tlL q (L.take j) m).length by omega) (nI_inj (by omega) (by omega) (c62 : nI _ = nI 0)))])
            · refine aw_iload dX6_countChanges_65 rfl ?_
              refine aw_iload dX6_countChanges_67 rfl ?_
              refine aw_icmp_eq 76 dX6_countChanges_69 (by decide) (fun c69 => ?_) (fun c69 => ?_)
              · refine aw_iconst (v := 0) dX6_countChanges_76 (by decide) ?_
                exact kJ77 _ (by rw [b2i_f (fun z => z.2 (nI_inj (by omega) (by omega) c69).symm)])
              · refine aw_iconst (v := 1) dX6_countChanges_72 (by decide) ?_
                refine aw_goto (tgt := 77) dX6_countChanges_73 (by decide) ?_
                exact kJ77 _ (by rw [b2i_t ⟨fun z => c62 (by rw [List.length_eq_zero_iff.mp z]; rfl), fun z => c69 (by rw [z])⟩])
  exact L11 0 (Nat.zero_le _) _ _ _ _ rfl rfl rfl rfl

set_option maxHeartbeats 4000000 in
set_option maxRecDepth 100000 in
theorem kX6_lack {q : St} {d : Dt} (hs : KS 0 d q) (ok : QOK q) {w : Nat} (hw : w = 134 ∨ w = 139) {S : Nat} (hS : S < 2 ^ q 0 1) (hR : WR w d q S) {c : Nat} : CP mX6_lack 1 [.ref w, .ref 0, .int (nI c)] d (nI (c * q 2 0 * td q) - nI (ld q S)) := by
  show AW mX6_lack 1 true (PIx (fun y d' => y = nI (c * q 2 0 * td q) - nI (ld q S) ∧ d' = d) nX) 0 0 0 [(0, .ref w), (1, .ref 0), (2, .int (nI c))] [] (HP d)
  have hw1 : 134 ≤ w ∧ w ≤ 139 := by omega
  have h12 := ok.2.1
  have hp12 := pow12 h12
  refine aw_iload_n dX6_lack_0 rfl ?_
  refine aw_aload_n dX6_lack_1 rfl ?_
  refine aw_gf dX6_lack_2 (hp_0 _) rfl fX6_51 (by decide) rfl ?_
  refine aw_iconst (v := 0) dX6_lack_5 (by decide) ?_
  refine aw_ialdN dX6_lack_6 (hp_2 _) rfl (0) (by first | rfl | (simp only [li_0, li_1, li_2, li_3, li_4, li_5, li_7, li_8, li_9, li_11, li_12, li_16, li_17, li_31, li_32, li_60, li_77, li_80, li_89, li_99, li_101, li_112, li_113, li_256, li_999, li_1023, nI_add, pk_mul])) (by omega) (by decide) ?_
  rw [show d.1 2 (0) = nI (q 2 (0)) from hs 2 (0) (by decide) (show (0) < 4 by omega)]
  refine aw_imul dX6_lack_7 ?_
  refine aw_aload_n dX6_lack_8 rfl ?_
  refine aw_gf dX6_lack_9 (hpw_0 hw _) rfl fX6_36 (by decide) rfl ?_
  refine aw_imul dX6_lack_12 ?_
  refine aw_aload_n dX6_lack_13 rfl ?_
  refine aw_gf dX6_lack_14 (hpw_0 hw _) rfl fX6_29 (by decide) rfl ?_
  refine aw_isub dX6_lack_17 ?_
  exact aw_endI dX6_lack_18 rfl ⟨by rw [pk_mul, hR.2.2.2.2.1, pk_mul, hR.2.2.1], rfl⟩

set_option maxHeartbeats 4000000 in
set_option maxRecDepth 100000 in
theorem kX6_isWithinToolLimit {q : St} {d : Dt} (hs : KS 0 d q) (ok : QOK q) {w : Nat} (hw : w = 134 ∨ w = 139) {S : Nat} (hS : S < 2 ^ q 0 1) (hR : WR w d q S) : CP mX6_isWithinToolLimit 2 [.ref w, .ref 0] d (b2i (decide (pc (tls q S) ≤ q 2 2))) := by
  show AW mX6_isWithinToolLimit 2 true (PIx (fun y d' => y = b2i (decide (pc (tls q S) ≤ q 2 2)) ∧ d' = d) nX) 0 0 0 [(0, .ref w), (1, .ref 0)] [] (HP d)
  have hw1 : 134 ≤ w ∧ w ≤ 139 := by omega
  have h12 := ok.2.1
  have hp12 := pow12 h12
  have hpc := pc_le32 (tls q S)
  have h22 := ok.2.2.2.1
  have htl := tls_lt ok S
  refine aw_aload_n dX6_isWithinToolLimit_0 rfl ?_
  refine aw_gf dX6_isWithinToolLimit_1 (hpw_0 hw _) rfl fX6_63 (by decide) rfl ?_
  rw [hR.2.1]
  refine aw_cSP dX6_isWithinToolLimit_4 oJ6_bitCount_0f7a4 sJ6_bitCount_0f7a4 rfl lX6_66 (kJ6_bitCount_0f7a4 (s := tls q S) (by omega)) rfl rfl (Nat.le_of_ble_eq_true rfl) (by decide) (Nat.le_of_ble_eq_true rfl) ?_
  refine aw_aload_n dX6_isWithinToolLimit_7 rfl ?_
  refine aw_gf dX6_isWithinToolLimit_8 (hp_0 _) rfl fX6_51 (by decide) rfl ?_
  refine aw_iconst (v := 2) dX6_isWithinToolLimit_11 (by decide) ?_
  refine aw_ialdN dX6_isWithinToolLimit_12 (hp_2 _) rfl (2) (by first | rfl | (simp only [li_0, li_1, li_2, li_3, li_4, li_5, li_7, li_8, li_9, li_11, li_12, li_16, li_17, li_31, li_32, li_60, li_77, li_80, li_89, li_99, li_101, li_112, li_113, li_256, li_999, li_1023, nI_add, pk_mul])) (by omega) (by decide) ?_
  rw [show d.1 2 (2) = nI (q 2 (2)) from hs 2 (2) (by decide) (show (2) < 4 by omega)]
  refine aw_icmp_gt 20 dX6_isWithinToolLimit_13 (by decide) (fun c13 => ?_) (fun c13 => ?_)
  · refine aw_iconst (v := 0) dX6_isWithinToolLimit_20 (by decide) ?_
    exact aw_endZ dX6_isWithinToolLimit_21 rfl (by decide) ⟨by rw [b2i_f (by have := (lt_nI rfl rfl (by omega) (by omega)).mp c13; omega)], rfl⟩
  · refine aw_iconst (v := 1) dX6_isWithinToolLimit_16 (by decide) ?_
    refine aw_goto (tgt := 21) dX6_isWithinToolLimit_17 (by decide) ?_
    exact aw_endZ dX6_isWithinToolLimit_21 rfl (by decide) ⟨by rw [b2i_t (by have := mt (lt_nI (rfl : nI (q 2 2) = nI (q 2 2)) (rfl : nI (pc (tls q S)) = nI (pc (tls q S))) (by omega) (by omega)).mpr c13; omega)], rfl⟩

theorem sub_neg9 {a b : Nat} (h : a < b) (hb : b < 2 ^ 30) : nI a - nI b < 0 := by
  rw [Int32.lt_iff_toInt_lt, Int32.toInt_sub, nI_toInt (by omega), nI_toInt (by omega), Int.bmod_eq_of_le_mul_two (by omega) (by omega), Int32.toInt_zero]
  omega
set_option maxHeartbeats 4000000 in
set_option maxRecDepth 100000 in
theorem kX6_fits {q : St} {d : Dt} (hs : KS 0 d q) (ok : QOK q) {w : Nat} (hw : w = 134 ∨ w = 139) {S : Nat} (hS : S < 2 ^ q 0 1) (hR : WR w d q S) {c : Nat} (hc : c ≤ 3) : CP mX6_fits 2 [.ref w, .ref 0, .int (nI c)] d (b2i (fitB q S c)) := by
  show AW mX6_fits 2 true (PIx (fun y d' => y = b2i (fitB q S c) ∧ d' = d) nX) 0 0 0 [(0, .ref w), (1, .ref 0), (2, .int (nI c))] [] (HP d)
  have hw1 : 134 ≤ w ∧ w ≤ 139 := by omega
  have h12 := ok.2.1
  have hp12 := pow12 h12
  obtain ⟨h20, h21, h22, h23, h24, h25⟩ := ok.2.2.2.1
  have hb0 : c * q 2 0 ≤ 3 * 999 := Nat.mul_le_mul hc h21
  have htd := td_le ok
  have hld := ld_le ok hS
  have hb1 : c * q 2 0 * td q ≤ 3 * 999 * 27 := Nat.mul_le_mul hb0 htd.2
  have hmx : mxQ q S (q 0 0) ≤ 1428 := mxQ_le _ |>.mpr (fun m hm => tm_le ok hS (by have := ok.1.2; omega))
  refine aw_aload_n dX6_fits_0 rfl ?_
  refine aw_gf dX6_fits_1 (hp_0 _) rfl fX6_51 (by decide) rfl ?_
  refine aw_iconst (v := 3) dX6_fits_4 (by decide) ?_
  refine aw_ialdN dX6_fits_5 (hp_2 _) rfl (3) (by first | rfl | (simp only [li_0, li_1, li_2, li_3, li_4, li_5, li_7, li_8, li_9, li_11, li_12, li_16, li_17, li_31, li_32, li_60, li_77, li_80, li_89, li_99, li_101, li_112, li_113, li_256, li_999, li_1023, nI_add, pk_mul])) (by omega) (by decide) ?_
  rw [show d.1 2 (3) = nI (q 2 (3)) from hs 2 (3) (by decide) (show (3) < 4 by omega)]
  refine aw_iconst (v := 1) dX6_fits_6 (by decide) ?_
  refine aw_icmp_ne 31 dX6_fits_7 (by decide) (fun c7 => ?_) (fun c7 => ?_)
  · have h0 : q 2 3 = 0 := by
      rcases (show q 2 3 = 0 ∨ q 2 3 = 1 by omega) with z | z
      · exact z
      · exact absurd (by rw [z]; rfl) c7
    refine aw_aload_n dX6_fits_31 rfl ?_
    refine aw_aload_n dX6_fits_32 rfl ?_
    refine aw_iload_n dX6_fits_33 rfl ?_
    refine aw_cVP dX6_fits_34 oX6_lack vX6_lack rfl lX6_72 (kX6_lack hs ok hw hS hR) rfl (hpw_0 hw _) rfl rfl rfl (Nat.le_of_ble_eq_true rfl) (by decide) (Nat.le_of_ble_eq_true rfl) ?_
    refine aw_if_lt 44 dX6_fits_37 (by decide) (fun c37 => ?_) (fun c37 => ?_)
    · refine aw_iconst (v := 0) dX6_fits_44 (by decide) ?_
      exact aw_endZ dX6_fits_45 rfl (by decide) ⟨by unfold fitB; rw [if_pos h0, b2i_f (fun z => by rw [pk_sub z] at c37; exact nI_pos (by omega) c37)], rfl⟩
    · refine aw_iconst (v := 1) dX6_fits_40 (by decide) ?_
      refine aw_goto (tgt := 45) dX6_fits_41 (by decide) ?_
      exact aw_endZ dX6_fits_45 rfl (by decide) ⟨by unfold fitB; rw [if_pos h0, b2i_t (by rcases Nat.lt_or_ge (c * q 2 0 * td q) (ld q S) with z | z; exact absurd (sub_neg9 z (by omega)) c37; exact z)], rfl⟩
  · have h0 : ¬ q 2 3 = 0 := fun z => by rw [z] at c7; exact absurd c7 (by decide)
    refine aw_aload_n dX6_fits_10 rfl ?_
    refine aw_gf dX6_fits_11 (hpw_0 hw _) rfl fX6_33 (by decide) rfl ?_
    rw [hR.2.2.2.1]
    refine aw_iload_n dX6_fits_14 rfl ?_
    refine aw_aload_n dX6_fits_15 rfl ?_
    refine aw_gf dX6_fits_16 (hp_0 _) rfl fX6_51 (by decide) rfl ?_
    refine aw_iconst (v := 0) dX6_fits_19 (by decide) ?_
    refine aw_ialdN dX6_fits_20 (hp_2 _) rfl (0) (by first | rfl | (simp only [li_0, li_1, li_2, li_3, li_4, li_5, li_7, li_8, li_9, li_11, li_12, li_16, li_17, li_31, li_32, li_60, li_77, li_80, li_89, li_99, li_101, li_112, li_113, li_256, li_999, li_1023, nI_add, pk_mul])) (by omega) (by decide) ?_
    rw [show d.1 2 (0) = nI (q 2 (0)) from hs 2 (0) (by decide) (show (0) < 4 by omega)]
    refine aw_imul dX6_fits_21 ?_
    rw [pk_mul]
    refine aw_icmp_gt 29 dX6_fits_22 (by decide) (fun c22 => ?_) (fun c22 => ?_)
    · refine aw_iconst (v := 0) dX6_fits_29 (by decide) ?_
      have h9 := (lt_nI rfl rfl (by omega) (by omega)).mp c22
      exact aw_endZ dX6_fits_30 rfl (by decide) ⟨by unfold fitB; rw [if_neg h0, b2i_f (fun z => by have := (mxQ_le (q 0 0)).mpr z; omega)], rfl⟩
    · refine aw_iconst (v := 1) dX6_fits_25 (by decide) ?_
      refine aw_goto (tgt := 30) dX6_fits_26 (by decide) ?_
      have h9 : mxQ q S (q 0 0) ≤ c * q 2 0 := by
        have := mt (lt_nI (rfl : nI (c * q 2 0) = nI (c * q 2 0)) (rfl : nI (mxQ q S (q 0 0)) = nI (mxQ q S (q 0 0))) (by omega) (by omega)).mpr c22
        omega
      exact aw_endZ dX6_fits_30 rfl (by decide) ⟨by unfold fitB; rw [if_neg h0, b2i_t ((mxQ_le (q 0 0)).mp h9)], rfl⟩

theorem lt_ite9 {a b : Nat} (ha : a < 2 ^ 31) (hb : b < 2 ^ 31) : (if nI a < nI b then nI b else nI a) = nI (if a < b then b else a) := by
  by_cases h : a < b
  · rw [if_pos ((lt_nI rfl rfl ha hb).mpr h), if_pos h]
  · rw [if_neg (fun z => h ((lt_nI rfl rfl ha hb).mp z)), if_neg h]
theorem WM_0 {w : Nat} {d d1 : Dt} {q : St} {S : Nat} (hO : WO w d (ordL q S)) (h4 : d.1 w 4 = nI (tls q S)) (e1 : d1.1 w 3 = d.1 w 3) (e2 : d1.1 w 4 = d.1 w 4) (e3 : d1.1 (w + 1) = d.1 (w + 1)) (z5 : d1.1 w 5 = 0) (z6 : d1.1 w 6 = 0) (z7 : d1.1 w 7 = 0) : WM w d1 q S 0 0 0 0 0 := ⟨WO_k hO e1 e3, e2.trans h4, z5, z6, z7, fun m hm => absurd hm (Nat.not_lt_zero _), fun m hm => absurd hm (Nat.not_lt_zero _)⟩
set_option maxHeartbeats 4000000 in
set_option maxRecDepth 100000 in
theorem kX6_measure {q : St} {d : Dt} (hs : KS 0 d q) (ok : QOK q) {w : Nat} (hw : w = 134 ∨ w = 139) {S : Nat} (hS : S < 2 ^ q 0 1) : CV mX6_measure 2 [.ref w, .ref 0, .int (nI S)] d (fun d' => fW w d d' ∧ WR w d' q S) := by
  show AW mX6_measure 2 true (PVx (fun d' => fW w d d' ∧ WR w d' q S) nX) 0 0 0 [(0, .ref w), (1, .ref 0), (2, .int (nI S))] [] (HP d)
  have hw1 : 134 ≤ w ∧ w ≤ 139 := by omega
  have h12 := ok.2.1
  have hp12 := pow12 h12
  obtain ⟨⟨okM1, okM2⟩, -⟩ := id ok
  have hLt : ∀ t ∈ ordL q S, t < 12 := fun t ht => by have := (ordF_mem ok ok.2.1 12 S hS t ht).1; omega
  have hl12 := ordL_len q S
  refine aw_aload_n dX6_measure_0 rfl ?_
  refine aw_aload_n dX6_measure_1 rfl ?_
  refine aw_iload_n dX6_measure_2 rfl ?_
  refine aw_cVv dX6_measure_3 oX6_arrange vX6_arrange rfl lX6_21 (kX6_arrange hs ok hw hS) rfl (hpw_0 hw _) rfl rfl rfl (Nat.le_of_ble_eq_true rfl) (by decide) (Nat.le_of_ble_eq_true rfl) ?_
  rintro d1 ⟨f1, hO1⟩
  have hs1 : KS 0 d1 q := KS_W (by omega) hs f1
  refine aw_aload_n dX6_measure_6 rfl ?_
  refine aw_aload_n dX6_measure_7 rfl ?_
  refine aw_cVv dX6_measure_8 oX6_collectTools vX6_collectTools rfl lX6_25 (kX6_collectTools hs1 ok hw hO1 hLt hl12) rfl (hpw_0 hw _) rfl rfl rfl (Nat.le_of_ble_eq_true rfl) (by decide) (Nat.le_of_ble_eq_true rfl) ?_
  rintro d2 ⟨f2, hO2, h42⟩
  rw [tools_L ok hS] at h42
  have hs2 : KS 0 d2 q := KS_W (by omega) hs1 f2
  refine aw_aload_n dX6_measure_11 rfl ?_
  refine aw_iconst (v := 0) dX6_measure_12 (by decide) ?_
  refine aw_putI (ci := 6) (j := 5) .int dX6_measure_13 fX6_29 rfl (by decide) rfl tyX6 tyX6_ok nmX6 rfl rfl rfl (hpw_0 hw _) (Nat.le_of_ble_eq_true rfl) (by rw [hpw_0 hw, dI_s]; rfl) ?_
  refine aw_aload_n dX6_measure_16 rfl ?_
  refine aw_iconst (v := 0) dX6_measure_17 (by decide) ?_
  refine aw_putI (ci := 6) (j := 6) .int dX6_measure_18 fX6_33 rfl (by decide) rfl tyX6 tyX6_ok nmX6 rfl rfl rfl (hpw_0 hw _) (Nat.le_of_ble_eq_true rfl) (by rw [hpw_0 hw, dI_s]; rfl) ?_
  refine aw_aload_n dX6_measure_21 rfl ?_
  refine aw_iconst (v := 0) dX6_measure_22 (by decide) ?_
  refine aw_putI (ci := 6) (j := 7) .int dX6_measure_23 fX6_36 rfl (by decide) rfl tyX6 tyX6_ok nmX6 rfl rfl rfl (hpw_0 hw _) (Nat.le_of_ble_eq_true rfl) (by rw [hpw_0 hw, dI_s]; rfl) ?_
  refine aw_iconst (v := 0) dX6_measure_26 (by decide) ?_
  refine aw_istore_n dX6_measure_27 (by decide) rfl ?_
  have L28 : ∀ m, m ≤ q 0 0 → ∀ (d3 : Dt) (v3 : Int32), fW w d d3 → WM w d3 q S m m m m m → v3 = nI m → AW mX6_measure 2 true (PVx (fun d' => fW w d d' ∧ WR w d' q S) nX) 0 0 28 [(0, .ref w), (1, .ref 0), (2, .int (nI S)), (3, .int v3)] [] (HP d3) := by
    refine up_ind (fun m hj ih => ?_)
    rintro d3 _ f3 wm3 rfl; have hs3 : KS 0 d3 q := KS_W (by omega) hs f3
    refine aw_iload_n dX6_measure_28 rfl ?_
    refine aw_aload_n dX6_measure_29 rfl ?_
    refine aw_gf dX6_measure_30 (hp_0 _) rfl fX6_39 (by decide) rfl ?_
    refine aw_icmp_ge 134 dX6_measure_33 (by decide) (fun c33 => ?_) (fun c33 => ?_)
    · have hge : q 0 0 ≤ m := (le_nI (hs3 0 0 (by decide) (by decide)) rfl (by omega) (by omega)).mp c33
      have hj2 : m = q 0 0 := by omega
      subst hj2
      exact aw_endV dX6_measure_134 rfl ⟨f3, WR_of wm3⟩
    · have hlt : m < q 0 0 := Nat.lt_of_not_le (fun z => c33 ((le_nI (hs3 0 0 (by decide) (by decide)) rfl (by omega) (by omega)).mpr z))
      have htm := tm_le ok hS (show m < 3 by omega)
      refine aw_aload_n dX6_measure_36 rfl ?_
      refine aw_gf dX6_measure_37 (hpw_0 hw _) rfl fX6_15 (by decide) rfl ?_
      refine aw_iload_n dX6_measure_40 rfl ?_
      refine aw_aload_n dX6_measure_41 rfl ?_
      refine aw_aload_n dX6_measure_42 rfl ?_
      refine aw_iload_n dX6_measure_43 rfl ?_
      refine aw_cVP dX6_measure_44 oX6_countChanges vX6_countChanges rfl lX6_44 (kX6_countChanges hs3 ok hw wm3.1 hLt hl12 (m := m) (by omega)) rfl (hpw_0 hw _) rfl rfl rfl (Nat.le_of_ble_eq_true rfl) (by decide) (Nat.le_of_ble_eq_true rfl) ?_
      refine aw_iastN dX6_measure_47 (hpw_2 hw) (m) rfl (by omega) (by decide)  ?_
      have wm1 := WM_a wm3
      have f1 := fW_dI f3 (show w ≤ w + 2 ∧ w + 2 ≤ w + 3 by omega) (upd (d3.1 (w + 2)) m (nI (chg (tlL q (ordL q S) m))))
      generalize dI d3 (w + 2) (upd (d3.1 (w + 2)) m (nI (chg (tlL q (ordL q S) m)))) = e1 at wm1 f1 ⊢
      have hs1 : KS 0 e1 q := KS_W (by omega) hs f1
      refine aw_aload_n dX6_measure_48 rfl ?_
      refine aw_gf dX6_measure_49 (hpw_0 hw _) rfl fX6_18 (by decide) rfl ?_
      refine aw_iload_n dX6_measure_52 rfl ?_
      refine aw_aload_n dX6_measure_53 rfl ?_
      refine aw_aload_n dX6_measure_54 rfl ?_
      refine aw_iload_n dX6_measure_55 rfl ?_
      refine aw_cVP dX6_measure_56 oX6_sumTimes vX6_sumTimes rfl lX6_48 (kX6_sumTimes hs1 ok hw wm1.1 hLt hl12 (m := m) (by omega)) rfl (hpw_0 hw _) rfl rfl rfl (Nat.le_of_ble_eq_true rfl) (by decide) (Nat.le_of_ble_eq_true rfl) ?_
      refine aw_aload_n dX6_measure_59 rfl ?_
      refine aw_gf dX6_measure_60 (hpw_0 hw _) rfl fX6_15 (by decide) rfl ?_
      refine aw_iload_n dX6_measure_63 rfl ?_
      refine aw_ialdN dX6_measure_64 (hpw_2 hw _) rfl (m) (by first | rfl | (simp only [li_0, li_1, li_2, li_3, li_4, li_5, li_7, li_8, li_9, li_11, li_12, li_16, li_17, li_31, li_32, li_60, li_77, li_80, li_89, li_99, li_101, li_112, li_113, li_256, li_999, li_1023, nI_add, pk_mul])) (by omega) (by decide) ?_
      rw [wm1.2.2.2.2.2.1 m (by omega)]
      refine aw_aload_n dX6_measure_65 rfl ?_
      refine aw_gf dX6_measure_66 (hp_0 _) rfl fX6_51 (by decide) rfl ?_
      refine aw_iconst (v := 1) dX6_measure_69 (by decide) ?_
      refine aw_ialdN dX6_measure_70 (hp_2 _) rfl (1) (by first | rfl | (simp only [li_0, li_1, li_2, li_3, li_4, li_5, li_7, li_8, li_9, li_11, li_12, li_16, li_17, li_31, li_32, li_60, li_77, li_80, li_89, li_99, li_101, li_112, li_113, li_256, li_999, li_1023, nI_add, pk_mul])) (by omega) (by decide) ?_
      rw [show e1.1 2 1 = nI (q 2 1) from hs1 2 1 (by decide) (by decide)]
      refine aw_imul dX6_measure_71 ?_
      refine aw_iadd dX6_measure_72 ?_
      rw [pk_mul, nI_add, show tsum q (ordL q S) m + chg (tlL q (ordL q S) m) * q 2 1 = tm q S m from Nat.add_comm _ _]
      refine aw_iastN dX6_measure_73 (hpw_3 hw) (m) rfl (by omega) (by decide)  ?_
      have wm2 := WM_b wm1
      have f2 := fW_dI f1 (show w ≤ w + 3 ∧ w + 3 ≤ w + 3 by omega) (upd (e1.1 (w + 3)) m (nI (tm q S m)))
      generalize dI e1 (w + 3) (upd (e1.1 (w + 3)) m (nI (tm q S m))) = e2 at wm2 f2 ⊢
      have hs2 : KS 0 e2 q := KS_W (by omega) hs f2
      refine aw_aload_n dX6_measure_74 rfl ?_
      refine aw_dup dX6_measure_75 rfl ?_
      refine aw_gf dX6_measure_76 (hpw_0 hw _) rfl fX6_29 (by decide) rfl ?_
      refine aw_aload_n dX6_measure_79 rfl ?_
      refine aw_gf dX6_measure_80 (hp_0 _) rfl fX6_54 (by decide) rfl ?_
      refine aw_iload_n dX6_measure_83 rfl ?_
      refine aw_ialdN dX6_measure_84 (hp_1 _) rfl (m) (by first | rfl | (simp only [li_0, li_1, li_2, li_3, li_4, li_5, li_7, li_8, li_9, li_11, li_12, li_16, li_17, li_31, li_32, li_60, li_77, li_80, li_89, li_99, li_101, li_112, li_113, li_256, li_999, li_1023, nI_add, pk_mul])) (by omega) (by decide) ?_
      rw [show e2.1 1 m = nI (q 1 m) from hs2 1 m (by decide) (show m < 3 by omega)]
      refine aw_aload_n dX6_measure_85 rfl ?_
      refine aw_gf dX6_measure_86 (hpw_0 hw _) rfl fX6_18 (by decide) rfl ?_
      refine aw_iload_n dX6_measure_89 rfl ?_
      refine aw_ialdN dX6_measure_90 (hpw_3 hw _) rfl (m) (by first | rfl | (simp only [li_0, li_1, li_2, li_3, li_4, li_5, li_7, li_8, li_9, li_11, li_12, li_16, li_17, li_31, li_32, li_60, li_77, li_80, li_89, li_99, li_101, li_112, li_113, li_256, li_999, li_1023, nI_add, pk_mul])) (by omega) (by decide) ?_
      rw [wm2.2.2.2.2.2.2 m (by omega)]
      refine aw_imul dX6_measure_91 ?_
      refine aw_iadd dX6_measure_92 ?_
      rw [wm2.2.2.1, pk_mul, nI_add, show nI (sN m (fun m => q 1 m * tm q S m) + q 1 m * tm q S m) = nI (sN (m + 1) (fun m => q 1 m * tm q S m)) from rfl]
      refine aw_putI (ci := 6) (j := 5) .int dX6_measure_93 fX6_29 rfl (by decide) rfl tyX6 tyX6_ok nmX6 rfl rfl rfl (hpw_0 hw _) (Nat.le_of_ble_eq_true rfl) (by rw [hpw_0 hw, dI_s]; rfl) ?_
      have wm3 := WM_w wm2 (c' := m + 1) (e' := m) (f' := m) (j := 5) (x := nI (sN (m + 1) (fun m => q 1 m * tm q S m))) (by simp only [upd, if_true]) (by simp only [upd]; rw [if_neg (by decide)]; exact wm2.2.2.2.1) (by simp only [upd]; rw [if_neg (by decide)]; exact wm2.2.2.2.2.1) (by decide)
      have f3 := fW_dI f2 (show w ≤ w ∧ w ≤ w + 3 by omega) (upd (e2.1 w) 5 (nI (sN (m + 1) (fun m => q 1 m * tm q S m))))
      generalize dI e2 w (upd (e2.1 w) 5 (nI (sN (m + 1) (fun m => q 1 m * tm q S m)))) = e3 at wm3 f3 ⊢
      refine aw_aload_n dX6_measure_96 rfl ?_
      refine aw_aload_n dX6_measure_97 rfl ?_
      refine aw_gf dX6_measure_98 (hpw_0 hw _) rfl fX6_33 (by decide) rfl ?_
      refine aw_aload_n dX6_measure_101 rfl ?_
      refine aw_gf dX6_measure_102 (hpw_0 hw _) rfl fX6_18 (by decide) rfl ?_
      refine aw_iload_n dX6_measure_105 rfl ?_
      refine aw_ialdN dX6_measure_106 (hpw_3 hw _) rfl (m) (by first | rfl | (simp only [li_0, li_1, li_2, li_3, li_4, li_5, li_7, li_8, li_9, li_11, li_12, li_16, li_17, li_31, li_32, li_60, li_77, li_80, li_89, li_99, li_101, li_112, li_113, li_256, li_999, li_1023, nI_add, pk_mul])) (by omega) (by decide) ?_
      rw [wm3.2.2.2.1, wm3.2.2.2.2.2.2 m (by omega)]
      refine aw_mmax dX6_measure_107 lX6_57 (by decide) (Nat.le_of_ble_eq_true rfl) (v := nI (mxQ q S (m + 1))) (by rw [lt_ite9 (by have := mxQ_le (q := q) (S := S) (b := 1428) m |>.mpr (fun k hk => tm_le ok hS (by omega)); omega) (by omega)]; rfl) ?_
      refine aw_putI (ci := 6) (j := 6) .int dX6_measure_110 fX6_33 rfl (by decide) rfl tyX6 tyX6_ok nmX6 rfl rfl rfl (hpw_0 hw _) (Nat.le_of_ble_eq_true rfl) (by rw [hpw_0 hw, dI_s]; rfl) ?_
      have wm4 := WM_w wm3 (c' := m + 1) (e' := m + 1) (f' := m) (j := 6) (x := nI (mxQ q S (m + 1))) (by simp only [upd]; rw [if_neg (by decide)]; exact wm3.2.2.1) (by simp only [upd, if_true]) (by simp only [upd]; rw [if_neg (by decide)]; exact wm3.2.2.2.2.1) (by decide)
      have f4 := fW_dI f3 (show w ≤ w ∧ w ≤ w + 3 by omega) (upd (e3.1 w) 6 (nI (mxQ q S (m + 1))))
      generalize dI e3 w (upd (e3.1 w) 6 (nI (mxQ q S (m + 1)))) = e4 at wm4 f4 ⊢
      have hs4 : KS 0 e4 q := KS_W (by omega) hs f4
      refine aw_aload_n dX6_measure_113 rfl ?_
      refine aw_dup dX6_measure_114 rfl ?_
      refine aw_gf dX6_measure_115 (hpw_0 hw _) rfl fX6_36 (by decide) rfl ?_
      refine aw_aload_n dX6_measure_118 rfl ?_
      refine aw_gf dX6_measure_119 (hp_0 _) rfl fX6_54 (by decide) rfl ?_
      refine aw_iload_n dX6_measure_122 rfl ?_
      refine aw_ialdN dX6_measure_123 (hp_1 _) rfl (m) (by first | rfl | (simp only [li_0, li_1, li_2, li_3, li_4, li_5, li_7, li_8, li_9, li_11, li_12, li_16, li_17, li_31, li_32, li_60, li_77, li_80, li_89, li_99, li_101, li_112, li_113, li_256, li_999, li_1023, nI_add, pk_mul])) (by omega) (by decide) ?_
      rw [show e4.1 1 m = nI (q 1 m) from hs4 1 m (by decide) (show m < 3 by omega), wm4.2.2.2.2.1]
      refine aw_iadd dX6_measure_124 ?_
      rw [nI_add, show nI (sN m (q 1) + q 1 m) = nI (sN (m + 1) (q 1)) from rfl]
      refine aw_putI (ci := 6) (j := 7) .int dX6_measure_125 fX6_36 rfl (by decide) rfl tyX6 tyX6_ok nmX6 rfl rfl rfl (hpw_0 hw _) (Nat.le_of_ble_eq_true rfl) (by rw [hpw_0 hw, dI_s]; rfl) ?_
      have wm5 := WM_w wm4 (c' := m + 1) (e' := m + 1) (f' := m + 1) (j := 7) (x := nI (sN (m + 1) (q 1))) (by simp only [upd]; rw [if_neg (by decide)]; exact wm4.2.2.1) (by simp only [upd]; rw [if_neg (by decide)]; exact wm4.2.2.2.1) (by simp only [upd, if_true]) (by decide)
      have f5 := fW_dI f4 (show w ≤ w ∧ w ≤ w + 3 by omega) (upd (e4.1 w) 7 (nI (sN (m + 1) (q 1))))
      generalize dI e4 w (upd (e4.1 w) 7 (nI (sN (m + 1) (q 1)))) = e5 at wm5 f5 ⊢
      refine aw_inc (c := 1) dX6_measure_128 (by decide) rfl (by decide) rfl ?_
      refine aw_goto (tgt := 28) dX6_measure_131 (by decide) ?_
      exact ih hlt _ _ f5 wm5 (nI_1 m)
  exact L28 0 (Nat.zero_le _) _ _ (fW_t f1 (fW_dI (fW_dI (fW_dI f2 (by omega) _) (by omega) _) (by omega) _)) (WM_0 hO2 h42 (by simp only [dI_s]; simp only [upd]; rfl) (by simp only [dI_s]; simp only [upd]; rfl) (by simp only [dI_n _ _ (show w + 1 ≠ w by omega)]) (by simp only [dI_s]; simp only [upd]; rfl) (by simp only [dI_s]; simp only [upd]; rfl) (by simp only [dI_s]; simp only [upd]; rfl)) rfl
