set_option maxHeartbeats 4000000 in
set_option maxRecDepth 100000 in
theorem kX8_changes {q : St} {d : Dt} (hr : RR (d.1 161) q) (ok : QOK q) {L : List Nat} (hL : rowI d L) (hLn : ∀ t ∈ L, t < q 0 1) (hl12 : L.length ≤ 12) {m : Nat} (hm : m < 3) : CI mX8_changes 2 [.ref 160, .int (nI m)] d (fun x d' => (mS d d' ∧ d'.1 165 = d.1 165 ∧ d'.1 160 = d.1 160) ∧ x = nI (chg (tlL q L m))) := by
  show AW mX8_changes 2 true (PIx (fun x d' => (mS d d' ∧ d'.1 165 = d.1 165 ∧ d'.1 160 = d.1 160) ∧ x = nI (chg (tlL q L m))) nX) 0 0 0 [(0, .ref 160), (1, .int (nI m))] [] (HP d)
  obtain ⟨⟨okM1, okM2⟩, okn, -⟩ := id ok
  refine aw_iconst (v := 0) dX8_changes_0 (by decide) ?_
  refine aw_istore_n dX8_changes_1 (by decide) rfl ?_
  refine aw_iconst (v := 0) dX8_changes_2 (by decide) ?_
  refine aw_istore_n dX8_changes_3 (by decide) rfl ?_
  have L4 : ∀ j, j ≤ L.length → ∀ (u : Nat → Int32) (v1 v2 : Int32), usd u (tlL q (L.take j) m) → v1 = nI (tlL q (L.take j) m).length → v2 = nI j → AW mX8_changes 2 true (PIx (fun x d' => (mS d d' ∧ d'.1 165 = d.1 165 ∧ d'.1 160 = d.1 160) ∧ x = nI (chg (tlL q L m))) nX) 0 0 4 [(0, .ref 160), (1, .int (nI m)), (2, .int v1), (3, .int v2)] [] (HP (dI d 166 u)) := by
    refine up_ind (fun j hj ih => ?_)
    rintro u _ _ hu rfl rfl
    refine aw_iload_n dX8_changes_4 rfl ?_
    refine aw_aload_n dX8_changes_5 rfl ?_
    refine aw_gf dX8_changes_6 (hp_160 _) rfl fX8_162 (by decide) rfl ?_
    refine aw_icmp_ge 97 dX8_changes_9 (by decide) (fun c9 => ?_) (fun c9 => ?_)
    · have hge : L.length ≤ j := (le_nI hL.1 rfl (by omega) (by omega)).mp c9
      have hj2 : j = L.length := by omega
      subst hj2
      rw [List.take_length] at hu ⊢
      have hu2 := hu
      have hul := tlL_len q L m
      have htl : ∀ x ∈ tlL q L m, x ≤ 5 := fun x hx => by obtain ⟨t, h1, rfl⟩ := List.mem_map.mp hx; exact (ok.2.2.2.2.2.2.1 t (by have := hLn t (List.mem_filter.mp h1).1; omega)).1
      refine aw_iconst (v := 0) dX8_changes_97 (by decide) ?_
      refine aw_istore_n dX8_changes_98 (by decide) rfl ?_
      refine aw_iconst (v := 0) dX8_changes_99 (by decide) ?_
      refine aw_istore dX8_changes_100 (by decide) rfl ?_
      have L102 : ∀ j, j ≤ (tlL q L m).length → ∀ (v1 v2 : Int32), v1 = nI (sN j (fun k => if (tlL q L m).getD k 0 ≠ (tlL q L m).getD (if k + 1 = (tlL q L m).length then 0 else k + 1) 0 then 1 else 0)) → v2 = nI j → AW mX8_changes 2 true (PIx (fun x d' => (mS d d' ∧ d'.1 165 = d.1 165 ∧ d'.1 160 = d.1 160) ∧ x = nI (chg (tlL q L m))) nX) 0 0 102 [(0, .ref 160), (1, .int (nI m)), (2, .int (nI (tlL q L m).length)), (3, .int v1), (4, .int v2)] [] (HP (dI d 166 u)) := by
        refine up_ind (fun j hj2 ih2 => ?_)
        rintro _ _ rfl rfl
        refine aw_iload dX8_changes_102 rfl ?_
        refine aw_iload_n dX8_changes_104 rfl ?_
        refine aw_icmp_ge 153 dX8_changes_105 (by decide) (fun c105 => ?_) (fun c105 => ?_)
        · have hge2 : (tlL q L m).length ≤ j := (le_nI rfl rfl (by omega) (by omega)).mp c105
          have hj22 : j = (tlL q L m).length := by omega
          subst hj22
          refine aw_iload_n dX8_changes_153 rfl ?_
          exact aw_endI dX8_changes_154 rfl ⟨⟨mS_166 (mS_r d) u, dI_n _ _ (by decide), dI_n _ _ (by decide)⟩, rfl⟩
        · have hlt2 : j < (tlL q L m).length := Nat.lt_of_not_le (fun z => c105 ((le_nI rfl rfl (by omega) (by omega)).mpr z))
          refine aw_iload_n dX8_changes_108 rfl ?_
          refine aw_aload_n dX8_changes_109 rfl ?_
          refine aw_gf dX8_changes_110 (hp_160 _) rfl fX8_25 (by decide) rfl ?_
          refine aw_iload dX8_changes_113 rfl ?_
          refine aw_ialdN dX8_changes_115 (hp_166 _) rfl (j) (by first | rfl | (simp only [li_0, li_1, li_2, li_3, li_4, li_5, li_7, li_8, li_9, li_11, li_12, li_16, li_17, li_31, li_32, li_60, li_77, li_80, li_89, li_99, li_101, li_112, li_113, li_256, li_999, li_1023, nI_add, pk_mul])) (by omega) (by decide) ?_
          refine aw_aload_n dX8_changes_116 rfl ?_
          refine aw_gf dX8_changes_117 (hp_160 _) rfl fX8_25 (by decide) rfl ?_
          refine aw_iload dX8_changes_120 rfl ?_
          refine aw_iconst (v := 1) dX8_changes_122 (by decide) ?_
          refine aw_iadd dX8_changes_123 ?_
          refine aw_iload_n dX8_changes_124 rfl ?_
          refine aw_icmp_ne 132 dX8_changes_125 (by decide) (fun c125 => ?_) (fun c125 => ?_)
          · rw [nI_1, eq_nI rfl rfl (by omega) (by omega)] at c125
            have h125 : j + 1 < (tlL q L m).length := by omega
            refine aw_iload dX8_changes_132 rfl ?_
            refine aw_iconst (v := 1) dX8_changes_134 (by decide) ?_
            refine aw_iadd dX8_changes_135 ?_
            refine aw_ialdN dX8_changes_136 (hp_166 _) rfl (j + 1) (by first | rfl | (simp only [li_0, li_1, li_2, li_3, li_4, li_5, li_7, li_8, li_9, li_11, li_12, li_16, li_17, li_31, li_32, li_60, li_77, li_80, li_89, li_99, li_101, li_112, li_113, li_256, li_999, li_1023, nI_add, pk_mul])) (by omega) (by decide) ?_
            refine aw_icmp_eq 144 dX8_changes_137 (by decide) (fun c137 => ?_) (fun c137 => ?_)
            · refine aw_iconst (v := 0) dX8_changes_144 (by decide) ?_
              refine aw_iadd dX8_changes_145 ?_
              refine aw_istore_n dX8_changes_146 (by decide) rfl ?_
              refine aw_inc (c := 1) dX8_changes_147 (by decide) rfl (by decide) rfl ?_
              refine aw_goto (tgt := 102) dX8_changes_150 (by decide) ?_
              have hix : (if j + 1 = (tlL q L m).length then 0 else j + 1) = j + 1 := (by rw [if_neg c125])
              rw [show (dI d 166 u).1 166 j = _ from hu2 j hlt2, show (dI d 166 u).1 166 (j + 1) = _ from hu2 (j + 1) (by omega), eq_nI rfl rfl (by have := htl _ (getD_mem hlt2); omega) (by have := htl _ (getD_mem (show j + 1 < (tlL q L m).length by omega)); omega)] at c137
              exact ih2 hlt2 _ _ (by simp only [sN]; rw [hix, if_neg (fun z => z c137)]; exact nI_add _ 0) (nI_1 j)
            · refine aw_iconst (v := 1) dX8_changes_140 (by decide) ?_
              refine aw_goto (tgt := 145) dX8_changes_141 (by decide) ?_
              refine aw_iadd dX8_changes_145 ?_
              refine aw_istore_n dX8_changes_146 (by decide) rfl ?_
              refine aw_inc (c := 1) dX8_changes_147 (by decide) rfl (by decide) rfl ?_
              refine aw_goto (tgt := 102) dX8_changes_150 (by decide) ?_
              have hix : (if j + 1 = (tlL q L m).length then 0 else j + 1) = j + 1 := (by rw [if_neg c125])
              rw [show (dI d 166 u).1 166 j = _ from hu2 j hlt2, show (dI d 166 u).1 166 (j + 1) = _ from hu2 (j + 1) (by omega), eq_nI rfl rfl (by have := htl _ (getD_mem hlt2); omega) (by have := htl _ (getD_mem (show j + 1 < (tlL q L m).length by omega)); omega)] at c137
              exact ih2 hlt2 _ _ (by simp only [sN]; rw [hix, if_pos c137]; exact nI_add _ 1) (nI_1 j)
          · rw [nI_1, eq_nI rfl rfl (by omega) (by omega)] at c125
            refine aw_iconst (v := 0) dX8_changes_128 (by decide) ?_
            refine aw_goto (tgt := 136) dX8_changes_129 (by decide) ?_
            refine aw_ialdN dX8_changes_136 (hp_166 _) rfl (0) (by first | rfl | (simp only [li_0, li_1, li_2, li_3, li_4, li_5, li_7, li_8, li_9, li_11, li_12, li_16, li_17, li_31, li_32, li_60, li_77, li_80, li_89, li_99, li_101, li_112, li_113, li_256, li_999, li_1023, nI_add, pk_mul])) (by omega) (by decide) ?_
            refine aw_icmp_eq 144 dX8_changes_137 (by decide) (fun c137 => ?_) (fun c137 => ?_)
            · refine aw_iconst (v := 0) dX8_changes_144 (by decide) ?_
              refine aw_iadd dX8_changes_145 ?_
              refine aw_istore_n dX8_changes_146 (by decide) rfl ?_
              refine aw_inc (c := 1) dX8_changes_147 (by decide) rfl (by decide) rfl ?_
              refine aw_goto (tgt := 102) dX8_changes_150 (by decide) ?_
              have hix : (if j + 1 = (tlL q L m).length then 0 else j + 1) = 0 := (by rw [if_pos c125])
              rw [show (dI d 166 u).1 166 j = _ from hu2 j hlt2, show (dI d 166 u).1 166 (0) = _ from hu2 0 (by omega), eq_nI rfl rfl (by have := htl _ (getD_mem hlt2); omega) (by have := htl _ (getD_mem (show 0 < (tlL q L m).length by omega)); omega)] at c137
              exact ih2 hlt2 _ _ (by simp only [sN]; rw [hix, if_neg (fun z => z c137)]; exact nI_add _ 0) (nI_1 j)
            · refine aw_iconst (v := 1) dX8_changes_140 (by decide) ?_
              refine aw_goto (tgt := 145) dX8_changes_141 (by decide) ?_
              refine aw_iadd dX8_changes_145 ?_
              refine aw_istore_n dX8_changes_146 (by decide) rfl ?_
              refine aw_inc (c := 1) dX8_changes_147 (by decide) rfl (by decide) rfl ?_
              refine aw_goto (tgt := 102) dX8_changes_150 (by decide) ?_
              have hix : (if j + 1 = (tlL q L m).length then 0 else j + 1) = 0 := (by rw [if_pos c125])
              rw [show (dI d 166 u).1 166 j = _ from hu2 j hlt2, show (dI d 166 u).1 166 (0) = _ from hu2 0 (by omega), eq_nI rfl rfl (by have := htl _ (getD_mem hlt2); omega) (by have := htl _ (getD_mem (show 0 < (tlL q L m).length by omega)); omega)] at c137
              exact ih2 hlt2 _ _ (by simp only [sN]; rw [hix, if_pos c137]; exact nI_add _ 1) (nI_1 j)
      exact L102 0 (Nat.zero_le _) _ _ rfl rfl
    · have hlt : j < L.length := Nat.lt_of_not_le (fun z => c9 ((le_nI hL.1 rfl (by omega) (by omega)).mpr z))
      have ht := hLn _ (getD_mem hlt)
      have hu1 := tlL_len q (L.take j) m
      have hu2 : (L.take j).length ≤ j := by rw [List.length_take]; omega
      have h5 := (ok.2.2.2.2.2.2.1 (L.getD j 0) (by omega)).1
      have h4 := ok.2.2.2.2.2.1 (3 * L.getD j 0 + m) (by omega)
      refine aw_aload_n dX8_changes_12 rfl ?_
      refine aw_aload_n dX8_changes_13 rfl ?_
      refine aw_gf dX8_changes_14 (hp_160 _) rfl fX8_22 (by decide) rfl ?_
      refine aw_iload_n dX8_changes_17 rfl ?_
      refine aw_ialdN dX8_changes_18 (hp_165 _) rfl (j) (by first | rfl | (simp only [li_0, li_1, li_2, li_3, li_4, li_5, li_7, li_8, li_9, li_11, li_12, li_16, li_17, li_31, li_32, li_60, li_77, li_80, li_89, li_99, li_101, li_112, li_113, li_256, li_999, li_1023, nI_add, pk_mul])) (by omega) (by decide) ?_
      rw [show (dI d 166 u).1 165 j = nI (L.getD j 0) from hL.2 j hlt]
      refine aw_iload_n dX8_changes_19 rfl ?_
      refine aw_cVP dX8_changes_20 oX8_of vX8_of rfl lX8_124 (kX8_of (t := L.getD j 0) (w := m) (by omega) (by omega)) rfl (hp_160 _) rfl rfl rfl (Nat.le_of_ble_eq_true rfl) (by decide) (Nat.le_of_ble_eq_true rfl) ?_
      refine aw_if_le 44 dX8_changes_23 (by decide) (fun c23 => ?_) (fun c23 => ?_)
      · refine aw_iconst (v := 0) dX8_changes_44 (by decide) ?_
        refine aw_istore dX8_changes_45 (by decide) rfl ?_
        refine aw_aload_n dX8_changes_47 rfl ?_
        refine aw_gf dX8_changes_48 (hp_160 _) rfl fX8_25 (by decide) rfl ?_
        refine aw_iload_n dX8_changes_51 rfl ?_
        refine aw_iload dX8_changes_52 rfl ?_
        refine aw_if_eq 71 dX8_changes_54 (by decide) (fun _ => ?_) (fun c54 => (by first | exact absurd c54 (by decide) | exact absurd rfl c54))
        refine aw_aload_n dX8_changes_71 rfl ?_
        refine aw_gf dX8_changes_72 (hp_160 _) rfl fX8_25 (by decide) rfl ?_
        refine aw_iload_n dX8_changes_75 rfl ?_
        refine aw_ialdN dX8_changes_76 (hp_166 _) rfl ((tlL q (L.take j) m).length) (by first | rfl | (simp only [li_0, li_1, li_2, li_3, li_4, li_5, li_7, li_8, li_9, li_11, li_12, li_16, li_17, li_31, li_32, li_60, li_77, li_80, li_89, li_99, li_101, li_112, li_113, li_256, li_999, li_1023, nI_add, pk_mul])) (by omega) (by decide) ?_
        refine aw_iastN dX8_changes_77 hp_166 ((tlL q (L.take j) m).length) (by first | rfl | (simp only [li_0, li_1, li_2, li_3, li_4, li_5, li_7, li_8, li_9, li_11, li_12, li_16, li_17, li_31, li_32, li_60, li_77, li_80, li_89, li_99, li_101, li_112, li_113, li_256, li_999, li_1023, nI_add, pk_mul])) (by omega) (by decide)  ?_
        refine aw_iload_n dX8_changes_78 rfl ?_
        refine aw_iload dX8_changes_79 rfl ?_
        refine aw_if_eq 88 dX8_changes_81 (by decide) (fun _ => ?_) (fun c81 => (by first | exact absurd c81 (by decide) | exact absurd rfl c81))
        refine aw_iconst (v := 0) dX8_changes_88 (by decide) ?_
        refine aw_iadd dX8_changes_89 ?_
        refine aw_istore_n dX8_changes_90 (by decide) rfl ?_
        refine aw_inc (c := 1) dX8_changes_91 (by decide) rfl (by decide) rfl ?_
        refine aw_goto (tgt := 4) dX8_changes_94 (by decide) ?_
        rw [dI_dI, dI_s]
        have hc : ¬ (0 < q 4 (3 * L.getD j 0 + m) ∧ q 5 (L.getD j 0) ≠ 0) := fun w => by have z := (le_nI ((hr.2.2.2.2.1 _ ht).1 m hm) (show (0 : Int32) = nI 0 from rfl) (by omega) (by omega)).mp c23; omega
        have hU : tlL q (L.take (j + 1)) m = (tlL q (L.take j) m) := by rw [take_snoc hlt, (tlL_snoc q (L.take j) (L.getD j 0) m), if_neg hc]
        refine aw_pick [0, 1, 2, 3] (ih hlt _ _ _ ?_ (by rw [hU]; exact nI_add _ 0) (nI_1 j))
        rw [hU]
        exact usd_k hu _
      · refine aw_aload_n dX8_changes_26 rfl ?_
        refine aw_aload_n dX8_changes_27 rfl ?_
        refine aw_gf dX8_changes_28 (hp_160 _) rfl fX8_22 (by decide) rfl ?_
        refine aw_iload_n dX8_changes_31 rfl ?_
        refine aw_ialdN dX8_changes_32 (hp_165 _) rfl (j) (by first | rfl | (simp only [li_0, li_1, li_2, li_3, li_4, li_5, li_7, li_8, li_9, li_11, li_12, li_16, li_17, li_31, li_32, li_60, li_77, li_80, li_89, li_99, li_101, li_112, li_113, li_256, li_999, li_1023, nI_add, pk_mul])) (by omega) (by decide) ?_
        rw [show (dI d 166 u).1 165 j = nI (L.getD j 0) from hL.2 j hlt]
        refine aw_iconst (v := 3) dX8_changes_33 (by decide) ?_
        refine aw_cVP dX8_changes_34 oX8_of vX8_of rfl lX8_124 (kX8_of (t := L.getD j 0) (w := 3) (by omega) (by omega)) rfl (hp_160 _) rfl rfl rfl (Nat.le_of_ble_eq_true rfl) (by decide) (Nat.le_of_ble_eq_true rfl) ?_
        refine aw_if_eq 44 dX8_changes_37 (by decide) (fun c37 => ?_) (fun c37 => ?_)
        · refine aw_iconst (v := 0) dX8_changes_44 (by decide) ?_
          refine aw_istore dX8_changes_45 (by decide) rfl ?_
          refine aw_aload_n dX8_changes_47 rfl ?_
          refine aw_gf dX8_changes_48 (hp_160 _) rfl fX8_25 (by decide) rfl ?_
          refine aw_iload_n dX8_changes_51 rfl ?_
          refine aw_iload dX8_changes_52 rfl ?_
          refine aw_if_eq 71 dX8_changes_54 (by decide) (fun _ => ?_) (fun c54 => (by first | exact absurd c54 (by decide) | exact absurd rfl c54))
          refine aw_aload_n dX8_changes_71 rfl ?_
          refine aw_gf dX8_changes_72 (hp_160 _) rfl fX8_25 (by decide) rfl ?_
          refine aw_iload_n dX8_changes_75 rfl ?_
          refine aw_ialdN dX8_changes_76 (hp_166 _) rfl ((tlL q (L.take j) m).length) (by first | rfl | (simp only [li_0, li_1, li_2, li_3, li_4, li_5, li_7, li_8, li_9, li_11, li_12, li_16, li_17, li_31, li_32, li_60, li_77, li_80, li_89, li_99, li_101, li_112, li_113, li_256, li_999, li_1023, nI_add, pk_mul])) (by omega) (by decide) ?_
          refine aw_iastN dX8_changes_77 hp_166 ((tlL q (L.take j) m).length) (by first | rfl | (simp only [li_0, li_1, li_2, li_3, li_4, li_5, li_7, li_8, li_9, li_11, li_12, li_16, li_17, li_31, li_32, li_60, li_77, li_80, li_89, li_99, li_101, li_112, li_113, li_256, li_999, li_1023, nI_add, pk_mul])) (by omega) (by decide)  ?_
          refine aw_iload_n dX8_changes_78 rfl ?_
          refine aw_iload dX8_changes_79 rfl ?_
          refine aw_if_eq 88 dX8_changes_81 (by decide) (fun _ => ?_) (fun c81 => (by first | exact absurd c81 (by decide) | exact absurd rfl c81))
          refine aw_iconst (v := 0) dX8_changes_88 (by decide) ?_
          refine aw_iadd dX8_changes_89 ?_
          refine aw_istore_n dX8_changes_90 (by decide) rfl ?_
          refine aw_inc (c := 1) dX8_changes_91 (by decide) rfl (by decide) rfl ?_
          refine aw_goto (tgt := 4) dX8_changes_94 (by decide) ?_
          rw [dI_dI, dI_s]
          have hc : ¬ (0 < q 4 (3 * L.getD j 0 + m) ∧ q 5 (L.getD j 0) ≠ 0) := fun w => w.2 ((eq_nI ((hr.2.2.2.2.1 _ ht).2.1) (show (0 : Int32) = nI 0 from rfl) (by omega) (by omega)).mp c37)
          have hU : tlL q (L.take (j + 1)) m = (tlL q (L.take j) m) := by rw [take_snoc hlt, (tlL_snoc q (L.take j) (L.getD j 0) m), if_neg hc]
          refine aw_pick [0, 1, 2, 3] (ih hlt _ _ _ ?_ (by rw [hU]; exact nI_add _ 0) (nI_1 j))
          rw [hU]
          exact usd_k hu _
        · refine aw_iconst (v := 1) dX8_changes_40 (by decide) ?_
          refine aw_goto (tgt := 45) dX8_changes_41 (by decide) ?_
          refine aw_istore dX8_changes_45 (by decide) rfl ?_
          refine aw_aload_n dX8_changes_47 rfl ?_
          refine aw_gf dX8_changes_48 (hp_160 _) rfl fX8_25 (by decide) rfl ?_
          refine aw_iload_n dX8_changes_51 rfl ?_
          refine aw_iload dX8_changes_52 rfl ?_
          refine aw_if_eq 71 dX8_changes_54 (by decide) (fun c54 => (by first | exact absurd c54 (by decide) | exact absurd rfl c54)) (fun _ => ?_)
          refine aw_aload_n dX8_changes_57 rfl ?_
          refine aw_aload_n dX8_changes_58 rfl ?_
          refine aw_gf dX8_changes_59 (hp_160 _) rfl fX8_22 (by decide) rfl ?_
          refine aw_iload_n dX8_changes_62 rfl ?_
          refine aw_ialdN dX8_changes_63 (hp_165 _) rfl (j) (by first | rfl | (simp only [li_0, li_1, li_2, li_3, li_4, li_5, li_7, li_8, li_9, li_11, li_12, li_16, li_17, li_31, li_32, li_60, li_77, li_80, li_89, li_99, li_101, li_112, li_113, li_256, li_999, li_1023, nI_add, pk_mul])) (by omega) (by decide) ?_
          rw [show (dI d 166 u).1 165 j = nI (L.getD j 0) from hL.2 j hlt]
          refine aw_iconst (v := 3) dX8_changes_64 (by decide) ?_
          refine aw_cVP dX8_changes_65 oX8_of vX8_of rfl lX8_124 (kX8_of (t := L.getD j 0) (w := 3) (by omega) (by omega)) rfl (hp_160 _) rfl rfl rfl (Nat.le_of_ble_eq_true rfl) (by decide) (Nat.le_of_ble_eq_true rfl) ?_
          refine aw_goto (tgt := 77) dX8_changes_68 (by decide) ?_
          refine aw_iastN dX8_changes_77 hp_166 ((tlL q (L.take j) m).length) (by first | rfl | (simp only [li_0, li_1, li_2, li_3, li_4, li_5, li_7, li_8, li_9, li_11, li_12, li_16, li_17, li_31, li_32, li_60, li_77, li_80, li_89, li_99, li_101, li_112, li_113, li_256, li_999, li_1023, nI_add, pk_mul])) (by omega) (by decide)  ?_
          refine aw_iload_n dX8_changes_78 rfl ?_
          refine aw_iload dX8_changes_79 rfl ?_
          refine aw_if_eq 88 dX8_changes_81 (by decide) (fun c81 => (by first | exact absurd c81 (by decide) | exact absurd rfl c81)) (fun _ => ?_)
          refine aw_iconst (v := 1) dX8_changes_84 (by decide) ?_
          refine aw_goto (tgt := 89) dX8_changes_85 (by decide) ?_
          refine aw_iadd dX8_changes_89 ?_
          refine aw_istore_n dX8_changes_90 (by decide) rfl ?_
          refine aw_inc (c := 1) dX8_changes_91 (by decide) rfl (by decide) rfl ?_
          refine aw_goto (tgt := 4) dX8_changes_94 (by decide) ?_
          rw [dI_dI, dI_s]
          have hc : 0 < q 4 (3 * L.getD j 0 + m) ∧ q 5 (L.getD j 0) ≠ 0 := ⟨by have z := mt (le_nI ((hr.2.2.2.2.1 _ ht).1 m hm) (show (0 : Int32) = nI 0 from rfl) (by omega) (by omega)).mpr c23; omega, fun z => c37 (by rw [show (dI d 166 u).1 161 (17 + 5 * L.getD j 0 + 3) = _ from (hr.2.2.2.2.1 _ ht).2.1, z]; rfl)⟩
          have hU : tlL q (L.take (j + 1)) m = (tlL q (L.take j) m) ++ [q 5 (L.getD j 0)] := by rw [take_snoc hlt, (tlL_snoc q (L.take j) (L.getD j 0) m), if_pos hc]
          refine aw_pick [0, 1, 2, 3] (ih hlt _ _ _ ?_ (by rw [hU, List.length_append]; exact nI_1 _) (nI_1 j))
          rw [show (dI d 166 u).1 161 (17 + 5 * L.getD j 0 + 3) = _ from (hr.2.2.2.2.1 _ ht).2.1, hU]
          exact usd_s hu _
  have K4 := L4 0 (Nat.zero_le _) (d.1 166) _ _ (fun i hi => absurd hi (Nat.not_lt_zero _)) rfl rfl
  rw [dI_self] at K4
  exact K4
