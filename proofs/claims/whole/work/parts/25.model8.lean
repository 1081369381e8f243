set_option maxHeartbeats 4000000 in
set_option maxRecDepth 100000 in
theorem kX8_nextTask {q : St} {d : Dt} (hr : RR (d.1 161) q) (ok : QOK q) {p : Nat} (hp : p < 4) : CP mX8_nextTask 5 [.ref 160, .int (nI p)] d (pv (ntQ q p (q 0 1))) := by
  show AW mX8_nextTask 5 true (PIx (fun y d' => y = pv (ntQ q p (q 0 1)) ∧ d' = d) nX) 0 0 0 [(0, .ref 160), (1, .int (nI p))] [] (HP d)
  obtain ⟨⟨okM1, okM2⟩, okn, -⟩ := id ok
  have hp12 := pow12 okn
  have hfl := freQ_lt q
  refine aw_iconst (v := 0) dX8_nextTask_0 (by decide) ?_
  refine aw_istore_n dX8_nextTask_1 (by decide) rfl ?_
  refine aw_iconst (v := 0) dX8_nextTask_2 (by decide) ?_
  refine aw_istore_n dX8_nextTask_3 (by decide) rfl ?_
  have L4 : ∀ j, j ≤ q 0 1 → ∀ (v1 v2 : Int32), v1 = nI (oN j (fun t => if q 6 t = 0 then 2 ^ t else 0)) → v2 = nI j → AW mX8_nextTask 5 true (PIx (fun y d' => y = pv (ntQ q p (q 0 1)) ∧ d' = d) nX) 0 0 4 [(0, .ref 160), (1, .int (nI p)), (2, .int v1), (3, .int v2)] [] (HP d) := by
    refine up_ind (fun j hja iha => ?_)
    rintro _ _ rfl rfl
    refine aw_iload_n dX8_nextTask_4 rfl ?_
    refine aw_aload_n dX8_nextTask_5 rfl ?_
    refine aw_gf dX8_nextTask_6 (hp_160 _) rfl fX8_7 (by decide) rfl ?_
    refine aw_bipush (v := 16) dX8_nextTask_9 (by decide) ?_
    refine aw_ialdN dX8_nextTask_11 (hp_161 _) rfl (16) (by first | rfl | (simp only [li_0, li_1, li_2, li_3, li_4, li_5, li_7, li_8, li_9, li_11, li_12, li_16, li_17, li_31, li_32, li_60, li_77, li_80, li_89, li_99, li_101, li_112, li_113, li_256, li_999, li_1023, nI_add, pk_mul])) (by omega) (by decide) ?_
    refine aw_icmp_ge 41 dX8_nextTask_12 (by decide) (fun c12 => ?_) (fun c12 => ?_)
    · have hgea : q 0 1 ≤ j := (le_nI hr.1.2 rfl (by omega) (by omega)).mp c12
      have hj2a : j = q 0 1 := by omega
      subst hj2a
      refine aw_iconst (v := (-1)) dX8_nextTask_41 (by decide) ?_
      refine aw_istore_n dX8_nextTask_42 (by decide) rfl ?_
      refine aw_iconst (v := 0) dX8_nextTask_43 (by decide) ?_
      refine aw_istore dX8_nextTask_44 (by decide) rfl ?_
      have L46 : ∀ j, j ≤ q 0 1 → ∀ (v1 v2 : Int32), v1 = pv (ntQ q p j) → v2 = nI j → AW mX8_nextTask 5 true (PIx (fun y d' => y = pv (ntQ q p (q 0 1)) ∧ d' = d) nX) 0 0 46 [(0, .ref 160), (1, .int (nI p)), (2, .int (nI (freQ q))), (3, .int v1), (4, .int v2)] [] (HP d) := by
        refine up_ind (fun j hj ih => ?_)
        rintro _ _ rfl rfl
        refine aw_iload dX8_nextTask_46 rfl ?_
        refine aw_aload_n dX8_nextTask_48 rfl ?_
        refine aw_gf dX8_nextTask_49 (hp_160 _) rfl fX8_7 (by decide) rfl ?_
        refine aw_bipush (v := 16) dX8_nextTask_52 (by decide) ?_
        refine aw_ialdN dX8_nextTask_54 (hp_161 _) rfl (16) (by first | rfl | (simp only [li_0, li_1, li_2, li_3, li_4, li_5, li_7, li_8, li_9, li_11, li_12, li_16, li_17, li_31, li_32, li_60, li_77, li_80, li_89, li_99, li_101, li_112, li_113, li_256, li_999, li_1023, nI_add, pk_mul])) (by omega) (by decide) ?_
        refine aw_icmp_ge 124 dX8_nextTask_55 (by decide) (fun c55 => ?_) (fun c55 => ?_)
        · have hge : q 0 1 ≤ j := (le_nI hr.1.2 rfl (by omega) (by omega)).mp c55
          have hj2 : j = q 0 1 := by omega
          subst hj2
          refine aw_iload_n dX8_nextTask_124 rfl ?_
          exact aw_endI dX8_nextTask_125 rfl ⟨rfl, rfl⟩
        · have hlt : j < q 0 1 := Nat.lt_of_not_le (fun z => c55 ((le_nI hr.1.2 rfl (by omega) (by omega)).mpr z))
          have h8 := q8_lt ok (show j < 12 by omega)
          have hle := ntQ_le q p j
          refine aw_join (P := fun v => v = b2i (decide ((freQ q).testBit j = true ∧ q 8 j &&& freQ q = 0))) 83 (fun v hv83 => ?_) (fun kJ83 => ?_)
          · subst hv83
            refine aw_istore dX8_nextTask_83 (by decide) rfl ?_
            refine aw_iload dX8_nextTask_85 rfl ?_
            refine aw_if_eq 116 dX8_nextTask_87 (by decide) (fun c87 => ?_) (fun c87 => ?_)
            · refine aw_iload_n dX8_nextTask_116 rfl ?_
              refine aw_istore_n dX8_nextTask_117 (by decide) rfl ?_
              refine aw_inc (c := 1) dX8_nextTask_118 (by decide) rfl (by decide) rfl ?_
              refine aw_goto (tgt := 46) dX8_nextTask_121 (by decide) ?_
              have hi : ntQ q p (j + 1) = if (freQ q).testBit j = true ∧ q 8 j &&& freQ q = 0 ∧ (ntQ q p j = 0 ∨ prio q (ntQ q p j - 1) p < prio q j p) then j + 1 else ntQ q p j := rfl
              exact aw_pick [0, 1, 2, 3, 4] (ih hlt _ _ (by rw [hi, if_neg (fun z => b2d_f c87 ⟨z.1, z.2.1⟩)]) (nI_1 j))
            · refine aw_iload_n dX8_nextTask_90 rfl ?_
              refine aw_iconst (v := (-1)) dX8_nextTask_91 (by decide) ?_
              refine aw_icmp_eq 111 dX8_nextTask_92 (by decide) (fun c92 => ?_) (fun c92 => ?_)
              · refine aw_iload dX8_nextTask_111 rfl ?_
                refine aw_goto (tgt := 117) dX8_nextTask_113 (by decide) ?_
                refine aw_istore_n dX8_nextTask_117 (by decide) rfl ?_
                refine aw_inc (c := 1) dX8_nextTask_118 (by decide) rfl (by decide) rfl ?_
                refine aw_goto (tgt := 46) dX8_nextTask_121 (by decide) ?_
                have hi : ntQ q p (j + 1) = if (freQ q).testBit j = true ∧ q 8 j &&& freQ q = 0 ∧ (ntQ q p j = 0 ∨ prio q (ntQ q p j - 1) p < prio q j p) then j + 1 else ntQ q p j := rfl
                exact aw_pick [0, 1, 2, 3, 4] (ih hlt _ _ (by rw [hi, if_pos ⟨(b2d_t c87).1, (b2d_t c87).2, Or.inl ((pv_m1g (by omega)).mp c92)⟩, pv_s]) (nI_1 j))
              · have hn0 : ntQ q p j ≠ 0 := fun z => c92 ((pv_m1g (by omega)).mpr z)
                rw [show pv (ntQ q p j) = nI (ntQ q p j - 1) from if_neg hn0]
                refine aw_aload_n dX8_nextTask_95 rfl ?_
                refine aw_iload dX8_nextTask_96 rfl ?_
                refine aw_iload_n dX8_nextTask_98 rfl ?_
                refine aw_cVP dX8_nextTask_99 oX8_worth vX8_worth rfl lX8_159 (kX8_worth hr ok (t := j) (p := p) (by omega) hp) rfl (hp_160 _) rfl rfl rfl (Nat.le_of_ble_eq_true rfl) (by decide) (Nat.le_of_ble_eq_true rfl) ?_
                refine aw_aload_n dX8_nextTask_102 rfl ?_
                refine aw_iload_n dX8_nextTask_103 rfl ?_
                refine aw_iload_n dX8_nextTask_104 rfl ?_
                refine aw_cVP dX8_nextTask_105 oX8_worth vX8_worth rfl lX8_159 (kX8_worth hr ok (t := ntQ q p j - 1) (p := p) (by omega) hp) rfl (hp_160 _) rfl rfl rfl (Nat.le_of_ble_eq_true rfl) (by decide) (Nat.le_of_ble_eq_true rfl) ?_
                refine aw_icmp_le 116 dX8_nextTask_108 (by decide) (fun c108 => ?_) (fun c108 => ?_)
                · refine aw_iload_n dX8_nextTask_116 rfl ?_
                  refine aw_istore_n dX8_nextTask_117 (by decide) rfl ?_
                  refine aw_inc (c := 1) dX8_nextTask_118 (by decide) rfl (by decide) rfl ?_
                  refine aw_goto (tgt := 46) dX8_nextTask_121 (by decide) ?_
                  have hi : ntQ q p (j + 1) = if (freQ q).testBit j = true ∧ q 8 j &&& freQ q = 0 ∧ (ntQ q p j = 0 ∨ prio q (ntQ q p j - 1) p < prio q j p) then j + 1 else ntQ q p j := rfl
                  rw [le_nI rfl rfl (by have := prio_le ok (show j < 12 by omega) p; omega) (by have := prio_le ok (show ntQ q p j - 1 < 12 by omega) p; omega)] at c108
                  exact aw_pick [0, 1, 2, 3, 4] (ih hlt _ _ (by rw [hi, if_neg (fun z => by rcases z.2.2 with z | z; exact hn0 z; omega), show pv (ntQ q p j) = nI (ntQ q p j - 1) from if_neg hn0]) (nI_1 j))
                · refine aw_iload dX8_nextTask_111 rfl ?_
                  refine aw_goto (tgt := 117) dX8_nextTask_113 (by decide) ?_
                  refine aw_istore_n dX8_nextTask_117 (by decide) rfl ?_
                  refine aw_inc (c := 1) dX8_nextTask_118 (by decide) rfl (by decide) rfl ?_
                  refine aw_goto (tgt := 46) dX8_nextTask_121 (by decide) ?_
                  have hi : ntQ q p (j + 1) = if (freQ q).testBit j = true ∧ q 8 j &&& freQ q = 0 ∧ (ntQ q p j = 0 ∨ prio q (ntQ q p j - 1) p < prio q j p) then j + 1 else ntQ q p j := rfl
                  rw [le_nI rfl rfl (by have := prio_le ok (show j < 12 by omega) p; omega) (by have := prio_le ok (show ntQ q p j - 1 < 12 by omega) p; omega)] at c108
                  exact aw_pick [0, 1, 2, 3, 4] (ih hlt _ _ (by rw [hi, if_pos ⟨(b2d_t c87).1, (b2d_t c87).2, Or.inr (by omega)⟩, pv_s]) (nI_1 j))
          · refine aw_iload_n dX8_nextTask_58 rfl ?_
            refine aw_iload dX8_nextTask_59 rfl ?_
            refine aw_cSP dX8_nextTask_61 oX8_has sX8_has rfl lX8_127 kX8_has rfl rfl (Nat.le_of_ble_eq_true rfl) (by decide) (Nat.le_of_ble_eq_true rfl) ?_
            refine aw_if_eq 82 dX8_nextTask_64 (by decide) (fun c64 => ?_) (fun c64 => ?_)
            · refine aw_iconst (v := 0) dX8_nextTask_82 (by decide) ?_
              exact kJ83 _ (by rw [hb_nI (by omega) (by omega)] at c64; (first | (rw [b2i_ne] at c64) | (rw [b2i_eq] at c64)); rw [b2i_f (p := (freQ q).testBit j = true ∧ q 8 j &&& freQ q = 0) (fun z => by rw [c64] at z; exact absurd z.1 (by decide))])
            · refine aw_aload_n dX8_nextTask_67 rfl ?_
              refine aw_iload dX8_nextTask_68 rfl ?_
              refine aw_cVP dX8_nextTask_70 oX8_aheadOf vX8_aheadOf rfl lX8_130 (kX8_aheadOf hr ok (t := j) (by omega)) rfl (hp_160 _) rfl rfl rfl (Nat.le_of_ble_eq_true rfl) (by decide) (Nat.le_of_ble_eq_true rfl) ?_
              refine aw_iload_n dX8_nextTask_73 rfl ?_
              refine aw_iand dX8_nextTask_74 ?_
              refine aw_if_ne 82 dX8_nextTask_75 (by decide) (fun c75 => ?_) (fun c75 => ?_)
              · refine aw_iconst (v := 0) dX8_nextTask_82 (by decide) ?_
                exact kJ83 _ (by rw [hb_nI (by omega) (by omega)] at c64; (first | (rw [b2i_ne] at c64) | (rw [b2i_eq] at c64)); rw [nI_and, eq_nI rfl (show (0 : Int32) = nI 0 from rfl) (Nat.lt_of_le_of_lt Nat.and_le_right (by omega)) (by omega)] at c75; rw [b2i_f (p := (freQ q).testBit j = true ∧ q 8 j &&& freQ q = 0) (fun z => c75 z.2)])
              · refine aw_iconst (v := 1) dX8_nextTask_78 (by decide) ?_
                refine aw_goto (tgt := 83) dX8_nextTask_79 (by decide) ?_
                exact kJ83 _ (by rw [hb_nI (by omega) (by omega)] at c64; (first | (rw [b2i_ne] at c64) | (rw [b2i_eq] at c64)); rw [nI_and, eq_nI rfl (show (0 : Int32) = nI 0 from rfl) (Nat.lt_of_le_of_lt Nat.and_le_right (by omega)) (by omega)] at c75; rw [b2i_t (p := (freQ q).testBit j = true ∧ q 8 j &&& freQ q = 0) ⟨c64, c75⟩])
      exact L46 0 (Nat.zero_le _) _ _ rfl rfl
    · have hlta : j < q 0 1 := Nat.lt_of_not_le (fun z => c12 ((le_nI hr.1.2 rfl (by omega) (by omega)).mpr z))
      have h6 := (ok.2.2.2.2.2.2.1 j (by omega)).2
      refine aw_iload_n dX8_nextTask_15 rfl ?_
      refine aw_aload_n dX8_nextTask_16 rfl ?_
      refine aw_iload_n dX8_nextTask_17 rfl ?_
      refine aw_iconst (v := 4) dX8_nextTask_18 (by decide) ?_
      refine aw_cVP dX8_nextTask_19 oX8_of vX8_of rfl lX8_124 (kX8_of (t := j) (w := 4) (by omega) (by omega)) rfl (hp_160 _) rfl rfl rfl (Nat.le_of_ble_eq_true rfl) (by decide) (Nat.le_of_ble_eq_true rfl) ?_
      refine aw_iconst (v := (-1)) dX8_nextTask_22 (by decide) ?_
      refine aw_icmp_ne 32 dX8_nextTask_23 (by decide) (fun c23 => ?_) (fun c23 => ?_)
      · refine aw_iconst (v := 0) dX8_nextTask_32 (by decide) ?_
        refine aw_ior dX8_nextTask_33 ?_
        refine aw_istore_n dX8_nextTask_34 (by decide) rfl ?_
        refine aw_inc (c := 1) dX8_nextTask_35 (by decide) rfl (by decide) rfl ?_
        refine aw_goto (tgt := 4) dX8_nextTask_38 (by decide) ?_
        exact iha hlta _ _ (by rw [(hr.2.2.2.2.1 j hlta).2.2, pv_m1 h6] at c23; simp only [oN, c23]; (first | (rw [nI_sh1 j (by omega), nI_or]; rfl) | (rw [show (0 : Int32) = nI 0 from rfl, nI_or]; rfl))) (nI_1 j)
      · refine aw_iconst (v := 1) dX8_nextTask_26 (by decide) ?_
        refine aw_iload_n dX8_nextTask_27 rfl ?_
        refine aw_ishl dX8_nextTask_28 ?_
        refine aw_goto (tgt := 33) dX8_nextTask_29 (by decide) ?_
        refine aw_ior dX8_nextTask_33 ?_
        refine aw_istore_n dX8_nextTask_34 (by decide) rfl ?_
        refine aw_inc (c := 1) dX8_nextTask_35 (by decide) rfl (by decide) rfl ?_
        refine aw_goto (tgt := 4) dX8_nextTask_38 (by decide) ?_
        exact iha hlta _ _ (by rw [(hr.2.2.2.2.1 j hlta).2.2, pv_m1 h6] at c23; simp only [oN, c23]; (first | (rw [nI_sh1 j (by omega), nI_or]; rfl) | (rw [show (0 : Int32) = nI 0 from rfl, nI_or]; rfl))) (nI_1 j)
  exact L4 0 (Nat.zero_le _) _ _ rfl rfl

set_option maxHeartbeats 4000000 in
set_option maxRecDepth 100000 in
theorem kX8_remembers {d : Dt} : CV mX8_remembers 1 [.ref 160] d (fun d' => d' = dI d 162 (cpy (d.1 162) (d.1 161) 113)) := by
  show AW mX8_remembers 1 true (PVx (fun d' => d' = dI d 162 (cpy (d.1 162) (d.1 161) 113)) nX) 0 0 0 [(0, .ref 160)] [] (HP d)
  refine aw_iconst (v := 0) dX8_remembers_0 (by decide) ?_
  refine aw_istore_n dX8_remembers_1 (by decide) rfl ?_
  have L2 : ∀ j, j ≤ 113 → ∀ (v1 : Int32), v1 = nI j → AW mX8_remembers 1 true (PVx (fun d' => d' = dI d 162 (cpy (d.1 162) (d.1 161) 113)) nX) 0 0 2 [(0, .ref 160), (1, .int v1)] [] (HP (dI d 162 (cpy (d.1 162) (d.1 161) j))) := by
    refine up_ind (fun j hj ih => ?_)
    rintro _ rfl
    refine aw_iload_n dX8_remembers_2 rfl ?_
    refine aw_bipush (v := 113) dX8_remembers_3 (by decide) ?_
    refine aw_icmp_ge 26 dX8_remembers_5 (by decide) (fun c5 => ?_) (fun c5 => ?_)
    · have hge : 113 ≤ j := (le_nI (show (113 : Int32) = nI 113 from rfl) rfl (by omega) (by omega)).mp c5
      have hj2 : j = 113 := by omega
      subst hj2
      exact aw_endV dX8_remembers_26 rfl rfl
    · have hlt : j < 113 := Nat.lt_of_not_le (fun z => c5 ((le_nI (show (113 : Int32) = nI 113 from rfl) rfl (by omega) (by omega)).mpr z))
      refine aw_aload_n dX8_remembers_8 rfl ?_
      refine aw_gf dX8_remembers_9 (hp_160 _) rfl fX8_13 (by decide) rfl ?_
      refine aw_iload_n dX8_remembers_12 rfl ?_
      refine aw_aload_n dX8_remembers_13 rfl ?_
      refine aw_gf dX8_remembers_14 (hp_160 _) rfl fX8_7 (by decide) rfl ?_
      refine aw_iload_n dX8_remembers_17 rfl ?_
      refine aw_ialdN dX8_remembers_18 (hp_161 _) rfl (j) (by first | rfl | (simp only [li_0, li_1, li_2, li_3, li_4, li_5, li_7, li_8, li_9, li_11, li_12, li_16, li_17, li_31, li_32, li_60, li_77, li_80, li_89, li_99, li_101, li_112, li_113, li_256, li_999, li_1023, nI_add, pk_mul])) (by omega) (by decide) ?_
      refine aw_iastN dX8_remembers_19 hp_162 (j) (by first | rfl | (simp only [li_0, li_1, li_2, li_3, li_4, li_5, li_7, li_8, li_9, li_11, li_12, li_16, li_17, li_31, li_32, li_60, li_77, li_80, li_89, li_99, li_101, li_112, li_113, li_256, li_999, li_1023, nI_add, pk_mul])) (by omega) (by decide)  ?_
      refine aw_inc (c := 1) dX8_remembers_20 (by decide) rfl (by decide) rfl ?_
      refine aw_goto (tgt := 2) dX8_remembers_23 (by decide) ?_
      rw [cpy_s d (by decide)]
      exact ih hlt _ (nI_1 j)
  have e2 := L2 0 (Nat.zero_le _) _ rfl
  rw [cpy_0] at e2
  exact e2

set_option maxHeartbeats 4000000 in
set_option maxRecDepth 100000 in
theorem kX8_brings {d : Dt} : CV mX8_brings 1 [.ref 160] d (fun d' => d' = dI d 161 (cpy (d.1 161) (d.1 162) 113)) := by
  show AW mX8_brings 1 true (PVx (fun d' => d' = dI d 161 (cpy (d.1 161) (d.1 162) 113)) nX) 0 0 0 [(0, .ref 160)] [] (HP d)
  refine aw_iconst (v := 0) dX8_brings_0 (by decide) ?_
  refine aw_istore_n dX8_brings_1 (by decide) rfl ?_
  have L2 : ∀ j, j ≤ 113 → ∀ (v1 : Int32), v1 = nI j → AW mX8_brings 1 true (PVx (fun d' => d' = dI d 161 (cpy (d.1 161) (d.1 162) 113)) nX) 0 0 2 [(0, .ref 160), (1, .int v1)] [] (HP (dI d 161 (cpy (d.1 161) (d.1 162) j))) := by
    refine up_ind (fun j hj ih => ?_)
    rintro _ rfl
    refine aw_iload_n dX8_brings_2 rfl ?_
    refine aw_bipush (v := 113) dX8_brings_3 (by decide) ?_
    refine aw_icmp_ge 26 dX8_brings_5 (by decide) (fun c5 => ?_) (fun c5 => ?_)
    · have hge : 113 ≤ j := (le_nI (show (113 : Int32) = nI 113 from rfl) rfl (by omega) (by omega)).mp c5
      have hj2 : j = 113 := by omega
      subst hj2
      exact aw_endV dX8_brings_26 rfl rfl
    · have hlt : j < 113 := Nat.lt_of_not_le (fun z => c5 ((le_nI (show (113 : Int32) = nI 113 from rfl) rfl (by omega) (by omega)).mpr z))
      refine aw_aload_n dX8_brings_8 rfl ?_
      refine aw_gf dX8_brings_9 (hp_160 _) rfl fX8_7 (by decide) rfl ?_
      refine aw_iload_n dX8_brings_12 rfl ?_
      refine aw_aload_n dX8_brings_13 rfl ?_
      refine aw_gf dX8_brings_14 (hp_160 _) rfl fX8_13 (by decide) rfl ?_
      refine aw_iload_n dX8_brings_17 rfl ?_
      refine aw_ialdN dX8_brings_18 (hp_162 _) rfl (j) (by first | rfl | (simp only [li_0, li_1, li_2, li_3, li_4, li_5, li_7, li_8, li_9, li_11, li_12, li_16, li_17, li_31, li_32, li_60, li_77, li_80, li_89, li_99, li_101, li_112, li_113, li_256, li_999, li_1023, nI_add, pk_mul])) (by omega) (by decide) ?_
      refine aw_iastN dX8_brings_19 hp_161 (j) (by first | rfl | (simp only [li_0, li_1, li_2, li_3, li_4, li_5, li_7, li_8, li_9, li_11, li_12, li_16, li_17, li_31, li_32, li_60, li_77, li_80, li_89, li_99, li_101, li_112, li_113, li_256, li_999, li_1023, nI_add, pk_mul])) (by omega) (by decide)  ?_
      refine aw_inc (c := 1) dX8_brings_20 (by decide) rfl (by decide) rfl ?_
      refine aw_goto (tgt := 2) dX8_brings_23 (by decide) ?_
      rw [cpy_s d (by decide)]
      exact ih hlt _ (nI_1 j)
  have e2 := L2 0 (Nat.zero_le _) _ rfl
  rw [cpy_0] at e2
  exact e2

set_option maxHeartbeats 4000000 in
set_option maxRecDepth 100000 in
theorem kX8_keeps {d : Dt} {n : Nat} (hn : n ≤ 8) (h3 : d.1 160 3 = nI n) : CV mX8_keeps 1 [.ref 160] d (fun d' => kP d d' n) := by
  show AW mX8_keeps 1 true (PVx (fun d' => kP d d' n) nX) 0 0 0 [(0, .ref 160)] [] (HP d)
  have K : ∀ (d1 : Dt) (m : Nat), m ≤ 7 → d1.1 160 3 = nI m → (∀ d', d' = dI (dI d1 163 (cpo (d1.1 163) (d1.1 162) 0 (113 * m) 113)) 160 (upd (d1.1 160) 3 (nI (m + 1))) → kP d d' n) → AW mX8_keeps 1 true (PVx (fun d' => kP d d' n) nX) 0 0 49 [(0, .ref 160)] [] (HP d1) := by
    intro d1 m hm7 hm3 hpost
    refine aw_iconst (v := 0) dX8_keeps_49 (by decide) ?_
    refine aw_istore_n dX8_keeps_50 (by decide) rfl ?_
    have L51 : ∀ j, j ≤ 113 → ∀ (v1 : Int32), v1 = nI j → AW mX8_keeps 1 true (PVx (fun d' => kP d d' n) nX) 0 0 51 [(0, .ref 160), (1, .int v1)] [] (HP (dI d1 163 (cpo (d1.1 163) (d1.1 162) 0 (113 * m) j))) := by
      refine up_ind (fun j hj ih => ?_)
      rintro _ rfl
      refine aw_iload_n dX8_keeps_51 rfl ?_
      refine aw_bipush (v := 113) dX8_keeps_52 (by decide) ?_
      refine aw_icmp_ge 83 dX8_keeps_54 (by decide) (fun c54 => ?_) (fun c54 => ?_)
      · have hge : 113 ≤ j := (le_nI (show (113 : Int32) = nI 113 from rfl) rfl (by omega) (by omega)).mp c54
        have hj2 : j = 113 := by omega
        subst hj2
        refine aw_aload_n dX8_keeps_83 rfl ?_
        refine aw_dup dX8_keeps_84 rfl ?_
        refine aw_gf dX8_keeps_85 (hp_160 _) rfl fX8_78 (by decide) rfl ?_
        refine aw_iconst (v := 1) dX8_keeps_88 (by decide) ?_
        refine aw_iadd dX8_keeps_89 ?_
        refine aw_putI (ci := 8) (j := 3) .int dX8_keeps_90 fX8_78 rfl (by decide) rfl tyX8 tyX8_ok nmX8 rfl rfl rfl (hp_160 _) (Nat.le_of_ble_eq_true rfl) rfl ?_
        exact aw_endV dX8_keeps_93 rfl (hpost _ (by rw [dI_n _ _ (by decide), hm3, nI_1]))
      · have hlt : j < 113 := Nat.lt_of_not_le (fun z => c54 ((le_nI (show (113 : Int32) = nI 113 from rfl) rfl (by omega) (by omega)).mpr z))
        refine aw_aload_n dX8_keeps_57 rfl ?_
        refine aw_gf dX8_keeps_58 (hp_160 _) rfl fX8_16 (by decide) rfl ?_
        refine aw_bipush (v := 113) dX8_keeps_61 (by decide) ?_
        refine aw_aload_n dX8_keeps_63 rfl ?_
        refine aw_gf dX8_keeps_64 (hp_160 _) rfl fX8_78 (by decide) rfl ?_
        refine aw_imul dX8_keeps_67 ?_
        refine aw_iload_n dX8_keeps_68 rfl ?_
        refine aw_iadd dX8_keeps_69 ?_
        refine aw_aload_n dX8_keeps_70 rfl ?_
        refine aw_gf dX8_keeps_71 (hp_160 _) rfl fX8_13 (by decide) rfl ?_
        refine aw_iload_n dX8_keeps_74 rfl ?_
        refine aw_ialdN dX8_keeps_75 (hp_162 _) rfl (j) (by first | rfl | (simp only [li_0, li_1, li_2, li_3, li_4, li_5, li_7, li_8, li_9, li_11, li_12, li_16, li_17, li_31, li_32, li_60, li_77, li_80, li_89, li_99, li_101, li_112, li_113, li_256, li_999, li_1023, nI_add, pk_mul])) (by omega) (by decide) ?_
        refine aw_iastN dX8_keeps_76 hp_163 (113 * m + j) (by rw [dI_n _ _ (by decide), hm3, show (113 : Int32) = nI 113 from rfl, pk_mul, nI_add]) (by omega) (by decide)  ?_
        refine aw_inc (c := 1) dX8_keeps_77 (by decide) rfl (by decide) rfl ?_
        refine aw_goto (tgt := 51) dX8_keeps_80 (by decide) ?_
        rw [dI_dI, dI_s, dI_n _ _ (show 162 ≠ 163 by decide), show d1.1 162 j = d1.1 162 (0 + j) by rw [Nat.zero_add], cpo_s1]
        exact ih hlt _ (nI_1 j)
    have e2 := L51 0 (Nat.zero_le _) _ rfl
    rw [cpo_0] at e2
    exact e2
  refine aw_aload_n dX8_keeps_0 rfl ?_
  refine aw_gf dX8_keeps_1 (hp_160 _) rfl fX8_78 (by decide) rfl ?_
  refine aw_bipush (v := 8) dX8_keeps_4 (by decide) ?_
  refine aw_icmp_ne 49 dX8_keeps_6 (by decide) (fun c6 => ?_) (fun c6 => ?_)
  · exact K d n (by have : n ≠ 8 := fun z => c6 (by rw [h3, z]; rfl); omega) h3 (fun d' hd => by subst hd; exact kP_a (by have : n ≠ 8 := fun z => c6 (by rw [h3, z]; rfl); omega))
  · refine aw_iconst (v := 0) dX8_keeps_9 (by decide) ?_
    refine aw_istore_n dX8_keeps_10 (by decide) rfl ?_
    have L11 : ∀ j, j ≤ 791 → ∀ (v1 : Int32), v1 = nI j → AW mX8_keeps 1 true (PVx (fun d' => kP d d' n) nX) 0 0 11 [(0, .ref 160), (1, .int v1)] [] (HP (dI d 163 (cpo (d.1 163) (d.1 163) 113 0 j))) := by
      refine up_ind (fun j hj ih => ?_)
      rintro _ rfl
      refine aw_iload_n dX8_keeps_11 rfl ?_
      refine aw_sipush (v := 791) dX8_keeps_12 (by decide) ?_
      refine aw_icmp_ge 39 dX8_keeps_15 (by decide) (fun c15 => ?_) (fun c15 => ?_)
      · have hge : 791 ≤ j := (le_nI (show (791 : Int32) = nI 791 from rfl) rfl (by omega) (by omega)).mp c15
        have hj2 : j = 791 := by omega
        subst hj2
        refine aw_aload_n dX8_keeps_39 rfl ?_
        refine aw_dup dX8_keeps_40 rfl ?_
        refine aw_gf dX8_keeps_41 (hp_160 _) rfl fX8_78 (by decide) rfl ?_
        refine aw_iconst (v := 1) dX8_keeps_44 (by decide) ?_
        refine aw_isub dX8_keeps_45 ?_
        refine aw_putI (ci := 8) (j := 3) .int dX8_keeps_46 fX8_78 rfl (by decide) rfl tyX8 tyX8_ok nmX8 rfl rfl rfl (hp_160 _) (Nat.le_of_ble_eq_true rfl) rfl ?_
        rw [dI_n _ _ (by decide), c6]
        exact aw_pick [0] (K _ 7 (by decide) (by rw [dI_s]; rfl) (fun d' hd => by subst hd; exact kP_b (by have := nI_inj (by omega) (by omega) (h3.symm.trans c6 : nI n = nI 8); omega)))
      · have hlt : j < 791 := Nat.lt_of_not_le (fun z => c15 ((le_nI (show (791 : Int32) = nI 791 from rfl) rfl (by omega) (by omega)).mpr z))
        skip
        refine aw_aload_n dX8_keeps_18 rfl ?_
        refine aw_gf dX8_keeps_19 (hp_160 _) rfl fX8_16 (by decide) rfl ?_
        refine aw_iload_n dX8_keeps_22 rfl ?_
        refine aw_aload_n dX8_keeps_23 rfl ?_
        refine aw_gf dX8_keeps_24 (hp_160 _) rfl fX8_16 (by decide) rfl ?_
        refine aw_iload_n dX8_keeps_27 rfl ?_
        refine aw_bipush (v := 113) dX8_keeps_28 (by decide) ?_
        refine aw_iadd dX8_keeps_30 ?_
        refine aw_ialdN dX8_keeps_31 (hp_163 _) rfl (j + 113) (by first | rfl | (simp only [li_0, li_1, li_2, li_3, li_4, li_5, li_7, li_8, li_9, li_11, li_12, li_16, li_17, li_31, li_32, li_60, li_77, li_80, li_89, li_99, li_101, li_112, li_113, li_256, li_999, li_1023, nI_add, pk_mul])) (by omega) (by decide) ?_
        refine aw_iastN dX8_keeps_32 hp_163 (j) (by first | rfl | (simp only [li_0, li_1, li_2, li_3, li_4, li_5, li_7, li_8, li_9, li_11, li_12, li_16, li_17, li_31, li_32, li_60, li_77, li_80, li_89, li_99, li_101, li_112, li_113, li_256, li_999, li_1023, nI_add, pk_mul])) (by omega) (by decide)  ?_
        refine aw_inc (c := 1) dX8_keeps_33 (by decide) rfl (by decide) rfl ?_
        refine aw_goto (tgt := 11) dX8_keeps_36 (by decide) ?_
        rw [dI_dI, dI_s, cpo_no _ _ (show ¬ (0 ≤ j + 113 ∧ j + 113 < 0 + j) by omega), show d.1 163 (j + 113) = d.1 163 (113 + j) by rw [Nat.add_comm], show upd (cpo (d.1 163) (d.1 163) 113 0 j) j (d.1 163 (113 + j)) = cpo (d.1 163) (d.1 163) 113 0 (j + 1) from by have := cpo_s1 (d.1 163) (d.1 163) 113 0 j; rw [Nat.zero_add] at this; exact this]
        exact ih hlt _ (nI_1 j)
    have e2 := L11 0 (Nat.zero_le _) _ rfl
    rw [cpo_0] at e2
    exact e2

theorem kX8_rem {d : Dt} {y : Sy} (hM : MR d y) : CV mX8_remembers 1 [.ref 160] d (fun d' => MC d d' y y.1 y.2.2.2.1 ∧ d' = dI d 162 (cpy (d.1 162) (d.1 161) 113)) :=
  aw_post (fun r h' ⟨d', e, p⟩ => ⟨d', e, by
    cases r with
    | inl v => exact ⟨p.1, by rw [p.2]; exact MC_0 hM (fun k hk => cpy_lt _ _ hk), p.2⟩
    | inr E => exact p⟩) kX8_remembers
theorem kT8 {d : Dt} {q : St} (hr : RR (d.1 161) q) {x : Int32} : CP mX8_isTask 2 [.ref 160, .int x] d (b2i (decide (tkI q x))) := by
  have := @kX8_isTask x d
  rw [hr.1.2] at this
  exact this

set_option maxHeartbeats 4000000 in
set_option maxRecDepth 100000 in
theorem kX8_changed {d0 d : Dt} {y : Sy} {q : St} {w : Nat} (h : MC d0 d y q w) (c : Nat) (hc : c ≤ 9) (hth : d.1 160 7 = nI c) {v : Int32} : CI mX8_changed 2 [.ref 160, .int v] d (fun x d' => x = v ∧ CH d0 d' y q w c) := by
  show AW mX8_changed 2 true (PIx (fun x d' => x = v ∧ CH d0 d' y q w c) nX) 0 0 0 [(0, .ref 160), (1, .int v)] [] (HP d)
  refine aw_aload_n dX8_changed_0 rfl ?_
  refine aw_gf dX8_changed_1 (hp_160 _) rfl fX8_70 (by decide) rfl ?_
  refine aw_if_ne 11 dX8_changed_4 (by decide) (fun c4 => ?_) (fun c4 => ?_)
  · refine aw_iload_n dX8_changed_11 rfl ?_
    exact aw_endI dX8_changed_12 rfl ⟨rfl, h.1.1, hth, by rw [if_neg (fun z => c4 (by rw [hth, z]; rfl))]; exact MC_keep h⟩
  · refine aw_aload_n dX8_changed_7 rfl ?_
    refine aw_cVv dX8_changed_8 oX8_keeps vX8_keeps rfl lX8_81 (kX8_keeps h.2.1.2.1.2.1 (by rw [h.1.2.2.2.2.1]; exact h.2.1.2.1.1)) rfl (hp_160 _) rfl rfl rfl (Nat.le_of_ble_eq_true rfl) (by decide) (Nat.le_of_ble_eq_true rfl) ?_
    rintro d1 hk
    refine aw_iload_n dX8_changed_11 rfl ?_
    exact aw_endI dX8_changed_12 rfl ⟨rfl, fM_t h.1.1 (kP_fM hk), by rw [hk.2.2.1 7 (by decide)]; exact hth, by rw [if_pos (nI_inj (by omega) (by omega) (hth.symm.trans c4 : nI c = nI 0))]; exact MC_push h hk⟩
