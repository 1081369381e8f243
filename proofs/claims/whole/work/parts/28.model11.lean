set_option maxHeartbeats 4000000 in
set_option maxRecDepth 100000 in
theorem kX8_rule {y : Sy} {d : Dt} (hM : MR d y) {c : Int32} : CI mX8_rule 2 [.ref 160, .int c] d (fun x d' => RO d d' x (oRule y c)) := by
  show AW mX8_rule 2 true (PIx (fun x d' => RO d d' x (oRule y c)) nX) 0 0 0 [(0, .ref 160), (1, .int c)] [] (HP d)
  have ok := hM.1.2
  have hr := hM.1.1
  have h12 := ok.2.1
  refine aw_iload_n dX8_rule_0 rfl ?_
  refine aw_iconst (v := 0) dX8_rule_1 (by decide) ?_
  refine aw_bipush (v := 8) dX8_rule_2 (by decide) ?_
  refine aw_cSP dX8_rule_4 oX8_in sX8_in rfl lX8_74 kX8_in rfl rfl (Nat.le_of_ble_eq_true rfl) (by decide) (Nat.le_of_ble_eq_true rfl) ?_
  refine aw_if_ne 16 dX8_rule_7 (by decide) (fun c7 => ?_) (fun c7 => ?_)
  · have hg := b2d_t c7
    obtain ⟨n, rfl, hn1, hn2⟩ := in_nI (a := 0) (b := 8) rfl rfl (by decide) (by decide) (b2d_t c7)
    refine aw_aload_n dX8_rule_16 rfl ?_
    refine aw_iload_n dX8_rule_17 rfl ?_
    refine aw_iconst (v := 4) dX8_rule_18 (by decide) ?_
    refine aw_icmp_ge 33 dX8_rule_19 (by decide) (fun c19 => ?_) (fun c19 => ?_)
    · refine aw_iload_n dX8_rule_33 rfl ?_
      refine aw_iconst (v := 4) dX8_rule_34 (by decide) ?_
      refine aw_icmp_ne 47 dX8_rule_35 (by decide) (fun c35 => ?_) (fun c35 => ?_)
      · refine aw_iload_n dX8_rule_47 rfl ?_
        refine aw_iconst (v := 5) dX8_rule_48 (by decide) ?_
        refine aw_icmp_ne 59 dX8_rule_49 (by decide) (fun c49 => ?_) (fun c49 => ?_)
        · have h4 : ¬ n < 4 := by have := (le_nI (show (4 : Int32) = nI 4 from rfl) rfl (by omega) (by omega)).mp c19; omega
          have e4 : ¬ n = 4 := fun z => c35 (by rw [z]; rfl)
          have e5 : ¬ n = 5 := fun z => c49 (by rw [z]; rfl)
          refine aw_aload_n dX8_rule_59 rfl ?_
          refine aw_gf dX8_rule_60 (hp_160 _) rfl fX8_7 (by decide) rfl ?_
          refine aw_iconst (v := 1) dX8_rule_63 (by decide) ?_
          refine aw_iload_n dX8_rule_64 rfl ?_
          refine aw_iadd dX8_rule_65 ?_
          refine aw_bipush (v := 6) dX8_rule_66 (by decide) ?_
          refine aw_isub dX8_rule_68 ?_
          refine aw_ialdN dX8_rule_69 (hp_161 _) rfl (1 + (n - 6)) (by rw [show (1 : Int32) = nI 1 from rfl, nI_add, show (6 : Int32) = nI 6 from rfl, pk_sub (by omega)]; exact congrArg nI (by omega)) (by omega) (by decide) ?_
          refine aw_cVI dX8_rule_70 oX8_done vX8_done rfl lX8_91 kX8_done rfl (hp_160 _) rfl rfl rfl (Nat.le_of_ble_eq_true rfl) (by decide) (Nat.le_of_ble_eq_true rfl) ?_
          rintro _ d8 ⟨rfl, rfl⟩
          exact aw_endI dX8_rule_73 rfl (by unfold oRule; rw [if_pos hg, ivn (by omega), if_neg h4, if_neg e4, if_neg e5]; exact RO_q hM (mS_r d) (hr.2.1 (n - 6) (by omega)))
        · refine aw_aload_n dX8_rule_52 rfl ?_
          refine aw_cVP dX8_rule_53 oX8_totalDemand vX8_totalDemand rfl lX8_105 (kX8_totalDemand hr ok) rfl (hp_160 _) rfl rfl rfl (Nat.le_of_ble_eq_true rfl) (by decide) (Nat.le_of_ble_eq_true rfl) ?_
          refine aw_goto (tgt := 70) dX8_rule_56 (by decide) ?_
          refine aw_cVI dX8_rule_70 oX8_done vX8_done rfl lX8_91 kX8_done rfl (hp_160 _) rfl rfl rfl (Nat.le_of_ble_eq_true rfl) (by decide) (Nat.le_of_ble_eq_true rfl) ?_
          rintro _ d8 ⟨rfl, rfl⟩
          exact aw_endI dX8_rule_73 rfl (by have h4 : ¬ n < 4 := (by have := (le_nI (show (4 : Int32) = nI 4 from rfl) rfl (by omega) (by omega)).mp c19; omega); have e4 : ¬ n = 4 := fun z => c35 (by rw [z]; rfl); have e5 : n = 5 := (eq_nI rfl (show (5 : Int32) = nI 5 from rfl) (by omega) (by omega)).mp c49; unfold oRule; rw [if_pos hg, ivn (by omega), if_neg h4, if_neg e4, if_pos e5]; exact RO_q hM (mS_r d) rfl)
      · refine aw_aload_n dX8_rule_38 rfl ?_
        refine aw_gf dX8_rule_39 (hp_160 _) rfl fX8_7 (by decide) rfl ?_
        refine aw_iconst (v := 0) dX8_rule_42 (by decide) ?_
        refine aw_ialdN dX8_rule_43 (hp_161 _) rfl (0) (by first | rfl | (simp only [li_0, li_1, li_2, li_3, li_4, li_5, li_7, li_8, li_9, li_11, li_12, li_16, li_17, li_31, li_32, li_60, li_77, li_80, li_89, li_99, li_101, li_112, li_113, li_256, li_999, li_1023, nI_add, pk_mul])) (by omega) (by decide) ?_
        refine aw_goto (tgt := 70) dX8_rule_44 (by decide) ?_
        refine aw_cVI dX8_rule_70 oX8_done vX8_done rfl lX8_91 kX8_done rfl (hp_160 _) rfl rfl rfl (Nat.le_of_ble_eq_true rfl) (by decide) (Nat.le_of_ble_eq_true rfl) ?_
        rintro _ d8 ⟨rfl, rfl⟩
        exact aw_endI dX8_rule_73 rfl (by have h4 : ¬ n < 4 := (by have := (le_nI (show (4 : Int32) = nI 4 from rfl) rfl (by omega) (by omega)).mp c19; omega); have e4 : n = 4 := (eq_nI rfl (show (4 : Int32) = nI 4 from rfl) (by omega) (by omega)).mp c35; unfold oRule; rw [if_pos hg, ivn (by omega), if_neg h4, if_pos e4]; exact RO_q hM (mS_r d) hr.1.1)
    · refine aw_aload_n dX8_rule_22 rfl ?_
      refine aw_gf dX8_rule_23 (hp_160 _) rfl fX8_7 (by decide) rfl ?_
      refine aw_iconst (v := 4) dX8_rule_26 (by decide) ?_
      refine aw_iload_n dX8_rule_27 rfl ?_
      refine aw_iadd dX8_rule_28 ?_
      refine aw_ialdN dX8_rule_29 (hp_161 _) rfl (4 + n) (by first | rfl | (simp only [li_0, li_1, li_2, li_3, li_4, li_5, li_7, li_8, li_9, li_11, li_12, li_16, li_17, li_31, li_32, li_60, li_77, li_80, li_89, li_99, li_101, li_112, li_113, li_256, li_999, li_1023, nI_add, pk_mul])) (by omega) (by decide) ?_
      refine aw_goto (tgt := 70) dX8_rule_30 (by decide) ?_
      refine aw_cVI dX8_rule_70 oX8_done vX8_done rfl lX8_91 kX8_done rfl (hp_160 _) rfl rfl rfl (Nat.le_of_ble_eq_true rfl) (by decide) (Nat.le_of_ble_eq_true rfl) ?_
      rintro _ d8 ⟨rfl, rfl⟩
      exact aw_endI dX8_rule_73 rfl (by have h4 : n < 4 := (by have := mt (le_nI (show (4 : Int32) = nI 4 from rfl) (rfl : nI n = nI n) (by omega) (by omega)).mpr c19; omega); unfold oRule; rw [if_pos hg, ivn (by omega), if_pos h4]; exact RO_q hM (mS_r d) (hr.2.2.1 n h4))
  · refine aw_aload_n dX8_rule_10 rfl ?_
    refine aw_iconst (v := 1) dX8_rule_11 (by decide) ?_
    refine aw_cVI dX8_rule_12 oX8_fails vX8_fails rfl lX8_87 kX8_fails rfl (hp_160 _) rfl rfl rfl (Nat.le_of_ble_eq_true rfl) (by decide) (Nat.le_of_ble_eq_true rfl) ?_
    rintro _ d9 ⟨rfl, rfl⟩
    exact aw_endI dX8_rule_15 rfl (by unfold oRule; rw [if_neg (b2d_f c7)]; exact RO_f hM (mS_r d) rfl (by decide))

set_option maxHeartbeats 4000000 in
set_option maxRecDepth 100000 in
theorem kX8_drop {y : Sy} {d : Dt} (hM : MR d y) {a b : Int32} : CI mX8_drop 3 [.ref 160, .int a, .int b] d (fun x d' => RO d d' x (oDrop y a b)) := by
  show AW mX8_drop 3 true (PIx (fun x d' => RO d d' x (oDrop y a b)) nX) 0 0 0 [(0, .ref 160), (1, .int a), (2, .int b)] [] (HP d)
  have ok := hM.1.2
  have hr := hM.1.1
  have h12 := ok.2.1
  have hp12 := pow12 h12
  refine aw_aload_n dX8_drop_0 rfl ?_
  refine aw_iload_n dX8_drop_1 rfl ?_
  refine aw_cVP dX8_drop_2 oX8_isTask vX8_isTask rfl lX8_121 (kT8 hM.1.1) rfl (hp_160 _) rfl rfl rfl (Nat.le_of_ble_eq_true rfl) (by decide) (Nat.le_of_ble_eq_true rfl) ?_
  refine aw_if_eq 16 dX8_drop_5 (by decide) (fun c5 => ?_) (fun c5 => ?_)
  · refine aw_aload_n dX8_drop_16 rfl ?_
    refine aw_iconst (v := 1) dX8_drop_17 (by decide) ?_
    refine aw_cVI dX8_drop_18 oX8_fails vX8_fails rfl lX8_87 kX8_fails rfl (hp_160 _) rfl rfl rfl (Nat.le_of_ble_eq_true rfl) (by decide) (Nat.le_of_ble_eq_true rfl) ?_
    rintro _ d9 ⟨rfl, rfl⟩
    exact aw_endI dX8_drop_21 rfl (by unfold oDrop; rw [if_neg (fun z => b2d_f c5 z.1)]; exact RO_f hM (mS_r d) rfl (by decide))
  · refine aw_aload_n dX8_drop_8 rfl ?_
    refine aw_iload_n dX8_drop_9 rfl ?_
    refine aw_cVP dX8_drop_10 oX8_isTask vX8_isTask rfl lX8_121 (kT8 hM.1.1) rfl (hp_160 _) rfl rfl rfl (Nat.le_of_ble_eq_true rfl) (by decide) (Nat.le_of_ble_eq_true rfl) ?_
    refine aw_if_ne 22 dX8_drop_13 (by decide) (fun c13 => ?_) (fun c13 => ?_)
    · have hg : tkI y.1 a ∧ tkI y.1 b := ⟨b2d_t c5, b2d_t c13⟩
      obtain ⟨k, rfl, hk⟩ := tk_nI h12 (b2d_t c5)
      obtain ⟨n, rfl, hn⟩ := tk_nI h12 (b2d_t c13)
      have hqk := ok.2.2.2.2.2.2.2.2.1 k (by omega)
      have hqn := ok.2.2.2.2.2.2.2.2.1 n (by omega)
      have hpk : pk y.1 k n ≤ 2 := by unfold pk; (repeat' split) <;> omega
      refine aw_join (P := fun v => v = b2i (lnk y.1 k n)) 59 (fun v hv59 => ?_) (fun kJ59 => ?_)
      · subst hv59
        refine aw_istore_n dX8_drop_59 (by decide) rfl ?_
        refine aw_aload_n dX8_drop_60 rfl ?_
        refine aw_iload_n dX8_drop_61 rfl ?_
        refine aw_iload_n dX8_drop_62 rfl ?_
        refine aw_cVP dX8_drop_63 oX8_pairOf vX8_pairOf rfl lX8_139 (kX8_pairOf hr ok (t := k) (u := n) (by omega) (by omega)) rfl (hp_160 _) rfl rfl rfl (Nat.le_of_ble_eq_true rfl) (by decide) (Nat.le_of_ble_eq_true rfl) ?_
        refine aw_istore dX8_drop_66 (by decide) rfl ?_
        refine aw_iload_n dX8_drop_68 rfl ?_
        refine aw_if_ne 83 dX8_drop_69 (by decide) (fun c69 => ?_) (fun c69 => ?_)
        · have hno : ¬ (lnk y.1 k n = false ∧ pk y.1 k n = 0) := fun z => by rw [b2i_ne.mp c69] at z; cases z.1
          have hne : k ≠ n := fun z => hno (by subst z; exact ok_same ok hk)
          obtain ⟨ok0, okD⟩ := QOK_drq ok hk hn hne
          refine aw_aload_n dX8_drop_83 rfl ?_
          refine aw_cVv dX8_drop_84 oX8_remembers vX8_remembers rfl lX8_84 (kX8_rem hM) rfl (hp_160 _) rfl rfl rfl (Nat.le_of_ble_eq_true rfl) (by decide) (Nat.le_of_ble_eq_true rfl) ?_
          rintro d1 ⟨hm0, -⟩
          have hr0 := hm0.2.2.2.1.1
          have r1 := RR_up (j := 7) (k := n) (v := clr (y.1 7 n) k) (i := 77 + n) hr0 h12 (by decide) (show n < 12 by omega) rfl rfl
          have r2 := RR_up (j := 7) (k := k) (v := clr (y.1 7 k) n) (i := 77 + k) r1 h12 (by decide) (show k < 12 by omega) rfl rfl
          simp only [if_neg (show ¬ (7 = 6) by decide)] at r1 r2
          refine aw_aload_n dX8_drop_87 rfl ?_
          refine aw_gf dX8_drop_88 (hp_160 _) rfl fX8_7 (by decide) rfl ?_
          refine aw_bipush (v := 77) dX8_drop_91 (by decide) ?_
          refine aw_iload_n dX8_drop_93 rfl ?_
          refine aw_iadd dX8_drop_94 ?_
          refine aw_dup2 dX8_drop_95 rfl rfl ?_
          refine aw_ialdN dX8_drop_96 (hp_161 _) rfl (77 + n) (by first | rfl | (simp only [li_0, li_1, li_2, li_3, li_4, li_5, li_7, li_8, li_9, li_11, li_12, li_16, li_17, li_31, li_32, li_60, li_77, li_80, li_89, li_99, li_101, li_112, li_113, li_256, li_999, li_1023, nI_add, pk_mul])) (by omega) (by decide) ?_
          refine aw_iconst (v := 1) dX8_drop_97 (by decide) ?_
          refine aw_iload_n dX8_drop_98 rfl ?_
          refine aw_ishl dX8_drop_99 ?_
          refine aw_iconst (v := (-1)) dX8_drop_100 (by decide) ?_
          refine aw_ixor dX8_drop_101 ?_
          refine aw_iand dX8_drop_102 ?_
          rw [(hr0.2.2.2.2.2 n (by omega)).1, nI_sh1 k (by omega), nI_lacks (by omega) (Nat.pow_lt_pow_right (m := k) (n := 12) (by decide) (by omega))]
          refine aw_iastN dX8_drop_103 hp_161 (77 + n) (by first | rfl | (simp only [li_0, li_1, li_2, li_3, li_4, li_5, li_7, li_8, li_9, li_11, li_12, li_16, li_17, li_31, li_32, li_60, li_77, li_80, li_89, li_99, li_101, li_112, li_113, li_256, li_999, li_1023, nI_add, pk_mul])) (by omega) (by decide)  ?_
          refine aw_aload_n dX8_drop_104 rfl ?_
          refine aw_gf dX8_drop_105 (hp_160 _) rfl fX8_7 (by decide) rfl ?_
          refine aw_bipush (v := 77) dX8_drop_108 (by decide) ?_
          refine aw_iload_n dX8_drop_110 rfl ?_
          refine aw_iadd dX8_drop_111 ?_
          refine aw_dup2 dX8_drop_112 rfl rfl ?_
          refine aw_ialdN dX8_drop_113 (hp_161 _) rfl (77 + k) (by first | rfl | (simp only [li_0, li_1, li_2, li_3, li_4, li_5, li_7, li_8, li_9, li_11, li_12, li_16, li_17, li_31, li_32, li_60, li_77, li_80, li_89, li_99, li_101, li_112, li_113, li_256, li_999, li_1023, nI_add, pk_mul])) (by omega) (by decide) ?_
          refine aw_iconst (v := 1) dX8_drop_114 (by decide) ?_
          refine aw_iload_n dX8_drop_115 rfl ?_
          refine aw_ishl dX8_drop_116 ?_
          refine aw_iconst (v := (-1)) dX8_drop_117 (by decide) ?_
          refine aw_ixor dX8_drop_118 ?_
          refine aw_iand dX8_drop_119 ?_
          simp only [dI_dI, dI_s]
          rw [show upd (d1.1 161) (77 + n) (nI (lacks (y.1 7 n) (2 ^ k))) (77 + k) = nI (y.1 7 k) from by have := (r1.2.2.2.2.2 k (by omega)).1; rw [up_n _ _ (by omega)] at this; exact this, nI_sh1 n (by omega), nI_lacks (by omega) (Nat.pow_lt_pow_right (m := n) (n := 12) (by decide) (by omega))]
          refine aw_iastN dX8_drop_120 hp_161 (77 + k) (by first | rfl | (simp only [li_0, li_1, li_2, li_3, li_4, li_5, li_7, li_8, li_9, li_11, li_12, li_16, li_17, li_31, li_32, li_60, li_77, li_80, li_89, li_99, li_101, li_112, li_113, li_256, li_999, li_1023, nI_add, pk_mul])) (by omega) (by decide)  ?_
          simp only [dI_dI, dI_s]
          have hrc : RR ((dI d1 161 (upd (upd (d1.1 161) (77 + n) (nI (lacks (y.1 7 n) (2 ^ k)))) (77 + k) (nI (lacks (y.1 7 k) (2 ^ n))))).1 161) (clq (up (up y.1 7 n (clr (y.1 7 n) k)) 7 k (clr (y.1 7 k) n))) := by rw [dI_s]; exact RR_clq r2
          refine aw_aload_n dX8_drop_121 rfl ?_
          refine aw_iload_n dX8_drop_122 rfl ?_
          refine aw_iload_n dX8_drop_123 rfl ?_
          refine aw_cVv dX8_drop_124 oX8_parts vX8_parts rfl lX8_142 (kX8_parts (q := clq (up (up y.1 7 n (clr (y.1 7 n) k)) 7 k (clr (y.1 7 k) n))) hrc ok0 hk hn hne) rfl (hp_160 _) rfl rfl rfl (Nat.le_of_ble_eq_true rfl) (by decide) (Nat.le_of_ble_eq_true rfl) ?_
          rintro d4 ⟨hm4, h160, hr4⟩
          have hmc : MC d d4 y (drq y.1 k n) y.2.2.2.1 := MC_m hm0 (mI_t (mI_g (mI_r d1) _) hm4) hr4 okD (by rw [h160, dI_n _ _ (by decide)]; exact hm0.2.2.2.2.1) hm0.2.2.2.2.2
          refine aw_aload_n dX8_drop_127 rfl ?_
          refine aw_aload_n dX8_drop_128 rfl ?_
          refine aw_iload_n dX8_drop_129 rfl ?_
          refine aw_if_eq 137 dX8_drop_130 (by decide) (fun c130 => ?_) (fun c130 => ?_)
          · refine aw_iconst (v := 0) dX8_drop_137 (by decide) ?_
            refine aw_iload dX8_drop_138 rfl ?_
            refine aw_if_eq 147 dX8_drop_140 (by decide) (fun c140 => ?_) (fun c140 => ?_)
            · refine aw_iconst (v := 0) dX8_drop_147 (by decide) ?_
              refine aw_iadd dX8_drop_148 ?_
              refine aw_cVI dX8_drop_149 oX8_done vX8_done rfl lX8_91 kX8_done rfl (hp_160 _) rfl rfl rfl (Nat.le_of_ble_eq_true rfl) (by decide) (Nat.le_of_ble_eq_true rfl) ?_
              rintro _ d8 ⟨rfl, rfl⟩
              refine aw_cVI dX8_drop_152 oX8_changed vX8_changed rfl lX8_94 (kX8_changed (MC_7 hmc 0) 0 (by decide) (by rw [dI_s]; rfl)) rfl (hp_160 _) rfl rfl rfl (Nat.le_of_ble_eq_true rfl) (by decide) (Nat.le_of_ble_eq_true rfl) ?_
              rintro _ d5 ⟨rfl, hC⟩
              exact aw_endI dX8_drop_155 rfl (by unfold oDrop; rw [if_pos hg, ivn (by omega), ivn (by omega), if_neg hno, if_neg (by rw [b2i_eq.mp c130]; exact Bool.false_ne_true), if_neg (fun z => z (nI_inj (by omega) (by omega) (c140 : nI (pk y.1 k n) = nI 0)))]; exact RO_ch hC rfl)
            · refine aw_iconst (v := 2) dX8_drop_143 (by decide) ?_
              refine aw_goto (tgt := 148) dX8_drop_144 (by decide) ?_
              refine aw_iadd dX8_drop_148 ?_
              refine aw_cVI dX8_drop_149 oX8_done vX8_done rfl lX8_91 kX8_done rfl (hp_160 _) rfl rfl rfl (Nat.le_of_ble_eq_true rfl) (by decide) (Nat.le_of_ble_eq_true rfl) ?_
              rintro _ d8 ⟨rfl, rfl⟩
              refine aw_cVI dX8_drop_152 oX8_changed vX8_changed rfl lX8_94 (kX8_changed (MC_7 hmc 0) 0 (by decide) (by rw [dI_s]; rfl)) rfl (hp_160 _) rfl rfl rfl (Nat.le_of_ble_eq_true rfl) (by decide) (Nat.le_of_ble_eq_true rfl) ?_
              rintro _ d5 ⟨rfl, hC⟩
              exact aw_endI dX8_drop_155 rfl (by unfold oDrop; rw [if_pos hg, ivn (by omega), ivn (by omega), if_neg hno, if_neg (by rw [b2i_eq.mp c130]; exact Bool.false_ne_true), if_pos (fun z => c140 (by rw [z]; rfl))]; exact RO_ch hC rfl)
          · refine aw_iconst (v := 1) dX8_drop_133 (by decide) ?_
            refine aw_goto (tgt := 138) dX8_drop_134 (by decide) ?_
            refine aw_iload dX8_drop_138 rfl ?_
            refine aw_if_eq 147 dX8_drop_140 (by decide) (fun c140 => ?_) (fun c140 => ?_)
            · refine aw_iconst (v := 0) dX8_drop_147 (by decide) ?_
              refine aw_iadd dX8_drop_148 ?_
              refine aw_cVI dX8_drop_149 oX8_done vX8_done rfl lX8_91 kX8_done rfl (hp_160 _) rfl rfl rfl (Nat.le_of_ble_eq_true rfl) (by decide) (Nat.le_of_ble_eq_true rfl) ?_
              rintro _ d8 ⟨rfl, rfl⟩
              refine aw_cVI dX8_drop_152 oX8_changed vX8_changed rfl lX8_94 (kX8_changed (MC_7 hmc 0) 0 (by decide) (by rw [dI_s]; rfl)) rfl (hp_160 _) rfl rfl rfl (Nat.le_of_ble_eq_true rfl) (by decide) (Nat.le_of_ble_eq_true rfl) ?_
              rintro _ d5 ⟨rfl, hC⟩
              exact aw_endI dX8_drop_155 rfl (by unfold oDrop; rw [if_pos hg, ivn (by omega), ivn (by omega), if_neg hno, if_pos (b2i_ne.mp c130), if_neg (fun z => z (nI_inj (by omega) (by omega) (c140 : nI (pk y.1 k n) = nI 0)))]; exact RO_ch hC rfl)
            · refine aw_iconst (v := 2) dX8_drop_143 (by decide) ?_
              refine aw_goto (tgt := 148) dX8_drop_144 (by decide) ?_
              refine aw_iadd dX8_drop_148 ?_
              refine aw_cVI dX8_drop_149 oX8_done vX8_done rfl lX8_91 kX8_done rfl (hp_160 _) rfl rfl rfl (Nat.le_of_ble_eq_true rfl) (by decide) (Nat.le_of_ble_eq_true rfl) ?_
              rintro _ d8 ⟨rfl, rfl⟩
              refine aw_cVI dX8_drop_152 oX8_changed vX8_changed rfl lX8_94 (kX8_changed (MC_7 hmc 0) 0 (by decide) (by rw [dI_s]; rfl)) rfl (hp_160 _) rfl rfl rfl (Nat.le_of_ble_eq_true rfl) (by decide) (Nat.le_of_ble_eq_true rfl) ?_
              rintro _ d5 ⟨rfl, hC⟩
              exact aw_endI dX8_drop_155 rfl (by unfold oDrop; rw [if_pos hg, ivn (by omega), ivn (by omega), if_neg hno, if_pos (b2i_ne.mp c130), if_pos (fun z => c140 (by rw [z]; rfl))]; exact RO_ch hC rfl)
        · refine aw_iload dX8_drop_72 rfl ?_
          refine aw_if_ne 83 dX8_drop_74 (by decide) (fun c74 => ?_) (fun c74 => ?_)
          · have hno : ¬ (lnk y.1 k n = false ∧ pk y.1 k n = 0) := fun z => c74 (by rw [z.2]; rfl)
            have hne : k ≠ n := fun z => hno (by subst z; exact ok_same ok hk)
            obtain ⟨ok0, okD⟩ := QOK_drq ok hk hn hne
            refine aw_aload_n dX8_drop_83 rfl ?_
            refine aw_cVv dX8_drop_84 oX8_remembers vX8_remembers rfl lX8_84 (kX8_rem hM) rfl (hp_160 _) rfl rfl rfl (Nat.le_of_ble_eq_true rfl) (by decide) (Nat.le_of_ble_eq_true rfl) ?_
            rintro d1 ⟨hm0, -⟩
            have hr0 := hm0.2.2.2.1.1
            have r1 := RR_up (j := 7) (k := n) (v := clr (y.1 7 n) k) (i := 77 + n) hr0 h12 (by decide) (show n < 12 by omega) rfl rfl
            have r2 := RR_up (j := 7) (k := k) (v := clr (y.1 7 k) n) (i := 77 + k) r1 h12 (by decide) (show k < 12 by omega) rfl rfl
            simp only [if_neg (show ¬ (7 = 6) by decide)] at r1 r2
            refine aw_aload_n dX8_drop_87 rfl ?_
            refine aw_gf dX8_drop_88 (hp_160 _) rfl fX8_7 (by decide) rfl ?_
            refine aw_bipush (v := 77) dX8_drop_91 (by decide) ?_
            refine aw_iload_n dX8_drop_93 rfl ?_
            refine aw_iadd dX8_drop_94 ?_
            refine aw_dup2 dX8_drop_95 rfl rfl ?_
            refine aw_ialdN dX8_drop_96 (hp_161 _) rfl (77 + n) (by first | rfl | (simp only [li_0, li_1, li_2, li_3, li_4, li_5, li_7, li_8, li_9, li_11, li_12, li_16, li_17, li_31, li_32, li_60, li_77, li_80, li_89, li_99, li_101, li_112, li_113, li_256, li_999, li_1023, nI_add, pk_mul])) (by omega) (by decide) ?_
            refine aw_iconst (v := 1) dX8_drop_97 (by decide) ?_
            refine aw_iload_n dX8_drop_98 rfl ?_
            refine aw_ishl dX8_drop_99 ?_
            refine aw_iconst (v := (-1)) dX8_drop_100 (by decide) ?_
            refine aw_ixor dX8_drop_101 ?_
            refine aw_iand dX8_drop_102 ?_
            rw [(hr0.2.2.2.2.2 n (by omega)).1, nI_sh1 k (by omega), nI_lacks (by omega) (Nat.pow_lt_pow_right (m := k) (n := 12) (by decide) (by omega))]
            refine aw_iastN dX8_drop_103 hp_161 (77 + n) (by first | rfl | (simp only [li_0, li_1, li_2, li_3, li_4, li_5, li_7, li_8, li_9, li_11, li_12, li_16, li_17, li_31, li_32, li_60, li_77, li_80, li_89, li_99, li_101, li_112, li_113, li_256, li_999, li_1023, nI_add, pk_mul])) (by omega) (by decide)  ?_
            refine aw_aload_n dX8_drop_104 rfl ?_
            refine aw_gf dX8_drop_105 (hp_160 _) rfl fX8_7 (by decide) rfl ?_
            refine aw_bipush (v := 77) dX8_drop_108 (by decide) ?_
            refine aw_iload_n dX8_drop_110 rfl ?_
            refine aw_iadd dX8_drop_111 ?_
            refine aw_dup2 dX8_drop_112 rfl rfl ?_
            refine aw_ialdN dX8_drop_113 (hp_161 _) rfl (77 + k) (by first | rfl | (simp only [li_0, li_1, li_2, li_3, li_4, li_5, li_7, li_8, li_9, li_11, li_12, li_16, li_17, li_31, li_32, li_60, li_77, li_80, li_89, li_99, li_101, li_112, li_113, li_256, li_999, li_1023, nI_add, pk_mul])) (by omega) (by decide) ?_
            refine aw_iconst (v := 1) dX8_drop_114 (by decide) ?_
            refine aw_iload_n dX8_drop_115 rfl ?_
            refine aw_ishl dX8_drop_116 ?_
            refine aw_iconst (v := (-1)) dX8_drop_117 (by decide) ?_
            refine aw_ixor dX8_drop_118 ?_
            refine aw_iand dX8_drop_119 ?_
            simp only [dI_dI, dI_s]
            rw [show upd (d1.1 161) (77 + n) (nI (lacks (y.1 7 n) (2 ^ k))) (77 + k) = nI (y.1 7 k) from by have := (r1.2.2.2.2.2 k (by omega)).1; rw [up_n _ _ (by omega)] at this; exact this, nI_sh1 n (by omega), nI_lacks (by omega) (Nat.pow_lt_pow_right (m := n) (n := 12) (by decide) (by omega))]
            refine aw_iastN dX8_drop_120 hp_161 (77 + k) (by first | rfl | (simp only [li_0, li_1, li_2, li_3, li_4, li_5, li_7, li_8, li_9, li_11, li_12, li_16, li_17, li_31, li_32, li_60, li_77, li_80, li_89, li_99, li_101, li_112, li_113, li_256, li_999, li_1023, nI_add, pk_mul])) (by omega) (by decide)  ?_
            simp only [dI_dI, dI_s]
            have hrc : RR ((dI d1 161 (upd (upd (d1.1 161) (77 + n) (nI (lacks (y.1 7 n) (2 ^ k)))) (77 + k) (nI (lacks (y.1 7 k) (2 ^ n))))).1 161) (clq (up (up y.1 7 n (clr (y.1 7 n) k)) 7 k (clr (y.1 7 k) n))) := by rw [dI_s]; exact RR_clq r2
            refine aw_aload_n dX8_drop_121 rfl ?_
            refine aw_iload_n dX8_drop_122 rfl ?_
            refine aw_iload_n dX8_drop_123 rfl ?_
            refine aw_cVv dX8_drop_124 oX8_parts vX8_parts rfl lX8_142 (kX8_parts (q := clq (up (up y.1 7 n (clr (y.1 7 n) k)) 7 k (clr (y.1 7 k) n))) hrc ok0 hk hn hne) rfl (hp_160 _) rfl rfl rfl (Nat.le_of_ble_eq_true rfl) (by decide) (Nat.le_of_ble_eq_true rfl) ?_
            rintro d4 ⟨hm4, h160, hr4⟩
            have hmc : MC d d4 y (drq y.1 k n) y.2.2.2.1 := MC_m hm0 (mI_t (mI_g (mI_r d1) _) hm4) hr4 okD (by rw [h160, dI_n _ _ (by decide)]; exact hm0.2.2.2.2.1) hm0.2.2.2.2.2
            refine aw_aload_n dX8_drop_127 rfl ?_
            refine aw_aload_n dX8_drop_128 rfl ?_
            refine aw_iload_n dX8_drop_129 rfl ?_
            refine aw_if_eq 137 dX8_drop_130 (by decide) (fun c130 => ?_) (fun c130 => ?_)
            · refine aw_iconst (v := 0) dX8_drop_137 (by decide) ?_
              refine aw_iload dX8_drop_138 rfl ?_
              refine aw_if_eq 147 dX8_drop_140 (by decide) (fun c140 => ?_) (fun c140 => ?_)
              · refine aw_iconst (v := 0) dX8_drop_147 (by decide) ?_
                refine aw_iadd dX8_drop_148 ?_
                refine aw_cVI dX8_drop_149 oX8_done vX8_done rfl lX8_91 kX8_done rfl (hp_160 _) rfl rfl rfl (Nat.le_of_ble_eq_true rfl) (by decide) (Nat.le_of_ble_eq_true rfl) ?_
                rintro _ d8 ⟨rfl, rfl⟩
                refine aw_cVI dX8_drop_152 oX8_changed vX8_changed rfl lX8_94 (kX8_changed (MC_7 hmc 0) 0 (by decide) (by rw [dI_s]; rfl)) rfl (hp_160 _) rfl rfl rfl (Nat.le_of_ble_eq_true rfl) (by decide) (Nat.le_of_ble_eq_true rfl) ?_
                rintro _ d5 ⟨rfl, hC⟩
                exact aw_endI dX8_drop_155 rfl (by unfold oDrop; rw [if_pos hg, ivn (by omega), ivn (by omega), if_neg hno, if_neg (by rw [b2i_eq.mp c130]; exact Bool.false_ne_true), if_neg (fun z => z (nI_inj (by omega) (by omega) (c140 : nI (pk y.1 k n) = nI 0)))]; exact RO_ch hC rfl)
              · refine aw_iconst (v := 2) dX8_drop_143 (by decide) ?_
                refine aw_goto (tgt := 148) dX8_drop_144 (by decide) ?_
                refine aw_iadd dX8_drop_148 ?_
                refine aw_cVI dX8_drop_149 oX8_done vX8_done rfl lX8_91 kX8_done rfl (hp_160 _) rfl rfl rfl (Nat.le_of_ble_eq_true rfl) (by decide) (Nat.le_of_ble_eq_true rfl) ?_
                rintro _ d8 ⟨rfl, rfl⟩
                refine aw_cVI dX8_drop_152 oX8_changed vX8_changed rfl lX8_94 (kX8_changed (MC_7 hmc 0) 0 (by decide) (by rw [dI_s]; rfl)) rfl (hp_160 _) rfl rfl rfl (Nat.le_of_ble_eq_true rfl) (by decide) (Nat.le_of_ble_eq_true rfl) ?_
                rintro _ d5 ⟨rfl, hC⟩
                exact aw_endI dX8_drop_155 rfl (by unfold oDrop; rw [if_pos hg, ivn (by omega), ivn (by omega), if_neg hno, if_neg (by rw [b2i_eq.mp c130]; exact Bool.false_ne_true), if_pos (fun z => c140 (by rw [z]; rfl))]; exact RO_ch hC rfl)
            · refine aw_iconst (v := 1) dX8_drop_133 (by decide) ?_
              refine aw_goto (tgt := 138) dX8_drop_134 (by decide) ?_
              refine aw_iload dX8_drop_138 rfl ?_
              refine aw_if_eq 147 dX8_drop_140 (by decide) (fun c140 => ?_) (fun c140 => ?_)
              · refine aw_iconst (v := 0) dX8_drop_147 (by decide) ?_
                refine aw_iadd dX8_drop_148 ?_
                refine aw_cVI dX8_drop_149 oX8_done vX8_done rfl lX8_91 kX8_done rfl (hp_160 _) rfl rfl rfl (Nat.le_of_ble_eq_true rfl) (by decide) (Nat.le_of_ble_eq_true rfl) ?_
                rintro _ d8 ⟨rfl, rfl⟩
                refine aw_cVI dX8_drop_152 oX8_changed vX8_changed rfl lX8_94 (kX8_changed (MC_7 hmc 0) 0 (by decide) (by rw [dI_s]; rfl)) rfl (hp_160 _) rfl rfl rfl (Nat.le_of_ble_eq_true rfl) (by decide) (Nat.le_of_ble_eq_true rfl) ?_
                rintro _ d5 ⟨rfl, hC⟩
                exact aw_endI dX8_drop_155 rfl (by unfold oDrop; rw [if_pos hg, ivn (by omega), ivn (by omega), if_neg hno, if_pos (b2i_ne.mp c130), if_neg (fun z => z (nI_inj (by omega) (by omega) (c140 : nI (pk y.1 k n) = nI 0)))]; exact RO_ch hC rfl)
              · refine aw_iconst (v := 2) dX8_drop_143 (by decide) ?_
                refine aw_goto (tgt := 148) dX8_drop_144 (by decide) ?_
                refine aw_iadd dX8_drop_148 ?_
                refine aw_cVI dX8_drop_149 oX8_done vX8_done rfl lX8_91 kX8_done rfl (hp_160 _) rfl rfl rfl (Nat.le_of_ble_eq_true rfl) (by decide) (Nat.le_of_ble_eq_true rfl) ?_
                rintro _ d8 ⟨rfl, rfl⟩
                refine aw_cVI dX8_drop_152 oX8_changed vX8_changed rfl lX8_94 (kX8_changed (MC_7 hmc 0) 0 (by decide) (by rw [dI_s]; rfl)) rfl (hp_160 _) rfl rfl rfl (Nat.le_of_ble_eq_true rfl) (by decide) (Nat.le_of_ble_eq_true rfl) ?_
                rintro _ d5 ⟨rfl, hC⟩
                exact aw_endI dX8_drop_155 rfl (by unfold oDrop; rw [if_pos hg, ivn (by omega), ivn (by omega), if_neg hno, if_pos (b2i_ne.mp c130), if_pos (fun z => c140 (by rw [z]; rfl))]; exact RO_ch hC rfl)
          · refine aw_aload_n dX8_drop_77 rfl ?_
            refine aw_iconst (v := 2) dX8_drop_78 (by decide) ?_
            refine aw_cVI dX8_drop_79 oX8_fails vX8_fails rfl lX8_87 kX8_fails rfl (hp_160 _) rfl rfl rfl (Nat.le_of_ble_eq_true rfl) (by decide) (Nat.le_of_ble_eq_true rfl) ?_
            rintro _ d9 ⟨rfl, rfl⟩
            exact aw_endI dX8_drop_82 rfl (by unfold oDrop; rw [if_pos hg, ivn (by omega), ivn (by omega), if_pos ⟨b2i_eq.mp c69, nI_inj (by omega) (by omega) (c74 : nI (pk y.1 k n) = nI 0)⟩]; exact RO_f hM (mS_r d) rfl (by decide))
      · refine aw_aload_n dX8_drop_22 rfl ?_
        refine aw_gf dX8_drop_23 (hp_160 _) rfl fX8_7 (by decide) rfl ?_
        refine aw_bipush (v := 77) dX8_drop_26 (by decide) ?_
        refine aw_iload_n dX8_drop_28 rfl ?_
        refine aw_iadd dX8_drop_29 ?_
        refine aw_ialdN dX8_drop_30 (hp_161 _) rfl (77 + n) (by first | rfl | (simp only [li_0, li_1, li_2, li_3, li_4, li_5, li_7, li_8, li_9, li_11, li_12, li_16, li_17, li_31, li_32, li_60, li_77, li_80, li_89, li_99, li_101, li_112, li_113, li_256, li_999, li_1023, nI_add, pk_mul])) (by omega) (by decide) ?_
        refine aw_iload_n dX8_drop_31 rfl ?_
        rw [(hr.2.2.2.2.2 n (by omega)).1]
        refine aw_cSP dX8_drop_32 oX8_has sX8_has rfl lX8_127 kX8_has rfl rfl (Nat.le_of_ble_eq_true rfl) (by decide) (Nat.le_of_ble_eq_true rfl) ?_
        refine aw_if_ne 54 dX8_drop_35 (by decide) (fun c35 => ?_) (fun c35 => ?_)
        · refine aw_iconst (v := 1) dX8_drop_54 (by decide) ?_
          refine aw_goto (tgt := 59) dX8_drop_55 (by decide) ?_
          exact kJ59 _ (by rw [hb_nI (by omega) (by omega)] at c35; (first | (rw [b2i_ne] at c35) | (rw [b2i_eq] at c35)); simp only [lnk, c35, Bool.true_or]; rfl)
        · refine aw_aload_n dX8_drop_38 rfl ?_
          refine aw_gf dX8_drop_39 (hp_160 _) rfl fX8_7 (by decide) rfl ?_
          refine aw_bipush (v := 77) dX8_drop_42 (by decide) ?_
          refine aw_iload_n dX8_drop_44 rfl ?_
          refine aw_iadd dX8_drop_45 ?_
          refine aw_ialdN dX8_drop_46 (hp_161 _) rfl (77 + k) (by first | rfl | (simp only [li_0, li_1, li_2, li_3, li_4, li_5, li_7, li_8, li_9, li_11, li_12, li_16, li_17, li_31, li_32, li_60, li_77, li_80, li_89, li_99, li_101, li_112, li_113, li_256, li_999, li_1023, nI_add, pk_mul])) (by omega) (by decide) ?_
          refine aw_iload_n dX8_drop_47 rfl ?_
          rw [(hr.2.2.2.2.2 k (by omega)).1]
          refine aw_cSP dX8_drop_48 oX8_has sX8_has rfl lX8_127 kX8_has rfl rfl (Nat.le_of_ble_eq_true rfl) (by decide) (Nat.le_of_ble_eq_true rfl) ?_
          refine aw_if_eq 58 dX8_drop_51 (by decide) (fun c51 => ?_) (fun c51 => ?_)
          · refine aw_iconst (v := 0) dX8_drop_58 (by decide) ?_
            exact kJ59 _ (by rw [hb_nI (by omega) (by omega)] at c35; (first | (rw [b2i_ne] at c35) | (rw [b2i_eq] at c35)); rw [hb_nI (by omega) (by omega)] at c51; (first | (rw [b2i_ne] at c51) | (rw [b2i_eq] at c51)); simp only [lnk, c35, c51]; rfl)
          · refine aw_iconst (v := 1) dX8_drop_54 (by decide) ?_
            refine aw_goto (tgt := 59) dX8_drop_55 (by decide) ?_
            exact kJ59 _ (by rw [hb_nI (by omega) (by omega)] at c35; (first | (rw [b2i_ne] at c35) | (rw [b2i_eq] at c35)); rw [hb_nI (by omega) (by omega)] at c51; (first | (rw [b2i_ne] at c51) | (rw [b2i_eq] at c51)); simp only [lnk, c35, c51, Bool.or_true]; rfl)
    · refine aw_aload_n dX8_drop_16 rfl ?_
      refine aw_iconst (v := 1) dX8_drop_17 (by decide) ?_
      refine aw_cVI dX8_drop_18 oX8_fails vX8_fails rfl lX8_87 kX8_fails rfl (hp_160 _) rfl rfl rfl (Nat.le_of_ble_eq_true rfl) (by decide) (Nat.le_of_ble_eq_true rfl) ?_
      rintro _ d9 ⟨rfl, rfl⟩
      exact aw_endI dX8_drop_21 rfl (by unfold oDrop; rw [if_neg (fun z => b2d_f c13 z.2)]; exact RO_f hM (mS_r d) rfl (by decide))

set_option maxHeartbeats 4000000 in
set_option maxRecDepth 100000 in
theorem kX8_task {y : Sy} {d : Dt} (hM : MR d y) {t w : Int32} : CI mX8_task 8 [.ref 160, .int t, .int w] d (fun x d' => RO d d' x (oTask y t w)) := by
  show AW mX8_task 8 true (PIx (fun x d' => RO d d' x (oTask y t w)) nX) 0 0 0 [(0, .ref 160), (1, .int t), (2, .int w)] [] (HP d)
  have ok := hM.1.2
  have hr := hM.1.1
  have h12 := ok.2.1
  have hp12 := pow12 h12
  refine aw_aload_n dX8_task_0 rfl ?_
  refine aw_iload_n dX8_task_1 rfl ?_
  refine aw_cVP dX8_task_2 oX8_isTask vX8_isTask rfl lX8_121 (kT8 hM.1.1) rfl (hp_160 _) rfl rfl rfl (Nat.le_of_ble_eq_true rfl) (by decide) (Nat.le_of_ble_eq_true rfl) ?_
  refine aw_if_eq 18 dX8_task_5 (by decide) (fun c5 => ?_) (fun c5 => ?_)
  · refine aw_aload_n dX8_task_18 rfl ?_
    refine aw_aload_n dX8_task_19 rfl ?_
    refine aw_iload_n dX8_task_20 rfl ?_
    refine aw_cVP dX8_task_21 oX8_isTask vX8_isTask rfl lX8_121 (kT8 hM.1.1) rfl (hp_160 _) rfl rfl rfl (Nat.le_of_ble_eq_true rfl) (by decide) (Nat.le_of_ble_eq_true rfl) ?_
    refine aw_if_ne 31 dX8_task_24 (by decide) (fun c24 => ?_) (fun c24 => ?_)
    · refine aw_iconst (v := 2) dX8_task_31 (by decide) ?_
      refine aw_cVI dX8_task_32 oX8_fails vX8_fails rfl lX8_87 kX8_fails rfl (hp_160 _) rfl rfl rfl (Nat.le_of_ble_eq_true rfl) (by decide) (Nat.le_of_ble_eq_true rfl) ?_
      rintro _ d9 ⟨rfl, rfl⟩
      exact (c24 c5).elim
    · refine aw_iconst (v := 1) dX8_task_27 (by decide) ?_
      refine aw_goto (tgt := 32) dX8_task_28 (by decide) ?_
      refine aw_cVI dX8_task_32 oX8_fails vX8_fails rfl lX8_87 kX8_fails rfl (hp_160 _) rfl rfl rfl (Nat.le_of_ble_eq_true rfl) (by decide) (Nat.le_of_ble_eq_true rfl) ?_
      rintro _ d9 ⟨rfl, rfl⟩
      exact aw_endI dX8_task_35 rfl (by unfold oTask; rw [if_neg (b2d_f c5)]; exact RO_f hM (mS_r d) rfl (by decide))
  · refine aw_iload_n dX8_task_8 rfl ?_
    refine aw_iconst (v := 0) dX8_task_9 (by decide) ?_
    refine aw_bipush (v := 11) dX8_task_10 (by decide) ?_
    refine aw_cSP dX8_task_12 oX8_in sX8_in rfl lX8_74 kX8_in rfl rfl (Nat.le_of_ble_eq_true rfl) (by decide) (Nat.le_of_ble_eq_true rfl) ?_
    refine aw_if_ne 36 dX8_task_15 (by decide) (fun c15 => ?_) (fun c15 => ?_)
    · have hg1 := b2d_t c5
      have hg2 := b2d_t c15
      obtain ⟨k, rfl, hk⟩ := tk_nI h12 (b2d_t c5)
      obtain ⟨i, rfl, hi1, hi2⟩ := in_nI (a := 0) (b := 11) rfl rfl (by decide) (by decide) (b2d_t c15)
      rcases (show i = 0 ∨ i = 1 ∨ i = 2 ∨ i = 3 ∨ i = 4 ∨ i = 5 ∨ i = 6 ∨ i = 7 ∨ i = 8 ∨ i = 9 ∨ i = 10 ∨ i = 11 by omega) with rfl | rfl | rfl | rfl | rfl | rfl | rfl | rfl | rfl | rfl | rfl | rfl
      · refine aw_iload_n dX8_task_36 rfl ?_
        refine aw_tabIn (off := 59) (tgt := 96) dX8_task_37 (by decide) (by decide) (by decide) (by decide) ?_
        refine aw_aload_n dX8_task_96 rfl ?_
        refine aw_aload_n dX8_task_97 rfl ?_
        refine aw_iload_n dX8_task_98 rfl ?_
        refine aw_iload_n dX8_task_99 rfl ?_
        refine aw_cVP dX8_task_100 oX8_of vX8_of rfl lX8_124 (kX8_of (t := k) (w := 0) (by omega) (by omega)) rfl (hp_160 _) rfl rfl rfl (Nat.le_of_ble_eq_true rfl) (by decide) (Nat.le_of_ble_eq_true rfl) ?_
        refine aw_cVI dX8_task_103 oX8_done vX8_done rfl lX8_91 kX8_done rfl (hp_160 _) rfl rfl rfl (Nat.le_of_ble_eq_true rfl) (by decide) (Nat.le_of_ble_eq_true rfl) ?_
        rintro _ d8 ⟨rfl, rfl⟩
        exact aw_endI dX8_task_106 rfl (by unfold oTask; rw [if_pos hg1, if_pos hg2, ivn (by omega), ivn (by omega)]; exact RO_q hM (mS_r d) ((hr.2.2.2.2.1 k hk).1 0 (by decide)))
      · refine aw_iload_n dX8_task_36 rfl ?_
        refine aw_tabIn (off := 59) (tgt := 96) dX8_task_37 (by decide) (by decide) (by decide) (by decide) ?_
        refine aw_aload_n dX8_task_96 rfl ?_
        refine aw_aload_n dX8_task_97 rfl ?_
        refine aw_iload_n dX8_task_98 rfl ?_
        refine aw_iload_n dX8_task_99 rfl ?_
        refine aw_cVP dX8_task_100 oX8_of vX8_of rfl lX8_124 (kX8_of (t := k) (w := 1) (by omega) (by omega)) rfl (hp_160 _) rfl rfl rfl (Nat.le_of_ble_eq_true rfl) (by decide) (Nat.le_of_ble_eq_true rfl) ?_
        refine aw_cVI dX8_task_103 oX8_done vX8_done rfl lX8_91 kX8_done rfl (hp_160 _) rfl rfl rfl (Nat.le_of_ble_eq_true rfl) (by decide) (Nat.le_of_ble_eq_true rfl) ?_
        rintro _ d8 ⟨rfl, rfl⟩
        exact aw_endI dX8_task_106 rfl (by unfold oTask; rw [if_pos hg1, if_pos hg2, ivn (by omega), ivn (by omega)]; exact RO_q hM (mS_r d) ((hr.2.2.2.2.1 k hk).1 1 (by decide)))
      · refine aw_iload_n dX8_task_36 rfl ?_
        refine aw_tabIn (off := 59) (tgt := 96) dX8_task_37 (by decide) (by decide) (by decide) (by decide) ?_
        refine aw_aload_n dX8_task_96 rfl ?_
        refine aw_aload_n dX8_task_97 rfl ?_
        refine aw_iload_n dX8_task_98 rfl ?_
        refine aw_iload_n dX8_task_99 rfl ?_
        refine aw_cVP dX8_task_100 oX8_of vX8_of rfl lX8_124 (kX8_of (t := k) (w := 2) (by omega) (by omega)) rfl (hp_160 _) rfl rfl rfl (Nat.le_of_ble_eq_true rfl) (by decide) (Nat.le_of_ble_eq_true rfl) ?_
        refine aw_cVI dX8_task_103 oX8_done vX8_done rfl lX8_91 kX8_done rfl (hp_160 _) rfl rfl rfl (Nat.le_of_ble_eq_true rfl) (by decide) (Nat.le_of_ble_eq_true rfl) ?_
        rintro _ d8 ⟨rfl, rfl⟩
        exact aw_endI dX8_task_106 rfl (by unfold oTask; rw [if_pos hg1, if_pos hg2, ivn (by omega), ivn (by omega)]; exact RO_q hM (mS_r d) ((hr.2.2.2.2.1 k hk).1 2 (by decide)))
      · refine aw_iload_n dX8_task_36 rfl ?_
        refine aw_tabIn (off := 59) (tgt := 96) dX8_task_37 (by decide) (by decide) (by decide) (by decide) ?_
        refine aw_aload_n dX8_task_96 rfl ?_
        refine aw_aload_n dX8_task_97 rfl ?_
        refine aw_iload_n dX8_task_98 rfl ?_
        refine aw_iload_n dX8_task_99 rfl ?_
        refine aw_cVP dX8_task_100 oX8_of vX8_of rfl lX8_124 (kX8_of (t := k) (w := 3) (by omega) (by omega)) rfl (hp_160 _) rfl rfl rfl (Nat.le_of_ble_eq_true rfl) (by decide) (Nat.le_of_ble_eq_true rfl) ?_
        refine aw_cVI dX8_task_103 oX8_done vX8_done rfl lX8_91 kX8_done rfl (hp_160 _) rfl rfl rfl (Nat.le_of_ble_eq_true rfl) (by decide) (Nat.le_of_ble_eq_true rfl) ?_
        rintro _ d8 ⟨rfl, rfl⟩
        exact aw_endI dX8_task_106 rfl (by unfold oTask; rw [if_pos hg1, if_pos hg2, ivn (by omega), ivn (by omega)]; exact RO_q hM (mS_r d) (hr.2.2.2.2.1 k hk).2.1)
      · refine aw_iload_n dX8_task_36 rfl ?_
        refine aw_tabIn (off := 70) (tgt := 107) dX8_task_37 (by decide) (by decide) (by decide) (by decide) ?_
        refine aw_aload_n dX8_task_107 rfl ?_
        refine aw_aload_n dX8_task_108 rfl ?_
        refine aw_iload_n dX8_task_109 rfl ?_
        refine aw_cVP dX8_task_110 oX8_weighted vX8_weighted rfl lX8_150 (kX8_weighted hr ok hk) rfl (hp_160 _) rfl rfl rfl (Nat.le_of_ble_eq_true rfl) (by decide) (Nat.le_of_ble_eq_true rfl) ?_
        refine aw_cVI dX8_task_113 oX8_done vX8_done rfl lX8_91 kX8_done rfl (hp_160 _) rfl rfl rfl (Nat.le_of_ble_eq_true rfl) (by decide) (Nat.le_of_ble_eq_true rfl) ?_
        rintro _ d8 ⟨rfl, rfl⟩
        exact aw_endI dX8_task_116 rfl (by unfold oTask; rw [if_pos hg1, if_pos hg2, ivn (by omega), ivn (by omega)]; exact RO_q hM (mS_r d) rfl)
      · refine aw_iload_n dX8_task_36 rfl ?_
        refine aw_tabIn (off := 80) (tgt := 117) dX8_task_37 (by decide) (by decide) (by decide) (by decide) ?_
        refine aw_aload_n dX8_task_117 rfl ?_
        refine aw_aload_n dX8_task_118 rfl ?_
        refine aw_iload_n dX8_task_119 rfl ?_
        refine aw_iconst (v := 4) dX8_task_120 (by decide) ?_
        refine aw_cVP dX8_task_121 oX8_of vX8_of rfl lX8_124 (kX8_of (t := k) (w := 4) (by omega) (by omega)) rfl (hp_160 _) rfl rfl rfl (Nat.le_of_ble_eq_true rfl) (by decide) (Nat.le_of_ble_eq_true rfl) ?_
        refine aw_cVI dX8_task_124 oX8_done vX8_done rfl lX8_91 kX8_done rfl (hp_160 _) rfl rfl rfl (Nat.le_of_ble_eq_true rfl) (by decide) (Nat.le_of_ble_eq_true rfl) ?_
        rintro _ d8 ⟨rfl, rfl⟩
        exact aw_endI dX8_task_127 rfl (by unfold oTask; rw [if_pos hg1, if_pos hg2, ivn (by omega), ivn (by omega)]; exact RO_q hM (mS_r d) ((hr.2.2.2.2.1 k hk).2.2))
      · refine aw_iload_n dX8_task_36 rfl ?_
        refine aw_tabIn (off := 91) (tgt := 128) dX8_task_37 (by decide) (by decide) (by decide) (by decide) ?_
        refine aw_aload_n dX8_task_128 rfl ?_
        refine aw_aload_n dX8_task_129 rfl ?_
        refine aw_iload_n dX8_task_130 rfl ?_
        refine aw_cVP dX8_task_131 oX8_aheadOf vX8_aheadOf rfl lX8_130 (kX8_aheadOf hr ok (t := k) (by omega)) rfl (hp_160 _) rfl rfl rfl (Nat.le_of_ble_eq_true rfl) (by decide) (Nat.le_of_ble_eq_true rfl) ?_
        refine aw_cVI dX8_task_134 oX8_done vX8_done rfl lX8_91 kX8_done rfl (hp_160 _) rfl rfl rfl (Nat.le_of_ble_eq_true rfl) (by decide) (Nat.le_of_ble_eq_true rfl) ?_
        rintro _ d8 ⟨rfl, rfl⟩
        exact aw_endI dX8_task_137 rfl (by unfold oTask; rw [if_pos hg1, if_pos hg2, ivn (by omega), ivn (by omega)]; exact RO_q hM (mS_r d) rfl)
      · refine aw_iload_n dX8_task_36 rfl ?_
        refine aw_tabIn (off := 101) (tgt := 138) dX8_task_37 (by decide) (by decide) (by decide) (by decide) ?_
        refine aw_aload_n dX8_task_138 rfl ?_
        refine aw_aload_n dX8_task_139 rfl ?_
        refine aw_iload_n dX8_task_140 rfl ?_
        refine aw_cVP dX8_task_141 oX8_behind vX8_behind rfl lX8_153 (kX8_behind hr ok (t := k) (by omega)) rfl (hp_160 _) rfl rfl rfl (Nat.le_of_ble_eq_true rfl) (by decide) (Nat.le_of_ble_eq_true rfl) ?_
        refine aw_cVI dX8_task_144 oX8_done vX8_done rfl lX8_91 kX8_done rfl (hp_160 _) rfl rfl rfl (Nat.le_of_ble_eq_true rfl) (by decide) (Nat.le_of_ble_eq_true rfl) ?_
        rintro _ d8 ⟨rfl, rfl⟩
        exact aw_endI dX8_task_147 rfl (by unfold oTask; rw [if_pos hg1, if_pos hg2, ivn (by omega), ivn (by omega)]; exact RO_q hM (mS_r d) rfl)
      · refine aw_iload_n dX8_task_36 rfl ?_
        refine aw_tabIn (off := 111) (tgt := 148) dX8_task_37 (by decide) (by decide) (by decide) (by decide) ?_
        refine aw_aload_n dX8_task_148 rfl ?_
        refine aw_aload_n dX8_task_149 rfl ?_
        refine aw_gf dX8_task_150 (hp_160 _) rfl fX8_7 (by decide) rfl ?_
        refine aw_bipush (v := 77) dX8_task_153 (by decide) ?_
        refine aw_iload_n dX8_task_155 rfl ?_
        refine aw_iadd dX8_task_156 ?_
        refine aw_ialdN dX8_task_157 (hp_161 _) rfl (77 + k) (by first | rfl | (simp only [li_0, li_1, li_2, li_3, li_4, li_5, li_7, li_8, li_9, li_11, li_12, li_16, li_17, li_31, li_32, li_60, li_77, li_80, li_89, li_99, li_101, li_112, li_113, li_256, li_999, li_1023, nI_add, pk_mul])) (by omega) (by decide) ?_
        refine aw_cVI dX8_task_158 oX8_done vX8_done rfl lX8_91 kX8_done rfl (hp_160 _) rfl rfl rfl (Nat.le_of_ble_eq_true rfl) (by decide) (Nat.le_of_ble_eq_true rfl) ?_
        rintro _ d8 ⟨rfl, rfl⟩
        exact aw_endI dX8_task_161 rfl (by unfold oTask; rw [if_pos hg1, if_pos hg2, ivn (by omega), ivn (by omega)]; exact RO_q hM (mS_r d) ((hr.2.2.2.2.2 k (by omega)).1))
      · refine aw_iload_n dX8_task_36 rfl ?_
        refine aw_tabIn (off := 125) (tgt := 162) dX8_task_37 (by decide) (by decide) (by decide) (by decide) ?_
        refine aw_aload_n dX8_task_162 rfl ?_
        refine aw_aload_n dX8_task_163 rfl ?_
        refine aw_gf dX8_task_164 (hp_160 _) rfl fX8_7 (by decide) rfl ?_
        refine aw_bipush (v := 89) dX8_task_167 (by decide) ?_
        refine aw_iload_n dX8_task_169 rfl ?_
        refine aw_iadd dX8_task_170 ?_
        refine aw_ialdN dX8_task_171 (hp_161 _) rfl (89 + k) (by first | rfl | (simp only [li_0, li_1, li_2, li_3, li_4, li_5, li_7, li_8, li_9, li_11, li_12, li_16, li_17, li_31, li_32, li_60, li_77, li_80, li_89, li_99, li_101, li_112, li_113, li_256, li_999, li_1023, nI_add, pk_mul])) (by omega) (by decide) ?_
        refine aw_cVI dX8_task_172 oX8_done vX8_done rfl lX8_91 kX8_done rfl (hp_160 _) rfl rfl rfl (Nat.le_of_ble_eq_true rfl) (by decide) (Nat.le_of_ble_eq_true rfl) ?_
        rintro _ d8 ⟨rfl, rfl⟩
        exact aw_endI dX8_task_175 rfl (by unfold oTask; rw [if_pos hg1, if_pos hg2, ivn (by omega), ivn (by omega)]; exact RO_q hM (mS_r d) ((hr.2.2.2.2.2 k (by omega)).2.1))
      · refine aw_iload_n dX8_task_36 rfl ?_
        refine aw_tabIn (off := 139) (tgt := 176) dX8_task_37 (by decide) (by decide) (by decide) (by decide) ?_
        refine aw_aload_n dX8_task_176 rfl ?_
        refine aw_aload_n dX8_task_177 rfl ?_
        refine aw_gf dX8_task_178 (hp_160 _) rfl fX8_7 (by decide) rfl ?_
        refine aw_bipush (v := 101) dX8_task_181 (by decide) ?_
        refine aw_iload_n dX8_task_183 rfl ?_
        refine aw_iadd dX8_task_184 ?_
        refine aw_ialdN dX8_task_185 (hp_161 _) rfl (101 + k) (by first | rfl | (simp only [li_0, li_1, li_2, li_3, li_4, li_5, li_7, li_8, li_9, li_11, li_12, li_16, li_17, li_31, li_32, li_60, li_77, li_80, li_89, li_99, li_101, li_112, li_113, li_256, li_999, li_1023, nI_add, pk_mul])) (by omega) (by decide) ?_
        refine aw_cVI dX8_task_186 oX8_done vX8_done rfl lX8_91 kX8_done rfl (hp_160 _) rfl rfl rfl (Nat.le_of_ble_eq_true rfl) (by decide) (Nat.le_of_ble_eq_true rfl) ?_
        rintro _ d8 ⟨rfl, rfl⟩
        exact aw_endI dX8_task_189 rfl (by unfold oTask; rw [if_pos hg1, if_pos hg2, ivn (by omega), ivn (by omega)]; exact RO_q hM (mS_r d) ((hr.2.2.2.2.2 k (by omega)).2.2))
      · refine aw_iload_n dX8_task_36 rfl ?_
        refine aw_tabOut (tgt := 190) dX8_task_37 (by decide) (by decide) ?_
        refine aw_aload_n dX8_task_190 rfl ?_
        refine aw_aload_n dX8_task_191 rfl ?_
        refine aw_iload_n dX8_task_192 rfl ?_
        refine aw_cVI dX8_task_193 oX8_lowest vX8_lowest rfl lX8_156 (kX8_lowest hr ok hk) rfl (hp_160 _) rfl rfl rfl (Nat.le_of_ble_eq_true rfl) (by decide) (Nat.le_of_ble_eq_true rfl) ?_
        rintro _ d1 ⟨hm1, rfl⟩
        refine aw_cVI dX8_task_196 oX8_done vX8_done rfl lX8_91 kX8_done rfl (hp_160 _) rfl rfl rfl (Nat.le_of_ble_eq_true rfl) (by decide) (Nat.le_of_ble_eq_true rfl) ?_
        rintro _ d8 ⟨rfl, rfl⟩
        exact aw_endI dX8_task_199 rfl (by unfold oTask; rw [if_pos hg1, if_pos hg2, ivn (by omega), ivn (by omega)]; exact RO_q hM hm1 rfl)
    · refine aw_aload_n dX8_task_18 rfl ?_
      refine aw_aload_n dX8_task_19 rfl ?_
      refine aw_iload_n dX8_task_20 rfl ?_
      refine aw_cVP dX8_task_21 oX8_isTask vX8_isTask rfl lX8_121 (kT8 hM.1.1) rfl (hp_160 _) rfl rfl rfl (Nat.le_of_ble_eq_true rfl) (by decide) (Nat.le_of_ble_eq_true rfl) ?_
      refine aw_if_ne 31 dX8_task_24 (by decide) (fun c24 => ?_) (fun c24 => ?_)
      · refine aw_iconst (v := 2) dX8_task_31 (by decide) ?_
        refine aw_cVI dX8_task_32 oX8_fails vX8_fails rfl lX8_87 kX8_fails rfl (hp_160 _) rfl rfl rfl (Nat.le_of_ble_eq_true rfl) (by decide) (Nat.le_of_ble_eq_true rfl) ?_
        rintro _ d9 ⟨rfl, rfl⟩
        exact aw_endI dX8_task_35 rfl (by unfold oTask; rw [if_pos (b2d_t c5), if_neg (b2d_f c15)]; exact RO_f hM (mS_r d) rfl (by decide))
      · refine aw_iconst (v := 1) dX8_task_27 (by decide) ?_
        refine aw_goto (tgt := 32) dX8_task_28 (by decide) ?_
        refine aw_cVI dX8_task_32 oX8_fails vX8_fails rfl lX8_87 kX8_fails rfl (hp_160 _) rfl rfl rfl (Nat.le_of_ble_eq_true rfl) (by decide) (Nat.le_of_ble_eq_true rfl) ?_
        rintro _ d9 ⟨rfl, rfl⟩
        exact (c5 c24).elim

set_option maxHeartbeats 4000000 in
set_option maxRecDepth 100000 in
theorem kX8_priority {y : Sy} {d : Dt} (hM : MR d y) {t p : Int32} : CI mX8_priority 5 [.ref 160, .int t, .int p] d (fun x d' => RO d d' x (oPriority y t p)) := by
  show AW mX8_priority 5 true (PIx (fun x d' => RO d d' x (oPriority y t p)) nX) 0 0 0 [(0, .ref 160), (1, .int t), (2, .int p)] [] (HP d)
  have ok := hM.1.2
  have hr := hM.1.1
  have h12 := ok.2.1
  have hp12 := pow12 h12
  refine aw_aload_n dX8_priority_0 rfl ?_
  refine aw_iload_n dX8_priority_1 rfl ?_
  refine aw_cVP dX8_priority_2 oX8_isTask vX8_isTask rfl lX8_121 (kT8 hM.1.1) rfl (hp_160 _) rfl rfl rfl (Nat.le_of_ble_eq_true rfl) (by decide) (Nat.le_of_ble_eq_true rfl) ?_
  refine aw_if_eq 17 dX8_priority_5 (by decide) (fun c5 => ?_) (fun c5 => ?_)
  · refine aw_aload_n dX8_priority_17 rfl ?_
    refine aw_aload_n dX8_priority_18 rfl ?_
    refine aw_iload_n dX8_priority_19 rfl ?_
    refine aw_cVP dX8_priority_20 oX8_isTask vX8_isTask rfl lX8_121 (kT8 hM.1.1) rfl (hp_160 _) rfl rfl rfl (Nat.le_of_ble_eq_true rfl) (by decide) (Nat.le_of_ble_eq_true rfl) ?_
    refine aw_if_ne 30 dX8_priority_23 (by decide) (fun c23 => ?_) (fun c23 => ?_)
    · refine aw_iconst (v := 2) dX8_priority_30 (by decide) ?_
      refine aw_cVI dX8_priority_31 oX8_fails vX8_fails rfl lX8_87 kX8_fails rfl (hp_160 _) rfl rfl rfl (Nat.le_of_ble_eq_true rfl) (by decide) (Nat.le_of_ble_eq_true rfl) ?_
      rintro _ d9 ⟨rfl, rfl⟩
      exact (c23 c5).elim
    · refine aw_iconst (v := 1) dX8_priority_26 (by decide) ?_
      refine aw_goto (tgt := 31) dX8_priority_27 (by decide) ?_
      refine aw_cVI dX8_priority_31 oX8_fails vX8_fails rfl lX8_87 kX8_fails rfl (hp_160 _) rfl rfl rfl (Nat.le_of_ble_eq_true rfl) (by decide) (Nat.le_of_ble_eq_true rfl) ?_
      rintro _ d9 ⟨rfl, rfl⟩
      exact aw_endI dX8_priority_34 rfl (by unfold oPriority; rw [if_neg (b2d_f c5)]; exact RO_f hM (mS_r d) rfl (by decide))
  · refine aw_iload_n dX8_priority_8 rfl ?_
    refine aw_iconst (v := 0) dX8_priority_9 (by decide) ?_
    refine aw_iconst (v := 3) dX8_priority_10 (by decide) ?_
    refine aw_cSP dX8_priority_11 oX8_in sX8_in rfl lX8_74 kX8_in rfl rfl (Nat.le_of_ble_eq_true rfl) (by decide) (Nat.le_of_ble_eq_true rfl) ?_
    refine aw_if_ne 35 dX8_priority_14 (by decide) (fun c14 => ?_) (fun c14 => ?_)
    · have hg1 := b2d_t c5
      have hg2 := b2d_t c14
      obtain ⟨k, rfl, hk⟩ := tk_nI h12 (b2d_t c5)
      obtain ⟨i, rfl, hi1, hi2⟩ := in_nI (a := 0) (b := 3) rfl rfl (by decide) (by decide) (b2d_t c14)
      refine aw_aload_n dX8_priority_35 rfl ?_
      refine aw_aload_n dX8_priority_36 rfl ?_
      refine aw_iload_n dX8_priority_37 rfl ?_
      refine aw_iload_n dX8_priority_38 rfl ?_
      refine aw_cVP dX8_priority_39 oX8_worth vX8_worth rfl lX8_159 (kX8_worth hr ok hk (p := i) (by omega)) rfl (hp_160 _) rfl rfl rfl (Nat.le_of_ble_eq_true rfl) (by decide) (Nat.le_of_ble_eq_true rfl) ?_
      refine aw_cVI dX8_priority_42 oX8_done vX8_done rfl lX8_91 kX8_done rfl (hp_160 _) rfl rfl rfl (Nat.le_of_ble_eq_true rfl) (by decide) (Nat.le_of_ble_eq_true rfl) ?_
      rintro _ d8 ⟨rfl, rfl⟩
      exact aw_endI dX8_priority_45 rfl (by unfold oPriority; rw [if_pos hg1, if_pos hg2, ivn (by omega), ivn (by omega)]; exact RO_q hM (mS_r d) rfl)
    · refine aw_aload_n dX8_priority_17 rfl ?_
      refine aw_aload_n dX8_priority_18 rfl ?_
      refine aw_iload_n dX8_priority_19 rfl ?_
      refine aw_cVP dX8_priority_20 oX8_isTask vX8_isTask rfl lX8_121 (kT8 hM.1.1) rfl (hp_160 _) rfl rfl rfl (Nat.le_of_ble_eq_true rfl) (by decide) (Nat.le_of_ble_eq_true rfl) ?_
      refine aw_if_ne 30 dX8_priority_23 (by decide) (fun c23 => ?_) (fun c23 => ?_)
      · refine aw_iconst (v := 2) dX8_priority_30 (by decide) ?_
        refine aw_cVI dX8_priority_31 oX8_fails vX8_fails rfl lX8_87 kX8_fails rfl (hp_160 _) rfl rfl rfl (Nat.le_of_ble_eq_true rfl) (by decide) (Nat.le_of_ble_eq_true rfl) ?_
        rintro _ d9 ⟨rfl, rfl⟩
        exact aw_endI dX8_priority_34 rfl (by unfold oPriority; rw [if_pos (b2d_t c5), if_neg (b2d_f c14)]; exact RO_f hM (mS_r d) rfl (by decide))
      · refine aw_iconst (v := 1) dX8_priority_26 (by decide) ?_
        refine aw_goto (tgt := 31) dX8_priority_27 (by decide) ?_
        refine aw_cVI dX8_priority_31 oX8_fails vX8_fails rfl lX8_87 kX8_fails rfl (hp_160 _) rfl rfl rfl (Nat.le_of_ble_eq_true rfl) (by decide) (Nat.le_of_ble_eq_true rfl) ?_
        rintro _ d9 ⟨rfl, rfl⟩
        exact (c5 c23).elim

set_option maxHeartbeats 4000000 in
set_option maxRecDepth 100000 in
theorem kX8_size {y : Sy} {d : Dt} (hM : MR d y) : CI mX8_size 2 [.ref 160] d (fun x d' => RO d d' x (oSize y)) := by
  show AW mX8_size 2 true (PIx (fun x d' => RO d d' x (oSize y)) nX) 0 0 0 [(0, .ref 160)] [] (HP d)
  have ok := hM.1.2
  have hr := hM.1.1
  have h12 := ok.2.1
  refine aw_aload_n dX8_size_0 rfl ?_
  refine aw_aload_n dX8_size_1 rfl ?_
  refine aw_gf dX8_size_2 (hp_160 _) rfl fX8_7 (by decide) rfl ?_
  refine aw_bipush (v := 16) dX8_size_5 (by decide) ?_
  refine aw_ialdN dX8_size_7 (hp_161 _) rfl (16) (by first | rfl | (simp only [li_0, li_1, li_2, li_3, li_4, li_5, li_7, li_8, li_9, li_11, li_12, li_16, li_17, li_31, li_32, li_60, li_77, li_80, li_89, li_99, li_101, li_112, li_113, li_256, li_999, li_1023, nI_add, pk_mul])) (by omega) (by decide) ?_
  refine aw_cVI dX8_size_8 oX8_done vX8_done rfl lX8_91 kX8_done rfl (hp_160 _) rfl rfl rfl (Nat.le_of_ble_eq_true rfl) (by decide) (Nat.le_of_ble_eq_true rfl) ?_
  rintro _ d8 ⟨rfl, rfl⟩
  exact aw_endI dX8_size_11 rfl (by exact RO_q hM (mS_r d) hr.1.2)

set_option maxHeartbeats 4000000 in
set_option maxRecDepth 100000 in
theorem kX8_reason {y : Sy} {d : Dt} (hM : MR d y) {t s : Int32} : CI mX8_reason 7 [.ref 160, .int t, .int s] d (fun x d' => RO d d' x (oReason y t s)) := by
  show AW mX8_reason 7 true (PIx (fun x d' => RO d d' x (oReason y t s)) nX) 0 0 0 [(0, .ref 160), (1, .int t), (2, .int s)] [] (HP d)
  have ok := hM.1.2
  have hr := hM.1.1
  have h12 := ok.2.1
  have hp12 := pow12 h12
  refine aw_aload_n dX8_reason_0 rfl ?_
  refine aw_iload_n dX8_reason_1 rfl ?_
  refine aw_cVP dX8_reason_2 oX8_isTask vX8_isTask rfl lX8_121 (kT8 hM.1.1) rfl (hp_160 _) rfl rfl rfl (Nat.le_of_ble_eq_true rfl) (by decide) (Nat.le_of_ble_eq_true rfl) ?_
  refine aw_if_eq 28 dX8_reason_5 (by decide) (fun c5 => ?_) (fun c5 => ?_)
  · refine aw_aload_n dX8_reason_28 rfl ?_
    refine aw_iconst (v := 1) dX8_reason_29 (by decide) ?_
    refine aw_cVI dX8_reason_30 oX8_fails vX8_fails rfl lX8_87 kX8_fails rfl (hp_160 _) rfl rfl rfl (Nat.le_of_ble_eq_true rfl) (by decide) (Nat.le_of_ble_eq_true rfl) ?_
    rintro _ d9 ⟨rfl, rfl⟩
    exact aw_endI dX8_reason_33 rfl (by unfold oReason; rw [if_neg (fun z => b2d_f c5 z.1)]; exact RO_f hM (mS_r d) rfl (by decide))
  · refine aw_iload_n dX8_reason_8 rfl ?_
    refine aw_cSP dX8_reason_9 oX8_isStation sX8_isStation rfl lX8_109 kX8_isStation rfl rfl (Nat.le_of_ble_eq_true rfl) (by decide) (Nat.le_of_ble_eq_true rfl) ?_
    refine aw_if_eq 28 dX8_reason_12 (by decide) (fun c12 => ?_) (fun c12 => ?_)
    · refine aw_aload_n dX8_reason_28 rfl ?_
      refine aw_iconst (v := 1) dX8_reason_29 (by decide) ?_
      refine aw_cVI dX8_reason_30 oX8_fails vX8_fails rfl lX8_87 kX8_fails rfl (hp_160 _) rfl rfl rfl (Nat.le_of_ble_eq_true rfl) (by decide) (Nat.le_of_ble_eq_true rfl) ?_
      rintro _ d9 ⟨rfl, rfl⟩
      exact aw_endI dX8_reason_33 rfl (by unfold oReason; rw [if_neg (fun z => b2d_f c12 z.2)]; exact RO_f hM (mS_r d) rfl (by decide))
    · have hg1 := b2d_t c5
      have hg2 := b2d_t c12
      obtain ⟨k, rfl, hk⟩ := tk_nI h12 (b2d_t c5)
      obtain ⟨i, rfl, hi1, hi2⟩ := in_nI (a := 0) (b := 7) rfl rfl (by decide) (by decide) (b2d_t c12)
      refine aw_aload_n dX8_reason_15 rfl ?_
      refine aw_aload_n dX8_reason_16 rfl ?_
      refine aw_iload_n dX8_reason_17 rfl ?_
      refine aw_iload_n dX8_reason_18 rfl ?_
      refine aw_cVI dX8_reason_19 oX8_refuses vX8_refuses rfl lX8_187 (kX8_refuses hr ok hk (s := i) (by omega)) rfl (hp_160 _) rfl rfl rfl (Nat.le_of_ble_eq_true rfl) (by decide) (Nat.le_of_ble_eq_true rfl) ?_
      rintro _ d1 ⟨hm1, rfl⟩
      refine aw_cVI dX8_reason_22 oX8_done vX8_done rfl lX8_91 kX8_done rfl (hp_160 _) rfl rfl rfl (Nat.le_of_ble_eq_true rfl) (by decide) (Nat.le_of_ble_eq_true rfl) ?_
      rintro _ d8 ⟨rfl, rfl⟩
      refine aw_goto (tgt := 33) dX8_reason_25 (by decide) ?_
      exact aw_endI dX8_reason_33 rfl (by unfold oReason; rw [if_pos ⟨hg1, hg2⟩, ivn (by omega), ivn (by omega)]; exact RO_q hM hm1 rfl)

set_option maxHeartbeats 4000000 in
set_option maxRecDepth 100000 in
theorem kX8_whyNot {y : Sy} {d : Dt} (hM : MR d y) : CI mX8_whyNot 2 [.ref 160] d (fun x d' => RO d d' x (oWhyNot y)) := by
  show AW mX8_whyNot 2 true (PIx (fun x d' => RO d d' x (oWhyNot y)) nX) 0 0 0 [(0, .ref 160)] [] (HP d)
  have ok := hM.1.2
  have hr := hM.1.1
  have h12 := ok.2.1
  have hw := hM.2.2.2.1.1
  have hw6 := hM.2.2.2.1.2
  refine aw_aload_n dX8_whyNot_0 rfl ?_
  refine aw_gf dX8_whyNot_1 (hp_160 _) rfl fX8_190 (by decide) rfl ?_
  refine aw_if_ne 15 dX8_whyNot_4 (by decide) (fun c4 => ?_) (fun c4 => ?_)
  · refine aw_aload_n dX8_whyNot_15 rfl ?_
    refine aw_aload_n dX8_whyNot_16 rfl ?_
    refine aw_gf dX8_whyNot_17 (hp_160 _) rfl fX8_190 (by decide) rfl ?_
    refine aw_cVI dX8_whyNot_20 oX8_done vX8_done rfl lX8_91 kX8_done rfl (hp_160 _) rfl rfl rfl (Nat.le_of_ble_eq_true rfl) (by decide) (Nat.le_of_ble_eq_true rfl) ?_
    rintro _ d8 ⟨rfl, rfl⟩
    exact aw_endI dX8_whyNot_23 rfl (by unfold oWhyNot; rw [if_neg (fun z => c4 (by rw [hw, z]; rfl))]; exact RO_q hM (mS_r d) hw)
  · refine aw_aload_n dX8_whyNot_7 rfl ?_
    refine aw_iconst (v := 1) dX8_whyNot_8 (by decide) ?_
    refine aw_cVI dX8_whyNot_9 oX8_fails vX8_fails rfl lX8_87 kX8_fails rfl (hp_160 _) rfl rfl rfl (Nat.le_of_ble_eq_true rfl) (by decide) (Nat.le_of_ble_eq_true rfl) ?_
    rintro _ d9 ⟨rfl, rfl⟩
    refine aw_goto (tgt := 23) dX8_whyNot_12 (by decide) ?_
    exact aw_endI dX8_whyNot_23 rfl (by unfold oWhyNot; rw [if_pos (nI_inj (by omega) (by omega) (hw.symm.trans c4 : nI y.2.2.2.1 = nI 0))]; exact RO_f hM (mS_r d) rfl (by decide))

set_option maxHeartbeats 4000000 in
set_option maxRecDepth 100000 in
theorem kX8_station {y : Sy} {d : Dt} (hM : MR d y) {s w : Int32} : CI mX8_station 6 [.ref 160, .int s, .int w] d (fun x d' => RO d d' x (oStation y s w)) := by
  show AW mX8_station 6 true (PIx (fun x d' => RO d d' x (oStation y s w)) nX) 0 0 0 [(0, .ref 160), (1, .int s), (2, .int w)] [] (HP d)
  have ok := hM.1.2
  have hr := hM.1.1
  have h12 := ok.2.1
  have hp12 := pow12 h12
  refine aw_iload_n dX8_station_0 rfl ?_
  refine aw_cSP dX8_station_1 oX8_isStation sX8_isStation rfl lX8_109 kX8_isStation rfl rfl (Nat.le_of_ble_eq_true rfl) (by decide) (Nat.le_of_ble_eq_true rfl) ?_
  refine aw_if_eq 16 dX8_station_4 (by decide) (fun c4 => ?_) (fun c4 => ?_)
  · refine aw_aload_n dX8_station_16 rfl ?_
    refine aw_iload_n dX8_station_17 rfl ?_
    refine aw_cSP dX8_station_18 oX8_isStation sX8_isStation rfl lX8_109 kX8_isStation rfl rfl (Nat.le_of_ble_eq_true rfl) (by decide) (Nat.le_of_ble_eq_true rfl) ?_
    refine aw_if_ne 28 dX8_station_21 (by decide) (fun c21 => ?_) (fun c21 => ?_)
    · refine aw_iconst (v := 2) dX8_station_28 (by decide) ?_
      refine aw_cVI dX8_station_29 oX8_fails vX8_fails rfl lX8_87 kX8_fails rfl (hp_160 _) rfl rfl rfl (Nat.le_of_ble_eq_true rfl) (by decide) (Nat.le_of_ble_eq_true rfl) ?_
      rintro _ d9 ⟨rfl, rfl⟩
      exact (c21 c4).elim
    · refine aw_iconst (v := 1) dX8_station_24 (by decide) ?_
      refine aw_goto (tgt := 29) dX8_station_25 (by decide) ?_
      refine aw_cVI dX8_station_29 oX8_fails vX8_fails rfl lX8_87 kX8_fails rfl (hp_160 _) rfl rfl rfl (Nat.le_of_ble_eq_true rfl) (by decide) (Nat.le_of_ble_eq_true rfl) ?_
      rintro _ d9 ⟨rfl, rfl⟩
      exact aw_endI dX8_station_32 rfl (by unfold oStation; rw [if_neg (b2d_f c4)]; exact RO_f hM (mS_r d) rfl (by decide))
  · refine aw_iload_n dX8_station_7 rfl ?_
    refine aw_iconst (v := 0) dX8_station_8 (by decide) ?_
    refine aw_iconst (v := 5) dX8_station_9 (by decide) ?_
    refine aw_cSP dX8_station_10 oX8_in sX8_in rfl lX8_74 kX8_in rfl rfl (Nat.le_of_ble_eq_true rfl) (by decide) (Nat.le_of_ble_eq_true rfl) ?_
    refine aw_if_ne 33 dX8_station_13 (by decide) (fun c13 => ?_) (fun c13 => ?_)
    · have hg1 := b2d_t c4
      have hg2 := b2d_t c13
      obtain ⟨k, rfl, hk1, hk2⟩ := in_nI (a := 0) (b := 7) rfl rfl (by decide) (by decide) (b2d_t c4)
      obtain ⟨i, rfl, hi1, hi2⟩ := in_nI (a := 0) (b := 5) rfl rfl (by decide) (by decide) (b2d_t c13)
      have hcp := ok.2.2.2.2.1 k (by omega)
      rcases (show i = 0 ∨ i = 1 ∨ i = 2 ∨ i = 3 ∨ i = 4 ∨ i = 5 by omega) with rfl | rfl | rfl | rfl | rfl | rfl
      · refine aw_aload_n dX8_station_33 rfl ?_
        refine aw_iload_n dX8_station_34 rfl ?_
        refine aw_cVP dX8_station_35 oX8_inStation vX8_inStation rfl lX8_178 (kX8_inStation hr ok (s := k) (by omega)) rfl (hp_160 _) rfl rfl rfl (Nat.le_of_ble_eq_true rfl) (by decide) (Nat.le_of_ble_eq_true rfl) ?_
        refine aw_istore_n dX8_station_38 (by decide) rfl ?_
        refine aw_iload_n dX8_station_39 rfl ?_
        refine aw_tabIn (off := 36) (tgt := 76) dX8_station_40 (by decide) (by decide) (by decide) (by decide) ?_
        refine aw_aload_n dX8_station_76 rfl ?_
        refine aw_iload_n dX8_station_77 rfl ?_
        refine aw_cVI dX8_station_78 oX8_done vX8_done rfl lX8_91 kX8_done rfl (hp_160 _) rfl rfl rfl (Nat.le_of_ble_eq_true rfl) (by decide) (Nat.le_of_ble_eq_true rfl) ?_
        rintro _ d8 ⟨rfl, rfl⟩
        exact aw_endI dX8_station_81 rfl (by unfold oStation; rw [if_pos hg1, if_pos hg2, ivn (by omega), ivn (by omega)]; exact RO_q hM (mS_r d) rfl)
      · refine aw_aload_n dX8_station_33 rfl ?_
        refine aw_iload_n dX8_station_34 rfl ?_
        refine aw_cVP dX8_station_35 oX8_inStation vX8_inStation rfl lX8_178 (kX8_inStation hr ok (s := k) (by omega)) rfl (hp_160 _) rfl rfl rfl (Nat.le_of_ble_eq_true rfl) (by decide) (Nat.le_of_ble_eq_true rfl) ?_
        refine aw_istore_n dX8_station_38 (by decide) rfl ?_
        refine aw_iload_n dX8_station_39 rfl ?_
        refine aw_tabIn (off := 42) (tgt := 82) dX8_station_40 (by decide) (by decide) (by decide) (by decide) ?_
        refine aw_aload_n dX8_station_82 rfl ?_
        refine aw_aload_n dX8_station_83 rfl ?_
        refine aw_gf dX8_station_84 (hp_160 _) rfl fX8_7 (by decide) rfl ?_
        refine aw_bipush (v := 8) dX8_station_87 (by decide) ?_
        refine aw_iload_n dX8_station_89 rfl ?_
        refine aw_iadd dX8_station_90 ?_
        skip
        refine aw_ialdN dX8_station_91 (hp_161 _) rfl (8 + k) (by first | rfl | (simp only [li_0, li_1, li_2, li_3, li_4, li_5, li_7, li_8, li_9, li_11, li_12, li_16, li_17, li_31, li_32, li_60, li_77, li_80, li_89, li_99, li_101, li_112, li_113, li_256, li_999, li_1023, nI_add, pk_mul])) (by omega) (by decide) ?_
        refine aw_cVI dX8_station_92 oX8_done vX8_done rfl lX8_91 kX8_done rfl (hp_160 _) rfl rfl rfl (Nat.le_of_ble_eq_true rfl) (by decide) (Nat.le_of_ble_eq_true rfl) ?_
        rintro _ d8 ⟨rfl, rfl⟩
        exact aw_endI dX8_station_95 rfl (by unfold oStation; rw [if_pos hg1, if_pos hg2, ivn (by omega), ivn (by omega)]; exact RO_q hM (mS_r d) (hr.2.2.2.1 k (by omega)))
      · refine aw_aload_n dX8_station_33 rfl ?_
        refine aw_iload_n dX8_station_34 rfl ?_
        refine aw_cVP dX8_station_35 oX8_inStation vX8_inStation rfl lX8_178 (kX8_inStation hr ok (s := k) (by omega)) rfl (hp_160 _) rfl rfl rfl (Nat.le_of_ble_eq_true rfl) (by decide) (Nat.le_of_ble_eq_true rfl) ?_
        refine aw_istore_n dX8_station_38 (by decide) rfl ?_
        refine aw_iload_n dX8_station_39 rfl ?_
        refine aw_tabIn (off := 56) (tgt := 96) dX8_station_40 (by decide) (by decide) (by decide) (by decide) ?_
        refine aw_aload_n dX8_station_96 rfl ?_
        refine aw_aload_n dX8_station_97 rfl ?_
        refine aw_iload_n dX8_station_98 rfl ?_
        refine aw_cVI dX8_station_99 oX8_loadOf vX8_loadOf rfl lX8_175 (kX8_loadOf hr ok (stn_lt ok k)) rfl (hp_160 _) rfl rfl rfl (Nat.le_of_ble_eq_true rfl) (by decide) (Nat.le_of_ble_eq_true rfl) ?_
        rintro _ d1 ⟨⟨hm1, -⟩, rfl⟩
        refine aw_cVI dX8_station_102 oX8_done vX8_done rfl lX8_91 kX8_done rfl (hp_160 _) rfl rfl rfl (Nat.le_of_ble_eq_true rfl) (by decide) (Nat.le_of_ble_eq_true rfl) ?_
        rintro _ d8 ⟨rfl, rfl⟩
        exact aw_endI dX8_station_105 rfl (by unfold oStation; rw [if_pos hg1, if_pos hg2, ivn (by omega), ivn (by omega)]; exact RO_q hM hm1 rfl)
      · refine aw_aload_n dX8_station_33 rfl ?_
        refine aw_iload_n dX8_station_34 rfl ?_
        refine aw_cVP dX8_station_35 oX8_inStation vX8_inStation rfl lX8_178 (kX8_inStation hr ok (s := k) (by omega)) rfl (hp_160 _) rfl rfl rfl (Nat.le_of_ble_eq_true rfl) (by decide) (Nat.le_of_ble_eq_true rfl) ?_
        refine aw_istore_n dX8_station_38 (by decide) rfl ?_
        refine aw_iload_n dX8_station_39 rfl ?_
        refine aw_tabIn (off := 66) (tgt := 106) dX8_station_40 (by decide) (by decide) (by decide) (by decide) ?_
        refine aw_aload_n dX8_station_106 rfl ?_
        refine aw_aload_n dX8_station_107 rfl ?_
        refine aw_iload_n dX8_station_108 rfl ?_
        refine aw_aload_n dX8_station_109 rfl ?_
        refine aw_gf dX8_station_110 (hp_160 _) rfl fX8_7 (by decide) rfl ?_
        refine aw_bipush (v := 8) dX8_station_113 (by decide) ?_
        refine aw_iload_n dX8_station_115 rfl ?_
        refine aw_iadd dX8_station_116 ?_
        refine aw_ialdN dX8_station_117 (hp_161 _) rfl (8 + k) (by first | rfl | (simp only [li_0, li_1, li_2, li_3, li_4, li_5, li_7, li_8, li_9, li_11, li_12, li_16, li_17, li_31, li_32, li_60, li_77, li_80, li_89, li_99, li_101, li_112, li_113, li_256, li_999, li_1023, nI_add, pk_mul])) (by omega) (by decide) ?_
        rw [show d.1 161 (8 + k) = nI (y.1 3 k) from hr.2.2.2.1 k (by omega)]
        refine aw_cVI dX8_station_118 oX8_fits vX8_fits rfl lX8_184 (kX8_fits hr ok (stn_lt ok k) (c := y.1 3 k) (hcp.2)) rfl (hp_160 _) rfl rfl rfl (Nat.le_of_ble_eq_true rfl) (by decide) (Nat.le_of_ble_eq_true rfl) ?_
        rintro _ d1 ⟨hm1, rfl⟩
        refine aw_if_eq 128 dX8_station_121 (by decide) (fun c121 => ?_) (fun c121 => ?_)
        · refine aw_iconst (v := 0) dX8_station_128 (by decide) ?_
          refine aw_cVI dX8_station_129 oX8_done vX8_done rfl lX8_91 kX8_done rfl (hp_160 _) rfl rfl rfl (Nat.le_of_ble_eq_true rfl) (by decide) (Nat.le_of_ble_eq_true rfl) ?_
          rintro _ d8 ⟨rfl, rfl⟩
          exact aw_endI dX8_station_132 rfl (by unfold oStation; rw [if_pos hg1, if_pos hg2, ivn (by omega), ivn (by omega)]; exact RO_q hM hm1 (by show _ = b2i (fitB y.1 (stn y.1 k) (y.1 3 k)); rw [b2i_eq.mp c121]; rfl))
        · refine aw_iconst (v := 1) dX8_station_124 (by decide) ?_
          refine aw_goto (tgt := 129) dX8_station_125 (by decide) ?_
          refine aw_cVI dX8_station_129 oX8_done vX8_done rfl lX8_91 kX8_done rfl (hp_160 _) rfl rfl rfl (Nat.le_of_ble_eq_true rfl) (by decide) (Nat.le_of_ble_eq_true rfl) ?_
          rintro _ d8 ⟨rfl, rfl⟩
          exact aw_endI dX8_station_132 rfl (by unfold oStation; rw [if_pos hg1, if_pos hg2, ivn (by omega), ivn (by omega)]; exact RO_q hM hm1 (by show _ = b2i (fitB y.1 (stn y.1 k) (y.1 3 k)); rw [b2i_ne.mp c121]; rfl))
      · refine aw_aload_n dX8_station_33 rfl ?_
        refine aw_iload_n dX8_station_34 rfl ?_
        refine aw_cVP dX8_station_35 oX8_inStation vX8_inStation rfl lX8_178 (kX8_inStation hr ok (s := k) (by omega)) rfl (hp_160 _) rfl rfl rfl (Nat.le_of_ble_eq_true rfl) (by decide) (Nat.le_of_ble_eq_true rfl) ?_
        refine aw_istore_n dX8_station_38 (by decide) rfl ?_
        refine aw_iload_n dX8_station_39 rfl ?_
        refine aw_tabIn (off := 93) (tgt := 133) dX8_station_40 (by decide) (by decide) (by decide) (by decide) ?_
        refine aw_aload_n dX8_station_133 rfl ?_
        refine aw_aload_n dX8_station_134 rfl ?_
        refine aw_iload_n dX8_station_135 rfl ?_
        refine aw_cVP dX8_station_136 oX8_toolsOf vX8_toolsOf rfl lX8_181 (kX8_toolsOf hr ok (stn_lt ok k)) rfl (hp_160 _) rfl rfl rfl (Nat.le_of_ble_eq_true rfl) (by decide) (Nat.le_of_ble_eq_true rfl) ?_
        refine aw_cVI dX8_station_139 oX8_done vX8_done rfl lX8_91 kX8_done rfl (hp_160 _) rfl rfl rfl (Nat.le_of_ble_eq_true rfl) (by decide) (Nat.le_of_ble_eq_true rfl) ?_
        rintro _ d8 ⟨rfl, rfl⟩
        exact aw_endI dX8_station_142 rfl (by unfold oStation; rw [if_pos hg1, if_pos hg2, ivn (by omega), ivn (by omega)]; exact RO_q hM (mS_r d) rfl)
      · refine aw_aload_n dX8_station_33 rfl ?_
        refine aw_iload_n dX8_station_34 rfl ?_
        refine aw_cVP dX8_station_35 oX8_inStation vX8_inStation rfl lX8_178 (kX8_inStation hr ok (s := k) (by omega)) rfl (hp_160 _) rfl rfl rfl (Nat.le_of_ble_eq_true rfl) (by decide) (Nat.le_of_ble_eq_true rfl) ?_
        refine aw_istore_n dX8_station_38 (by decide) rfl ?_
        refine aw_iload_n dX8_station_39 rfl ?_
        refine aw_tabOut (tgt := 143) dX8_station_40 (by decide) (by decide) ?_
        refine aw_aload_n dX8_station_143 rfl ?_
        refine aw_aload_n dX8_station_144 rfl ?_
        refine aw_iload_n dX8_station_145 rfl ?_
        refine aw_cVI dX8_station_146 oX8_lacks vX8_lacks rfl lX8_199 (kX8_lacks hr ok (s := k) (by omega)) rfl (hp_160 _) rfl rfl rfl (Nat.le_of_ble_eq_true rfl) (by decide) (Nat.le_of_ble_eq_true rfl) ?_
        rintro _ d1 ⟨hm1, rfl⟩
        refine aw_cVI dX8_station_149 oX8_done vX8_done rfl lX8_91 kX8_done rfl (hp_160 _) rfl rfl rfl (Nat.le_of_ble_eq_true rfl) (by decide) (Nat.le_of_ble_eq_true rfl) ?_
        rintro _ d8 ⟨rfl, rfl⟩
        exact aw_endI dX8_station_152 rfl (by unfold oStation; rw [if_pos hg1, if_pos hg2, ivn (by omega), ivn (by omega)]; exact RO_q hM hm1 rfl)
    · refine aw_aload_n dX8_station_16 rfl ?_
      refine aw_iload_n dX8_station_17 rfl ?_
      refine aw_cSP dX8_station_18 oX8_isStation sX8_isStation rfl lX8_109 kX8_isStation rfl rfl (Nat.le_of_ble_eq_true rfl) (by decide) (Nat.le_of_ble_eq_true rfl) ?_
      refine aw_if_ne 28 dX8_station_21 (by decide) (fun c21 => ?_) (fun c21 => ?_)
      · refine aw_iconst (v := 2) dX8_station_28 (by decide) ?_
        refine aw_cVI dX8_station_29 oX8_fails vX8_fails rfl lX8_87 kX8_fails rfl (hp_160 _) rfl rfl rfl (Nat.le_of_ble_eq_true rfl) (by decide) (Nat.le_of_ble_eq_true rfl) ?_
        rintro _ d9 ⟨rfl, rfl⟩
        exact aw_endI dX8_station_32 rfl (by unfold oStation; rw [if_pos (b2d_t c4), if_neg (b2d_f c13)]; exact RO_f hM (mS_r d) rfl (by decide))
      · refine aw_iconst (v := 1) dX8_station_24 (by decide) ?_
        refine aw_goto (tgt := 29) dX8_station_25 (by decide) ?_
        refine aw_cVI dX8_station_29 oX8_fails vX8_fails rfl lX8_87 kX8_fails rfl (hp_160 _) rfl rfl rfl (Nat.le_of_ble_eq_true rfl) (by decide) (Nat.le_of_ble_eq_true rfl) ?_
        rintro _ d9 ⟨rfl, rfl⟩
        exact (c4 c21).elim
