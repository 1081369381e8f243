set_option maxHeartbeats 4000000 in
set_option maxRecDepth 100000 in
theorem kX7_pair_a {y : Sy} {d : Dt} (hC : CC d y) {a b : Int32} : AO mX7_pair 16 [.ref 132, .int a, .int b, .int 1] d [exI, exA] (oPair y a b 10) := by
  show AW mX7_pair 16 true (PIx (PO d (oPair y a b 10)) (XO d [exI, exA] (oPair y a b 10))) 4 24 0 [(0, .ref 132), (1, .int a), (2, .int b), (3, .int 1)] [] (HP d)
  have hs := hC.1.1
  have ok := hC.1.2
  have h12 := ok.2.1
  refine aw_join (P := fun v => v = b2i (decide (tkI y.1 a ∧ tkI y.1 b))) 27 (fun v hv27 => ?_) (fun kJ27 => ?_)
  · subst hv27
    refine aw_ck dX7_pair_27 oX7_checkIndex sX7_checkIndex rfl lX7_64 kX7_checkIndex (Nat.le_of_ble_eq_true rfl) (by decide) (Nat.le_of_ble_eq_true rfl) (by decide) (by decide) (fun x27 => ?_) (fun x27 => ?_)
    · exact (by unfold oPair iPair; rw [if_neg (b2d_f x27)]; exact ⟨fC_r d, hC, Nat.succ_ne_zero _, rfl⟩)
    have hg := b2d_t x27
    obtain ⟨k, rfl, hk⟩ := tk_nI h12 (hg.1)
    obtain ⟨n, rfl, hn⟩ := tk_nI h12 (hg.2)
    refine aw_join (P := fun v => v = b2i (decide (¬ nI k = nI n))) 40 (fun v hv40 => ?_) (fun kJ40 => ?_)
    · subst hv40
      refine aw_ck dX7_pair_40 oX7_checkArgument sX7_checkArgument rfl lX7_53 kX7_checkArgument (Nat.le_of_ble_eq_true rfl) (by decide) (Nat.le_of_ble_eq_true rfl) (by decide) (by decide) (fun x40 => ?_) (fun x40 => ?_)
      · exact (by unfold oPair iPair; rw [if_pos hg, if_pos (Classical.not_not.mp (b2d_f x40))]; exact ⟨fC_r d, hC, Nat.succ_ne_zero _, rfl⟩)
      have hn2 := b2d_t x40
      have hne : k ≠ n := fun z => hn2 (by rw [z])
      refine aw_aload_n dX7_pair_43 rfl ?_
      refine aw_cVv dX7_pair_44 oX7_remember vX7_remember rfl lX7_57 (kX7_remember hC) rfl (hp_132 _) rfl rfl rfl (Nat.le_of_ble_eq_true rfl) (by decide) (Nat.le_of_ble_eq_true rfl) ?_
      rintro d1 ⟨f1, hC1⟩
      have hs1 : KS 0 d1 y.1 := hC1.1.1
      refine aw_aload_n dX7_pair_47 rfl ?_
      refine aw_gf dX7_pair_48 (hp_132 _) rfl fX7_12 (by decide) rfl ?_
      refine aw_iload_n dX7_pair_51 rfl ?_
      refine aw_iload_n dX7_pair_52 rfl ?_
      refine aw_cVP dX7_pair_53 oX4_pairKind vX4_pairKind rfl lX7_140 (kX4_pairKind (q := y.1) hs1 ok (a := k) (b := n) (by omega) (by omega)) rfl (hp_0 _) rfl rfl rfl (Nat.le_of_ble_eq_true rfl) (by decide) (Nat.le_of_ble_eq_true rfl) ?_
      refine aw_istore dX7_pair_56 (by decide) rfl ?_
      refine aw_aload_n dX7_pair_58 rfl ?_
      refine aw_gf dX7_pair_59 (hp_132 _) rfl fX7_12 (by decide) rfl ?_
      refine aw_iload_n dX7_pair_62 rfl ?_
      refine aw_iload_n dX7_pair_63 rfl ?_
      refine aw_iload_n dX7_pair_64 rfl ?_
      refine aw_cVv dX7_pair_65 oX4_join vX4_join rfl lX7_144 (kX4_join_a (q := y.1) hs1 ok hk hn hne) rfl (hp_0 _) rfl rfl rfl (Nat.le_of_ble_eq_true rfl) (by decide) (Nat.le_of_ble_eq_true rfl) ?_
      rintro d2 ⟨g2, hs2⟩
      refine aw_iload dX7_pair_68 rfl ?_
      exact aw_endI dX7_pair_70 rfl (by unfold oPair iPair; rw [if_pos hg, if_neg hn2, ivn (by omega), ivn (by omega)]; exact PO_ch hC1 f1 (fN_NW g2) hs2 (QOK_jn ok (by decide) hk hn hne) rfl)
    · refine aw_iload_n dX7_pair_30 rfl ?_
      refine aw_iload_n dX7_pair_31 rfl ?_
      refine aw_icmp_eq 39 dX7_pair_32 (by decide) (fun c32 => ?_) (fun c32 => ?_)
      · refine aw_iconst (v := 0) dX7_pair_39 (by decide) ?_
        exact kJ40 _ (b2i_f (fun z => z c32)).symm
      · refine aw_iconst (v := 1) dX7_pair_35 (by decide) ?_
        refine aw_goto (tgt := 40) dX7_pair_36 (by decide) ?_
        exact kJ40 _ (b2i_t c32).symm
  · refine aw_aload_n dX7_pair_0 rfl ?_
    refine aw_gf dX7_pair_1 (hp_132 _) rfl fX7_12 (by decide) rfl ?_
    refine aw_iload_n dX7_pair_4 rfl ?_
    refine aw_cVP dX7_pair_5 oX4_hasTask vX4_hasTask rfl lX7_103 (kX4_hasT hs) rfl (hp_0 _) rfl rfl rfl (Nat.le_of_ble_eq_true rfl) (by decide) (Nat.le_of_ble_eq_true rfl) ?_
    refine aw_if_eq 26 dX7_pair_8 (by decide) (fun c8 => ?_) (fun c8 => ?_)
    · refine aw_iconst (v := 0) dX7_pair_26 (by decide) ?_
      exact kJ27 _ (b2i_f (fun z => b2d_f c8 z.1)).symm
    · refine aw_aload_n dX7_pair_11 rfl ?_
      refine aw_gf dX7_pair_12 (hp_132 _) rfl fX7_12 (by decide) rfl ?_
      refine aw_iload_n dX7_pair_15 rfl ?_
      refine aw_cVP dX7_pair_16 oX4_hasTask vX4_hasTask rfl lX7_103 (kX4_hasT hs) rfl (hp_0 _) rfl rfl rfl (Nat.le_of_ble_eq_true rfl) (by decide) (Nat.le_of_ble_eq_true rfl) ?_
      refine aw_if_eq 26 dX7_pair_19 (by decide) (fun c19 => ?_) (fun c19 => ?_)
      · refine aw_iconst (v := 0) dX7_pair_26 (by decide) ?_
        exact kJ27 _ (b2i_f (fun z => b2d_f c19 z.2)).symm
      · refine aw_iconst (v := 1) dX7_pair_22 (by decide) ?_
        refine aw_goto (tgt := 27) dX7_pair_23 (by decide) ?_
        exact kJ27 _ (b2i_t ⟨b2d_t c8, b2d_t c19⟩).symm

set_option maxHeartbeats 4000000 in
set_option maxRecDepth 100000 in
theorem kX7_pair_t {y : Sy} {d : Dt} (hC : CC d y) {a b : Int32} : AO mX7_pair 16 [.ref 132, .int a, .int b, .int 0] d [exI, exA] (oPair y a b 11) := by
  show AW mX7_pair 16 true (PIx (PO d (oPair y a b 11)) (XO d [exI, exA] (oPair y a b 11))) 4 24 0 [(0, .ref 132), (1, .int a), (2, .int b), (3, .int 0)] [] (HP d)
  have hs := hC.1.1
  have ok := hC.1.2
  have h12 := ok.2.1
  refine aw_join (P := fun v => v = b2i (decide (tkI y.1 a ∧ tkI y.1 b))) 27 (fun v hv27 => ?_) (fun kJ27 => ?_)
  · subst hv27
    refine aw_ck dX7_pair_27 oX7_checkIndex sX7_checkIndex rfl lX7_64 kX7_checkIndex (Nat.le_of_ble_eq_true rfl) (by decide) (Nat.le_of_ble_eq_true rfl) (by decide) (by decide) (fun x27 => ?_) (fun x27 => ?_)
    · exact (by unfold oPair iPair; rw [if_neg (b2d_f x27)]; exact ⟨fC_r d, hC, Nat.succ_ne_zero _, rfl⟩)
    have hg := b2d_t x27
    obtain ⟨k, rfl, hk⟩ := tk_nI h12 (hg.1)
    obtain ⟨n, rfl, hn⟩ := tk_nI h12 (hg.2)
    refine aw_join (P := fun v => v = b2i (decide (¬ nI k = nI n))) 40 (fun v hv40 => ?_) (fun kJ40 => ?_)
    · subst hv40
      refine aw_ck dX7_pair_40 oX7_checkArgument sX7_checkArgument rfl lX7_53 kX7_checkArgument (Nat.le_of_ble_eq_true rfl) (by decide) (Nat.le_of_ble_eq_true rfl) (by decide) (by decide) (fun x40 => ?_) (fun x40 => ?_)
      · exact (by unfold oPair iPair; rw [if_pos hg, if_pos (Classical.not_not.mp (b2d_f x40))]; exact ⟨fC_r d, hC, Nat.succ_ne_zero _, rfl⟩)
      have hn2 := b2d_t x40
      have hne : k ≠ n := fun z => hn2 (by rw [z])
      refine aw_aload_n dX7_pair_43 rfl ?_
      refine aw_cVv dX7_pair_44 oX7_remember vX7_remember rfl lX7_57 (kX7_remember hC) rfl (hp_132 _) rfl rfl rfl (Nat.le_of_ble_eq_true rfl) (by decide) (Nat.le_of_ble_eq_true rfl) ?_
      rintro d1 ⟨f1, hC1⟩
      have hs1 : KS 0 d1 y.1 := hC1.1.1
      refine aw_aload_n dX7_pair_47 rfl ?_
      refine aw_gf dX7_pair_48 (hp_132 _) rfl fX7_12 (by decide) rfl ?_
      refine aw_iload_n dX7_pair_51 rfl ?_
      refine aw_iload_n dX7_pair_52 rfl ?_
      refine aw_cVP dX7_pair_53 oX4_pairKind vX4_pairKind rfl lX7_140 (kX4_pairKind (q := y.1) hs1 ok (a := k) (b := n) (by omega) (by omega)) rfl (hp_0 _) rfl rfl rfl (Nat.le_of_ble_eq_true rfl) (by decide) (Nat.le_of_ble_eq_true rfl) ?_
      refine aw_istore dX7_pair_56 (by decide) rfl ?_
      refine aw_aload_n dX7_pair_58 rfl ?_
      refine aw_gf dX7_pair_59 (hp_132 _) rfl fX7_12 (by decide) rfl ?_
      refine aw_iload_n dX7_pair_62 rfl ?_
      refine aw_iload_n dX7_pair_63 rfl ?_
      refine aw_iload_n dX7_pair_64 rfl ?_
      refine aw_cVv dX7_pair_65 oX4_join vX4_join rfl lX7_144 (kX4_join_t (q := y.1) hs1 ok hk hn hne) rfl (hp_0 _) rfl rfl rfl (Nat.le_of_ble_eq_true rfl) (by decide) (Nat.le_of_ble_eq_true rfl) ?_
      rintro d2 ⟨g2, hs2⟩
      refine aw_iload dX7_pair_68 rfl ?_
      exact aw_endI dX7_pair_70 rfl (by unfold oPair iPair; rw [if_pos hg, if_neg hn2, ivn (by omega), ivn (by omega)]; exact PO_ch hC1 f1 (fN_NW g2) hs2 (QOK_jn ok (by decide) hk hn hne) rfl)
    · refine aw_iload_n dX7_pair_30 rfl ?_
      refine aw_iload_n dX7_pair_31 rfl ?_
      refine aw_icmp_eq 39 dX7_pair_32 (by decide) (fun c32 => ?_) (fun c32 => ?_)
      · refine aw_iconst (v := 0) dX7_pair_39 (by decide) ?_
        exact kJ40 _ (b2i_f (fun z => z c32)).symm
      · refine aw_iconst (v := 1) dX7_pair_35 (by decide) ?_
        refine aw_goto (tgt := 40) dX7_pair_36 (by decide) ?_
        exact kJ40 _ (b2i_t c32).symm
  · refine aw_aload_n dX7_pair_0 rfl ?_
    refine aw_gf dX7_pair_1 (hp_132 _) rfl fX7_12 (by decide) rfl ?_
    refine aw_iload_n dX7_pair_4 rfl ?_
    refine aw_cVP dX7_pair_5 oX4_hasTask vX4_hasTask rfl lX7_103 (kX4_hasT hs) rfl (hp_0 _) rfl rfl rfl (Nat.le_of_ble_eq_true rfl) (by decide) (Nat.le_of_ble_eq_true rfl) ?_
    refine aw_if_eq 26 dX7_pair_8 (by decide) (fun c8 => ?_) (fun c8 => ?_)
    · refine aw_iconst (v := 0) dX7_pair_26 (by decide) ?_
      exact kJ27 _ (b2i_f (fun z => b2d_f c8 z.1)).symm
    · refine aw_aload_n dX7_pair_11 rfl ?_
      refine aw_gf dX7_pair_12 (hp_132 _) rfl fX7_12 (by decide) rfl ?_
      refine aw_iload_n dX7_pair_15 rfl ?_
      refine aw_cVP dX7_pair_16 oX4_hasTask vX4_hasTask rfl lX7_103 (kX4_hasT hs) rfl (hp_0 _) rfl rfl rfl (Nat.le_of_ble_eq_true rfl) (by decide) (Nat.le_of_ble_eq_true rfl) ?_
      refine aw_if_eq 26 dX7_pair_19 (by decide) (fun c19 => ?_) (fun c19 => ?_)
      · refine aw_iconst (v := 0) dX7_pair_26 (by decide) ?_
        exact kJ27 _ (b2i_f (fun z => b2d_f c19 z.2)).symm
      · refine aw_iconst (v := 1) dX7_pair_22 (by decide) ?_
        refine aw_goto (tgt := 27) dX7_pair_23 (by decide) ?_
        exact kJ27 _ (b2i_t ⟨b2d_t c8, b2d_t c19⟩).symm

set_option maxHeartbeats 4000000 in
set_option maxRecDepth 100000 in
theorem kX7_task {y : Sy} {d : Dt} (hC : CC d y) {t w : Int32} : AO mX7_task 16 [.ref 132, .int t, .int w] d [exI, exA] (oTask y t w) := by
  show AW mX7_task 16 true (PIx (PO d (oTask y t w)) (XO d [exI, exA] (oTask y t w))) 4 24 0 [(0, .ref 132), (1, .int t), (2, .int w)] [] (HP d)
  have hs := hC.1.1
  have ok := hC.1.2
  have h12 := ok.2.1
  refine aw_aload_n dX7_task_0 rfl ?_
  refine aw_gf dX7_task_1 (hp_132 _) rfl fX7_12 (by decide) rfl ?_
  refine aw_iload_n dX7_task_4 rfl ?_
  refine aw_cVP dX7_task_5 oX4_hasTask vX4_hasTask rfl lX7_103 (kX4_hasT hs) rfl (hp_0 _) rfl rfl rfl (Nat.le_of_ble_eq_true rfl) (by decide) (Nat.le_of_ble_eq_true rfl) ?_
  refine aw_ck dX7_task_8 oX7_checkIndex sX7_checkIndex rfl lX7_64 kX7_checkIndex (Nat.le_of_ble_eq_true rfl) (by decide) (Nat.le_of_ble_eq_true rfl) (by decide) (by decide) (fun x8 => ?_) (fun x8 => ?_)
  · exact (by unfold oTask; rw [if_neg (b2d_f x8)]; exact ⟨fC_r d, hC, Nat.succ_ne_zero _, rfl⟩)
  refine aw_iload_n dX7_task_11 rfl ?_
  refine aw_iconst (v := 0) dX7_task_12 (by decide) ?_
  refine aw_bipush (v := 11) dX7_task_13 (by decide) ?_
  refine aw_cSP dX7_task_15 oX7_isIn sX7_isIn rfl lX7_49 kX7_isIn rfl rfl (Nat.le_of_ble_eq_true rfl) (by decide) (Nat.le_of_ble_eq_true rfl) ?_
  refine aw_ck dX7_task_18 oX7_checkArgument sX7_checkArgument rfl lX7_53 kX7_checkArgument (Nat.le_of_ble_eq_true rfl) (by decide) (Nat.le_of_ble_eq_true rfl) (by decide) (by decide) (fun x18 => ?_) (fun x18 => ?_)
  · exact (by unfold oTask; rw [if_pos (b2d_t x8), if_neg (b2d_f x18)]; exact ⟨fC_r d, hC, Nat.succ_ne_zero _, rfl⟩)
  have hg1 := b2d_t x8
  have hg2 := b2d_t x18
  obtain ⟨k, rfl, hk⟩ := tk_nI h12 (hg1)
  obtain ⟨i, rfl, hi1, hi2⟩ := in_nI (a := 0) (b := 11) rfl rfl (by decide) (by decide) (hg2)
  rcases (show i = 0 ∨ i = 1 ∨ i = 2 ∨ i = 3 ∨ i = 4 ∨ i = 5 ∨ i = 6 ∨ i = 7 ∨ i = 8 ∨ i = 9 ∨ i = 10 ∨ i = 11 by omega) with rfl | rfl | rfl | rfl | rfl | rfl | rfl | rfl | rfl | rfl | rfl | rfl
  · refine aw_iload_n dX7_task_21 rfl ?_
    refine aw_tabOut (tgt := 160) dX7_task_22 (by decide) (by decide) ?_
    refine aw_aload_n dX7_task_160 rfl ?_
    refine aw_gf dX7_task_161 (hp_132 _) rfl fX7_12 (by decide) rfl ?_
    refine aw_gf dX7_task_164 (hp_0 _) rfl fX7_109 (by decide) rfl ?_
    refine aw_iload_n dX7_task_167 rfl ?_
    refine aw_iconst (v := 3) dX7_task_168 (by decide) ?_
    refine aw_imul dX7_task_169 ?_
    refine aw_iload_n dX7_task_170 rfl ?_
    refine aw_iadd dX7_task_171 ?_
    refine aw_ialdN dX7_task_172 (hp_4 _) rfl (3 * k + 0) (by rw [show (3 : Int32) = nI 3 from rfl, pk_mul, nI_add]; exact congrArg nI (by omega)) (by omega) (by decide) ?_
    exact aw_endI dX7_task_173 rfl (by unfold oTask; rw [if_pos hg1, if_pos hg2, ivn (by omega), ivn (by omega)]; exact PO_v (fC_r d) hC (hs 4 (3 * k + 0) (by decide) (show 3 * k + 0 < 36 by omega)))
  · refine aw_iload_n dX7_task_21 rfl ?_
    refine aw_tabOut (tgt := 160) dX7_task_22 (by decide) (by decide) ?_
    refine aw_aload_n dX7_task_160 rfl ?_
    refine aw_gf dX7_task_161 (hp_132 _) rfl fX7_12 (by decide) rfl ?_
    refine aw_gf dX7_task_164 (hp_0 _) rfl fX7_109 (by decide) rfl ?_
    refine aw_iload_n dX7_task_167 rfl ?_
    refine aw_iconst (v := 3) dX7_task_168 (by decide) ?_
    refine aw_imul dX7_task_169 ?_
    refine aw_iload_n dX7_task_170 rfl ?_
    refine aw_iadd dX7_task_171 ?_
    refine aw_ialdN dX7_task_172 (hp_4 _) rfl (3 * k + 1) (by rw [show (3 : Int32) = nI 3 from rfl, pk_mul, nI_add]; exact congrArg nI (by omega)) (by omega) (by decide) ?_
    exact aw_endI dX7_task_173 rfl (by unfold oTask; rw [if_pos hg1, if_pos hg2, ivn (by omega), ivn (by omega)]; exact PO_v (fC_r d) hC (hs 4 (3 * k + 1) (by decide) (show 3 * k + 1 < 36 by omega)))
  · refine aw_iload_n dX7_task_21 rfl ?_
    refine aw_tabOut (tgt := 160) dX7_task_22 (by decide) (by decide) ?_
    refine aw_aload_n dX7_task_160 rfl ?_
    refine aw_gf dX7_task_161 (hp_132 _) rfl fX7_12 (by decide) rfl ?_
    refine aw_gf dX7_task_164 (hp_0 _) rfl fX7_109 (by decide) rfl ?_
    refine aw_iload_n dX7_task_167 rfl ?_
    refine aw_iconst (v := 3) dX7_task_168 (by decide) ?_
    refine aw_imul dX7_task_169 ?_
    refine aw_iload_n dX7_task_170 rfl ?_
    refine aw_iadd dX7_task_171 ?_
    refine aw_ialdN dX7_task_172 (hp_4 _) rfl (3 * k + 2) (by rw [show (3 : Int32) = nI 3 from rfl, pk_mul, nI_add]; exact congrArg nI (by omega)) (by omega) (by decide) ?_
    exact aw_endI dX7_task_173 rfl (by unfold oTask; rw [if_pos hg1, if_pos hg2, ivn (by omega), ivn (by omega)]; exact PO_v (fC_r d) hC (hs 4 (3 * k + 2) (by decide) (show 3 * k + 2 < 36 by omega)))
  · refine aw_iload_n dX7_task_21 rfl ?_
    refine aw_tabIn (off := 50) (tgt := 72) dX7_task_22 (by decide) (by decide) (by decide) (by decide) ?_
    refine aw_aload_n dX7_task_72 rfl ?_
    refine aw_gf dX7_task_73 (hp_132 _) rfl fX7_12 (by decide) rfl ?_
    refine aw_gf dX7_task_76 (hp_0 _) rfl fX7_115 (by decide) rfl ?_
    refine aw_iload_n dX7_task_79 rfl ?_
    refine aw_ialdN dX7_task_80 (hp_5 _) rfl (k) (by first | rfl | (simp only [li_0, li_1, li_2, li_3, li_4, li_5, li_7, li_8, li_9, li_11, li_12, li_16, li_17, li_31, li_32, li_60, li_77, li_80, li_89, li_99, li_101, li_112, li_113, li_256, li_999, li_1023, nI_add, pk_mul])) (by omega) (by decide) ?_
    exact aw_endI dX7_task_81 rfl (by unfold oTask; rw [if_pos hg1, if_pos hg2, ivn (by omega), ivn (by omega)]; exact PO_v (fC_r d) hC (hs 5 k (by decide) (show k < 12 by omega)))
  · refine aw_iload_n dX7_task_21 rfl ?_
    refine aw_tabIn (off := 60) (tgt := 82) dX7_task_22 (by decide) (by decide) (by decide) (by decide) ?_
    refine aw_aload_n dX7_task_82 rfl ?_
    refine aw_gf dX7_task_83 (hp_132 _) rfl fX7_12 (by decide) rfl ?_
    refine aw_iload_n dX7_task_86 rfl ?_
    refine aw_cVP dX7_task_87 oX4_weightedTime vX4_weightedTime rfl lX7_157 (kX4_weightedTime hs ok (by omega)) rfl (hp_0 _) rfl rfl rfl (Nat.le_of_ble_eq_true rfl) (by decide) (Nat.le_of_ble_eq_true rfl) ?_
    exact aw_endI dX7_task_90 rfl (by unfold oTask; rw [if_pos hg1, if_pos hg2, ivn (by omega), ivn (by omega)]; exact PO_v (fC_r d) hC rfl)
  · refine aw_iload_n dX7_task_21 rfl ?_
    refine aw_tabIn (off := 69) (tgt := 91) dX7_task_22 (by decide) (by decide) (by decide) (by decide) ?_
    refine aw_aload_n dX7_task_91 rfl ?_
    refine aw_gf dX7_task_92 (hp_132 _) rfl fX7_12 (by decide) rfl ?_
    refine aw_gf dX7_task_95 (hp_0 _) rfl fX7_160 (by decide) rfl ?_
    refine aw_iload_n dX7_task_98 rfl ?_
    refine aw_ialdN dX7_task_99 (hp_6 _) rfl (k) (by first | rfl | (simp only [li_0, li_1, li_2, li_3, li_4, li_5, li_7, li_8, li_9, li_11, li_12, li_16, li_17, li_31, li_32, li_60, li_77, li_80, li_89, li_99, li_101, li_112, li_113, li_256, li_999, li_1023, nI_add, pk_mul])) (by omega) (by decide) ?_
    exact aw_endI dX7_task_100 rfl (by unfold oTask; rw [if_pos hg1, if_pos hg2, ivn (by omega), ivn (by omega)]; exact PO_v (fC_r d) hC (hs 6 k (by decide) (show k < 12 by omega)))
  · refine aw_iload_n dX7_task_21 rfl ?_
    refine aw_tabIn (off := 79) (tgt := 101) dX7_task_22 (by decide) (by decide) (by decide) (by decide) ?_
    refine aw_aload_n dX7_task_101 rfl ?_
    refine aw_gf dX7_task_102 (hp_132 _) rfl fX7_12 (by decide) rfl ?_
    refine aw_gf dX7_task_105 (hp_0 _) rfl fX7_131 (by decide) rfl ?_
    refine aw_iload_n dX7_task_108 rfl ?_
    refine aw_ialdN dX7_task_109 (hp_8 _) rfl (k) (by first | rfl | (simp only [li_0, li_1, li_2, li_3, li_4, li_5, li_7, li_8, li_9, li_11, li_12, li_16, li_17, li_31, li_32, li_60, li_77, li_80, li_89, li_99, li_101, li_112, li_113, li_256, li_999, li_1023, nI_add, pk_mul])) (by omega) (by decide) ?_
    exact aw_endI dX7_task_110 rfl (by unfold oTask; rw [if_pos hg1, if_pos hg2, ivn (by omega), ivn (by omega)]; exact PO_v (fC_r d) hC (hs 8 k (by decide) (show k < 12 by omega)))
  · refine aw_iload_n dX7_task_21 rfl ?_
    refine aw_tabIn (off := 89) (tgt := 111) dX7_task_22 (by decide) (by decide) (by decide) (by decide) ?_
    refine aw_aload_n dX7_task_111 rfl ?_
    refine aw_gf dX7_task_112 (hp_132 _) rfl fX7_12 (by decide) rfl ?_
    refine aw_gf dX7_task_115 (hp_0 _) rfl fX7_163 (by decide) rfl ?_
    refine aw_iload_n dX7_task_118 rfl ?_
    refine aw_ialdN dX7_task_119 (hp_9 _) rfl (k) (by first | rfl | (simp only [li_0, li_1, li_2, li_3, li_4, li_5, li_7, li_8, li_9, li_11, li_12, li_16, li_17, li_31, li_32, li_60, li_77, li_80, li_89, li_99, li_101, li_112, li_113, li_256, li_999, li_1023, nI_add, pk_mul])) (by omega) (by decide) ?_
    exact aw_endI dX7_task_120 rfl (by unfold oTask; rw [if_pos hg1, if_pos hg2, ivn (by omega), ivn (by omega)]; exact PO_v (fC_r d) hC (hs 9 k (by decide) (show k < 12 by omega)))
  · refine aw_iload_n dX7_task_21 rfl ?_
    refine aw_tabIn (off := 99) (tgt := 121) dX7_task_22 (by decide) (by decide) (by decide) (by decide) ?_
    refine aw_aload_n dX7_task_121 rfl ?_
    refine aw_gf dX7_task_122 (hp_132 _) rfl fX7_12 (by decide) rfl ?_
    refine aw_gf dX7_task_125 (hp_0 _) rfl fX7_166 (by decide) rfl ?_
    refine aw_iload_n dX7_task_128 rfl ?_
    refine aw_ialdN dX7_task_129 (hp_7 _) rfl (k) (by first | rfl | (simp only [li_0, li_1, li_2, li_3, li_4, li_5, li_7, li_8, li_9, li_11, li_12, li_16, li_17, li_31, li_32, li_60, li_77, li_80, li_89, li_99, li_101, li_112, li_113, li_256, li_999, li_1023, nI_add, pk_mul])) (by omega) (by decide) ?_
    exact aw_endI dX7_task_130 rfl (by unfold oTask; rw [if_pos hg1, if_pos hg2, ivn (by omega), ivn (by omega)]; exact PO_v (fC_r d) hC (hs 7 k (by decide) (show k < 12 by omega)))
  · refine aw_iload_n dX7_task_21 rfl ?_
    refine aw_tabIn (off := 109) (tgt := 131) dX7_task_22 (by decide) (by decide) (by decide) (by decide) ?_
    refine aw_aload_n dX7_task_131 rfl ?_
    refine aw_gf dX7_task_132 (hp_132 _) rfl fX7_12 (by decide) rfl ?_
    refine aw_gf dX7_task_135 (hp_0 _) rfl fX7_169 (by decide) rfl ?_
    refine aw_iload_n dX7_task_138 rfl ?_
    refine aw_ialdN dX7_task_139 (hp_10 _) rfl (k) (by first | rfl | (simp only [li_0, li_1, li_2, li_3, li_4, li_5, li_7, li_8, li_9, li_11, li_12, li_16, li_17, li_31, li_32, li_60, li_77, li_80, li_89, li_99, li_101, li_112, li_113, li_256, li_999, li_1023, nI_add, pk_mul])) (by omega) (by decide) ?_
    exact aw_endI dX7_task_140 rfl (by unfold oTask; rw [if_pos hg1, if_pos hg2, ivn (by omega), ivn (by omega)]; exact PO_v (fC_r d) hC (hs 10 k (by decide) (show k < 12 by omega)))
  · refine aw_iload_n dX7_task_21 rfl ?_
    refine aw_tabIn (off := 119) (tgt := 141) dX7_task_22 (by decide) (by decide) (by decide) (by decide) ?_
    refine aw_aload_n dX7_task_141 rfl ?_
    refine aw_gf dX7_task_142 (hp_132 _) rfl fX7_12 (by decide) rfl ?_
    refine aw_gf dX7_task_145 (hp_0 _) rfl fX7_172 (by decide) rfl ?_
    refine aw_iload_n dX7_task_148 rfl ?_
    refine aw_ialdN dX7_task_149 (hp_11 _) rfl (k) (by first | rfl | (simp only [li_0, li_1, li_2, li_3, li_4, li_5, li_7, li_8, li_9, li_11, li_12, li_16, li_17, li_31, li_32, li_60, li_77, li_80, li_89, li_99, li_101, li_112, li_113, li_256, li_999, li_1023, nI_add, pk_mul])) (by omega) (by decide) ?_
    exact aw_endI dX7_task_150 rfl (by unfold oTask; rw [if_pos hg1, if_pos hg2, ivn (by omega), ivn (by omega)]; exact PO_v (fC_r d) hC (hs 11 k (by decide) (show k < 12 by omega)))
  · refine aw_iload_n dX7_task_21 rfl ?_
    refine aw_tabIn (off := 129) (tgt := 151) dX7_task_22 (by decide) (by decide) (by decide) (by decide) ?_
    refine aw_aload_n dX7_task_151 rfl ?_
    refine aw_gf dX7_task_152 (hp_132 _) rfl fX7_24 (by decide) rfl ?_
    refine aw_iload_n dX7_task_155 rfl ?_
    refine aw_cVI dX7_task_156 oX5_lowestFor vX5_lowestFor rfl lX7_175 (kX5_lowestFor hs ok hk) rfl (hp_133 _) rfl rfl rfl (Nat.le_of_ble_eq_true rfl) (by decide) (Nat.le_of_ble_eq_true rfl) ?_
    rintro _ d1 ⟨g1, rfl⟩
    exact aw_endI dX7_task_159 rfl (by unfold oTask; rw [if_pos hg1, if_pos hg2, ivn (by omega), ivn (by omega)]; exact PO_v (fW_C g1) (CC_W hC g1) rfl)

set_option maxHeartbeats 4000000 in
set_option maxRecDepth 100000 in
theorem kX7_reason {y : Sy} {d : Dt} (hC : CC d y) {t s : Int32} : AO mX7_reason 16 [.ref 132, .int t, .int s] d [exI] (oReason y t s) := by
  show AW mX7_reason 16 true (PIx (PO d (oReason y t s)) (XO d [exI] (oReason y t s))) 4 24 0 [(0, .ref 132), (1, .int t), (2, .int s)] [] (HP d)
  have hs := hC.1.1
  have ok := hC.1.2
  have h12 := ok.2.1
  refine aw_join (P := fun v => v = b2i (decide (tkI y.1 t ∧ gI 0 7 s))) 23 (fun v hv23 => ?_) (fun kJ23 => ?_)
  · subst hv23
    refine aw_ck dX7_reason_23 oX7_checkIndex sX7_checkIndex rfl lX7_64 kX7_checkIndex (Nat.le_of_ble_eq_true rfl) (by decide) (Nat.le_of_ble_eq_true rfl) (by decide) (by decide) (fun x23 => ?_) (fun x23 => ?_)
    · exact (by unfold oReason; rw [if_neg (b2d_f x23)]; exact ⟨fC_r d, hC, Nat.succ_ne_zero _, rfl⟩)
    have hg := b2d_t x23
    obtain ⟨k, rfl, hk⟩ := tk_nI h12 (hg.1)
    obtain ⟨n, rfl, hn1, hn2⟩ := in_nI (a := 0) (b := 7) rfl rfl (by decide) (by decide) (hg.2)
    refine aw_aload_n dX7_reason_26 rfl ?_
    refine aw_gf dX7_reason_27 (hp_132 _) rfl fX7_24 (by decide) rfl ?_
    refine aw_iload_n dX7_reason_30 rfl ?_
    refine aw_iload_n dX7_reason_31 rfl ?_
    refine aw_cVI dX7_reason_32 oX5_refusal vX5_refusal rfl lX7_184 (kX5_refusal hs ok hk (by omega)) rfl (hp_133 _) rfl rfl rfl (Nat.le_of_ble_eq_true rfl) (by decide) (Nat.le_of_ble_eq_true rfl) ?_
    rintro _ d1 ⟨g1, rfl⟩
    exact aw_endI dX7_reason_35 rfl (by unfold oReason; rw [if_pos hg, ivn (by omega), ivn (by omega)]; exact PO_v (fW_C g1) (CC_W hC g1) rfl)
  · refine aw_aload_n dX7_reason_0 rfl ?_
    refine aw_gf dX7_reason_1 (hp_132 _) rfl fX7_12 (by decide) rfl ?_
    refine aw_iload_n dX7_reason_4 rfl ?_
    refine aw_cVP dX7_reason_5 oX4_hasTask vX4_hasTask rfl lX7_103 (kX4_hasT hs) rfl (hp_0 _) rfl rfl rfl (Nat.le_of_ble_eq_true rfl) (by decide) (Nat.le_of_ble_eq_true rfl) ?_
    refine aw_if_eq 22 dX7_reason_8 (by decide) (fun c8 => ?_) (fun c8 => ?_)
    · refine aw_iconst (v := 0) dX7_reason_22 (by decide) ?_
      exact kJ23 _ (b2i_f (fun z => b2d_f c8 z.1)).symm
    · refine aw_iload_n dX7_reason_11 rfl ?_
      refine aw_cSP dX7_reason_12 oX7_isStation sX7_isStation rfl lX7_82 kX7_isStation rfl rfl (Nat.le_of_ble_eq_true rfl) (by decide) (Nat.le_of_ble_eq_true rfl) ?_
      refine aw_if_eq 22 dX7_reason_15 (by decide) (fun c15 => ?_) (fun c15 => ?_)
      · refine aw_iconst (v := 0) dX7_reason_22 (by decide) ?_
        exact kJ23 _ (b2i_f (fun z => b2d_f c15 z.2)).symm
      · refine aw_iconst (v := 1) dX7_reason_18 (by decide) ?_
        refine aw_goto (tgt := 23) dX7_reason_19 (by decide) ?_
        exact kJ23 _ (b2i_t ⟨b2d_t c8, b2d_t c15⟩).symm

set_option maxHeartbeats 4000000 in
set_option maxRecDepth 100000 in
theorem kX7_keepReason {d : Dt} {x : Int32} : CV mX7_keepReason 1 [.ref 132, .int x] d (fun d' => d' = if x = 0 then d else dI d 132 (upd (d.1 132) 7 x)) := by
  show AW mX7_keepReason 1 true (PVx (fun d' => d' = if x = 0 then d else dI d 132 (upd (d.1 132) 7 x)) nX) 0 0 0 [(0, .ref 132), (1, .int x)] [] (HP d)
  refine aw_iload_n dX7_keepReason_0 rfl ?_
  refine aw_if_eq 9 dX7_keepReason_1 (by decide) (fun c1 => ?_) (fun c1 => ?_)
  · exact aw_endV dX7_keepReason_9 rfl (if_pos c1).symm
  · refine aw_aload_n dX7_keepReason_4 rfl ?_
    refine aw_iload_n dX7_keepReason_5 rfl ?_
    refine aw_putI (ci := 7) (j := 7) .int dX7_keepReason_6 fX7_191 rfl (by decide) rfl tyX7 tyX7_ok nmX7 rfl rfl rfl (hp_132 _) (Nat.le_of_ble_eq_true rfl) rfl ?_
    exact aw_endV dX7_keepReason_9 rfl (if_neg c1).symm

set_option maxHeartbeats 4000000 in
set_option maxRecDepth 100000 in
theorem kX7_feed {y : Sy} {d : Dt} (hC : CC d y) {c : Nat} (hc : c < 65536) : AO mX7_feed 16 [.ref 132, .int (nI c)] d [exS] (oFeed y (nI c)) := by
  show AW mX7_feed 16 true (PIx (PO d (oFeed y (nI c))) (XO d [exS] (oFeed y (nI c)))) 4 24 0 [(0, .ref 132), (1, .int (nI c))] [] (HP d)
  have hs := hC.1.1
  have ok := hC.1.2
  have h12 := ok.2.1
  have hT := hC.2.2.2.2
  have hl80 := hT.2.1
  refine aw_join (P := fun v => v = b2i (decide (y.2.2.2.2.length < 80))) 17 (fun v hv17 => ?_) (fun kJ17 => ?_)
  · subst hv17
    refine aw_ck dX7_feed_17 oX7_checkState sX7_checkState rfl lX7_96 kX7_checkState (Nat.le_of_ble_eq_true rfl) (by decide) (Nat.le_of_ble_eq_true rfl) (by decide) (by decide) (fun x17 => ?_) (fun x17 => ?_)
    · exact (by unfold oFeed; rw [if_pos (by have := b2d_f x17; omega)]; exact ⟨fC_r d, hC, Nat.succ_ne_zero _, rfl⟩)
    have hlt := b2d_t x17
    refine aw_aload_n dX7_feed_20 rfl ?_
    refine aw_gf dX7_feed_21 (hp_132 _) rfl fX7_45 (by decide) rfl ?_
    refine aw_iload_n dX7_feed_24 rfl ?_
    refine aw_cVv dX7_feed_25 oX2_append vX2_append rfl lX7_293 (kX2_append hT hc) rfl (hp_150 _) rfl rfl rfl (Nat.le_of_ble_eq_true rfl) (by decide) (Nat.le_of_ble_eq_true rfl) ?_
    rintro d1 ⟨e1, e2, hT1⟩
    rw [if_pos hlt] at hT1
    have hT2 := hT1.1
    rw [List.length_append] at hT2
    refine aw_aload_n dX7_feed_28 rfl ?_
    refine aw_gf dX7_feed_29 (hp_132 _) rfl fX7_45 (by decide) rfl ?_
    refine aw_gf dX7_feed_32 (hp_150 _) rfl fX7_290 (by decide) rfl ?_
    exact aw_endI dX7_feed_35 rfl (by unfold oFeed; rw [if_neg (by omega), ivn (by omega)]; exact PO_v ⟨fun i hi => ⟨e1 i (by omega) (by omega), by rw [e2]⟩, by rw [e2]⟩ (CC_T hC e1 hT1) hT2)
  · refine aw_aload_n dX7_feed_0 rfl ?_
    refine aw_gf dX7_feed_1 (hp_132 _) rfl fX7_45 (by decide) rfl ?_
    refine aw_gf dX7_feed_4 (hp_150 _) rfl fX7_290 (by decide) rfl ?_
    refine aw_bipush (v := 80) dX7_feed_7 (by decide) ?_
    refine aw_icmp_ge 16 dX7_feed_9 (by decide) (fun c9 => ?_) (fun c9 => ?_)
    · refine aw_iconst (v := 0) dX7_feed_16 (by decide) ?_
      exact kJ17 _ (by rw [hT.1] at c9; exact (b2i_f (fun z => by have := (le_nI (show (80 : Int32) = nI 80 from rfl) rfl (by omega) (by omega)).mp c9; omega)).symm)
    · refine aw_iconst (v := 1) dX7_feed_12 (by decide) ?_
      refine aw_goto (tgt := 17) dX7_feed_13 (by decide) ?_
      exact kJ17 _ (by rw [hT.1] at c9; exact (b2i_t (Nat.lt_of_not_le (fun z => c9 ((le_nI (show (80 : Int32) = nI 80 from rfl) rfl (by omega) (by omega)).mpr z)))).symm)

set_option maxHeartbeats 4000000 in
set_option maxRecDepth 100000 in
theorem kX7_save {y : Sy} {d : Dt} (hC : CC d y) : AO mX7_save 16 [.ref 132] d [] (oSave y) := by
  show AW mX7_save 16 true (PIx (PO d (oSave y)) (XO d [] (oSave y))) 4 24 0 [(0, .ref 132)] [] (HP d)
  have hs := hC.1.1
  have ok := hC.1.2
  have h12 := ok.2.1
  refine aw_aload_n dX7_save_0 rfl ?_
  refine aw_gf dX7_save_1 (hp_132 _) rfl fX7_16 (by decide) rfl ?_
  refine aw_aload_n dX7_save_4 rfl ?_
  refine aw_gf dX7_save_5 (hp_132 _) rfl fX7_12 (by decide) rfl ?_
  refine aw_cVv dX7_save_8 oX4_copyFrom vX4_copyFrom rfl lX7_309 (kX4_copyFrom (a := 1) (b := 0) (by decide) (by decide) (by decide)) rfl (hps_0 (a := 1) (by decide) _) rfl rfl rfl (Nat.le_of_ble_eq_true rfl) (by decide) (Nat.le_of_ble_eq_true rfl) ?_
  rintro d1 hc
  refine aw_aload_n dX7_save_11 rfl ?_
  refine aw_iconst (v := 1) dX7_save_12 (by decide) ?_
  refine aw_putI (ci := 7) (j := 6) .boolean dX7_save_13 fX7_312 rfl (by decide) rfl tyX7 tyX7_ok nmX7 rfl rfl rfl (hp_132 _) (Nat.le_of_ble_eq_true rfl) rfl ?_
  refine aw_aload_n dX7_save_16 rfl ?_
  refine aw_gf dX7_save_17 (hp_132 _) rfl fX7_12 (by decide) rfl ?_
  refine aw_gf dX7_save_20 (hp_0 _) rfl fX7_93 (by decide) rfl ?_
  exact aw_endI dX7_save_23 rfl (PO_v (fC_dI (fC_CP (by decide) hc) (by decide) _) (CC_sv hC hc) (by rw [dI_n _ _ (by decide), CP_out hc (by omega)]; exact hs 0 1 (by decide) (by decide)))

set_option maxHeartbeats 4000000 in
set_option maxRecDepth 100000 in
theorem kX7_restore {y : Sy} {d : Dt} (hC : CC d y) : AO mX7_restore 16 [.ref 132] d [exS] (oRestore y) := by
  show AW mX7_restore 16 true (PIx (PO d (oRestore y)) (XO d [exS] (oRestore y))) 4 24 0 [(0, .ref 132)] [] (HP d)
  have hs := hC.1.1
  have ok := hC.1.2
  have h12 := ok.2.1
  have hS := hC.2.2.1
  refine aw_aload_n dX7_restore_0 rfl ?_
  refine aw_gf dX7_restore_1 (hp_132 _) rfl fX7_312 (by decide) rfl ?_
  refine aw_ck dX7_restore_4 oX7_checkState sX7_checkState rfl lX7_96 kX7_checkState (Nat.le_of_ble_eq_true rfl) (by decide) (Nat.le_of_ble_eq_true rfl) (by decide) (by decide) (fun x4 => ?_) (fun x4 => ?_)
  · exact (by unfold oRestore; cases hh : y.2.2.1 with | some p => rw [hh] at hS; exact absurd (hS.1.symm.trans x4) (by decide) | none => exact ⟨fC_r d, hC, Nat.succ_ne_zero _, rfl⟩)
  obtain ⟨p, hp⟩ : ∃ p, y.2.2.1 = some p := by cases hh : y.2.2.1 with | some p => exact ⟨p, rfl⟩ | none => rw [hh] at hS; exact absurd hS x4
  have ho : oRestore y = (0, nI (p 0 1), p, [], y.2.2) := by unfold oRestore; rw [hp]
  rw [hp] at hS
  refine aw_aload_n dX7_restore_7 rfl ?_
  refine aw_gf dX7_restore_8 (hp_132 _) rfl fX7_12 (by decide) rfl ?_
  refine aw_aload_n dX7_restore_11 rfl ?_
  refine aw_gf dX7_restore_12 (hp_132 _) rfl fX7_16 (by decide) rfl ?_
  refine aw_cVv dX7_restore_15 oX4_copyFrom vX4_copyFrom rfl lX7_309 (kX4_copyFrom (a := 0) (b := 1) (by decide) (by decide) (by decide)) rfl (hp_0 _) rfl rfl rfl (Nat.le_of_ble_eq_true rfl) (by decide) (Nat.le_of_ble_eq_true rfl) ?_
  rintro d1 hc
  refine aw_aload_n dX7_restore_18 rfl ?_
  refine aw_gf dX7_restore_19 (hp_132 _) rfl fX7_38 (by decide) rfl ?_
  refine aw_cVv dX7_restore_22 oX1_clear vX1_clear rfl lX7_316 kX1_clear rfl (hp_148 _) rfl rfl rfl (Nat.le_of_ble_eq_true rfl) (by decide) (Nat.le_of_ble_eq_true rfl) ?_
  rintro d2 rfl
  refine aw_aload_n dX7_restore_25 rfl ?_
  refine aw_gf dX7_restore_26 (hp_132 _) rfl fX7_12 (by decide) rfl ?_
  refine aw_gf dX7_restore_29 (hp_0 _) rfl fX7_93 (by decide) rfl ?_
  exact aw_endI dX7_restore_32 rfl (by rw [ho]; exact PO_v (fC_dI (fC_CP (by decide) hc) (by decide) _) (CC_rs hC hp hc) (by rw [dI_n _ _ (by decide)]; exact CP_KS hc hS.2.1 0 1 (by decide) (by decide)))
