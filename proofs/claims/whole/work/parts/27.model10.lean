set_option maxHeartbeats 4000000 in
set_option maxRecDepth 100000 in
theorem kX8_setRule {y : Sy} {d : Dt} (hM : MR d y) {a b : Int32} : CI mX8_setRule 4 [.ref 160, .int a, .int b] d (fun x d' => RO d d' x (oSetRule y a b)) := by
  show AW mX8_setRule 4 true (PIx (fun x d' => RO d d' x (oSetRule y a b)) nX) 0 0 0 [(0, .ref 160), (1, .int a), (2, .int b)] [] (HP d)
  have ok := hM.1.2
  have hr := hM.1.1
  have h12 := ok.2.1
  refine aw_aload_n dX8_setRule_0 rfl ?_
  refine aw_cVv dX8_setRule_1 oX8_remembers vX8_remembers rfl lX8_84 (kX8_rem hM) rfl (hp_160 _) rfl rfl rfl (Nat.le_of_ble_eq_true rfl) (by decide) (Nat.le_of_ble_eq_true rfl) ?_
  rintro d1 ⟨hm0, -⟩
  have hr0 := hm0.2.2.2.1.1
  refine aw_aload_n dX8_setRule_4 rfl ?_
  refine aw_aload_n dX8_setRule_5 rfl ?_
  refine aw_iload_n dX8_setRule_6 rfl ?_
  refine aw_iload_n dX8_setRule_7 rfl ?_
  refine aw_cVI dX8_setRule_8 oX8_setsRule vX8_setsRule rfl lX8_101 (kX8_setsRule hr0 ok hm0.2.2.2.2.1 hm0.2.2.2.2.2) rfl (hp_160 _) rfl rfl rfl (Nat.le_of_ble_eq_true rfl) (by decide) (Nat.le_of_ble_eq_true rfl) ?_
  rintro x2 d2 hI
  have hm2 := IO_MC hm0 hI
  refine aw_cVI dX8_setRule_11 oX8_changed vX8_changed rfl lX8_94 (kX8_changed hm2 _ hI.2.1.2 hI.2.1.1) rfl (hp_160 _) rfl rfl rfl (Nat.le_of_ble_eq_true rfl) (by decide) (Nat.le_of_ble_eq_true rfl) ?_
  rintro _ d3 ⟨rfl, hC⟩
  exact aw_endI dX8_setRule_14 rfl (by exact RO_fin hC hI.2.2.1)

set_option maxHeartbeats 4000000 in
set_option maxRecDepth 100000 in
theorem kX8_addTask {y : Sy} {d : Dt} (hM : MR d y) {a b c e : Int32} : CI mX8_addTask 4 [.ref 160, .int a, .int b, .int c, .int e] d (fun x d' => RO d d' x (oAddTask y a b c e)) := by
  show AW mX8_addTask 4 true (PIx (fun x d' => RO d d' x (oAddTask y a b c e)) nX) 0 0 0 [(0, .ref 160), (1, .int a), (2, .int b), (3, .int c), (4, .int e)] [] (HP d)
  have ok := hM.1.2
  have hr := hM.1.1
  have h12 := ok.2.1
  refine aw_aload_n dX8_addTask_0 rfl ?_
  refine aw_cVv dX8_addTask_1 oX8_remembers vX8_remembers rfl lX8_84 (kX8_rem hM) rfl (hp_160 _) rfl rfl rfl (Nat.le_of_ble_eq_true rfl) (by decide) (Nat.le_of_ble_eq_true rfl) ?_
  rintro d1 ⟨hm0, -⟩
  have hr0 := hm0.2.2.2.1.1
  refine aw_aload_n dX8_addTask_4 rfl ?_
  refine aw_aload_n dX8_addTask_5 rfl ?_
  refine aw_iload_n dX8_addTask_6 rfl ?_
  refine aw_iload_n dX8_addTask_7 rfl ?_
  refine aw_iload_n dX8_addTask_8 rfl ?_
  refine aw_iload dX8_addTask_9 rfl ?_
  refine aw_cVI dX8_addTask_11 oX8_addsTask vX8_addsTask rfl lX8_117 (kX8_addsTask hr0 ok hm0.2.2.2.2.1 hm0.2.2.2.2.2) rfl (hp_160 _) rfl rfl rfl (Nat.le_of_ble_eq_true rfl) (by decide) (Nat.le_of_ble_eq_true rfl) ?_
  rintro x2 d2 hI
  have hm2 := IO_MC hm0 hI
  refine aw_cVI dX8_addTask_14 oX8_changed vX8_changed rfl lX8_94 (kX8_changed hm2 _ hI.2.1.2 hI.2.1.1) rfl (hp_160 _) rfl rfl rfl (Nat.le_of_ble_eq_true rfl) (by decide) (Nat.le_of_ble_eq_true rfl) ?_
  rintro _ d3 ⟨rfl, hC⟩
  exact aw_endI dX8_addTask_17 rfl (by exact RO_fin hC hI.2.2.1)

set_option maxHeartbeats 4000000 in
set_option maxRecDepth 100000 in
theorem kX8_putsBefore {q : St} {w : Nat} {d : Dt} (hr : RR (d.1 161) q) (ok : QOK q) (hw : d.1 160 6 = nI w) (hw6 : w ≤ 6) {a b : Int32} : CI mX8_putsBefore 4 [.ref 160, .int a, .int b] d (fun x d' => IO d d' x (iBef q w a b)) := by
  show AW mX8_putsBefore 4 true (PIx (fun x d' => IO d d' x (iBef q w a b)) nX) 0 0 0 [(0, .ref 160), (1, .int a), (2, .int b)] [] (HP d)
  have h12 := ok.2.1
  have hp12 := pow12 h12
  refine aw_aload_n dX8_putsBefore_0 rfl ?_
  refine aw_iload_n dX8_putsBefore_1 rfl ?_
  refine aw_cVP dX8_putsBefore_2 oX8_isTask vX8_isTask rfl lX8_121 (kT8 hr) rfl (hp_160 _) rfl rfl rfl (Nat.le_of_ble_eq_true rfl) (by decide) (Nat.le_of_ble_eq_true rfl) ?_
  refine aw_if_eq 16 dX8_putsBefore_5 (by decide) (fun c5 => ?_) (fun c5 => ?_)
  · refine aw_aload_n dX8_putsBefore_16 rfl ?_
    refine aw_iconst (v := 1) dX8_putsBefore_17 (by decide) ?_
    refine aw_cVI dX8_putsBefore_18 oX8_fails vX8_fails rfl lX8_87 kX8_fails rfl (hp_160 _) rfl rfl rfl (Nat.le_of_ble_eq_true rfl) (by decide) (Nat.le_of_ble_eq_true rfl) ?_
    rintro _ d9 ⟨rfl, rfl⟩
    exact aw_endI dX8_putsBefore_21 rfl (by unfold iBef; rw [if_neg (fun z => b2d_f c5 z.1)]; exact IO_f hr ok hw hw6 rfl (by decide) (by decide))
  · refine aw_aload_n dX8_putsBefore_8 rfl ?_
    refine aw_iload_n dX8_putsBefore_9 rfl ?_
    refine aw_cVP dX8_putsBefore_10 oX8_isTask vX8_isTask rfl lX8_121 (kT8 hr) rfl (hp_160 _) rfl rfl rfl (Nat.le_of_ble_eq_true rfl) (by decide) (Nat.le_of_ble_eq_true rfl) ?_
    refine aw_if_ne 22 dX8_putsBefore_13 (by decide) (fun c13 => ?_) (fun c13 => ?_)
    · have hg : tkI q a ∧ tkI q b := ⟨b2d_t c5, b2d_t c13⟩
      obtain ⟨k, rfl, hk⟩ := tk_nI h12 (b2d_t c5)
      obtain ⟨n, rfl, hn⟩ := tk_nI h12 (b2d_t c13)
      have hq7 := ok.2.2.2.2.2.2.2.2.1 n (by omega)
      have h8k := q8_lt ok (show k < 12 by omega)
      refine aw_iload_n dX8_putsBefore_22 rfl ?_
      refine aw_iload_n dX8_putsBefore_23 rfl ?_
      refine aw_icmp_eq 43 dX8_putsBefore_24 (by decide) (fun c24 => ?_) (fun c24 => ?_)
      · refine aw_aload_n dX8_putsBefore_43 rfl ?_
        refine aw_iconst (v := 2) dX8_putsBefore_44 (by decide) ?_
        refine aw_cVI dX8_putsBefore_45 oX8_fails vX8_fails rfl lX8_87 kX8_fails rfl (hp_160 _) rfl rfl rfl (Nat.le_of_ble_eq_true rfl) (by decide) (Nat.le_of_ble_eq_true rfl) ?_
        rintro _ d9 ⟨rfl, rfl⟩
        exact aw_endI dX8_putsBefore_48 rfl (by unfold iBef; rw [if_pos hg, ivn (by omega), ivn (by omega), if_pos (Or.inl c24)]; exact IO_f hr ok hw hw6 rfl (by decide) (by decide))
      · refine aw_aload_n dX8_putsBefore_27 rfl ?_
        refine aw_gf dX8_putsBefore_28 (hp_160 _) rfl fX8_7 (by decide) rfl ?_
        refine aw_bipush (v := 77) dX8_putsBefore_31 (by decide) ?_
        refine aw_iload_n dX8_putsBefore_33 rfl ?_
        refine aw_iadd dX8_putsBefore_34 ?_
        refine aw_ialdN dX8_putsBefore_35 (hp_161 _) rfl (77 + n) (by first | rfl | (simp only [li_0, li_1, li_2, li_3, li_4, li_5, li_7, li_8, li_9, li_11, li_12, li_16, li_17, li_31, li_32, li_60, li_77, li_80, li_89, li_99, li_101, li_112, li_113, li_256, li_999, li_1023, nI_add, pk_mul])) (by omega) (by decide) ?_
        refine aw_iload_n dX8_putsBefore_36 rfl ?_
        rw [(hr.2.2.2.2.2 n (by omega)).1]
        refine aw_cSP dX8_putsBefore_37 oX8_has sX8_has rfl lX8_127 kX8_has rfl rfl (Nat.le_of_ble_eq_true rfl) (by decide) (Nat.le_of_ble_eq_true rfl) ?_
        refine aw_if_eq 49 dX8_putsBefore_40 (by decide) (fun c40 => ?_) (fun c40 => ?_)
        · rw [hb_nI (by omega) (by omega)] at c40
          have hne : k ≠ n := fun z => c24 (by rw [z])
          have hno : ¬ (nI k = nI n ∨ (q 7 n).testBit k = true) := fun z => z.elim c24 (fun z => by rw [b2i_eq.mp c40] at z; cases z)
          refine aw_aload_n dX8_putsBefore_49 rfl ?_
          refine aw_iload_n dX8_putsBefore_50 rfl ?_
          refine aw_cVP dX8_putsBefore_51 oX8_aheadOf vX8_aheadOf rfl lX8_130 (kX8_aheadOf hr ok (t := k) (by omega)) rfl (hp_160 _) rfl rfl rfl (Nat.le_of_ble_eq_true rfl) (by decide) (Nat.le_of_ble_eq_true rfl) ?_
          refine aw_iload_n dX8_putsBefore_54 rfl ?_
          refine aw_cSP dX8_putsBefore_55 oX8_has sX8_has rfl lX8_127 kX8_has rfl rfl (Nat.le_of_ble_eq_true rfl) (by decide) (Nat.le_of_ble_eq_true rfl) ?_
          refine aw_if_eq 67 dX8_putsBefore_58 (by decide) (fun c58 => ?_) (fun c58 => ?_)
          · rw [hb_nI (by omega) (by omega)] at c58
            have h8n := b2i_eq.mp c58
            have okN := QOK_bef ok hk hn hne h8n
            have hrN0 : RR (upd (d.1 161) (77 + n) (nI (q 7 n ||| 2 ^ k))) (clq (up q 7 n (q 7 n ||| 2 ^ k))) := RR_clq (RR_up (j := 7) (k := n) (v := q 7 n ||| 2 ^ k) hr h12 (by decide) (show n < 12 by omega) rfl rfl)
            refine aw_aload_n dX8_putsBefore_67 rfl ?_
            refine aw_gf dX8_putsBefore_68 (hp_160 _) rfl fX8_7 (by decide) rfl ?_
            refine aw_bipush (v := 77) dX8_putsBefore_71 (by decide) ?_
            refine aw_iload_n dX8_putsBefore_73 rfl ?_
            refine aw_iadd dX8_putsBefore_74 ?_
            refine aw_dup2 dX8_putsBefore_75 rfl rfl ?_
            refine aw_ialdN dX8_putsBefore_76 (hp_161 _) rfl (77 + n) (by first | rfl | (simp only [li_0, li_1, li_2, li_3, li_4, li_5, li_7, li_8, li_9, li_11, li_12, li_16, li_17, li_31, li_32, li_60, li_77, li_80, li_89, li_99, li_101, li_112, li_113, li_256, li_999, li_1023, nI_add, pk_mul])) (by omega) (by decide) ?_
            refine aw_iconst (v := 1) dX8_putsBefore_77 (by decide) ?_
            refine aw_iload_n dX8_putsBefore_78 rfl ?_
            refine aw_ishl dX8_putsBefore_79 ?_
            refine aw_ior dX8_putsBefore_80 ?_
            rw [(hr.2.2.2.2.2 n (by omega)).1, nI_sh1 k (by omega), nI_or]
            refine aw_iastN dX8_putsBefore_81 hp_161 (77 + n) (by first | rfl | (simp only [li_0, li_1, li_2, li_3, li_4, li_5, li_7, li_8, li_9, li_11, li_12, li_16, li_17, li_31, li_32, li_60, li_77, li_80, li_89, li_99, li_101, li_112, li_113, li_256, li_999, li_1023, nI_add, pk_mul])) (by omega) (by decide)  ?_
            have hrN : RR ((dI d 161 (upd (d.1 161) (77 + n) (nI (q 7 n ||| 2 ^ k)))).1 161) (clq (up q 7 n (q 7 n ||| 2 ^ k))) := by rw [dI_s]; exact hrN0
            have h8N : clq (up q 7 n (q 7 n ||| 2 ^ k)) 8 n < 2 ^ q 0 1 := q8_lt okN (show n < 12 by omega)
            refine aw_aload_n dX8_putsBefore_82 rfl ?_
            refine aw_aload_n dX8_putsBefore_83 rfl ?_
            refine aw_iload_n dX8_putsBefore_84 rfl ?_
            refine aw_cVP dX8_putsBefore_85 oX8_aheadOf vX8_aheadOf rfl lX8_130 (kX8_aheadOf (q := clq (up q 7 n (q 7 n ||| 2 ^ k))) hrN okN (t := n) (by omega)) rfl (hp_160 _) rfl rfl rfl (Nat.le_of_ble_eq_true rfl) (by decide) (Nat.le_of_ble_eq_true rfl) ?_
            refine aw_cSP dX8_putsBefore_88 oX8_many sX8_many rfl lX8_133 (kX8_many (by omega)) rfl rfl (Nat.le_of_ble_eq_true rfl) (by decide) (Nat.le_of_ble_eq_true rfl) ?_
            refine aw_cVI dX8_putsBefore_91 oX8_done vX8_done rfl lX8_91 kX8_done rfl (hp_160 _) rfl rfl rfl (Nat.le_of_ble_eq_true rfl) (by decide) (Nat.le_of_ble_eq_true rfl) ?_
            rintro _ d8 ⟨rfl, rfl⟩
            exact aw_endI dX8_putsBefore_94 rfl (by unfold iBef; rw [if_pos hg, ivn (by omega), ivn (by omega), if_neg hno, if_neg (by rw [h8n]; exact Bool.false_ne_true)]; exact IO_d (mI_g (mI_r d) _) hrN okN (by rw [dI_n _ _ (by decide)]; exact hw) hw6 rfl)
          · refine aw_aload_n dX8_putsBefore_61 rfl ?_
            refine aw_iconst (v := 3) dX8_putsBefore_62 (by decide) ?_
            refine aw_cVI dX8_putsBefore_63 oX8_fails vX8_fails rfl lX8_87 kX8_fails rfl (hp_160 _) rfl rfl rfl (Nat.le_of_ble_eq_true rfl) (by decide) (Nat.le_of_ble_eq_true rfl) ?_
            rintro _ d9 ⟨rfl, rfl⟩
            exact aw_endI dX8_putsBefore_66 rfl (by rw [hb_nI (by omega) (by omega)] at c58; unfold iBef; rw [if_pos hg, ivn (by omega), ivn (by omega), if_neg hno, if_pos (b2i_ne.mp c58)]; exact IO_f hr ok hw hw6 rfl (by decide) (by decide))
        · refine aw_aload_n dX8_putsBefore_43 rfl ?_
          refine aw_iconst (v := 2) dX8_putsBefore_44 (by decide) ?_
          refine aw_cVI dX8_putsBefore_45 oX8_fails vX8_fails rfl lX8_87 kX8_fails rfl (hp_160 _) rfl rfl rfl (Nat.le_of_ble_eq_true rfl) (by decide) (Nat.le_of_ble_eq_true rfl) ?_
          rintro _ d9 ⟨rfl, rfl⟩
          exact aw_endI dX8_putsBefore_48 rfl (by rw [hb_nI (by omega) (by omega)] at c40; unfold iBef; rw [if_pos hg, ivn (by omega), ivn (by omega), if_pos (Or.inr (b2i_ne.mp c40))]; exact IO_f hr ok hw hw6 rfl (by decide) (by decide))
    · refine aw_aload_n dX8_putsBefore_16 rfl ?_
      refine aw_iconst (v := 1) dX8_putsBefore_17 (by decide) ?_
      refine aw_cVI dX8_putsBefore_18 oX8_fails vX8_fails rfl lX8_87 kX8_fails rfl (hp_160 _) rfl rfl rfl (Nat.le_of_ble_eq_true rfl) (by decide) (Nat.le_of_ble_eq_true rfl) ?_
      rintro _ d9 ⟨rfl, rfl⟩
      exact aw_endI dX8_putsBefore_21 rfl (by unfold iBef; rw [if_neg (fun z => b2d_f c13 z.2)]; exact IO_f hr ok hw hw6 rfl (by decide) (by decide))

set_option maxHeartbeats 4000000 in
set_option maxRecDepth 100000 in
theorem kX8_before {y : Sy} {d : Dt} (hM : MR d y) {a b : Int32} : CI mX8_before 5 [.ref 160, .int a, .int b] d (fun x d' => RO d d' x (oBefore y a b)) := by
  show AW mX8_before 5 true (PIx (fun x d' => RO d d' x (oBefore y a b)) nX) 0 0 0 [(0, .ref 160), (1, .int a), (2, .int b)] [] (HP d)
  have ok := hM.1.2
  have hr := hM.1.1
  have h12 := ok.2.1
  refine aw_aload_n dX8_before_0 rfl ?_
  refine aw_cVv dX8_before_1 oX8_remembers vX8_remembers rfl lX8_84 (kX8_rem hM) rfl (hp_160 _) rfl rfl rfl (Nat.le_of_ble_eq_true rfl) (by decide) (Nat.le_of_ble_eq_true rfl) ?_
  rintro d1 ⟨hm0, -⟩
  have hr0 := hm0.2.2.2.1.1
  refine aw_aload_n dX8_before_4 rfl ?_
  refine aw_aload_n dX8_before_5 rfl ?_
  refine aw_iload_n dX8_before_6 rfl ?_
  refine aw_iload_n dX8_before_7 rfl ?_
  refine aw_cVI dX8_before_8 oX8_putsBefore vX8_putsBefore rfl lX8_136 (kX8_putsBefore hr0 ok hm0.2.2.2.2.1 hm0.2.2.2.2.2) rfl (hp_160 _) rfl rfl rfl (Nat.le_of_ble_eq_true rfl) (by decide) (Nat.le_of_ble_eq_true rfl) ?_
  rintro x2 d2 hI
  have hm2 := IO_MC hm0 hI
  refine aw_cVI dX8_before_11 oX8_changed vX8_changed rfl lX8_94 (kX8_changed hm2 _ hI.2.1.2 hI.2.1.1) rfl (hp_160 _) rfl rfl rfl (Nat.le_of_ble_eq_true rfl) (by decide) (Nat.le_of_ble_eq_true rfl) ?_
  rintro _ d3 ⟨rfl, hC⟩
  exact aw_endI dX8_before_14 rfl (by exact RO_fin hC hI.2.2.1)

set_option maxHeartbeats 4000000 in
set_option maxRecDepth 100000 in
theorem kX8_parts {q : St} {d : Dt} (hr : RR (d.1 161) q) (ok : QOK q) {k n : Nat} (hk : k < q 0 1) (hn : n < q 0 1) (hne : k ≠ n) : CV mX8_parts 1 [.ref 160, .int (nI k), .int (nI n)] d (fun d' => mI d d' ∧ d'.1 160 = d.1 160 ∧ RR (d'.1 161) (prt q k n)) := by
  show AW mX8_parts 1 true (PVx (fun d' => mI d d' ∧ d'.1 160 = d.1 160 ∧ RR (d'.1 161) (prt q k n)) nX) 0 0 0 [(0, .ref 160), (1, .int (nI k)), (2, .int (nI n))] [] (HP d)
  have h12 := ok.2.1
  have hp12 := pow12 h12
  have e1 : 2 ^ n < 4096 := Nat.pow_lt_pow_right (m := n) (n := 12) (by decide) (by omega)
  have e2 : 2 ^ k < 4096 := Nat.pow_lt_pow_right (m := k) (n := 12) (by decide) (by omega)
  have hqk := ok.2.2.2.2.2.2.2.2.1 k (by omega)
  have hqn := ok.2.2.2.2.2.2.2.2.1 n (by omega)
  have r1 := RR_up (j := 10) (k := k) (v := clr (q 10 k) n) (i := 89 + k) hr h12 (by decide) (show k < 12 by omega) rfl rfl
  have r2 := RR_up (j := 10) (k := n) (v := clr (q 10 n) k) (i := 89 + n) r1 h12 (by decide) (show n < 12 by omega) rfl rfl
  have r3 := RR_up (j := 11) (k := k) (v := clr (q 11 k) n) (i := 101 + k) r2 h12 (by decide) (show k < 12 by omega) rfl rfl
  have r4 := RR_up (j := 11) (k := n) (v := clr (q 11 n) k) (i := 101 + n) r3 h12 (by decide) (show n < 12 by omega) rfl rfl
  simp only [if_neg (show ¬ (10 = 6) by decide), if_neg (show ¬ (11 = 6) by decide)] at r1 r2 r3 r4
  refine aw_aload_n dX8_parts_0 rfl ?_
  refine aw_gf dX8_parts_1 (hp_160 _) rfl fX8_7 (by decide) rfl ?_
  refine aw_bipush (v := 89) dX8_parts_4 (by decide) ?_
  refine aw_iload_n dX8_parts_6 rfl ?_
  refine aw_iadd dX8_parts_7 ?_
  refine aw_dup2 dX8_parts_8 rfl rfl ?_
  refine aw_ialdN dX8_parts_9 (hp_161 _) rfl (89 + k) (by first | rfl | (simp only [li_0, li_1, li_2, li_3, li_4, li_5, li_7, li_8, li_9, li_11, li_12, li_16, li_17, li_31, li_32, li_60, li_77, li_80, li_89, li_99, li_101, li_112, li_113, li_256, li_999, li_1023, nI_add, pk_mul])) (by omega) (by decide) ?_
  refine aw_iconst (v := 1) dX8_parts_10 (by decide) ?_
  refine aw_iload_n dX8_parts_11 rfl ?_
  refine aw_ishl dX8_parts_12 ?_
  refine aw_iconst (v := (-1)) dX8_parts_13 (by decide) ?_
  refine aw_ixor dX8_parts_14 ?_
  refine aw_iand dX8_parts_15 ?_
  rw [(hr.2.2.2.2.2 k (by omega)).2.1, nI_sh1 n (by omega), nI_lacks (by omega) e1]
  refine aw_iastN dX8_parts_16 hp_161 (89 + k) (by first | rfl | (simp only [li_0, li_1, li_2, li_3, li_4, li_5, li_7, li_8, li_9, li_11, li_12, li_16, li_17, li_31, li_32, li_60, li_77, li_80, li_89, li_99, li_101, li_112, li_113, li_256, li_999, li_1023, nI_add, pk_mul])) (by omega) (by decide)  ?_
  refine aw_aload_n dX8_parts_17 rfl ?_
  refine aw_gf dX8_parts_18 (hp_160 _) rfl fX8_7 (by decide) rfl ?_
  refine aw_bipush (v := 89) dX8_parts_21 (by decide) ?_
  refine aw_iload_n dX8_parts_23 rfl ?_
  refine aw_iadd dX8_parts_24 ?_
  refine aw_dup2 dX8_parts_25 rfl rfl ?_
  refine aw_ialdN dX8_parts_26 (hp_161 _) rfl (89 + n) (by first | rfl | (simp only [li_0, li_1, li_2, li_3, li_4, li_5, li_7, li_8, li_9, li_11, li_12, li_16, li_17, li_31, li_32, li_60, li_77, li_80, li_89, li_99, li_101, li_112, li_113, li_256, li_999, li_1023, nI_add, pk_mul])) (by omega) (by decide) ?_
  refine aw_iconst (v := 1) dX8_parts_27 (by decide) ?_
  refine aw_iload_n dX8_parts_28 rfl ?_
  refine aw_ishl dX8_parts_29 ?_
  refine aw_iconst (v := (-1)) dX8_parts_30 (by decide) ?_
  refine aw_ixor dX8_parts_31 ?_
  refine aw_iand dX8_parts_32 ?_
  simp only [dI_dI, dI_s]
  rw [show upd (d.1 161) (89 + k) (nI (lacks (q 10 k) (2 ^ n))) (89 + n) = nI (q 10 n) from by have := (r1.2.2.2.2.2 n (by omega)).2.1; rw [up_n _ _ (by omega)] at this; exact this, nI_sh1 k (by omega), nI_lacks (by omega) e2]
  refine aw_iastN dX8_parts_33 hp_161 (89 + n) (by first | rfl | (simp only [li_0, li_1, li_2, li_3, li_4, li_5, li_7, li_8, li_9, li_11, li_12, li_16, li_17, li_31, li_32, li_60, li_77, li_80, li_89, li_99, li_101, li_112, li_113, li_256, li_999, li_1023, nI_add, pk_mul])) (by omega) (by decide)  ?_
  refine aw_aload_n dX8_parts_34 rfl ?_
  refine aw_gf dX8_parts_35 (hp_160 _) rfl fX8_7 (by decide) rfl ?_
  refine aw_bipush (v := 101) dX8_parts_38 (by decide) ?_
  refine aw_iload_n dX8_parts_40 rfl ?_
  refine aw_iadd dX8_parts_41 ?_
  refine aw_dup2 dX8_parts_42 rfl rfl ?_
  refine aw_ialdN dX8_parts_43 (hp_161 _) rfl (101 + k) (by first | rfl | (simp only [li_0, li_1, li_2, li_3, li_4, li_5, li_7, li_8, li_9, li_11, li_12, li_16, li_17, li_31, li_32, li_60, li_77, li_80, li_89, li_99, li_101, li_112, li_113, li_256, li_999, li_1023, nI_add, pk_mul])) (by omega) (by decide) ?_
  refine aw_iconst (v := 1) dX8_parts_44 (by decide) ?_
  refine aw_iload_n dX8_parts_45 rfl ?_
  refine aw_ishl dX8_parts_46 ?_
  refine aw_iconst (v := (-1)) dX8_parts_47 (by decide) ?_
  refine aw_ixor dX8_parts_48 ?_
  refine aw_iand dX8_parts_49 ?_
  simp only [dI_dI, dI_s]
  rw [show upd (upd (d.1 161) (89 + k) (nI (lacks (q 10 k) (2 ^ n)))) (89 + n) (nI (lacks (q 10 n) (2 ^ k))) (101 + k) = nI (q 11 k) from (r2.2.2.2.2.2 k (by omega)).2.2, nI_sh1 n (by omega), nI_lacks (by omega) e1]
  refine aw_iastN dX8_parts_50 hp_161 (101 + k) (by first | rfl | (simp only [li_0, li_1, li_2, li_3, li_4, li_5, li_7, li_8, li_9, li_11, li_12, li_16, li_17, li_31, li_32, li_60, li_77, li_80, li_89, li_99, li_101, li_112, li_113, li_256, li_999, li_1023, nI_add, pk_mul])) (by omega) (by decide)  ?_
  refine aw_aload_n dX8_parts_51 rfl ?_
  refine aw_gf dX8_parts_52 (hp_160 _) rfl fX8_7 (by decide) rfl ?_
  refine aw_bipush (v := 101) dX8_parts_55 (by decide) ?_
  refine aw_iload_n dX8_parts_57 rfl ?_
  refine aw_iadd dX8_parts_58 ?_
  refine aw_dup2 dX8_parts_59 rfl rfl ?_
  refine aw_ialdN dX8_parts_60 (hp_161 _) rfl (101 + n) (by first | rfl | (simp only [li_0, li_1, li_2, li_3, li_4, li_5, li_7, li_8, li_9, li_11, li_12, li_16, li_17, li_31, li_32, li_60, li_77, li_80, li_89, li_99, li_101, li_112, li_113, li_256, li_999, li_1023, nI_add, pk_mul])) (by omega) (by decide) ?_
  refine aw_iconst (v := 1) dX8_parts_61 (by decide) ?_
  refine aw_iload_n dX8_parts_62 rfl ?_
  refine aw_ishl dX8_parts_63 ?_
  refine aw_iconst (v := (-1)) dX8_parts_64 (by decide) ?_
  refine aw_ixor dX8_parts_65 ?_
  refine aw_iand dX8_parts_66 ?_
  simp only [dI_dI, dI_s]
  rw [show upd (upd (upd (d.1 161) (89 + k) (nI (lacks (q 10 k) (2 ^ n)))) (89 + n) (nI (lacks (q 10 n) (2 ^ k)))) (101 + k) (nI (lacks (q 11 k) (2 ^ n))) (101 + n) = nI (q 11 n) from by have := (r3.2.2.2.2.2 n (by omega)).2.2; rw [up_n _ _ (by omega)] at this; exact this, nI_sh1 k (by omega), nI_lacks (by omega) e2]
  refine aw_iastN dX8_parts_67 hp_161 (101 + n) (by first | rfl | (simp only [li_0, li_1, li_2, li_3, li_4, li_5, li_7, li_8, li_9, li_11, li_12, li_16, li_17, li_31, li_32, li_60, li_77, li_80, li_89, li_99, li_101, li_112, li_113, li_256, li_999, li_1023, nI_add, pk_mul])) (by omega) (by decide)  ?_
  simp only [dI_dI, dI_s]
  exact aw_endV dX8_parts_68 rfl ⟨mI_g (mI_r d) _, by rw [dI_n _ _ (by decide)], by rw [dI_s, prt_up hne]; exact r4⟩

set_option maxHeartbeats 4000000 in
set_option maxRecDepth 100000 in
theorem kX8_pairs_a {q : St} {w : Nat} {d : Dt} (hr : RR (d.1 161) q) (ok : QOK q) (hw : d.1 160 6 = nI w) (hw6 : w ≤ 6) {a b : Int32} : CI mX8_pairs 3 [.ref 160, .int a, .int b, .int 1] d (fun x d' => IO d d' x (iPair q w a b 10)) := by
  show AW mX8_pairs 3 true (PIx (fun x d' => IO d d' x (iPair q w a b 10)) nX) 0 0 0 [(0, .ref 160), (1, .int a), (2, .int b), (3, .int 1)] [] (HP d)
  have h12 := ok.2.1
  have hp12 := pow12 h12
  refine aw_aload_n dX8_pairs_0 rfl ?_
  refine aw_iload_n dX8_pairs_1 rfl ?_
  refine aw_cVP dX8_pairs_2 oX8_isTask vX8_isTask rfl lX8_121 (kT8 hr) rfl (hp_160 _) rfl rfl rfl (Nat.le_of_ble_eq_true rfl) (by decide) (Nat.le_of_ble_eq_true rfl) ?_
  refine aw_if_eq 16 dX8_pairs_5 (by decide) (fun c5 => ?_) (fun c5 => ?_)
  · refine aw_aload_n dX8_pairs_16 rfl ?_
    refine aw_iconst (v := 1) dX8_pairs_17 (by decide) ?_
    refine aw_cVI dX8_pairs_18 oX8_fails vX8_fails rfl lX8_87 kX8_fails rfl (hp_160 _) rfl rfl rfl (Nat.le_of_ble_eq_true rfl) (by decide) (Nat.le_of_ble_eq_true rfl) ?_
    rintro _ d9 ⟨rfl, rfl⟩
    exact aw_endI dX8_pairs_21 rfl (by unfold iPair; rw [if_neg (fun z => b2d_f c5 z.1)]; exact IO_f hr ok hw hw6 rfl (by decide) (by decide))
  · refine aw_aload_n dX8_pairs_8 rfl ?_
    refine aw_iload_n dX8_pairs_9 rfl ?_
    refine aw_cVP dX8_pairs_10 oX8_isTask vX8_isTask rfl lX8_121 (kT8 hr) rfl (hp_160 _) rfl rfl rfl (Nat.le_of_ble_eq_true rfl) (by decide) (Nat.le_of_ble_eq_true rfl) ?_
    refine aw_if_ne 22 dX8_pairs_13 (by decide) (fun c13 => ?_) (fun c13 => ?_)
    · have hg : tkI q a ∧ tkI q b := ⟨b2d_t c5, b2d_t c13⟩
      obtain ⟨k, rfl, hk⟩ := tk_nI h12 (b2d_t c5)
      obtain ⟨n, rfl, hn⟩ := tk_nI h12 (b2d_t c13)
      refine aw_iload_n dX8_pairs_22 rfl ?_
      refine aw_iload_n dX8_pairs_23 rfl ?_
      refine aw_icmp_ne 33 dX8_pairs_24 (by decide) (fun c24 => ?_) (fun c24 => ?_)
      · have hne : k ≠ n := fun z => c24 (by rw [z])
        refine aw_aload_n dX8_pairs_33 rfl ?_
        refine aw_iload_n dX8_pairs_34 rfl ?_
        refine aw_iload_n dX8_pairs_35 rfl ?_
        refine aw_cVP dX8_pairs_36 oX8_pairOf vX8_pairOf rfl lX8_139 (kX8_pairOf hr ok (t := k) (u := n) (by omega) (by omega)) rfl (hp_160 _) rfl rfl rfl (Nat.le_of_ble_eq_true rfl) (by decide) (Nat.le_of_ble_eq_true rfl) ?_
        refine aw_istore dX8_pairs_39 (by decide) rfl ?_
        refine aw_aload_n dX8_pairs_41 rfl ?_
        refine aw_iload_n dX8_pairs_42 rfl ?_
        refine aw_iload_n dX8_pairs_43 rfl ?_
        refine aw_cVv dX8_pairs_44 oX8_parts vX8_parts rfl lX8_142 (kX8_parts hr ok hk hn hne) rfl (hp_160 _) rfl rfl rfl (Nat.le_of_ble_eq_true rfl) (by decide) (Nat.le_of_ble_eq_true rfl) ?_
        rintro d4 ⟨hm4, h160, hr4⟩
        have ok4 := QOK_prt ok hk hn hne
        have okJ := QOK_jn ok (z := 10) (by decide) hk hn hne
        rw [jn_up hne] at okJ
        have r1 := RR_up (j := 10) (k := k) (v := prt q k n 10 k ||| 2 ^ n) (i := 89 + k) hr4 h12 (by decide) (show k < 12 by omega) rfl rfl
        have r2 := RR_up (j := 10) (k := n) (v := prt q k n 10 n ||| 2 ^ k) (i := 89 + n) r1 h12 (by decide) (show n < 12 by omega) rfl rfl
        simp only [if_neg (show ¬ (10 = 6) by decide)] at r1 r2
        refine aw_iload_n dX8_pairs_47 rfl ?_
        refine aw_if_eq 56 dX8_pairs_48 (by decide) (fun c48 => (show False from absurd c48 (by decide)).elim) (fun c48 => ?_)
        refine aw_bipush (v := 89) dX8_pairs_51 (by decide) ?_
        refine aw_goto (tgt := 58) dX8_pairs_53 (by decide) ?_
        refine aw_istore dX8_pairs_58 (by decide) rfl ?_
        refine aw_aload_n dX8_pairs_60 rfl ?_
        refine aw_gf dX8_pairs_61 (hp_160 _) rfl fX8_7 (by decide) rfl ?_
        refine aw_iload dX8_pairs_64 rfl ?_
        refine aw_iload_n dX8_pairs_66 rfl ?_
        refine aw_iadd dX8_pairs_67 ?_
        refine aw_dup2 dX8_pairs_68 rfl rfl ?_
        refine aw_ialdN dX8_pairs_69 (hp_161 _) rfl (89 + k) (by first | rfl | (simp only [li_0, li_1, li_2, li_3, li_4, li_5, li_7, li_8, li_9, li_11, li_12, li_16, li_17, li_31, li_32, li_60, li_77, li_80, li_89, li_99, li_101, li_112, li_113, li_256, li_999, li_1023, nI_add, pk_mul])) (by omega) (by decide) ?_
        refine aw_iconst (v := 1) dX8_pairs_70 (by decide) ?_
        refine aw_iload_n dX8_pairs_71 rfl ?_
        refine aw_ishl dX8_pairs_72 ?_
        refine aw_ior dX8_pairs_73 ?_
        rw [(hr4.2.2.2.2.2 k (by omega)).2.1, nI_sh1 n (by omega), nI_or]
        refine aw_iastN dX8_pairs_74 hp_161 (89 + k) (by first | rfl | (simp only [li_0, li_1, li_2, li_3, li_4, li_5, li_7, li_8, li_9, li_11, li_12, li_16, li_17, li_31, li_32, li_60, li_77, li_80, li_89, li_99, li_101, li_112, li_113, li_256, li_999, li_1023, nI_add, pk_mul])) (by omega) (by decide)  ?_
        refine aw_aload_n dX8_pairs_75 rfl ?_
        refine aw_gf dX8_pairs_76 (hp_160 _) rfl fX8_7 (by decide) rfl ?_
        refine aw_iload dX8_pairs_79 rfl ?_
        refine aw_iload_n dX8_pairs_81 rfl ?_
        refine aw_iadd dX8_pairs_82 ?_
        refine aw_dup2 dX8_pairs_83 rfl rfl ?_
        refine aw_ialdN dX8_pairs_84 (hp_161 _) rfl (89 + n) (by first | rfl | (simp only [li_0, li_1, li_2, li_3, li_4, li_5, li_7, li_8, li_9, li_11, li_12, li_16, li_17, li_31, li_32, li_60, li_77, li_80, li_89, li_99, li_101, li_112, li_113, li_256, li_999, li_1023, nI_add, pk_mul])) (by omega) (by decide) ?_
        refine aw_iconst (v := 1) dX8_pairs_85 (by decide) ?_
        refine aw_iload_n dX8_pairs_86 rfl ?_
        refine aw_ishl dX8_pairs_87 ?_
        refine aw_ior dX8_pairs_88 ?_
        simp only [dI_dI, dI_s]
        rw [show upd (d4.1 161) (89 + k) (nI (prt q k n 10 k ||| 2 ^ n)) (89 + n) = nI (prt q k n 10 n) from by have := (r1.2.2.2.2.2 n (by omega)).2.1; rw [up_n _ _ (by omega)] at this; exact this, nI_sh1 k (by omega), nI_or]
        refine aw_iastN dX8_pairs_89 hp_161 (89 + n) (by first | rfl | (simp only [li_0, li_1, li_2, li_3, li_4, li_5, li_7, li_8, li_9, li_11, li_12, li_16, li_17, li_31, li_32, li_60, li_77, li_80, li_89, li_99, li_101, li_112, li_113, li_256, li_999, li_1023, nI_add, pk_mul])) (by omega) (by decide)  ?_
        simp only [dI_dI, dI_s]
        refine aw_aload_n dX8_pairs_90 rfl ?_
        refine aw_iload dX8_pairs_91 rfl ?_
        refine aw_cVI dX8_pairs_93 oX8_done vX8_done rfl lX8_91 kX8_done rfl (hp_160 _) rfl rfl rfl (Nat.le_of_ble_eq_true rfl) (by decide) (Nat.le_of_ble_eq_true rfl) ?_
        rintro _ d8 ⟨rfl, rfl⟩
        exact aw_endI dX8_pairs_96 rfl (by unfold iPair; rw [if_pos hg, if_neg c24, ivn (by omega), ivn (by omega), jn_up hne]; exact IO_d (mI_g hm4 _) (by rw [dI_s]; exact r2) okJ (by rw [dI_n _ _ (by decide), h160]; exact hw) hw6 rfl)
      · refine aw_aload_n dX8_pairs_27 rfl ?_
        refine aw_iconst (v := 2) dX8_pairs_28 (by decide) ?_
        refine aw_cVI dX8_pairs_29 oX8_fails vX8_fails rfl lX8_87 kX8_fails rfl (hp_160 _) rfl rfl rfl (Nat.le_of_ble_eq_true rfl) (by decide) (Nat.le_of_ble_eq_true rfl) ?_
        rintro _ d9 ⟨rfl, rfl⟩
        exact aw_endI dX8_pairs_32 rfl (by unfold iPair; rw [if_pos hg, if_pos c24]; exact IO_f hr ok hw hw6 rfl (by decide) (by decide))
    · refine aw_aload_n dX8_pairs_16 rfl ?_
      refine aw_iconst (v := 1) dX8_pairs_17 (by decide) ?_
      refine aw_cVI dX8_pairs_18 oX8_fails vX8_fails rfl lX8_87 kX8_fails rfl (hp_160 _) rfl rfl rfl (Nat.le_of_ble_eq_true rfl) (by decide) (Nat.le_of_ble_eq_true rfl) ?_
      rintro _ d9 ⟨rfl, rfl⟩
      exact aw_endI dX8_pairs_21 rfl (by unfold iPair; rw [if_neg (fun z => b2d_f c13 z.2)]; exact IO_f hr ok hw hw6 rfl (by decide) (by decide))

set_option maxHeartbeats 4000000 in
set_option maxRecDepth 100000 in
theorem kX8_pair_a {y : Sy} {d : Dt} (hM : MR d y) {a b : Int32} : CI mX8_pair 4 [.ref 160, .int a, .int b, .int 1] d (fun x d' => RO d d' x (oPair y a b 10)) := by
  show AW mX8_pair 4 true (PIx (fun x d' => RO d d' x (oPair y a b 10)) nX) 0 0 0 [(0, .ref 160), (1, .int a), (2, .int b), (3, .int 1)] [] (HP d)
  have ok := hM.1.2
  have hr := hM.1.1
  have h12 := ok.2.1
  refine aw_aload_n dX8_pair_0 rfl ?_
  refine aw_cVv dX8_pair_1 oX8_remembers vX8_remembers rfl lX8_84 (kX8_rem hM) rfl (hp_160 _) rfl rfl rfl (Nat.le_of_ble_eq_true rfl) (by decide) (Nat.le_of_ble_eq_true rfl) ?_
  rintro d1 ⟨hm0, -⟩
  have hr0 := hm0.2.2.2.1.1
  refine aw_aload_n dX8_pair_4 rfl ?_
  refine aw_aload_n dX8_pair_5 rfl ?_
  refine aw_iload_n dX8_pair_6 rfl ?_
  refine aw_iload_n dX8_pair_7 rfl ?_
  refine aw_iload_n dX8_pair_8 rfl ?_
  refine aw_cVI dX8_pair_9 oX8_pairs vX8_pairs rfl lX8_146 (kX8_pairs_a hr0 ok hm0.2.2.2.2.1 hm0.2.2.2.2.2) rfl (hp_160 _) rfl rfl rfl (Nat.le_of_ble_eq_true rfl) (by decide) (Nat.le_of_ble_eq_true rfl) ?_
  rintro x2 d2 hI
  have hm2 := IO_MC hm0 hI
  refine aw_cVI dX8_pair_12 oX8_changed vX8_changed rfl lX8_94 (kX8_changed hm2 _ hI.2.1.2 hI.2.1.1) rfl (hp_160 _) rfl rfl rfl (Nat.le_of_ble_eq_true rfl) (by decide) (Nat.le_of_ble_eq_true rfl) ?_
  rintro _ d3 ⟨rfl, hC⟩
  exact aw_endI dX8_pair_15 rfl (by exact RO_fin hC hI.2.2.1)

set_option maxHeartbeats 4000000 in
set_option maxRecDepth 100000 in
theorem kX8_pairs_t {q : St} {w : Nat} {d : Dt} (hr : RR (d.1 161) q) (ok : QOK q) (hw : d.1 160 6 = nI w) (hw6 : w ≤ 6) {a b : Int32} : CI mX8_pairs 3 [.ref 160, .int a, .int b, .int 0] d (fun x d' => IO d d' x (iPair q w a b 11)) := by
  show AW mX8_pairs 3 true (PIx (fun x d' => IO d d' x (iPair q w a b 11)) nX) 0 0 0 [(0, .ref 160), (1, .int a), (2, .int b), (3, .int 0)] [] (HP d)
  have h12 := ok.2.1
  have hp12 := pow12 h12
  refine aw_aload_n dX8_pairs_0 rfl ?_
  refine aw_iload_n dX8_pairs_1 rfl ?_
  refine aw_cVP dX8_pairs_2 oX8_isTask vX8_isTask rfl lX8_121 (kT8 hr) rfl (hp_160 _) rfl rfl rfl (Nat.le_of_ble_eq_true rfl) (by decide) (Nat.le_of_ble_eq_true rfl) ?_
  refine aw_if_eq 16 dX8_pairs_5 (by decide) (fun c5 => ?_) (fun c5 => ?_)
  · refine aw_aload_n dX8_pairs_16 rfl ?_
    refine aw_iconst (v := 1) dX8_pairs_17 (by decide) ?_
    refine aw_cVI dX8_pairs_18 oX8_fails vX8_fails rfl lX8_87 kX8_fails rfl (hp_160 _) rfl rfl rfl (Nat.le_of_ble_eq_true rfl) (by decide) (Nat.le_of_ble_eq_true rfl) ?_
    rintro _ d9 ⟨rfl, rfl⟩
    exact aw_endI dX8_pairs_21 rfl (by unfold iPair; rw [if_neg (fun z => b2d_f c5 z.1)]; exact IO_f hr ok hw hw6 rfl (by decide) (by decide))
  · refine aw_aload_n dX8_pairs_8 rfl ?_
    refine aw_iload_n dX8_pairs_9 rfl ?_
    refine aw_cVP dX8_pairs_10 oX8_isTask vX8_isTask rfl lX8_121 (kT8 hr) rfl (hp_160 _) rfl rfl rfl (Nat.le_of_ble_eq_true rfl) (by decide) (Nat.le_of_ble_eq_true rfl) ?_
    refine aw_if_ne 22 dX8_pairs_13 (by decide) (fun c13 => ?_) (fun c13 => ?_)
    · have hg : tkI q a ∧ tkI q b := ⟨b2d_t c5, b2d_t c13⟩
      obtain ⟨k, rfl, hk⟩ := tk_nI h12 (b2d_t c5)
      obtain ⟨n, rfl, hn⟩ := tk_nI h12 (b2d_t c13)
      refine aw_iload_n dX8_pairs_22 rfl ?_
      refine aw_iload_n dX8_pairs_23 rfl ?_
      refine aw_icmp_ne 33 dX8_pairs_24 (by decide) (fun c24 => ?_) (fun c24 => ?_)
      · have hne : k ≠ n := fun z => c24 (by rw [z])
        refine aw_aload_n dX8_pairs_33 rfl ?_
        refine aw_iload_n dX8_pairs_34 rfl ?_
        refine aw_iload_n dX8_pairs_35 rfl ?_
        refine aw_cVP dX8_pairs_36 oX8_pairOf vX8_pairOf rfl lX8_139 (kX8_pairOf hr ok (t := k) (u := n) (by omega) (by omega)) rfl (hp_160 _) rfl rfl rfl (Nat.le_of_ble_eq_true rfl) (by decide) (Nat.le_of_ble_eq_true rfl) ?_
        refine aw_istore dX8_pairs_39 (by decide) rfl ?_
        refine aw_aload_n dX8_pairs_41 rfl ?_
        refine aw_iload_n dX8_pairs_42 rfl ?_
        refine aw_iload_n dX8_pairs_43 rfl ?_
        refine aw_cVv dX8_pairs_44 oX8_parts vX8_parts rfl lX8_142 (kX8_parts hr ok hk hn hne) rfl (hp_160 _) rfl rfl rfl (Nat.le_of_ble_eq_true rfl) (by decide) (Nat.le_of_ble_eq_true rfl) ?_
        rintro d4 ⟨hm4, h160, hr4⟩
        have ok4 := QOK_prt ok hk hn hne
        have okJ := QOK_jn ok (z := 11) (by decide) hk hn hne
        rw [jn_up hne] at okJ
        have r1 := RR_up (j := 11) (k := k) (v := prt q k n 11 k ||| 2 ^ n) (i := 101 + k) hr4 h12 (by decide) (show k < 12 by omega) rfl rfl
        have r2 := RR_up (j := 11) (k := n) (v := prt q k n 11 n ||| 2 ^ k) (i := 101 + n) r1 h12 (by decide) (show n < 12 by omega) rfl rfl
        simp only [if_neg (show ¬ (11 = 6) by decide)] at r1 r2
        refine aw_iload_n dX8_pairs_47 rfl ?_
        refine aw_if_eq 56 dX8_pairs_48 (by decide) (fun c48 => ?_) (fun c48 => (c48 rfl).elim)
        refine aw_bipush (v := 101) dX8_pairs_56 (by decide) ?_
        refine aw_istore dX8_pairs_58 (by decide) rfl ?_
        refine aw_aload_n dX8_pairs_60 rfl ?_
        refine aw_gf dX8_pairs_61 (hp_160 _) rfl fX8_7 (by decide) rfl ?_
        refine aw_iload dX8_pairs_64 rfl ?_
        refine aw_iload_n dX8_pairs_66 rfl ?_
        refine aw_iadd dX8_pairs_67 ?_
        refine aw_dup2 dX8_pairs_68 rfl rfl ?_
        refine aw_ialdN dX8_pairs_69 (hp_161 _) rfl (101 + k) (by first | rfl | (simp only [li_0, li_1, li_2, li_3, li_4, li_5, li_7, li_8, li_9, li_11, li_12, li_16, li_17, li_31, li_32, li_60, li_77, li_80, li_89, li_99, li_101, li_112, li_113, li_256, li_999, li_1023, nI_add, pk_mul])) (by omega) (by decide) ?_
        refine aw_iconst (v := 1) dX8_pairs_70 (by decide) ?_
        refine aw_iload_n dX8_pairs_71 rfl ?_
        refine aw_ishl dX8_pairs_72 ?_
        refine aw_ior dX8_pairs_73 ?_
        rw [(hr4.2.2.2.2.2 k (by omega)).2.2, nI_sh1 n (by omega), nI_or]
        refine aw_iastN dX8_pairs_74 hp_161 (101 + k) (by first | rfl | (simp only [li_0, li_1, li_2, li_3, li_4, li_5, li_7, li_8, li_9, li_11, li_12, li_16, li_17, li_31, li_32, li_60, li_77, li_80, li_89, li_99, li_101, li_112, li_113, li_256, li_999, li_1023, nI_add, pk_mul])) (by omega) (by decide)  ?_
        refine aw_aload_n dX8_pairs_75 rfl ?_
        refine aw_gf dX8_pairs_76 (hp_160 _) rfl fX8_7 (by decide) rfl ?_
        refine aw_iload dX8_pairs_79 rfl ?_
        refine aw_iload_n dX8_pairs_81 rfl ?_
        refine aw_iadd dX8_pairs_82 ?_
        refine aw_dup2 dX8_pairs_83 rfl rfl ?_
        refine aw_ialdN dX8_pairs_84 (hp_161 _) rfl (101 + n) (by first | rfl | (simp only [li_0, li_1, li_2, li_3, li_4, li_5, li_7, li_8, li_9, li_11, li_12, li_16, li_17, li_31, li_32, li_60, li_77, li_80, li_89, li_99, li_101, li_112, li_113, li_256, li_999, li_1023, nI_add, pk_mul])) (by omega) (by decide) ?_
        refine aw_iconst (v := 1) dX8_pairs_85 (by decide) ?_
        refine aw_iload_n dX8_pairs_86 rfl ?_
        refine aw_ishl dX8_pairs_87 ?_
        refine aw_ior dX8_pairs_88 ?_
        simp only [dI_dI, dI_s]
        rw [show upd (d4.1 161) (101 + k) (nI (prt q k n 11 k ||| 2 ^ n)) (101 + n) = nI (prt q k n 11 n) from by have := (r1.2.2.2.2.2 n (by omega)).2.2; rw [up_n _ _ (by omega)] at this; exact this, nI_sh1 k (by omega), nI_or]
        refine aw_iastN dX8_pairs_89 hp_161 (101 + n) (by first | rfl | (simp only [li_0, li_1, li_2, li_3, li_4, li_5, li_7, li_8, li_9, li_11, li_12, li_16, li_17, li_31, li_32, li_60, li_77, li_80, li_89, li_99, li_101, li_112, li_113, li_256, li_999, li_1023, nI_add, pk_mul])) (by omega) (by decide)  ?_
        simp only [dI_dI, dI_s]
        refine aw_aload_n dX8_pairs_90 rfl ?_
        refine aw_iload dX8_pairs_91 rfl ?_
        refine aw_cVI dX8_pairs_93 oX8_done vX8_done rfl lX8_91 kX8_done rfl (hp_160 _) rfl rfl rfl (Nat.le_of_ble_eq_true rfl) (by decide) (Nat.le_of_ble_eq_true rfl) ?_
        rintro _ d8 ⟨rfl, rfl⟩
        exact aw_endI dX8_pairs_96 rfl (by unfold iPair; rw [if_pos hg, if_neg c24, ivn (by omega), ivn (by omega), jn_up hne]; exact IO_d (mI_g hm4 _) (by rw [dI_s]; exact r2) okJ (by rw [dI_n _ _ (by decide), h160]; exact hw) hw6 rfl)
      · refine aw_aload_n dX8_pairs_27 rfl ?_
        refine aw_iconst (v := 2) dX8_pairs_28 (by decide) ?_
        refine aw_cVI dX8_pairs_29 oX8_fails vX8_fails rfl lX8_87 kX8_fails rfl (hp_160 _) rfl rfl rfl (Nat.le_of_ble_eq_true rfl) (by decide) (Nat.le_of_ble_eq_true rfl) ?_
        rintro _ d9 ⟨rfl, rfl⟩
        exact aw_endI dX8_pairs_32 rfl (by unfold iPair; rw [if_pos hg, if_pos c24]; exact IO_f hr ok hw hw6 rfl (by decide) (by decide))
    · refine aw_aload_n dX8_pairs_16 rfl ?_
      refine aw_iconst (v := 1) dX8_pairs_17 (by decide) ?_
      refine aw_cVI dX8_pairs_18 oX8_fails vX8_fails rfl lX8_87 kX8_fails rfl (hp_160 _) rfl rfl rfl (Nat.le_of_ble_eq_true rfl) (by decide) (Nat.le_of_ble_eq_true rfl) ?_
      rintro _ d9 ⟨rfl, rfl⟩
      exact aw_endI dX8_pairs_21 rfl (by unfold iPair; rw [if_neg (fun z => b2d_f c13 z.2)]; exact IO_f hr ok hw hw6 rfl (by decide) (by decide))

set_option maxHeartbeats 4000000 in
set_option maxRecDepth 100000 in
theorem kX8_pair_t {y : Sy} {d : Dt} (hM : MR d y) {a b : Int32} : CI mX8_pair 4 [.ref 160, .int a, .int b, .int 0] d (fun x d' => RO d d' x (oPair y a b 11)) := by
  show AW mX8_pair 4 true (PIx (fun x d' => RO d d' x (oPair y a b 11)) nX) 0 0 0 [(0, .ref 160), (1, .int a), (2, .int b), (3, .int 0)] [] (HP d)
  have ok := hM.1.2
  have hr := hM.1.1
  have h12 := ok.2.1
  refine aw_aload_n dX8_pair_0 rfl ?_
  refine aw_cVv dX8_pair_1 oX8_remembers vX8_remembers rfl lX8_84 (kX8_rem hM) rfl (hp_160 _) rfl rfl rfl (Nat.le_of_ble_eq_true rfl) (by decide) (Nat.le_of_ble_eq_true rfl) ?_
  rintro d1 ⟨hm0, -⟩
  have hr0 := hm0.2.2.2.1.1
  refine aw_aload_n dX8_pair_4 rfl ?_
  refine aw_aload_n dX8_pair_5 rfl ?_
  refine aw_iload_n dX8_pair_6 rfl ?_
  refine aw_iload_n dX8_pair_7 rfl ?_
  refine aw_iload_n dX8_pair_8 rfl ?_
  refine aw_cVI dX8_pair_9 oX8_pairs vX8_pairs rfl lX8_146 (kX8_pairs_t hr0 ok hm0.2.2.2.2.1 hm0.2.2.2.2.2) rfl (hp_160 _) rfl rfl rfl (Nat.le_of_ble_eq_true rfl) (by decide) (Nat.le_of_ble_eq_true rfl) ?_
  rintro x2 d2 hI
  have hm2 := IO_MC hm0 hI
  refine aw_cVI dX8_pair_12 oX8_changed vX8_changed rfl lX8_94 (kX8_changed hm2 _ hI.2.1.2 hI.2.1.1) rfl (hp_160 _) rfl rfl rfl (Nat.le_of_ble_eq_true rfl) (by decide) (Nat.le_of_ble_eq_true rfl) ?_
  rintro _ d3 ⟨rfl, hC⟩
  exact aw_endI dX8_pair_15 rfl (by exact RO_fin hC hI.2.2.1)

set_option maxHeartbeats 4000000 in
set_option maxRecDepth 100000 in
theorem kX8_assigns {q : St} {w : Nat} {d : Dt} (hr : RR (d.1 161) q) (ok : QOK q) (hw : d.1 160 6 = nI w) (hw6 : w ≤ 6) {a b : Int32} : CI mX8_assigns 7 [.ref 160, .int a, .int b] d (fun x d' => IO d d' x (iAsg q w a b)) := by
  show AW mX8_assigns 7 true (PIx (fun x d' => IO d d' x (iAsg q w a b)) nX) 0 0 0 [(0, .ref 160), (1, .int a), (2, .int b)] [] (HP d)
  have h12 := ok.2.1
  have hp12 := pow12 h12
  refine aw_aload_n dX8_assigns_0 rfl ?_
  refine aw_iload_n dX8_assigns_1 rfl ?_
  refine aw_cVP dX8_assigns_2 oX8_isTask vX8_isTask rfl lX8_121 (kT8 hr) rfl (hp_160 _) rfl rfl rfl (Nat.le_of_ble_eq_true rfl) (by decide) (Nat.le_of_ble_eq_true rfl) ?_
  refine aw_if_eq 18 dX8_assigns_5 (by decide) (fun c5 => ?_) (fun c5 => ?_)
  · refine aw_aload_n dX8_assigns_18 rfl ?_
    refine aw_iconst (v := 1) dX8_assigns_19 (by decide) ?_
    refine aw_cVI dX8_assigns_20 oX8_fails vX8_fails rfl lX8_87 kX8_fails rfl (hp_160 _) rfl rfl rfl (Nat.le_of_ble_eq_true rfl) (by decide) (Nat.le_of_ble_eq_true rfl) ?_
    rintro _ d9 ⟨rfl, rfl⟩
    exact aw_endI dX8_assigns_23 rfl (by unfold iAsg; rw [if_neg (fun z => b2d_f c5 z.1)]; exact IO_f hr ok hw hw6 rfl (by decide) (by decide))
  · refine aw_iload_n dX8_assigns_8 rfl ?_
    refine aw_iconst (v := (-1)) dX8_assigns_9 (by decide) ?_
    refine aw_bipush (v := 7) dX8_assigns_10 (by decide) ?_
    refine aw_cSP dX8_assigns_12 oX8_in sX8_in rfl lX8_74 kX8_in rfl rfl (Nat.le_of_ble_eq_true rfl) (by decide) (Nat.le_of_ble_eq_true rfl) ?_
    refine aw_if_ne 24 dX8_assigns_15 (by decide) (fun c15 => ?_) (fun c15 => ?_)
    · have hg : tkI q a ∧ gI (-1) 7 b := ⟨b2d_t c5, b2d_t c15⟩
      obtain ⟨k, rfl, hk⟩ := tk_nI h12 (b2d_t c5)
      refine aw_iload_n dX8_assigns_24 rfl ?_
      refine aw_iconst (v := (-1)) dX8_assigns_25 (by decide) ?_
      refine aw_icmp_ne 33 dX8_assigns_26 (by decide) (fun c26 => ?_) (fun c26 => ?_)
      · obtain ⟨s, rfl, hs⟩ := st_nI (b2d_t c15) c26
        refine aw_aload_n dX8_assigns_33 rfl ?_
        refine aw_iload_n dX8_assigns_34 rfl ?_
        refine aw_iload_n dX8_assigns_35 rfl ?_
        refine aw_cVI dX8_assigns_36 oX8_refuses vX8_refuses rfl lX8_187 (kX8_refuses hr ok hk (s := s) (by omega)) rfl (hp_160 _) rfl rfl rfl (Nat.le_of_ble_eq_true rfl) (by decide) (Nat.le_of_ble_eq_true rfl) ?_
        rintro _ d1 ⟨hms, rfl⟩
        have hr1 : RR (d1.1 161) q := by rw [mS_g hms]; exact hr
        have hw1 : d1.1 160 6 = nI w := by rw [hms.2.2 6 (by decide)]; exact hw
        refine aw_istore_n dX8_assigns_39 (by decide) rfl ?_
        refine aw_iload_n dX8_assigns_40 rfl ?_
        refine aw_if_eq 55 dX8_assigns_41 (by decide) (fun c41 => ?_) (fun c41 => ?_)
        · have hz : refQ q k s = 0 := nI_inj (by have := refQ_le q k s; omega) (by omega) (c41 : nI (refQ q k s) = nI 0)
          have hm1 := mS_mI hms
          refine aw_aload_n dX8_assigns_55 rfl ?_
          refine aw_iload_n dX8_assigns_56 rfl ?_
          refine aw_iconst (v := 4) dX8_assigns_57 (by decide) ?_
          refine aw_cVP dX8_assigns_58 oX8_of vX8_of rfl lX8_124 (kX8_of (t := k) (w := 4) (by omega) (by omega)) rfl (hp_160 _) rfl rfl rfl (Nat.le_of_ble_eq_true rfl) (by decide) (Nat.le_of_ble_eq_true rfl) ?_
          refine aw_istore dX8_assigns_61 (by decide) rfl ?_
          refine aw_aload_n dX8_assigns_63 rfl ?_
          refine aw_iload_n dX8_assigns_64 rfl ?_
          refine aw_iconst (v := 4) dX8_assigns_65 (by decide) ?_
          refine aw_iload_n dX8_assigns_66 rfl ?_
          refine aw_cVv dX8_assigns_67 oX8_sets vX8_sets rfl lX8_113 (kX8_sets (t := k) (w := 4) (by omega) (by omega)) rfl (hp_160 _) rfl rfl rfl (Nat.le_of_ble_eq_true rfl) (by decide) (Nat.le_of_ble_eq_true rfl) ?_
          rintro _ rfl
          refine aw_aload_n dX8_assigns_70 rfl ?_
          refine aw_iload dX8_assigns_71 rfl ?_
          refine aw_cVI dX8_assigns_73 oX8_done vX8_done rfl lX8_91 kX8_done rfl (hp_160 _) rfl rfl rfl (Nat.le_of_ble_eq_true rfl) (by decide) (Nat.le_of_ble_eq_true rfl) ?_
          rintro _ d8 ⟨rfl, rfl⟩
          exact aw_endI dX8_assigns_76 rfl (by unfold iAsg; rw [if_pos hg, if_neg c26, ivn (by omega), ivn (by omega), if_pos hz]; exact IO_d (mI_g hm1 _) (by rw [dI_s]; exact RR_up (j := 6) (k := k) (v := s + 1) hr1 h12 (by decide) (show k < 12 by omega) rfl (by rw [pv_s]; rfl)) (QOK_6 ok hk (by omega)) (by rw [dI_n _ _ (by decide)]; exact hw1) hw6 ((hr1.2.2.2.2.1 k hk).2.2))
        · refine aw_aload_n dX8_assigns_44 rfl ?_
          refine aw_iload_n dX8_assigns_45 rfl ?_
          refine aw_putI (ci := 8) (j := 6) .int dX8_assigns_46 fX8_190 rfl (by decide) rfl tyX8 tyX8_ok nmX8 rfl rfl rfl (hp_160 _) (Nat.le_of_ble_eq_true rfl) rfl ?_
          refine aw_aload_n dX8_assigns_49 rfl ?_
          refine aw_iconst (v := 2) dX8_assigns_50 (by decide) ?_
          refine aw_cVI dX8_assigns_51 oX8_fails vX8_fails rfl lX8_87 kX8_fails rfl (hp_160 _) rfl rfl rfl (Nat.le_of_ble_eq_true rfl) (by decide) (Nat.le_of_ble_eq_true rfl) ?_
          rintro _ d9 ⟨rfl, rfl⟩
          exact aw_endI dX8_assigns_54 rfl (by unfold iAsg; rw [if_pos hg, if_neg c26, ivn (by omega), ivn (by omega), if_neg (fun z => c41 (by rw [z]; rfl))]; exact IO_w hms hr1 ok (refQ_le q k s))
      · refine aw_iconst (v := 0) dX8_assigns_29 (by decide) ?_
        refine aw_goto (tgt := 39) dX8_assigns_30 (by decide) ?_
        refine aw_istore_n dX8_assigns_39 (by decide) rfl ?_
        refine aw_iload_n dX8_assigns_40 rfl ?_
        refine aw_if_eq 55 dX8_assigns_41 (by decide) (fun _ => ?_) (fun c41 => (by first | exact absurd c41 (by decide) | exact absurd rfl c41))
        have hm1 := mI_r d
        have hr1 := hr
        have hw1 := hw
        refine aw_aload_n dX8_assigns_55 rfl ?_
        refine aw_iload_n dX8_assigns_56 rfl ?_
        refine aw_iconst (v := 4) dX8_assigns_57 (by decide) ?_
        refine aw_cVP dX8_assigns_58 oX8_of vX8_of rfl lX8_124 (kX8_of (t := k) (w := 4) (by omega) (by omega)) rfl (hp_160 _) rfl rfl rfl (Nat.le_of_ble_eq_true rfl) (by decide) (Nat.le_of_ble_eq_true rfl) ?_
        refine aw_istore dX8_assigns_61 (by decide) rfl ?_
        refine aw_aload_n dX8_assigns_63 rfl ?_
        refine aw_iload_n dX8_assigns_64 rfl ?_
        refine aw_iconst (v := 4) dX8_assigns_65 (by decide) ?_
        refine aw_iload_n dX8_assigns_66 rfl ?_
        refine aw_cVv dX8_assigns_67 oX8_sets vX8_sets rfl lX8_113 (kX8_sets (t := k) (w := 4) (by omega) (by omega)) rfl (hp_160 _) rfl rfl rfl (Nat.le_of_ble_eq_true rfl) (by decide) (Nat.le_of_ble_eq_true rfl) ?_
        rintro _ rfl
        refine aw_aload_n dX8_assigns_70 rfl ?_
        refine aw_iload dX8_assigns_71 rfl ?_
        refine aw_cVI dX8_assigns_73 oX8_done vX8_done rfl lX8_91 kX8_done rfl (hp_160 _) rfl rfl rfl (Nat.le_of_ble_eq_true rfl) (by decide) (Nat.le_of_ble_eq_true rfl) ?_
        rintro _ d8 ⟨rfl, rfl⟩
        exact aw_endI dX8_assigns_76 rfl (by unfold iAsg; rw [if_pos hg, if_pos c26, ivn (by omega)]; exact IO_d (mI_g hm1 _) (by rw [dI_s]; exact RR_up (j := 6) (k := k) (v := 0) hr1 h12 (by decide) (show k < 12 by omega) rfl (by rw [c26]; rfl)) (QOK_6 ok hk (by omega)) (by rw [dI_n _ _ (by decide)]; exact hw1) hw6 ((hr1.2.2.2.2.1 k hk).2.2))
    · refine aw_aload_n dX8_assigns_18 rfl ?_
      refine aw_iconst (v := 1) dX8_assigns_19 (by decide) ?_
      refine aw_cVI dX8_assigns_20 oX8_fails vX8_fails rfl lX8_87 kX8_fails rfl (hp_160 _) rfl rfl rfl (Nat.le_of_ble_eq_true rfl) (by decide) (Nat.le_of_ble_eq_true rfl) ?_
      rintro _ d9 ⟨rfl, rfl⟩
      exact aw_endI dX8_assigns_23 rfl (by unfold iAsg; rw [if_neg (fun z => b2d_f c15 z.2)]; exact IO_f hr ok hw hw6 rfl (by decide) (by decide))

set_option maxHeartbeats 4000000 in
set_option maxRecDepth 100000 in
theorem kX8_assign {y : Sy} {d : Dt} (hM : MR d y) {a b : Int32} : CI mX8_assign 8 [.ref 160, .int a, .int b] d (fun x d' => RO d d' x (oAssign y a b)) := by
  show AW mX8_assign 8 true (PIx (fun x d' => RO d d' x (oAssign y a b)) nX) 0 0 0 [(0, .ref 160), (1, .int a), (2, .int b)] [] (HP d)
  have ok := hM.1.2
  have hr := hM.1.1
  have h12 := ok.2.1
  refine aw_aload_n dX8_assign_0 rfl ?_
  refine aw_cVv dX8_assign_1 oX8_remembers vX8_remembers rfl lX8_84 (kX8_rem hM) rfl (hp_160 _) rfl rfl rfl (Nat.le_of_ble_eq_true rfl) (by decide) (Nat.le_of_ble_eq_true rfl) ?_
  rintro d1 ⟨hm0, -⟩
  have hr0 := hm0.2.2.2.1.1
  refine aw_aload_n dX8_assign_4 rfl ?_
  refine aw_aload_n dX8_assign_5 rfl ?_
  refine aw_iload_n dX8_assign_6 rfl ?_
  refine aw_iload_n dX8_assign_7 rfl ?_
  refine aw_cVI dX8_assign_8 oX8_assigns vX8_assigns rfl lX8_193 (kX8_assigns hr0 ok hm0.2.2.2.2.1 hm0.2.2.2.2.2) rfl (hp_160 _) rfl rfl rfl (Nat.le_of_ble_eq_true rfl) (by decide) (Nat.le_of_ble_eq_true rfl) ?_
  rintro x2 d2 hI
  have hm2 := IO_MC hm0 hI
  refine aw_cVI dX8_assign_11 oX8_changed vX8_changed rfl lX8_94 (kX8_changed hm2 _ hI.2.1.2 hI.2.1.1) rfl (hp_160 _) rfl rfl rfl (Nat.le_of_ble_eq_true rfl) (by decide) (Nat.le_of_ble_eq_true rfl) ?_
  rintro _ d3 ⟨rfl, hC⟩
  exact aw_endI dX8_assign_14 rfl (by exact RO_fin hC hI.2.2.1)
