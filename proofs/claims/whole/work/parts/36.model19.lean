set_option maxHeartbeats 4000000 in
set_option maxRecDepth 100000 in
theorem kX8_does {q : St} {w : Nat} {d : Dt} (hr : RR (d.1 161) q) (ok : QOK q) (hw : d.1 160 6 = nI w) (hw6 : w ≤ 6) {c : Nat} (hc6 : c < 6) (hc : d.1 160 20 = nI c) {v : Nat → Nat} (hv : ∀ k, k < nN c → d.1 173 k = nI (v k)) : CI mX8_does 8 [.ref 160] d (fun x d' => IO d d' x (doQ q w c v)) := by
  show AW mX8_does 8 true (PIx (fun x d' => IO d d' x (doQ q w c v)) nX) 0 0 0 [(0, .ref 160)] [] (HP d)
  refine aw_aload_n dX8_does_0 rfl ?_
  refine aw_gf dX8_does_1 (hp_160 _) rfl fX8_258 (by decide) rfl ?_
  rw [hc]
  rcases (show c = 0 ∨ c = 1 ∨ c = 2 ∨ c = 3 ∨ c = 4 ∨ c = 5 by omega) with rfl | rfl | rfl | rfl | rfl | rfl
  · refine aw_tabIn (off := 36) (tgt := 40) dX8_does_4 (by decide) (by decide) (by decide) (by decide) ?_
    refine aw_aload_n dX8_does_40 rfl ?_
    refine aw_aload_n dX8_does_41 rfl ?_
    refine aw_gf dX8_does_42 (hp_160 _) rfl fX8_49 (by decide) rfl ?_
    refine aw_iconst (v := 0) dX8_does_45 (by decide) ?_
    refine aw_ialdN dX8_does_46 (hp_173 _) rfl (0) (by first | rfl | (simp only [li_0, li_1, li_2, li_3, li_4, li_5, li_7, li_8, li_9, li_11, li_12, li_16, li_17, li_31, li_32, li_60, li_77, li_80, li_89, li_99, li_101, li_112, li_113, li_256, li_999, li_1023, nI_add, pk_mul])) (by omega) (by decide) ?_
    refine aw_aload_n dX8_does_47 rfl ?_
    refine aw_gf dX8_does_48 (hp_160 _) rfl fX8_49 (by decide) rfl ?_
    refine aw_iconst (v := 1) dX8_does_51 (by decide) ?_
    refine aw_ialdN dX8_does_52 (hp_173 _) rfl (1) (by first | rfl | (simp only [li_0, li_1, li_2, li_3, li_4, li_5, li_7, li_8, li_9, li_11, li_12, li_16, li_17, li_31, li_32, li_60, li_77, li_80, li_89, li_99, li_101, li_112, li_113, li_256, li_999, li_1023, nI_add, pk_mul])) (by omega) (by decide) ?_
    refine aw_aload_n dX8_does_53 rfl ?_
    refine aw_gf dX8_does_54 (hp_160 _) rfl fX8_49 (by decide) rfl ?_
    refine aw_iconst (v := 2) dX8_does_57 (by decide) ?_
    refine aw_ialdN dX8_does_58 (hp_173 _) rfl (2) (by first | rfl | (simp only [li_0, li_1, li_2, li_3, li_4, li_5, li_7, li_8, li_9, li_11, li_12, li_16, li_17, li_31, li_32, li_60, li_77, li_80, li_89, li_99, li_101, li_112, li_113, li_256, li_999, li_1023, nI_add, pk_mul])) (by omega) (by decide) ?_
    refine aw_aload_n dX8_does_59 rfl ?_
    refine aw_gf dX8_does_60 (hp_160 _) rfl fX8_49 (by decide) rfl ?_
    refine aw_iconst (v := 3) dX8_does_63 (by decide) ?_
    refine aw_ialdN dX8_does_64 (hp_173 _) rfl (3) (by first | rfl | (simp only [li_0, li_1, li_2, li_3, li_4, li_5, li_7, li_8, li_9, li_11, li_12, li_16, li_17, li_31, li_32, li_60, li_77, li_80, li_89, li_99, li_101, li_112, li_113, li_256, li_999, li_1023, nI_add, pk_mul])) (by omega) (by decide) ?_
    rw [hv 0 (by decide), hv 1 (by decide), hv 2 (by decide), hv 3 (by decide)]
    refine aw_cVI dX8_does_65 oX8_addsTask vX8_addsTask rfl lX8_117 (kX8_addsTask hr ok hw hw6) rfl (hp_160 _) rfl rfl rfl (Nat.le_of_ble_eq_true rfl) (by decide) (Nat.le_of_ble_eq_true rfl) ?_
    rintro x d1 hI
    exact aw_endI dX8_does_68 rfl hI
  · refine aw_tabIn (off := 65) (tgt := 69) dX8_does_4 (by decide) (by decide) (by decide) (by decide) ?_
    refine aw_aload_n dX8_does_69 rfl ?_
    refine aw_aload_n dX8_does_70 rfl ?_
    refine aw_gf dX8_does_71 (hp_160 _) rfl fX8_49 (by decide) rfl ?_
    refine aw_iconst (v := 0) dX8_does_74 (by decide) ?_
    refine aw_ialdN dX8_does_75 (hp_173 _) rfl (0) (by first | rfl | (simp only [li_0, li_1, li_2, li_3, li_4, li_5, li_7, li_8, li_9, li_11, li_12, li_16, li_17, li_31, li_32, li_60, li_77, li_80, li_89, li_99, li_101, li_112, li_113, li_256, li_999, li_1023, nI_add, pk_mul])) (by omega) (by decide) ?_
    refine aw_aload_n dX8_does_76 rfl ?_
    refine aw_gf dX8_does_77 (hp_160 _) rfl fX8_49 (by decide) rfl ?_
    refine aw_iconst (v := 1) dX8_does_80 (by decide) ?_
    refine aw_ialdN dX8_does_81 (hp_173 _) rfl (1) (by first | rfl | (simp only [li_0, li_1, li_2, li_3, li_4, li_5, li_7, li_8, li_9, li_11, li_12, li_16, li_17, li_31, li_32, li_60, li_77, li_80, li_89, li_99, li_101, li_112, li_113, li_256, li_999, li_1023, nI_add, pk_mul])) (by omega) (by decide) ?_
    rw [hv 0 (by decide), hv 1 (by decide)]
    refine aw_cVI dX8_does_82 oX8_putsBefore vX8_putsBefore rfl lX8_136 (kX8_putsBefore hr ok hw hw6) rfl (hp_160 _) rfl rfl rfl (Nat.le_of_ble_eq_true rfl) (by decide) (Nat.le_of_ble_eq_true rfl) ?_
    rintro x d1 hI
    exact aw_endI dX8_does_85 rfl hI
  · refine aw_tabIn (off := 82) (tgt := 86) dX8_does_4 (by decide) (by decide) (by decide) (by decide) ?_
    refine aw_aload_n dX8_does_86 rfl ?_
    refine aw_aload_n dX8_does_87 rfl ?_
    refine aw_gf dX8_does_88 (hp_160 _) rfl fX8_49 (by decide) rfl ?_
    refine aw_iconst (v := 0) dX8_does_91 (by decide) ?_
    refine aw_ialdN dX8_does_92 (hp_173 _) rfl (0) (by first | rfl | (simp only [li_0, li_1, li_2, li_3, li_4, li_5, li_7, li_8, li_9, li_11, li_12, li_16, li_17, li_31, li_32, li_60, li_77, li_80, li_89, li_99, li_101, li_112, li_113, li_256, li_999, li_1023, nI_add, pk_mul])) (by omega) (by decide) ?_
    refine aw_aload_n dX8_does_93 rfl ?_
    refine aw_gf dX8_does_94 (hp_160 _) rfl fX8_49 (by decide) rfl ?_
    refine aw_iconst (v := 1) dX8_does_97 (by decide) ?_
    refine aw_ialdN dX8_does_98 (hp_173 _) rfl (1) (by first | rfl | (simp only [li_0, li_1, li_2, li_3, li_4, li_5, li_7, li_8, li_9, li_11, li_12, li_16, li_17, li_31, li_32, li_60, li_77, li_80, li_89, li_99, li_101, li_112, li_113, li_256, li_999, li_1023, nI_add, pk_mul])) (by omega) (by decide) ?_
    rw [hv 0 (by decide), hv 1 (by decide)]
    refine aw_aload_n dX8_does_99 rfl ?_
    refine aw_gf dX8_does_100 (hp_160 _) rfl fX8_258 (by decide) rfl ?_
    refine aw_iconst (v := 2) dX8_does_103 (by decide) ?_
    rw [hc]
    refine aw_icmp_ne 111 dX8_does_104 (by decide) (fun c104 => absurd rfl c104) (fun _ => ?_)
    refine aw_iconst (v := 1) dX8_does_107 (by decide) ?_
    refine aw_goto (tgt := 112) dX8_does_108 (by decide) ?_
    refine aw_cVI dX8_does_112 oX8_pairs vX8_pairs rfl lX8_146 (kX8_pairs_a hr ok hw hw6) rfl (hp_160 _) rfl rfl rfl (Nat.le_of_ble_eq_true rfl) (by decide) (Nat.le_of_ble_eq_true rfl) ?_
    rintro x d1 hI
    exact aw_endI dX8_does_115 rfl hI
  · refine aw_tabIn (off := 82) (tgt := 86) dX8_does_4 (by decide) (by decide) (by decide) (by decide) ?_
    refine aw_aload_n dX8_does_86 rfl ?_
    refine aw_aload_n dX8_does_87 rfl ?_
    refine aw_gf dX8_does_88 (hp_160 _) rfl fX8_49 (by decide) rfl ?_
    refine aw_iconst (v := 0) dX8_does_91 (by decide) ?_
    refine aw_ialdN dX8_does_92 (hp_173 _) rfl (0) (by first | rfl | (simp only [li_0, li_1, li_2, li_3, li_4, li_5, li_7, li_8, li_9, li_11, li_12, li_16, li_17, li_31, li_32, li_60, li_77, li_80, li_89, li_99, li_101, li_112, li_113, li_256, li_999, li_1023, nI_add, pk_mul])) (by omega) (by decide) ?_
    refine aw_aload_n dX8_does_93 rfl ?_
    refine aw_gf dX8_does_94 (hp_160 _) rfl fX8_49 (by decide) rfl ?_
    refine aw_iconst (v := 1) dX8_does_97 (by decide) ?_
    refine aw_ialdN dX8_does_98 (hp_173 _) rfl (1) (by first | rfl | (simp only [li_0, li_1, li_2, li_3, li_4, li_5, li_7, li_8, li_9, li_11, li_12, li_16, li_17, li_31, li_32, li_60, li_77, li_80, li_89, li_99, li_101, li_112, li_113, li_256, li_999, li_1023, nI_add, pk_mul])) (by omega) (by decide) ?_
    rw [hv 0 (by decide), hv 1 (by decide)]
    refine aw_aload_n dX8_does_99 rfl ?_
    refine aw_gf dX8_does_100 (hp_160 _) rfl fX8_258 (by decide) rfl ?_
    refine aw_iconst (v := 2) dX8_does_103 (by decide) ?_
    rw [hc]
    refine aw_icmp_ne 111 dX8_does_104 (by decide) (fun _ => ?_) (fun c104 => absurd c104 (by decide))
    refine aw_iconst (v := 0) dX8_does_111 (by decide) ?_
    refine aw_cVI dX8_does_112 oX8_pairs vX8_pairs rfl lX8_146 (kX8_pairs_t hr ok hw hw6) rfl (hp_160 _) rfl rfl rfl (Nat.le_of_ble_eq_true rfl) (by decide) (Nat.le_of_ble_eq_true rfl) ?_
    rintro x d1 hI
    exact aw_endI dX8_does_115 rfl hI
  · refine aw_tabIn (off := 112) (tgt := 116) dX8_does_4 (by decide) (by decide) (by decide) (by decide) ?_
    refine aw_aload_n dX8_does_116 rfl ?_
    refine aw_aload_n dX8_does_117 rfl ?_
    refine aw_gf dX8_does_118 (hp_160 _) rfl fX8_49 (by decide) rfl ?_
    refine aw_iconst (v := 0) dX8_does_121 (by decide) ?_
    refine aw_ialdN dX8_does_122 (hp_173 _) rfl (0) (by first | rfl | (simp only [li_0, li_1, li_2, li_3, li_4, li_5, li_7, li_8, li_9, li_11, li_12, li_16, li_17, li_31, li_32, li_60, li_77, li_80, li_89, li_99, li_101, li_112, li_113, li_256, li_999, li_1023, nI_add, pk_mul])) (by omega) (by decide) ?_
    refine aw_aload_n dX8_does_123 rfl ?_
    refine aw_gf dX8_does_124 (hp_160 _) rfl fX8_49 (by decide) rfl ?_
    refine aw_iconst (v := 1) dX8_does_127 (by decide) ?_
    refine aw_ialdN dX8_does_128 (hp_173 _) rfl (1) (by first | rfl | (simp only [li_0, li_1, li_2, li_3, li_4, li_5, li_7, li_8, li_9, li_11, li_12, li_16, li_17, li_31, li_32, li_60, li_77, li_80, li_89, li_99, li_101, li_112, li_113, li_256, li_999, li_1023, nI_add, pk_mul])) (by omega) (by decide) ?_
    rw [hv 0 (by decide), hv 1 (by decide)]
    refine aw_cVI dX8_does_129 oX8_assigns vX8_assigns rfl lX8_193 (kX8_assigns hr ok hw hw6) rfl (hp_160 _) rfl rfl rfl (Nat.le_of_ble_eq_true rfl) (by decide) (Nat.le_of_ble_eq_true rfl) ?_
    rintro x d1 hI
    exact aw_endI dX8_does_132 rfl hI
  · refine aw_tabOut (tgt := 133) dX8_does_4 (by decide) (by decide) ?_
    refine aw_aload_n dX8_does_133 rfl ?_
    refine aw_iconst (v := 0) dX8_does_134 (by decide) ?_
    refine aw_aload_n dX8_does_135 rfl ?_
    refine aw_gf dX8_does_136 (hp_160 _) rfl fX8_49 (by decide) rfl ?_
    refine aw_iconst (v := 0) dX8_does_139 (by decide) ?_
    refine aw_ialdN dX8_does_140 (hp_173 _) rfl (0) (by first | rfl | (simp only [li_0, li_1, li_2, li_3, li_4, li_5, li_7, li_8, li_9, li_11, li_12, li_16, li_17, li_31, li_32, li_60, li_77, li_80, li_89, li_99, li_101, li_112, li_113, li_256, li_999, li_1023, nI_add, pk_mul])) (by omega) (by decide) ?_
    rw [hv 0 (by decide)]
    refine aw_cVI dX8_does_141 oX8_setsRule vX8_setsRule rfl lX8_101 (kX8_setsRule hr ok hw hw6) rfl (hp_160 _) rfl rfl rfl (Nat.le_of_ble_eq_true rfl) (by decide) (Nat.le_of_ble_eq_true rfl) ?_
    rintro x d1 hI
    exact aw_endI dX8_does_144 rfl hI

set_option maxHeartbeats 4000000 in
set_option maxRecDepth 100000 in
theorem kX8_read {y : Sy} {d : Dt} (hM : MR d y) : CI mX8_read 9 [.ref 160] d (fun x d' => RO d d' x (oRead y)) := by
  show AW mX8_read 9 true (PIx (fun x d' => RO d d' x (oRead y)) nX) 0 0 0 [(0, .ref 160)] [] (HP d)
  have ok := hM.1.2
  have hr := hM.1.1
  have h12 := ok.2.1
  have hTP := hM.2.2.2.2
  have hl80 := hTP.2.1
  have hw0 := hM.2.2.2.1.1
  have hw06 := hM.2.2.2.1.2
  obtain ⟨T, hTe⟩ : ∃ T, y.2.2.2.2 = T := ⟨_, rfl⟩
  rw [hTe] at hTP hl80
  have KX : ∀ (b : Bool) (e : Nat) (d1 : Dt), MR d1 y → fM d d1 → mK d d1 → d1.1 160 18 = nI e → e ≤ T.length → prs T 80 0 = (b, e) → AW mX8_read 9 true (PIx (fun x d' => RO d d' x (oRead y)) nX) 0 0 29 [(0, .ref 160), (1, .int (b2i b))] [] (HP d1) := by
    intro b e d1 hM1 hf1 hk1 hat he hP
    have hTP1 := hM1.2.2.2.2
    rw [hTe] at hTP1
    refine aw_aload_n dX8_read_29 rfl ?_
    refine aw_gf dX8_read_30 (hp_160 _) rfl fX8_242 (by decide) rfl ?_
    refine aw_istore_n dX8_read_33 (by decide) rfl ?_
    rw [hat]
    refine aw_iload_n dX8_read_34 rfl ?_
    refine aw_if_eq 49 dX8_read_35 (by decide) (fun c35 => ?_) (fun c35 => ?_)
    · refine aw_aload_n dX8_read_49 rfl ?_
      refine aw_iconst (v := 0) dX8_read_50 (by decide) ?_
      refine aw_putI (ci := 8) (j := 17) .int dX8_read_51 fX8_239 rfl (by decide) rfl tyX8 tyX8_ok nmX8 rfl rfl rfl (hp_160 _) (Nat.le_of_ble_eq_true rfl) rfl ?_
      refine aw_aload_n dX8_read_54 rfl ?_
      refine aw_bipush (v := (-100)) dX8_read_55 (by decide) ?_
      refine aw_iload_n dX8_read_57 rfl ?_
      refine aw_isub dX8_read_58 ?_
      skip
      refine aw_cVI dX8_read_59 oX8_done vX8_done rfl lX8_91 kX8_done rfl (hp_160 _) rfl rfl rfl (Nat.le_of_ble_eq_true rfl) (by decide) (Nat.le_of_ble_eq_true rfl) ?_
      rintro _ d8 ⟨rfl, rfl⟩
      exact aw_endI dX8_read_62 rfl (by rw [show oRead y = (0, -100 - nI e, noT y) from by unfold oRead; rw [hTe, hP, if_neg (fun z => (by have zb : b = true := z.1; rw [zb] at c35; exact absurd c35 (by decide)))]]; exact RO_T (y := y) hf1 (MR_noT hM1) rfl)
    · refine aw_aload_n dX8_read_38 rfl ?_
      refine aw_gf dX8_read_39 (hp_160 _) rfl fX8_242 (by decide) rfl ?_
      refine aw_aload_n dX8_read_42 rfl ?_
      refine aw_gf dX8_read_43 (hp_160 _) rfl fX8_239 (by decide) rfl ?_
      refine aw_icmp_ge 63 dX8_read_46 (by decide) (fun c46 => ?_) (fun c46 => ?_)
      · refine aw_aload_n dX8_read_63 rfl ?_
        refine aw_cVv dX8_read_64 oX8_remembers vX8_remembers rfl lX8_84 (kX8_rem hM1) rfl (hp_160 _) rfl rfl rfl (Nat.le_of_ble_eq_true rfl) (by decide) (Nat.le_of_ble_eq_true rfl) ?_
        rintro d2 ⟨hm0, -⟩
        have hgood : (prs T 80 0).1 = true ∧ T.length ≤ (prs T 80 0).2 := by
          rw [hP]
          exact ⟨b2i_ne.mp c35, (nI_leI (by omega) (by omega)).mp (by rw [hat, hTP1.1] at c46; exact c46)⟩
        refine aw_aload_n dX8_read_67 rfl ?_
        refine aw_iconst (v := 0) dX8_read_68 (by decide) ?_
        refine aw_putI (ci := 8) (j := 18) .int dX8_read_69 fX8_242 rfl (by decide) rfl tyX8 tyX8_ok nmX8 rfl rfl rfl (hp_160 _) (Nat.le_of_ble_eq_true rfl) rfl ?_
        have hm7 : mR d2 (dI d2 160 (upd (d2.1 160) 18 0)) := mR_160 (mR_r d2) (by decide) 0
        have hmc7 := MC_mR hm0 hm7
        have hrp7 : RP (dI d2 160 (upd (d2.1 160) 18 0)) T 0 := ⟨by have z := MR_mR (MC_keep hm0) hm7; have z2 := z.2.2.2.2; rw [← hTe]; exact z2, by rw [dI_s]; rfl, Nat.zero_le _⟩
        generalize dI d2 160 (upd (d2.1 160) 18 0) = d3 at hm7 hmc7 hrp7 ⊢
        have hmcd : MC d d3 y y.1 y.2.2.2.1 := ⟨⟨fM_t hf1 hmc7.1.1, mK_t hk1 hmc7.1.2⟩, hM, hmc7.2.2⟩
        have KE : ∀ (n : Nat) (q : St) (w : Nat) (d1 : Dt), MC d d1 y q w → oRead y = (0, nI n, noT (push2 y q w)) → AW mX8_read 9 true (PIx (fun x d' => RO d d' x (oRead y)) nX) 0 0 127 [(0, .ref 160), (3, .int (nI n))] [] (HP d1) := by
          intro n q w d1 hmc hO
          refine aw_aload_n dX8_read_127 rfl ?_
          refine aw_iconst (v := 0) dX8_read_128 (by decide) ?_
          refine aw_putI (ci := 8) (j := 17) .int dX8_read_129 fX8_239 rfl (by decide) rfl tyX8 tyX8_ok nmX8 rfl rfl rfl (hp_160 _) (Nat.le_of_ble_eq_true rfl) rfl ?_
          refine aw_aload_n dX8_read_132 rfl ?_
          refine aw_aload_n dX8_read_133 rfl ?_
          refine aw_iload_n dX8_read_134 rfl ?_
          refine aw_cVI dX8_read_135 oX8_done vX8_done rfl lX8_91 kX8_done rfl (hp_160 _) rfl rfl rfl (Nat.le_of_ble_eq_true rfl) (by decide) (Nat.le_of_ble_eq_true rfl) ?_
          rintro _ d8 ⟨rfl, rfl⟩
          refine aw_cVI dX8_read_138 oX8_changed vX8_changed rfl lX8_94 (kX8_changed (MC_7 (MC_noT hmc) 0) 0 (by decide) (by rw [dI_s]; rfl)) rfl (hp_160 _) rfl rfl rfl (Nat.le_of_ble_eq_true rfl) (by decide) (Nat.le_of_ble_eq_true rfl) ?_
          rintro _ d5 ⟨rfl, hC⟩
          exact aw_endI dX8_read_141 rfl (by rw [hO]; exact RO_chT hC rfl)
        have K2 : ∀ (f p n : Nat) (q : St) (w : Nat) (d1 : Dt), MC d d1 y q w → RP d1 T p → T.length ≤ p + f → (prs T f p).1 = true → T.length ≤ (prs T f p).2 → exe T f p q w n = exe T 80 0 y.1 y.2.2.2.1 0 → AW mX8_read 9 true (PIx (fun x d' => RO d d' x (oRead y)) nX) 0 0 77 [(0, .ref 160), (3, .int (nI n)), (4, .int 1)] [] (HP d1) := by
          intro f
          induction f with
          | zero =>
            intro p n q w d1 hmc hrp hf hg hl hx
            have := rdC_end (T := T) (p := p) (by omega) hrp.2.2
            rw [prs_g hg] at this
            cases this
          | succ f ih =>
            intro p n q w d1 hmc hrp hf hg hl hx
            have hgo := prs_g hg
            refine aw_iload dX8_read_77 rfl ?_
            refine aw_if_eq 127 dX8_read_79 (by decide) (fun c79 => (by first | exact absurd c79 (by decide) | exact absurd rfl c79)) (fun _ => ?_)
            refine aw_aload_n dX8_read_82 rfl ?_
            refine aw_cVI dX8_read_83 oX8_readsCommand vX8_readsCommand rfl lX8_264 (kX8_readsCommand hrp) rfl (hp_160 _) rfl rfl rfl (Nat.le_of_ble_eq_true rfl) (by decide) (Nat.le_of_ble_eq_true rfl) ?_
            rintro _ d2 ⟨hm2, hrp2, rfl, hcm⟩
            obtain ⟨hc2, hv2⟩ := hcm hgo
            have hmc2 := MC_mR hmc hm2
            have hc6 := ((rdC_le hrp.2.2).2.2.2 hgo).2
            refine aw_istore_n dX8_read_86 (by decide) rfl ?_
            refine aw_aload_n dX8_read_87 rfl ?_
            refine aw_cVI dX8_read_88 oX8_does vX8_does rfl lX8_271 (kX8_does hmc2.2.2.2.1.1 hmc2.2.2.2.1.2 hmc2.2.2.2.2.1 hmc2.2.2.2.2.2 hc6 hc2 hv2) rfl (hp_160 _) rfl rfl rfl (Nat.le_of_ble_eq_true rfl) (by decide) (Nat.le_of_ble_eq_true rfl) ?_
            rintro x3 d3 hI
            have hmc3 := IO_MC hmc2 hI
            have hrp3 := RP_mI hrp2 hI.1
            refine aw_istore dX8_read_91 (by decide) rfl ?_
            refine aw_aload_n dX8_read_93 rfl ?_
            refine aw_gf dX8_read_94 (hp_160 _) rfl fX8_70 (by decide) rfl ?_
            refine aw_if_eq 115 dX8_read_97 (by decide) (fun c97 => ?_) (fun c97 => ?_)
            · refine aw_inc (c := 1) dX8_read_115 (by decide) rfl (by decide) rfl ?_
              refine aw_aload_n dX8_read_118 rfl ?_
              refine aw_cVI dX8_read_119 oX8_eatsEnd vX8_eatsEnd rfl lX8_268 (kX8_eatsEnd hrp3) rfl (hp_160 _) rfl rfl rfl (Nat.le_of_ble_eq_true rfl) (by decide) (Nat.le_of_ble_eq_true rfl) ?_
              rintro _ d5 ⟨hm5, hrp5, rfl, -, -⟩
              have hth : (doQ q w (rdC T p).2.2.1 (rdC T p).2.2.2).1 = 0 := nI_inj (by have := hI.2.1.2; omega) (by omega) (hI.2.1.1.symm.trans c97 : nI _ = nI 0)
              have hmc5 := MC_mR hmc3 hm5
              have hgt := (rdC_le hrp.2.2).2.2.2 hgo
              refine aw_istore dX8_read_122 (by decide) rfl ?_
              refine aw_goto (tgt := 77) dX8_read_124 (by decide) ?_
              by_cases h59 : chA T (rdC T p).2.1 = 59
              · rw [b2i_t h59]
                rw [if_pos h59] at hrp5
                rw [prs_i ⟨hgo, h59⟩] at hg hl
                rw [nI_1]
                exact aw_pick [0, 2, 3] (ih _ (n + 1) _ _ d5 hmc5 hrp5 (by omega) hg hl (by rw [← hx]; exact (exe_s hth h59).symm))
              · rw [b2i_f h59]
                have hO : oRead y = (0, nI (n + 1), noT (push2 y (doQ q w (rdC T p).2.2.1 (rdC T p).2.2.2).2.2.1 (doQ q w (rdC T p).2.2.1 (rdC T p).2.2.2).2.2.2)) := by
                  rw [exe_e hth h59] at hx
                  unfold oRead
                  rw [hTe, if_pos hgood, ← hx, if_pos rfl]
                rw [nI_1]
                refine aw_pick [0, 2, 3] ?_
                refine aw_iload dX8_read_77 rfl ?_
                refine aw_if_eq 127 dX8_read_79 (by decide) (fun _ => ?_) (fun z => absurd rfl z)
                exact aw_pick [0, 1] (KE (n + 1) _ _ d5 hmc5 hO)
            · refine aw_aload_n dX8_read_100 rfl ?_
              refine aw_cVv dX8_read_101 oX8_brings vX8_brings rfl lX8_217 (kX8_brings) rfl (hp_160 _) rfl rfl rfl (Nat.le_of_ble_eq_true rfl) (by decide) (Nat.le_of_ble_eq_true rfl) ?_
              rintro _ rfl
              refine aw_aload_n dX8_read_104 rfl ?_
              refine aw_iconst (v := 0) dX8_read_105 (by decide) ?_
              refine aw_putI (ci := 8) (j := 17) .int dX8_read_106 fX8_239 rfl (by decide) rfl tyX8 tyX8_ok nmX8 rfl rfl rfl (hp_160 _) (Nat.le_of_ble_eq_true rfl) rfl ?_
              refine aw_aload_n dX8_read_109 rfl ?_
              refine aw_iconst (v := 1) dX8_read_110 (by decide) ?_
              refine aw_cVI dX8_read_111 oX8_fails vX8_fails rfl lX8_87 kX8_fails rfl (hp_160 _) rfl rfl rfl (Nat.le_of_ble_eq_true rfl) (by decide) (Nat.le_of_ble_eq_true rfl) ?_
              rintro _ d9 ⟨rfl, rfl⟩
              exact aw_endI dX8_read_114 rfl (by have hO : oRead y = (1, 0, noT (keep2 y y.1 (doQ q w (rdC T p).2.2.1 (rdC T p).2.2.2).2.2.2)) := (by rw [exe_f (fun z => c97 (by rw [hI.2.1.1, z]; rfl))] at hx; unfold oRead; rw [hTe, if_pos hgood, ← hx, if_neg Bool.false_ne_true]); rw [hO]; have hb := MC_7 (MC_noT (MC_b hmc3)) 1; exact ⟨fM_t (fM_dI (fM_r d) (by decide) _) hb.1.1, by rw [dI_s]; rfl, fun z => absurd z (by show ¬ 1 = 0; decide), MC_keep hb⟩)
        refine aw_iconst (v := 0) dX8_read_72 (by decide) ?_
        refine aw_istore_n dX8_read_73 (by decide) rfl ?_
        refine aw_iconst (v := 1) dX8_read_74 (by decide) ?_
        refine aw_istore dX8_read_75 (by decide) rfl ?_
        exact aw_pick [0, 3, 4] (K2 80 0 0 _ _ d3 hmcd hrp7 (by omega) hgood.1 hgood.2 rfl)
      · refine aw_aload_n dX8_read_49 rfl ?_
        refine aw_iconst (v := 0) dX8_read_50 (by decide) ?_
        refine aw_putI (ci := 8) (j := 17) .int dX8_read_51 fX8_239 rfl (by decide) rfl tyX8 tyX8_ok nmX8 rfl rfl rfl (hp_160 _) (Nat.le_of_ble_eq_true rfl) rfl ?_
        refine aw_aload_n dX8_read_54 rfl ?_
        refine aw_bipush (v := (-100)) dX8_read_55 (by decide) ?_
        refine aw_iload_n dX8_read_57 rfl ?_
        refine aw_isub dX8_read_58 ?_
        skip
        refine aw_cVI dX8_read_59 oX8_done vX8_done rfl lX8_91 kX8_done rfl (hp_160 _) rfl rfl rfl (Nat.le_of_ble_eq_true rfl) (by decide) (Nat.le_of_ble_eq_true rfl) ?_
        rintro _ d8 ⟨rfl, rfl⟩
        exact aw_endI dX8_read_62 rfl (by rw [show oRead y = (0, -100 - nI e, noT y) from by unfold oRead; rw [hTe, hP, if_neg (fun z => c46 (by rw [hat, hTP1.1]; exact (nI_leI (by omega) (by omega)).mpr z.2))]]; exact RO_T (y := y) hf1 (MR_noT hM1) rfl)
  have K1 : ∀ (f p : Nat) (d1 : Dt), mR d d1 → RP d1 T (rdC T p).2.1 → p ≤ T.length → T.length ≤ p + f → prs T f p = prs T 80 0 → AW mX8_read 9 true (PIx (fun x d' => RO d d' x (oRead y)) nX) 0 0 10 [(0, .ref 160), (1, .int (b2i (rdC T p).1))] [] (HP d1) := by
    intro f
    induction f with
    | zero =>
      intro p d1 hm hrp hp hf hP
      have hb := rdC_end (T := T) (p := p) (by omega) hp
      have h29 := KX _ _ d1 (MR_mR hM hm) (mR_fM hm) (mR_mK hm) hrp.2.1 hrp.2.2 hP.symm
      refine aw_iload_n dX8_read_10 rfl ?_
      refine aw_if_eq 29 dX8_read_11 (by decide) (fun c11 => ?_) (fun c11 => ?_)
      · exact h29
      · rw [hb] at c11
        exact absurd rfl c11
    | succ f ih =>
      intro p d1 hm hrp hp hf hP
      refine aw_iload_n dX8_read_10 rfl ?_
      refine aw_if_eq 29 dX8_read_11 (by decide) (fun c11 => ?_) (fun c11 => ?_)
      · exact aw_pick [0, 1] (KX _ _ d1 (MR_mR hM hm) (mR_fM hm) (mR_mK hm) hrp.2.1 hrp.2.2 (by rw [← hP]; exact prs_o (fun z => by rw [z.1] at c11; exact absurd c11 (by decide))))
      · refine aw_aload_n dX8_read_14 rfl ?_
        refine aw_cVI dX8_read_15 oX8_eatsEnd vX8_eatsEnd rfl lX8_268 (kX8_eatsEnd hrp) rfl (hp_160 _) rfl rfl rfl (Nat.le_of_ble_eq_true rfl) (by decide) (Nat.le_of_ble_eq_true rfl) ?_
        rintro _ d5 ⟨hm5, hrp5, rfl, -, -⟩
        refine aw_if_eq 29 dX8_read_18 (by decide) (fun c18 => ?_) (fun c18 => ?_)
        · exact aw_pick [0, 1] (KX _ _ d5 (MR_mR hM (mR_t hm hm5)) (mR_fM (mR_t hm hm5)) (mR_mK (mR_t hm hm5)) (by rw [if_neg (b2d_f c18)] at hrp5; exact hrp5.2.1) hrp.2.2 (by rw [← hP]; exact prs_o (fun z => b2d_f c18 z.2)))
        · have h59 := b2d_t c18
          have hgo := b2i_ne.mp c11
          have hgt := (rdC_le hp).2.2.2 hgo
          have hrp6 : RP d5 T ((rdC T p).2.1 + 1) := by rw [if_pos h59] at hrp5; exact hrp5
          refine aw_aload_n dX8_read_21 rfl ?_
          refine aw_cVI dX8_read_22 oX8_readsCommand vX8_readsCommand rfl lX8_264 (kX8_readsCommand hrp6) rfl (hp_160 _) rfl rfl rfl (Nat.le_of_ble_eq_true rfl) (by decide) (Nat.le_of_ble_eq_true rfl) ?_
          rintro _ d6 ⟨hm6, hrp7, rfl, -⟩
          refine aw_istore_n dX8_read_25 (by decide) rfl ?_
          refine aw_goto (tgt := 10) dX8_read_26 (by decide) ?_
          exact aw_pick [0, 1] (ih ((rdC T p).2.1 + 1) d6 (mR_t (mR_t hm hm5) hm6) hrp7 hrp6.2.2 (by omega) (by rw [← hP]; exact (prs_i ⟨hgo, h59⟩).symm))
  refine aw_aload_n dX8_read_0 rfl ?_
  refine aw_iconst (v := 0) dX8_read_1 (by decide) ?_
  refine aw_putI (ci := 8) (j := 18) .int dX8_read_2 fX8_242 rfl (by decide) rfl tyX8 tyX8_ok nmX8 rfl rfl rfl (hp_160 _) (Nat.le_of_ble_eq_true rfl) rfl ?_
  have hm0 : mR d (dI d 160 (upd (d.1 160) 18 0)) := mR_160 (mR_r d) (by decide) 0
  have hrp0 : RP (dI d 160 (upd (d.1 160) 18 0)) T 0 := ⟨by rw [dI_n _ _ (by decide), dI_s]; exact hTP, by rw [dI_s]; rfl, Nat.zero_le _⟩
  generalize dI d 160 (upd (d.1 160) 18 0) = d1 at hm0 hrp0 ⊢
  refine aw_aload_n dX8_read_5 rfl ?_
  refine aw_cVI dX8_read_6 oX8_readsCommand vX8_readsCommand rfl lX8_264 (kX8_readsCommand hrp0) rfl (hp_160 _) rfl rfl rfl (Nat.le_of_ble_eq_true rfl) (by decide) (Nat.le_of_ble_eq_true rfl) ?_
  rintro _ d2 ⟨hm2, hrp2, rfl, -⟩
  refine aw_istore_n dX8_read_9 (by decide) rfl ?_
  exact K1 80 0 d2 (mR_t hm0 hm2) hrp2 (Nat.zero_le _) (by omega) rfl
