set_option maxHeartbeats 4000000 in
set_option maxRecDepth 100000 in
theorem kX8_time {y : Sy} {d : Dt} (hM : MR d y) {s m : Int32} {z : Bool} : CI mX8_time 5 [.ref 160, .int s, .int m, .int (b2i z)] d (fun x d' => RO d d' x (oTime y s m z)) := by
  show AW mX8_time 5 true (PIx (fun x d' => RO d d' x (oTime y s m z)) nX) 0 0 0 [(0, .ref 160), (1, .int s), (2, .int m), (3, .int (b2i z))] [] (HP d)
  have ok := hM.1.2
  have hr := hM.1.1
  have h12 := ok.2.1
  have hp12 := pow12 h12
  refine aw_iload_n dX8_time_0 rfl ?_
  refine aw_cSP dX8_time_1 oX8_isStation sX8_isStation rfl lX8_109 kX8_isStation rfl rfl (Nat.le_of_ble_eq_true rfl) (by decide) (Nat.le_of_ble_eq_true rfl) ?_
  refine aw_if_eq 23 dX8_time_4 (by decide) (fun c4 => ?_) (fun c4 => ?_)
  · refine aw_aload_n dX8_time_23 rfl ?_
    refine aw_iconst (v := 1) dX8_time_24 (by decide) ?_
    refine aw_cVI dX8_time_25 oX8_fails vX8_fails rfl lX8_87 kX8_fails rfl (hp_160 _) rfl rfl rfl (Nat.le_of_ble_eq_true rfl) (by decide) (Nat.le_of_ble_eq_true rfl) ?_
    rintro _ d9 ⟨rfl, rfl⟩
    exact aw_endI dX8_time_28 rfl (by unfold oTime; rw [if_neg (fun z => b2d_f c4 z.1)]; exact RO_f hM (mS_r d) rfl (by decide))
  · refine aw_iload_n dX8_time_7 rfl ?_
    refine aw_iconst (v := 0) dX8_time_8 (by decide) ?_
    refine aw_aload_n dX8_time_9 rfl ?_
    refine aw_gf dX8_time_10 (hp_160 _) rfl fX8_7 (by decide) rfl ?_
    refine aw_iconst (v := 0) dX8_time_13 (by decide) ?_
    refine aw_ialdN dX8_time_14 (hp_161 _) rfl (0) (by first | rfl | (simp only [li_0, li_1, li_2, li_3, li_4, li_5, li_7, li_8, li_9, li_11, li_12, li_16, li_17, li_31, li_32, li_60, li_77, li_80, li_89, li_99, li_101, li_112, li_113, li_256, li_999, li_1023, nI_add, pk_mul])) (by omega) (by decide) ?_
    rw [hr.1.1]
    refine aw_iconst (v := 1) dX8_time_15 (by decide) ?_
    refine aw_isub dX8_time_16 ?_
    refine aw_cSP dX8_time_17 oX8_in sX8_in rfl lX8_74 kX8_in rfl rfl (Nat.le_of_ble_eq_true rfl) (by decide) (Nat.le_of_ble_eq_true rfl) ?_
    refine aw_if_ne 29 dX8_time_20 (by decide) (fun c20 => ?_) (fun c20 => ?_)
    · have hg1 := b2d_t c4
      have hg2 := b2d_t c20
      obtain ⟨k, rfl, hk1, hk2⟩ := in_nI (a := 0) (b := 7) rfl rfl (by decide) (by decide) (b2d_t c4)
      have h00 := ok.1.2
      obtain ⟨n, rfl, hn⟩ := lt_nI_of (by omega) (b2d_t c20)
      refine aw_aload_n dX8_time_29 rfl ?_
      refine aw_aload_n dX8_time_30 rfl ?_
      refine aw_iload_n dX8_time_31 rfl ?_
      refine aw_cVP dX8_time_32 oX8_inStation vX8_inStation rfl lX8_178 (kX8_inStation hr ok (s := k) (by omega)) rfl (hp_160 _) rfl rfl rfl (Nat.le_of_ble_eq_true rfl) (by decide) (Nat.le_of_ble_eq_true rfl) ?_
      refine aw_cVv dX8_time_35 oX8_tellRow vX8_tellRow rfl lX8_168 (kX8_tellRow hr ok (stn_lt ok k)) rfl (hp_160 _) rfl rfl rfl (Nat.le_of_ble_eq_true rfl) (by decide) (Nat.le_of_ble_eq_true rfl) ?_
      rintro d1 ⟨hm1, hL⟩
      have hr1 : RR (d1.1 161) y.1 := by rw [mS_g hm1]; exact hr
      refine aw_aload_n dX8_time_38 rfl ?_
      refine aw_iload_n dX8_time_39 rfl ?_
      refine aw_if_eq 51 dX8_time_40 (by decide) (fun c40 => ?_) (fun c40 => ?_)
      · refine aw_aload_n dX8_time_51 rfl ?_
        refine aw_iload_n dX8_time_52 rfl ?_
        refine aw_cVI dX8_time_53 oX8_timeOf vX8_timeOf rfl lX8_172 (kX8_timeOf hr1 ok hL (ordL_lt ok k) (ordL_len _ _) (m := n) (by omega)) rfl (hp_160 _) rfl rfl rfl (Nat.le_of_ble_eq_true rfl) (by decide) (Nat.le_of_ble_eq_true rfl) ?_
        rintro _ d2 ⟨⟨hm2, -⟩, rfl⟩
        refine aw_cVI dX8_time_56 oX8_done vX8_done rfl lX8_91 kX8_done rfl (hp_160 _) rfl rfl rfl (Nat.le_of_ble_eq_true rfl) (by decide) (Nat.le_of_ble_eq_true rfl) ?_
        rintro _ d8 ⟨rfl, rfl⟩
        exact aw_endI dX8_time_59 rfl (by unfold oTime; rw [if_pos ⟨hg1, hg2⟩, ivn (by omega), ivn (by omega), if_neg (by rw [b2i_eq.mp c40]; exact Bool.false_ne_true)]; exact RO_q hM (mS_t hm1 hm2) rfl)
      · refine aw_aload_n dX8_time_43 rfl ?_
        refine aw_iload_n dX8_time_44 rfl ?_
        refine aw_cVI dX8_time_45 oX8_changes vX8_changes rfl lX8_165 (kX8_changes hr1 ok hL (ordL_lt ok k) (ordL_len _ _) (m := n) (by omega)) rfl (hp_160 _) rfl rfl rfl (Nat.le_of_ble_eq_true rfl) (by decide) (Nat.le_of_ble_eq_true rfl) ?_
        rintro _ d2 ⟨⟨hm2, -⟩, rfl⟩
        refine aw_goto (tgt := 56) dX8_time_48 (by decide) ?_
        refine aw_cVI dX8_time_56 oX8_done vX8_done rfl lX8_91 kX8_done rfl (hp_160 _) rfl rfl rfl (Nat.le_of_ble_eq_true rfl) (by decide) (Nat.le_of_ble_eq_true rfl) ?_
        rintro _ d8 ⟨rfl, rfl⟩
        exact aw_endI dX8_time_59 rfl (by unfold oTime; rw [if_pos ⟨hg1, hg2⟩, ivn (by omega), ivn (by omega), if_pos (b2i_ne.mp c40)]; exact RO_q hM (mS_t hm1 hm2) rfl)
    · refine aw_aload_n dX8_time_23 rfl ?_
      refine aw_iconst (v := 1) dX8_time_24 (by decide) ?_
      refine aw_cVI dX8_time_25 oX8_fails vX8_fails rfl lX8_87 kX8_fails rfl (hp_160 _) rfl rfl rfl (Nat.le_of_ble_eq_true rfl) (by decide) (Nat.le_of_ble_eq_true rfl) ?_
      rintro _ d9 ⟨rfl, rfl⟩
      exact aw_endI dX8_time_28 rfl (by unfold oTime; rw [if_neg (fun z => b2d_f c20 z.2)]; exact RO_f hM (mS_r d) rfl (by decide))

set_option maxHeartbeats 4000000 in
set_option maxRecDepth 100000 in
theorem kX8_sequence {y : Sy} {d : Dt} (hM : MR d y) {s c : Int32} : CI mX8_sequence 5 [.ref 160, .int s, .int c] d (fun x d' => RO d d' x (oSequence y s c)) := by
  show AW mX8_sequence 5 true (PIx (fun x d' => RO d d' x (oSequence y s c)) nX) 0 0 0 [(0, .ref 160), (1, .int s), (2, .int c)] [] (HP d)
  have ok := hM.1.2
  have hr := hM.1.1
  have h12 := ok.2.1
  have hp12 := pow12 h12
  refine aw_iload_n dX8_sequence_0 rfl ?_
  refine aw_cSP dX8_sequence_1 oX8_isStation sX8_isStation rfl lX8_109 kX8_isStation rfl rfl (Nat.le_of_ble_eq_true rfl) (by decide) (Nat.le_of_ble_eq_true rfl) ?_
  refine aw_if_ne 13 dX8_sequence_4 (by decide) (fun c4 => ?_) (fun c4 => ?_)
  · have hg1 := b2d_t c4
    obtain ⟨k, rfl, hk1, hk2⟩ := in_nI (a := 0) (b := 7) rfl rfl (by decide) (by decide) (b2d_t c4)
    refine aw_aload_n dX8_sequence_13 rfl ?_
    refine aw_aload_n dX8_sequence_14 rfl ?_
    refine aw_iload_n dX8_sequence_15 rfl ?_
    refine aw_cVP dX8_sequence_16 oX8_inStation vX8_inStation rfl lX8_178 (kX8_inStation hr ok (s := k) (by omega)) rfl (hp_160 _) rfl rfl rfl (Nat.le_of_ble_eq_true rfl) (by decide) (Nat.le_of_ble_eq_true rfl) ?_
    refine aw_cVv dX8_sequence_19 oX8_tellRow vX8_tellRow rfl lX8_168 (kX8_tellRow hr ok (stn_lt ok k)) rfl (hp_160 _) rfl rfl rfl (Nat.le_of_ble_eq_true rfl) (by decide) (Nat.le_of_ble_eq_true rfl) ?_
    rintro d1 ⟨hm1, hL⟩
    have hl12 := ordL_len y.1 (stn y.1 k)
    refine aw_iload_n dX8_sequence_22 rfl ?_
    refine aw_iconst (v := 0) dX8_sequence_23 (by decide) ?_
    refine aw_aload_n dX8_sequence_24 rfl ?_
    refine aw_gf dX8_sequence_25 (hp_160 _) rfl fX8_162 (by decide) rfl ?_
    rw [hL.1]
    refine aw_iconst (v := 1) dX8_sequence_28 (by decide) ?_
    refine aw_isub dX8_sequence_29 ?_
    refine aw_cSP dX8_sequence_30 oX8_in sX8_in rfl lX8_74 kX8_in rfl rfl (Nat.le_of_ble_eq_true rfl) (by decide) (Nat.le_of_ble_eq_true rfl) ?_
    refine aw_if_eq 49 dX8_sequence_33 (by decide) (fun c33 => ?_) (fun c33 => ?_)
    · refine aw_aload_n dX8_sequence_49 rfl ?_
      refine aw_iconst (v := 2) dX8_sequence_50 (by decide) ?_
      refine aw_cVI dX8_sequence_51 oX8_fails vX8_fails rfl lX8_87 kX8_fails rfl (hp_160 _) rfl rfl rfl (Nat.le_of_ble_eq_true rfl) (by decide) (Nat.le_of_ble_eq_true rfl) ?_
      rintro _ d9 ⟨rfl, rfl⟩
      exact aw_endI dX8_sequence_54 rfl (by unfold oSequence; rw [if_pos hg1, ivn (by omega), if_neg (b2d_f c33)]; exact RO_f hM hm1 rfl (by decide))
    · have hg2 := b2d_t c33
      obtain ⟨n, rfl, hn⟩ := lt_nI_of (by omega) (b2d_t c33)
      refine aw_aload_n dX8_sequence_36 rfl ?_
      refine aw_aload_n dX8_sequence_37 rfl ?_
      refine aw_gf dX8_sequence_38 (hp_160 _) rfl fX8_22 (by decide) rfl ?_
      refine aw_iload_n dX8_sequence_41 rfl ?_
      refine aw_ialdN dX8_sequence_42 (hp_165 _) rfl (n) (by first | rfl | (simp only [li_0, li_1, li_2, li_3, li_4, li_5, li_7, li_8, li_9, li_11, li_12, li_16, li_17, li_31, li_32, li_60, li_77, li_80, li_89, li_99, li_101, li_112, li_113, li_256, li_999, li_1023, nI_add, pk_mul])) (by omega) (by decide) ?_
      refine aw_cVI dX8_sequence_43 oX8_done vX8_done rfl lX8_91 kX8_done rfl (hp_160 _) rfl rfl rfl (Nat.le_of_ble_eq_true rfl) (by decide) (Nat.le_of_ble_eq_true rfl) ?_
      rintro _ d8 ⟨rfl, rfl⟩
      refine aw_goto (tgt := 54) dX8_sequence_46 (by decide) ?_
      exact aw_endI dX8_sequence_54 rfl (by unfold oSequence; rw [if_pos hg1, ivn (by omega), if_pos hg2, ivn (by omega)]; exact RO_q hM hm1 (hL.2 n hn))
  · refine aw_aload_n dX8_sequence_7 rfl ?_
    refine aw_iconst (v := 1) dX8_sequence_8 (by decide) ?_
    refine aw_cVI dX8_sequence_9 oX8_fails vX8_fails rfl lX8_87 kX8_fails rfl (hp_160 _) rfl rfl rfl (Nat.le_of_ble_eq_true rfl) (by decide) (Nat.le_of_ble_eq_true rfl) ?_
    rintro _ d9 ⟨rfl, rfl⟩
    exact aw_endI dX8_sequence_12 rfl (by unfold oSequence; rw [if_neg (b2d_f c4)]; exact RO_f hM (mS_r d) rfl (by decide))

set_option maxHeartbeats 4000000 in
set_option maxRecDepth 100000 in
theorem kX8_line {y : Sy} {d : Dt} (hM : MR d y) {w : Int32} : CI mX8_line 8 [.ref 160, .int w] d (fun x d' => RO d d' x (oLine y w)) := by
  show AW mX8_line 8 true (PIx (fun x d' => RO d d' x (oLine y w)) nX) 0 0 0 [(0, .ref 160), (1, .int w)] [] (HP d)
  have ok := hM.1.2
  have hr := hM.1.1
  have h12 := ok.2.1
  have hp12 := pow12 h12
  by_cases hg : gI 0 7 w
  · have hg0 := hg
    refine aw_iload_n dX8_line_0 rfl ?_
    obtain ⟨i, rfl, hi1, hi2⟩ := in_nI (a := 0) (b := 7) rfl rfl (by decide) (by decide) (hg0)
    rcases (show i = 0 ∨ i = 1 ∨ i = 2 ∨ i = 3 ∨ i = 4 ∨ i = 5 ∨ i = 6 ∨ i = 7 by omega) with rfl | rfl | rfl | rfl | rfl | rfl | rfl | rfl
    · refine aw_tabIn (off := 47) (tgt := 48) dX8_line_1 (by decide) (by decide) (by decide) (by decide) ?_
      refine aw_aload_n dX8_line_48 rfl ?_
      refine aw_aload_n dX8_line_49 rfl ?_
      refine aw_iload_n dX8_line_50 rfl ?_
      refine aw_cVI dX8_line_51 oX8_overAll vX8_overAll rfl lX8_202 (kX8_overAll_0 hr ok) rfl (hp_160 _) rfl rfl rfl (Nat.le_of_ble_eq_true rfl) (by decide) (Nat.le_of_ble_eq_true rfl) ?_
      rintro _ d1 ⟨hm1, rfl⟩
      refine aw_cVI dX8_line_54 oX8_done vX8_done rfl lX8_91 kX8_done rfl (hp_160 _) rfl rfl rfl (Nat.le_of_ble_eq_true rfl) (by decide) (Nat.le_of_ble_eq_true rfl) ?_
      rintro _ d8 ⟨rfl, rfl⟩
      exact aw_endI dX8_line_57 rfl (by unfold oLine; rw [if_pos hg, ivn (by omega)]; exact RO_q hM hm1 rfl)
    · refine aw_tabIn (off := 47) (tgt := 48) dX8_line_1 (by decide) (by decide) (by decide) (by decide) ?_
      refine aw_aload_n dX8_line_48 rfl ?_
      refine aw_aload_n dX8_line_49 rfl ?_
      refine aw_iload_n dX8_line_50 rfl ?_
      refine aw_cVI dX8_line_51 oX8_overAll vX8_overAll rfl lX8_202 (kX8_overAll_1 hr ok) rfl (hp_160 _) rfl rfl rfl (Nat.le_of_ble_eq_true rfl) (by decide) (Nat.le_of_ble_eq_true rfl) ?_
      rintro _ d1 ⟨hm1, rfl⟩
      refine aw_cVI dX8_line_54 oX8_done vX8_done rfl lX8_91 kX8_done rfl (hp_160 _) rfl rfl rfl (Nat.le_of_ble_eq_true rfl) (by decide) (Nat.le_of_ble_eq_true rfl) ?_
      rintro _ d8 ⟨rfl, rfl⟩
      exact aw_endI dX8_line_57 rfl (by unfold oLine; rw [if_pos hg, ivn (by omega)]; exact RO_q hM hm1 rfl)
    · refine aw_tabIn (off := 47) (tgt := 48) dX8_line_1 (by decide) (by decide) (by decide) (by decide) ?_
      refine aw_aload_n dX8_line_48 rfl ?_
      refine aw_aload_n dX8_line_49 rfl ?_
      refine aw_iload_n dX8_line_50 rfl ?_
      refine aw_cVI dX8_line_51 oX8_overAll vX8_overAll rfl lX8_202 (kX8_overAll_2 hr ok) rfl (hp_160 _) rfl rfl rfl (Nat.le_of_ble_eq_true rfl) (by decide) (Nat.le_of_ble_eq_true rfl) ?_
      rintro _ d1 ⟨hm1, rfl⟩
      refine aw_cVI dX8_line_54 oX8_done vX8_done rfl lX8_91 kX8_done rfl (hp_160 _) rfl rfl rfl (Nat.le_of_ble_eq_true rfl) (by decide) (Nat.le_of_ble_eq_true rfl) ?_
      rintro _ d8 ⟨rfl, rfl⟩
      exact aw_endI dX8_line_57 rfl (by unfold oLine; rw [if_pos hg, ivn (by omega)]; exact RO_q hM hm1 rfl)
    · refine aw_tabIn (off := 57) (tgt := 58) dX8_line_1 (by decide) (by decide) (by decide) (by decide) ?_
      refine aw_aload_n dX8_line_58 rfl ?_
      refine aw_aload_n dX8_line_59 rfl ?_
      refine aw_cVI dX8_line_60 oX8_busiest vX8_busiest rfl lX8_205 (kX8_busiest hr ok) rfl (hp_160 _) rfl rfl rfl (Nat.le_of_ble_eq_true rfl) (by decide) (Nat.le_of_ble_eq_true rfl) ?_
      rintro _ d1 ⟨hm1, rfl⟩
      refine aw_cVI dX8_line_63 oX8_done vX8_done rfl lX8_91 kX8_done rfl (hp_160 _) rfl rfl rfl (Nat.le_of_ble_eq_true rfl) (by decide) (Nat.le_of_ble_eq_true rfl) ?_
      rintro _ d8 ⟨rfl, rfl⟩
      exact aw_endI dX8_line_66 rfl (by unfold oLine; rw [if_pos hg, ivn (by omega)]; exact RO_q hM hm1 rfl)
    · refine aw_tabIn (off := 47) (tgt := 48) dX8_line_1 (by decide) (by decide) (by decide) (by decide) ?_
      refine aw_aload_n dX8_line_48 rfl ?_
      refine aw_aload_n dX8_line_49 rfl ?_
      refine aw_iload_n dX8_line_50 rfl ?_
      refine aw_cVI dX8_line_51 oX8_overAll vX8_overAll rfl lX8_202 (kX8_overAll_4 hr ok) rfl (hp_160 _) rfl rfl rfl (Nat.le_of_ble_eq_true rfl) (by decide) (Nat.le_of_ble_eq_true rfl) ?_
      rintro _ d1 ⟨hm1, rfl⟩
      refine aw_cVI dX8_line_54 oX8_done vX8_done rfl lX8_91 kX8_done rfl (hp_160 _) rfl rfl rfl (Nat.le_of_ble_eq_true rfl) (by decide) (Nat.le_of_ble_eq_true rfl) ?_
      rintro _ d8 ⟨rfl, rfl⟩
      exact aw_endI dX8_line_57 rfl (by unfold oLine; rw [if_pos hg, ivn (by omega)]; exact RO_q hM hm1 rfl)
    · refine aw_tabIn (off := 66) (tgt := 67) dX8_line_1 (by decide) (by decide) (by decide) (by decide) ?_
      refine aw_aload_n dX8_line_67 rfl ?_
      refine aw_aload_n dX8_line_68 rfl ?_
      refine aw_cVI dX8_line_69 oX8_refused vX8_refused rfl lX8_208 (kX8_refused hr ok) rfl (hp_160 _) rfl rfl rfl (Nat.le_of_ble_eq_true rfl) (by decide) (Nat.le_of_ble_eq_true rfl) ?_
      rintro _ d1 ⟨hm1, rfl⟩
      refine aw_cVI dX8_line_72 oX8_done vX8_done rfl lX8_91 kX8_done rfl (hp_160 _) rfl rfl rfl (Nat.le_of_ble_eq_true rfl) (by decide) (Nat.le_of_ble_eq_true rfl) ?_
      rintro _ d8 ⟨rfl, rfl⟩
      exact aw_endI dX8_line_75 rfl (by unfold oLine; rw [if_pos hg, ivn (by omega)]; exact RO_q hM hm1 rfl)
    · refine aw_tabIn (off := 47) (tgt := 48) dX8_line_1 (by decide) (by decide) (by decide) (by decide) ?_
      refine aw_aload_n dX8_line_48 rfl ?_
      refine aw_aload_n dX8_line_49 rfl ?_
      refine aw_iload_n dX8_line_50 rfl ?_
      refine aw_cVI dX8_line_51 oX8_overAll vX8_overAll rfl lX8_202 (kX8_overAll_6 hr ok) rfl (hp_160 _) rfl rfl rfl (Nat.le_of_ble_eq_true rfl) (by decide) (Nat.le_of_ble_eq_true rfl) ?_
      rintro _ d1 ⟨hm1, rfl⟩
      refine aw_cVI dX8_line_54 oX8_done vX8_done rfl lX8_91 kX8_done rfl (hp_160 _) rfl rfl rfl (Nat.le_of_ble_eq_true rfl) (by decide) (Nat.le_of_ble_eq_true rfl) ?_
      rintro _ d8 ⟨rfl, rfl⟩
      exact aw_endI dX8_line_57 rfl (by unfold oLine; rw [if_pos hg, ivn (by omega)]; exact RO_q hM hm1 rfl)
    · refine aw_tabIn (off := 75) (tgt := 76) dX8_line_1 (by decide) (by decide) (by decide) (by decide) ?_
      refine aw_aload_n dX8_line_76 rfl ?_
      refine aw_gf dX8_line_77 (hp_160 _) rfl fX8_7 (by decide) rfl ?_
      refine aw_iconst (v := 4) dX8_line_80 (by decide) ?_
      refine aw_ialdN dX8_line_81 (hp_161 _) rfl (4) (by first | rfl | (simp only [li_0, li_1, li_2, li_3, li_4, li_5, li_7, li_8, li_9, li_11, li_12, li_16, li_17, li_31, li_32, li_60, li_77, li_80, li_89, li_99, li_101, li_112, li_113, li_256, li_999, li_1023, nI_add, pk_mul])) (by omega) (by decide) ?_
      refine aw_aload_n dX8_line_82 rfl ?_
      refine aw_cVP dX8_line_83 oX8_totalDemand vX8_totalDemand rfl lX8_105 (kX8_totalDemand hr ok) rfl (hp_160 _) rfl rfl rfl (Nat.le_of_ble_eq_true rfl) (by decide) (Nat.le_of_ble_eq_true rfl) ?_
      refine aw_imul dX8_line_86 ?_
      refine aw_istore_n dX8_line_87 (by decide) rfl ?_
      have htd := td_le ok
      have h20 := ok.2.2.2.1
      have hroom : 1 ≤ y.1 2 0 * td y.1 ∧ y.1 2 0 * td y.1 ≤ 999 * 27 := ⟨Nat.mul_pos (by omega) (by omega), Nat.mul_le_mul (by omega) htd.2⟩
      have hsum : sN (y.1 0 1) (wt y.1) ≤ 12 * 2673 := Nat.le_trans (sN_le (b := 2673) (fun t ht => wt_le ok (by omega))) (Nat.mul_le_mul_right _ h12)
      rw [show d.1 161 4 = nI (y.1 2 0) from hr.2.2.1 0 (by decide), pk_mul]
      refine aw_aload_n dX8_line_88 rfl ?_
      refine aw_aload_n dX8_line_89 rfl ?_
      refine aw_cVP dX8_line_90 oX8_sumOfAll vX8_sumOfAll rfl lX8_211 (kX8_sumOfAll hr ok) rfl (hp_160 _) rfl rfl rfl (Nat.le_of_ble_eq_true rfl) (by decide) (Nat.le_of_ble_eq_true rfl) ?_
      refine aw_iload_n dX8_line_93 rfl ?_
      refine aw_iadd dX8_line_94 ?_
      refine aw_iconst (v := 1) dX8_line_95 (by decide) ?_
      refine aw_isub dX8_line_96 ?_
      refine aw_iload_n dX8_line_97 rfl ?_
      rw [nI_add, tv_s (by omega)]
      refine aw_idiv dX8_line_98 (nI_ne0 (by omega) (by omega)) ?_
      rw [pk_div (by omega) (by omega) (by omega)]
      refine aw_cVI dX8_line_99 oX8_done vX8_done rfl lX8_91 kX8_done rfl (hp_160 _) rfl rfl rfl (Nat.le_of_ble_eq_true rfl) (by decide) (Nat.le_of_ble_eq_true rfl) ?_
      rintro _ d8 ⟨rfl, rfl⟩
      exact aw_endI dX8_line_102 rfl (by unfold oLine; rw [if_pos hg, ivn (by omega)]; exact RO_q hM (mS_r d) rfl)
  refine aw_iload_n dX8_line_0 rfl ?_
  refine aw_tabOut (tgt := 103) dX8_line_1 (tab7 hg) (by decide) ?_
  refine aw_aload_n dX8_line_103 rfl ?_
  refine aw_iconst (v := 1) dX8_line_104 (by decide) ?_
  refine aw_cVI dX8_line_105 oX8_fails vX8_fails rfl lX8_87 kX8_fails rfl (hp_160 _) rfl rfl rfl (Nat.le_of_ble_eq_true rfl) (by decide) (Nat.le_of_ble_eq_true rfl) ?_
  rintro _ d9 ⟨rfl, rfl⟩
  exact aw_endI dX8_line_108 rfl (by unfold oLine; rw [if_neg hg]; exact RO_f hM (mS_r d) rfl (by decide))

set_option maxHeartbeats 4000000 in
set_option maxRecDepth 100000 in
theorem kX8_unevenness {y : Sy} {d : Dt} (hM : MR d y) : CL mX8_unevenness 6 [.ref 160] d (fun x d' => RQ d d' y ∧ x = unL y.1 8) := by
  show AW mX8_unevenness 6 true (PLx (fun x d' => RQ d d' y ∧ x = unL y.1 8) nX) 0 0 0 [(0, .ref 160)] [] (HP d)
  have ok := hM.1.2
  have hr := hM.1.1
  have h12 := ok.2.1
  have hp12 := pow12 h12
  refine aw_lconst (v := 0) dX8_unevenness_0 (by decide) ?_
  refine aw_lstore_n dX8_unevenness_1 (by decide) rfl rfl ?_
  refine aw_iconst (v := 0) dX8_unevenness_2 (by decide) ?_
  refine aw_istore_n dX8_unevenness_3 (by decide) rfl ?_
  have L4 : ∀ j, j ≤ 8 → ∀ (d1 : Dt) (v1 : Int64) (v2 : Int32), mS d d1 → v1 = unL y.1 j → v2 = nI j → AW mX8_unevenness 6 true (PLx (fun x d' => RQ d d' y ∧ x = unL y.1 8) nX) 0 0 4 [(0, .ref 160), (1, .long v1), (3, .int v2)] [] (HP d1) := by
    refine up_ind (fun j hj ih => ?_)
    rintro d1 _ _ hm1 rfl rfl
    have hr1 : RR (d1.1 161) y.1 := by rw [mS_g hm1]; exact hr
    refine aw_iload_n dX8_unevenness_4 rfl ?_
    refine aw_bipush (v := 8) dX8_unevenness_5 (by decide) ?_
    refine aw_icmp_ge 44 dX8_unevenness_7 (by decide) (fun c7 => ?_) (fun c7 => ?_)
    · have hge : 8 ≤ j := (le_nI (show (8 : Int32) = nI 8 from rfl) rfl (by omega) (by omega)).mp c7
      have hj2 : j = 8 := by omega
      subst hj2
      refine aw_aload_n dX8_unevenness_44 rfl ?_
      refine aw_iconst (v := 0) dX8_unevenness_45 (by decide) ?_
      refine aw_putI (ci := 8) (j := 7) .int dX8_unevenness_46 fX8_70 rfl (by decide) rfl tyX8 tyX8_ok nmX8 rfl rfl rfl (hp_160 _) (Nat.le_of_ble_eq_true rfl) rfl ?_
      refine aw_lload_n dX8_unevenness_49 rfl ?_
      exact aw_endL dX8_unevenness_50 rfl (by exact ⟨RQ_i hM hm1, rfl⟩)
    · have hlt : j < 8 := Nat.lt_of_not_le (fun z => c7 ((le_nI (show (8 : Int32) = nI 8 from rfl) rfl (by omega) (by omega)).mpr z))
      refine aw_aload_n dX8_unevenness_10 rfl ?_
      refine aw_iload_n dX8_unevenness_11 rfl ?_
      refine aw_cVP dX8_unevenness_12 oX8_inStation vX8_inStation rfl lX8_178 (kX8_inStation hr1 ok hlt) rfl (hp_160 _) rfl rfl rfl (Nat.le_of_ble_eq_true rfl) (by decide) (Nat.le_of_ble_eq_true rfl) ?_
      refine aw_if_eq 27 dX8_unevenness_15 (by decide) (fun c15 => ?_) (fun c15 => ?_)
      · refine aw_lconst (v := 0) dX8_unevenness_27 (by decide) ?_
        refine aw_lstore dX8_unevenness_28 (by decide) rfl rfl ?_
        refine aw_lload_n dX8_unevenness_30 rfl ?_
        refine aw_lload dX8_unevenness_31 rfl ?_
        refine aw_lload dX8_unevenness_33 rfl ?_
        refine aw_lmul dX8_unevenness_35 ?_
        refine aw_ladd dX8_unevenness_36 ?_
        refine aw_lstore_n dX8_unevenness_37 (by decide) rfl rfl ?_
        refine aw_inc (c := 1) dX8_unevenness_38 (by decide) rfl (by decide) rfl ?_
        refine aw_goto (tgt := 4) dX8_unevenness_41 (by decide) ?_
        exact aw_pick [0, 1, 2] (ih hlt _ _ _ hm1 (by rw [show unL y.1 (j + 1) = unL y.1 j + (if stn y.1 j = 0 then 0 else (lackV y.1 j).toInt64) * (if stn y.1 j = 0 then 0 else (lackV y.1 j).toInt64) from rfl, if_pos (nI_inj (by have := stn_lt ok j; omega) (show 0 < 2 ^ 31 by omega) (c15 : nI (stn y.1 j) = nI 0))]) (nI_1 j))
      · refine aw_aload_n dX8_unevenness_18 rfl ?_
        refine aw_iload_n dX8_unevenness_19 rfl ?_
        refine aw_cVI dX8_unevenness_20 oX8_lacks vX8_lacks rfl lX8_199 (kX8_lacks hr1 ok hlt) rfl (hp_160 _) rfl rfl rfl (Nat.le_of_ble_eq_true rfl) (by decide) (Nat.le_of_ble_eq_true rfl) ?_
        rintro _ d2 ⟨hm2, rfl⟩
        refine aw_i2l dX8_unevenness_23 ?_
        refine aw_goto (tgt := 28) dX8_unevenness_24 (by decide) ?_
        refine aw_lstore dX8_unevenness_28 (by decide) rfl rfl ?_
        refine aw_lload_n dX8_unevenness_30 rfl ?_
        refine aw_lload dX8_unevenness_31 rfl ?_
        refine aw_lload dX8_unevenness_33 rfl ?_
        refine aw_lmul dX8_unevenness_35 ?_
        refine aw_ladd dX8_unevenness_36 ?_
        refine aw_lstore_n dX8_unevenness_37 (by decide) rfl rfl ?_
        refine aw_inc (c := 1) dX8_unevenness_38 (by decide) rfl (by decide) rfl ?_
        refine aw_goto (tgt := 4) dX8_unevenness_41 (by decide) ?_
        exact aw_pick [0, 1, 2] (ih hlt _ _ _ (mS_t hm1 hm2) (by rw [show unL y.1 (j + 1) = unL y.1 j + (if stn y.1 j = 0 then 0 else (lackV y.1 j).toInt64) * (if stn y.1 j = 0 then 0 else (lackV y.1 j).toInt64) from rfl, if_neg (fun z => c15 (by rw [z]; rfl))]) (nI_1 j))
  exact L4 0 (Nat.zero_le _) _ _ _ (mS_r d) rfl rfl

set_option maxHeartbeats 4000000 in
set_option maxRecDepth 100000 in
theorem kX8_clearLine {y : Sy} {d : Dt} (hM : MR d y) : CI mX8_clearLine 7 [.ref 160] d (fun x d' => RO d d' x (oClear y)) := by
  show AW mX8_clearLine 7 true (PIx (fun x d' => RO d d' x (oClear y)) nX) 0 0 0 [(0, .ref 160)] [] (HP d)
  have ok := hM.1.2
  have hr := hM.1.1
  have h12 := ok.2.1
  have hp12 := pow12 h12
  refine aw_aload_n dX8_clearLine_0 rfl ?_
  refine aw_cVv dX8_clearLine_1 oX8_remembers vX8_remembers rfl lX8_84 (kX8_rem hM) rfl (hp_160 _) rfl rfl rfl (Nat.le_of_ble_eq_true rfl) (by decide) (Nat.le_of_ble_eq_true rfl) ?_
  rintro d1 ⟨hm0, -⟩
  have hr0 := hm0.2.2.2.1.1
  refine aw_aload_n dX8_clearLine_4 rfl ?_
  refine aw_iconst (v := 2) dX8_clearLine_5 (by decide) ?_
  refine aw_cVI dX8_clearLine_6 oX8_overAll vX8_overAll rfl lX8_202 (kX8_overAll_2 hr0 ok) rfl (hp_160 _) rfl rfl rfl (Nat.le_of_ble_eq_true rfl) (by decide) (Nat.le_of_ble_eq_true rfl) ?_
  rintro _ d2 ⟨hm2, rfl⟩
  have hm2c := MC_m hm0 (mS_mI hm2) (by rw [mS_g hm2]; exact hr0) ok (by rw [hm2.2.2 6 (by decide)]; exact hm0.2.2.2.2.1) hm0.2.2.2.2.2
  refine aw_istore_n dX8_clearLine_9 (by decide) rfl ?_
  refine aw_iconst (v := 0) dX8_clearLine_10 (by decide) ?_
  refine aw_istore_n dX8_clearLine_11 (by decide) rfl ?_
  have L12 : ∀ j, j ≤ y.1 0 1 → ∀ (d3 : Dt) (v2 : Int32), MC d d3 y (clrJ y.1 j) y.2.2.2.1 → v2 = nI j → AW mX8_clearLine 7 true (PIx (fun x d' => RO d d' x (oClear y)) nX) 0 0 12 [(0, .ref 160), (1, .int (nI (ovQ y.1 2))), (2, .int v2)] [] (HP d3) := by
    refine up_ind (fun j hj ih => ?_)
    rintro d3 _ hmc rfl; have hr3 := hmc.2.2.2.1.1
    refine aw_iload_n dX8_clearLine_12 rfl ?_
    refine aw_aload_n dX8_clearLine_13 rfl ?_
    refine aw_gf dX8_clearLine_14 (hp_160 _) rfl fX8_7 (by decide) rfl ?_
    refine aw_bipush (v := 16) dX8_clearLine_17 (by decide) ?_
    refine aw_ialdN dX8_clearLine_19 (hp_161 _) rfl (16) (by first | rfl | (simp only [li_0, li_1, li_2, li_3, li_4, li_5, li_7, li_8, li_9, li_11, li_12, li_16, li_17, li_31, li_32, li_60, li_77, li_80, li_89, li_99, li_101, li_112, li_113, li_256, li_999, li_1023, nI_add, pk_mul])) (by omega) (by decide) ?_
    refine aw_icmp_ge 36 dX8_clearLine_20 (by decide) (fun c20 => ?_) (fun c20 => ?_)
    · have hge : y.1 0 1 ≤ j := (le_nI hr3.1.2 rfl (show y.1 0 1 < 2 ^ 31 by omega) (by omega)).mp c20
      have hj2 : j = y.1 0 1 := by omega
      subst hj2
      rw [clrJ_n ok] at hmc
      refine aw_aload_n dX8_clearLine_36 rfl ?_
      refine aw_aload_n dX8_clearLine_37 rfl ?_
      refine aw_iload_n dX8_clearLine_38 rfl ?_
      refine aw_cVI dX8_clearLine_39 oX8_done vX8_done rfl lX8_91 kX8_done rfl (hp_160 _) rfl rfl rfl (Nat.le_of_ble_eq_true rfl) (by decide) (Nat.le_of_ble_eq_true rfl) ?_
      rintro _ d8 ⟨rfl, rfl⟩
      refine aw_cVI dX8_clearLine_42 oX8_changed vX8_changed rfl lX8_94 (kX8_changed (MC_7 hmc 0) 0 (by decide) (by rw [dI_s]; rfl)) rfl (hp_160 _) rfl rfl rfl (Nat.le_of_ble_eq_true rfl) (by decide) (Nat.le_of_ble_eq_true rfl) ?_
      rintro _ d5 ⟨rfl, hC⟩
      exact aw_endI dX8_clearLine_45 rfl (by exact RO_ch hC rfl)
    · have hlt : j < y.1 0 1 := Nat.lt_of_not_le (fun z => c20 ((le_nI hr3.1.2 rfl (show y.1 0 1 < 2 ^ 31 by omega) (by omega)).mpr z))
      refine aw_aload_n dX8_clearLine_23 rfl ?_
      refine aw_iload_n dX8_clearLine_24 rfl ?_
      refine aw_iconst (v := 4) dX8_clearLine_25 (by decide) ?_
      refine aw_iconst (v := (-1)) dX8_clearLine_26 (by decide) ?_
      refine aw_cVv dX8_clearLine_27 oX8_sets vX8_sets rfl lX8_113 (kX8_sets (t := j) (w := 4) (by omega) (by omega)) rfl (hp_160 _) rfl rfl rfl (Nat.le_of_ble_eq_true rfl) (by decide) (Nat.le_of_ble_eq_true rfl) ?_
      rintro _ rfl
      refine aw_inc (c := 1) dX8_clearLine_30 (by decide) rfl (by decide) rfl ?_
      refine aw_goto (tgt := 12) dX8_clearLine_33 (by decide) ?_
      exact ih hlt _ _ (by rw [← clrJ_s]; exact MC_g hmc (j := 6) (k := j) (v := 0) (by decide) (show j < 12 by omega) rfl rfl (by rw [clrJ_s]; exact QOK_clrJ ok (j + 1) (by omega))) (nI_1 j)
  exact L12 0 (Nat.zero_le _) _ _ (by rw [clrJ_0]; exact hm2c) rfl

set_option maxHeartbeats 4000000 in
set_option maxRecDepth 100000 in
theorem kX8_fill {y : Sy} {d : Dt} (hM : MR d y) {p : Int32} : CI mX8_fill 8 [.ref 160, .int p] d (fun x d' => RO d d' x (oFill y p)) := by
  show AW mX8_fill 8 true (PIx (fun x d' => RO d d' x (oFill y p)) nX) 0 0 0 [(0, .ref 160), (1, .int p)] [] (HP d)
  have ok := hM.1.2
  have hr := hM.1.1
  have h12 := ok.2.1
  have hp12 := pow12 h12
  refine aw_iload_n dX8_fill_0 rfl ?_
  refine aw_iconst (v := 0) dX8_fill_1 (by decide) ?_
  refine aw_iconst (v := 3) dX8_fill_2 (by decide) ?_
  refine aw_cSP dX8_fill_3 oX8_in sX8_in rfl lX8_74 kX8_in rfl rfl (Nat.le_of_ble_eq_true rfl) (by decide) (Nat.le_of_ble_eq_true rfl) ?_
  refine aw_if_ne 15 dX8_fill_6 (by decide) (fun c6 => ?_) (fun c6 => ?_)
  · have hg := b2d_t c6
    obtain ⟨i, rfl, hi1, hi2⟩ := in_nI (a := 0) (b := 3) rfl rfl (by decide) (by decide) (b2d_t c6)
    have XE : ∀ (q1 : St) (d1 : Dt), MC d d1 y q1 y.2.2.2.1 → ntQ q1 i (q1 0 1) = 0 → filF i 12 (clrP y.1) = (0, q1) → AW mX8_fill 8 true (PIx (fun x d' => RO d d' x (oFill y (nI i))) nX) 0 0 51 [(0, .ref 160), (1, .int (nI i)), (2, .int (pv (ntQ q1 i (q1 0 1))))] [] (HP d1) := by
      intro q1 d1 hmc hn0 hF
      rw [hn0]
      refine aw_iload_n dX8_fill_51 rfl ?_
      refine aw_if_lt 103 dX8_fill_52 (by decide) (fun c52 => ?_) (fun c52 => (c52 (by decide)).elim)
      refine aw_aload_n dX8_fill_103 rfl ?_
      refine aw_aload_n dX8_fill_104 rfl ?_
      refine aw_aload_n dX8_fill_105 rfl ?_
      refine aw_iconst (v := 0) dX8_fill_106 (by decide) ?_
      refine aw_cVI dX8_fill_107 oX8_overAll vX8_overAll rfl lX8_202 (kX8_overAll_0 hmc.2.2.2.1.1 hmc.2.2.2.1.2) rfl (hp_160 _) rfl rfl rfl (Nat.le_of_ble_eq_true rfl) (by decide) (Nat.le_of_ble_eq_true rfl) ?_
      rintro _ d2 ⟨hm2, rfl⟩
      have hm2c := MC_m hmc (mS_mI hm2) (by rw [mS_g hm2]; exact hmc.2.2.2.1.1) hmc.2.2.2.1.2 (by rw [hm2.2.2 6 (by decide)]; exact hmc.2.2.2.2.1) hmc.2.2.2.2.2
      refine aw_cVI dX8_fill_110 oX8_done vX8_done rfl lX8_91 kX8_done rfl (hp_160 _) rfl rfl rfl (Nat.le_of_ble_eq_true rfl) (by decide) (Nat.le_of_ble_eq_true rfl) ?_
      rintro _ d8 ⟨rfl, rfl⟩
      refine aw_cVI dX8_fill_113 oX8_changed vX8_changed rfl lX8_94 (kX8_changed (MC_7 hm2c 0) 0 (by decide) (by rw [dI_s]; rfl)) rfl (hp_160 _) rfl rfl rfl (Nat.le_of_ble_eq_true rfl) (by decide) (Nat.le_of_ble_eq_true rfl) ?_
      rintro _ d5 ⟨rfl, hC⟩
      exact aw_endI dX8_fill_116 rfl (by unfold oFill; rw [if_pos hg, ivn (by omega), hF, if_pos rfl]; exact RO_ch hC rfl)
    have K : ∀ (f : Nat) (q1 : St) (d1 : Dt), pcx (freQ q1) ≤ f → MC d d1 y q1 y.2.2.2.1 → filF i f q1 = filF i 12 (clrP y.1) → AW mX8_fill 8 true (PIx (fun x d' => RO d d' x (oFill y (nI i))) nX) 0 0 51 [(0, .ref 160), (1, .int (nI i)), (2, .int (pv (ntQ q1 i (q1 0 1))))] [] (HP d1) := by
      intro f
      induction f with
      | zero =>
        intro q1 d1 hf hmc hF
        have hlt := freQ_lt q1
        have hp1 := pow12 hmc.2.2.2.1.2.2.1
        exact XE q1 d1 hmc (ntQ_0 i (pcx_0 (by omega) (by omega)) _) hF.symm
      | succ f ih =>
        intro q1 d1 hf hmc hF
        by_cases hn0 : ntQ q1 i (q1 0 1) = 0
        · exact XE q1 d1 hmc hn0 (by rw [← hF]; exact if_pos hn0)
        have hr1 := hmc.2.2.2.1.1
        have ok1 := hmc.2.2.2.1.2
        have hnle := ntQ_le q1 i (q1 0 1)
        have hn12 := ok1.2.1
        have hp1 := pow12 hn12
        have hflt := freQ_lt q1
        have hbit := ntQ_bit _ hn0
        have hlow := lowQ_le q1 (ntQ q1 i (q1 0 1) - 1) 8 (Nat.le_refl _)
        have hF2 : (if lowQ q1 (ntQ q1 i (q1 0 1) - 1) 8 = 0 then (refQ q1 (ntQ q1 i (q1 0 1) - 1) 7, q1) else filF i f (up q1 6 (ntQ q1 i (q1 0 1) - 1) (lowQ q1 (ntQ q1 i (q1 0 1) - 1) 8))) = filF i 12 (clrP y.1) := by
          rw [← hF]
          exact (if_neg hn0).symm
        rw [show pv (ntQ q1 i (q1 0 1)) = nI (ntQ q1 i (q1 0 1) - 1) from if_neg hn0]
        generalize ht : ntQ q1 i (q1 0 1) - 1 = t at hbit hlow hF2 ⊢
        have ht1 : t < q1 0 1 := by omega
        refine aw_iload_n dX8_fill_51 rfl ?_
        refine aw_if_lt 103 dX8_fill_52 (by decide) (fun c52 => (nI_pos (show t < 2 ^ 31 by omega) c52).elim) (fun c52 => ?_)
        refine aw_aload_n dX8_fill_55 rfl ?_
        refine aw_iload_n dX8_fill_56 rfl ?_
        refine aw_cVI dX8_fill_57 oX8_lowest vX8_lowest rfl lX8_156 (kX8_lowest hr1 ok1 ht1) rfl (hp_160 _) rfl rfl rfl (Nat.le_of_ble_eq_true rfl) (by decide) (Nat.le_of_ble_eq_true rfl) ?_
        rintro _ d2 ⟨hm2, rfl⟩
        have hr2 : RR (d2.1 161) q1 := by rw [mS_g hm2]; exact hr1
        have hm2c := MC_m hmc (mS_mI hm2) hr2 ok1 (by rw [hm2.2.2 6 (by decide)]; exact hmc.2.2.2.2.1) hmc.2.2.2.2.2
        refine aw_istore_n dX8_fill_60 (by decide) rfl ?_
        refine aw_iload_n dX8_fill_61 rfl ?_
        refine aw_iconst (v := (-1)) dX8_fill_62 (by decide) ?_
        refine aw_icmp_ne 87 dX8_fill_63 (by decide) (fun c63 => ?_) (fun c63 => ?_)
        · have hl0 : lowQ q1 t 8 ≠ 0 := fun z => c63 ((pv_m1g (by omega)).mpr z)
          rw [if_neg hl0] at hF2
          obtain ⟨s8, hs8⟩ : ∃ s, lowQ q1 t 8 = s + 1 := ⟨lowQ q1 t 8 - 1, by omega⟩
          refine aw_aload_n dX8_fill_87 rfl ?_
          refine aw_iload_n dX8_fill_88 rfl ?_
          refine aw_iconst (v := 4) dX8_fill_89 (by decide) ?_
          refine aw_iload_n dX8_fill_90 rfl ?_
          refine aw_cVv dX8_fill_91 oX8_sets vX8_sets rfl lX8_113 (kX8_sets (t := t) (w := 4) (by omega) (by omega)) rfl (hp_160 _) rfl rfl rfl (Nat.le_of_ble_eq_true rfl) (by decide) (Nat.le_of_ble_eq_true rfl) ?_
          rintro _ rfl
          have ok3 := QOK_6 ok1 ht1 hlow
          have hmc3 := MC_g hm2c (j := 6) (k := t) (v := lowQ q1 t 8) (i := 17 + 5 * t + 4) (x := pv (lowQ q1 t 8)) (by decide) (show t < 12 by omega) rfl rfl ok3
          refine aw_aload_n dX8_fill_94 rfl ?_
          refine aw_iload_n dX8_fill_95 rfl ?_
          refine aw_cVP dX8_fill_96 oX8_nextTask vX8_nextTask rfl lX8_214 (kX8_nextTask hmc3.2.2.2.1.1 ok3 (p := i) (by omega)) rfl (hp_160 _) rfl rfl rfl (Nat.le_of_ble_eq_true rfl) (by decide) (Nat.le_of_ble_eq_true rfl) ?_
          refine aw_istore_n dX8_fill_99 (by decide) rfl ?_
          refine aw_goto (tgt := 51) dX8_fill_100 (by decide) ?_
          refine aw_pick [0, 1, 2] (ih _ _ ?_ hmc3 hF2)
          rw [hs8, freQ_up ok1]
          have := pcx_clr (a := freQ q1) (k := t) (by omega) hbit
          omega
        · refine aw_aload_n dX8_fill_66 rfl ?_
          refine aw_aload_n dX8_fill_67 rfl ?_
          refine aw_iload_n dX8_fill_68 rfl ?_
          refine aw_bipush (v := 7) dX8_fill_69 (by decide) ?_
          refine aw_cVI dX8_fill_71 oX8_refuses vX8_refuses rfl lX8_187 (kX8_refuses hr2 ok1 ht1 (s := 7) (by omega)) rfl (hp_160 _) rfl rfl rfl (Nat.le_of_ble_eq_true rfl) (by decide) (Nat.le_of_ble_eq_true rfl) ?_
          rintro _ d3 ⟨hm3, rfl⟩
          refine aw_putI (ci := 8) (j := 6) .int dX8_fill_74 fX8_190 rfl (by decide) rfl tyX8 tyX8_ok nmX8 rfl rfl rfl (hp_160 _) (Nat.le_of_ble_eq_true rfl) rfl ?_
          refine aw_aload_n dX8_fill_77 rfl ?_
          refine aw_cVv dX8_fill_78 oX8_brings vX8_brings rfl lX8_217 (kX8_brings) rfl (hp_160 _) rfl rfl rfl (Nat.le_of_ble_eq_true rfl) (by decide) (Nat.le_of_ble_eq_true rfl) ?_
          rintro _ rfl
          refine aw_aload_n dX8_fill_81 rfl ?_
          refine aw_iconst (v := 2) dX8_fill_82 (by decide) ?_
          refine aw_cVI dX8_fill_83 oX8_fails vX8_fails rfl lX8_87 kX8_fails rfl (hp_160 _) rfl rfl rfl (Nat.le_of_ble_eq_true rfl) (by decide) (Nat.le_of_ble_eq_true rfl) ?_
          rintro _ d9 ⟨rfl, rfl⟩
          exact aw_endI dX8_fill_86 rfl (by have hl0 : lowQ q1 t 8 = 0 := (pv_m1g (by omega)).mp c63; rw [if_pos hl0] at hF2; unfold oFill; rw [if_pos hg, ivn (by omega), ← hF2, if_neg (lowQ_0 7 hl0 (by decide))]; exact RO_b hm2c hm3 (refQ_le _ _ _))
    refine aw_aload_n dX8_fill_15 rfl ?_
    refine aw_cVv dX8_fill_16 oX8_remembers vX8_remembers rfl lX8_84 (kX8_rem hM) rfl (hp_160 _) rfl rfl rfl (Nat.le_of_ble_eq_true rfl) (by decide) (Nat.le_of_ble_eq_true rfl) ?_
    rintro d1 ⟨hm0, -⟩
    have hr0 := hm0.2.2.2.1.1
    refine aw_iconst (v := 0) dX8_fill_19 (by decide) ?_
    refine aw_istore_n dX8_fill_20 (by decide) rfl ?_
    have L21 : ∀ j, j ≤ y.1 0 1 → ∀ (d3 : Dt) (v2 : Int32), MC d d3 y (clrJ y.1 j) y.2.2.2.1 → v2 = nI j → AW mX8_fill 8 true (PIx (fun x d' => RO d d' x (oFill y (nI i))) nX) 0 0 21 [(0, .ref 160), (1, .int (nI i)), (2, .int v2)] [] (HP d3) := by
      refine up_ind (fun j hj ih => ?_)
      rintro d3 _ hmc rfl; have hr3 := hmc.2.2.2.1.1
      refine aw_iload_n dX8_fill_21 rfl ?_
      refine aw_aload_n dX8_fill_22 rfl ?_
      refine aw_gf dX8_fill_23 (hp_160 _) rfl fX8_7 (by decide) rfl ?_
      refine aw_bipush (v := 16) dX8_fill_26 (by decide) ?_
      refine aw_ialdN dX8_fill_28 (hp_161 _) rfl (16) (by first | rfl | (simp only [li_0, li_1, li_2, li_3, li_4, li_5, li_7, li_8, li_9, li_11, li_12, li_16, li_17, li_31, li_32, li_60, li_77, li_80, li_89, li_99, li_101, li_112, li_113, li_256, li_999, li_1023, nI_add, pk_mul])) (by omega) (by decide) ?_
      refine aw_icmp_ge 45 dX8_fill_29 (by decide) (fun c29 => ?_) (fun c29 => ?_)
      · have hge : y.1 0 1 ≤ j := (le_nI hr3.1.2 rfl (show y.1 0 1 < 2 ^ 31 by omega) (by omega)).mp c29
        have hj2 : j = y.1 0 1 := by omega
        subst hj2
        rw [clrJ_n ok] at hmc
        refine aw_aload_n dX8_fill_45 rfl ?_
        refine aw_iload_n dX8_fill_46 rfl ?_
        refine aw_cVP dX8_fill_47 oX8_nextTask vX8_nextTask rfl lX8_214 (kX8_nextTask hmc.2.2.2.1.1 hmc.2.2.2.1.2 (p := i) (by omega)) rfl (hp_160 _) rfl rfl rfl (Nat.le_of_ble_eq_true rfl) (by decide) (Nat.le_of_ble_eq_true rfl) ?_
        refine aw_istore_n dX8_fill_50 (by decide) rfl ?_
        exact K 12 _ _ (pcx_le _) hmc rfl
      · have hlt : j < y.1 0 1 := Nat.lt_of_not_le (fun z => c29 ((le_nI hr3.1.2 rfl (show y.1 0 1 < 2 ^ 31 by omega) (by omega)).mpr z))
        refine aw_aload_n dX8_fill_32 rfl ?_
        refine aw_iload_n dX8_fill_33 rfl ?_
        refine aw_iconst (v := 4) dX8_fill_34 (by decide) ?_
        refine aw_iconst (v := (-1)) dX8_fill_35 (by decide) ?_
        refine aw_cVv dX8_fill_36 oX8_sets vX8_sets rfl lX8_113 (kX8_sets (t := j) (w := 4) (by omega) (by omega)) rfl (hp_160 _) rfl rfl rfl (Nat.le_of_ble_eq_true rfl) (by decide) (Nat.le_of_ble_eq_true rfl) ?_
        rintro _ rfl
        refine aw_inc (c := 1) dX8_fill_39 (by decide) rfl (by decide) rfl ?_
        refine aw_goto (tgt := 21) dX8_fill_42 (by decide) ?_
        exact ih hlt _ _ (by rw [← clrJ_s]; exact MC_g hmc (j := 6) (k := j) (v := 0) (by decide) (show j < 12 by omega) rfl rfl (by rw [clrJ_s]; exact QOK_clrJ ok (j + 1) (by omega))) (nI_1 j)
    exact L21 0 (Nat.zero_le _) _ _ (by rw [clrJ_0]; exact hm0) rfl
  · refine aw_aload_n dX8_fill_9 rfl ?_
    refine aw_iconst (v := 1) dX8_fill_10 (by decide) ?_
    refine aw_cVI dX8_fill_11 oX8_fails vX8_fails rfl lX8_87 kX8_fails rfl (hp_160 _) rfl rfl rfl (Nat.le_of_ble_eq_true rfl) (by decide) (Nat.le_of_ble_eq_true rfl) ?_
    rintro _ d9 ⟨rfl, rfl⟩
    exact aw_endI dX8_fill_14 rfl (by unfold oFill; rw [if_neg (b2d_f c6)]; exact RO_f hM (mS_r d) rfl (by decide))
