set_option maxHeartbeats 4000000 in
set_option maxRecDepth 100000 in
theorem kX8_thrown {d : Dt} : CP mX8_thrown 1 [.ref 160] d (d.1 160 7) := by
  show AW mX8_thrown 1 true (PIx (fun y d' => y = d.1 160 7 ∧ d' = d) nX) 0 0 0 [(0, .ref 160)] [] (HP d)
  refine aw_aload_n dX8_thrown_0 rfl ?_
  refine aw_gf dX8_thrown_1 (hp_160 _) rfl fX8_70 (by decide) rfl ?_
  exact aw_endI dX8_thrown_4 rfl ⟨rfl, rfl⟩

set_option maxHeartbeats 4000000 in
set_option maxRecDepth 100000 in
theorem kX8_feed {y : Sy} {d : Dt} (hM : MR d y) {c : Nat} (hc : c < 65536) : CI mX8_feed 2 [.ref 160, .int (nI c)] d (fun x d' => RO d d' x (oFeed y (nI c))) := by
  show AW mX8_feed 2 true (PIx (fun x d' => RO d d' x (oFeed y (nI c))) nX) 0 0 0 [(0, .ref 160), (1, .int (nI c))] [] (HP d)
  have ok := hM.1.2
  have hr := hM.1.1
  have h12 := ok.2.1
  obtain ⟨ht17, ht80, htT⟩ := hM.2.2.2.2
  refine aw_aload_n dX8_feed_0 rfl ?_
  refine aw_gf dX8_feed_1 (hp_160 _) rfl fX8_239 (by decide) rfl ?_
  refine aw_bipush (v := 80) dX8_feed_4 (by decide) ?_
  refine aw_icmp_ne 15 dX8_feed_6 (by decide) (fun c6 => ?_) (fun c6 => ?_)
  · have hne : y.2.2.2.2.length ≠ 80 := fun z => c6 (by rw [ht17, z]; rfl)
    refine aw_aload_n dX8_feed_15 rfl ?_
    refine aw_gf dX8_feed_16 (hp_160 _) rfl fX8_45 (by decide) rfl ?_
    refine aw_aload_n dX8_feed_19 rfl ?_
    refine aw_gf dX8_feed_20 (hp_160 _) rfl fX8_239 (by decide) rfl ?_
    refine aw_iload_n dX8_feed_23 rfl ?_
    refine aw_castN dX8_feed_24 hp_172 (y.2.2.2.2.length) ht17 (by omega) (by decide) (pk_charN hc).1 ?_
    refine aw_aload_n dX8_feed_25 rfl ?_
    refine aw_dup dX8_feed_26 rfl ?_
    refine aw_gf dX8_feed_27 (hp_160 _) rfl fX8_239 (by decide) rfl ?_
    refine aw_iconst (v := 1) dX8_feed_30 (by decide) ?_
    refine aw_iadd dX8_feed_31 ?_
    refine aw_putI (ci := 8) (j := 17) .int dX8_feed_32 fX8_239 rfl (by decide) rfl tyX8 tyX8_ok nmX8 rfl rfl rfl (hp_160 _) (Nat.le_of_ble_eq_true rfl) rfl ?_
    refine aw_aload_n dX8_feed_35 rfl ?_
    refine aw_aload_n dX8_feed_36 rfl ?_
    refine aw_gf dX8_feed_37 (hp_160 _) rfl fX8_239 (by decide) rfl ?_
    refine aw_cVI dX8_feed_40 oX8_done vX8_done rfl lX8_91 kX8_done rfl (hp_160 _) rfl rfl rfl (Nat.le_of_ble_eq_true rfl) (by decide) (Nat.le_of_ble_eq_true rfl) ?_
    rintro _ d8 ⟨rfl, rfl⟩
    exact aw_endI dX8_feed_43 rfl (by unfold oFeed; rw [if_neg hne, ivn (by omega)]; exact RO_m hM (MR_feed hM hc hne (by rw [dI_n _ _ (by decide), ht17, nI_1])) (fM_dI (fM_dI (fM_r d) (by decide) _) (by decide) _) (by rw [dI_s]; simp only [upd, if_true]; rw [dI_n _ _ (by decide), ht17, nI_1]))
  · refine aw_aload_n dX8_feed_9 rfl ?_
    refine aw_iconst (v := 1) dX8_feed_10 (by decide) ?_
    refine aw_cVI dX8_feed_11 oX8_fails vX8_fails rfl lX8_87 kX8_fails rfl (hp_160 _) rfl rfl rfl (Nat.le_of_ble_eq_true rfl) (by decide) (Nat.le_of_ble_eq_true rfl) ?_
    rintro _ d9 ⟨rfl, rfl⟩
    exact aw_endI dX8_feed_14 rfl (by unfold oFeed; rw [if_pos (nI_inj (by omega) (by omega) (ht17.symm.trans c6 : nI y.2.2.2.2.length = nI 80))]; exact RO_f hM (mS_r d) rfl (by decide))

set_option maxHeartbeats 4000000 in
set_option maxRecDepth 100000 in
theorem kX8_undo {y : Sy} {d : Dt} (hM : MR d y) : CI mX8_undo 2 [.ref 160] d (fun x d' => RO d d' x (oUndo y)) := by
  show AW mX8_undo 2 true (PIx (fun x d' => RO d d' x (oUndo y)) nX) 0 0 0 [(0, .ref 160)] [] (HP d)
  have ok := hM.1.2
  have hr := hM.1.1
  have h12 := ok.2.1
  obtain ⟨hh1, hh2, hh3, hh4⟩ := id hM.2.1
  refine aw_aload_n dX8_undo_0 rfl ?_
  refine aw_gf dX8_undo_1 (hp_160 _) rfl fX8_78 (by decide) rfl ?_
  refine aw_if_ne 13 dX8_undo_4 (by decide) (fun c4 => ?_) (fun c4 => ?_)
  · obtain ⟨q, L, eL⟩ : ∃ q L, y.2.1 = q :: L := by
      cases e : y.2.1 with
      | nil => exact absurd (by rw [hh1, e]; rfl) c4
      | cons q L => exact ⟨q, L, rfl⟩
    have hH := hM.2.1
    rw [eL] at hH
    obtain ⟨hp1, hp2, hp3⟩ := HM_pop hH
    have h163 : d.1 160 3 = nI (L.length + 1) := by rw [hh1, eL, List.length_cons]
    have hl8 : L.length ≤ 7 := by have := hH.2.1; rw [List.length_cons] at this; omega
    refine aw_aload_n dX8_undo_13 rfl ?_
    refine aw_dup dX8_undo_14 rfl ?_
    refine aw_gf dX8_undo_15 (hp_160 _) rfl fX8_78 (by decide) rfl ?_
    refine aw_iconst (v := 1) dX8_undo_18 (by decide) ?_
    refine aw_isub dX8_undo_19 ?_
    refine aw_putI (ci := 8) (j := 3) .int dX8_undo_20 fX8_78 rfl (by decide) rfl tyX8 tyX8_ok nmX8 rfl rfl rfl (hp_160 _) (Nat.le_of_ble_eq_true rfl) rfl ?_
    rw [h163, tv_s (by omega), Nat.add_sub_cancel]
    generalize hd2 : dI d 160 (upd (d.1 160) 3 (nI L.length)) = d2
    have g160 : d2.1 160 = upd (d.1 160) 3 (nI L.length) := by rw [← hd2, dI_s]
    have gN : ∀ i, i ≠ 160 → d2.1 i = d.1 i := fun i hi => by rw [← hd2, dI_n _ _ hi]
    have gf : fM d d2 := by rw [← hd2]; exact fM_dI (fM_r d) (by decide) _
    refine aw_iconst (v := 0) dX8_undo_23 (by decide) ?_
    refine aw_istore_n dX8_undo_24 (by decide) rfl ?_
    have L25 : ∀ j, j ≤ 113 → ∀ (v1 : Int32), v1 = nI j → AW mX8_undo 2 true (PIx (fun x d' => RO d d' x (oUndo y)) nX) 0 0 25 [(0, .ref 160), (1, .int v1)] [] (HP (dI d2 161 (cpo (d2.1 161) (d2.1 163) (113 * L.length) 0 j))) := by
      refine up_ind (fun j hj ih => ?_)
      rintro _ rfl
      refine aw_iload_n dX8_undo_25 rfl ?_
      refine aw_bipush (v := 113) dX8_undo_26 (by decide) ?_
      refine aw_icmp_ge 57 dX8_undo_28 (by decide) (fun c28 => ?_) (fun c28 => ?_)
      · have hge : 113 ≤ j := (le_nI (show (113 : Int32) = nI 113 from rfl) rfl (by omega) (by omega)).mp c28
        have hj2 : j = 113 := by omega
        subst hj2
        refine aw_aload_n dX8_undo_57 rfl ?_
        refine aw_aload_n dX8_undo_58 rfl ?_
        refine aw_gf dX8_undo_59 (hp_160 _) rfl fX8_78 (by decide) rfl ?_
        refine aw_cVI dX8_undo_62 oX8_done vX8_done rfl lX8_91 kX8_done rfl (hp_160 _) rfl rfl rfl (Nat.le_of_ble_eq_true rfl) (by decide) (Nat.le_of_ble_eq_true rfl) ?_
        rintro _ d8 ⟨rfl, rfl⟩
        exact aw_endI dX8_undo_65 rfl (by rw [show oUndo y = (0, nI L.length, q, L, y.2.2) from by unfold oUndo; rw [eL]]; exact RO_m hM (MR_parts hM (by rw [dI_s]; exact RR_congr hp3.2.1 (fun k hk => by have := cpo_at (d2.1 161) (d2.1 163) (113 * L.length) 0 hk; rw [Nat.zero_add] at this; rw [this, gN 163 (by decide)]) hp2) hp3 (by rw [dI_n _ _ (by decide), dI_n _ _ (by decide), gN 163 (by decide), g160]; exact hp1) (SV_k hM.2.2.1 (by rw [dI_n _ _ (by decide), g160]; rfl) (by rw [dI_n _ _ (by decide), gN 164 (by decide)])) (by rw [dI_n _ _ (by decide), g160]; rfl) (by rw [dI_n _ _ (by decide), gN 172 (by decide)]) (by rw [dI_n _ _ (by decide), g160]; rfl)) (fM_dI gf (by decide) _) (by rw [dI_n _ _ (by decide), g160]; rfl))
      · have hlt : j < 113 := Nat.lt_of_not_le (fun z => c28 ((le_nI (show (113 : Int32) = nI 113 from rfl) rfl (by omega) (by omega)).mpr z))
        refine aw_aload_n dX8_undo_31 rfl ?_
        refine aw_gf dX8_undo_32 (hp_160 _) rfl fX8_7 (by decide) rfl ?_
        refine aw_iload_n dX8_undo_35 rfl ?_
        refine aw_aload_n dX8_undo_36 rfl ?_
        refine aw_gf dX8_undo_37 (hp_160 _) rfl fX8_16 (by decide) rfl ?_
        refine aw_bipush (v := 113) dX8_undo_40 (by decide) ?_
        refine aw_aload_n dX8_undo_42 rfl ?_
        refine aw_gf dX8_undo_43 (hp_160 _) rfl fX8_78 (by decide) rfl ?_
        refine aw_imul dX8_undo_46 ?_
        refine aw_iload_n dX8_undo_47 rfl ?_
        refine aw_iadd dX8_undo_48 ?_
        refine aw_ialdN dX8_undo_49 (hp_163 _) rfl (113 * L.length + j) (by rw [dI_n _ _ (by decide), g160]; simp only [upd, if_true]; rw [show (113 : Int32) = nI 113 from rfl, pk_mul, nI_add]) (by omega) (by decide) ?_
        refine aw_iastN dX8_undo_50 hp_161 (j) (by first | rfl | (simp only [li_0, li_1, li_2, li_3, li_4, li_5, li_7, li_8, li_9, li_11, li_12, li_16, li_17, li_31, li_32, li_60, li_77, li_80, li_89, li_99, li_101, li_112, li_113, li_256, li_999, li_1023, nI_add, pk_mul])) (by omega) (by decide)  ?_
        refine aw_inc (c := 1) dX8_undo_51 (by decide) rfl (by decide) rfl ?_
        refine aw_goto (tgt := 25) dX8_undo_54 (by decide) ?_
        rw [dI_dI, dI_s, dI_n _ _ (show 163 ≠ 161 by decide), show upd (cpo (d2.1 161) (d2.1 163) (113 * L.length) 0 j) j (d2.1 163 (113 * L.length + j)) = cpo (d2.1 161) (d2.1 163) (113 * L.length) 0 (j + 1) from by have := cpo_s1 (d2.1 161) (d2.1 163) (113 * L.length) 0 j; rw [Nat.zero_add] at this; exact this]
        exact ih hlt _ (nI_1 j)
    have e2 := L25 0 (Nat.zero_le _) _ rfl
    rw [cpo_0] at e2
    exact e2
  · refine aw_aload_n dX8_undo_7 rfl ?_
    refine aw_iconst (v := 1) dX8_undo_8 (by decide) ?_
    refine aw_cVI dX8_undo_9 oX8_fails vX8_fails rfl lX8_87 kX8_fails rfl (hp_160 _) rfl rfl rfl (Nat.le_of_ble_eq_true rfl) (by decide) (Nat.le_of_ble_eq_true rfl) ?_
    rintro _ d9 ⟨rfl, rfl⟩
    exact aw_endI dX8_undo_12 rfl (by have e : y.2.1 = [] := List.length_eq_zero_iff.mp (nI_inj (by omega) (by omega) (hh1.symm.trans c4 : nI y.2.1.length = nI 0)); rw [show oUndo y = (1, 0, y) from by unfold oUndo; rw [e]]; exact RO_f hM (mS_r d) rfl (by decide))
