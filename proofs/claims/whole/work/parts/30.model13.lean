set_option maxHeartbeats 4000000 in
set_option maxRecDepth 100000 in
theorem kX8_thrown {d : Dt} : CP mX8_thrown 1 [.ref 160] d (d.1 160 7) := by
  show AW mX8_thrown 1 true (PIx (fun y d' => y = d.1 160 7 ∧ d' = d) nX) 0 0 0 [(0, .ref 160)] [] (HP d)
  refine aw_aload_n dX8_thrown_0 rfl ?_
  refine aw_gf dX8_thrown_1 (hp_160 _) rfl fX8_70 (by decide) rfl ?_
  exact aw_endI dX8_thrown_4 rfl ⟨rfl, rfl⟩

set_option maxHeartbeats 4000000 in
set_option maxRecDepth 100000 in
theorem kX8_feed {y : Sy} {d : Dt} (hM : MR d y) {c : Nat} (hc : c < 65536) : CI mX8_feed 2 [.ref 160, .int (nI c)] d (fun x d' => RO d d' x (oFeed y (nI c))) := by
  show AW mX8_feed 2 true (PIx (fun x d' => RO d d' x (oFeed y (nI c))) nX) 0 0 0 [(0, .ref 160), (1, .int (nI c))] [] (HP d)
  have ok := hM.1.2
  have hr := hM.1.1
  have h12 := ok.2.1
  obtain ⟨ht17, ht80, htT⟩ := hM.2.2.2.2
  refine aw_aload_n dX8_feed_0 rfl ?_
  refine aw_gf dX8_feed_1 (hp_160 _) rfl fX8_239 (by decide) rfl ?_
  refine aw_bipush (v := 80) dX8_feed_4 (by decide) ?_
  refine aw_icmp_ne 15 dX8_feed_6 (by decide) (fun c6 => ?_) (fun c6 => ?_)
  · have hne : y.2.2.2.2.length ≠ 80 := fun z => c6 (by rw [ht17, z]; rfl)
    refine aw_aload_n dX8_feed_15 rfl ?_
    refine aw_gf dX8_feed_16 (hp_160 _) rfl fX8_45 (by decide) rfl ?_
    refine aw_aload_n dX8_feed_19 rfl ?_
    refine aw_gf dX8_feed_20 (hp_160 _) rfl fX8_239 (by decide) rfl ?_
    refine aw_iload_n dX8_feed_23 rfl ?_
    refine aw_castN dX8_feed_24 hp_172 (y.2.2.2.2.length) ht17 (by omega) (by decide) (pk_charN hc).1 ?_
    refine aw_aload_n dX8_feed_25 rfl ?_
    refine aw_dup dX8_feed_26 rfl ?_
    refine aw_gf dX8_feed_27 (hp_160 _) rfl fX8_239 (by decide) rfl ?_
    refine aw_iconst (v := 1) dX8_feed_30 (by decide) ?_
    refine aw_iadd dX8_feed_31 ?_
    refine aw_putI (ci := 8) (j := 17) .int dX8_feed_32 fX8_239 rfl (by decide) rfl tyX8 tyX8_ok nmX8 rfl rfl rfl (hp_160 _) (Nat.le_of_ble_eq_true rfl) rfl ?_
    refine aw_aload_n dX8_feed_35 rfl ?_
    refine aw_aload_n dX8_feed_36 rfl ?_
    refine aw_gf dX8_feed_37 (hp_160 _) rfl fX8_239 (by decide) rfl ?_
    refine aw_cVI dX8_feed_40 oX8_done vX8_done rfl lX8_91 kX8_done rfl (hp_160 _) rfl rfl rfl (Nat.le_of_ble_eq_true rfl) (by decide) (Nat.le_of_ble_eq_true rfl) ?_
    rintro _ d8 ⟨rfl, rfl⟩
    exact aw_endI dX8_feed_43 rfl (by unfold oFeed; rw [if_neg hne, ivn (by omega)]; exact RO_m hM (MR_feed hM hc hne (by rw [dI_n _ _ (by decide), ht17, nI_1])) (fM_dI (fM_dI (fM_r d) (by decide) _) (by decide) _) (by rw [dI_s]; simp only [upd, if_true]; rw [dI_n _ _ (by decide), ht17, nI_1]))
  · refine aw_aload_n dX8_feed_9 rfl ?_
    refine aw_iconst (v := 1) dX8_feed_10 (by decide) ?_
    refine aw_cVI dX8_feed_11 oX8_fails vX8_fails rfl lX8_87 kX8_fails rfl (hp_160 _) rfl rfl rfl (Nat.le_of_ble_eq_true rfl) (by decide) (Nat.le_of_ble_eq_true rfl) ?_
    rintro _ d9 ⟨rfl, rfl⟩
    exact aw_endI dX8_feed_14 rfl (by unfold oFeed; rw [if_pos (nI_inj (by omega) (by omega) (ht17.symm.trans c6 : nI y.2.2.2.2.length = nI 80))]; exact RO_f hM (mS_r d) rfl (by decide))

set_option maxHeartbeats 4000000 in
set_option maxRecDepth 100000 in
theorem kX8_undo {y : Sy} {d : Dt} (hM : MR d y) : CI mX8_undo 2 [.ref 160] d (fun x d' => RO d d' x (oUndo y)) := by
  show AW mX8_undo 2 true (PIx (fun x d' => RO d d' x (oUndo y)) nX) 0 0 0 [(0, .ref 160)] [] (HP d)
  have ok := hM.1.2
  have hr := hM.1.1
  have h12 := ok.2.1
  obtain ⟨hh1, hh2, hh3, hh4⟩ := id hM.2.1
  refine aw_aload_n dX8_undo_0 rfl ?_
  refine aw_gf dX8_undo_1 (hp_160 _) rfl fX8_78 (by decide) rfl ?_
  refine aw_if_ne 13 dX8_undo_4 (by decide) (fun c4 => ?_) (fun c4 => ?_)
  · obtain ⟨q, L, eL⟩ : ∃ q L, y.2.1 = q :: L := by
      cases e : y.2.1 with
      | nil => exact absurd (by rw [hh1, e]; rfl) c4
      | cons q L => exact ⟨q, L, rfl⟩
    have hH := hM.2.1
    rw [eL] at hH
    obtain ⟨hp1, hp2, hp3⟩ := HM_pop hH
    have h163 : d.1 160 3 = nI (L.length + 1) := by rw [hh1, eL, List.length_cons]
    have hl8 : L.length ≤ 7 := by have := hH.2.1; rw [List.length_cons] at this; omega
    refine aw_aload_n dX8_undo_13 rfl ?_
    refine aw_dup dX8_undo_14 rfl ?_
    refine aw_gf dX8_undo_15 (hp_160 _) rfl fX8_78 (by decide) rfl ?_
    refine aw_iconst (v := 1) dX8_undo_18 (by decide) ?_
    refine aw_isub dX8_undo_19 ?_
    refine aw_putI (ci := 8) (j := 3) .int dX8_undo_20 fX8_78 rfl (by decide) rfl tyX8 tyX8_ok nmX8 rfl rfl rfl (hp_160 _) (Nat.le_of_ble_eq_true rfl) rfl ?_
    rw [h163, tv_s (by omega), Nat.add_sub_cancel]
    generalize hd2 : dI d 160 (upd (d.1 160) 3 (nI L.length)) = d2
    have g160 : d2.1 160 = upd (d.1 160) 3 (nI L.length) := by rw [← hd2, dI_s]
    have gN : ∀ i, i ≠ 160 → d2.1 i = d.1 i := fun i hi => by rw [← hd2, dI_n _ _ hi]
    have gf : fM d d2 := by rw [← hd2]; exact fM_dI (fM_r d) (by decide) _
    refine aw_iconst (v := 0) dX8_undo_23 (by decide) ?_
    refine aw_istore_n dX8_undo_24 (by decide) rfl ?_
    have L25 : ∀ j, j ≤ 113 → ∀ (v1 : Int32), v1 = nI j → AW mX8_undo 2 true (PIx (fun x d' => RO d d' x (oUndo y)) nX) 0 0 25 [(0, .ref 160), (1, .int v1)] [] (HP (dI d2 161 (cpo (d2.1 161) (d2.1 163) (113 * L.length) 0 j))) := by
      refine up_ind (fun j hj ih => ?_)
      rintro _ rfl
      refine aw_iload_n dX8_undo_25 rfl ?_
      refine aw_bipush (v := 113) dX8_undo_26 (by decide) ?_
      refine aw_icmp_ge 57 dX8_undo_28 (by decide) (fun c28 => ?_) (fun c28 => ?_)
      · have hge : 113 ≤ j := (le_nI (show (113 : Int32) = nI 113 from rfl) rfl (by omega) (by omega)).mp c28
        have hj2 : j = 113 := by omega
        subst hj2
        refine aw_aload_n dX8_undo_57 rfl ?_
        refine aw_aload_n dX8_undo_58 rfl ?_
        refine aw_gf dX8_undo_59 (hp_160 _) rfl fX8_78 (by decide) rfl ?_
        refine aw_cVI dX8_undo_62 oX8_done vX8_done rfl lX8_91 kX8_done rfl (hp_160 _) rfl rfl rfl (Nat.le_of_ble_eq_true rfl) (by decide) (Nat.le_of_ble_eq_true rfl) ?_
        rintro _ d8 ⟨rfl, rfl⟩
        exact aw_endI dX8_undo_65 rfl (by rw [show oUndo y = (0, nI L.length, q, L, y.2.2) from by unfold oUndo; rw [eL]]; exact RO_m hM (MR_parts hM (by rw [dI_s]; exact RR_congr hp3.2.1 (fun k hk => by have := cpo_at (d2.1 161) (d2.1 163) (113 * L.length) 0 hk; rw [Nat.zero_add] at this; rw [this, gN 163 (by decide)]) hp2) hp3 (by rw [dI_n _ _ (by decide), dI_n _ _ (by decide), gN 163 (by decide), g160]; exact hp1) (SV_k hM.2.2.1 (by rw [dI_n _ _ (by decide), g160]; rfl) (by rw [dI_n _ _ (by decide), gN 164 (by decide)])) (by rw [dI_n _ _ (by decide), g160]; rfl) (by rw [dI_n _ _ (by decide), gN 172 (by decide)]) (by rw [dI_n _ _ (by decide), g160]; rfl)) (fM_dI gf (by decide) _) (by rw [dI_n _ _ (by decide), g160]; rfl))
      · have hlt : j < 113 := Nat.lt_of_not_le (fun z => c28 ((le_nI (show (113 : Int32) = nI 113 from rfl) rfl (by omega) (by omega)).mpr z))
        refine aw_aload_n dX8_undo_31 rfl ?_
        refine aw_gf dX8_undo_32 (hp_160 _) rfl fX8_7 (by decide) rfl ?_
        refine aw_iload_n dX8_undo_35 rfl ?_
        refine aw_aload_n dX8_undo_36 rfl ?_
        refine aw_gf dX8_undo_37 (hp_160 _) rfl fX8_16 (by decide) rfl ?_
        refine aw_bipush (v := 113) dX8_undo_40 (by decide) ?_
        refine aw_aload_n dX8_undo_42 rfl ?_
        refine aw_gf dX8_undo_43 (hp_160 _) rfl fX8_78 (by decide) rfl ?_
        refine aw_imul dX8_undo_46 ?_
        refine aw_iload_n dX8_undo_47 rfl ?_
        refine aw_iadd dX8_undo_48 ?_
        refine aw_ialdN dX8_undo_49 (hp_163 _) rfl (113 * L.length + j) (by rw [dI_n _ _ (by decide), g160]; simp only [upd, if_true]; rw [show (113 : Int32) = nI 113 from rfl, pk_mul, nI_add]) (by omega) (by decide) ?_
        refine aw_iastN dX8_undo_50 hp_161 (j) (by first | rfl | (simp only [li_0, li_1, li_2, li_3, li_4, li_5, li_7, li_8, li_9, li_11, li_12, li_16, li_17, li_31, li_32, li_60, li_77, li_80, li_89, li_99, li_101, li_112, li_113, li_256, li_999, li_1023, nI_add, pk_mul])) (by omega) (by decide)  ?_
        refine aw_inc (c := 1) dX8_undo_51 (by decide) rfl (by decide) rfl ?_
        refine aw_goto (tgt := 25) dX8_undo_54 (by decide) ?_
        rw [dI_dI, dI_s, dI_n _ _ (show 163 ≠ 161 by decide), show upd (cpo (d2.1 161) (d2.1 163) (113 * L.length) 0 j) j (d2.1 163 (113 * L.length + j)) = cpo (d2.1 161) (d2.1 163) (113 * L.length) 0 (j + 1) from by have := cpo_s1 (d2.1 161) (d2.1 163) (113 * L.length) 0 j; rw [Nat.zero_add] at this; exact this]
        exact ih hlt _ (nI_1 j)
    have e2 := L25 0 (Nat.zero_le _) _ rfl
    rw [cpo_0] at e2
    exact e2
  · refine aw_aload_n dX8_undo_7 rfl ?_
    refine aw_iconst (v := 1) dX8_undo_8 (by decide) ?_
    refine aw_cVI dX8_undo_9 oX8_fails vX8_fails rfl lX8_87 kX8_fails rfl (hp_160 _) rfl rfl rfl (Nat.le_of_ble_eq_true rfl) (by decide) (Nat.le_of_ble_eq_true rfl) ?_
    rintro _ d9 ⟨rfl, rfl⟩
    exact aw_endI dX8_undo_12 rfl (by have e : y.2.1 = [] := List.length_eq_zero_iff.mp (nI_inj (by omega) (by omega) (hh1.symm.trans c4 : nI y.2.1.length = nI 0)); rw [show oUndo y = (1, 0, y) from by unfold oUndo; rw [e]]; exact RO_f hM (mS_r d) rfl (by decide))

set_option maxHeartbeats 4000000 in
set_option maxRecDepth 100000 in
theorem kX8_efficiency {y : Sy} {d : Dt} (hM : MR d y) : CFl mX8_efficiency 7 [.ref 160] d (fun x d' => fM d d' ∧ MR d' y ∧ d'.1 160 7 = nI (if ovQ y.1 1 = 0 then 1 else 0) ∧ (ovQ y.1 1 ≠ 0 → x = effV y.1)) := by
  show AW mX8_efficiency 7 true (PFx (fun x d' => fM d d' ∧ MR d' y ∧ d'.1 160 7 = nI (if ovQ y.1 1 = 0 then 1 else 0) ∧ (ovQ y.1 1 ≠ 0 → x = effV y.1)) nX) 0 0 0 [(0, .ref 160)] [] (HP d)
  have ok := hM.1.2
  have hr := hM.1.1
  have h12 := ok.2.1
  refine aw_aload_n dX8_efficiency_0 rfl ?_
  refine aw_iconst (v := 1) dX8_efficiency_1 (by decide) ?_
  refine aw_cVI dX8_efficiency_2 oX8_overAll vX8_overAll rfl lX8_202 (kX8_overAll_1 hr ok) rfl (hp_160 _) rfl rfl rfl (Nat.le_of_ble_eq_true rfl) (by decide) (Nat.le_of_ble_eq_true rfl) ?_
  rintro _ d1 ⟨hm1, rfl⟩
  have hr1 : RR (d1.1 161) y.1 := by rw [mS_g hm1]; exact hr
  have hov := ovQ1_le ok
  refine aw_istore_n dX8_efficiency_5 (by decide) rfl ?_
  refine aw_iload_n dX8_efficiency_6 rfl ?_
  refine aw_if_ne 17 dX8_efficiency_7 (by decide) (fun c7 => ?_) (fun c7 => ?_)
  · have hne : ovQ y.1 1 ≠ 0 := fun z => c7 (by rw [z]; rfl)
    refine aw_iconst (v := 0) dX8_efficiency_17 (by decide) ?_
    refine aw_istore_n dX8_efficiency_18 (by decide) rfl ?_
    refine aw_iconst (v := 0) dX8_efficiency_19 (by decide) ?_
    refine aw_istore_n dX8_efficiency_20 (by decide) rfl ?_
    have L21 : ∀ j, j ≤ y.1 0 1 → ∀ (v1 v2 : Int32), v1 = nI (sN j (fun t => if y.1 6 t = 0 then 0 else wt y.1 t)) → v2 = nI j → AW mX8_efficiency 7 true (PFx (fun x d' => fM d d' ∧ MR d' y ∧ d'.1 160 7 = nI (if ovQ y.1 1 = 0 then 1 else 0) ∧ (ovQ y.1 1 ≠ 0 → x = effV y.1)) nX) 0 0 21 [(0, .ref 160), (1, .int (nI (ovQ y.1 1))), (2, .int v1), (3, .int v2)] [] (HP d1) := by
      refine up_ind (fun j hj ih => ?_)
      rintro _ _ rfl rfl
      refine aw_iload_n dX8_efficiency_21 rfl ?_
      refine aw_aload_n dX8_efficiency_22 rfl ?_
      refine aw_gf dX8_efficiency_23 (hp_160 _) rfl fX8_7 (by decide) rfl ?_
      refine aw_bipush (v := 16) dX8_efficiency_26 (by decide) ?_
      refine aw_ialdN dX8_efficiency_28 (hp_161 _) rfl (16) (by first | rfl | (simp only [li_0, li_1, li_2, li_3, li_4, li_5, li_7, li_8, li_9, li_11, li_12, li_16, li_17, li_31, li_32, li_60, li_77, li_80, li_89, li_99, li_101, li_112, li_113, li_256, li_999, li_1023, nI_add, pk_mul])) (by omega) (by decide) ?_
      refine aw_icmp_ge 59 dX8_efficiency_29 (by decide) (fun c29 => ?_) (fun c29 => ?_)
      · have hge : y.1 0 1 ≤ j := (le_nI hr1.1.2 rfl (by omega) (by omega)).mp c29
        have hj2 : j = y.1 0 1 := by omega
        subst hj2
        refine aw_aload_n dX8_efficiency_59 rfl ?_
        refine aw_iconst (v := 0) dX8_efficiency_60 (by decide) ?_
        refine aw_putI (ci := 8) (j := 7) .int dX8_efficiency_61 fX8_70 rfl (by decide) rfl tyX8 tyX8_ok nmX8 rfl rfl rfl (hp_160 _) (Nat.le_of_ble_eq_true rfl) rfl ?_
        refine aw_iload_n dX8_efficiency_64 rfl ?_
        refine aw_i2f dX8_efficiency_65 ?_
        refine aw_iload_n dX8_efficiency_66 rfl ?_
        refine aw_aload_n dX8_efficiency_67 rfl ?_
        refine aw_gf dX8_efficiency_68 (hp_160 _) rfl fX8_7 (by decide) rfl ?_
        refine aw_iconst (v := 4) dX8_efficiency_71 (by decide) ?_
        refine aw_ialdN dX8_efficiency_72 (hp_161 _) rfl (4) (by first | rfl | (simp only [li_0, li_1, li_2, li_3, li_4, li_5, li_7, li_8, li_9, li_11, li_12, li_16, li_17, li_31, li_32, li_60, li_77, li_80, li_89, li_99, li_101, li_112, li_113, li_256, li_999, li_1023, nI_add, pk_mul])) (by omega) (by decide) ?_
        rw [dI_n _ _ (by decide), show d1.1 161 4 = nI (y.1 2 0) from hr1.2.2.1 0 (by decide)]
        refine aw_imul dX8_efficiency_73 ?_
        rw [pk_mul]
        refine aw_aload_n dX8_efficiency_74 rfl ?_
        refine aw_cVP dX8_efficiency_75 oX8_totalDemand vX8_totalDemand rfl lX8_105 (kX8_totalDemand (q := y.1) (by rw [dI_n _ _ (by decide)]; exact hr1) ok) rfl (hp_160 _) rfl rfl rfl (Nat.le_of_ble_eq_true rfl) (by decide) (Nat.le_of_ble_eq_true rfl) ?_
        refine aw_imul dX8_efficiency_78 ?_
        rw [pk_mul]
        refine aw_i2f dX8_efficiency_79 ?_
        refine aw_fdiv dX8_efficiency_80 (effV_n ok hne) ?_
        exact aw_endF dX8_efficiency_81 rfl (by exact ⟨fM_dI (mS_fM hm1) (by decide) _, MR_mS hM hm1 0, by rw [dI_s, if_neg hne]; rfl, fun _ => rfl⟩)
      · have hlt : j < y.1 0 1 := Nat.lt_of_not_le (fun z => c29 ((le_nI hr1.1.2 rfl (by omega) (by omega)).mpr z))
        have h6 := (ok.2.2.2.2.2.2.1 j (by omega)).2
        have hpl : d1.1 161 (17 + 5 * j + 4) = pv (y.1 6 j) := (hr1.2.2.2.2.1 j hlt).2.2
        refine aw_iload_n dX8_efficiency_32 rfl ?_
        refine aw_aload_n dX8_efficiency_33 rfl ?_
        refine aw_iload_n dX8_efficiency_34 rfl ?_
        refine aw_iconst (v := 4) dX8_efficiency_35 (by decide) ?_
        refine aw_cVP dX8_efficiency_36 oX8_of vX8_of rfl lX8_124 (kX8_of (t := j) (w := 4) (by omega) (by omega)) rfl (hp_160 _) rfl rfl rfl (Nat.le_of_ble_eq_true rfl) (by decide) (Nat.le_of_ble_eq_true rfl) ?_
        refine aw_if_lt 50 dX8_efficiency_39 (by decide) (fun c39 => ?_) (fun c39 => ?_)
        · refine aw_iconst (v := 0) dX8_efficiency_50 (by decide) ?_
          refine aw_iadd dX8_efficiency_51 ?_
          refine aw_istore_n dX8_efficiency_52 (by decide) rfl ?_
          refine aw_inc (c := 1) dX8_efficiency_53 (by decide) rfl (by decide) rfl ?_
          refine aw_goto (tgt := 21) dX8_efficiency_56 (by decide) ?_
          rw [hpl, pv_lt0 h6] at c39
          exact ih hlt _ _ (by simp only [sN]; rw [if_pos c39]; exact nI_add _ 0) (nI_1 j)
        · refine aw_aload_n dX8_efficiency_42 rfl ?_
          refine aw_iload_n dX8_efficiency_43 rfl ?_
          refine aw_cVP dX8_efficiency_44 oX8_weighted vX8_weighted rfl lX8_150 (kX8_weighted hr1 ok hlt) rfl (hp_160 _) rfl rfl rfl (Nat.le_of_ble_eq_true rfl) (by decide) (Nat.le_of_ble_eq_true rfl) ?_
          refine aw_goto (tgt := 51) dX8_efficiency_47 (by decide) ?_
          refine aw_iadd dX8_efficiency_51 ?_
          refine aw_istore_n dX8_efficiency_52 (by decide) rfl ?_
          refine aw_inc (c := 1) dX8_efficiency_53 (by decide) rfl (by decide) rfl ?_
          refine aw_goto (tgt := 21) dX8_efficiency_56 (by decide) ?_
          rw [hpl, pv_lt0 h6] at c39
          exact ih hlt _ _ (by simp only [sN]; rw [if_neg c39]; exact nI_add _ _) (nI_1 j)
    exact L21 0 (Nat.zero_le _) _ _ rfl rfl
  · refine aw_aload_n dX8_efficiency_10 rfl ?_
    refine aw_iconst (v := 1) dX8_efficiency_11 (by decide) ?_
    refine aw_putI (ci := 8) (j := 7) .int dX8_efficiency_12 fX8_70 rfl (by decide) rfl tyX8 tyX8_ok nmX8 rfl rfl rfl (hp_160 _) (Nat.le_of_ble_eq_true rfl) rfl ?_
    refine aw_fconst0 dX8_efficiency_15 ?_
    exact aw_endF dX8_efficiency_16 rfl (by have h0 : ovQ y.1 1 = 0 := nI_inj (by omega) (by omega) (c7 : nI (ovQ y.1 1) = nI 0); exact ⟨fM_dI (mS_fM hm1) (by decide) _, MR_mS hM hm1 1, by rw [dI_s, if_pos h0]; rfl, fun z => absurd h0 z⟩)

set_option maxHeartbeats 4000000 in
set_option maxRecDepth 100000 in
theorem kX8_save {y : Sy} {d : Dt} (hM : MR d y) : CI mX8_save 2 [.ref 160] d (fun x d' => RO d d' x (oSave y)) := by
  show AW mX8_save 2 true (PIx (fun x d' => RO d d' x (oSave y)) nX) 0 0 0 [(0, .ref 160)] [] (HP d)
  have ok := hM.1.2
  have hr := hM.1.1
  have h12 := ok.2.1
  refine aw_aload_n dX8_save_0 rfl ?_
  refine aw_iconst (v := 1) dX8_save_1 (by decide) ?_
  refine aw_putI (ci := 8) (j := 5) .boolean dX8_save_2 fX8_274 rfl (by decide) rfl tyX8 tyX8_ok nmX8 rfl rfl rfl (hp_160 _) (Nat.le_of_ble_eq_true rfl) rfl ?_
  generalize hd2 : dI d 160 (upd (d.1 160) 5 1) = d2
  have g160 : d2.1 160 = upd (d.1 160) 5 1 := by rw [← hd2, dI_s]
  have gN : ∀ i, i ≠ 160 → d2.1 i = d.1 i := fun i hi => by rw [← hd2, dI_n _ _ hi]
  have gf : fM d d2 := by rw [← hd2]; exact fM_dI (fM_r d) (by decide) _
  refine aw_iconst (v := 0) dX8_save_5 (by decide) ?_
  refine aw_istore_n dX8_save_6 (by decide) rfl ?_
  have L7 : ∀ j, j ≤ 113 → ∀ (v1 : Int32), v1 = nI j → AW mX8_save 2 true (PIx (fun x d' => RO d d' x (oSave y)) nX) 0 0 7 [(0, .ref 160), (1, .int v1)] [] (HP (dI d2 164 (cpy (d2.1 164) (d2.1 161) j))) := by
    refine up_ind (fun j hj ih => ?_)
    rintro _ rfl
    refine aw_iload_n dX8_save_7 rfl ?_
    refine aw_bipush (v := 113) dX8_save_8 (by decide) ?_
    refine aw_icmp_ge 31 dX8_save_10 (by decide) (fun c10 => ?_) (fun c10 => ?_)
    · have hge : 113 ≤ j := (le_nI (show (113 : Int32) = nI 113 from rfl) rfl (by omega) (by omega)).mp c10
      have hj2 : j = 113 := by omega
      subst hj2
      refine aw_aload_n dX8_save_31 rfl ?_
      refine aw_aload_n dX8_save_32 rfl ?_
      refine aw_gf dX8_save_33 (hp_160 _) rfl fX8_7 (by decide) rfl ?_
      refine aw_bipush (v := 16) dX8_save_36 (by decide) ?_
      refine aw_ialdN dX8_save_38 (hp_161 _) rfl (16) (by first | rfl | (simp only [li_0, li_1, li_2, li_3, li_4, li_5, li_7, li_8, li_9, li_11, li_12, li_16, li_17, li_31, li_32, li_60, li_77, li_80, li_89, li_99, li_101, li_112, li_113, li_256, li_999, li_1023, nI_add, pk_mul])) (by omega) (by decide) ?_
      refine aw_cVI dX8_save_39 oX8_done vX8_done rfl lX8_91 kX8_done rfl (hp_160 _) rfl rfl rfl (Nat.le_of_ble_eq_true rfl) (by decide) (Nat.le_of_ble_eq_true rfl) ?_
      rintro _ d8 ⟨rfl, rfl⟩
      exact aw_endI dX8_save_42 rfl (by exact RO_m hM (MR_parts hM (by rw [dI_n _ _ (by decide), gN 161 (by decide)]; exact hr) ok (by rw [dI_n _ _ (by decide), dI_n _ _ (by decide), gN 163 (by decide), g160]; exact hM.2.1) ⟨by rw [dI_n _ _ (by decide), g160]; rfl, by rw [dI_s]; exact RR_congr h12 (fun k hk => by rw [cpy_lt _ _ hk, gN 161 (by decide)]) hr, ok⟩ (by rw [dI_n _ _ (by decide), g160]; rfl) (by rw [dI_n _ _ (by decide), gN 172 (by decide)]) (by rw [dI_n _ _ (by decide), g160]; rfl)) (fM_dI gf (by decide) _) (by rw [dI_n _ _ (by decide), gN 161 (by decide)]; exact hr.1.2))
    · have hlt : j < 113 := Nat.lt_of_not_le (fun z => c10 ((le_nI (show (113 : Int32) = nI 113 from rfl) rfl (by omega) (by omega)).mpr z))
      refine aw_aload_n dX8_save_13 rfl ?_
      refine aw_gf dX8_save_14 (hp_160 _) rfl fX8_19 (by decide) rfl ?_
      refine aw_iload_n dX8_save_17 rfl ?_
      refine aw_aload_n dX8_save_18 rfl ?_
      refine aw_gf dX8_save_19 (hp_160 _) rfl fX8_7 (by decide) rfl ?_
      refine aw_iload_n dX8_save_22 rfl ?_
      refine aw_ialdN dX8_save_23 (hp_161 _) rfl (j) (by first | rfl | (simp only [li_0, li_1, li_2, li_3, li_4, li_5, li_7, li_8, li_9, li_11, li_12, li_16, li_17, li_31, li_32, li_60, li_77, li_80, li_89, li_99, li_101, li_112, li_113, li_256, li_999, li_1023, nI_add, pk_mul])) (by omega) (by decide) ?_
      refine aw_iastN dX8_save_24 hp_164 (j) (by first | rfl | (simp only [li_0, li_1, li_2, li_3, li_4, li_5, li_7, li_8, li_9, li_11, li_12, li_16, li_17, li_31, li_32, li_60, li_77, li_80, li_89, li_99, li_101, li_112, li_113, li_256, li_999, li_1023, nI_add, pk_mul])) (by omega) (by decide)  ?_
      refine aw_inc (c := 1) dX8_save_25 (by decide) rfl (by decide) rfl ?_
      refine aw_goto (tgt := 7) dX8_save_28 (by decide) ?_
      rw [cpy_s d2 (by decide)]
      exact ih hlt _ (nI_1 j)
  have e2 := L7 0 (Nat.zero_le _) _ rfl
  rw [cpy_0] at e2
  exact e2

set_option maxHeartbeats 4000000 in
set_option maxRecDepth 100000 in
theorem kX8_restore {y : Sy} {d : Dt} (hM : MR d y) : CI mX8_restore 2 [.ref 160] d (fun x d' => RO d d' x (oRestore y)) := by
  show AW mX8_restore 2 true (PIx (fun x d' => RO d d' x (oRestore y)) nX) 0 0 0 [(0, .ref 160)] [] (HP d)
  have ok := hM.1.2
  have hr := hM.1.1
  have h12 := ok.2.1
  have hS := hM.2.2.1
  refine aw_aload_n dX8_restore_0 rfl ?_
  refine aw_gf dX8_restore_1 (hp_160 _) rfl fX8_274 (by decide) rfl ?_
  refine aw_if_ne 13 dX8_restore_4 (by decide) (fun c4 => ?_) (fun c4 => ?_)
  · obtain ⟨p, ep⟩ : ∃ p, y.2.2.1 = some p := by
      cases hs : y.2.2.1 with
      | none => rw [hs] at hS; exact absurd hS c4
      | some p => exact ⟨p, rfl⟩
    rw [ep] at hS
    obtain ⟨h5, hr4, okp⟩ := hS
    have hcp : RR (cpy (d.1 161) (d.1 164) 113) p := RR_congr okp.2.1 (fun k hk => cpy_lt _ _ hk) hr4
    refine aw_iconst (v := 0) dX8_restore_13 (by decide) ?_
    refine aw_istore_n dX8_restore_14 (by decide) rfl ?_
    have L15 : ∀ j, j ≤ 113 → ∀ (v1 : Int32), v1 = nI j → AW mX8_restore 2 true (PIx (fun x d' => RO d d' x (oRestore y)) nX) 0 0 15 [(0, .ref 160), (1, .int v1)] [] (HP (dI d 161 (cpy (d.1 161) (d.1 164) j))) := by
      refine up_ind (fun j hj ih => ?_)
      rintro _ rfl
      refine aw_iload_n dX8_restore_15 rfl ?_
      refine aw_bipush (v := 113) dX8_restore_16 (by decide) ?_
      refine aw_icmp_ge 39 dX8_restore_18 (by decide) (fun c18 => ?_) (fun c18 => ?_)
      · have hge : 113 ≤ j := (le_nI (show (113 : Int32) = nI 113 from rfl) rfl (by omega) (by omega)).mp c18
        have hj2 : j = 113 := by omega
        subst hj2
        refine aw_aload_n dX8_restore_39 rfl ?_
        refine aw_iconst (v := 0) dX8_restore_40 (by decide) ?_
        refine aw_putI (ci := 8) (j := 3) .int dX8_restore_41 fX8_78 rfl (by decide) rfl tyX8 tyX8_ok nmX8 rfl rfl rfl (hp_160 _) (Nat.le_of_ble_eq_true rfl) rfl ?_
        refine aw_aload_n dX8_restore_44 rfl ?_
        refine aw_aload_n dX8_restore_45 rfl ?_
        refine aw_gf dX8_restore_46 (hp_160 _) rfl fX8_7 (by decide) rfl ?_
        refine aw_bipush (v := 16) dX8_restore_49 (by decide) ?_
        refine aw_ialdN dX8_restore_51 (hp_161 _) rfl (16) (by first | rfl | (simp only [li_0, li_1, li_2, li_3, li_4, li_5, li_7, li_8, li_9, li_11, li_12, li_16, li_17, li_31, li_32, li_60, li_77, li_80, li_89, li_99, li_101, li_112, li_113, li_256, li_999, li_1023, nI_add, pk_mul])) (by omega) (by decide) ?_
        refine aw_cVI dX8_restore_52 oX8_done vX8_done rfl lX8_91 kX8_done rfl (hp_160 _) rfl rfl rfl (Nat.le_of_ble_eq_true rfl) (by decide) (Nat.le_of_ble_eq_true rfl) ?_
        rintro _ d8 ⟨rfl, rfl⟩
        exact aw_endI dX8_restore_55 rfl (by rw [show oRestore y = (0, nI (p 0 1), p, [], y.2.2) from by unfold oRestore; rw [ep]]; exact RO_m hM (MR_parts hM (by rw [dI_n _ _ (by decide), dI_s]; exact hcp) okp (by rw [dI_s]; exact ⟨rfl, Nat.zero_le _, fun i hi => absurd hi (Nat.not_lt_zero _), fun p hp => absurd hp List.not_mem_nil⟩) (by rw [ep]; exact ⟨by rw [dI_s]; exact h5, by rw [dI_n _ _ (by decide), dI_n _ _ (by decide)]; exact hr4, okp⟩) (by rw [dI_s]; rfl) (by rw [dI_n _ _ (by decide), dI_n _ _ (by decide)]) (by rw [dI_s]; rfl)) (fM_dI (fM_dI (fM_r d) (by decide) _) (by decide) _) (by rw [dI_n _ _ (by decide), dI_s]; exact hcp.1.2))
      · have hlt : j < 113 := Nat.lt_of_not_le (fun z => c18 ((le_nI (show (113 : Int32) = nI 113 from rfl) rfl (by omega) (by omega)).mpr z))
        refine aw_aload_n dX8_restore_21 rfl ?_
        refine aw_gf dX8_restore_22 (hp_160 _) rfl fX8_7 (by decide) rfl ?_
        refine aw_iload_n dX8_restore_25 rfl ?_
        refine aw_aload_n dX8_restore_26 rfl ?_
        refine aw_gf dX8_restore_27 (hp_160 _) rfl fX8_19 (by decide) rfl ?_
        refine aw_iload_n dX8_restore_30 rfl ?_
        refine aw_ialdN dX8_restore_31 (hp_164 _) rfl (j) (by first | rfl | (simp only [li_0, li_1, li_2, li_3, li_4, li_5, li_7, li_8, li_9, li_11, li_12, li_16, li_17, li_31, li_32, li_60, li_77, li_80, li_89, li_99, li_101, li_112, li_113, li_256, li_999, li_1023, nI_add, pk_mul])) (by omega) (by decide) ?_
        refine aw_iastN dX8_restore_32 hp_161 (j) (by first | rfl | (simp only [li_0, li_1, li_2, li_3, li_4, li_5, li_7, li_8, li_9, li_11, li_12, li_16, li_17, li_31, li_32, li_60, li_77, li_80, li_89, li_99, li_101, li_112, li_113, li_256, li_999, li_1023, nI_add, pk_mul])) (by omega) (by decide)  ?_
        refine aw_inc (c := 1) dX8_restore_33 (by decide) rfl (by decide) rfl ?_
        refine aw_goto (tgt := 15) dX8_restore_36 (by decide) ?_
        rw [cpy_s d (by decide)]
        exact ih hlt _ (nI_1 j)
    have e2 := L15 0 (Nat.zero_le _) _ rfl
    rw [cpy_0] at e2
    exact e2
  · have e : y.2.2.1 = none := by
      cases hs : y.2.2.1 with
      | none => rfl
      | some p => rw [hs] at hS; exact absurd (hS.1.symm.trans c4) (by decide)
    refine aw_aload_n dX8_restore_7 rfl ?_
    refine aw_iconst (v := 1) dX8_restore_8 (by decide) ?_
    refine aw_cVI dX8_restore_9 oX8_fails vX8_fails rfl lX8_87 kX8_fails rfl (hp_160 _) rfl rfl rfl (Nat.le_of_ble_eq_true rfl) (by decide) (Nat.le_of_ble_eq_true rfl) ?_
    rintro _ d9 ⟨rfl, rfl⟩
    exact aw_endI dX8_restore_12 rfl (by rw [show oRestore y = (1, 0, y) from by unfold oRestore; rw [e]]; exact RO_f hM (mS_r d) rfl (by decide))
