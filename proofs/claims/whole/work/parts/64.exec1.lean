set_option maxHeartbeats 4000000 in
set_option maxRecDepth 100000 in
theorem kX7_isAdded {q : St} {w : Nat} {d : Dt} (hQ : KQ d q w) {a b c e : Int32} : CI mX7_isAdded 8 [.ref 132, .int a, .int b, .int c, .int e] d (fun x d' => IQ d d' x (iAdd q w a b c e)) := by
  show AW mX7_isAdded 8 true (PIx (fun x d' => IQ d d' x (iAdd q w a b c e)) nX) 0 0 0 [(0, .ref 132), (1, .int a), (2, .int b), (3, .int c), (4, .int e)] [] (HP d)
  have hs := hQ.1
  have ok := hQ.2.1
  have h12 := ok.2.1
  refine aw_iload_n dX7_isAdded_0 rfl ?_
  refine aw_iload_n dX7_isAdded_1 rfl ?_
  refine aw_iload_n dX7_isAdded_2 rfl ?_
  refine aw_iload dX7_isAdded_3 rfl ?_
  refine aw_cSP dX7_isAdded_5 oX7_isTaskData sX7_isTaskData rfl lX7_89 kX7_isTaskData rfl rfl (Nat.le_of_ble_eq_true rfl) (by decide) (Nat.le_of_ble_eq_true rfl) ?_
  refine aw_if_eq 23 dX7_isAdded_8 (by decide) (fun c8 => ?_) (fun c8 => ?_)
  · refine aw_iconst (v := 0) dX7_isAdded_23 (by decide) ?_
    exact aw_endZ dX7_isAdded_24 rfl (by decide) (by unfold iAdd; rw [if_neg (b2d_f c8)]; exact IQ_f (fQ_r d) hQ (Nat.succ_ne_zero _))
  · refine aw_aload_n dX7_isAdded_11 rfl ?_
    refine aw_gf dX7_isAdded_12 (hp_132 _) rfl fX7_12 (by decide) rfl ?_
    refine aw_gf dX7_isAdded_15 (hp_0 _) rfl fX7_93 (by decide) rfl ?_
    refine aw_bipush (v := 12) dX7_isAdded_18 (by decide) ?_
    rw [show d.1 0 (1) = nI (q 0 (1)) from hs 0 (1) (by decide) (show (1) < 2 by omega)]
    refine aw_icmp_lt 25 dX7_isAdded_20 (by decide) (fun c20 => ?_) (fun c20 => ?_)
    · have hlt : q 0 1 < 12 := by have := c20; rw [lt_nI (rfl : nI (q 0 1) = _) (show (12 : Int32) = nI 12 from rfl) (by omega) (by omega)] at this; exact this
      have hg := b2d_t c8
      obtain ⟨na, rfl, hna1, hna2⟩ := in_nI (a := 0) (b := 99) rfl rfl (by decide) (by decide) (hg.1)
      obtain ⟨nb, rfl, hnb1, hnb2⟩ := in_nI (a := 0) (b := 99) rfl rfl (by decide) (by decide) (hg.2.1)
      obtain ⟨nc, rfl, hnc1, hnc2⟩ := in_nI (a := 0) (b := 99) rfl rfl (by decide) (by decide) (hg.2.2.1)
      obtain ⟨ne, rfl, hne1, hne2⟩ := in_nI (a := 0) (b := 5) rfl rfl (by decide) (by decide) (hg.2.2.2)
      refine aw_aload_n dX7_isAdded_25 rfl ?_
      refine aw_gf dX7_isAdded_26 (hp_132 _) rfl fX7_12 (by decide) rfl ?_
      refine aw_iload_n dX7_isAdded_29 rfl ?_
      refine aw_iload_n dX7_isAdded_30 rfl ?_
      refine aw_iload_n dX7_isAdded_31 rfl ?_
      refine aw_iload dX7_isAdded_32 rfl ?_
      refine aw_cVI dX7_isAdded_34 oX4_append vX4_append rfl lX7_99 (kX4_append hs ok (by omega)) rfl (hp_0 _) rfl rfl rfl (Nat.le_of_ble_eq_true rfl) (by decide) (Nat.le_of_ble_eq_true rfl) ?_
      rintro _ d2 ⟨rfl, g2, hs2⟩
      refine aw_pop dX7_isAdded_37 rfl ?_
      refine aw_iconst (v := 1) dX7_isAdded_38 (by decide) ?_
      exact aw_endZ dX7_isAdded_39 rfl (by decide) (by unfold iAdd; rw [if_pos hg, if_neg (by omega), ivn (by omega), ivn (by omega), ivn (by omega), ivn (by omega)]; exact IQ_d (fN_Q g2) (KQ_N hQ (fN_NW g2) hs2 (QOK_add ok (by omega) hna2 hnb2 hnc2 hne2)))
    · refine aw_iconst (v := 0) dX7_isAdded_23 (by decide) ?_
      exact aw_endZ dX7_isAdded_24 rfl (by decide) (by unfold iAdd; rw [if_pos (b2d_t c8), if_pos (show q 0 1 = 12 by have := mt (lt_nI (rfl : nI (q 0 1) = _) (show (12 : Int32) = nI 12 from rfl) (by omega) (by omega)).mpr c20; omega)]; exact IQ_f (fQ_r d) hQ (Nat.succ_ne_zero _))

set_option maxHeartbeats 4000000 in
set_option maxRecDepth 100000 in
theorem kX7_isLinked {q : St} {w : Nat} {d : Dt} (hQ : KQ d q w) {a b : Int32} : CI mX7_isLinked 8 [.ref 132, .int a, .int b] d (fun x d' => IQ d d' x (iBef q w a b)) := by
  show AW mX7_isLinked 8 true (PIx (fun x d' => IQ d d' x (iBef q w a b)) nX) 0 0 0 [(0, .ref 132), (1, .int a), (2, .int b)] [] (HP d)
  have hs := hQ.1
  have ok := hQ.2.1
  have h12 := ok.2.1
  refine aw_aload_n dX7_isLinked_0 rfl ?_
  refine aw_gf dX7_isLinked_1 (hp_132 _) rfl fX7_12 (by decide) rfl ?_
  refine aw_iload_n dX7_isLinked_4 rfl ?_
  refine aw_cVP dX7_isLinked_5 oX4_hasTask vX4_hasTask rfl lX7_103 (kX4_hasT hs) rfl (hp_0 _) rfl rfl rfl (Nat.le_of_ble_eq_true rfl) (by decide) (Nat.le_of_ble_eq_true rfl) ?_
  refine aw_if_eq 27 dX7_isLinked_8 (by decide) (fun c8 => ?_) (fun c8 => ?_)
  · refine aw_iconst (v := 0) dX7_isLinked_27 (by decide) ?_
    exact aw_endZ dX7_isLinked_28 rfl (by decide) (by unfold iBef; rw [if_neg (fun z => b2d_f c8 z.1)]; exact IQ_f (fQ_r d) hQ (Nat.succ_ne_zero _))
  · refine aw_aload_n dX7_isLinked_11 rfl ?_
    refine aw_gf dX7_isLinked_12 (hp_132 _) rfl fX7_12 (by decide) rfl ?_
    refine aw_iload_n dX7_isLinked_15 rfl ?_
    refine aw_cVP dX7_isLinked_16 oX4_hasTask vX4_hasTask rfl lX7_103 (kX4_hasT hs) rfl (hp_0 _) rfl rfl rfl (Nat.le_of_ble_eq_true rfl) (by decide) (Nat.le_of_ble_eq_true rfl) ?_
    refine aw_if_eq 27 dX7_isLinked_19 (by decide) (fun c19 => ?_) (fun c19 => ?_)
    · refine aw_iconst (v := 0) dX7_isLinked_27 (by decide) ?_
      exact aw_endZ dX7_isLinked_28 rfl (by decide) (by unfold iBef; rw [if_neg (fun z => b2d_f c19 z.2)]; exact IQ_f (fQ_r d) hQ (Nat.succ_ne_zero _))
    · refine aw_iload_n dX7_isLinked_22 rfl ?_
      refine aw_iload_n dX7_isLinked_23 rfl ?_
      refine aw_icmp_ne 29 dX7_isLinked_24 (by decide) (fun c24 => ?_) (fun c24 => ?_)
      · have hg : tkI q a ∧ tkI q b := ⟨b2d_t c8, b2d_t c19⟩
        obtain ⟨k, rfl, hk⟩ := tk_nI h12 (hg.1)
        obtain ⟨n, rfl, hn⟩ := tk_nI h12 (hg.2)
        have hne : k ≠ n := fun z => c24 (by rw [z])
        refine aw_aload_n dX7_isLinked_29 rfl ?_
        refine aw_gf dX7_isLinked_30 (hp_132 _) rfl fX7_12 (by decide) rfl ?_
        refine aw_iload_n dX7_isLinked_33 rfl ?_
        refine aw_iload_n dX7_isLinked_34 rfl ?_
        refine aw_cVP dX7_isLinked_35 oX4_isDirectlyBefore vX4_isDirectlyBefore rfl lX7_118 (kX4_isDirectlyBefore hs ok (a := k) (b := n) (by omega) (by omega)) rfl (hp_0 _) rfl rfl rfl (Nat.le_of_ble_eq_true rfl) (by decide) (Nat.le_of_ble_eq_true rfl) ?_
        refine aw_if_ne 53 dX7_isLinked_38 (by decide) (fun c38 => ?_) (fun c38 => ?_)
        · refine aw_iconst (v := 0) dX7_isLinked_53 (by decide) ?_
          exact aw_endZ dX7_isLinked_54 rfl (by decide) (by unfold iBef; rw [if_pos hg, ivn (by omega), ivn (by omega), if_pos (Or.inr (b2i_ne.mp c38))]; exact IQ_f (fQ_r d) hQ (Nat.succ_ne_zero _))
        · have hn2 : ¬ (nI k = nI n ∨ (q 7 n).testBit k = true) := fun z => by rcases z with z | z; exact c24 z; rw [z] at c38; exact absurd c38 (by decide)
          refine aw_aload_n dX7_isLinked_41 rfl ?_
          refine aw_gf dX7_isLinked_42 (hp_132 _) rfl fX7_12 (by decide) rfl ?_
          refine aw_iload_n dX7_isLinked_45 rfl ?_
          refine aw_iload_n dX7_isLinked_46 rfl ?_
          refine aw_cVP dX7_isLinked_47 oX4_isBefore vX4_isBefore rfl lX7_121 (kX4_isBefore hs ok (a := n) (b := k) (by omega) (by omega)) rfl (hp_0 _) rfl rfl rfl (Nat.le_of_ble_eq_true rfl) (by decide) (Nat.le_of_ble_eq_true rfl) ?_
          refine aw_if_eq 55 dX7_isLinked_50 (by decide) (fun c50 => ?_) (fun c50 => ?_)
          · have hn3 : ¬ (q 8 k).testBit n = true := fun z => by rw [z] at c50; exact absurd c50 (by decide)
            have okb := QOK_bef ok hk hn hne (by cases hh : (q 8 k).testBit n with | true => exact absurd hh hn3 | false => rfl)
            refine aw_aload_n dX7_isLinked_55 rfl ?_
            refine aw_gf dX7_isLinked_56 (hp_132 _) rfl fX7_12 (by decide) rfl ?_
            refine aw_iload_n dX7_isLinked_59 rfl ?_
            refine aw_iload_n dX7_isLinked_60 rfl ?_
            refine aw_cVv dX7_isLinked_61 oX4_link vX4_link rfl lX7_127 (kX4_link hs ok hk hn) rfl (hp_0 _) rfl rfl rfl (Nat.le_of_ble_eq_true rfl) (by decide) (Nat.le_of_ble_eq_true rfl) ?_
            rintro d2 ⟨g2, hs2⟩
            refine aw_iconst (v := 1) dX7_isLinked_64 (by decide) ?_
            exact aw_endZ dX7_isLinked_65 rfl (by decide) (by unfold iBef; rw [if_pos hg, ivn (by omega), ivn (by omega), if_neg hn2, if_neg hn3]; exact IQ_d (fN_Q g2) (KQ_N hQ (fN_NW g2) hs2 okb))
          · refine aw_iconst (v := 0) dX7_isLinked_53 (by decide) ?_
            exact aw_endZ dX7_isLinked_54 rfl (by decide) (by unfold iBef; rw [if_pos hg, ivn (by omega), ivn (by omega), if_neg hn2, if_pos (b2i_ne.mp c50)]; exact IQ_f (fQ_r d) hQ (Nat.succ_ne_zero _))
      · refine aw_iconst (v := 0) dX7_isLinked_27 (by decide) ?_
        exact aw_endZ dX7_isLinked_28 rfl (by decide) (by unfold iBef; rw [if_pos ⟨b2d_t c8, b2d_t c19⟩, if_pos (Or.inl c24)]; exact IQ_f (fQ_r d) hQ (Nat.succ_ne_zero _))

set_option maxHeartbeats 4000000 in
set_option maxRecDepth 100000 in
theorem kX7_isPaired_a {q : St} {w : Nat} {d : Dt} (hQ : KQ d q w) {a b : Int32} : CI mX7_isPaired 8 [.ref 132, .int a, .int b, .int 1] d (fun x d' => IQ d d' x (iPair q w a b 10)) := by
  show AW mX7_isPaired 8 true (PIx (fun x d' => IQ d d' x (iPair q w a b 10)) nX) 0 0 0 [(0, .ref 132), (1, .int a), (2, .int b), (3, .int 1)] [] (HP d)
  have hs := hQ.1
  have ok := hQ.2.1
  have h12 := ok.2.1
  refine aw_aload_n dX7_isPaired_0 rfl ?_
  refine aw_gf dX7_isPaired_1 (hp_132 _) rfl fX7_12 (by decide) rfl ?_
  refine aw_iload_n dX7_isPaired_4 rfl ?_
  refine aw_cVP dX7_isPaired_5 oX4_hasTask vX4_hasTask rfl lX7_103 (kX4_hasT hs) rfl (hp_0 _) rfl rfl rfl (Nat.le_of_ble_eq_true rfl) (by decide) (Nat.le_of_ble_eq_true rfl) ?_
  refine aw_if_eq 27 dX7_isPaired_8 (by decide) (fun c8 => ?_) (fun c8 => ?_)
  · refine aw_iconst (v := 0) dX7_isPaired_27 (by decide) ?_
    exact aw_endZ dX7_isPaired_28 rfl (by decide) (by unfold iPair; rw [if_neg (fun z => b2d_f c8 z.1)]; exact IQ_f (fQ_r d) hQ (Nat.succ_ne_zero _))
  · refine aw_aload_n dX7_isPaired_11 rfl ?_
    refine aw_gf dX7_isPaired_12 (hp_132 _) rfl fX7_12 (by decide) rfl ?_
    refine aw_iload_n dX7_isPaired_15 rfl ?_
    refine aw_cVP dX7_isPaired_16 oX4_hasTask vX4_hasTask rfl lX7_103 (kX4_hasT hs) rfl (hp_0 _) rfl rfl rfl (Nat.le_of_ble_eq_true rfl) (by decide) (Nat.le_of_ble_eq_true rfl) ?_
    refine aw_if_eq 27 dX7_isPaired_19 (by decide) (fun c19 => ?_) (fun c19 => ?_)
    · refine aw_iconst (v := 0) dX7_isPaired_27 (by decide) ?_
      exact aw_endZ dX7_isPaired_28 rfl (by decide) (by unfold iPair; rw [if_neg (fun z => b2d_f c19 z.2)]; exact IQ_f (fQ_r d) hQ (Nat.succ_ne_zero _))
    · refine aw_iload_n dX7_isPaired_22 rfl ?_
      refine aw_iload_n dX7_isPaired_23 rfl ?_
      refine aw_icmp_ne 29 dX7_isPaired_24 (by decide) (fun c24 => ?_) (fun c24 => ?_)
      · have hg : tkI q a ∧ tkI q b := ⟨b2d_t c8, b2d_t c19⟩
        obtain ⟨k, rfl, hk⟩ := tk_nI h12 (hg.1)
        obtain ⟨n, rfl, hn⟩ := tk_nI h12 (hg.2)
        have hne : k ≠ n := fun z => c24 (by rw [z])
        refine aw_aload_n dX7_isPaired_29 rfl ?_
        refine aw_gf dX7_isPaired_30 (hp_132 _) rfl fX7_12 (by decide) rfl ?_
        refine aw_iload_n dX7_isPaired_33 rfl ?_
        refine aw_iload_n dX7_isPaired_34 rfl ?_
        refine aw_iload_n dX7_isPaired_35 rfl ?_
        refine aw_cVv dX7_isPaired_36 oX4_join vX4_join rfl lX7_144 (kX4_join_a hs ok hk hn hne) rfl (hp_0 _) rfl rfl rfl (Nat.le_of_ble_eq_true rfl) (by decide) (Nat.le_of_ble_eq_true rfl) ?_
        rintro d2 ⟨g2, hs2⟩
        refine aw_iconst (v := 1) dX7_isPaired_39 (by decide) ?_
        exact aw_endZ dX7_isPaired_40 rfl (by decide) (by unfold iPair; rw [if_pos hg, if_neg c24, ivn (by omega), ivn (by omega)]; exact IQ_d (fN_Q g2) (KQ_N hQ (fN_NW g2) hs2 (QOK_jn ok (by decide) hk hn hne)))
      · refine aw_iconst (v := 0) dX7_isPaired_27 (by decide) ?_
        exact aw_endZ dX7_isPaired_28 rfl (by decide) (by unfold iPair; rw [if_pos ⟨b2d_t c8, b2d_t c19⟩, if_pos (c24)]; exact IQ_f (fQ_r d) hQ (Nat.succ_ne_zero _))

set_option maxHeartbeats 4000000 in
set_option maxRecDepth 100000 in
theorem kX7_isPaired_t {q : St} {w : Nat} {d : Dt} (hQ : KQ d q w) {a b : Int32} : CI mX7_isPaired 8 [.ref 132, .int a, .int b, .int 0] d (fun x d' => IQ d d' x (iPair q w a b 11)) := by
  show AW mX7_isPaired 8 true (PIx (fun x d' => IQ d d' x (iPair q w a b 11)) nX) 0 0 0 [(0, .ref 132), (1, .int a), (2, .int b), (3, .int 0)] [] (HP d)
  have hs := hQ.1
  have ok := hQ.2.1
  have h12 := ok.2.1
  refine aw_aload_n dX7_isPaired_0 rfl ?_
  refine aw_gf dX7_isPaired_1 (hp_132 _) rfl fX7_12 (by decide) rfl ?_
  refine aw_iload_n dX7_isPaired_4 rfl ?_
  refine aw_cVP dX7_isPaired_5 oX4_hasTask vX4_hasTask rfl lX7_103 (kX4_hasT hs) rfl (hp_0 _) rfl rfl rfl (Nat.le_of_ble_eq_true rfl) (by decide) (Nat.le_of_ble_eq_true rfl) ?_
  refine aw_if_eq 27 dX7_isPaired_8 (by decide) (fun c8 => ?_) (fun c8 => ?_)
  · refine aw_iconst (v := 0) dX7_isPaired_27 (by decide) ?_
    exact aw_endZ dX7_isPaired_28 rfl (by decide) (by unfold iPair; rw [if_neg (fun z => b2d_f c8 z.1)]; exact IQ_f (fQ_r d) hQ (Nat.succ_ne_zero _))
  · refine aw_aload_n dX7_isPaired_11 rfl ?_
    refine aw_gf dX7_isPaired_12 (hp_132 _) rfl fX7_12 (by decide) rfl ?_
    refine aw_iload_n dX7_isPaired_15 rfl ?_
    refine aw_cVP dX7_isPaired_16 oX4_hasTask vX4_hasTask rfl lX7_103 (kX4_hasT hs) rfl (hp_0 _) rfl rfl rfl (Nat.le_of_ble_eq_true rfl) (by decide) (Nat.le_of_ble_eq_true rfl) ?_
    refine aw_if_eq 27 dX7_isPaired_19 (by decide) (fun c19 => ?_) (fun c19 => ?_)
    · refine aw_iconst (v := 0) dX7_isPaired_27 (by decide) ?_
      exact aw_endZ dX7_isPaired_28 rfl (by decide) (by unfold iPair; rw [if_neg (fun z => b2d_f c19 z.2)]; exact IQ_f (fQ_r d) hQ (Nat.succ_ne_zero _))
    · refine aw_iload_n dX7_isPaired_22 rfl ?_
      refine aw_iload_n dX7_isPaired_23 rfl ?_
      refine aw_icmp_ne 29 dX7_isPaired_24 (by decide) (fun c24 => ?_) (fun c24 => ?_)
      · have hg : tkI q a ∧ tkI q b := ⟨b2d_t c8, b2d_t c19⟩
        obtain ⟨k, rfl, hk⟩ := tk_nI h12 (hg.1)
        obtain ⟨n, rfl, hn⟩ := tk_nI h12 (hg.2)
        have hne : k ≠ n := fun z => c24 (by rw [z])
        refine aw_aload_n dX7_isPaired_29 rfl ?_
        refine aw_gf dX7_isPaired_30 (hp_132 _) rfl fX7_12 (by decide) rfl ?_
        refine aw_iload_n dX7_isPaired_33 rfl ?_
        refine aw_iload_n dX7_isPaired_34 rfl ?_
        refine aw_iload_n dX7_isPaired_35 rfl ?_
        refine aw_cVv dX7_isPaired_36 oX4_join vX4_join rfl lX7_144 (kX4_join_t hs ok hk hn hne) rfl (hp_0 _) rfl rfl rfl (Nat.le_of_ble_eq_true rfl) (by decide) (Nat.le_of_ble_eq_true rfl) ?_
        rintro d2 ⟨g2, hs2⟩
        refine aw_iconst (v := 1) dX7_isPaired_39 (by decide) ?_
        exact aw_endZ dX7_isPaired_40 rfl (by decide) (by unfold iPair; rw [if_pos hg, if_neg c24, ivn (by omega), ivn (by omega)]; exact IQ_d (fN_Q g2) (KQ_N hQ (fN_NW g2) hs2 (QOK_jn ok (by decide) hk hn hne)))
      · refine aw_iconst (v := 0) dX7_isPaired_27 (by decide) ?_
        exact aw_endZ dX7_isPaired_28 rfl (by decide) (by unfold iPair; rw [if_pos ⟨b2d_t c8, b2d_t c19⟩, if_pos (c24)]; exact IQ_f (fQ_r d) hQ (Nat.succ_ne_zero _))

set_option maxHeartbeats 4000000 in
set_option maxRecDepth 100000 in
theorem kX7_isCycleSet {q : St} {w : Nat} {d : Dt} (hQ : KQ d q w) {b : Int32} : CI mX7_isCycleSet 8 [.ref 132, .int b] d (fun x d' => IQ d d' x (iRule q w 0 b)) := by
  show AW mX7_isCycleSet 8 true (PIx (fun x d' => IQ d d' x (iRule q w 0 b)) nX) 0 0 0 [(0, .ref 132), (1, .int b)] [] (HP d)
  have hs := hQ.1
  have ok := hQ.2.1
  have h12 := ok.2.1
  refine aw_iconst (v := 0) dX7_isCycleSet_0 (by decide) ?_
  refine aw_iload_n dX7_isCycleSet_1 rfl ?_
  refine aw_cSP dX7_isCycleSet_2 oX7_isRuleValue sX7_isRuleValue rfl lX7_71 (kX7_isRuleValue (a := 0) (b := b)) rfl rfl (Nat.le_of_ble_eq_true rfl) (by decide) (Nat.le_of_ble_eq_true rfl) ?_
  refine aw_if_ne 10 dX7_isCycleSet_5 (by decide) (fun c5 => ?_) (fun c5 => ?_)
  · have hg := b2d_t c5
    obtain ⟨k, n, hk0, rfl, hk, hq, hkn⟩ := rl_nI ok (b2d_t c5)
    have hk1 : k = 0 := (nI_inj (show 0 < 2 ^ 31 by decide) (show k < 2 ^ 31 by omega) (hk0 : nI 0 = nI k)).symm
    subst hk1
    refine aw_aload_n dX7_isCycleSet_10 rfl ?_
    refine aw_gf dX7_isCycleSet_11 (hp_132 _) rfl fX7_12 (by decide) rfl ?_
    refine aw_gf dX7_isCycleSet_14 (hp_0 _) rfl fX7_75 (by decide) rfl ?_
    refine aw_iconst (v := 0) dX7_isCycleSet_17 (by decide) ?_
    refine aw_iload_n dX7_isCycleSet_18 rfl ?_
    refine aw_iastN dX7_isCycleSet_19 hp_2 (0) rfl (by omega) (by decide)  ?_
    refine aw_iconst (v := 1) dX7_isCycleSet_20 (by decide) ?_
    exact aw_endZ dX7_isCycleSet_21 rfl (by decide) (by unfold iRule; rw [if_pos hg, show iv (0 : Int32) = 0 from rfl, ivn (by omega)]; exact IQ_d (fN_Q (fN_dI (fN_r d) (by decide) _)) (KQ_N hQ (fN_NW (fN_dI (fN_r d) (by decide) _)) (KS_up hs (j := 2) (k := 0) (v := n) rfl rfl) hq))
  · refine aw_iconst (v := 0) dX7_isCycleSet_8 (by decide) ?_
    exact aw_endZ dX7_isCycleSet_9 rfl (by decide) (by unfold iRule; rw [if_neg (b2d_f c5)]; exact IQ_f (fQ_r d) hQ (Nat.succ_ne_zero _))

set_option maxHeartbeats 4000000 in
set_option maxRecDepth 100000 in
theorem kX7_isPut {q : St} {w : Nat} {d : Dt} (hQ : KQ d q w) {a : Int32} {n : Nat} (hn31 : n < 2 ^ 31) : CI mX7_isPut 8 [.ref 132, .int a, .int (nI n)] d (fun x d' => IQ d d' x (iAsg q w a (nI n))) := by
  show AW mX7_isPut 8 true (PIx (fun x d' => IQ d d' x (iAsg q w a (nI n))) nX) 0 0 0 [(0, .ref 132), (1, .int a), (2, .int (nI n))] [] (HP d)
  have hs := hQ.1
  have ok := hQ.2.1
  have h12 := ok.2.1
  refine aw_aload_n dX7_isPut_0 rfl ?_
  refine aw_gf dX7_isPut_1 (hp_132 _) rfl fX7_12 (by decide) rfl ?_
  refine aw_iload_n dX7_isPut_4 rfl ?_
  refine aw_cVP dX7_isPut_5 oX4_hasTask vX4_hasTask rfl lX7_103 (kX4_hasT hs) rfl (hp_0 _) rfl rfl rfl (Nat.le_of_ble_eq_true rfl) (by decide) (Nat.le_of_ble_eq_true rfl) ?_
  refine aw_if_eq 18 dX7_isPut_8 (by decide) (fun c8 => ?_) (fun c8 => ?_)
  · refine aw_iconst (v := 0) dX7_isPut_18 (by decide) ?_
    exact aw_endZ dX7_isPut_19 rfl (by decide) (by unfold iAsg; rw [if_neg (fun z => b2d_f c8 z.1)]; exact IQ_f (fQ_r d) hQ (Nat.succ_ne_zero _))
  · refine aw_iload_n dX7_isPut_11 rfl ?_
    refine aw_cSP dX7_isPut_12 oX7_isStation sX7_isStation rfl lX7_82 kX7_isStation rfl rfl (Nat.le_of_ble_eq_true rfl) (by decide) (Nat.le_of_ble_eq_true rfl) ?_
    refine aw_if_ne 20 dX7_isPut_15 (by decide) (fun c15 => ?_) (fun c15 => ?_)
    · have hg7 := b2d_t c15
      obtain ⟨n7, hn7, -, hn72⟩ := in_nI (a := 0) (b := 7) rfl rfl (by decide) (by decide) hg7
      have hn8 : n < 8 := by have := nI_inj hn31 (by omega) hn7; omega
      have hg : tkI q a ∧ gI (-1) 7 (nI n) := ⟨b2d_t c8, gm1.mpr (Or.inr hg7)⟩
      obtain ⟨k, rfl, hk⟩ := tk_nI h12 (hg.1)
      have hr6 : refQ q k n ≤ 6 := refQ_le q k n
      refine aw_aload_n dX7_isPut_20 rfl ?_
      refine aw_gf dX7_isPut_21 (hp_132 _) rfl fX7_24 (by decide) rfl ?_
      refine aw_iload_n dX7_isPut_24 rfl ?_
      refine aw_iload_n dX7_isPut_25 rfl ?_
      refine aw_cVI dX7_isPut_26 oX5_refusal vX5_refusal rfl lX7_184 (kX5_refusal hs ok hk (by omega)) rfl (hp_133 _) rfl rfl rfl (Nat.le_of_ble_eq_true rfl) (by decide) (Nat.le_of_ble_eq_true rfl) ?_
      rintro _ d1 ⟨g1, rfl⟩
      have hs1 : KS 0 d1 q := KS_k hs (fun j hj => g1.2 _ (by omega))
      refine aw_istore_n dX7_isPut_29 (by decide) rfl ?_
      refine aw_aload_n dX7_isPut_30 rfl ?_
      refine aw_iload_n dX7_isPut_31 rfl ?_
      refine aw_cVv dX7_isPut_32 oX7_keepReason vX7_keepReason rfl lX7_187 (kX7_keepReason (x := nI (refQ q k n))) rfl (hp_132 _) rfl rfl rfl (Nat.le_of_ble_eq_true rfl) (by decide) (Nat.le_of_ble_eq_true rfl) ?_
      rintro d2 hd2
      by_cases h0 : refQ q k n = 0
      · rw [if_pos (show nI (refQ q k n) = 0 from by rw [h0]; rfl)] at hd2
        subst hd2
        refine aw_iload_n dX7_isPut_35 rfl ?_
        refine aw_if_ne 49 dX7_isPut_36 (by decide) (fun c36 => (c36 (by rw [h0]; rfl)).elim) (fun c36 => ?_)
        refine aw_aload_n dX7_isPut_39 rfl ?_
        refine aw_gf dX7_isPut_40 (hp_132 _) rfl fX7_12 (by decide) rfl ?_
        refine aw_gf dX7_isPut_43 (hp_0 _) rfl fX7_160 (by decide) rfl ?_
        refine aw_iload_n dX7_isPut_46 rfl ?_
        refine aw_iload_n dX7_isPut_47 rfl ?_
        refine aw_iastN dX7_isPut_48 hp_6 (k) (by first | rfl | (simp only [li_0, li_1, li_2, li_3, li_4, li_5, li_7, li_8, li_9, li_11, li_12, li_16, li_17, li_31, li_32, li_60, li_77, li_80, li_89, li_99, li_101, li_112, li_113, li_256, li_999, li_1023, nI_add, pk_mul])) (by omega) (by decide)  ?_
        refine aw_iload_n dX7_isPut_49 rfl ?_
        refine aw_if_ne 57 dX7_isPut_50 (by decide) (fun c50 => (c50 (by rw [h0]; rfl)).elim) (fun c50 => ?_)
        refine aw_iconst (v := 1) dX7_isPut_53 (by decide) ?_
        refine aw_goto (tgt := 58) dX7_isPut_54 (by decide) ?_
        exact aw_endZ dX7_isPut_58 rfl (by decide) (by unfold iAsg; rw [if_pos hg, if_neg (nI_m1 hn31), ivn (by omega), ivn (by omega), if_pos h0]; exact IQ_d (fQ_t (fNW_Q (fW_NW g1)) (fN_Q (fN_dI (fN_r _) (by decide) _))) (KQ_N (KQ_N hQ (fW_NW g1) hs1 ok) (fN_NW (fN_dI (fN_r _) (by decide) _)) (KS_up hs1 (j := 6) (k := k) (v := n + 1) rfl (by rw [if_pos rfl, pv_s])) (QOK_up ok (by decide) (by omega) ⟨fun z => absurd z (by decide), fun z => absurd z (by decide), fun z => absurd z (by decide), fun z => absurd z (by decide), fun z => absurd z (by decide), fun z => absurd z (by decide), fun _ => ⟨by omega, hk⟩, fun z => absurd z (by decide)⟩)))
      · have hx0 : ¬ nI (refQ q k n) = 0 := fun z => h0 (nI_inj (by omega) (by omega) (z : nI (refQ q k n) = nI 0))
        rw [if_neg hx0] at hd2
        refine aw_iload_n dX7_isPut_35 rfl ?_
        refine aw_if_ne 49 dX7_isPut_36 (by decide) (fun c36 => ?_) (fun c36 => (hx0 c36).elim)
        refine aw_iload_n dX7_isPut_49 rfl ?_
        refine aw_if_ne 57 dX7_isPut_50 (by decide) (fun c50 => ?_) (fun c50 => (hx0 c50).elim)
        refine aw_iconst (v := 0) dX7_isPut_57 (by decide) ?_
        exact aw_endZ dX7_isPut_58 rfl (by decide) (by unfold iAsg; rw [if_pos hg, if_neg (nI_m1 hn31), ivn (by omega), ivn (by omega), if_neg h0, hd2]; exact IQ_f (fQ_7 (fNW_Q (fW_NW g1)) _) ⟨KS_k hs1 (fun j hj => dI_n _ _ (by omega)), ok, by rw [dI_s, upd_at], hr6⟩ (Nat.succ_ne_zero _))
    · refine aw_iconst (v := 0) dX7_isPut_18 (by decide) ?_
      exact aw_endZ dX7_isPut_19 rfl (by decide) (by unfold iAsg; rw [if_neg (fun z => b2d_f c15 (by rcases gm1.mp z.2 with w | w; exact absurd w (nI_m1 hn31); exact w))]; exact IQ_f (fQ_r d) hQ (Nat.succ_ne_zero _))
