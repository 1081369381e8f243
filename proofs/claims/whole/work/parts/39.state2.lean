set_option maxHeartbeats 4000000 in
set_option maxRecDepth 100000 in
theorem kX4_join_a {q : St} {d : Dt} (hs : KS 0 d q) (ok : QOK q) {a b : Nat} (ha : a < q 0 1) (hb : b < q 0 1) (hne : a ≠ b) : CV mX4_join 2 [.ref 0, .int (nI a), .int (nI b), .int 1] d (fun d' => fN d d' ∧ KS 0 d' (jn q 10 a b)) := by
  show AW mX4_join 2 true (PVx (fun d' => fN d d' ∧ KS 0 d' (jn q 10 a b)) nX) 0 0 0 [(0, .ref 0), (1, .int (nI a)), (2, .int (nI b)), (3, .int 1)] [] (HP d)
  have h12 := ok.2.1
  have hqa := q78_lt ok (show a < 12 by omega)
  have hqb := q78_lt ok (show b < 12 by omega)
  have e1 : 2 ^ b < 4096 := Nat.pow_lt_pow_right (m := b) (n := 12) (by decide) (by omega)
  have e2 : 2 ^ a < 4096 := Nat.pow_lt_pow_right (m := a) (n := 12) (by decide) (by omega)
  refine aw_aload_n dX4_join_0 rfl ?_
  refine aw_iload_n dX4_join_1 rfl ?_
  refine aw_iload_n dX4_join_2 rfl ?_
  refine aw_cVv dX4_join_3 oX4_unpair vX4_unpair rfl lX4_101 (kX4_unpair hs ok ha hb hne) rfl (hp_0 _) rfl rfl rfl (Nat.le_of_ble_eq_true rfl) (by decide) (Nat.le_of_ble_eq_true rfl) ?_
  rintro d1 ⟨f1, k1⟩
  refine aw_iload_n dX4_join_6 rfl ?_
  refine aw_if_eq 17 dX4_join_7 (by decide) (fun c7 => (show False from absurd c7 (by decide)).elim) (fun c7 => ?_)
  refine aw_aload_n dX4_join_10 rfl ?_
  refine aw_gf dX4_join_11 (hp_0 _) rfl fX4_43 (by decide) rfl ?_
  refine aw_goto (tgt := 21) dX4_join_14 (by decide) ?_
  refine aw_astore dX4_join_21 (by decide) rfl ?_
  refine aw_aload dX4_join_23 rfl ?_
  refine aw_iload_n dX4_join_25 rfl ?_
  refine aw_dup2 dX4_join_26 rfl rfl ?_
  refine aw_ialdN dX4_join_27 (hp_10 _) rfl (a) (by first | rfl | (simp only [li_0, li_1, li_2, li_3, li_4, li_5, li_7, li_8, li_9, li_11, li_12, li_16, li_17, li_31, li_32, li_60, li_77, li_80, li_89, li_99, li_101, li_112, li_113, li_256, li_999, li_1023, nI_add, pk_mul])) (by omega) (by decide) ?_
  rw [show d1.1 10 a = nI (prt q a b 10 a) from k1 10 a (by decide) (show a < 12 by omega)]
  refine aw_iconst (v := 1) dX4_join_28 (by decide) ?_
  refine aw_iload_n dX4_join_29 rfl ?_
  refine aw_ishl dX4_join_30 ?_
  refine aw_ior dX4_join_31 ?_
  rw [nI_sh1 b (by omega), nI_or]
  refine aw_iastN dX4_join_32 hp_10 (a) rfl (by omega) (by decide)  ?_
  have k2 := KS_up k1 (j := 10) (k := a) (v := prt q a b 10 a ||| 2 ^ b) (i := 10) rfl (x := nI (prt q a b 10 a ||| 2 ^ b)) rfl
  have f2 := fN_dI f1 (show 10 < 12 by decide) (upd (d1.1 10) a (nI (prt q a b 10 a ||| 2 ^ b)))
  generalize dI d1 10 (upd (d1.1 10) a (nI (prt q a b 10 a ||| 2 ^ b))) = d2 at k2 f2 ⊢
  refine aw_aload dX4_join_33 rfl ?_
  refine aw_iload_n dX4_join_35 rfl ?_
  refine aw_dup2 dX4_join_36 rfl rfl ?_
  refine aw_ialdN dX4_join_37 (hp_10 _) rfl (b) (by first | rfl | (simp only [li_0, li_1, li_2, li_3, li_4, li_5, li_7, li_8, li_9, li_11, li_12, li_16, li_17, li_31, li_32, li_60, li_77, li_80, li_89, li_99, li_101, li_112, li_113, li_256, li_999, li_1023, nI_add, pk_mul])) (by omega) (by decide) ?_
  rw [show d2.1 10 b = nI (prt q a b 10 b) from by have := k2 10 b (by decide) (show b < 12 by omega); unfold vC at this; rw [if_neg (by decide), up_n _ _ (by omega)] at this; exact this]
  refine aw_iconst (v := 1) dX4_join_38 (by decide) ?_
  refine aw_iload_n dX4_join_39 rfl ?_
  refine aw_ishl dX4_join_40 ?_
  refine aw_ior dX4_join_41 ?_
  rw [nI_sh1 a (by omega), nI_or]
  refine aw_iastN dX4_join_42 hp_10 (b) rfl (by omega) (by decide)  ?_
  have k3 := KS_up k2 (j := 10) (k := b) (v := prt q a b 10 b ||| 2 ^ a) (i := 10) rfl (x := nI (prt q a b 10 b ||| 2 ^ a)) rfl
  rw [jn_up hne]
  exact aw_endV dX4_join_43 rfl ⟨fN_dI f2 (by decide) _, k3⟩

set_option maxHeartbeats 4000000 in
set_option maxRecDepth 100000 in
theorem kX4_join_t {q : St} {d : Dt} (hs : KS 0 d q) (ok : QOK q) {a b : Nat} (ha : a < q 0 1) (hb : b < q 0 1) (hne : a ≠ b) : CV mX4_join 2 [.ref 0, .int (nI a), .int (nI b), .int 0] d (fun d' => fN d d' ∧ KS 0 d' (jn q 11 a b)) := by
  show AW mX4_join 2 true (PVx (fun d' => fN d d' ∧ KS 0 d' (jn q 11 a b)) nX) 0 0 0 [(0, .ref 0), (1, .int (nI a)), (2, .int (nI b)), (3, .int 0)] [] (HP d)
  have h12 := ok.2.1
  have hqa := q78_lt ok (show a < 12 by omega)
  have hqb := q78_lt ok (show b < 12 by omega)
  have e1 : 2 ^ b < 4096 := Nat.pow_lt_pow_right (m := b) (n := 12) (by decide) (by omega)
  have e2 : 2 ^ a < 4096 := Nat.pow_lt_pow_right (m := a) (n := 12) (by decide) (by omega)
  refine aw_aload_n dX4_join_0 rfl ?_
  refine aw_iload_n dX4_join_1 rfl ?_
  refine aw_iload_n dX4_join_2 rfl ?_
  refine aw_cVv dX4_join_3 oX4_unpair vX4_unpair rfl lX4_101 (kX4_unpair hs ok ha hb hne) rfl (hp_0 _) rfl rfl rfl (Nat.le_of_ble_eq_true rfl) (by decide) (Nat.le_of_ble_eq_true rfl) ?_
  rintro d1 ⟨f1, k1⟩
  refine aw_iload_n dX4_join_6 rfl ?_
  refine aw_if_eq 17 dX4_join_7 (by decide) (fun c7 => ?_) (fun c7 => (c7 rfl).elim)
  refine aw_aload_n dX4_join_17 rfl ?_
  refine aw_gf dX4_join_18 (hp_0 _) rfl fX4_46 (by decide) rfl ?_
  refine aw_astore dX4_join_21 (by decide) rfl ?_
  refine aw_aload dX4_join_23 rfl ?_
  refine aw_iload_n dX4_join_25 rfl ?_
  refine aw_dup2 dX4_join_26 rfl rfl ?_
  refine aw_ialdN dX4_join_27 (hp_11 _) rfl (a) (by first | rfl | (simp only [li_0, li_1, li_2, li_3, li_4, li_5, li_7, li_8, li_9, li_11, li_12, li_16, li_17, li_31, li_32, li_60, li_77, li_80, li_89, li_99, li_101, li_112, li_113, li_256, li_999, li_1023, nI_add, pk_mul])) (by omega) (by decide) ?_
  rw [show d1.1 11 a = nI (prt q a b 11 a) from k1 11 a (by decide) (show a < 12 by omega)]
  refine aw_iconst (v := 1) dX4_join_28 (by decide) ?_
  refine aw_iload_n dX4_join_29 rfl ?_
  refine aw_ishl dX4_join_30 ?_
  refine aw_ior dX4_join_31 ?_
  rw [nI_sh1 b (by omega), nI_or]
  refine aw_iastN dX4_join_32 hp_11 (a) rfl (by omega) (by decide)  ?_
  have k2 := KS_up k1 (j := 11) (k := a) (v := prt q a b 11 a ||| 2 ^ b) (i := 11) rfl (x := nI (prt q a b 11 a ||| 2 ^ b)) rfl
  have f2 := fN_dI f1 (show 11 < 12 by decide) (upd (d1.1 11) a (nI (prt q a b 11 a ||| 2 ^ b)))
  generalize dI d1 11 (upd (d1.1 11) a (nI (prt q a b 11 a ||| 2 ^ b))) = d2 at k2 f2 ⊢
  refine aw_aload dX4_join_33 rfl ?_
  refine aw_iload_n dX4_join_35 rfl ?_
  refine aw_dup2 dX4_join_36 rfl rfl ?_
  refine aw_ialdN dX4_join_37 (hp_11 _) rfl (b) (by first | rfl | (simp only [li_0, li_1, li_2, li_3, li_4, li_5, li_7, li_8, li_9, li_11, li_12, li_16, li_17, li_31, li_32, li_60, li_77, li_80, li_89, li_99, li_101, li_112, li_113, li_256, li_999, li_1023, nI_add, pk_mul])) (by omega) (by decide) ?_
  rw [show d2.1 11 b = nI (prt q a b 11 b) from by have := k2 11 b (by decide) (show b < 12 by omega); unfold vC at this; rw [if_neg (by decide), up_n _ _ (by omega)] at this; exact this]
  refine aw_iconst (v := 1) dX4_join_38 (by decide) ?_
  refine aw_iload_n dX4_join_39 rfl ?_
  refine aw_ishl dX4_join_40 ?_
  refine aw_ior dX4_join_41 ?_
  rw [nI_sh1 a (by omega), nI_or]
  refine aw_iastN dX4_join_42 hp_11 (b) rfl (by omega) (by decide)  ?_
  have k3 := KS_up k2 (j := 11) (k := b) (v := prt q a b 11 b ||| 2 ^ a) (i := 11) rfl (x := nI (prt q a b 11 b ||| 2 ^ a)) rfl
  rw [jn_up hne]
  exact aw_endV dX4_join_43 rfl ⟨fN_dI f2 (by decide) _, k3⟩

/-- right but for the chains -/
def KC (d : Dt) (q : St) : Prop := (∀ j k, j < 12 → j ≠ 8 → j ≠ 9 → k < szC j → d.1 j k = vC q j k) ∧ ∀ k, k < 12 → q 7 k < 4096
theorem KC_of {d : Dt} {q : St} (h : KS 0 d q) (h7 : ∀ k, k < 12 → q 7 k < 4096) : KC d q := ⟨fun j k hj _ _ hk => by have := h j k hj hk; rwa [Nat.zero_add] at this, h7⟩
theorem KC_end {d d' : Dt} {q : St} (h : KC d q) (e : ∀ i, i ≠ 8 → i ≠ 9 → d'.1 i = d.1 i) (h8 : ∀ k, k < 12 → d'.1 8 k = nI (wsh (q 7) 12 k)) (h9 : ∀ k, k < 12 → d'.1 9 k = nI (oN 12 (fun o => if (wsh (q 7) 12 o).testBit k = true then 2 ^ o else 0))) : KS 0 d' (clq q) := by
  intro j k hj hk
  rw [Nat.zero_add]
  by_cases e8 : j = 8
  · subst e8
    have hk2 : k < 12 := hk
    rw [h8 k hk2]
    show _ = nI (clq q 8 k)
    rw [clq_8 h.2 hk2]
  · by_cases e9 : j = 9
    · subst e9
      have hk2 : k < 12 := hk
      rw [h9 k hk2]
      show _ = nI (clq q 9 k)
      rw [clq_9 h.2 hk2]
    · rw [e j e8 e9, h.1 j k hj e8 e9 hk]
      unfold vC clq
      rw [if_neg e8, if_neg e9]
theorem wl {r : Nat → Nat} (h : ∀ k, k < 12 → r k < 4096) : ∀ m, m ≤ 12 → ∀ t, t < 12 → wsh r m t < 4096 := by
  intro m
  induction m with
  | zero => intro _ t ht; exact h t ht
  | succ m ih =>
    intro hm t ht
    refine Nat.or_lt_two_pow (n := 12) (ih (by omega) t ht) ?_
    split
    · exact ih (by omega) m (by omega)
    · exact Nat.two_pow_pos _
set_option maxHeartbeats 4000000 in
set_option maxRecDepth 100000 in
theorem kX4_followChains {q : St} {d : Dt} (hc : KC d q) : CV mX4_followChains 2 [.ref 0] d (fun d' => fN d d' ∧ KS 0 d' (clq q)) := by
  show AW mX4_followChains 2 true (PVx (fun d' => fN d d' ∧ KS 0 d' (clq q)) nX) 0 0 0 [(0, .ref 0)] [] (HP d)
  refine aw_aload_n dX4_followChains_0 rfl ?_
  refine aw_gf dX4_followChains_1 (hp_0 _) rfl fX4_34 (by decide) rfl ?_
  refine aw_iconst (v := 0) dX4_followChains_4 (by decide) ?_
  refine aw_aload_n dX4_followChains_5 rfl ?_
  refine aw_gf dX4_followChains_6 (hp_0 _) rfl fX4_37 (by decide) rfl ?_
  refine aw_iconst (v := 0) dX4_followChains_9 (by decide) ?_
  refine aw_bipush (v := 12) dX4_followChains_10 (by decide) ?_
  refine aw_copyD (i := 8) (i2 := 7) (N1 := 12) (N2 := 12) (nn := 12) dX4_followChains_12 l4_68 (fun d => hp_8 d) (fun d => hp_7 d) (by decide) (by decide) (by decide) rfl (by decide) (Nat.le_of_ble_eq_true rfl) ?_
  refine aw_iconst (v := 0) dX4_followChains_15 (by decide) ?_
  refine aw_istore_n dX4_followChains_16 (by decide) rfl ?_
  have L17 : ∀ m, m ≤ 12 → ∀ (d1 : Dt) (v1 : Int32), (d1.2 = d.2 ∧ ∀ i, i ≠ 8 → i ≠ 9 → d1.1 i = d.1 i) → (∀ k, k < 12 → d1.1 8 k = nI (wsh (q 7) m k)) → v1 = nI m → AW mX4_followChains 2 true (PVx (fun d' => fN d d' ∧ KS 0 d' (clq q)) nX) 0 0 17 [(0, .ref 0), (1, .int v1)] [] (HP d1) := by
    refine up_ind (fun m hjm ihm => ?_)
    rintro d1 _ hf1 h81 rfl
    refine aw_iload_n dX4_followChains_17 rfl ?_
    refine aw_bipush (v := 12) dX4_followChains_18 (by decide) ?_
    refine aw_icmp_ge 75 dX4_followChains_20 (by decide) (fun c20 => ?_) (fun c20 => ?_)
    · have hgem : 12 ≤ m := (le_nI (show (12 : Int32) = nI 12 from rfl) rfl (by omega) (by omega)).mp c20
      have hj2m : m = 12 := by omega
      subst hj2m
      refine aw_aload_n dX4_followChains_75 rfl ?_
      refine aw_gf dX4_followChains_76 (hp_0 _) rfl fX4_40 (by decide) rfl ?_
      refine aw_iconst (v := 0) dX4_followChains_79 (by decide) ?_
      refine aw_cSv dX4_followChains_80 oJ7_fill_53178 sJ7_fill_53178 rfl lX4_49 (kJ7_fill_53178 (i := 9) (N := 12) (fun d => hp_9 d) (by decide)) rfl rfl (Nat.le_of_ble_eq_true rfl) (by decide) (Nat.le_of_ble_eq_true rfl) ?_
      rintro _ rfl
      refine aw_iconst (v := 0) dX4_followChains_83 (by decide) ?_
      refine aw_istore_n dX4_followChains_84 (by decide) rfl ?_
      have L85 : ∀ t, t ≤ 12 → ∀ (d3 : Dt) (v1 : Int32), (d3.2 = d.2 ∧ (∀ i, i ≠ 8 → i ≠ 9 → d3.1 i = d.1 i) ∧ ∀ k, k < 12 → d3.1 8 k = nI (wsh (q 7) 12 k)) → (∀ k, k < 12 → d3.1 9 k = nI (if k < t then oN 12 (fun o => if (wsh (q 7) 12 o).testBit k = true then 2 ^ o else 0) else 0)) → v1 = nI t → AW mX4_followChains 2 true (PVx (fun d' => fN d d' ∧ KS 0 d' (clq q)) nX) 0 0 85 [(0, .ref 0), (1, .int v1)] [] (HP d3) := by
        refine up_ind (fun t hjt iht => ?_)
        rintro d3 _ hf3 h93 rfl
        refine aw_iload_n dX4_followChains_85 rfl ?_
        refine aw_bipush (v := 12) dX4_followChains_86 (by decide) ?_
        refine aw_icmp_ge 140 dX4_followChains_88 (by decide) (fun c88 => ?_) (fun c88 => ?_)
        · have hget : 12 ≤ t := (le_nI (show (12 : Int32) = nI 12 from rfl) rfl (by omega) (by omega)).mp c88
          have hj2t : t = 12 := by omega
          subst hj2t
          exact aw_endV dX4_followChains_140 rfl ⟨⟨hf3.1, fun i hi => hf3.2.1 i (by omega) (by omega)⟩, KC_end hc hf3.2.1 hf3.2.2 (fun k hk => by rw [h93 k hk, if_pos hk])⟩
        · have hltt : t < 12 := Nat.lt_of_not_le (fun z => c88 ((le_nI (show (12 : Int32) = nI 12 from rfl) rfl (by omega) (by omega)).mpr z))
          refine aw_iconst (v := 0) dX4_followChains_91 (by decide) ?_
          refine aw_istore_n dX4_followChains_92 (by decide) rfl ?_
          have L93 : ∀ p, p ≤ 12 → ∀ (d4 : Dt) (v2 : Int32), (d4.2 = d.2 ∧ (∀ i, i ≠ 8 → i ≠ 9 → d4.1 i = d.1 i) ∧ ∀ k, k < 12 → d4.1 8 k = nI (wsh (q 7) 12 k)) → (∀ k, k < 12 → d4.1 9 k = nI (if k < t then oN 12 (fun o => if (wsh (q 7) 12 o).testBit k = true then 2 ^ o else 0) else if k = t then oN p (fun o => if (wsh (q 7) 12 o).testBit t = true then 2 ^ o else 0) else 0)) → v2 = nI p → AW mX4_followChains 2 true (PVx (fun d' => fN d d' ∧ KS 0 d' (clq q)) nX) 0 0 93 [(0, .ref 0), (1, .int (nI t)), (2, .int v2)] [] (HP d4) := by
            refine up_ind (fun p hjp ihp => ?_)
            rintro d4 _ hf4 h94 rfl
            refine aw_iload_n dX4_followChains_93 rfl ?_
            refine aw_bipush (v := 12) dX4_followChains_94 (by decide) ?_
            refine aw_icmp_ge 134 dX4_followChains_96 (by decide) (fun c96 => ?_) (fun c96 => ?_)
            · have hgep : 12 ≤ p := (le_nI (show (12 : Int32) = nI 12 from rfl) rfl (by omega) (by omega)).mp c96
              have hj2p : p = 12 := by omega
              subst hj2p
              refine aw_inc (c := 1) dX4_followChains_134 (by decide) rfl (by decide) rfl ?_
              refine aw_goto (tgt := 85) dX4_followChains_137 (by decide) ?_
              exact aw_pick [0, 1] (iht hltt _ _ hf4 (fun k hk => by
                  rw [h94 k hk]
                  by_cases e : k < t
                  · rw [if_pos e, if_pos (by omega)]
                  · by_cases e2 : k = t
                    · rw [if_neg e, if_pos e2, if_pos (by omega), e2]
                    · rw [if_neg e, if_neg e2, if_neg (by omega)]) (nI_1 t))
            · have hltp : p < 12 := Nat.lt_of_not_le (fun z => c96 ((le_nI (show (12 : Int32) = nI 12 from rfl) rfl (by omega) (by omega)).mpr z))
              have hwl := wl hc.2 12 (Nat.le_refl _) p hltp
              refine aw_aload_n dX4_followChains_99 rfl ?_
              refine aw_gf dX4_followChains_100 (hp_0 _) rfl fX4_40 (by decide) rfl ?_
              refine aw_iload_n dX4_followChains_103 rfl ?_
              refine aw_dup2 dX4_followChains_104 rfl rfl ?_
              refine aw_ialdN dX4_followChains_105 (hp_9 _) rfl (t) (by first | rfl | (simp only [li_0, li_1, li_2, li_3, li_4, li_5, li_7, li_8, li_9, li_11, li_12, li_16, li_17, li_31, li_32, li_60, li_77, li_80, li_89, li_99, li_101, li_112, li_113, li_256, li_999, li_1023, nI_add, pk_mul])) (by omega) (by decide) ?_
              refine aw_aload_n dX4_followChains_106 rfl ?_
              refine aw_gf dX4_followChains_107 (hp_0 _) rfl fX4_37 (by decide) rfl ?_
              refine aw_iload_n dX4_followChains_110 rfl ?_
              refine aw_ialdN dX4_followChains_111 (hp_8 _) rfl (p) (by first | rfl | (simp only [li_0, li_1, li_2, li_3, li_4, li_5, li_7, li_8, li_9, li_11, li_12, li_16, li_17, li_31, li_32, li_60, li_77, li_80, li_89, li_99, li_101, li_112, li_113, li_256, li_999, li_1023, nI_add, pk_mul])) (by omega) (by decide) ?_
              refine aw_iload_n dX4_followChains_112 rfl ?_
              rw [hf4.2.2 p hltp]
              refine aw_cSNP dX4_followChains_113 oX7_has sX7_has lX4_82 (kX7_hasN (s := wsh (q 7) 12 p) (k := t) (by omega) (by omega)) rfl rfl (Nat.le_of_ble_eq_true rfl) (by decide) (Nat.le_of_ble_eq_true rfl) ?_
              refine aw_if_eq 125 dX4_followChains_116 (by decide) (fun c116 => ?_) (fun c116 => ?_)
              · refine aw_iconst (v := 0) dX4_followChains_125 (by decide) ?_
                refine aw_ior dX4_followChains_126 ?_
                refine aw_iastN dX4_followChains_127 hp_9 (t) rfl (by omega) (by decide)  ?_
                refine aw_inc (c := 1) dX4_followChains_128 (by decide) rfl (by decide) rfl ?_
                refine aw_goto (tgt := 93) dX4_followChains_131 (by decide) ?_
                refine ihp hltp _ _ ⟨hf4.1, fun i h1 h2 => by rw [dI_n _ _ h2]; exact hf4.2.1 i h1 h2, fun k hk => by rw [dI_n _ _ (by decide)]; exact hf4.2.2 k hk⟩ (fun k hk => ?_) (nI_1 p)
                rw [dI_s]
                simp only [upd]
                by_cases e : k = t
                · rw [if_pos e, e, if_neg (by omega), if_pos rfl, h94 t hltt, if_neg (by omega), if_pos rfl]
                  simp only [oN]
                  rw [if_neg (by rw [b2i_eq.mp c116]; exact Bool.false_ne_true), show (0 : Int32) = nI 0 from rfl, nI_or]
                · rw [if_neg e, h94 k hk, if_neg e, if_neg e]
              · refine aw_iconst (v := 1) dX4_followChains_119 (by decide) ?_
                refine aw_iload_n dX4_followChains_120 rfl ?_
                refine aw_ishl dX4_followChains_121 ?_
                refine aw_goto (tgt := 126) dX4_followChains_122 (by decide) ?_
                refine aw_ior dX4_followChains_126 ?_
                refine aw_iastN dX4_followChains_127 hp_9 (t) rfl (by omega) (by decide)  ?_
                refine aw_inc (c := 1) dX4_followChains_128 (by decide) rfl (by decide) rfl ?_
                refine aw_goto (tgt := 93) dX4_followChains_131 (by decide) ?_
                refine ihp hltp _ _ ⟨hf4.1, fun i h1 h2 => by rw [dI_n _ _ h2]; exact hf4.2.1 i h1 h2, fun k hk => by rw [dI_n _ _ (by decide)]; exact hf4.2.2 k hk⟩ (fun k hk => ?_) (nI_1 p)
                rw [dI_s]
                simp only [upd]
                by_cases e : k = t
                · rw [if_pos e, e, if_neg (by omega), if_pos rfl, h94 t hltt, if_neg (by omega), if_pos rfl]
                  simp only [oN]
                  rw [if_pos (b2i_ne.mp c116), nI_sh1 p (by omega), nI_or]
                · rw [if_neg e, h94 k hk, if_neg e, if_neg e]
          exact L93 0 (Nat.zero_le _) _ _ hf3 (fun k hk => by rw [h93 k hk]; split; rfl; split; rfl; rfl) rfl
      exact L85 0 (Nat.zero_le _) _ _ ⟨hf1.1, fun i h1 h2 => by rw [dI_n _ _ h2]; exact hf1.2 i h1 h2, fun k hk => by rw [dI_n _ _ (by decide)]; exact h81 k hk⟩ (fun k hk => by rw [dI_s, cpy_lt _ _ hk, if_neg (by omega)]; rfl) rfl
    · have hltm : m < 12 := Nat.lt_of_not_le (fun z => c20 ((le_nI (show (12 : Int32) = nI 12 from rfl) rfl (by omega) (by omega)).mpr z))
      refine aw_iconst (v := 0) dX4_followChains_23 (by decide) ?_
      refine aw_istore_n dX4_followChains_24 (by decide) rfl ?_
      have L25 : ∀ t, t ≤ 12 → ∀ (d2 : Dt) (v2 : Int32), (d2.2 = d.2 ∧ ∀ i, i ≠ 8 → i ≠ 9 → d2.1 i = d.1 i) → (∀ k, k < 12 → d2.1 8 k = nI (if k < t then wsh (q 7) (m + 1) k else wsh (q 7) m k)) → v2 = nI t → AW mX4_followChains 2 true (PVx (fun d' => fN d d' ∧ KS 0 d' (clq q)) nX) 0 0 25 [(0, .ref 0), (1, .int (nI m)), (2, .int v2)] [] (HP d2) := by
        refine up_ind (fun t hjt iht => ?_)
        rintro d2 _ hf2 h82 rfl
        refine aw_iload_n dX4_followChains_25 rfl ?_
        refine aw_bipush (v := 12) dX4_followChains_26 (by decide) ?_
        refine aw_icmp_ge 69 dX4_followChains_28 (by decide) (fun c28 => ?_) (fun c28 => ?_)
        · have hget : 12 ≤ t := (le_nI (show (12 : Int32) = nI 12 from rfl) rfl (by omega) (by omega)).mp c28
          have hj2t : t = 12 := by omega
          subst hj2t
          refine aw_inc (c := 1) dX4_followChains_69 (by decide) rfl (by decide) rfl ?_
          refine aw_goto (tgt := 17) dX4_followChains_72 (by decide) ?_
          exact aw_pick [0, 1] (ihm hltm _ _ hf2 (fun k hk => by rw [h82 k hk, if_pos hk]) (nI_1 m))
        · have hltt : t < 12 := Nat.lt_of_not_le (fun z => c28 ((le_nI (show (12 : Int32) = nI 12 from rfl) rfl (by omega) (by omega)).mpr z))
          have hrt : d2.1 8 t = nI (wsh (q 7) m t) := by rw [h82 t hltt, if_neg (by omega)]
          have hrm : d2.1 8 m = nI (wsh (q 7) m m) := by
            rw [h82 m hltm]
            split
            · rw [wsh_m]
            · rfl
          have hwl := wl hc.2 m (by omega) t hltt
          refine aw_aload_n dX4_followChains_31 rfl ?_
          refine aw_gf dX4_followChains_32 (hp_0 _) rfl fX4_37 (by decide) rfl ?_
          refine aw_iload_n dX4_followChains_35 rfl ?_
          refine aw_dup2 dX4_followChains_36 rfl rfl ?_
          refine aw_ialdN dX4_followChains_37 (hp_8 _) rfl (t) (by first | rfl | (simp only [li_0, li_1, li_2, li_3, li_4, li_5, li_7, li_8, li_9, li_11, li_12, li_16, li_17, li_31, li_32, li_60, li_77, li_80, li_89, li_99, li_101, li_112, li_113, li_256, li_999, li_1023, nI_add, pk_mul])) (by omega) (by decide) ?_
          refine aw_aload_n dX4_followChains_38 rfl ?_
          refine aw_gf dX4_followChains_39 (hp_0 _) rfl fX4_37 (by decide) rfl ?_
          refine aw_iload_n dX4_followChains_42 rfl ?_
          refine aw_ialdN dX4_followChains_43 (hp_8 _) rfl (t) (by first | rfl | (simp only [li_0, li_1, li_2, li_3, li_4, li_5, li_7, li_8, li_9, li_11, li_12, li_16, li_17, li_31, li_32, li_60, li_77, li_80, li_89, li_99, li_101, li_112, li_113, li_256, li_999, li_1023, nI_add, pk_mul])) (by omega) (by decide) ?_
          refine aw_iload_n dX4_followChains_44 rfl ?_
          rw [hrt]
          refine aw_cSNP dX4_followChains_45 oX7_has sX7_has lX4_82 (kX7_hasN (s := wsh (q 7) m t) (k := m) (by omega) (by omega)) rfl rfl (Nat.le_of_ble_eq_true rfl) (by decide) (Nat.le_of_ble_eq_true rfl) ?_
          refine aw_if_eq 60 dX4_followChains_48 (by decide) (fun c48 => ?_) (fun c48 => ?_)
          · refine aw_iconst (v := 0) dX4_followChains_60 (by decide) ?_
            refine aw_ior dX4_followChains_61 ?_
            refine aw_iastN dX4_followChains_62 hp_8 (t) rfl (by omega) (by decide)  ?_
            refine aw_inc (c := 1) dX4_followChains_63 (by decide) rfl (by decide) rfl ?_
            refine aw_goto (tgt := 25) dX4_followChains_66 (by decide) ?_
            refine iht hltt _ _ ⟨hf2.1, fun i h1 h2 => by rw [dI_n _ _ h1]; exact hf2.2 i h1 h2⟩ (fun k hk => ?_) (nI_1 t)
            rw [dI_s]
            simp only [upd]
            by_cases e : k = t
            · rw [if_pos e, e, if_pos (by omega)]
              show nI (wsh (q 7) m t) ||| (0 : Int32) = nI (wsh (q 7) m t ||| (if (wsh (q 7) m t).testBit m = true then wsh (q 7) m m else 0)); rw [if_neg (by rw [b2i_eq.mp c48]; exact Bool.false_ne_true), show (0 : Int32) = nI 0 from rfl, nI_or]
            · rw [if_neg e, h82 k hk]
              by_cases e2 : k < t
              · rw [if_pos e2, if_pos (by omega)]
              · rw [if_neg e2, if_neg (by omega)]
          · refine aw_aload_n dX4_followChains_51 rfl ?_
            refine aw_gf dX4_followChains_52 (hp_0 _) rfl fX4_37 (by decide) rfl ?_
            refine aw_iload_n dX4_followChains_55 rfl ?_
            refine aw_ialdN dX4_followChains_56 (hp_8 _) rfl (m) (by first | rfl | (simp only [li_0, li_1, li_2, li_3, li_4, li_5, li_7, li_8, li_9, li_11, li_12, li_16, li_17, li_31, li_32, li_60, li_77, li_80, li_89, li_99, li_101, li_112, li_113, li_256, li_999, li_1023, nI_add, pk_mul])) (by omega) (by decide) ?_
            refine aw_goto (tgt := 61) dX4_followChains_57 (by decide) ?_
            refine aw_ior dX4_followChains_61 ?_
            refine aw_iastN dX4_followChains_62 hp_8 (t) rfl (by omega) (by decide)  ?_
            refine aw_inc (c := 1) dX4_followChains_63 (by decide) rfl (by decide) rfl ?_
            refine aw_goto (tgt := 25) dX4_followChains_66 (by decide) ?_
            refine iht hltt _ _ ⟨hf2.1, fun i h1 h2 => by rw [dI_n _ _ h1]; exact hf2.2 i h1 h2⟩ (fun k hk => ?_) (nI_1 t)
            rw [dI_s]
            simp only [upd]
            by_cases e : k = t
            · rw [if_pos e, e, if_pos (by omega)]
              rw [hrm]; show nI (wsh (q 7) m t) ||| nI (wsh (q 7) m m) = nI (wsh (q 7) m t ||| (if (wsh (q 7) m t).testBit m = true then wsh (q 7) m m else 0)); rw [if_pos (b2i_ne.mp c48), nI_or]
            · rw [if_neg e, h82 k hk]
              by_cases e2 : k < t
              · rw [if_pos e2, if_pos (by omega)]
              · rw [if_neg e2, if_neg (by omega)]
      exact L25 0 (Nat.zero_le _) _ _ hf1 (fun k hk => by rw [if_neg (by omega)]; exact h81 k hk) rfl
  exact L17 0 (Nat.zero_le _) _ _ ⟨rfl, fun i h1 h2 => dI_n _ _ h1⟩ (fun k hk => by rw [dI_s, cpy_lt _ _ hk]; exact hc.1 7 k (by decide) (by decide) (by decide) hk) rfl

set_option maxHeartbeats 4000000 in
set_option maxRecDepth 100000 in
theorem kX4_link {q : St} {d : Dt} (hs : KS 0 d q) (ok : QOK q) {a b : Nat} (ha : a < q 0 1) (hb : b < q 0 1) : CV mX4_link 3 [.ref 0, .int (nI a), .int (nI b)] d (fun d' => fN d d' ∧ KS 0 d' (clq (up q 7 b (q 7 b ||| 2 ^ a)))) := by
  show AW mX4_link 3 true (PVx (fun d' => fN d d' ∧ KS 0 d' (clq (up q 7 b (q 7 b ||| 2 ^ a)))) nX) 0 0 0 [(0, .ref 0), (1, .int (nI a)), (2, .int (nI b))] [] (HP d)
  have h12 := ok.2.1
  have hqa := q78_lt ok (show a < 12 by omega)
  have hqb := q78_lt ok (show b < 12 by omega)
  have e1 : 2 ^ b < 4096 := Nat.pow_lt_pow_right (m := b) (n := 12) (by decide) (by omega)
  have e2 : 2 ^ a < 4096 := Nat.pow_lt_pow_right (m := a) (n := 12) (by decide) (by omega)
  refine aw_aload_n dX4_link_0 rfl ?_
  refine aw_gf dX4_link_1 (hp_0 _) rfl fX4_34 (by decide) rfl ?_
  refine aw_iload_n dX4_link_4 rfl ?_
  refine aw_dup2 dX4_link_5 rfl rfl ?_
  refine aw_ialdN dX4_link_6 (hp_7 _) rfl (b) (by first | rfl | (simp only [li_0, li_1, li_2, li_3, li_4, li_5, li_7, li_8, li_9, li_11, li_12, li_16, li_17, li_31, li_32, li_60, li_77, li_80, li_89, li_99, li_101, li_112, li_113, li_256, li_999, li_1023, nI_add, pk_mul])) (by omega) (by decide) ?_
  rw [show d.1 7 (b) = nI (q 7 (b)) from hs 7 (b) (by decide) (show (b) < 12 by omega)]
  refine aw_iconst (v := 1) dX4_link_7 (by decide) ?_
  refine aw_iload_n dX4_link_8 rfl ?_
  refine aw_ishl dX4_link_9 ?_
  refine aw_ior dX4_link_10 ?_
  rw [nI_sh1 a (by omega), nI_or]
  refine aw_iastN dX4_link_11 hp_7 (b) rfl (by omega) (by decide)  ?_
  have k1 := KS_up hs (j := 7) (k := b) (v := q 7 b ||| 2 ^ a) (i := 7) rfl (x := nI (q 7 b ||| 2 ^ a)) rfl
  have f1 := fN_dI (fN_r d) (show 7 < 12 by decide) (upd (d.1 7) b (nI (q 7 b ||| 2 ^ a)))
  generalize dI d 7 (upd (d.1 7) b (nI (q 7 b ||| 2 ^ a))) = d1 at k1 f1 ⊢
  have hkc : KC d1 (up q 7 b (q 7 b ||| 2 ^ a)) := KC_of k1 (fun k hk => by
    show (if 7 = 7 ∧ k = b then q 7 b ||| 2 ^ a else q 7 k) < 4096
    split
    · exact Nat.or_lt_two_pow (n := 12) hqb.1 e2
    · exact (q78_lt ok hk).1)
  refine aw_aload_n dX4_link_12 rfl ?_
  refine aw_cVv dX4_link_13 oX4_followChains vX4_followChains rfl lX4_98 (kX4_followChains hkc) rfl (hp_0 _) rfl rfl rfl (Nat.le_of_ble_eq_true rfl) (by decide) (Nat.le_of_ble_eq_true rfl) ?_
  rintro d2 ⟨f2, k2⟩
  exact aw_endV dX4_link_16 rfl ⟨fN_t f1 f2, k2⟩

set_option maxHeartbeats 4000000 in
set_option maxRecDepth 100000 in
theorem kX4_unlink {q : St} {d : Dt} (hs : KS 0 d q) (ok : QOK q) {a b : Nat} (ha : a < q 0 1) (hb : b < q 0 1) (hne : a ≠ b) : CV mX4_unlink 3 [.ref 0, .int (nI a), .int (nI b)] d (fun d' => fN d d' ∧ KS 0 d' (clq (up (up q 7 b (clr (q 7 b) a)) 7 a (clr (q 7 a) b)))) := by
  show AW mX4_unlink 3 true (PVx (fun d' => fN d d' ∧ KS 0 d' (clq (up (up q 7 b (clr (q 7 b) a)) 7 a (clr (q 7 a) b)))) nX) 0 0 0 [(0, .ref 0), (1, .int (nI a)), (2, .int (nI b))] [] (HP d)
  have h12 := ok.2.1
  have hqa := q78_lt ok (show a < 12 by omega)
  have hqb := q78_lt ok (show b < 12 by omega)
  have e1 : 2 ^ b < 4096 := Nat.pow_lt_pow_right (m := b) (n := 12) (by decide) (by omega)
  have e2 : 2 ^ a < 4096 := Nat.pow_lt_pow_right (m := a) (n := 12) (by decide) (by omega)
  have f0 := fN_r d
  refine aw_aload_n dX4_unlink_0 rfl ?_
  refine aw_gf dX4_unlink_1 (hp_0 _) rfl fX4_34 (by decide) rfl ?_
  refine aw_iload_n dX4_unlink_4 rfl ?_
  refine aw_dup2 dX4_unlink_5 rfl rfl ?_
  refine aw_ialdN dX4_unlink_6 (hp_7 _) rfl (b) (by first | rfl | (simp only [li_0, li_1, li_2, li_3, li_4, li_5, li_7, li_8, li_9, li_11, li_12, li_16, li_17, li_31, li_32, li_60, li_77, li_80, li_89, li_99, li_101, li_112, li_113, li_256, li_999, li_1023, nI_add, pk_mul])) (by omega) (by decide) ?_
  rw [show d.1 7 (b) = nI (q 7 (b)) from hs 7 (b) (by decide) (show (b) < 12 by omega)]
  refine aw_iconst (v := 1) dX4_unlink_7 (by decide) ?_
  refine aw_iload_n dX4_unlink_8 rfl ?_
  refine aw_ishl dX4_unlink_9 ?_
  refine aw_iconst (v := (-1)) dX4_unlink_10 (by decide) ?_
  refine aw_ixor dX4_unlink_11 ?_
  refine aw_iand dX4_unlink_12 ?_
  rw [nI_sh1 a (by omega), nI_lacks (by omega) e2, show lacks (q 7 b) (2 ^ a) = clr (q 7 b) a from rfl]
  refine aw_iastN dX4_unlink_13 hp_7 (b) rfl (by omega) (by decide)  ?_
  have k1 := KS_up hs (j := 7) (k := b) (v := clr (q 7 b) a) (i := 7) rfl (x := nI (clr (q 7 b) a)) rfl
  have f1 := fN_dI f0 (show 7 < 12 by decide) (upd (d.1 7) b (nI (clr (q 7 b) a)))
  generalize dI d 7 (upd (d.1 7) b (nI (clr (q 7 b) a))) = d1 at k1 f1 ⊢
  refine aw_aload_n dX4_unlink_14 rfl ?_
  refine aw_gf dX4_unlink_15 (hp_0 _) rfl fX4_34 (by decide) rfl ?_
  refine aw_iload_n dX4_unlink_18 rfl ?_
  refine aw_dup2 dX4_unlink_19 rfl rfl ?_
  refine aw_ialdN dX4_unlink_20 (hp_7 _) rfl (a) (by first | rfl | (simp only [li_0, li_1, li_2, li_3, li_4, li_5, li_7, li_8, li_9, li_11, li_12, li_16, li_17, li_31, li_32, li_60, li_77, li_80, li_89, li_99, li_101, li_112, li_113, li_256, li_999, li_1023, nI_add, pk_mul])) (by omega) (by decide) ?_
  rw [show d1.1 7 a = nI (q 7 a) from by have := k1 7 a (by decide) (show a < 12 by omega); unfold vC at this; rw [if_neg (by decide)] at this; rw [show (0 + 7) = 7 from rfl] at this; rw [this]; exact congrArg nI (up_n _ _ (by omega))]
  refine aw_iconst (v := 1) dX4_unlink_21 (by decide) ?_
  refine aw_iload_n dX4_unlink_22 rfl ?_
  refine aw_ishl dX4_unlink_23 ?_
  refine aw_iconst (v := (-1)) dX4_unlink_24 (by decide) ?_
  refine aw_ixor dX4_unlink_25 ?_
  refine aw_iand dX4_unlink_26 ?_
  rw [nI_sh1 b (by omega), nI_lacks (by omega) e1, show lacks (q 7 a) (2 ^ b) = clr (q 7 a) b from rfl]
  refine aw_iastN dX4_unlink_27 hp_7 (a) rfl (by omega) (by decide)  ?_
  have k2 := KS_up k1 (j := 7) (k := a) (v := clr (q 7 a) b) (i := 7) rfl (x := nI (clr (q 7 a) b)) rfl
  have f2 := fN_dI f1 (show 7 < 12 by decide) (upd (d1.1 7) a (nI (clr (q 7 a) b)))
  generalize dI d1 7 (upd (d1.1 7) a (nI (clr (q 7 a) b))) = d2 at k2 f2 ⊢
  have hkc : KC d2 (up (up q 7 b (clr (q 7 b) a)) 7 a (clr (q 7 a) b)) := KC_of k2 (fun k hk => by
    show (if 7 = 7 ∧ k = a then clr (q 7 a) b else if 7 = 7 ∧ k = b then clr (q 7 b) a else q 7 k) < 4096
    split
    · exact lacks_lt hqa.1
    · split
      · exact lacks_lt hqb.1
      · exact (q78_lt ok hk).1)
  refine aw_aload_n dX4_unlink_28 rfl ?_
  refine aw_cVv dX4_unlink_29 oX4_followChains vX4_followChains rfl lX4_98 (kX4_followChains hkc) rfl (hp_0 _) rfl rfl rfl (Nat.le_of_ble_eq_true rfl) (by decide) (Nat.le_of_ble_eq_true rfl) ?_
  rintro d3 ⟨f3, k3⟩
  exact aw_endV dX4_unlink_32 rfl ⟨fN_t f2 f3, k3⟩

set_option maxHeartbeats 4000000 in
set_option maxRecDepth 100000 in
theorem kX4_copyRow {i i2 N : Nat} {d : Dt} (hh : ∀ d, HP d i = some (.inl (0, N, .inl (d.1 i)))) (hh2 : ∀ d, HP d i2 = some (.inl (0, N, .inl (d.1 i2)))) (hN : N ≤ 1024) : CV mX4_copyRow 1 [.ref i2, .ref i] d (fun d' => d' = dI d i (cpy (d.1 i) (d.1 i2) N)) := by
  show AW mX4_copyRow 1 true (PVx (fun d' => d' = dI d i (cpy (d.1 i) (d.1 i2) N)) nX) 0 0 0 [(0, .ref i2), (1, .ref i)] [] (HP d)
  refine aw_aload_n dX4_copyRow_0 rfl ?_
  refine aw_iconst (v := 0) dX4_copyRow_1 (by decide) ?_
  refine aw_aload_n dX4_copyRow_2 rfl ?_
  refine aw_iconst (v := 0) dX4_copyRow_3 (by decide) ?_
  refine aw_aload_n dX4_copyRow_4 rfl ?_
  refine aw_alen dX4_copyRow_5 (hh2 _) rfl rfl rfl ?_
  refine aw_aload_n dX4_copyRow_6 rfl ?_
  refine aw_alen dX4_copyRow_7 (hh _) rfl rfl rfl ?_
  refine aw_mmin dX4_copyRow_8 lX4_62 (by decide) (Nat.le_of_ble_eq_true rfl) (v := nI N) (by show (if nI N < nI N then nI N else nI N) = nI N; split <;> rfl) ?_
  refine aw_copyD (nn := N) dX4_copyRow_11 l4_68 hh hh2 (Nat.le_refl _) (Nat.le_refl _) hN rfl (by decide) (Nat.le_of_ble_eq_true rfl) ?_
  exact aw_endV dX4_copyRow_14 rfl rfl

set_option maxHeartbeats 4000000 in
set_option maxRecDepth 100000 in
theorem kX4_copyFrom {a b : Nat} {d : Dt} (ha : a < 11) (hb : b < 11) (hab : a ≠ b) : CV mX4_copyFrom 2 [.ref (12 * a), .ref (12 * b)] d (fun d' => CPk 11 a b d d') := by
  show AW mX4_copyFrom 2 true (PVx (fun d' => CPk 11 a b d d') nX) 0 0 0 [(0, .ref (12 * a)), (1, .ref (12 * b))] [] (HP d)
  refine aw_aload_n dX4_copyFrom_0 rfl ?_
  refine aw_aload_n dX4_copyFrom_1 rfl ?_
  refine aw_gf dX4_copyFrom_2 (hps_0 hb _) rfl fX4_9 (by decide) rfl ?_
  refine aw_putI (ci := 4) (j := 0) .int dX4_copyFrom_5 fX4_9 rfl (by decide) rfl tyX4 tyX4_ok nmX4 rfl rfl rfl (hps_0 ha _) (Nat.le_of_ble_eq_true rfl) (by rw [hps_0 ha, dI_s]; rfl) ?_
  refine aw_aload_n dX4_copyFrom_8 rfl ?_
  refine aw_aload_n dX4_copyFrom_9 rfl ?_
  refine aw_gf dX4_copyFrom_10 (hps_0 hb _) rfl fX4_55 (by decide) rfl ?_
  rw [dI_n _ _ (show 12 * b ≠ 12 * a by omega)]
  refine aw_putI (ci := 4) (j := 1) .int dX4_copyFrom_13 fX4_55 rfl (by decide) rfl tyX4 tyX4_ok nmX4 rfl rfl rfl (hps_0 ha _) (Nat.le_of_ble_eq_true rfl) (by rw [hps_0 ha, dI_s]; rfl) ?_
  have h0 : CPk 0 a b d (dI (dI d (12 * a) (upd (d.1 (12 * a)) 0 (d.1 (12 * b) 0))) (12 * a) (upd ((dI d (12 * a) (upd (d.1 (12 * a)) 0 (d.1 (12 * b) 0))).1 (12 * a)) 1 (d.1 (12 * b) 1))) := CP_0 hab
  generalize dI (dI d (12 * a) (upd (d.1 (12 * a)) 0 (d.1 (12 * b) 0))) (12 * a) (upd ((dI d (12 * a) (upd (d.1 (12 * a)) 0 (d.1 (12 * b) 0))).1 (12 * a)) 1 (d.1 (12 * b) 1)) = d0 at h0 ⊢
  refine aw_aload_n dX4_copyFrom_16 rfl ?_
  refine aw_gf dX4_copyFrom_17 (hps_0 hb _) rfl fX4_15 (by decide) rfl ?_
  refine aw_aload_n dX4_copyFrom_20 rfl ?_
  refine aw_gf dX4_copyFrom_21 (hps_0 ha _) rfl fX4_15 (by decide) rfl ?_
  refine aw_cSv dX4_copyFrom_24 oX4_copyRow sX4_copyRow rfl lX4_58 (kX4_copyRow (i := 12 * a + 1) (i2 := 12 * b + 1) (N := 3) (hps_1 ha) (hps_1 hb) (by decide)) rfl rfl (Nat.le_of_ble_eq_true rfl) (by decide) (Nat.le_of_ble_eq_true rfl) ?_
  rintro _ rfl
  have h1 : CPk 1 a b d (dI d0 (12 * a + 1) (cpy (d0.1 (12 * a + 1)) (d0.1 (12 * b + 1)) 3)) := CP_s h0 hab (by decide)
  generalize dI d0 (12 * a + 1) (cpy (d0.1 (12 * a + 1)) (d0.1 (12 * b + 1)) 3) = d1 at h1 ⊢
  refine aw_aload_n dX4_copyFrom_27 rfl ?_
  refine aw_gf dX4_copyFrom_28 (hps_0 hb _) rfl fX4_19 (by decide) rfl ?_
  refine aw_aload_n dX4_copyFrom_31 rfl ?_
  refine aw_gf dX4_copyFrom_32 (hps_0 ha _) rfl fX4_19 (by decide) rfl ?_
  refine aw_cSv dX4_copyFrom_35 oX4_copyRow sX4_copyRow rfl lX4_58 (kX4_copyRow (i := 12 * a + 2) (i2 := 12 * b + 2) (N := 4) (hps_2 ha) (hps_2 hb) (by decide)) rfl rfl (Nat.le_of_ble_eq_true rfl) (by decide) (Nat.le_of_ble_eq_true rfl) ?_
  rintro _ rfl
  have h2 : CPk 2 a b d (dI d1 (12 * a + 2) (cpy (d1.1 (12 * a + 2)) (d1.1 (12 * b + 2)) 4)) := CP_s h1 hab (by decide)
  generalize dI d1 (12 * a + 2) (cpy (d1.1 (12 * a + 2)) (d1.1 (12 * b + 2)) 4) = d2 at h2 ⊢
  refine aw_aload_n dX4_copyFrom_38 rfl ?_
  refine aw_gf dX4_copyFrom_39 (hps_0 hb _) rfl fX4_22 (by decide) rfl ?_
  refine aw_aload_n dX4_copyFrom_42 rfl ?_
  refine aw_gf dX4_copyFrom_43 (hps_0 ha _) rfl fX4_22 (by decide) rfl ?_
  refine aw_cSv dX4_copyFrom_46 oX4_copyRow sX4_copyRow rfl lX4_58 (kX4_copyRow (i := 12 * a + 3) (i2 := 12 * b + 3) (N := 8) (hps_3 ha) (hps_3 hb) (by decide)) rfl rfl (Nat.le_of_ble_eq_true rfl) (by decide) (Nat.le_of_ble_eq_true rfl) ?_
  rintro _ rfl
  have h3 : CPk 3 a b d (dI d2 (12 * a + 3) (cpy (d2.1 (12 * a + 3)) (d2.1 (12 * b + 3)) 8)) := CP_s h2 hab (by decide)
  generalize dI d2 (12 * a + 3) (cpy (d2.1 (12 * a + 3)) (d2.1 (12 * b + 3)) 8) = d3 at h3 ⊢
  refine aw_aload_n dX4_copyFrom_49 rfl ?_
  refine aw_gf dX4_copyFrom_50 (hps_0 hb _) rfl fX4_25 (by decide) rfl ?_
  refine aw_aload_n dX4_copyFrom_53 rfl ?_
  refine aw_gf dX4_copyFrom_54 (hps_0 ha _) rfl fX4_25 (by decide) rfl ?_
  refine aw_cSv dX4_copyFrom_57 oX4_copyRow sX4_copyRow rfl lX4_58 (kX4_copyRow (i := 12 * a + 4) (i2 := 12 * b + 4) (N := 36) (hps_4 ha) (hps_4 hb) (by decide)) rfl rfl (Nat.le_of_ble_eq_true rfl) (by decide) (Nat.le_of_ble_eq_true rfl) ?_
  rintro _ rfl
  have h4 : CPk 4 a b d (dI d3 (12 * a + 4) (cpy (d3.1 (12 * a + 4)) (d3.1 (12 * b + 4)) 36)) := CP_s h3 hab (by decide)
  generalize dI d3 (12 * a + 4) (cpy (d3.1 (12 * a + 4)) (d3.1 (12 * b + 4)) 36) = d4 at h4 ⊢
  refine aw_aload_n dX4_copyFrom_60 rfl ?_
  refine aw_gf dX4_copyFrom_61 (hps_0 hb _) rfl fX4_28 (by decide) rfl ?_
  refine aw_aload_n dX4_copyFrom_64 rfl ?_
  refine aw_gf dX4_copyFrom_65 (hps_0 ha _) rfl fX4_28 (by decide) rfl ?_
  refine aw_cSv dX4_copyFrom_68 oX4_copyRow sX4_copyRow rfl lX4_58 (kX4_copyRow (i := 12 * a + 5) (i2 := 12 * b + 5) (N := 12) (hps_5 ha) (hps_5 hb) (by decide)) rfl rfl (Nat.le_of_ble_eq_true rfl) (by decide) (Nat.le_of_ble_eq_true rfl) ?_
  rintro _ rfl
  have h5 : CPk 5 a b d (dI d4 (12 * a + 5) (cpy (d4.1 (12 * a + 5)) (d4.1 (12 * b + 5)) 12)) := CP_s h4 hab (by decide)
  generalize dI d4 (12 * a + 5) (cpy (d4.1 (12 * a + 5)) (d4.1 (12 * b + 5)) 12) = d5 at h5 ⊢
  refine aw_aload_n dX4_copyFrom_71 rfl ?_
  refine aw_gf dX4_copyFrom_72 (hps_0 hb _) rfl fX4_31 (by decide) rfl ?_
  refine aw_aload_n dX4_copyFrom_75 rfl ?_
  refine aw_gf dX4_copyFrom_76 (hps_0 ha _) rfl fX4_31 (by decide) rfl ?_
  refine aw_cSv dX4_copyFrom_79 oX4_copyRow sX4_copyRow rfl lX4_58 (kX4_copyRow (i := 12 * a + 6) (i2 := 12 * b + 6) (N := 12) (hps_6 ha) (hps_6 hb) (by decide)) rfl rfl (Nat.le_of_ble_eq_true rfl) (by decide) (Nat.le_of_ble_eq_true rfl) ?_
  rintro _ rfl
  have h6 : CPk 6 a b d (dI d5 (12 * a + 6) (cpy (d5.1 (12 * a + 6)) (d5.1 (12 * b + 6)) 12)) := CP_s h5 hab (by decide)
  generalize dI d5 (12 * a + 6) (cpy (d5.1 (12 * a + 6)) (d5.1 (12 * b + 6)) 12) = d6 at h6 ⊢
  refine aw_aload_n dX4_copyFrom_82 rfl ?_
  refine aw_gf dX4_copyFrom_83 (hps_0 hb _) rfl fX4_34 (by decide) rfl ?_
  refine aw_aload_n dX4_copyFrom_86 rfl ?_
  refine aw_gf dX4_copyFrom_87 (hps_0 ha _) rfl fX4_34 (by decide) rfl ?_
  refine aw_cSv dX4_copyFrom_90 oX4_copyRow sX4_copyRow rfl lX4_58 (kX4_copyRow (i := 12 * a + 7) (i2 := 12 * b + 7) (N := 12) (hps_7 ha) (hps_7 hb) (by decide)) rfl rfl (Nat.le_of_ble_eq_true rfl) (by decide) (Nat.le_of_ble_eq_true rfl) ?_
  rintro _ rfl
  have h7 : CPk 7 a b d (dI d6 (12 * a + 7) (cpy (d6.1 (12 * a + 7)) (d6.1 (12 * b + 7)) 12)) := CP_s h6 hab (by decide)
  generalize dI d6 (12 * a + 7) (cpy (d6.1 (12 * a + 7)) (d6.1 (12 * b + 7)) 12) = d7 at h7 ⊢
  refine aw_aload_n dX4_copyFrom_93 rfl ?_
  refine aw_gf dX4_copyFrom_94 (hps_0 hb _) rfl fX4_37 (by decide) rfl ?_
  refine aw_aload_n dX4_copyFrom_97 rfl ?_
  refine aw_gf dX4_copyFrom_98 (hps_0 ha _) rfl fX4_37 (by decide) rfl ?_
  refine aw_cSv dX4_copyFrom_101 oX4_copyRow sX4_copyRow rfl lX4_58 (kX4_copyRow (i := 12 * a + 8) (i2 := 12 * b + 8) (N := 12) (hps_8 ha) (hps_8 hb) (by decide)) rfl rfl (Nat.le_of_ble_eq_true rfl) (by decide) (Nat.le_of_ble_eq_true rfl) ?_
  rintro _ rfl
  have h8 : CPk 8 a b d (dI d7 (12 * a + 8) (cpy (d7.1 (12 * a + 8)) (d7.1 (12 * b + 8)) 12)) := CP_s h7 hab (by decide)
  generalize dI d7 (12 * a + 8) (cpy (d7.1 (12 * a + 8)) (d7.1 (12 * b + 8)) 12) = d8 at h8 ⊢
  refine aw_aload_n dX4_copyFrom_104 rfl ?_
  refine aw_gf dX4_copyFrom_105 (hps_0 hb _) rfl fX4_40 (by decide) rfl ?_
  refine aw_aload_n dX4_copyFrom_108 rfl ?_
  refine aw_gf dX4_copyFrom_109 (hps_0 ha _) rfl fX4_40 (by decide) rfl ?_
  refine aw_cSv dX4_copyFrom_112 oX4_copyRow sX4_copyRow rfl lX4_58 (kX4_copyRow (i := 12 * a + 9) (i2 := 12 * b + 9) (N := 12) (hps_9 ha) (hps_9 hb) (by decide)) rfl rfl (Nat.le_of_ble_eq_true rfl) (by decide) (Nat.le_of_ble_eq_true rfl) ?_
  rintro _ rfl
  have h9 : CPk 9 a b d (dI d8 (12 * a + 9) (cpy (d8.1 (12 * a + 9)) (d8.1 (12 * b + 9)) 12)) := CP_s h8 hab (by decide)
  generalize dI d8 (12 * a + 9) (cpy (d8.1 (12 * a + 9)) (d8.1 (12 * b + 9)) 12) = d9 at h9 ⊢
  refine aw_aload_n dX4_copyFrom_115 rfl ?_
  refine aw_gf dX4_copyFrom_116 (hps_0 hb _) rfl fX4_43 (by decide) rfl ?_
  refine aw_aload_n dX4_copyFrom_119 rfl ?_
  refine aw_gf dX4_copyFrom_120 (hps_0 ha _) rfl fX4_43 (by decide) rfl ?_
  refine aw_cSv dX4_copyFrom_123 oX4_copyRow sX4_copyRow rfl lX4_58 (kX4_copyRow (i := 12 * a + 10) (i2 := 12 * b + 10) (N := 12) (hps_10 ha) (hps_10 hb) (by decide)) rfl rfl (Nat.le_of_ble_eq_true rfl) (by decide) (Nat.le_of_ble_eq_true rfl) ?_
  rintro _ rfl
  have h10 : CPk 10 a b d (dI d9 (12 * a + 10) (cpy (d9.1 (12 * a + 10)) (d9.1 (12 * b + 10)) 12)) := CP_s h9 hab (by decide)
  generalize dI d9 (12 * a + 10) (cpy (d9.1 (12 * a + 10)) (d9.1 (12 * b + 10)) 12) = d10 at h10 ⊢
  refine aw_aload_n dX4_copyFrom_126 rfl ?_
  refine aw_gf dX4_copyFrom_127 (hps_0 hb _) rfl fX4_46 (by decide) rfl ?_
  refine aw_aload_n dX4_copyFrom_130 rfl ?_
  refine aw_gf dX4_copyFrom_131 (hps_0 ha _) rfl fX4_46 (by decide) rfl ?_
  refine aw_cSv dX4_copyFrom_134 oX4_copyRow sX4_copyRow rfl lX4_58 (kX4_copyRow (i := 12 * a + 11) (i2 := 12 * b + 11) (N := 12) (hps_11 ha) (hps_11 hb) (by decide)) rfl rfl (Nat.le_of_ble_eq_true rfl) (by decide) (Nat.le_of_ble_eq_true rfl) ?_
  rintro _ rfl
  have h11 : CPk 11 a b d (dI d10 (12 * a + 11) (cpy (d10.1 (12 * a + 11)) (d10.1 (12 * b + 11)) 12)) := CP_s h10 hab (by decide)
  generalize dI d10 (12 * a + 11) (cpy (d10.1 (12 * a + 11)) (d10.1 (12 * b + 11)) 12) = d11 at h11 ⊢
  exact aw_endV dX4_copyFrom_137 rfl h11
