set_option maxHeartbeats 4000000 in
set_option maxRecDepth 100000 in
theorem kX8_tellRow {q : St} {d : Dt} (hr : RR (d.1 161) q) (ok : QOK q) {S : Nat} (hS : S < 2 ^ q 0 1) : CV mX8_tellRow 3 [.ref 160, .int (nI S)] d (fun d' => mS d d' ∧ rowI d' (ordL q S)) := by
  show AW mX8_tellRow 3 true (PVx (fun d' => mS d d' ∧ rowI d' (ordL q S)) nX) 0 0 0 [(0, .ref 160), (1, .int (nI S))] [] (HP d)
  obtain ⟨⟨okM1, okM2⟩, okn, -⟩ := id ok
  have hp12 := pow12 okn
  have K : ∀ (f : Nat) (l : Nat) (pre : List Nat) (d' : Dt), l < 2 ^ q 0 1 → mS d d' → rowI d' pre → pre ++ ordF q f l = ordL q S → pre.length + f = 12 → pcx l ≤ f → AW mX8_tellRow 3 true (PVx (fun d' => mS d d' ∧ rowI d' (ordL q S)) nX) 0 0 7 [(0, .ref 160), (1, .int (nI S)), (2, .int (nI l))] [] (HP d') := by
    intro f
    induction f with
    | zero =>
      intro l pre d' hl hm hrow hpre hlen hpc
      have h0 : l = 0 := pcx_0 (by omega) (by omega)
      refine aw_iload_n dX8_tellRow_7 rfl ?_
      refine aw_if_eq 93 dX8_tellRow_8 (by decide) (fun c8 => ?_) (fun c8 => (c8 (by rw [h0]; rfl)).elim)
      exact aw_endV dX8_tellRow_93 rfl ⟨hm, by rw [← hpre, show ordF q 0 l = [] from rfl, List.append_nil]; exact hrow⟩
    | succ f ihf =>
      intro l pre d' hl hm hrow hpre hlen hpc
      have hrg : d'.1 161 = d.1 161 := mS_g hm
      have hr' : RR (d'.1 161) q := by rw [hrg]; exact hr
      refine aw_iload_n dX8_tellRow_7 rfl ?_
      refine aw_if_eq 93 dX8_tellRow_8 (by decide) (fun c8 => ?_) (fun c8 => ?_)
      · have h0 : l = 0 := (eq_nI rfl (show (0 : Int32) = nI 0 from rfl) (by omega) (by omega)).mp c8
        exact aw_endV dX8_tellRow_93 rfl ⟨hm, by rw [← hpre, h0, show ordF q (f + 1) 0 = [] from rfl, List.append_nil]; exact hrow⟩
      · have h0 : l ≠ 0 := fun z => c8 (by rw [z]; rfl)
        refine aw_iconst (v := (-1)) dX8_tellRow_11 (by decide) ?_
        refine aw_istore_n dX8_tellRow_12 (by decide) rfl ?_
        refine aw_aload_n dX8_tellRow_13 rfl ?_
        refine aw_gf dX8_tellRow_14 (hp_160 _) rfl fX8_7 (by decide) rfl ?_
        refine aw_bipush (v := 16) dX8_tellRow_17 (by decide) ?_
        refine aw_ialdN dX8_tellRow_19 (hp_161 _) rfl (16) rfl (by omega) (by decide) ?_
        refine aw_iconst (v := 1) dX8_tellRow_20 (by decide) ?_
        refine aw_isub dX8_tellRow_21 ?_
        refine aw_istore dX8_tellRow_22 (by decide) rfl ?_
        have L24 : ∀ j, j ≤ q 0 1 → ∀ (v1 v2 : Int32), v1 = bs q l (q 0 1) j → v2 = nI (q 0 1 - j) - 1 → AW mX8_tellRow 3 true (PVx (fun d' => mS d d' ∧ rowI d' (ordL q S)) nX) 0 0 24 [(0, .ref 160), (1, .int (nI S)), (2, .int (nI l)), (3, .int v1), (4, .int v2)] [] (HP d') := by
          refine up_ind (fun j hj ih => ?_)
          rintro _ _ rfl rfl
          refine aw_iload dX8_tellRow_24 rfl ?_
          refine aw_if_lt 62 dX8_tellRow_26 (by decide) (fun c26 => ?_) (fun c26 => ?_)
          · have hge : q 0 1 - j = 0 := (tv_neg (by omega)).mp c26
            have hj2 : j = q 0 1 := by omega
            subst hj2
            rw [bs_end ok hl h0]
            refine aw_aload_n dX8_tellRow_62 rfl ?_
            refine aw_gf dX8_tellRow_63 (hp_160 _) rfl fX8_22 (by decide) rfl ?_
            refine aw_aload_n dX8_tellRow_66 rfl ?_
            refine aw_gf dX8_tellRow_67 (hp_160 _) rfl fX8_162 (by decide) rfl ?_
            refine aw_iload_n dX8_tellRow_70 rfl ?_
            refine aw_iastN dX8_tellRow_71 hp_165 (pre.length) hrow.1 (by omega) (by decide)  ?_
            refine aw_aload_n dX8_tellRow_72 rfl ?_
            refine aw_dup dX8_tellRow_73 rfl ?_
            refine aw_gf dX8_tellRow_74 (hp_160 _) rfl fX8_162 (by decide) rfl ?_
            refine aw_iconst (v := 1) dX8_tellRow_77 (by decide) ?_
            refine aw_iadd dX8_tellRow_78 ?_
            refine aw_putI (ci := 8) (j := 9) .int dX8_tellRow_79 fX8_162 rfl (by decide) rfl tyX8 tyX8_ok nmX8 rfl rfl rfl (hp_160 _) (Nat.le_of_ble_eq_true rfl) rfl ?_
            refine aw_iload_n dX8_tellRow_82 rfl ?_
            refine aw_iconst (v := 1) dX8_tellRow_83 (by decide) ?_
            refine aw_iload_n dX8_tellRow_84 rfl ?_
            refine aw_ishl dX8_tellRow_85 ?_
            refine aw_iconst (v := (-1)) dX8_tellRow_86 (by decide) ?_
            refine aw_ixor dX8_tellRow_87 ?_
            refine aw_iand dX8_tellRow_88 ?_
            refine aw_istore_n dX8_tellRow_89 (by decide) rfl ?_
            refine aw_goto (tgt := 7) dX8_tellRow_90 (by decide) ?_
            have ht := nxt_ok ok (show l < 4096 by omega) h0
            rw [nI_sh1 _ (by omega), nI_lacks (by omega) (Nat.lt_of_lt_of_le (Nat.pow_lt_pow_right (by omega) ht.1.1) (by decide : 2 ^ 12 ≤ 4096))]
            have hpc2 := pcx_clr (show l < 4096 by omega) ht.1.2.1
            refine aw_pick [0, 1, 2] (ihf (clr l (nxt q l 12)) (pre ++ [nxt q l 12]) _ (lacks_lt hl) (mS_160 (mS_165 hm _) _) (rowI_s hrow _ rfl _ rfl) ?_ (by rw [List.length_append]; simp only [List.length_cons, List.length_nil]; omega) (by omega))
            rw [← hpre, List.append_assoc]
            congr 1
            rw [show ordF q (f + 1) l = if l = 0 then [] else nxt q l 12 :: ordF q f (clr l (nxt q l 12)) from rfl, if_neg h0]
            rfl
          · have hlt : j < q 0 1 := by have := mt (tv_neg (m := q 0 1 - j) (by omega)).mpr c26; omega
            have e1 : nI (q 0 1 - j) - 1 = nI (q 0 1 - 1 - j) := by rw [tv_s (by omega), show q 0 1 - j - 1 = q 0 1 - 1 - j by omega]
            rw [e1]
            refine aw_iload_n dX8_tellRow_29 rfl ?_
            refine aw_iload dX8_tellRow_30 rfl ?_
            refine aw_cSP dX8_tellRow_32 oX8_has sX8_has rfl lX8_127 kX8_has rfl rfl (Nat.le_of_ble_eq_true rfl) (by decide) (Nat.le_of_ble_eq_true rfl) ?_
            refine aw_if_eq 54 dX8_tellRow_35 (by decide) (fun c35 => ?_) (fun c35 => ?_)
            · refine aw_iload_n dX8_tellRow_54 rfl ?_
              refine aw_istore_n dX8_tellRow_55 (by decide) rfl ?_
              refine aw_inc (c := (-1)) dX8_tellRow_56 (by decide) rfl (by decide) rfl ?_
              refine aw_goto (tgt := 24) dX8_tellRow_59 (by decide) ?_
              exact ih hlt _ _ (by rw [hb_nI (by omega) (by omega)] at c35; rw [b2i_eq] at c35; exact (bs_f (fun z => by rw [c35] at z; cases z.1)).symm) (by rw [tv_d, ← e1, show q 0 1 - (j + 1) = q 0 1 - j - 1 by omega, ← tv_s (show 1 ≤ q 0 1 - j by omega)])
            · refine aw_aload_n dX8_tellRow_38 rfl ?_
              refine aw_iload dX8_tellRow_39 rfl ?_
              refine aw_cVP dX8_tellRow_41 oX8_aheadOf vX8_aheadOf rfl lX8_130 (kX8_aheadOf hr' ok (t := q 0 1 - 1 - j) (by omega)) rfl (hp_160 _) rfl rfl rfl (Nat.le_of_ble_eq_true rfl) (by decide) (Nat.le_of_ble_eq_true rfl) ?_
              refine aw_iload_n dX8_tellRow_44 rfl ?_
              refine aw_iand dX8_tellRow_45 ?_
              refine aw_if_ne 54 dX8_tellRow_46 (by decide) (fun c46 => ?_) (fun c46 => ?_)
              · refine aw_iload_n dX8_tellRow_54 rfl ?_
                refine aw_istore_n dX8_tellRow_55 (by decide) rfl ?_
                refine aw_inc (c := (-1)) dX8_tellRow_56 (by decide) rfl (by decide) rfl ?_
                refine aw_goto (tgt := 24) dX8_tellRow_59 (by decide) ?_
                exact ih hlt _ _ (by rw [hb_nI (by omega) (by omega)] at c35; rw [b2i_ne] at c35; rw [nI_and, eq_nI rfl (show (0 : Int32) = nI 0 from rfl) (Nat.lt_of_le_of_lt Nat.and_le_right (by omega)) (by omega)] at c46; exact (bs_f (fun z => c46 z.2)).symm) (by rw [tv_d, ← e1, show q 0 1 - (j + 1) = q 0 1 - j - 1 by omega, ← tv_s (show 1 ≤ q 0 1 - j by omega)])
              · refine aw_iload dX8_tellRow_49 rfl ?_
                refine aw_goto (tgt := 55) dX8_tellRow_51 (by decide) ?_
                refine aw_istore_n dX8_tellRow_55 (by decide) rfl ?_
                refine aw_inc (c := (-1)) dX8_tellRow_56 (by decide) rfl (by decide) rfl ?_
                refine aw_goto (tgt := 24) dX8_tellRow_59 (by decide) ?_
                exact ih hlt _ _ (by rw [hb_nI (by omega) (by omega)] at c35; rw [b2i_ne] at c35; rw [nI_and, eq_nI rfl (show (0 : Int32) = nI 0 from rfl) (Nat.lt_of_le_of_lt Nat.and_le_right (by omega)) (by omega)] at c46; exact (bs_t ⟨c35, c46⟩).symm) (by rw [tv_d, ← e1, show q 0 1 - (j + 1) = q 0 1 - j - 1 by omega, ← tv_s (show 1 ≤ q 0 1 - j by omega)])
        exact L24 0 (Nat.zero_le _) _ _ rfl (by rw [hr'.1.2]; rfl)
  refine aw_aload_n dX8_tellRow_0 rfl ?_
  refine aw_iconst (v := 0) dX8_tellRow_1 (by decide) ?_
  refine aw_putI (ci := 8) (j := 9) .int dX8_tellRow_2 fX8_162 rfl (by decide) rfl tyX8 tyX8_ok nmX8 rfl rfl rfl (hp_160 _) (Nat.le_of_ble_eq_true rfl) rfl ?_
  refine aw_iload_n dX8_tellRow_5 rfl ?_
  refine aw_istore_n dX8_tellRow_6 (by decide) rfl ?_
  exact K 12 S [] _ hS (mS_160 (mS_r d) 0) (rowI_0 d) rfl rfl (pcx_le S)
