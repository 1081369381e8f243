set_option maxHeartbeats 4000000 in
set_option maxRecDepth 100000 in
theorem kX8_refuses {q : St} {d : Dt} (hr : RR (d.1 161) q) (ok : QOK q) {t s : Nat} (ht : t < q 0 1) (hs : s < 8) : CI mX8_refuses 6 [.ref 160, .int (nI t), .int (nI s)] d (fun x d' => mS d d' ∧ x = nI (refQ q t s)) := by
  show AW mX8_refuses 6 true (PIx (fun x d' => mS d d' ∧ x = nI (refQ q t s)) nX) 0 0 0 [(0, .ref 160), (1, .int (nI t)), (2, .int (nI s))] [] (HP d)
  obtain ⟨⟨okM1, okM2⟩, okn, -⟩ := id ok
  have hp12 := pow12 okn
  have h8 := q8_lt ok (show t < 12 by omega)
  have h9 := q9_lt ok (show t < 12 by omega)
  have h11 := (ok.2.2.2.2.2.2.2.2.1 t (by omega)).2.2
  have hst := stn_lt ok s
  have hSt : (stn q s ||| 2 ^ t) < 2 ^ q 0 1 := or_p2_lt hst ht
  have htl := tls_lt ok (stn q s ||| 2 ^ t)
  have hpc := pc_le32 (tls q (stn q s ||| 2 ^ t))
  have hl22 := ok.2.2.2.1.2.2.2.2.1
  have hg6 : d.1 161 6 = nI (q 2 2) := hr.2.2.1 2 (by decide)
  have hcp := ok.2.2.2.2.1 s hs
  refine aw_aload_n dX8_refuses_0 rfl ?_
  refine aw_iload_n dX8_refuses_1 rfl ?_
  refine aw_cVP dX8_refuses_2 oX8_inStation vX8_inStation rfl lX8_178 (kX8_inStation hr ok (s := s) hs) rfl (hp_160 _) rfl rfl rfl (Nat.le_of_ble_eq_true rfl) (by decide) (Nat.le_of_ble_eq_true rfl) ?_
  refine aw_iconst (v := 1) dX8_refuses_5 (by decide) ?_
  refine aw_iload_n dX8_refuses_6 rfl ?_
  refine aw_ishl dX8_refuses_7 ?_
  refine aw_ior dX8_refuses_8 ?_
  rw [nI_sh1 t (by omega), nI_or]
  refine aw_istore_n dX8_refuses_9 (by decide) rfl ?_
  refine aw_aload_n dX8_refuses_10 rfl ?_
  refine aw_iload_n dX8_refuses_11 rfl ?_
  refine aw_cVP dX8_refuses_12 oX8_aheadOf vX8_aheadOf rfl lX8_130 (kX8_aheadOf hr ok (t := t) (by omega)) rfl (hp_160 _) rfl rfl rfl (Nat.le_of_ble_eq_true rfl) (by decide) (Nat.le_of_ble_eq_true rfl) ?_
  refine aw_istore dX8_refuses_15 (by decide) rfl ?_
  refine aw_aload_n dX8_refuses_17 rfl ?_
  refine aw_iload_n dX8_refuses_18 rfl ?_
  refine aw_cVP dX8_refuses_19 oX8_behind vX8_behind rfl lX8_153 (kX8_behind hr ok (t := t) (by omega)) rfl (hp_160 _) rfl rfl rfl (Nat.le_of_ble_eq_true rfl) (by decide) (Nat.le_of_ble_eq_true rfl) ?_
  refine aw_istore dX8_refuses_22 (by decide) rfl ?_
  refine aw_iconst (v := 0) dX8_refuses_24 (by decide) ?_
  refine aw_istore dX8_refuses_25 (by decide) rfl ?_
  refine aw_iconst (v := 0) dX8_refuses_27 (by decide) ?_
  refine aw_istore dX8_refuses_28 (by decide) rfl ?_
  refine aw_iconst (v := 0) dX8_refuses_30 (by decide) ?_
  refine aw_istore dX8_refuses_31 (by decide) rfl ?_
  refine aw_iconst (v := 0) dX8_refuses_33 (by decide) ?_
  refine aw_istore dX8_refuses_34 (by decide) rfl ?_
  have L36 : ∀ j, j ≤ q 0 1 → ∀ (v1 v2 v3 v4 : Int32), v1 = b2i (anyB j (hiF q t s)) → v2 = b2i (anyB j (loF q t s)) → v3 = b2i (anyB j (toF q t s)) → v4 = nI j → AW mX8_refuses 6 true (PIx (fun x d' => mS d d' ∧ x = nI (refQ q t s)) nX) 0 0 36 [(0, .ref 160), (1, .int (nI t)), (2, .int (nI s)), (3, .int (nI (stn q s ||| 2 ^ t))), (4, .int (nI (q 8 t))), (5, .int (nI (q 9 t))), (6, .int v1), (7, .int v2), (8, .int v3), (9, .int v4)] [] (HP d) := by
    refine up_ind (fun j hj ih => ?_)
    rintro _ _ _ _ rfl rfl rfl rfl
    refine aw_iload dX8_refuses_36 rfl ?_
    refine aw_aload_n dX8_refuses_38 rfl ?_
    refine aw_gf dX8_refuses_39 (hp_160 _) rfl fX8_7 (by decide) rfl ?_
    refine aw_bipush (v := 16) dX8_refuses_42 (by decide) ?_
    refine aw_ialdN dX8_refuses_44 (hp_161 _) rfl (16) (by first | rfl | (simp only [li_0, li_1, li_2, li_3, li_4, li_5, li_7, li_8, li_9, li_11, li_12, li_16, li_17, li_31, li_32, li_60, li_77, li_80, li_89, li_99, li_101, li_112, li_113, li_256, li_999, li_1023, nI_add, pk_mul])) (by omega) (by decide) ?_
    refine aw_icmp_ge 164 dX8_refuses_45 (by decide) (fun c45 => ?_) (fun c45 => ?_)
    · have hge : q 0 1 ≤ j := (le_nI hr.1.2 rfl (by omega) (by omega)).mp c45
      have hj2 : j = q 0 1 := by omega
      subst hj2
      refine aw_iload dX8_refuses_164 rfl ?_
      refine aw_if_ne 174 dX8_refuses_166 (by decide) (fun c166 => ?_) (fun c166 => ?_)
      · refine aw_iload dX8_refuses_174 rfl ?_
        refine aw_if_eq 183 dX8_refuses_176 (by decide) (fun c176 => ?_) (fun c176 => ?_)
        · refine aw_iconst (v := 2) dX8_refuses_183 (by decide) ?_
          exact (c166 c176).elim
        · refine aw_iconst (v := 1) dX8_refuses_179 (by decide) ?_
          refine aw_goto (tgt := 184) dX8_refuses_180 (by decide) ?_
          exact aw_endI dX8_refuses_184 rfl ⟨mS_r d, by unfold refQ; rw [if_pos (b2i_ne.mp c166)]; rfl⟩
      · refine aw_iload dX8_refuses_169 rfl ?_
        refine aw_if_eq 185 dX8_refuses_171 (by decide) (fun c171 => ?_) (fun c171 => ?_)
        · have n1 : ¬ anyB (q 0 1) (hiF q t s) = true := by rw [b2i_eq.mp c166]; exact Bool.false_ne_true
          have n2 : ¬ anyB (q 0 1) (loF q t s) = true := by rw [b2i_eq.mp c171]; exact Bool.false_ne_true
          refine aw_aload_n dX8_refuses_185 rfl ?_
          refine aw_gf dX8_refuses_186 (hp_160 _) rfl fX8_7 (by decide) rfl ?_
          refine aw_bipush (v := 89) dX8_refuses_189 (by decide) ?_
          refine aw_iload_n dX8_refuses_191 rfl ?_
          refine aw_iadd dX8_refuses_192 ?_
          refine aw_ialdN dX8_refuses_193 (hp_161 _) rfl (89 + t) (by first | rfl | (simp only [li_0, li_1, li_2, li_3, li_4, li_5, li_7, li_8, li_9, li_11, li_12, li_16, li_17, li_31, li_32, li_60, li_77, li_80, li_89, li_99, li_101, li_112, li_113, li_256, li_999, li_1023, nI_add, pk_mul])) (by omega) (by decide) ?_
          refine aw_iload_n dX8_refuses_194 rfl ?_
          refine aw_iand dX8_refuses_195 ?_
          refine aw_if_eq 201 dX8_refuses_196 (by decide) (fun c196 => ?_) (fun c196 => ?_)
          · rw [(hr.2.2.2.2.2 t (by omega)).2.1, nI_and, eq_nI rfl (show (0 : Int32) = nI 0 from rfl) (Nat.lt_of_le_of_lt Nat.and_le_right (by omega)) (by omega)] at c196
            have n3 : ¬ (q 10 t &&& (stn q s ||| 2 ^ t) ≠ 0) := fun z => z c196
            refine aw_iload dX8_refuses_201 rfl ?_
            refine aw_if_eq 208 dX8_refuses_203 (by decide) (fun c203 => ?_) (fun c203 => ?_)
            · have n4 : ¬ anyB (q 0 1) (toF q t s) = true := by rw [b2i_eq.mp c203]; exact Bool.false_ne_true
              refine aw_aload_n dX8_refuses_208 rfl ?_
              refine aw_iload_n dX8_refuses_209 rfl ?_
              refine aw_cVP dX8_refuses_210 oX8_toolsOf vX8_toolsOf rfl lX8_181 (kX8_toolsOf hr ok hSt) rfl (hp_160 _) rfl rfl rfl (Nat.le_of_ble_eq_true rfl) (by decide) (Nat.le_of_ble_eq_true rfl) ?_
              refine aw_cSP dX8_refuses_213 oX8_many sX8_many rfl lX8_133 (kX8_many (by omega)) rfl rfl (Nat.le_of_ble_eq_true rfl) (by decide) (Nat.le_of_ble_eq_true rfl) ?_
              refine aw_aload_n dX8_refuses_216 rfl ?_
              refine aw_gf dX8_refuses_217 (hp_160 _) rfl fX8_7 (by decide) rfl ?_
              refine aw_bipush (v := 6) dX8_refuses_220 (by decide) ?_
              refine aw_ialdN dX8_refuses_222 (hp_161 _) rfl (6) (by first | rfl | (simp only [li_0, li_1, li_2, li_3, li_4, li_5, li_7, li_8, li_9, li_11, li_12, li_16, li_17, li_31, li_32, li_60, li_77, li_80, li_89, li_99, li_101, li_112, li_113, li_256, li_999, li_1023, nI_add, pk_mul])) (by omega) (by decide) ?_
              refine aw_icmp_le 230 dX8_refuses_223 (by decide) (fun c223 => ?_) (fun c223 => ?_)
              · have n5 : ¬ q 2 2 < pc (tls q (stn q s ||| 2 ^ t)) := by rw [hg6, le_nI rfl rfl (by omega) (by omega)] at c223; omega
                refine aw_aload_n dX8_refuses_230 rfl ?_
                refine aw_iload_n dX8_refuses_231 rfl ?_
                refine aw_aload_n dX8_refuses_232 rfl ?_
                refine aw_gf dX8_refuses_233 (hp_160 _) rfl fX8_7 (by decide) rfl ?_
                refine aw_bipush (v := 8) dX8_refuses_236 (by decide) ?_
                refine aw_iload_n dX8_refuses_238 rfl ?_
                refine aw_iadd dX8_refuses_239 ?_
                refine aw_ialdN dX8_refuses_240 (hp_161 _) rfl (8 + s) (by first | rfl | (simp only [li_0, li_1, li_2, li_3, li_4, li_5, li_7, li_8, li_9, li_11, li_12, li_16, li_17, li_31, li_32, li_60, li_77, li_80, li_89, li_99, li_101, li_112, li_113, li_256, li_999, li_1023, nI_add, pk_mul])) (by omega) (by decide) ?_
                rw [show d.1 161 (8 + s) = nI (q 3 s) from hr.2.2.2.1 s hs]
                refine aw_cVI dX8_refuses_241 oX8_fits vX8_fits rfl lX8_184 (kX8_fits hr ok hSt (c := q 3 s) hcp.2) rfl (hp_160 _) rfl rfl rfl (Nat.le_of_ble_eq_true rfl) (by decide) (Nat.le_of_ble_eq_true rfl) ?_
                rintro _ d1 ⟨hm1, rfl⟩
                refine aw_if_eq 251 dX8_refuses_244 (by decide) (fun c244 => ?_) (fun c244 => ?_)
                · refine aw_bipush (v := 6) dX8_refuses_251 (by decide) ?_
                  exact aw_endI dX8_refuses_253 rfl ⟨hm1, by unfold refQ; rw [if_neg n1, if_neg n2, if_neg n3, if_neg n4, if_neg n5, if_neg (by rw [b2i_eq.mp c244]; exact Bool.false_ne_true)]; rfl⟩
                · refine aw_iconst (v := 0) dX8_refuses_247 (by decide) ?_
                  refine aw_goto (tgt := 253) dX8_refuses_248 (by decide) ?_
                  exact aw_endI dX8_refuses_253 rfl ⟨hm1, by unfold refQ; rw [if_neg n1, if_neg n2, if_neg n3, if_neg n4, if_neg n5, if_pos (b2i_ne.mp c244)]; rfl⟩
              · have n5 : q 2 2 < pc (tls q (stn q s ||| 2 ^ t)) := by rw [hg6, le_nI rfl rfl (by omega) (by omega)] at c223; omega
                refine aw_iconst (v := 5) dX8_refuses_226 (by decide) ?_
                refine aw_goto (tgt := 253) dX8_refuses_227 (by decide) ?_
                exact aw_endI dX8_refuses_253 rfl ⟨mS_r d, by unfold refQ; rw [if_neg n1, if_neg n2, if_neg n3, if_neg n4, if_pos n5]; rfl⟩
            · refine aw_iconst (v := 4) dX8_refuses_206 (by decide) ?_
              exact aw_endI dX8_refuses_207 rfl ⟨mS_r d, by unfold refQ; rw [if_neg n1, if_neg n2, if_neg n3, if_pos (b2i_ne.mp c203)]; rfl⟩
          · rw [(hr.2.2.2.2.2 t (by omega)).2.1, nI_and, eq_nI rfl (show (0 : Int32) = nI 0 from rfl) (Nat.lt_of_le_of_lt Nat.and_le_right (by omega)) (by omega)] at c196
            have n3 : q 10 t &&& (stn q s ||| 2 ^ t) ≠ 0 := c196
            refine aw_iconst (v := 3) dX8_refuses_199 (by decide) ?_
            exact aw_endI dX8_refuses_200 rfl ⟨mS_r d, by unfold refQ; rw [if_neg n1, if_neg n2, if_pos n3]; rfl⟩
        · refine aw_iload dX8_refuses_174 rfl ?_
          refine aw_if_eq 183 dX8_refuses_176 (by decide) (fun c176 => ?_) (fun c176 => ?_)
          · refine aw_iconst (v := 2) dX8_refuses_183 (by decide) ?_
            exact aw_endI dX8_refuses_184 rfl ⟨mS_r d, by unfold refQ; rw [if_neg (by rw [b2i_eq.mp c166]; exact Bool.false_ne_true), if_pos (b2i_ne.mp c171)]; rfl⟩
          · refine aw_iconst (v := 1) dX8_refuses_179 (by decide) ?_
            refine aw_goto (tgt := 184) dX8_refuses_180 (by decide) ?_
            exact (c176 c166).elim
    · have hlt : j < q 0 1 := Nat.lt_of_not_le (fun z => c45 ((le_nI hr.1.2 rfl (by omega) (by omega)).mpr z))
      have h6 := (ok.2.2.2.2.2.2.1 j (by omega)).2
      refine aw_aload_n dX8_refuses_48 rfl ?_
      refine aw_iload dX8_refuses_49 rfl ?_
      refine aw_iconst (v := 4) dX8_refuses_51 (by decide) ?_
      refine aw_cVP dX8_refuses_52 oX8_of vX8_of rfl lX8_124 (kX8_of (t := j) (w := 4) (by omega) (by omega)) rfl (hp_160 _) rfl rfl rfl (Nat.le_of_ble_eq_true rfl) (by decide) (Nat.le_of_ble_eq_true rfl) ?_
      refine aw_istore dX8_refuses_55 (by decide) rfl ?_
      refine aw_join (P := fun v => v = b2i (anyB (j + 1) (hiF q t s))) 83 (fun v hv83 => ?_) (fun kJ83 => ?_)
      · subst hv83
        refine aw_istore dX8_refuses_83 (by decide) rfl ?_
        refine aw_join (P := fun v => v = b2i (anyB (j + 1) (loF q t s))) 116 (fun v hv116 => ?_) (fun kJ116 => ?_)
        · subst hv116
          refine aw_istore dX8_refuses_116 (by decide) rfl ?_
          refine aw_join (P := fun v => v = b2i (anyB (j + 1) (toF q t s))) 156 (fun v hv156 => ?_) (fun kJ156 => ?_)
          · subst hv156
            refine aw_istore dX8_refuses_156 (by decide) rfl ?_
            refine aw_inc (c := 1) dX8_refuses_158 (by decide) rfl (by decide) rfl ?_
            refine aw_goto (tgt := 36) dX8_refuses_161 (by decide) ?_
            exact aw_pick [0, 1, 2, 3, 4, 5, 6, 7, 8, 9] (ih hlt _ _ _ _ rfl rfl rfl (nI_1 j))
          · refine aw_iload dX8_refuses_118 rfl ?_
            refine aw_if_ne 151 dX8_refuses_120 (by decide) (fun c120 => ?_) (fun c120 => ?_)
            · refine aw_iconst (v := 1) dX8_refuses_151 (by decide) ?_
              refine aw_goto (tgt := 156) dX8_refuses_152 (by decide) ?_
              exact kJ156 _ (by rw [b2i_ne] at c120; rw [show anyB (j + 1) (toF q t s) = (anyB j (toF q t s) || toF q t s j) from rfl, c120]; rfl)
            · refine aw_aload_n dX8_refuses_123 rfl ?_
              refine aw_gf dX8_refuses_124 (hp_160 _) rfl fX8_7 (by decide) rfl ?_
              refine aw_bipush (v := 101) dX8_refuses_127 (by decide) ?_
              refine aw_iload_n dX8_refuses_129 rfl ?_
              refine aw_iadd dX8_refuses_130 ?_
              refine aw_ialdN dX8_refuses_131 (hp_161 _) rfl (101 + t) (by first | rfl | (simp only [li_0, li_1, li_2, li_3, li_4, li_5, li_7, li_8, li_9, li_11, li_12, li_16, li_17, li_31, li_32, li_60, li_77, li_80, li_89, li_99, li_101, li_112, li_113, li_256, li_999, li_1023, nI_add, pk_mul])) (by omega) (by decide) ?_
              refine aw_iload dX8_refuses_132 rfl ?_
              refine aw_cSP dX8_refuses_134 oX8_has sX8_has rfl lX8_127 kX8_has rfl rfl (Nat.le_of_ble_eq_true rfl) (by decide) (Nat.le_of_ble_eq_true rfl) ?_
              refine aw_if_eq 155 dX8_refuses_137 (by decide) (fun c137 => ?_) (fun c137 => ?_)
              · refine aw_iconst (v := 0) dX8_refuses_155 (by decide) ?_
                exact kJ156 _ (by rw [b2i_eq] at c120; rw [show anyB (j + 1) (toF q t s) = (anyB j (toF q t s) || toF q t s j) from rfl, c120]; rw [(hr.2.2.2.2.2 t (by omega)).2.2] at c137; rw [hb_nI (by omega) (by omega)] at c137; (first | (rw [b2i_eq] at c137) | (rw [b2i_ne] at c137)); simp only [toF, c137]; rfl)
              · refine aw_iload dX8_refuses_140 rfl ?_
                refine aw_if_lt 155 dX8_refuses_142 (by decide) (fun c142 => ?_) (fun c142 => ?_)
                · refine aw_iconst (v := 0) dX8_refuses_155 (by decide) ?_
                  exact kJ156 _ (by rw [b2i_eq] at c120; rw [show anyB (j + 1) (toF q t s) = (anyB j (toF q t s) || toF q t s j) from rfl, c120]; rw [(hr.2.2.2.2.2 t (by omega)).2.2] at c137; rw [hb_nI (by omega) (by omega)] at c137; (first | (rw [b2i_eq] at c137) | (rw [b2i_ne] at c137)); rw [(hr.2.2.2.2.1 j hlt).2.2, pv_lt0 h6] at c142; simp only [toF, c137, decide_eq_false (show ¬ (1 ≤ q 6 j ∧ q 6 j ≠ s + 1) by omega)]; rfl)
                · refine aw_iload dX8_refuses_145 rfl ?_
                  refine aw_iload_n dX8_refuses_147 rfl ?_
                  refine aw_icmp_eq 155 dX8_refuses_148 (by decide) (fun c148 => ?_) (fun c148 => ?_)
                  · refine aw_iconst (v := 0) dX8_refuses_155 (by decide) ?_
                    exact kJ156 _ (by rw [b2i_eq] at c120; rw [show anyB (j + 1) (toF q t s) = (anyB j (toF q t s) || toF q t s j) from rfl, c120]; rw [(hr.2.2.2.2.2 t (by omega)).2.2] at c137; rw [hb_nI (by omega) (by omega)] at c137; (first | (rw [b2i_eq] at c137) | (rw [b2i_ne] at c137)); rw [(hr.2.2.2.2.1 j hlt).2.2, pv_lt0 h6] at c142; rw [(hr.2.2.2.2.1 j hlt).2.2, pv_nI h6 (by omega)] at c148; simp only [toF, c137, decide_eq_false (show ¬ (1 ≤ q 6 j ∧ q 6 j ≠ s + 1) by omega)]; rfl)
                  · refine aw_iconst (v := 1) dX8_refuses_151 (by decide) ?_
                    refine aw_goto (tgt := 156) dX8_refuses_152 (by decide) ?_
                    exact kJ156 _ (by rw [b2i_eq] at c120; rw [show anyB (j + 1) (toF q t s) = (anyB j (toF q t s) || toF q t s j) from rfl, c120]; rw [(hr.2.2.2.2.2 t (by omega)).2.2] at c137; rw [hb_nI (by omega) (by omega)] at c137; (first | (rw [b2i_eq] at c137) | (rw [b2i_ne] at c137)); rw [(hr.2.2.2.2.1 j hlt).2.2, pv_lt0 h6] at c142; rw [(hr.2.2.2.2.1 j hlt).2.2, pv_nI h6 (by omega)] at c148; simp only [toF, c137, decide_eq_true (show 1 ≤ q 6 j ∧ q 6 j ≠ s + 1 by omega)]; rfl)
        · refine aw_iload dX8_refuses_85 rfl ?_
          refine aw_if_ne 111 dX8_refuses_87 (by decide) (fun c87 => ?_) (fun c87 => ?_)
          · refine aw_iconst (v := 1) dX8_refuses_111 (by decide) ?_
            refine aw_goto (tgt := 116) dX8_refuses_112 (by decide) ?_
            exact kJ116 _ (by rw [b2i_ne] at c87; rw [show anyB (j + 1) (loF q t s) = (anyB j (loF q t s) || loF q t s j) from rfl, c87]; rfl)
          · refine aw_iload dX8_refuses_90 rfl ?_
            refine aw_iload dX8_refuses_92 rfl ?_
            refine aw_cSP dX8_refuses_94 oX8_has sX8_has rfl lX8_127 kX8_has rfl rfl (Nat.le_of_ble_eq_true rfl) (by decide) (Nat.le_of_ble_eq_true rfl) ?_
            refine aw_if_eq 115 dX8_refuses_97 (by decide) (fun c97 => ?_) (fun c97 => ?_)
            · refine aw_iconst (v := 0) dX8_refuses_115 (by decide) ?_
              exact kJ116 _ (by rw [b2i_eq] at c87; rw [show anyB (j + 1) (loF q t s) = (anyB j (loF q t s) || loF q t s j) from rfl, c87]; rw [hb_nI (by omega) (by omega)] at c97; (first | (rw [b2i_eq] at c97) | (rw [b2i_ne] at c97)); simp only [loF, c97]; rfl)
            · refine aw_iload dX8_refuses_100 rfl ?_
              refine aw_if_lt 115 dX8_refuses_102 (by decide) (fun c102 => ?_) (fun c102 => ?_)
              · refine aw_iconst (v := 0) dX8_refuses_115 (by decide) ?_
                exact kJ116 _ (by rw [b2i_eq] at c87; rw [show anyB (j + 1) (loF q t s) = (anyB j (loF q t s) || loF q t s j) from rfl, c87]; rw [hb_nI (by omega) (by omega)] at c97; (first | (rw [b2i_eq] at c97) | (rw [b2i_ne] at c97)); rw [(hr.2.2.2.2.1 j hlt).2.2, pv_lt0 h6] at c102; simp only [loF, c97, decide_eq_false (show ¬ (1 ≤ q 6 j ∧ q 6 j ≤ s) by omega)]; rfl)
              · refine aw_iload dX8_refuses_105 rfl ?_
                refine aw_iload_n dX8_refuses_107 rfl ?_
                refine aw_icmp_ge 115 dX8_refuses_108 (by decide) (fun c108 => ?_) (fun c108 => ?_)
                · refine aw_iconst (v := 0) dX8_refuses_115 (by decide) ?_
                  exact kJ116 _ (by rw [b2i_eq] at c87; rw [show anyB (j + 1) (loF q t s) = (anyB j (loF q t s) || loF q t s j) from rfl, c87]; rw [hb_nI (by omega) (by omega)] at c97; (first | (rw [b2i_eq] at c97) | (rw [b2i_ne] at c97)); rw [(hr.2.2.2.2.1 j hlt).2.2, pv_lt0 h6] at c102; rw [(hr.2.2.2.2.1 j hlt).2.2, pv_ge h6 (by omega)] at c108; simp only [loF, c97, decide_eq_false (show ¬ (1 ≤ q 6 j ∧ q 6 j ≤ s) by omega)]; rfl)
                · refine aw_iconst (v := 1) dX8_refuses_111 (by decide) ?_
                  refine aw_goto (tgt := 116) dX8_refuses_112 (by decide) ?_
                  exact kJ116 _ (by rw [b2i_eq] at c87; rw [show anyB (j + 1) (loF q t s) = (anyB j (loF q t s) || loF q t s j) from rfl, c87]; rw [hb_nI (by omega) (by omega)] at c97; (first | (rw [b2i_eq] at c97) | (rw [b2i_ne] at c97)); rw [(hr.2.2.2.2.1 j hlt).2.2, pv_lt0 h6] at c102; rw [(hr.2.2.2.2.1 j hlt).2.2, pv_ge h6 (by omega)] at c108; simp only [loF, c97, decide_eq_true (show 1 ≤ q 6 j ∧ q 6 j ≤ s by omega)]; rfl)
      · refine aw_iload dX8_refuses_57 rfl ?_
        refine aw_if_ne 78 dX8_refuses_59 (by decide) (fun c59 => ?_) (fun c59 => ?_)
        · refine aw_iconst (v := 1) dX8_refuses_78 (by decide) ?_
          refine aw_goto (tgt := 83) dX8_refuses_79 (by decide) ?_
          exact kJ83 _ (by rw [b2i_ne] at c59; rw [show anyB (j + 1) (hiF q t s) = (anyB j (hiF q t s) || hiF q t s j) from rfl, c59]; rfl)
        · refine aw_iload dX8_refuses_62 rfl ?_
          refine aw_iload dX8_refuses_64 rfl ?_
          refine aw_cSP dX8_refuses_66 oX8_has sX8_has rfl lX8_127 kX8_has rfl rfl (Nat.le_of_ble_eq_true rfl) (by decide) (Nat.le_of_ble_eq_true rfl) ?_
          refine aw_if_eq 82 dX8_refuses_69 (by decide) (fun c69 => ?_) (fun c69 => ?_)
          · refine aw_iconst (v := 0) dX8_refuses_82 (by decide) ?_
            exact kJ83 _ (by rw [b2i_eq] at c59; rw [show anyB (j + 1) (hiF q t s) = (anyB j (hiF q t s) || hiF q t s j) from rfl, c59]; rw [hb_nI (by omega) (by omega)] at c69; (first | (rw [b2i_eq] at c69) | (rw [b2i_ne] at c69)); simp only [hiF, c69]; rfl)
          · refine aw_iload dX8_refuses_72 rfl ?_
            refine aw_iload_n dX8_refuses_74 rfl ?_
            refine aw_icmp_le 82 dX8_refuses_75 (by decide) (fun c75 => ?_) (fun c75 => ?_)
            · refine aw_iconst (v := 0) dX8_refuses_82 (by decide) ?_
              exact kJ83 _ (by rw [b2i_eq] at c59; rw [show anyB (j + 1) (hiF q t s) = (anyB j (hiF q t s) || hiF q t s j) from rfl, c59]; rw [hb_nI (by omega) (by omega)] at c69; (first | (rw [b2i_eq] at c69) | (rw [b2i_ne] at c69)); rw [(hr.2.2.2.2.1 j hlt).2.2, pv_le h6 (by omega)] at c75; simp only [hiF, c69, decide_eq_false (show ¬ s + 1 < q 6 j by omega)]; rfl)
            · refine aw_iconst (v := 1) dX8_refuses_78 (by decide) ?_
              refine aw_goto (tgt := 83) dX8_refuses_79 (by decide) ?_
              exact kJ83 _ (by rw [b2i_eq] at c59; rw [show anyB (j + 1) (hiF q t s) = (anyB j (hiF q t s) || hiF q t s j) from rfl, c59]; rw [hb_nI (by omega) (by omega)] at c69; (first | (rw [b2i_eq] at c69) | (rw [b2i_ne] at c69)); rw [(hr.2.2.2.2.1 j hlt).2.2, pv_le h6 (by omega)] at c75; simp only [hiF, c69, decide_eq_true (show s + 1 < q 6 j by omega)]; rfl)
  exact L36 0 (Nat.zero_le _) _ _ _ _ rfl rfl rfl rfl
