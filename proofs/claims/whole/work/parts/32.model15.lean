set_option maxHeartbeats 4000000 in
set_option maxRecDepth 100000 in
theorem kX8_linesOf {q : St} {d : Dt} (hr : RR (d.1 161) q) (ok : QOK q) (h8 : q 0 1 ≤ 8) (hts : TS q d (2 ^ q 0 1)) {tl : Nat → Nat} (hT : TL d tl) {n : Nat} (hn : n ≤ 8) : CL mX8_linesOf 3 [.ref 160, .int (nI n)] d (fun x d' => mL d d' ∧ x = lN (cntQ q tl n (fulQ q))) := by
  show AW mX8_linesOf 3 true (PLx (fun x d' => mL d d' ∧ x = lN (cntQ q tl n (fulQ q))) nX) 0 0 0 [(0, .ref 160), (1, .int (nI n))] [] (HP d)
  obtain ⟨⟨okM1, okM2⟩, okn, -⟩ := id ok
  obtain ⟨hN1, hN2⟩ := p2_256 h8
  have hp12 := pow12 ok.2.1
  have h12 := okn
  refine aw_iconst (v := 1) dX8_linesOf_0 (by decide) ?_
  refine aw_aload_n dX8_linesOf_1 rfl ?_
  refine aw_gf dX8_linesOf_2 (hp_160 _) rfl fX8_7 (by decide) rfl ?_
  refine aw_bipush (v := 16) dX8_linesOf_5 (by decide) ?_
  refine aw_ialdN dX8_linesOf_7 (hp_161 _) rfl (16) (by first | rfl | (simp only [li_0, li_1, li_2, li_3, li_4, li_5, li_7, li_8, li_9, li_11, li_12, li_16, li_17, li_31, li_32, li_60, li_77, li_80, li_89, li_99, li_101, li_112, li_113, li_256, li_999, li_1023, nI_add, pk_mul])) (by omega) (by decide) ?_
  refine aw_ishl dX8_linesOf_8 ?_
  refine aw_iconst (v := 1) dX8_linesOf_9 (by decide) ?_
  refine aw_isub dX8_linesOf_10 ?_
  rw [hr.1.2, nI_sh1 _ (by omega), show (1 : Int32) = nI 1 from rfl, pk_sub (by omega)]
  refine aw_istore_n dX8_linesOf_11 (by decide) rfl ?_
  refine aw_iconst (v := 0) dX8_linesOf_12 (by decide) ?_
  refine aw_istore_n dX8_linesOf_13 (by decide) rfl ?_
  have L14 : ∀ x0, x0 ≤ 2 ^ q 0 1 → ∀ (d1 : Dt) (v3 : Int32), mL d d1 → (∀ T, T < x0 → d1.2.1 169 T = lN (cntQ q tl 0 T)) → v3 = nI x0 → AW mX8_linesOf 3 true (PLx (fun x d' => mL d d' ∧ x = lN (cntQ q tl n (fulQ q))) nX) 0 0 14 [(0, .ref 160), (1, .int (nI n)), (2, .int (nI (2 ^ q 0 1 - 1))), (3, .int v3)] [] (HP d1) := by
    refine up_ind (fun x0 hj14 ih14 => ?_)
    rintro d1 _ hm1 hc rfl
    refine aw_iload_n dX8_linesOf_14 rfl ?_
    refine aw_iload_n dX8_linesOf_15 rfl ?_
    refine aw_icmp_gt 40 dX8_linesOf_16 (by decide) (fun c16 => ?_) (fun c16 => ?_)
    · have hge14 : 2 ^ q 0 1 ≤ x0 := (((lt_nI (rfl : nI (2 ^ q 0 1 - 1) = nI (2 ^ q 0 1 - 1)) rfl (by omega) (by omega)).trans (show 2 ^ q 0 1 - 1 < x0 ↔ 2 ^ q 0 1 ≤ x0 by omega))).mp c16
      have hj214 : x0 = 2 ^ q 0 1 := by omega
      subst hj214
      refine aw_iconst (v := 0) dX8_linesOf_40 (by decide) ?_
      refine aw_istore_n dX8_linesOf_41 (by decide) rfl ?_
      have L42 : ∀ s, s ≤ n → ∀ (d1 : Dt) (v3 : Int32), mL d d1 → (∀ T, T < 2 ^ q 0 1 → d1.2.1 169 T = lN (cntQ q tl s T)) → v3 = nI s → AW mX8_linesOf 3 true (PLx (fun x d' => mL d d' ∧ x = lN (cntQ q tl n (fulQ q))) nX) 0 0 42 [(0, .ref 160), (1, .int (nI n)), (2, .int (nI (2 ^ q 0 1 - 1))), (3, .int v3)] [] (HP d1) := by
        refine up_ind (fun s hj42 ih42 => ?_)
        rintro d1 _ hm1 hc rfl
        refine aw_iload_n dX8_linesOf_42 rfl ?_
        refine aw_iload_n dX8_linesOf_43 rfl ?_
        refine aw_icmp_ge 232 dX8_linesOf_44 (by decide) (fun c44 => ?_) (fun c44 => ?_)
        · have hge42 : n ≤ s := (le_nI rfl rfl (by omega) (by omega)).mp c44
          have hj242 : s = n := by omega
          subst hj242
          refine aw_aload_n dX8_linesOf_232 rfl ?_
          refine aw_gf dX8_linesOf_233 (hp_160 _) rfl fX8_35 (by decide) rfl ?_
          refine aw_iload_n dX8_linesOf_236 rfl ?_
          refine aw_laldN dX8_linesOf_237 (hp_169 _) rfl (2 ^ q 0 1 - 1) (by first | rfl | (simp only [li_0, li_1, li_2, li_3, li_4, li_5, li_7, li_8, li_9, li_11, li_12, li_16, li_17, li_31, li_32, li_60, li_77, li_80, li_89, li_99, li_101, li_112, li_113, li_256, li_999, li_1023, nI_add, pk_mul])) (by omega) (by decide) ?_
          exact aw_endL dX8_linesOf_238 rfl (by exact ⟨hm1, hc _ (ful_lt q)⟩)
        · have hlt42 : s < n := Nat.lt_of_not_le (fun z => c44 ((le_nI rfl rfl (by omega) (by omega)).mpr z))
          have hcl := fun T (hT : T < 2 ^ q 0 1) => cntQ_lt q tl h8 (s := s) (by omega) hT
          have hcs := ok.2.2.2.2.1 s (by omega)
          refine aw_iconst (v := 0) dX8_linesOf_47 (by decide) ?_
          refine aw_istore dX8_linesOf_48 (by decide) rfl ?_
          have L50 : ∀ u, u ≤ 2 ^ q 0 1 → ∀ (d2 : Dt) (v4 : Int32), mL d d2 → d2.2.1 169 = d1.2.1 169 → (∀ T, T < u → d2.2.1 170 T = lN 0) → v4 = nI u → AW mX8_linesOf 3 true (PLx (fun x d' => mL d d' ∧ x = lN (cntQ q tl n (fulQ q))) nX) 0 0 50 [(0, .ref 160), (1, .int (nI n)), (2, .int (nI (2 ^ q 0 1 - 1))), (3, .int (nI s)), (4, .int v4)] [] (HP d2) := by
            refine up_ind (fun u hj50 ih50 => ?_)
            rintro d2 _ hm2 h2 hz2 rfl
            refine aw_iload dX8_linesOf_50 rfl ?_
            refine aw_iload_n dX8_linesOf_52 rfl ?_
            refine aw_icmp_gt 70 dX8_linesOf_53 (by decide) (fun c53 => ?_) (fun c53 => ?_)
            · have hge50 : 2 ^ q 0 1 ≤ u := (((lt_nI (rfl : nI (2 ^ q 0 1 - 1) = nI (2 ^ q 0 1 - 1)) rfl (by omega) (by omega)).trans (show 2 ^ q 0 1 - 1 < u ↔ 2 ^ q 0 1 ≤ u by omega))).mp c53
              have hj250 : u = 2 ^ q 0 1 := by omega
              subst hj250
              refine aw_iconst (v := 0) dX8_linesOf_70 (by decide) ?_
              refine aw_istore dX8_linesOf_71 (by decide) rfl ?_
              have L73 : ∀ a, a ≤ 2 ^ q 0 1 → ∀ (d3 : Dt) (v4 : Int32), mL d d3 → d3.2.1 169 = d1.2.1 169 → (∀ T, T < 2 ^ q 0 1 → d3.2.1 170 T = lN (if clB q T = true then sN a (cntF q tl (cntQ q tl s) s T) else 0)) → v4 = nI a → AW mX8_linesOf 3 true (PLx (fun x d' => mL d d' ∧ x = lN (cntQ q tl n (fulQ q))) nX) 0 0 73 [(0, .ref 160), (1, .int (nI n)), (2, .int (nI (2 ^ q 0 1 - 1))), (3, .int (nI s)), (4, .int v4)] [] (HP d3) := by
                refine up_ind (fun a hj73 ih73 => ?_)
                rintro d3 _ hm3 h3 hn3 rfl
                refine aw_iload dX8_linesOf_73 rfl ?_
                refine aw_iload_n dX8_linesOf_75 rfl ?_
                refine aw_icmp_gt 197 dX8_linesOf_76 (by decide) (fun c76 => ?_) (fun c76 => ?_)
                · have hge73 : 2 ^ q 0 1 ≤ a := (((lt_nI (rfl : nI (2 ^ q 0 1 - 1) = nI (2 ^ q 0 1 - 1)) rfl (by omega) (by omega)).trans (show 2 ^ q 0 1 - 1 < a ↔ 2 ^ q 0 1 ≤ a by omega))).mp c76
                  have hj273 : a = 2 ^ q 0 1 := by omega
                  subst hj273
                  refine aw_iconst (v := 0) dX8_linesOf_197 (by decide) ?_
                  refine aw_istore dX8_linesOf_198 (by decide) rfl ?_
                  have L200 : ∀ w, w ≤ 2 ^ q 0 1 → ∀ (d5 : Dt) (v4 : Int32), mL d d5 → d5.2.1 170 = d3.2.1 170 → (∀ T, T < w → d5.2.1 169 T = d3.2.1 170 T) → v4 = nI w → AW mX8_linesOf 3 true (PLx (fun x d' => mL d d' ∧ x = lN (cntQ q tl n (fulQ q))) nX) 0 0 200 [(0, .ref 160), (1, .int (nI n)), (2, .int (nI (2 ^ q 0 1 - 1))), (3, .int (nI s)), (4, .int v4)] [] (HP d5) := by
                    refine up_ind (fun w hj200 ih200 => ?_)
                    rintro d5 _ hm5 h5 hn5 rfl
                    refine aw_iload dX8_linesOf_200 rfl ?_
                    refine aw_iload_n dX8_linesOf_202 rfl ?_
                    refine aw_icmp_gt 226 dX8_linesOf_203 (by decide) (fun c203 => ?_) (fun c203 => ?_)
                    · have hge200 : 2 ^ q 0 1 ≤ w := (((lt_nI (rfl : nI (2 ^ q 0 1 - 1) = nI (2 ^ q 0 1 - 1)) rfl (by omega) (by omega)).trans (show 2 ^ q 0 1 - 1 < w ↔ 2 ^ q 0 1 ≤ w by omega))).mp c203
                      have hw2 : w = 2 ^ q 0 1 := by omega
                      subst hw2
                      have hc5 : ∀ T, T < 2 ^ q 0 1 → d5.2.1 169 T = lN (cntQ q tl (s + 1) T) := fun T hT2 => by rw [hn5 T hT2, hn3 T hT2]; rfl
                      refine aw_inc (c := 1) dX8_linesOf_226 (by decide) rfl (by decide) rfl ?_
                      refine aw_goto (tgt := 42) dX8_linesOf_229 (by decide) ?_
                      exact aw_pick [0, 1, 2, 3] (ih42 hlt42 _ _ hm5 hc5 (nI_1 s))
                    · have hlt200 : w < 2 ^ q 0 1 := Nat.lt_of_not_le (fun z => c203 ((((lt_nI (rfl : nI (2 ^ q 0 1 - 1) = nI (2 ^ q 0 1 - 1)) rfl (by omega) (by omega)).trans (show 2 ^ q 0 1 - 1 < w ↔ 2 ^ q 0 1 ≤ w by omega))).mpr z))
                      refine aw_aload_n dX8_linesOf_206 rfl ?_
                      refine aw_gf dX8_linesOf_207 (hp_160 _) rfl fX8_35 (by decide) rfl ?_
                      refine aw_iload dX8_linesOf_210 rfl ?_
                      refine aw_aload_n dX8_linesOf_212 rfl ?_
                      refine aw_gf dX8_linesOf_213 (hp_160 _) rfl fX8_39 (by decide) rfl ?_
                      refine aw_iload dX8_linesOf_216 rfl ?_
                      refine aw_laldN dX8_linesOf_218 (hp_170 _) rfl (w) (by first | rfl | (simp only [li_0, li_1, li_2, li_3, li_4, li_5, li_7, li_8, li_9, li_11, li_12, li_16, li_17, li_31, li_32, li_60, li_77, li_80, li_89, li_99, li_101, li_112, li_113, li_256, li_999, li_1023, nI_add, pk_mul])) (by omega) (by decide) ?_
                      refine aw_lastN dX8_linesOf_219 hp_169 (w) (by first | rfl | (simp only [li_0, li_1, li_2, li_3, li_4, li_5, li_7, li_8, li_9, li_11, li_12, li_16, li_17, li_31, li_32, li_60, li_77, li_80, li_89, li_99, li_101, li_112, li_113, li_256, li_999, li_1023, nI_add, pk_mul])) (by omega) (by decide)  ?_
                      refine aw_inc (c := 1) dX8_linesOf_220 (by decide) rfl (by decide) rfl ?_
                      refine aw_goto (tgt := 200) dX8_linesOf_223 (by decide) ?_
                      refine ih200 hlt200 _ _ (mL_dL hm5 (by decide) _) (by rw [dL_n _ _ (by decide)]; exact h5) (fun T hT2 => ?_) (nI_1 w)
                      rw [dL_s, upL]
                      split
                      · rename_i e; rw [e, h5]
                      · exact hn5 T (by omega)
                  exact L200 0 (Nat.zero_le _) _ _ hm3 rfl (fun T hT => absurd hT (Nat.not_lt_zero _)) rfl
                · have hlt73 : a < 2 ^ q 0 1 := Nat.lt_of_not_le (fun z => c76 ((((lt_nI (rfl : nI (2 ^ q 0 1 - 1) = nI (2 ^ q 0 1 - 1)) rfl (by omega) (by omega)).trans (show 2 ^ q 0 1 - 1 < a ↔ 2 ^ q 0 1 ≤ a by omega))).mpr z))
                  have hr3 : RR (d3.1 161) q := by rw [hm3.1]; exact hr
                  have hR3 := ((hts a hlt73).2 (q 3 s) hcs.1 hcs.2)
                  have hT3 : TL d3 tl := fun t ht => by rw [hm3.1]; exact hT t ht
                  refine aw_join (P := fun v => v = b2i (rgB q a (q 3 s) && tlB q tl a s)) 116 (fun v hv116 => ?_) (fun kJ116 => ?_)
                  · subst hv116
                    refine aw_istore dX8_linesOf_116 (by decide) rfl ?_
                    refine aw_iconst (v := 0) dX8_linesOf_118 (by decide) ?_
                    refine aw_istore dX8_linesOf_119 (by decide) rfl ?_
                    have L121 : ∀ b, b ≤ 2 ^ q 0 1 → ∀ (d4 : Dt) (v6 : Int32), mL d d4 → d4.2.1 169 = d1.2.1 169 → (∀ T, T < 2 ^ q 0 1 → d4.2.1 170 T = lN (if clB q T = true then sN a (cntF q tl (cntQ q tl s) s T) + (if a &&& T = a ∧ rgB q a (q 3 s) = true ∧ tlB q tl a s = true ∧ lacks T a < b then cntQ q tl s (lacks T a) else 0) else 0)) → v6 = nI b → AW mX8_linesOf 3 true (PLx (fun x d' => mL d d' ∧ x = lN (cntQ q tl n (fulQ q))) nX) 0 0 121 [(0, .ref 160), (1, .int (nI n)), (2, .int (nI (2 ^ q 0 1 - 1))), (3, .int (nI s)), (4, .int (nI a)), (5, .int (b2i (rgB q a (q 3 s) && tlB q tl a s))), (6, .int v6)] [] (HP d4) := by
                      refine up_ind (fun b hj121 ih121 => ?_)
                      rintro d4 _ hm4 h4 hn4 rfl
                      refine aw_iload dX8_linesOf_121 rfl ?_
                      refine aw_iload_n dX8_linesOf_123 rfl ?_
                      refine aw_icmp_gt 191 dX8_linesOf_124 (by decide) (fun c124 => ?_) (fun c124 => ?_)
                      · have hge121 : 2 ^ q 0 1 ≤ b := (((lt_nI (rfl : nI (2 ^ q 0 1 - 1) = nI (2 ^ q 0 1 - 1)) rfl (by omega) (by omega)).trans (show 2 ^ q 0 1 - 1 < b ↔ 2 ^ q 0 1 ≤ b by omega))).mp c124
                        have hb2 : b = 2 ^ q 0 1 := by omega
                        subst hb2
                        have hn5 : ∀ T, T < 2 ^ q 0 1 → d4.2.1 170 T = lN (if clB q T = true then sN (a + 1) (cntF q tl (cntQ q tl s) s T) else 0) := fun T hT2 => by
                          rw [hn4 T hT2]
                          congr 1
                          split
                          · show _ = sN a _ + cntF q tl (cntQ q tl s) s T a
                            congr 1
                            unfold cntF
                            by_cases e : a &&& T = a ∧ rgB q a (q 3 s) = true ∧ tlB q tl a s = true
                            · rw [if_pos e, if_pos ⟨e.1, e.2.1, e.2.2, lacks_lt hT2⟩]
                            · rw [if_neg e, if_neg (fun z => e ⟨z.1, z.2.1, z.2.2.1⟩)]
                          · rfl
                        refine aw_inc (c := 1) dX8_linesOf_191 (by decide) rfl (by decide) rfl ?_
                        refine aw_goto (tgt := 73) dX8_linesOf_194 (by decide) ?_
                        exact aw_pick [0, 1, 2, 3, 4] (ih73 hlt73 _ _ hm4 h4 hn5 (nI_1 a))
                      · have hlt121 : b < 2 ^ q 0 1 := Nat.lt_of_not_le (fun z => c124 ((((lt_nI (rfl : nI (2 ^ q 0 1 - 1) = nI (2 ^ q 0 1 - 1)) rfl (by omega) (by omega)).trans (show 2 ^ q 0 1 - 1 < b ↔ 2 ^ q 0 1 ≤ b by omega))).mpr z))
                        refine aw_iload dX8_linesOf_127 rfl ?_
                        refine aw_if_eq 191 dX8_linesOf_129 (by decide) (fun c129 => ?_) (fun c129 => ?_)
                        · have hn5 : ∀ T, T < 2 ^ q 0 1 → d4.2.1 170 T = lN (if clB q T = true then sN (a + 1) (cntF q tl (cntQ q tl s) s T) else 0) := fun T hT2 => by
                            rw [hn4 T hT2]
                            congr 1
                            split
                            · show _ = sN a _ + cntF q tl (cntQ q tl s) s T a
                              congr 1
                              unfold cntF
                              rw [if_neg (fun z => by rw [b2i_eq, z.2.1, z.2.2.1] at c129; cases c129), if_neg (fun z => by rw [b2i_eq, z.2.1, z.2.2] at c129; cases c129)]
                            · rfl
                          refine aw_inc (c := 1) dX8_linesOf_191 (by decide) rfl (by decide) rfl ?_
                          refine aw_goto (tgt := 73) dX8_linesOf_194 (by decide) ?_
                          exact aw_pick [0, 1, 2, 3, 4] (ih73 hlt73 _ _ hm4 h4 hn5 (nI_1 a))
                        · have hmay : rgB q a (q 3 s) = true ∧ tlB q tl a s = true := by have z := b2i_ne.mp c129; rwa [Bool.and_eq_true] at z
                          refine aw_iload dX8_linesOf_132 rfl ?_
                          refine aw_iload dX8_linesOf_134 rfl ?_
                          refine aw_iand dX8_linesOf_136 ?_
                          rw [nI_and]
                          refine aw_if_ne 185 dX8_linesOf_137 (by decide) (fun c137 => ?_) (fun c137 => ?_)
                          · refine aw_inc (c := 1) dX8_linesOf_185 (by decide) rfl (by decide) rfl ?_
                            refine aw_goto (tgt := 121) dX8_linesOf_188 (by decide) ?_
                            refine aw_pick [0, 1, 2, 3, 4, 5, 6] (ih121 hlt121 _ _ (hm4) (h4) (fun T hT2 => ?_) (nI_1 b))
                            rw [hn4 T hT2]
                            congr 1
                            split
                            · rename_i hcT
                              congr 1
                              by_cases e : a &&& T = a ∧ rgB q a (q 3 s) = true ∧ tlB q tl a s = true ∧ lacks T a < b
                              · rw [if_pos e, if_pos ⟨e.1, e.2.1, e.2.2.1, by omega⟩]
                              · rw [if_neg e]
                                by_cases e2 : a &&& T = a ∧ rgB q a (q 3 s) = true ∧ tlB q tl a s = true ∧ lacks T a < b + 1
                                · have eb : lacks T a = b := by
                                    have : ¬ lacks T a < b := fun z => e ⟨e2.1, e2.2.1, e2.2.2.1, z⟩
                                    omega
                                  rw [if_pos e2, eb]
                                  exact absurd (by rw [← eb, lacks_and (by omega)]; rfl) c137
                                · rw [if_neg e2]
                            · rfl
                          · have hbo := or_lt hlt121 hlt73
                            refine aw_aload_n dX8_linesOf_140 rfl ?_
                            refine aw_gf dX8_linesOf_141 (hp_160 _) rfl fX8_35 (by decide) rfl ?_
                            refine aw_iload dX8_linesOf_144 rfl ?_
                            refine aw_laldN dX8_linesOf_146 (hp_169 _) rfl (b) (by first | rfl | (simp only [li_0, li_1, li_2, li_3, li_4, li_5, li_7, li_8, li_9, li_11, li_12, li_16, li_17, li_31, li_32, li_60, li_77, li_80, li_89, li_99, li_101, li_112, li_113, li_256, li_999, li_1023, nI_add, pk_mul])) (by omega) (by decide) ?_
                            refine aw_lconst (v := 0) dX8_linesOf_147 (by decide) ?_
                            refine aw_lcmp dX8_linesOf_148 ?_
                            refine aw_if_le 185 dX8_linesOf_149 (by decide) (fun c149 => ?_) (fun c149 => ?_)
                            · refine aw_inc (c := 1) dX8_linesOf_185 (by decide) rfl (by decide) rfl ?_
                              refine aw_goto (tgt := 121) dX8_linesOf_188 (by decide) ?_
                              rw [h4, hc b hlt121, lg_cmp_le, lN_pos (by have := hcl b hlt121; omega)] at c149
                              refine aw_pick [0, 1, 2, 3, 4, 5, 6] (ih121 hlt121 _ _ (hm4) (h4) (fun T hT2 => ?_) (nI_1 b))
                              rw [hn4 T hT2]
                              congr 1
                              split
                              · rename_i hcT
                                congr 1
                                by_cases e : a &&& T = a ∧ rgB q a (q 3 s) = true ∧ tlB q tl a s = true ∧ lacks T a < b
                                · rw [if_pos e, if_pos ⟨e.1, e.2.1, e.2.2.1, by omega⟩]
                                · rw [if_neg e]
                                  by_cases e2 : a &&& T = a ∧ rgB q a (q 3 s) = true ∧ tlB q tl a s = true ∧ lacks T a < b + 1
                                  · have eb : lacks T a = b := by
                                      have : ¬ lacks T a < b := fun z => e ⟨e2.1, e2.2.1, e2.2.2.1, z⟩
                                      omega
                                    rw [if_pos e2, eb]
                                    exact c149.symm
                                  · rw [if_neg e2]
                              · rfl
                            · refine aw_aload_n dX8_linesOf_152 rfl ?_
                              refine aw_gf dX8_linesOf_153 (hp_160 _) rfl fX8_28 (by decide) rfl ?_
                              refine aw_iload dX8_linesOf_156 rfl ?_
                              refine aw_iload dX8_linesOf_158 rfl ?_
                              refine aw_ior dX8_linesOf_160 ?_
                              refine aw_zaldN dX8_linesOf_161 (hp_167 _) rfl (b ||| a) (nI_or _ _) (by omega) (by decide) ?_
                              refine aw_if_eq 185 dX8_linesOf_162 (by decide) (fun c162 => ?_) (fun c162 => ?_)
                              · refine aw_inc (c := 1) dX8_linesOf_185 (by decide) rfl (by decide) rfl ?_
                                refine aw_goto (tgt := 121) dX8_linesOf_188 (by decide) ?_
                                refine aw_pick [0, 1, 2, 3, 4, 5, 6] (ih121 hlt121 _ _ (hm4) (h4) (fun T hT2 => ?_) (nI_1 b))
                                rw [hn4 T hT2]
                                congr 1
                                split
                                · rename_i hcT
                                  congr 1
                                  by_cases e : a &&& T = a ∧ rgB q a (q 3 s) = true ∧ tlB q tl a s = true ∧ lacks T a < b
                                  · rw [if_pos e, if_pos ⟨e.1, e.2.1, e.2.2.1, by omega⟩]
                                  · rw [if_neg e]
                                    by_cases e2 : a &&& T = a ∧ rgB q a (q 3 s) = true ∧ tlB q tl a s = true ∧ lacks T a < b + 1
                                    · have eb : lacks T a = b := by
                                        have : ¬ lacks T a < b := fun z => e ⟨e2.1, e2.2.1, e2.2.2.1, z⟩
                                        omega
                                      rw [if_pos e2, eb]
                                      exfalso
                                      rw [hm4.1, (hts _ (or_lt hlt121 hlt73)).1, show b ||| a = T from by rw [← eb]; exact lacks_or (T := T) (by omega) e2.1, hcT] at c162
                                      exact absurd c162 (by decide)
                                    · rw [if_neg e2]
                                · rfl
                              · refine aw_aload_n dX8_linesOf_165 rfl ?_
                                refine aw_gf dX8_linesOf_166 (hp_160 _) rfl fX8_39 (by decide) rfl ?_
                                refine aw_iload dX8_linesOf_169 rfl ?_
                                refine aw_iload dX8_linesOf_171 rfl ?_
                                refine aw_ior dX8_linesOf_173 ?_
                                refine aw_dup2 dX8_linesOf_174 rfl rfl ?_
                                refine aw_laldN dX8_linesOf_175 (hp_170 _) rfl (b ||| a) (nI_or _ _) (by omega) (by decide) ?_
                                refine aw_aload_n dX8_linesOf_176 rfl ?_
                                refine aw_gf dX8_linesOf_177 (hp_160 _) rfl fX8_35 (by decide) rfl ?_
                                refine aw_iload dX8_linesOf_180 rfl ?_
                                refine aw_laldN dX8_linesOf_182 (hp_169 _) rfl (b) (by first | rfl | (simp only [li_0, li_1, li_2, li_3, li_4, li_5, li_7, li_8, li_9, li_11, li_12, li_16, li_17, li_31, li_32, li_60, li_77, li_80, li_89, li_99, li_101, li_112, li_113, li_256, li_999, li_1023, nI_add, pk_mul])) (by omega) (by decide) ?_
                                refine aw_ladd dX8_linesOf_183 ?_
                                refine aw_lastN dX8_linesOf_184 hp_170 (b ||| a) (nI_or _ _) (by omega) (by decide)  ?_
                                refine aw_inc (c := 1) dX8_linesOf_185 (by decide) rfl (by decide) rfl ?_
                                refine aw_goto (tgt := 121) dX8_linesOf_188 (by decide) ?_
                                have hba : b &&& a = 0 := nI_inj (Nat.lt_of_le_of_lt Nat.and_le_left (by omega)) (by omega) (c137 : nI (b &&& a) = nI 0)
                                refine aw_pick [0, 1, 2, 3, 4, 5, 6] (ih121 hlt121 _ _ (mL_dL hm4 (by decide) _) (by rw [dL_n _ _ (by decide)]; exact h4) (fun T hT2 => ?_) (nI_1 b))
                                rw [dL_s, upL]
                                split
                                · rename_i eT
                                  have hcT : clB q T = true := by
                                    rw [hm4.1, (hts _ (or_lt hlt121 hlt73)).1, ← eT] at c162
                                    exact b2i_ne.mp c162
                                  have hsub : a &&& T = a := by rw [eT]; exact and_orR
                                  have hla : lacks T a = b := by rw [eT]; exact lacks_orR (by omega) hba
                                  rw [← eT, hn4 T hT2, if_pos hcT, if_pos hcT, h4, hc b hlt121, lN_add]
                                  congr 1
                                  rw [if_neg (fun z => by omega), if_pos ⟨hsub, hmay.1, hmay.2, by omega⟩, hla, Nat.add_zero]
                                · rename_i eT
                                  rw [hn4 T hT2]
                                  congr 1
                                  split
                                  · congr 1
                                    by_cases e : a &&& T = a ∧ rgB q a (q 3 s) = true ∧ tlB q tl a s = true ∧ lacks T a < b
                                    · rw [if_pos e, if_pos ⟨e.1, e.2.1, e.2.2.1, by omega⟩]
                                    · rw [if_neg e, if_neg (fun e2 => eT ?_)]
                                      have eb : lacks T a = b := by
                                        have : ¬ lacks T a < b := fun z => e ⟨e2.1, e2.2.1, e2.2.2.1, z⟩
                                        omega
                                      rw [← eb]
                                      exact (lacks_or (T := T) (by omega) e2.1).symm
                                  · rfl
                    exact L121 0 (Nat.zero_le _) _ _ hm3 h3 (fun T hT2 => by rw [hn3 T hT2]; congr 1; split; rw [if_neg (fun z => absurd z.2.2.2 (Nat.not_lt_zero _)), Nat.add_zero]; rfl) rfl
                  · refine aw_aload_n dX8_linesOf_79 rfl ?_
                    refine aw_gf dX8_linesOf_80 (hp_160 _) rfl fX8_32 (by decide) rfl ?_
                    refine aw_iconst (v := 4) dX8_linesOf_83 (by decide) ?_
                    refine aw_iload dX8_linesOf_84 rfl ?_
                    refine aw_imul dX8_linesOf_86 ?_
                    refine aw_aload_n dX8_linesOf_87 rfl ?_
                    refine aw_gf dX8_linesOf_88 (hp_160 _) rfl fX8_7 (by decide) rfl ?_
                    refine aw_bipush (v := 8) dX8_linesOf_91 (by decide) ?_
                    refine aw_iload_n dX8_linesOf_93 rfl ?_
                    refine aw_iadd dX8_linesOf_94 ?_
                    refine aw_ialdN dX8_linesOf_95 (hp_161 _) rfl (8 + s) (by first | rfl | (simp only [li_0, li_1, li_2, li_3, li_4, li_5, li_7, li_8, li_9, li_11, li_12, li_16, li_17, li_31, li_32, li_60, li_77, li_80, li_89, li_99, li_101, li_112, li_113, li_256, li_999, li_1023, nI_add, pk_mul])) (by omega) (by decide) ?_
                    refine aw_iadd dX8_linesOf_96 ?_
                    refine aw_zaldN dX8_linesOf_97 (hp_168 _) rfl (4 * a + q 3 s) (by rw [show d3.1 161 (8 + s) = nI (q 3 s) from hr3.2.2.2.1 s (by omega), show (4 : Int32) = nI 4 from rfl, pk_mul, nI_add]) (by omega) (by decide) ?_
                    refine aw_if_eq 115 dX8_linesOf_98 (by decide) (fun c98 => ?_) (fun c98 => ?_)
                    · refine aw_iconst (v := 0) dX8_linesOf_115 (by decide) ?_
                      exact kJ116 _ (by rw [hm3.1, hR3] at c98; rw [b2i_eq.mp c98]; rfl)
                    · refine aw_aload_n dX8_linesOf_101 rfl ?_
                      refine aw_iload dX8_linesOf_102 rfl ?_
                      refine aw_iload_n dX8_linesOf_104 rfl ?_
                      refine aw_cVP dX8_linesOf_105 oX8_isTold vX8_isTold rfl lX8_223 (kX8_isTold (q := q) (P := a) (s := s) hr3 ok h8 hT3 hlt73 (by omega)) rfl (hp_160 _) rfl rfl rfl (Nat.le_of_ble_eq_true rfl) (by decide) (Nat.le_of_ble_eq_true rfl) ?_
                      refine aw_if_eq 115 dX8_linesOf_108 (by decide) (fun c108 => ?_) (fun c108 => ?_)
                      · refine aw_iconst (v := 0) dX8_linesOf_115 (by decide) ?_
                        exact kJ116 _ (by rw [hm3.1, hR3] at c98; rw [b2i_ne.mp c98, b2i_eq.mp c108]; rfl)
                      · refine aw_iconst (v := 1) dX8_linesOf_111 (by decide) ?_
                        refine aw_goto (tgt := 116) dX8_linesOf_112 (by decide) ?_
                        exact kJ116 _ (by rw [hm3.1, hR3] at c98; rw [b2i_ne.mp c98, b2i_ne.mp c108]; rfl)
              exact L73 0 (Nat.zero_le _) _ _ hm2 h2 (fun T hT2 => by rw [hz2 T hT2]; congr 1; split <;> rfl) rfl
            · have hlt50 : u < 2 ^ q 0 1 := Nat.lt_of_not_le (fun z => c53 ((((lt_nI (rfl : nI (2 ^ q 0 1 - 1) = nI (2 ^ q 0 1 - 1)) rfl (by omega) (by omega)).trans (show 2 ^ q 0 1 - 1 < u ↔ 2 ^ q 0 1 ≤ u by omega))).mpr z))
              refine aw_aload_n dX8_linesOf_56 rfl ?_
              refine aw_gf dX8_linesOf_57 (hp_160 _) rfl fX8_39 (by decide) rfl ?_
              refine aw_iload dX8_linesOf_60 rfl ?_
              refine aw_lconst (v := 0) dX8_linesOf_62 (by decide) ?_
              refine aw_lastN dX8_linesOf_63 hp_170 (u) (by first | rfl | (simp only [li_0, li_1, li_2, li_3, li_4, li_5, li_7, li_8, li_9, li_11, li_12, li_16, li_17, li_31, li_32, li_60, li_77, li_80, li_89, li_99, li_101, li_112, li_113, li_256, li_999, li_1023, nI_add, pk_mul])) (by omega) (by decide)  ?_
              refine aw_inc (c := 1) dX8_linesOf_64 (by decide) rfl (by decide) rfl ?_
              refine aw_goto (tgt := 50) dX8_linesOf_67 (by decide) ?_
              refine ih50 hlt50 _ _ (mL_dL hm2 (by decide) _) (by rw [dL_n _ _ (by decide)]; exact h2) (fun T hT2 => ?_) (nI_1 u)
              rw [dL_s, upL]
              split
              · rfl
              · exact hz2 T (by omega)
          exact L50 0 (Nat.zero_le _) _ _ hm1 rfl (fun T hT => absurd hT (Nat.not_lt_zero _)) rfl
      exact L42 0 (Nat.zero_le _) _ _ hm1 hc rfl
    · have hlt14 : x0 < 2 ^ q 0 1 := Nat.lt_of_not_le (fun z => c16 ((((lt_nI (rfl : nI (2 ^ q 0 1 - 1) = nI (2 ^ q 0 1 - 1)) rfl (by omega) (by omega)).trans (show 2 ^ q 0 1 - 1 < x0 ↔ 2 ^ q 0 1 ≤ x0 by omega))).mpr z))
      refine aw_aload_n dX8_linesOf_19 rfl ?_
      refine aw_gf dX8_linesOf_20 (hp_160 _) rfl fX8_35 (by decide) rfl ?_
      refine aw_iload_n dX8_linesOf_23 rfl ?_
      refine aw_iload_n dX8_linesOf_24 rfl ?_
      refine aw_if_ne 32 dX8_linesOf_25 (by decide) (fun c25 => ?_) (fun c25 => ?_)
      · refine aw_lconst (v := 0) dX8_linesOf_32 (by decide) ?_
        refine aw_lastN dX8_linesOf_33 hp_169 (x0) (by first | rfl | (simp only [li_0, li_1, li_2, li_3, li_4, li_5, li_7, li_8, li_9, li_11, li_12, li_16, li_17, li_31, li_32, li_60, li_77, li_80, li_89, li_99, li_101, li_112, li_113, li_256, li_999, li_1023, nI_add, pk_mul])) (by omega) (by decide)  ?_
        refine aw_inc (c := 1) dX8_linesOf_34 (by decide) rfl (by decide) rfl ?_
        refine aw_goto (tgt := 14) dX8_linesOf_37 (by decide) ?_
        refine ih14 hlt14 _ _ (mL_dL hm1 (by decide) _) (fun T hT2 => ?_) (nI_1 x0)
        rw [dL_s, upL]
        split
        · rename_i e; rw [e, show cntQ q tl 0 x0 = 0 from if_neg (fun w => c25 (by rw [w]; rfl))]; rfl
        · exact hc T (by omega)
      · refine aw_lconst (v := 1) dX8_linesOf_28 (by decide) ?_
        refine aw_goto (tgt := 33) dX8_linesOf_29 (by decide) ?_
        refine aw_lastN dX8_linesOf_33 hp_169 (x0) (by first | rfl | (simp only [li_0, li_1, li_2, li_3, li_4, li_5, li_7, li_8, li_9, li_11, li_12, li_16, li_17, li_31, li_32, li_60, li_77, li_80, li_89, li_99, li_101, li_112, li_113, li_256, li_999, li_1023, nI_add, pk_mul])) (by omega) (by decide)  ?_
        refine aw_inc (c := 1) dX8_linesOf_34 (by decide) rfl (by decide) rfl ?_
        refine aw_goto (tgt := 14) dX8_linesOf_37 (by decide) ?_
        refine ih14 hlt14 _ _ (mL_dL hm1 (by decide) _) (fun T hT2 => ?_) (nI_1 x0)
        rw [dL_s, upL]
        split
        · rename_i e; rw [e, show cntQ q tl 0 x0 = 1 from if_pos (show x0 = 0 from nI_inj (by omega) (by omega) (c25 : nI x0 = nI 0))]; rfl
        · exact hc T (by omega)
  exact L14 0 (Nat.zero_le _) _ _ (mL_r d) (fun T hT => absurd hT (Nat.not_lt_zero _)) rfl
