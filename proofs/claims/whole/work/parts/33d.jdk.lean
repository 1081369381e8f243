theorem zc_0 : Zc RX0 "TASK" "LLineBalancer$Command;" (.ref 200) := Zc_r (k := 0) rfl (tbk5 130 rfl) (tbk1 28 rfl)
theorem zc_1 : Zc RX0 "BEFORE" "LLineBalancer$Command;" (.ref 201) := Zc_r (k := 1) rfl (tbk5 136 rfl) (tbk1 28 rfl)
theorem zc_2 : Zc RX0 "APART" "LLineBalancer$Command;" (.ref 202) := Zc_r (k := 2) rfl (tbk5 154 rfl) (tbk1 28 rfl)
theorem zc_3 : Zc RX0 "TOGETHER" "LLineBalancer$Command;" (.ref 203) := Zc_r (k := 3) rfl (tbk7 157 rfl) (tbk1 28 rfl)
theorem zc_4 : Zc RX0 "PUT" "LLineBalancer$Command;" (.ref 204) := Zc_r (k := 4) rfl (tbk5 142 rfl) (tbk1 28 rfl)
theorem zc_5 : Zc RX0 "CYCLE" "LLineBalancer$Command;" (.ref 205) := Zc_r (k := 5) rfl (tbk5 148 rfl) (tbk1 28 rfl)
theorem zc_6 : Zc RX7 "COMMANDS" "[LLineBalancer$Command;" (.ref 206) := Zc_r (k := 6) rfl (tbk5 54 rfl) (tbk1 1 rfl)
theorem zc_7 : Zc RX7 "LOWEST_RULES" "[I" (.ref 207) := Zc_r (k := 7) rfl (tbk3 43 rfl) (tbk1 1 rfl)
theorem zc_8 : Zc RX7 "HIGHEST_RULES" "[I" (.ref 208) := Zc_r (k := 8) rfl (tbk3 45 rfl) (tbk1 1 rfl)
theorem zc_cs : Zc RJ0 "COMPACT_STRINGS" "Z" (.int 1) := Zc_i (by decide +kernel) (tbk5 68 rfl) (tbk1 18 rfl)
theorem oc_w0 : Oc 200 RX0 "word" "Ljava/lang/String;" (.ref 215) := Oc_r (k := 0) (k2 := 15) rfl rfl (by decide +kernel)
theorem oc_n0 : Oc 200 RX0 "numbers" "I" (.int 4) := Oc_i (k := 0) rfl (by decide +kernel)
theorem oc_w1 : Oc 201 RX0 "word" "Ljava/lang/String;" (.ref 216) := Oc_r (k := 1) (k2 := 16) rfl rfl (by decide +kernel)
theorem oc_n1 : Oc 201 RX0 "numbers" "I" (.int 2) := Oc_i (k := 1) rfl (by decide +kernel)
theorem oc_w2 : Oc 202 RX0 "word" "Ljava/lang/String;" (.ref 217) := Oc_r (k := 2) (k2 := 17) rfl rfl (by decide +kernel)
theorem oc_n2 : Oc 202 RX0 "numbers" "I" (.int 2) := Oc_i (k := 2) rfl (by decide +kernel)
theorem oc_w3 : Oc 203 RX0 "word" "Ljava/lang/String;" (.ref 218) := Oc_r (k := 3) (k2 := 18) rfl rfl (by decide +kernel)
theorem oc_n3 : Oc 203 RX0 "numbers" "I" (.int 2) := Oc_i (k := 3) rfl (by decide +kernel)
theorem oc_w4 : Oc 204 RX0 "word" "Ljava/lang/String;" (.ref 219) := Oc_r (k := 4) (k2 := 19) rfl rfl (by decide +kernel)
theorem oc_n4 : Oc 204 RX0 "numbers" "I" (.int 2) := Oc_i (k := 4) rfl (by decide +kernel)
theorem oc_w5 : Oc 205 RX0 "word" "Ljava/lang/String;" (.ref 220) := Oc_r (k := 5) (k2 := 20) rfl rfl (by decide +kernel)
theorem oc_n5 : Oc 205 RX0 "numbers" "I" (.int 1) := Oc_i (k := 5) rfl (by decide +kernel)
theorem oc_w : ∀ w, w < 6 → Oc (200 + w) RX0 "word" "Ljava/lang/String;" (.ref (215 + w)) := by
  intro w hw
  match w, hw with
  | 0, _ => exact oc_w0
  | 1, _ => exact oc_w1
  | 2, _ => exact oc_w2
  | 3, _ => exact oc_w3
  | 4, _ => exact oc_w4
  | 5, _ => exact oc_w5
def sW (w : Nat) : List Nat := if w < 6 then wrd w else wrd (w - 6)
theorem nN_le (w : Nat) : 1 ≤ nN w ∧ nN w ≤ 4 := by unfold nN; (repeat' split) <;> omega
theorem oc_n : ∀ w, w < 6 → Oc (200 + w) RX0 "numbers" "I" (.int (nI (nN w))) := by
  intro w hw
  match w, hw with
  | 0, _ => exact oc_n0
  | 1, _ => exact oc_n1
  | 2, _ => exact oc_n2
  | 3, _ => exact oc_n3
  | 4, _ => exact oc_n4
  | 5, _ => exact oc_n5
theorem oc_c0 : Oc 209 RJ0 "coder" "B" (.int 0) := Oc_i (k := 9) rfl (by decide +kernel)
theorem oc_v0 : Oc 209 RJ0 "value" "[B" (.ref 221) := Oc_f (k := 9) (k2 := 21) rfl rfl
theorem cc_s0 : Cc 209 RJ0 := Cc_of (k := 9) rfl (by decide +kernel)
theorem tc_b0 : Tc 221 .byte 4 (fun j => .int (nI ((sW 0).getD j 0))) := Tc_i (k := 21) (fun j => nI ((sW 0).getD j 0)) rfl (by decide) (by decide +kernel) (by decide +kernel) (by decide +kernel)
theorem oc_c1 : Oc 210 RJ0 "coder" "B" (.int 0) := Oc_i (k := 10) rfl (by decide +kernel)
theorem oc_v1 : Oc 210 RJ0 "value" "[B" (.ref 222) := Oc_f (k := 10) (k2 := 22) rfl rfl
theorem cc_s1 : Cc 210 RJ0 := Cc_of (k := 10) rfl (by decide +kernel)
theorem tc_b1 : Tc 222 .byte 6 (fun j => .int (nI ((sW 1).getD j 0))) := Tc_i (k := 22) (fun j => nI ((sW 1).getD j 0)) rfl (by decide) (by decide +kernel) (by decide +kernel) (by decide +kernel)
theorem oc_c2 : Oc 211 RJ0 "coder" "B" (.int 0) := Oc_i (k := 11) rfl (by decide +kernel)
theorem oc_v2 : Oc 211 RJ0 "value" "[B" (.ref 223) := Oc_f (k := 11) (k2 := 23) rfl rfl
theorem cc_s2 : Cc 211 RJ0 := Cc_of (k := 11) rfl (by decide +kernel)
theorem tc_b2 : Tc 223 .byte 5 (fun j => .int (nI ((sW 2).getD j 0))) := Tc_i (k := 23) (fun j => nI ((sW 2).getD j 0)) rfl (by decide) (by decide +kernel) (by decide +kernel) (by decide +kernel)
theorem oc_c3 : Oc 212 RJ0 "coder" "B" (.int 0) := Oc_i (k := 12) rfl (by decide +kernel)
theorem oc_v3 : Oc 212 RJ0 "value" "[B" (.ref 224) := Oc_f (k := 12) (k2 := 24) rfl rfl
theorem cc_s3 : Cc 212 RJ0 := Cc_of (k := 12) rfl (by decide +kernel)
theorem tc_b3 : Tc 224 .byte 8 (fun j => .int (nI ((sW 3).getD j 0))) := Tc_i (k := 24) (fun j => nI ((sW 3).getD j 0)) rfl (by decide) (by decide +kernel) (by decide +kernel) (by decide +kernel)
theorem oc_c4 : Oc 213 RJ0 "coder" "B" (.int 0) := Oc_i (k := 13) rfl (by decide +kernel)
theorem oc_v4 : Oc 213 RJ0 "value" "[B" (.ref 225) := Oc_f (k := 13) (k2 := 25) rfl rfl
theorem cc_s4 : Cc 213 RJ0 := Cc_of (k := 13) rfl (by decide +kernel)
theorem tc_b4 : Tc 225 .byte 3 (fun j => .int (nI ((sW 4).getD j 0))) := Tc_i (k := 25) (fun j => nI ((sW 4).getD j 0)) rfl (by decide) (by decide +kernel) (by decide +kernel) (by decide +kernel)
theorem oc_c5 : Oc 214 RJ0 "coder" "B" (.int 0) := Oc_i (k := 14) rfl (by decide +kernel)
theorem oc_v5 : Oc 214 RJ0 "value" "[B" (.ref 226) := Oc_f (k := 14) (k2 := 26) rfl rfl
theorem cc_s5 : Cc 214 RJ0 := Cc_of (k := 14) rfl (by decide +kernel)
theorem tc_b5 : Tc 226 .byte 5 (fun j => .int (nI ((sW 5).getD j 0))) := Tc_i (k := 26) (fun j => nI ((sW 5).getD j 0)) rfl (by decide) (by decide +kernel) (by decide +kernel) (by decide +kernel)
theorem oc_c6 : Oc 215 RJ0 "coder" "B" (.int 0) := Oc_i (k := 15) rfl (by decide +kernel)
theorem oc_v6 : Oc 215 RJ0 "value" "[B" (.ref 227) := Oc_f (k := 15) (k2 := 27) rfl rfl
theorem cc_s6 : Cc 215 RJ0 := Cc_of (k := 15) rfl (by decide +kernel)
theorem tc_b6 : Tc 227 .byte 4 (fun j => .int (nI ((sW 6).getD j 0))) := Tc_i (k := 27) (fun j => nI ((sW 6).getD j 0)) rfl (by decide) (by decide +kernel) (by decide +kernel) (by decide +kernel)
theorem oc_c7 : Oc 216 RJ0 "coder" "B" (.int 0) := Oc_i (k := 16) rfl (by decide +kernel)
theorem oc_v7 : Oc 216 RJ0 "value" "[B" (.ref 228) := Oc_f (k := 16) (k2 := 28) rfl rfl
theorem cc_s7 : Cc 216 RJ0 := Cc_of (k := 16) rfl (by decide +kernel)
theorem tc_b7 : Tc 228 .byte 6 (fun j => .int (nI ((sW 7).getD j 0))) := Tc_i (k := 28) (fun j => nI ((sW 7).getD j 0)) rfl (by decide) (by decide +kernel) (by decide +kernel) (by decide +kernel)
theorem oc_c8 : Oc 217 RJ0 "coder" "B" (.int 0) := Oc_i (k := 17) rfl (by decide +kernel)
theorem oc_v8 : Oc 217 RJ0 "value" "[B" (.ref 229) := Oc_f (k := 17) (k2 := 29) rfl rfl
theorem cc_s8 : Cc 217 RJ0 := Cc_of (k := 17) rfl (by decide +kernel)
theorem tc_b8 : Tc 229 .byte 5 (fun j => .int (nI ((sW 8).getD j 0))) := Tc_i (k := 29) (fun j => nI ((sW 8).getD j 0)) rfl (by decide) (by decide +kernel) (by decide +kernel) (by decide +kernel)
theorem oc_c9 : Oc 218 RJ0 "coder" "B" (.int 0) := Oc_i (k := 18) rfl (by decide +kernel)
theorem oc_v9 : Oc 218 RJ0 "value" "[B" (.ref 230) := Oc_f (k := 18) (k2 := 30) rfl rfl
theorem cc_s9 : Cc 218 RJ0 := Cc_of (k := 18) rfl (by decide +kernel)
theorem tc_b9 : Tc 230 .byte 8 (fun j => .int (nI ((sW 9).getD j 0))) := Tc_i (k := 30) (fun j => nI ((sW 9).getD j 0)) rfl (by decide) (by decide +kernel) (by decide +kernel) (by decide +kernel)
theorem oc_c10 : Oc 219 RJ0 "coder" "B" (.int 0) := Oc_i (k := 19) rfl (by decide +kernel)
theorem oc_v10 : Oc 219 RJ0 "value" "[B" (.ref 231) := Oc_f (k := 19) (k2 := 31) rfl rfl
theorem cc_s10 : Cc 219 RJ0 := Cc_of (k := 19) rfl (by decide +kernel)
theorem tc_b10 : Tc 231 .byte 3 (fun j => .int (nI ((sW 10).getD j 0))) := Tc_i (k := 31) (fun j => nI ((sW 10).getD j 0)) rfl (by decide) (by decide +kernel) (by decide +kernel) (by decide +kernel)
theorem oc_c11 : Oc 220 RJ0 "coder" "B" (.int 0) := Oc_i (k := 20) rfl (by decide +kernel)
theorem oc_v11 : Oc 220 RJ0 "value" "[B" (.ref 232) := Oc_f (k := 20) (k2 := 32) rfl rfl
theorem cc_s11 : Cc 220 RJ0 := Cc_of (k := 20) rfl (by decide +kernel)
theorem tc_b11 : Tc 232 .byte 5 (fun j => .int (nI ((sW 11).getD j 0))) := Tc_i (k := 32) (fun j => nI ((sW 11).getD j 0)) rfl (by decide) (by decide +kernel) (by decide +kernel) (by decide +kernel)
theorem oc_c : ∀ w, w < 12 → Oc (209 + w) RJ0 "coder" "B" (.int 0) := by
  intro w hw
  match w, hw with
  | 0, _ => exact oc_c0
  | 1, _ => exact oc_c1
  | 2, _ => exact oc_c2
  | 3, _ => exact oc_c3
  | 4, _ => exact oc_c4
  | 5, _ => exact oc_c5
  | 6, _ => exact oc_c6
  | 7, _ => exact oc_c7
  | 8, _ => exact oc_c8
  | 9, _ => exact oc_c9
  | 10, _ => exact oc_c10
  | 11, _ => exact oc_c11
theorem oc_v : ∀ w, w < 12 → Oc (209 + w) RJ0 "value" "[B" (.ref (221 + w)) := by
  intro w hw
  match w, hw with
  | 0, _ => exact oc_v0
  | 1, _ => exact oc_v1
  | 2, _ => exact oc_v2
  | 3, _ => exact oc_v3
  | 4, _ => exact oc_v4
  | 5, _ => exact oc_v5
  | 6, _ => exact oc_v6
  | 7, _ => exact oc_v7
  | 8, _ => exact oc_v8
  | 9, _ => exact oc_v9
  | 10, _ => exact oc_v10
  | 11, _ => exact oc_v11
theorem cc_s : ∀ w, w < 12 → Cc (209 + w) RJ0 := by
  intro w hw
  match w, hw with
  | 0, _ => exact cc_s0
  | 1, _ => exact cc_s1
  | 2, _ => exact cc_s2
  | 3, _ => exact cc_s3
  | 4, _ => exact cc_s4
  | 5, _ => exact cc_s5
  | 6, _ => exact cc_s6
  | 7, _ => exact cc_s7
  | 8, _ => exact cc_s8
  | 9, _ => exact cc_s9
  | 10, _ => exact cc_s10
  | 11, _ => exact cc_s11
theorem tc_b : ∀ w, w < 12 → Tc (221 + w) .byte (sW w).length (fun j => .int (nI ((sW w).getD j 0))) := by
  intro w hw
  match w, hw with
  | 0, _ => exact tc_b0
  | 1, _ => exact tc_b1
  | 2, _ => exact tc_b2
  | 3, _ => exact tc_b3
  | 4, _ => exact tc_b4
  | 5, _ => exact tc_b5
  | 6, _ => exact tc_b6
  | 7, _ => exact tc_b7
  | 8, _ => exact tc_b8
  | 9, _ => exact tc_b9
  | 10, _ => exact tc_b10
  | 11, _ => exact tc_b11
theorem tc_C : Tc 206 (.object RX0) 6 (fun j => .ref (200 + j)) := Tc_r (k := 6) (fun j => j) (fun j => .static RX0 (["TASK", "BEFORE", "APART", "TOGETHER", "PUT", "CYCLE"].getD j "") "LLineBalancer$Command;") rfl (by decide) (by decide +kernel) (by decide +kernel) (by decide +kernel) (by decide +kernel)
theorem tc_L : Tc 207 .int 4 (fun j => .int (nI ([10, 0, 1, 0].getD j 0))) := Tc_i (k := 7) (fun j => nI ([10, 0, 1, 0].getD j 0)) rfl (by decide) (by decide +kernel) (by decide +kernel) (by decide +kernel)
theorem tc_H : Tc 208 .int 4 (fun j => .int (nI ([999, 20, 5, 1].getD j 0))) := Tc_i (k := 8) (fun j => nI ([999, 20, 5, 1].getD j 0)) rfl (by decide) (by decide +kernel) (by decide +kernel) (by decide +kernel)
theorem ne_0_1 : ∀ (D : va_G) (s : State) (H0 : Heap), CF D s H0 → D.1 200 ≠ D.1 201 := fun D s H0 hC => ne_of (i := 0) (j := 1) rfl rfl (by decide +kernel) hC
theorem ne_0_2 : ∀ (D : va_G) (s : State) (H0 : Heap), CF D s H0 → D.1 200 ≠ D.1 202 := fun D s H0 hC => ne_of (i := 0) (j := 2) rfl rfl (by decide +kernel) hC
theorem ne_0_3 : ∀ (D : va_G) (s : State) (H0 : Heap), CF D s H0 → D.1 200 ≠ D.1 203 := fun D s H0 hC => ne_of (i := 0) (j := 3) rfl rfl (by decide +kernel) hC
theorem ne_0_4 : ∀ (D : va_G) (s : State) (H0 : Heap), CF D s H0 → D.1 200 ≠ D.1 204 := fun D s H0 hC => ne_of (i := 0) (j := 4) rfl rfl (by decide +kernel) hC
theorem ne_0_5 : ∀ (D : va_G) (s : State) (H0 : Heap), CF D s H0 → D.1 200 ≠ D.1 205 := fun D s H0 hC => ne_of (i := 0) (j := 5) rfl rfl (by decide +kernel) hC
theorem ne_1_2 : ∀ (D : va_G) (s : State) (H0 : Heap), CF D s H0 → D.1 201 ≠ D.1 202 := fun D s H0 hC => ne_of (i := 1) (j := 2) rfl rfl (by decide +kernel) hC
theorem ne_1_3 : ∀ (D : va_G) (s : State) (H0 : Heap), CF D s H0 → D.1 201 ≠ D.1 203 := fun D s H0 hC => ne_of (i := 1) (j := 3) rfl rfl (by decide +kernel) hC
theorem ne_1_4 : ∀ (D : va_G) (s : State) (H0 : Heap), CF D s H0 → D.1 201 ≠ D.1 204 := fun D s H0 hC => ne_of (i := 1) (j := 4) rfl rfl (by decide +kernel) hC
theorem ne_1_5 : ∀ (D : va_G) (s : State) (H0 : Heap), CF D s H0 → D.1 201 ≠ D.1 205 := fun D s H0 hC => ne_of (i := 1) (j := 5) rfl rfl (by decide +kernel) hC
theorem ne_2_3 : ∀ (D : va_G) (s : State) (H0 : Heap), CF D s H0 → D.1 202 ≠ D.1 203 := fun D s H0 hC => ne_of (i := 2) (j := 3) rfl rfl (by decide +kernel) hC
theorem ne_2_4 : ∀ (D : va_G) (s : State) (H0 : Heap), CF D s H0 → D.1 202 ≠ D.1 204 := fun D s H0 hC => ne_of (i := 2) (j := 4) rfl rfl (by decide +kernel) hC
theorem ne_2_5 : ∀ (D : va_G) (s : State) (H0 : Heap), CF D s H0 → D.1 202 ≠ D.1 205 := fun D s H0 hC => ne_of (i := 2) (j := 5) rfl rfl (by decide +kernel) hC
theorem ne_3_4 : ∀ (D : va_G) (s : State) (H0 : Heap), CF D s H0 → D.1 203 ≠ D.1 204 := fun D s H0 hC => ne_of (i := 3) (j := 4) rfl rfl (by decide +kernel) hC
theorem ne_3_5 : ∀ (D : va_G) (s : State) (H0 : Heap), CF D s H0 → D.1 203 ≠ D.1 205 := fun D s H0 hC => ne_of (i := 3) (j := 5) rfl rfl (by decide +kernel) hC
theorem ne_4_5 : ∀ (D : va_G) (s : State) (H0 : Heap), CF D s H0 → D.1 204 ≠ D.1 205 := fun D s H0 hC => ne_of (i := 4) (j := 5) rfl rfl (by decide +kernel) hC
theorem ne_c : ∀ i, i < 6 → ∀ j, j < 6 → i ≠ j → ∀ (D : va_G) (s : State) (H0 : Heap), CF D s H0 → D.1 (200 + i) ≠ D.1 (200 + j) := by
  intro i hi j hj hij D s H0 hC
  match i, hi, j, hj, hij with
  | 0, _, 0, _, hij => exact absurd rfl hij
  | 0, _, 1, _, hij => exact ne_0_1 D s H0 hC
  | 0, _, 2, _, hij => exact ne_0_2 D s H0 hC
  | 0, _, 3, _, hij => exact ne_0_3 D s H0 hC
  | 0, _, 4, _, hij => exact ne_0_4 D s H0 hC
  | 0, _, 5, _, hij => exact ne_0_5 D s H0 hC
  | 1, _, 0, _, hij => exact (ne_0_1 D s H0 hC).symm
  | 1, _, 1, _, hij => exact absurd rfl hij
  | 1, _, 2, _, hij => exact ne_1_2 D s H0 hC
  | 1, _, 3, _, hij => exact ne_1_3 D s H0 hC
  | 1, _, 4, _, hij => exact ne_1_4 D s H0 hC
  | 1, _, 5, _, hij => exact ne_1_5 D s H0 hC
  | 2, _, 0, _, hij => exact (ne_0_2 D s H0 hC).symm
  | 2, _, 1, _, hij => exact (ne_1_2 D s H0 hC).symm
  | 2, _, 2, _, hij => exact absurd rfl hij
  | 2, _, 3, _, hij => exact ne_2_3 D s H0 hC
  | 2, _, 4, _, hij => exact ne_2_4 D s H0 hC
  | 2, _, 5, _, hij => exact ne_2_5 D s H0 hC
  | 3, _, 0, _, hij => exact (ne_0_3 D s H0 hC).symm
  | 3, _, 1, _, hij => exact (ne_1_3 D s H0 hC).symm
  | 3, _, 2, _, hij => exact (ne_2_3 D s H0 hC).symm
  | 3, _, 3, _, hij => exact absurd rfl hij
  | 3, _, 4, _, hij => exact ne_3_4 D s H0 hC
  | 3, _, 5, _, hij => exact ne_3_5 D s H0 hC
  | 4, _, 0, _, hij => exact (ne_0_4 D s H0 hC).symm
  | 4, _, 1, _, hij => exact (ne_1_4 D s H0 hC).symm
  | 4, _, 2, _, hij => exact (ne_2_4 D s H0 hC).symm
  | 4, _, 3, _, hij => exact (ne_3_4 D s H0 hC).symm
  | 4, _, 4, _, hij => exact absurd rfl hij
  | 4, _, 5, _, hij => exact ne_4_5 D s H0 hC
  | 5, _, 0, _, hij => exact (ne_0_5 D s H0 hC).symm
  | 5, _, 1, _, hij => exact (ne_1_5 D s H0 hC).symm
  | 5, _, 2, _, hij => exact (ne_2_5 D s H0 hC).symm
  | 5, _, 3, _, hij => exact (ne_3_5 D s H0 hC).symm
  | 5, _, 4, _, hij => exact (ne_4_5 D s H0 hC).symm
  | 5, _, 5, _, hij => exact absurd rfl hij
theorem dJ6_bitCount_0f7a4_0 : decode cJ6_bitCount_0f7a4 0 = .ok (.iload_n 0, 1) := by decide +kernel
theorem dJ6_bitCount_0f7a4_1 : decode cJ6_bitCount_0f7a4 1 = .ok (.iload_n 0, 1) := by decide +kernel
theorem dJ6_bitCount_0f7a4_2 : decode cJ6_bitCount_0f7a4 2 = .ok (.iconst 1, 1) := by decide +kernel
theorem dJ6_bitCount_0f7a4_3 : decode cJ6_bitCount_0f7a4 3 = .ok (.iushr, 1) := by decide +kernel
theorem dJ6_bitCount_0f7a4_4 : decode cJ6_bitCount_0f7a4 4 = .ok (.ldc_w 265, 3) := by decide +kernel
theorem dJ6_bitCount_0f7a4_7 : decode cJ6_bitCount_0f7a4 7 = .ok (.iand, 1) := by decide +kernel
theorem dJ6_bitCount_0f7a4_8 : decode cJ6_bitCount_0f7a4 8 = .ok (.isub, 1) := by decide +kernel
theorem dJ6_bitCount_0f7a4_9 : decode cJ6_bitCount_0f7a4 9 = .ok (.istore_n 0, 1) := by decide +kernel
theorem dJ6_bitCount_0f7a4_10 : decode cJ6_bitCount_0f7a4 10 = .ok (.iload_n 0, 1) := by decide +kernel
theorem dJ6_bitCount_0f7a4_11 : decode cJ6_bitCount_0f7a4 11 = .ok (.ldc_w 266, 3) := by decide +kernel
theorem dJ6_bitCount_0f7a4_14 : decode cJ6_bitCount_0f7a4 14 = .ok (.iand, 1) := by decide +kernel
theorem dJ6_bitCount_0f7a4_15 : decode cJ6_bitCount_0f7a4 15 = .ok (.iload_n 0, 1) := by decide +kernel
theorem dJ6_bitCount_0f7a4_16 : decode cJ6_bitCount_0f7a4 16 = .ok (.iconst 2, 1) := by decide +kernel
theorem dJ6_bitCount_0f7a4_17 : decode cJ6_bitCount_0f7a4 17 = .ok (.iushr, 1) := by decide +kernel
theorem dJ6_bitCount_0f7a4_18 : decode cJ6_bitCount_0f7a4 18 = .ok (.ldc_w 266, 3) := by decide +kernel
theorem dJ6_bitCount_0f7a4_21 : decode cJ6_bitCount_0f7a4 21 = .ok (.iand, 1) := by decide +kernel
theorem dJ6_bitCount_0f7a4_22 : decode cJ6_bitCount_0f7a4 22 = .ok (.iadd, 1) := by decide +kernel
theorem dJ6_bitCount_0f7a4_23 : decode cJ6_bitCount_0f7a4 23 = .ok (.istore_n 0, 1) := by decide +kernel
theorem dJ6_bitCount_0f7a4_24 : decode cJ6_bitCount_0f7a4 24 = .ok (.iload_n 0, 1) := by decide +kernel
theorem dJ6_bitCount_0f7a4_25 : decode cJ6_bitCount_0f7a4 25 = .ok (.iload_n 0, 1) := by decide +kernel
theorem dJ6_bitCount_0f7a4_26 : decode cJ6_bitCount_0f7a4 26 = .ok (.iconst 4, 1) := by decide +kernel
theorem dJ6_bitCount_0f7a4_27 : decode cJ6_bitCount_0f7a4 27 = .ok (.iushr, 1) := by decide +kernel
theorem dJ6_bitCount_0f7a4_28 : decode cJ6_bitCount_0f7a4 28 = .ok (.iadd, 1) := by decide +kernel
theorem dJ6_bitCount_0f7a4_29 : decode cJ6_bitCount_0f7a4 29 = .ok (.ldc_w 267, 3) := by decide +kernel
theorem dJ6_bitCount_0f7a4_32 : decode cJ6_bitCount_0f7a4 32 = .ok (.iand, 1) := by decide +kernel
theorem dJ6_bitCount_0f7a4_33 : decode cJ6_bitCount_0f7a4 33 = .ok (.istore_n 0, 1) := by decide +kernel
theorem dJ6_bitCount_0f7a4_34 : decode cJ6_bitCount_0f7a4 34 = .ok (.iload_n 0, 1) := by decide +kernel
theorem dJ6_bitCount_0f7a4_35 : decode cJ6_bitCount_0f7a4 35 = .ok (.iload_n 0, 1) := by decide +kernel
theorem dJ6_bitCount_0f7a4_36 : decode cJ6_bitCount_0f7a4 36 = .ok (.bipush 8, 2) := by decide +kernel
theorem dJ6_bitCount_0f7a4_38 : decode cJ6_bitCount_0f7a4 38 = .ok (.iushr, 1) := by decide +kernel
theorem dJ6_bitCount_0f7a4_39 : decode cJ6_bitCount_0f7a4 39 = .ok (.iadd, 1) := by decide +kernel
theorem dJ6_bitCount_0f7a4_40 : decode cJ6_bitCount_0f7a4 40 = .ok (.istore_n 0, 1) := by decide +kernel
theorem dJ6_bitCount_0f7a4_41 : decode cJ6_bitCount_0f7a4 41 = .ok (.iload_n 0, 1) := by decide +kernel
theorem dJ6_bitCount_0f7a4_42 : decode cJ6_bitCount_0f7a4 42 = .ok (.iload_n 0, 1) := by decide +kernel
theorem dJ6_bitCount_0f7a4_43 : decode cJ6_bitCount_0f7a4 43 = .ok (.bipush 16, 2) := by decide +kernel
theorem dJ6_bitCount_0f7a4_45 : decode cJ6_bitCount_0f7a4 45 = .ok (.iushr, 1) := by decide +kernel
theorem dJ6_bitCount_0f7a4_46 : decode cJ6_bitCount_0f7a4 46 = .ok (.iadd, 1) := by decide +kernel
theorem dJ6_bitCount_0f7a4_47 : decode cJ6_bitCount_0f7a4 47 = .ok (.istore_n 0, 1) := by decide +kernel
theorem dJ6_bitCount_0f7a4_48 : decode cJ6_bitCount_0f7a4 48 = .ok (.iload_n 0, 1) := by decide +kernel
theorem dJ6_bitCount_0f7a4_49 : decode cJ6_bitCount_0f7a4 49 = .ok (.bipush 63, 2) := by decide +kernel
theorem dJ6_bitCount_0f7a4_51 : decode cJ6_bitCount_0f7a4 51 = .ok (.iand, 1) := by decide +kernel
theorem dJ6_bitCount_0f7a4_52 : decode cJ6_bitCount_0f7a4 52 = .ok (.ireturn, 1) := by decide +kernel
theorem dJ7_fill_53178_0 : decode cJ7_fill_53178 0 = .ok (.iconst 0, 1) := by decide +kernel
theorem dJ7_fill_53178_1 : decode cJ7_fill_53178 1 = .ok (.istore_n 2, 1) := by decide +kernel
theorem dJ7_fill_53178_2 : decode cJ7_fill_53178 2 = .ok (.aload_n 0, 1) := by decide +kernel
theorem dJ7_fill_53178_3 : decode cJ7_fill_53178 3 = .ok (.arraylength, 1) := by decide +kernel
theorem dJ7_fill_53178_4 : decode cJ7_fill_53178 4 = .ok (.istore_n 3, 1) := by decide +kernel
theorem dJ7_fill_53178_5 : decode cJ7_fill_53178 5 = .ok (.iload_n 2, 1) := by decide +kernel
theorem dJ7_fill_53178_6 : decode cJ7_fill_53178 6 = .ok (.iload_n 3, 1) := by decide +kernel
theorem dJ7_fill_53178_7 : decode cJ7_fill_53178 7 = .ok (.if_icmp .ge 13, 3) := by decide +kernel
theorem dJ7_fill_53178_10 : decode cJ7_fill_53178 10 = .ok (.aload_n 0, 1) := by decide +kernel
theorem dJ7_fill_53178_11 : decode cJ7_fill_53178 11 = .ok (.iload_n 2, 1) := by decide +kernel
theorem dJ7_fill_53178_12 : decode cJ7_fill_53178 12 = .ok (.iload_n 1, 1) := by decide +kernel
theorem dJ7_fill_53178_13 : decode cJ7_fill_53178 13 = .ok (.iastore, 1) := by decide +kernel
theorem dJ7_fill_53178_14 : decode cJ7_fill_53178 14 = .ok (.iinc 2 1, 3) := by decide +kernel
theorem dJ7_fill_53178_17 : decode cJ7_fill_53178 17 = .ok (.goto (-12), 3) := by decide +kernel
theorem dJ7_fill_53178_20 : decode cJ7_fill_53178 20 = .ok (.return_, 1) := by decide +kernel
abbrev mJ6_bitCount_0f7a4 : MI := (yJ6_bitCount_0f7a4, cJ6_bitCount_0f7a4, 1, (some .int), [])
theorem oJ6_bitCount_0f7a4 : MO mJ6_bitCount_0f7a4 1 := ⟨tbk2 128 rfl, tbk1 21 rfl, rfl, by decide +kernel, ⟨by decide +kernel, by decide +kernel⟩, by decide +kernel, by decide⟩
theorem sJ6_bitCount_0f7a4 : MS mJ6_bitCount_0f7a4 := tbk2 127 rfl
abbrev mJ0_length_8abf5 : MI := (yJ0_length_8abf5, cJ0_length_8abf5, 1, (some .int), [])
theorem oJ0_length_8abf5 : MO mJ0_length_8abf5 0 := ⟨tbk5 62 rfl, tbk1 18 rfl, rfl, by decide +kernel, ⟨by decide +kernel, by decide +kernel⟩, by decide +kernel, by decide⟩
theorem vJ0_length_8abf5 : MV mJ0_length_8abf5 := ⟨tbk5 60 rfl, tbk5 61 rfl⟩
abbrev mJ0_charAt_5068e : MI := (yJ0_charAt_5068e, cJ0_charAt_5068e, 2, (some .char), [])
theorem oJ0_charAt_5068e : MO mJ0_charAt_5068e 1 := ⟨tbk5 72 rfl, tbk1 18 rfl, rfl, by decide +kernel, ⟨by decide +kernel, by decide +kernel⟩, by decide +kernel, by decide⟩
theorem vJ0_charAt_5068e : MV mJ0_charAt_5068e := ⟨tbk5 70 rfl, tbk5 71 rfl⟩
abbrev mJ0_coder_7d493 : MI := (yJ0_coder_7d493, cJ0_coder_7d493, 1, (some .byte), [])
theorem oJ0_coder_7d493 : MO mJ0_coder_7d493 0 := ⟨tbk5 66 rfl, tbk1 18 rfl, rfl, by decide +kernel, ⟨by decide +kernel, by decide +kernel⟩, by decide +kernel, by decide⟩
theorem vJ0_coder_7d493 : MV mJ0_coder_7d493 := ⟨tbk5 64 rfl, tbk5 65 rfl⟩
abbrev mJ0_isLatin1_aae02 : MI := (yJ0_isLatin1_aae02, cJ0_isLatin1_aae02, 1, (some .boolean), [])
theorem oJ0_isLatin1_aae02 : MO mJ0_isLatin1_aae02 0 := ⟨tbk5 76 rfl, tbk1 18 rfl, rfl, by decide +kernel, ⟨by decide +kernel, by decide +kernel⟩, by decide +kernel, by decide⟩
theorem vJ0_isLatin1_aae02 : MV mJ0_isLatin1_aae02 := ⟨tbk5 74 rfl, tbk5 75 rfl⟩
abbrev mJ0_checkIndex_df160 : MI := (yJ0_checkIndex_df160, cJ0_checkIndex_df160, 2, none, [])
theorem oJ0_checkIndex_df160 : MO mJ0_checkIndex_df160 2 := ⟨tbk5 82 rfl, tbk1 18 rfl, rfl, by decide +kernel, ⟨by decide +kernel, by decide +kernel⟩, by decide +kernel, by decide⟩
theorem sJ0_checkIndex_df160 : MS mJ0_checkIndex_df160 := tbk5 81 rfl
abbrev mJ1_charAt_3b067 : MI := (yJ1_charAt_3b067, cJ1_charAt_3b067, 2, (some .char), [])
theorem oJ1_charAt_3b067 : MO mJ1_charAt_3b067 2 := ⟨tbk5 79 rfl, tbk1 24 rfl, rfl, by decide +kernel, ⟨by decide +kernel, by decide +kernel⟩, by decide +kernel, by decide⟩
theorem sJ1_charAt_3b067 : MS mJ1_charAt_3b067 := tbk5 78 rfl
abbrev mJ7_fill_53178 : MI := (yJ7_fill_53178, cJ7_fill_53178, 4, none, [])
theorem oJ7_fill_53178 : MO mJ7_fill_53178 2 := ⟨tbk1 45 rfl, tbk1 3 rfl, rfl, by decide +kernel, ⟨by decide +kernel, by decide +kernel⟩, by decide +kernel, by decide⟩
theorem sJ7_fill_53178 : MS mJ7_fill_53178 := tbk1 44 rfl
abbrev mJ3_checkIndex_8e157 : MI := (yJ3_checkIndex_8e157, cJ3_checkIndex_8e157, 3, (some .int), [])
theorem oJ3_checkIndex_8e157 : MO mJ3_checkIndex_8e157 3 := ⟨tbk5 87 rfl, tbk1 25 rfl, rfl, by decide +kernel, ⟨by decide +kernel, by decide +kernel⟩, by decide +kernel, by decide⟩
theorem sJ3_checkIndex_8e157 : MS mJ3_checkIndex_8e157 := tbk5 86 rfl
theorem lJ0_335 : Cond.methodLink RJ0 335 yJ0_coder_7d493 ∈ lw_tbl := tbk5 63 rfl
theorem lJ0_492 : Cond.methodLink RJ0 492 yJ0_isLatin1_aae02 ∈ lw_tbl := tbk5 73 rfl
theorem lJ0_495 : Cond.methodLink RJ0 495 yJ1_charAt_3b067 ∈ lw_tbl := tbk5 77 rfl
theorem lJ0_1059 : Cond.methodLink RJ0 1059 yJ3_checkIndex_8e157 ∈ lw_tbl := tbk5 85 rfl
theorem lJ1_9 : Cond.methodLink RJ1 9 yJ0_checkIndex_df160 ∈ lw_tbl := tbk5 80 rfl
theorem lJ2_414 : Cond.methodLink RJ2 414 yJ0_checkIndex_df160 ∈ lw_tbl := tbk5 97 rfl
theorem lX2_72 : Cond.methodLink RX2 72 yJ0_length_8abf5 ∈ lw_tbl := tbk5 59 rfl
theorem lX2_77 : Cond.methodLink RX2 77 yJ0_charAt_5068e ∈ lw_tbl := tbk5 69 rfl
theorem lX3_111 : Cond.methodLink RX3 111 yJ6_bitCount_0f7a4 ∈ lw_tbl := tbk4 228 rfl
theorem lX4_49 : Cond.methodLink RX4 49 yJ7_fill_53178 ∈ lw_tbl := tbk1 43 rfl
theorem lX4_93 : Cond.methodLink RX4 93 yJ6_bitCount_0f7a4 ∈ lw_tbl := tbk4 31 rfl
theorem lX6_66 : Cond.methodLink RX6 66 yJ6_bitCount_0f7a4 ∈ lw_tbl := tbk4 6 rfl
theorem lX7_134 : Cond.methodLink RX7 134 yJ6_bitCount_0f7a4 ∈ lw_tbl := tbk2 126 rfl
theorem lX8_245 : Cond.methodLink RX8 245 yJ0_length_8abf5 ∈ lw_tbl := tbk7 102 rfl
theorem lX8_248 : Cond.methodLink RX8 248 yJ0_charAt_5068e ∈ lw_tbl := tbk7 103 rfl
theorem fJ0_38 : Cond.fieldLink RJ0 38 RJ0 "COMPACT_STRINGS" "Z" ∈ lw_tbl := tbk5 67 rfl
theorem fJ0_9 : Cond.fieldLink RJ0 9 RJ0 "value" "[B" ∈ lw_tbl := tbk7 154 rfl
theorem fJ0_15 : Cond.fieldLink RJ0 15 RJ0 "coder" "B" ∈ lw_tbl := tbk7 155 rfl
theorem cJ6_265 : Cond.constant RJ6 265 1431655765 ∈ lw_tbl := tbk2 129 rfl
theorem cJ6_266 : Cond.constant RJ6 266 858993459 ∈ lw_tbl := tbk2 130 rfl
theorem cJ6_267 : Cond.constant RJ6 267 252645135 ∈ lw_tbl := tbk2 131 rfl
theorem jj_max : Cond.static Lib.Math.max.name ∈ lw_tbl ∧ Cond.initialized "java/lang/Math" ∈ lw_tbl ∧ Cond.code Lib.Math.max.name Lib.Math.max.code 2 (some .int) ∈ lw_tbl := ⟨tbk2 86 rfl, tbk1 14 rfl, tbk2 87 rfl⟩
theorem lX5_102 : Cond.methodLink RX5 102 Lib.Math.max.name ∈ lw_tbl := tbk4 176 rfl
theorem lX6_57 : Cond.methodLink RX6 57 Lib.Math.max.name ∈ lw_tbl := tbk2 85 rfl
theorem aw_mmax {M : MI} {dep k n pc idx : Nat} {fx : Bool} {Φ : Rs → ah → Prop} {lv : List (Nat × Value)} {st : List Value} {h : ah} {x y v : Int32} (dc : decode M.2.1 pc = .ok (.invokestatic idx, 3)) (hl0 : Cond.methodLink M.1.cls idx Lib.Math.max.name ∈ lw_tbl) (hd : 1 ≤ dep) (hcat : (st.map fun v => v.category).sum ≤ 8) (hv : (if x < y then y else x) = v) (kk : AW M dep fx Φ k n (pc + 3) lv (.int v :: st) h) : AW M dep fx Φ k n pc lv (.int y :: .int x :: st) h := by
  subst hv
  intro p l e R s m args below meth c H0 D ty ad mc ms H locs cells slots Qc XC ls G hl
  obtain ⟨⟨hx, hb, htr, hml, hr, hlo, hnm, hown, hK, hC, b1, b2, b3, b4, b5, htb⟩, g2, g3, hR, hS, hQX⟩ := id G
  exact va_mmax hx hb (by rw [hml]; exact hl.1.symm) hown (hC.word hl0 rfl args) (hC.word jj_max.1 rfl args) (hC.word jj_max.2.1 rfl args) (hC.word jj_max.2.2 rfl args) (by omega) (by have e0 := cvs_cat ad st; unfold cvs at e0; rw [e0]; omega) (by omega) (by omega) dc (kk p l e R s m args below meth c H0 D ty ad mc ms H locs cells slots Qc XC ls G hl)
theorem jj_min : Cond.static Lib.Math.min.name ∈ lw_tbl ∧ Cond.initialized "java/lang/Math" ∈ lw_tbl ∧ Cond.code Lib.Math.min.name Lib.Math.min.code 2 (some .int) ∈ lw_tbl := ⟨tbk2 112 rfl, tbk1 14 rfl, tbk2 113 rfl⟩
theorem lX1_27 : Cond.methodLink RX1 27 Lib.Math.min.name ∈ lw_tbl := tbk2 121 rfl
theorem lX3_60 : Cond.methodLink RX3 60 Lib.Math.min.name ∈ lw_tbl := tbk4 197 rfl
theorem lX4_62 : Cond.methodLink RX4 62 Lib.Math.min.name ∈ lw_tbl := tbk2 111 rfl
theorem aw_mmin {M : MI} {dep k n pc idx : Nat} {fx : Bool} {Φ : Rs → ah → Prop} {lv : List (Nat × Value)} {st : List Value} {h : ah} {x y v : Int32} (dc : decode M.2.1 pc = .ok (.invokestatic idx, 3)) (hl0 : Cond.methodLink M.1.cls idx Lib.Math.min.name ∈ lw_tbl) (hd : 1 ≤ dep) (hcat : (st.map fun v => v.category).sum ≤ 8) (hv : (if y < x then y else x) = v) (kk : AW M dep fx Φ k n (pc + 3) lv (.int v :: st) h) : AW M dep fx Φ k n pc lv (.int y :: .int x :: st) h := by
  subst hv
  intro p l e R s m args below meth c H0 D ty ad mc ms H locs cells slots Qc XC ls G hl
  obtain ⟨⟨hx, hb, htr, hml, hr, hlo, hnm, hown, hK, hC, b1, b2, b3, b4, b5, htb⟩, g2, g3, hR, hS, hQX⟩ := id G
  exact va_mmin hx hb (by rw [hml]; exact hl.1.symm) hown (hC.word hl0 rfl args) (hC.word jj_min.1 rfl args) (hC.word jj_min.2.1 rfl args) (hC.word jj_min.2.2 rfl args) (by omega) (by have e0 := cvs_cat ad st; unfold cvs at e0; rw [e0]; omega) (by omega) (by omega) dc (kk p l e R s m args below meth c H0 D ty ad mc ms H locs cells slots Qc XC ls G hl)
def bcU (x y : Int32) : Int32 := (x.toUInt32 >>> (y.toUInt32 &&& Int32.toUInt32 31)).toInt32
def bc1 (x : Int32) : Int32 := x - (bcU x 1 &&& 1431655765)
def bc2 (x : Int32) : Int32 := (x &&& 858993459) + (bcU x 2 &&& 858993459)
def bc3 (x : Int32) : Int32 := (x + bcU x 4) &&& 252645135
def bc4 (x : Int32) : Int32 := x + bcU x 8
def bc5 (x : Int32) : Int32 := x + bcU x 16
theorem bc_l : ∀ a, a < 64 → ∀ b, b < 64 → bc5 (bc4 (bc3 (bc2 (bc1 (nI (64 * a + b)))))) &&& 63 = nI (pc (64 * a + b)) := by decide +kernel
theorem bc_ok (s : Nat) (h : s < 4096) : bc5 (bc4 (bc3 (bc2 (bc1 (nI s))))) &&& 63 = nI (pc s) := by
  have := bc_l (s / 64) (by omega) (s % 64) (by omega)
  rwa [show 64 * (s / 64) + s % 64 = s by omega] at this
set_option maxHeartbeats 4000000 in
set_option maxRecDepth 100000 in
theorem kJ6_bitCount_0f7a4 {s : Nat} (hs : s < 4096) {d : Dt} : CP mJ6_bitCount_0f7a4 1 [.int (nI s)] d (nI (pc s)) := by
  show AW mJ6_bitCount_0f7a4 1 true (PIx (fun y d' => y = nI (pc s) ∧ d' = d) nX) 0 0 0 [(0, .int (nI s))] [] (HP d)
  refine aw_iload_n dJ6_bitCount_0f7a4_0 rfl ?_
  refine aw_iload_n dJ6_bitCount_0f7a4_1 rfl ?_
  refine aw_iconst (v := 1) dJ6_bitCount_0f7a4_2 (by decide) ?_
  refine aw_iushr dJ6_bitCount_0f7a4_3 rfl ?_
  refine aw_ldcw dJ6_bitCount_0f7a4_4 cJ6_265 ?_
  refine aw_iand dJ6_bitCount_0f7a4_7 ?_
  refine aw_isub dJ6_bitCount_0f7a4_8 ?_
  refine aw_istore_n dJ6_bitCount_0f7a4_9 (by decide) rfl ?_
  refine aw_iload_n dJ6_bitCount_0f7a4_10 rfl ?_
  refine aw_ldcw dJ6_bitCount_0f7a4_11 cJ6_266 ?_
  refine aw_iand dJ6_bitCount_0f7a4_14 ?_
  refine aw_iload_n dJ6_bitCount_0f7a4_15 rfl ?_
  refine aw_iconst (v := 2) dJ6_bitCount_0f7a4_16 (by decide) ?_
  refine aw_iushr dJ6_bitCount_0f7a4_17 rfl ?_
  refine aw_ldcw dJ6_bitCount_0f7a4_18 cJ6_266 ?_
  refine aw_iand dJ6_bitCount_0f7a4_21 ?_
  refine aw_iadd dJ6_bitCount_0f7a4_22 ?_
  refine aw_istore_n dJ6_bitCount_0f7a4_23 (by decide) rfl ?_
  refine aw_iload_n dJ6_bitCount_0f7a4_24 rfl ?_
  refine aw_iload_n dJ6_bitCount_0f7a4_25 rfl ?_
  refine aw_iconst (v := 4) dJ6_bitCount_0f7a4_26 (by decide) ?_
  refine aw_iushr dJ6_bitCount_0f7a4_27 rfl ?_
  refine aw_iadd dJ6_bitCount_0f7a4_28 ?_
  refine aw_ldcw dJ6_bitCount_0f7a4_29 cJ6_267 ?_
  refine aw_iand dJ6_bitCount_0f7a4_32 ?_
  refine aw_istore_n dJ6_bitCount_0f7a4_33 (by decide) rfl ?_
  refine aw_iload_n dJ6_bitCount_0f7a4_34 rfl ?_
  refine aw_iload_n dJ6_bitCount_0f7a4_35 rfl ?_
  refine aw_bipush (v := 8) dJ6_bitCount_0f7a4_36 (by decide) ?_
  refine aw_iushr dJ6_bitCount_0f7a4_38 rfl ?_
  refine aw_iadd dJ6_bitCount_0f7a4_39 ?_
  refine aw_istore_n dJ6_bitCount_0f7a4_40 (by decide) rfl ?_
  refine aw_iload_n dJ6_bitCount_0f7a4_41 rfl ?_
  refine aw_iload_n dJ6_bitCount_0f7a4_42 rfl ?_
  refine aw_bipush (v := 16) dJ6_bitCount_0f7a4_43 (by decide) ?_
  refine aw_iushr dJ6_bitCount_0f7a4_45 rfl ?_
  refine aw_iadd dJ6_bitCount_0f7a4_46 ?_
  refine aw_istore_n dJ6_bitCount_0f7a4_47 (by decide) rfl ?_
  refine aw_iload_n dJ6_bitCount_0f7a4_48 rfl ?_
  refine aw_bipush (v := 63) dJ6_bitCount_0f7a4_49 (by decide) ?_
  refine aw_iand dJ6_bitCount_0f7a4_51 ?_
  exact aw_endI dJ6_bitCount_0f7a4_52 rfl ⟨bc_ok s hs, rfl⟩

set_option maxHeartbeats 4000000 in
set_option maxRecDepth 100000 in
theorem kJ7_fill_53178 {i N : Nat} {x : Int32} (hh : ∀ d, HP d i = some (.inl (0, N, .inl (d.1 i)))) (hN : N ≤ 1024) {d : Dt} : CV mJ7_fill_53178 1 [.ref i, .int x] d (fun d' => d' = dI d i (cpy (d.1 i) (fun _ => x) N)) := by
  show AW mJ7_fill_53178 1 true (PVx (fun d' => d' = dI d i (cpy (d.1 i) (fun _ => x) N)) nX) 0 0 0 [(0, .ref i), (1, .int x)] [] (HP d)
  refine aw_iconst (v := 0) dJ7_fill_53178_0 (by decide) ?_
  refine aw_istore_n dJ7_fill_53178_1 (by decide) rfl ?_
  refine aw_aload_n dJ7_fill_53178_2 rfl ?_
  refine aw_alen dJ7_fill_53178_3 (hh _) rfl rfl rfl ?_
  refine aw_istore_n dJ7_fill_53178_4 (by decide) rfl ?_
  have L5 : ∀ j, j ≤ N → ∀ (v2 : Int32), v2 = nI j → AW mJ7_fill_53178 1 true (PVx (fun d' => d' = dI d i (cpy (d.1 i) (fun _ => x) N)) nX) 0 0 5 [(0, .ref i), (1, .int x), (2, .int v2), (3, .int (Int32.ofNat N))] [] (HP (dI d i (cpy (d.1 i) (fun _ => x) j))) := by
    refine up_ind (fun j hj ih => ?_)
    rintro _ rfl
    refine aw_iload_n dJ7_fill_53178_5 rfl ?_
    refine aw_iload_n dJ7_fill_53178_6 rfl ?_
    refine aw_icmp_ge 20 dJ7_fill_53178_7 (by decide) (fun c7 => ?_) (fun c7 => ?_)
    · have hge : N ≤ j := (le_nI rfl rfl (by omega) (by omega)).mp c7
      have hj2 : j = N := by omega
      subst hj2
      exact aw_endV dJ7_fill_53178_20 rfl rfl
    · have hlt : j < N := Nat.lt_of_not_le (fun z => c7 ((le_nI rfl rfl (by omega) (by omega)).mpr z))
      refine aw_aload_n dJ7_fill_53178_10 rfl ?_
      refine aw_iload_n dJ7_fill_53178_11 rfl ?_
      refine aw_iload_n dJ7_fill_53178_12 rfl ?_
      refine aw_iastN dJ7_fill_53178_13 hh (j) rfl (by omega) hN ?_
      refine aw_inc (c := 1) dJ7_fill_53178_14 (by decide) rfl (by decide) rfl ?_
      refine aw_goto (tgt := 5) dJ7_fill_53178_17 (by decide) ?_
      rw [dI_dI, dI_s, cpy_s1 (d.1 i) (fun _ => x) j]
      exact ih hlt _ (nI_1 j)
  have e2 := L5 0 (Nat.zero_le _) _ rfl
  rw [cpy_0] at e2
  exact e2

set_option maxHeartbeats 4000000 in
set_option maxRecDepth 100000 in
theorem kJ0_coder_7d493 {w : Nat} (hw : w < 12) {d : Dt} : CP mJ0_coder_7d493 1 [.ref (209 + w)] d (0) := by
  show AW mJ0_coder_7d493 1 true (PIx (fun y d' => y = 0 ∧ d' = d) nX) 0 0 0 [(0, .ref (209 + w))] [] (HP d)
  refine aw_getsC dJ0_coder_7d493_0 zc_cs (cok_i _) fJ0_38 ?_
  refine aw_if_eq 13 dJ0_coder_7d493_3 (by decide) (fun c3 => (by first | exact absurd c3 (by decide) | exact absurd rfl c3)) (fun _ => ?_)
  refine aw_aload_n dJ0_coder_7d493_6 rfl ?_
  refine aw_gfC dJ0_coder_7d493_7 (oc_c w hw) (by omega) (cok_i _) fJ0_15 ?_
  refine aw_goto (tgt := 14) dJ0_coder_7d493_10 (by decide) ?_
  exact aw_nret dJ0_coder_7d493_14 rfl (by decide) ⟨d, rfl, 0, rfl, rfl, rfl⟩

set_option maxHeartbeats 4000000 in
set_option maxRecDepth 100000 in
theorem kJ0_isLatin1_aae02 {w : Nat} (hw : w < 12) {d : Dt} : CP mJ0_isLatin1_aae02 1 [.ref (209 + w)] d (1) := by
  show AW mJ0_isLatin1_aae02 1 true (PIx (fun y d' => y = 1 ∧ d' = d) nX) 0 0 0 [(0, .ref (209 + w))] [] (HP d)
  refine aw_getsC dJ0_isLatin1_aae02_0 zc_cs (cok_i _) fJ0_38 ?_
  refine aw_if_eq 17 dJ0_isLatin1_aae02_3 (by decide) (fun c3 => (by first | exact absurd c3 (by decide) | exact absurd rfl c3)) (fun _ => ?_)
  refine aw_aload_n dJ0_isLatin1_aae02_6 rfl ?_
  refine aw_gfC dJ0_isLatin1_aae02_7 (oc_c w hw) (by omega) (cok_i _) fJ0_15 ?_
  refine aw_if_ne 17 dJ0_isLatin1_aae02_10 (by decide) (fun c10 => (by first | exact absurd c10 (by decide) | exact absurd rfl c10)) (fun _ => ?_)
  refine aw_iconst (v := 1) dJ0_isLatin1_aae02_13 (by decide) ?_
  refine aw_goto (tgt := 18) dJ0_isLatin1_aae02_14 (by decide) ?_
  exact aw_nret dJ0_isLatin1_aae02_18 rfl (by decide) ⟨d, rfl, 1, rfl, rfl, rfl⟩

theorem sW_len : ∀ w, w < 12 → (sW w).length ≤ 8 := by decide +kernel
theorem sW_by : ∀ w, w < 12 → ∀ j, j < 8 → (sW w).getD j 0 < 128 := by decide +kernel
set_option maxHeartbeats 4000000 in
set_option maxRecDepth 100000 in
theorem kJ0_length_8abf5 {w : Nat} (hw : w < 12) {d : Dt} : CP mJ0_length_8abf5 3 [.ref (209 + w)] d (nI (sW w).length) := by
  show AW mJ0_length_8abf5 3 true (PIx (fun y d' => y = nI (sW w).length ∧ d' = d) nX) 0 0 0 [(0, .ref (209 + w))] [] (HP d)
  have hl := sW_len w hw
  refine aw_aload_n dJ0_length_8abf5_0 rfl ?_
  refine aw_gfC dJ0_length_8abf5_1 (oc_v w hw) (by omega) (cok_r (by omega)) fJ0_9 ?_
  refine aw_alenC dJ0_length_8abf5_4 (tc_b w hw) (by omega) rfl ?_
  refine aw_aload_n dJ0_length_8abf5_5 rfl ?_
  refine aw_cVC dJ0_length_8abf5_6 oJ0_coder_7d493 vJ0_coder_7d493 lJ0_335 (kJ0_coder_7d493 hw) rfl (cc_s w hw) (by omega) rfl rfl (Nat.le_of_ble_eq_true rfl) (by decide) (Nat.le_of_ble_eq_true rfl) ?_
  refine aw_ishr dJ0_length_8abf5_9 ?_
  exact aw_endI dJ0_length_8abf5_10 rfl ⟨by show nI (sW w).length >>> ((0 : Int32) &&& 31) = _; rw [pk_shrN (by omega) _ 0 (by decide), Nat.pow_zero, Nat.div_one], rfl⟩

set_option maxHeartbeats 4000000 in
set_option maxRecDepth 100000 in
theorem kJ3_checkIndex {i n : Int32} (h0 : ¬ i < 0) (h1 : i < n) {v : Value} {d : Dt} (hvc : v.category = 1) : CP mJ3_checkIndex_8e157 1 [.int i, .int n, v] d i := by
  show AW mJ3_checkIndex_8e157 1 true _ 0 0 0 (lv_args 0 [.int i, .int n, v]) [] (HP d)
  have e : lv_args 0 [.int i, .int n, v] = [(0, .int i), (1, .int n), (2, v)] := rfl
  rw [e]
  refine aw_iload_n dJ3_checkIndex_8e157_0 rfl ?_
  refine aw_if_lt 9 dJ3_checkIndex_8e157_1 (by decide) (fun c1 => (h0 c1).elim) (fun c1 => ?_)
  refine aw_iload_n dJ3_checkIndex_8e157_4 rfl ?_
  refine aw_iload_n dJ3_checkIndex_8e157_5 rfl ?_
  refine aw_icmp_lt 16 dJ3_checkIndex_8e157_6 (by decide) (fun c6 => ?_) (fun c6 => (c6 h1).elim)
  refine aw_iload_n dJ3_checkIndex_8e157_16 rfl ?_
  exact aw_endI dJ3_checkIndex_8e157_17 rfl ⟨rfl, rfl⟩

theorem ch_l : ∀ b, b < 128 → ((nI b &&& 255).toUInt32 % 65536).toInt32 = nI b := by decide +kernel
theorem chr_ok {b : Nat} (h : b < 128) : ((nI b &&& 255).toUInt32 % 65536).toInt32 = nI b := ch_l b h
theorem zq_si : Cond.laysStatic "jdk/internal/util/Preconditions" "SIOOBE_FORMATTER" "Ljava/util/function/BiFunction;" ∈ lw_tbl ∧ Cond.initialized "jdk/internal/util/Preconditions" ∈ lw_tbl ∧ Cond.isRef (.static "jdk/internal/util/Preconditions" "SIOOBE_FORMATTER" "Ljava/util/function/BiFunction;") ∈ gn1 := by decide +kernel
theorem fJ0_1053 : Cond.fieldLink RJ0 1053 "jdk/internal/util/Preconditions" "SIOOBE_FORMATTER" "Ljava/util/function/BiFunction;" ∈ lw_tbl := by decide +kernel
def shOk (s : shp) : Bool := match s with
  | .inl _ => true
  | .inr (_, l) => l.all (fun o => match o with
    | none => true
    | some r => !(Nat.beq r 195))
theorem shL_ok : shL.all (fun o => match o with
    | none => true
    | some s => shOk s) = true := by decide +kernel
theorem SH_ok {i : Nat} {s : shp} (h : SH i = some s) : shOk s = true := by
  unfold SH at h
  split at h
  · rename_i hi
    have ha : i / 12 < 11 := by omega
    have hj : i % 12 < 12 := Nat.mod_lt _ (by omega)
    generalize i / 12 = a at h ha
    generalize i % 12 = j at h hj
    match j, h with
    | 0, h =>
      cases h
      have e : ∀ k, k ≤ 11 → Nat.beq (12 * a + k) 195 = false := fun k hk => by
        cases hb : Nat.beq (12 * a + k) 195 with
        | false => rfl
        | true => have := Nat.eq_of_beq_eq_true hb; omega
      simp [shOk, e 1, e 2, e 3, e 4, e 5, e 6, e 7, e 8, e 9, e 10, e 11]
    | 1, h => cases h; rfl
    | 2, h => cases h; rfl
    | 3, h => cases h; rfl
    | 4, h => cases h; rfl
    | 5, h => cases h; rfl
    | 6, h => cases h; rfl
    | 7, h => cases h; rfl
    | 8, h => cases h; rfl
    | 9, h => cases h; rfl
    | 10, h => cases h; rfl
    | 11, h => cases h; rfl
    | n + 12, h => omega
  · cases hq : shL[i - 132]? with
    | none => rw [hq] at h; cases h
    | some o =>
      rw [hq] at h
      cases o with
      | none => cases h
      | some s' =>
        cases h
        have := List.all_eq_true.mp shL_ok _ (List.mem_of_getElem? hq)
        exact this
theorem mkF_cv {a b : Nat → Nat} (hab : ∀ i, i ≠ 195 → b i = a i) (f : Nat → Int32) : ∀ (l : List (Option Nat)) (k : Nat), (l.all (fun o => match o with
    | none => true
    | some r => !(Nat.beq r 195))) = true → (mkF f k l).map (cv b) = (mkF f k l).map (cv a) := by
  intro l
  induction l with
  | nil => intro k _; rfl
  | cons o l ih =>
    intro k h
    rw [List.all_cons, Bool.and_eq_true] at h
    cases o with
    | none =>
      simp only [mkF, List.map_cons]
      rw [ih _ h.2]
      rfl
    | some r =>
      simp only [mkF, List.map_cons]
      rw [ih _ h.2]
      congr 1
      have hr : r ≠ 195 := fun e => by
        subst e
        exact absurd h.1 (by decide)
      split
      · unfold cmdv
        split
        · rfl
        · show Value.ref (b _) = Value.ref (a _)
          rw [hab _ (by omega)]
      · show Value.ref (b r) = Value.ref (a r)
        rw [hab r hr]
theorem HP_ce {ty : Nat → ClassId} {d : Dt} {j : Nat} {x : ae} {a b : Nat → Nat} (hj : HP d j = some x) (hab : ∀ i, i ≠ 195 → b i = a i) : ce ty b x = ce ty a x := by
  cases hs : SH j with
  | none => simp [HP, hs] at hj
  | some s =>
    rw [HP_of hs] at hj
    cases hj
    have ho := SH_ok hs
    cases s with
    | inl q =>
      obtain ⟨t, n⟩ := q
      show (Sum.inl (ty t, cA b (mkA t n _ _ _)) : va_E) = Sum.inl (ty t, cA a (mkA t n _ _ _))
      congr 2
      unfold mkA
      split
      · rfl
      · rfl
      · show ((n, _) : vp_A) = (n, _)
        congr 5
        funext k
        show some (b (24 + 12 * k)) = some (a (24 + 12 * k))
        rw [hab _ (by omega)]
      · show ((n, _) : vp_A) = (n, _)
        congr 5
        funext k
        show some (b (209 + k)) = some (a (209 + k))
        rw [hab _ (by omega)]
      · rfl
    | inr q =>
      obtain ⟨c, l⟩ := q
      show (Sum.inr (c, (mkF _ 0 l).map (cv b)) : va_E) = Sum.inr (c, (mkF _ 0 l).map (cv a))
      rw [mkF_cv hab _ l 0 ho]
section CHK
variable {M : MI} {dep : Nat} {Φ : Rs → ah → Prop} {k n : Nat} {lv : List (Nat × Value)} {d : Dt}
theorem CF.zs {D : va_G} {s : State} {H0 : Heap} (hC : CF D s H0) (hk : ∀ q : Nat, q < H0.size → s.heap[q]? = H0[q]?) : va_Zq "jdk/internal/util/Preconditions" "SIOOBE_FORMATTER" "Ljava/util/function/BiFunction;" (fre H0) s s.heap := by
  obtain ⟨s0, b, rfl, hW, hts, hn, hct⟩ := hC
  exact ((va_Zqof (hts _ zq_si.1) (hts _ zq_si.2.1) (flat_of_before _ hn _ zq_si.2.2) fre_no).moved hW.alike).kept (fun a ha hq => hk a ha)
/-- the check of an index that is right -/
theorem aw_chk {i m : Int32} (hcl : M.1.cls = RJ0) (ht0 : M.2.2.2.2 = []) (d2 : decode M.2.1 2 = .ok (.getstatic 1053, 3)) (d5 : decode M.2.1 5 = .ok (.invokestatic 1059, 3)) (hd : 2 ≤ dep) (h0 : ¬ i < 0) (h1 : i < m) (kk : AW M dep true Φ k n 8 lv [.int i] (HP d)) : AW M dep true Φ k n 2 lv [.int m, .int i] (HP d) := by
  intro p l e R s m0 args below meth c H0 D ty ad mc ms H locs cells slots Qc XC ls G hl
  obtain ⟨⟨hx, hb, htr, hml, hr, hlo, hnm, hown, hK, hC, b1, b2, b3, b4, b5, htb⟩, g2, g3, hR, hS, hQX⟩ := id G
  rw [hcl] at hown
  have hkp := G.kp
  have hz := hC.zs hkp
  have main : ∀ (v w : Value) (ad2 : Nat → Nat), (lg_sl [Value.int i, Value.int m, w]).length ≤ 3 → w.category = 1 → cv ad2 w = v → (∀ j, j ≠ 195 → ad2 j = ad j) → va_Z "jdk/internal/util/Preconditions" "SIOOBE_FORMATTER" "Ljava/util/function/BiFunction;" v (fre H0) s s.heap → W p l e R s m0 args below meth c H locs cells slots (vx_MQ below Qc XC args s mc ms (fre H0)) (F0 m0 2 ls (cvs ad [.int m, .int i])) := by
    intro v w ad2 w0 w1 w2 w3 hZ
    refine va_gets hx hb hZ hS hown (hC.word fJ0_1053 rfl args) (fun _ h9 => h9) d2 ?_
    have h195 : ∀ j x, HP d j = some x → j ≠ 195 := fun j x hj e => by
      subst e
      have : HP d 195 = none := rfl
      rw [this] at hj
      cases hj
    have mv : ∀ (a b : Nat → Nat) (HH : Heap), (∀ j, j ≠ 195 → b j = a j) → Rep H0 D ty a (HP d) HH → Rep H0 D ty b (HP d) HH := by
      intro a b HH hab hRr
      obtain ⟨r1, r2, r3, r4, r5⟩ := hRr
      have ce_eq : ∀ j x, HP d j = some x → ce ty b x = ce ty a x := by
        intro j x hj
        exact HP_ce hj hab
      exact ⟨fun j x hj => by rw [hab j (h195 j x hj), ce_eq j x hj]; exact r1 j x hj, fun j j2 x y hj hj2 ee => r2 j j2 x y hj hj2 (by rw [hab j (h195 j x hj), hab j2 (h195 j2 y hj2)] at ee; exact ee), r3, r4, fun q hq => by rw [hab q (by omega)]; exact r5 q hq⟩
    have hR2 := mv ad ad2 H w3 hR
    have hM := AC.met0 (kJ3_checkIndex (d := d) h0 h1 w1) (fun E h' => nX_no E h') oJ3_checkIndex_8e157.2.2.2.1 oJ3_checkIndex_8e157.2.2.1 w0 l htr H0 D ty ad2
    have hcb := callB_mk (M' := mJ3_checkIndex_8e157) (args := args) (k := 0) (n := 0) (dep' := 1) G.1 oJ3_checkIndex_8e157 (by rw [hcl]; exact lJ0_1059) (by omega)
    have run := va_runS (e := e) (meth := meth) (below := below) (R := R) (As := [Value.int i, Value.int m, w].map (cv ad2)) (rest := []) (g := F0 m0 5 ls [v, .int m, .int i]) (Ts := []) (locs := locs) (cells := cells) (slots := slots) ⟨hx, hb, hml, by rw [hcl]; exact hown, fun _ hq => nomatch hq⟩ hM ⟨hcb, hC.word sJ3_checkIndex_8e157 rfl args⟩ ⟨Pm.blind, fun U hU hW => ⟨rfl, hC.warm hW, va_K.moved hW.alike hK, by rw [hU]; exact hR2⟩⟩ rfl rfl hl.1 (by show [v, Value.int m, Value.int i] = _; rw [← w2]; rfl) (by simp) d5 ⟨by omega, by omega⟩
    intro T hT X
    obtain ⟨v0, st₀, t, T', L, e0, X', hL, e1, e2, ⟨y, h', ad', c1, c2, c3, ⟨dd, c4, z, c5, c6, c7⟩, c8, c9⟩, st1⟩ := run T hT X
    subst c4 c5 c6 c7
    have ea : ad' = ad2 := c1 rfl
    subst ea
    have hR3 := mv ad' ad t.heap (fun j hj => (w3 j hj).symm) c8
    obtain ⟨t2, a1, b1'⟩ := kk p l e R s m0 args below meth c H0 D ty ad mc ms T'.heap (locs ++ L) (cells + 0) (slots + 0) Qc XC ls (G.back e0 e1 (fun _ => rfl) (fun _ _ _ => rfl) hR3 c9 hL (fun i x hi => ⟨x, hi⟩) (Nat.zero_le _) (Nat.zero_le _)) hl T' rfl X'
    cases c3
    exact ⟨t2, st1 t2 a1, b1'⟩
  rcases hz with hz | ⟨t, hz⟩
  · exact main .null .null ad (Nat.le_of_ble_eq_true rfl) rfl rfl (fun _ _ => rfl) hz
  · exact main (.ref t) (.ref 195) (fun j => if j = 195 then t else ad j) (Nat.le_of_ble_eq_true rfl) rfl rfl (fun j hj => if_neg hj) hz
end CHK

set_option maxHeartbeats 4000000 in
set_option maxRecDepth 100000 in
theorem kJ0_checkIndex_df160 {i n : Int32} (h0 : ¬ i < 0) (h1 : i < n) {d : Dt} : CV mJ0_checkIndex_df160 3 [.int i, .int n] d (fun d' => d' = d) := by
  show AW mJ0_checkIndex_df160 3 true (PVx (fun d' => d' = d) nX) 0 0 0 [(0, .int i), (1, .int n)] [] (HP d)
  refine aw_iload_n dJ0_checkIndex_df160_0 rfl ?_
  refine aw_iload_n dJ0_checkIndex_df160_1 rfl ?_
  refine aw_chk rfl rfl dJ0_checkIndex_df160_2 dJ0_checkIndex_df160_5 (by decide) h0 h1 ?_
  refine aw_pop dJ0_checkIndex_df160_8 rfl ?_
  exact aw_endV dJ0_checkIndex_df160_9 rfl rfl

set_option maxHeartbeats 4000000 in
set_option maxRecDepth 100000 in
theorem kJ1_charAt_3b067 {w j : Nat} (hw : w < 12) (hj : j < (sW w).length) {d : Dt} : CP mJ1_charAt_3b067 4 [.ref (221 + w), .int (nI j)] d (nI ((sW w).getD j 0)) := by
  show AW mJ1_charAt_3b067 4 true (PIx (fun y d' => y = nI ((sW w).getD j 0) ∧ d' = d) nX) 0 0 0 [(0, .ref (221 + w)), (1, .int (nI j))] [] (HP d)
  have hl := sW_len w hw
  have hb := sW_by w hw j (by omega)
  refine aw_iload_n dJ1_charAt_3b067_0 rfl ?_
  refine aw_aload_n dJ1_charAt_3b067_1 rfl ?_
  refine aw_alenC dJ1_charAt_3b067_2 (tc_b w hw) (by omega) rfl ?_
  refine aw_cSv dJ1_charAt_3b067_3 oJ0_checkIndex_df160 sJ0_checkIndex_df160 rfl lJ1_9 (kJ0_checkIndex_df160 (nI_pos (by omega)) (nI_lt hj (by omega))) rfl rfl (Nat.le_of_ble_eq_true rfl) (by decide) (Nat.le_of_ble_eq_true rfl) ?_
  intro d1 e1
  rw [e1]
  refine aw_aload_n dJ1_charAt_3b067_6 rfl ?_
  refine aw_iload_n dJ1_charAt_3b067_7 rfl ?_
  refine aw_baldC dJ1_charAt_3b067_8 (tc_b w hw) (by omega) (vp_in_nI hj (by omega)) ?_
  rw [nI_clamp (show j < 2 ^ 31 by omega)]
  refine aw_sipush (v := 255) dJ1_charAt_3b067_9 (by decide) ?_
  refine aw_iand dJ1_charAt_3b067_12 ?_
  refine aw_i2c dJ1_charAt_3b067_13 ?_
  exact aw_nret dJ1_charAt_3b067_14 rfl (by rw [chr_ok hb]; exact (pk_charN (by omega)).1) ⟨d, rfl, _, rfl, chr_ok hb, rfl⟩

set_option maxHeartbeats 4000000 in
set_option maxRecDepth 100000 in
theorem kJ0_charAt_5068e {w j : Nat} (hw : w < 12) (hj : j < (sW w).length) {d : Dt} : CP mJ0_charAt_5068e 6 [.ref (209 + w), .int (nI j)] d (nI ((sW w).getD j 0)) := by
  show AW mJ0_charAt_5068e 6 true (PIx (fun y d' => y = nI ((sW w).getD j 0) ∧ d' = d) nX) 0 0 0 [(0, .ref (209 + w)), (1, .int (nI j))] [] (HP d)
  have hl := sW_len w hw
  have hb := sW_by w hw j (by omega)
  refine aw_aload_n dJ0_charAt_5068e_0 rfl ?_
  refine aw_cVC dJ0_charAt_5068e_1 oJ0_isLatin1_aae02 vJ0_isLatin1_aae02 lJ0_492 (kJ0_isLatin1_aae02 hw) rfl (cc_s w hw) (by omega) rfl rfl (Nat.le_of_ble_eq_true rfl) (by decide) (Nat.le_of_ble_eq_true rfl) ?_
  refine aw_if_eq 16 dJ0_charAt_5068e_4 (by decide) (fun c4 => (by first | exact absurd c4 (by decide) | exact absurd rfl c4)) (fun _ => ?_)
  refine aw_aload_n dJ0_charAt_5068e_7 rfl ?_
  refine aw_gfC dJ0_charAt_5068e_8 (oc_v w hw) (by omega) (cok_r (by omega)) fJ0_9 ?_
  refine aw_iload_n dJ0_charAt_5068e_11 rfl ?_
  refine aw_cSP dJ0_charAt_5068e_12 oJ1_charAt_3b067 sJ1_charAt_3b067 rfl lJ0_495 (kJ1_charAt_3b067 hw hj) rfl rfl (Nat.le_of_ble_eq_true rfl) (by decide) (Nat.le_of_ble_eq_true rfl) ?_
  exact aw_nret dJ0_charAt_5068e_15 rfl (pk_charN (by omega)).1 ⟨d, rfl, _, rfl, rfl, rfl⟩

