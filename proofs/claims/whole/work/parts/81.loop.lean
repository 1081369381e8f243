set_option maxHeartbeats 4000000 in
set_option maxRecDepth 100000 in
/-- the loop: five ints a turn -/
theorem law_loop {Ls : Nat} {xs : Nat → Int32} {Φ : Rs → ah → Prop} (hLs : Ls ≤ 2560) (hΦ : ∀ h', Φ (.inl (some (.int 1))) h') : ∀ j, j ≤ 513 → 5 * j ≤ Ls → ∀ (d : Dt) (y : Sy), CC d y → MR d y → ∀ K N, 4 * (513 - j) ≤ K → 24 * (513 - j) ≤ N → AL (SX Ls xs) mL_law 20 true Φ K N 28 (lv5 j) [] (HP d) := by
  refine up_ind (fun j hj5 ih => ?_)
  intro hj d y hC hM K N hK0 hN0
  have hj6 : j ≤ 512 := by omega
  refine al_iload dL_law_28 rfl ?_
  refine al_aload_n dL_law_30 rfl ?_
  refine al_slen dL_law_31 ?_
  refine al_iconst (v := 5) dL_law_32 (by decide) ?_
  refine al_isub dL_law_33 ?_
  refine al_icmp_gt 2098 dL_law_34 (by decide) (fun _ => ?_) (fun c => ?_)
  · refine al_iconst (v := 1) dL_law_2098 (by decide) ?_
    exact al_nret dL_law_2099 rfl rfl (hΦ _)
  have hj7 : 5 * j + 5 ≤ Ls := Nat.le_of_not_lt (fun z => c ((lim hLs hj).mpr z))
  have hK : 4 ≤ K := by omega
  have hN : 24 ≤ N := by omega
  have kk : ∀ d' y', CC d' y' → MR d' y' → AL (SX Ls xs) mL_law 20 true Φ (K - 4) (N - 24) 2092 (lv5 j) [] (HP d') := by
    intro d' y' hC' hM'
    refine al_iinc (v := nI (5 * (j + 1))) dL_law_2092 rfl (nI_add (5 * j) 5) (by decide) rfl ?_
    refine al_goto (tgt := 28) dL_law_2095 (by decide) ?_
    exact ih (by omega) (by omega) d' y' hC' hM' _ _ (by omega) (by omega)
  refine al_aload_n dL_law_37 rfl ?_
  refine al_iload dL_law_38 rfl ?_
  refine al_sld (q := 5 * j) dL_law_40 rfl (by omega) hLs ?_
  refine al_bipush (v := 63) dL_law_41 (by decide) ?_
  refine al_iand dL_law_43 ?_
  obtain ⟨c9, hc9, hcx⟩ := and63 (xs (5 * j))
  rw [hcx]
  by_cases e0 : c9 = 0
  · rw [e0]
    exact al_tabIn (off := 148) (tgt := 192) dL_law_44 (by decide) (by decide) (by decide) (by decide) (cs_0 hLs hj7 hC hM hK hN kk)
  by_cases e1 : c9 = 1
  · rw [e1]
    exact al_tabIn (off := 204) (tgt := 248) dL_law_44 (by decide) (by decide) (by decide) (by decide) (cs_1 hLs hj7 hC hM hK hN kk)
  by_cases e2 : c9 = 2
  · rw [e2]
    exact al_tabIn (off := 272) (tgt := 316) dL_law_44 (by decide) (by decide) (by decide) (by decide) (cs_2 hLs hj7 hC hM hK hN kk)
  by_cases e3 : c9 = 3
  · rw [e3]
    exact al_tabIn (off := 340) (tgt := 384) dL_law_44 (by decide) (by decide) (by decide) (by decide) (cs_3 hLs hj7 hC hM hK hN kk)
  by_cases e4 : c9 = 4
  · rw [e4]
    exact al_tabIn (off := 396) (tgt := 440) dL_law_44 (by decide) (by decide) (by decide) (by decide) (cs_4 hLs hj7 hC hM hK hN kk)
  by_cases e5 : c9 = 5
  · rw [e5]
    exact al_tabIn (off := 464) (tgt := 508) dL_law_44 (by decide) (by decide) (by decide) (by decide) (cs_5 hLs hj7 hC hM hK hN kk)
  by_cases e6 : c9 = 6
  · rw [e6]
    exact al_tabIn (off := 556) (tgt := 600) dL_law_44 (by decide) (by decide) (by decide) (by decide) (cs_6 hLs hj7 hC hM hK hN kk)
  by_cases e7 : c9 = 7
  · rw [e7]
    exact al_tabIn (off := 636) (tgt := 680) dL_law_44 (by decide) (by decide) (by decide) (by decide) (cs_7 hLs hj7 hC hM hK hN kk)
  by_cases e8 : c9 = 8
  · rw [e8]
    exact al_tabIn (off := 704) (tgt := 748) dL_law_44 (by decide) (by decide) (by decide) (by decide) (cs_8 hLs hj7 hC hM hK hN kk)
  by_cases e9 : c9 = 9
  · rw [e9]
    exact al_tabIn (off := 772) (tgt := 816) dL_law_44 (by decide) (by decide) (by decide) (by decide) (cs_9 hLs hj7 hC hM hK hN kk)
  by_cases e10 : c9 = 10
  · rw [e10]
    exact al_tabIn (off := 868) (tgt := 912) dL_law_44 (by decide) (by decide) (by decide) (by decide) (cs_10 hLs hj7 hC hM hK hN kk)
  by_cases e11 : c9 = 11
  · rw [e11]
    exact al_tabIn (off := 936) (tgt := 980) dL_law_44 (by decide) (by decide) (by decide) (by decide) (cs_11 hLs hj7 hC hM hK hN kk)
  by_cases e12 : c9 = 12
  · rw [e12]
    exact al_tabIn (off := 1004) (tgt := 1048) dL_law_44 (by decide) (by decide) (by decide) (by decide) (cs_12 hLs hj7 hC hM hK hN kk)
  by_cases e13 : c9 = 13
  · rw [e13]
    exact al_tabIn (off := 1072) (tgt := 1116) dL_law_44 (by decide) (by decide) (by decide) (by decide) (cs_13 hLs hj7 hC hM hK hN kk)
  by_cases e14 : c9 = 14
  · rw [e14]
    exact al_tabIn (off := 1085) (tgt := 1129) dL_law_44 (by decide) (by decide) (by decide) (by decide) (cs_14 hLs hj7 hC hM hK hN kk)
  by_cases e15 : c9 = 15
  · rw [e15]
    exact al_tabIn (off := 1153) (tgt := 1197) dL_law_44 (by decide) (by decide) (by decide) (by decide) (cs_15 hLs hj7 hC hM hK hN kk)
  by_cases e16 : c9 = 16
  · rw [e16]
    exact al_tabIn (off := 1221) (tgt := 1265) dL_law_44 (by decide) (by decide) (by decide) (by decide) (cs_16 hLs hj7 hC hM hK hN kk)
  by_cases e17 : c9 = 17
  · rw [e17]
    exact al_tabIn (off := 1265) (tgt := 1309) dL_law_44 (by decide) (by decide) (by decide) (by decide) (cs_17 hLs hj7 hC hM hK hN kk)
  by_cases e18 : c9 = 18
  · rw [e18]
    exact al_tabIn (off := 1333) (tgt := 1377) dL_law_44 (by decide) (by decide) (by decide) (by decide) (cs_18 hLs hj7 hC hM hK hN kk)
  by_cases e19 : c9 = 19
  · rw [e19]
    exact al_tabIn (off := 1429) (tgt := 1473) dL_law_44 (by decide) (by decide) (by decide) (by decide) (cs_19 hLs hj7 hC hM hK hN kk)
  by_cases e20 : c9 = 20
  · rw [e20]
    exact al_tabIn (off := 1497) (tgt := 1541) dL_law_44 (by decide) (by decide) (by decide) (by decide) (cs_20 hLs hj7 hC hM hK hN kk)
  by_cases e21 : c9 = 21
  · rw [e21]
    exact al_tabIn (off := 1553) (tgt := 1597) dL_law_44 (by decide) (by decide) (by decide) (by decide) (cs_21 hLs hj7 hC hM hK hN kk)
  by_cases e22 : c9 = 22
  · rw [e22]
    exact al_tabIn (off := 1619) (tgt := 1663) dL_law_44 (by decide) (by decide) (by decide) (by decide) (cs_22 hLs hj7 hC hM hK hN kk)
  by_cases e23 : c9 = 23
  · rw [e23]
    exact al_tabIn (off := 1633) (tgt := 1677) dL_law_44 (by decide) (by decide) (by decide) (by decide) (cs_23 hLs hj7 hC hM hK hN kk)
  by_cases e24 : c9 = 24
  · rw [e24]
    exact al_tabIn (off := 1646) (tgt := 1690) dL_law_44 (by decide) (by decide) (by decide) (by decide) (cs_24 hLs hj7 hC hM hK hN kk)
  by_cases e25 : c9 = 25
  · rw [e25]
    exact al_tabIn (off := 1702) (tgt := 1746) dL_law_44 (by decide) (by decide) (by decide) (by decide) (cs_25 hLs hj7 hC hM hK hN kk)
  by_cases e26 : c9 = 26
  · rw [e26]
    exact al_tabIn (off := 1746) (tgt := 1790) dL_law_44 (by decide) (by decide) (by decide) (by decide) (cs_26 hLs hj7 hC hM hK hN kk)
  by_cases e27 : c9 = 27
  · rw [e27]
    exact al_tabIn (off := 1801) (tgt := 1845) dL_law_44 (by decide) (by decide) (by decide) (by decide) (cs_27 hLs hj7 hC hM hK hN kk)
  by_cases e28 : c9 = 28
  · rw [e28]
    exact al_tabIn (off := 1845) (tgt := 1889) dL_law_44 (by decide) (by decide) (by decide) (by decide) (cs_28 hLs hj7 hC hM hK hN kk)
  by_cases e29 : c9 = 29
  · rw [e29]
    exact al_tabIn (off := 1903) (tgt := 1947) dL_law_44 (by decide) (by decide) (by decide) (by decide) (cs_29 hLs hj7 hC hM hK hN kk)
  by_cases e30 : c9 = 30
  · rw [e30]
    exact al_tabIn (off := 1947) (tgt := 1991) dL_law_44 (by decide) (by decide) (by decide) (by decide) (cs_30 hLs hj7 hC hM hK hN kk)
  by_cases e31 : c9 = 31
  · rw [e31]
    exact al_tabIn (off := 1991) (tgt := 2035) dL_law_44 (by decide) (by decide) (by decide) (by decide) (cs_31 hLs hj7 hC hM hK hN kk)
  by_cases e32 : c9 = 32
  · rw [e32]
    exact al_tabIn (off := 2004) (tgt := 2048) dL_law_44 (by decide) (by decide) (by decide) (by decide) (cs_32 hLs hj7 hC hM hK hN kk)
  refine al_tabOut (tgt := 2092) dL_law_44 (Or.inr (by rw [nI_toInt (by omega)]; omega)) (by decide) ?_
  exact AL.wk (Nat.sub_le _ _) (Nat.sub_le _ _) (kk _ _ hC hM)
