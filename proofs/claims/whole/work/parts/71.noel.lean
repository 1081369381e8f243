/-- what the tables say of the throw with an index of its own -/
theorem te_mk {own E Y text : String} {r : List String} {ik is ic ix : Nat} {bs : ByteArray} (h : ((eAt own ic E Y r ix bs).filter vx_no).all (fun w => decide (w ∈ lw_tbl) && gw2 w) = true) : ∀ w ∈ (eAt own ic E Y r ix bs).filter vx_no, w ∈ lw_tbl ∧ gw2 w = true := fun w hw => by
  have := List.all_eq_true.mp h w hw
  simpa using this
abbrev bsE : ByteArray := prog_33_method_4_code
theorem te_w : ∀ w ∈ (eAt RX7 341 "java/util/NoSuchElementException" "java/lang/RuntimeException" ["java/lang/Exception"] 13 bsE).filter vx_no, w ∈ lw_tbl ∧ gw2 w = true := te_mk (text := "") (ik := 0) (is := 0) (by decide +kernel)
theorem te_1 : Cond.classLink RX7 337 "java/util/NoSuchElementException" ∈ lw_tbl := by decide +kernel
theorem te_2 : Cond.initialized "java/util/NoSuchElementException" ∈ lw_tbl := by decide +kernel
theorem te_3 : Cond.stringRef RX7 339 "there is nothing to answer" ∈ lw_tbl := by decide +kernel
theorem te_0 : decode bsE 0 = .ok (.aload_n 0, 1) := by rfl
theorem te_4 : decode bsE 1 = .ok (.aload_n 1, 1) := by rfl
theorem te_5 : decode bsE 2 = .ok (.invokespecial 13, 3) := by rfl
theorem te_6 : decode bsE 5 = .ok (.return_, 1) := by rfl
section AWE
variable {M : MI} {dep : Nat} {fx : Bool} {Φ : Rs → ah → Prop} {k n pc : Nat} {lv : List (Nat × Value)} {st : List Value} {h : ah}
theorem aw_throwE (ht0 : M.2.2.2.2 = []) (hcl : M.1.cls = RX7) (d0 : decode M.2.1 pc = .ok (.new 337, 3)) (d3 : decode M.2.1 (pc + 3) = .ok (.dup, 1)) (d4 : decode M.2.1 (pc + 4) = .ok (.ldc_w 339, 3)) (d7 : decode M.2.1 (pc + 7) = .ok (.invokespecial 341, 3)) (d10 : decode M.2.1 (pc + 10) = .ok (.athrow, 1)) (hd : 6 ≤ dep) (hcat : (st.map fun v => v.category).sum ≤ 8) (hk : 1 ≤ k) (hn : 6 ≤ n) (hp : Φ (.inr "java/util/NoSuchElementException") h) : AW M dep fx Φ k n pc lv st h := by
  intro p l e R s m args below meth c H0 D ty ad mc ms H locs cells slots Qc XC ls G hl
  obtain ⟨⟨hx, hb, htr, hml, hr, hlo, hnm, hown, hK, hC, b1, b2, b3, b4, b5, htb⟩, g2, g3, hR, hS, hQ, hX⟩ := id G
  rw [hcl] at hown
  obtain ⟨sa, hstr⟩ := hC.str hown te_3
  have hs0 : ∀ q : Nat, q < H0.size → s.heap[q]? = H0[q]? := fun q hq => by
    rw [← hR.2.2.2.1 q hq]
    exact (hS.2.1 q (by omega) (by show ¬ H0.size ≤ q; omega)).symm
  refine eThrow hx hb htr hown (by decide +kernel) (by decide +kernel) (by decide +kernel) te_0 te_4 te_5 te_6 (hC.word te_1 rfl args) (hC.word te_2 rfl args) hstr (fun w hw => hC.word2 (te_w w hw).1 (te_w w hw).2 args) ?_ (hC.zq zq_us.1 zq_us.2.2.1 zq_us.2.2.2.1 hs0 b5) (hC.zq zq_us.2.1 zq_us.2.2.1 zq_us.2.2.2.2 hs0 b5) hS (by rw [hml]; exact hl.1) d0 d3 d4 d7 d10 ?_ ?_ ?_ (by omega) (by omega) hlo ?_ hS.2.2 (by omega) (by omega)
  · intro w hw
    rcases List.mem_cons.mp hw with e1 | e1
    · rw [e1]; rfl
    · rcases List.mem_cons.mp e1 with e2 | e2
      · rw [e2]; rfl
      · exact gw2_ot (te_w w e2).2
  · rw [htb, ht0]
    intro x hx'
    cases hx'
  · show 1 + 4 < R.frames
    omega
  · rw [cvs_cat]
    show _ + (13 * (1 + 2) + 43) ≤ R.locals
    omega
  · intro t hA hz ho
    have hR' : Rep H0 D ty ad h t.heap := by
      refine ⟨fun i x hi => ⟨(hR.1 i x hi).1.kept (ho _ ?_), (hR.1 i x hi).2⟩, hR.2.1, Nat.le_trans hR.2.2.1 hz, fun q hq => by rw [ho q (Nat.lt_of_lt_of_le hq hR.2.2.1)]; exact hR.2.2.2.1 q hq, hR.2.2.2.2⟩
      exact (hR.1 i x hi).1.lt
    exact hX "java/util/NoSuchElementException" h ad t (fun _ => rfl) (fun _ _ _ => rfl) hp hR' (Nat.le_trans hS.1 hz) hA
end AWE
theorem kX7_checkElement {x : Int32} : CK mX7_checkElement exE x := by
  intro d
  show AW mX7_checkElement 6 true (PVx (fun d' => ¬ x = 0 ∧ d' = d) (fun E' d' => x = 0 ∧ E' = exE ∧ d' = d)) 1 6 0 [(0, .int x)] [] (HP d)
  refine aw_iload_n dX7_checkElement_0 rfl ?_
  refine aw_if_ne 15 dX7_checkElement_1 (by decide) (fun c1 => ?_) (fun c1 => ?_)
  · exact aw_endV dX7_checkElement_15 rfl ⟨c1, rfl⟩
  · exact aw_throwE rfl rfl dX7_checkElement_4 dX7_checkElement_7 dX7_checkElement_8 dX7_checkElement_11 dX7_checkElement_14 (by decide) (by decide) (Nat.le_refl _) (Nat.le_refl _) ⟨d, rfl, c1, rfl, rfl⟩
