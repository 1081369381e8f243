/-! throws -/
theorem CF.str {D : va_G} {s : State} {H0 : Heap} (hC : CF D s H0) {own text : String} {is : Nat} {cur : ClassId} (hcur : s.vm.findClass own = some cur) (hw : Cond.stringRef own is text ∈ lw_tbl) : ∃ sa, vk_R own is text sa s := by
  obtain ⟨s0, b, h0, hW, hts, hn, hct⟩ := hC
  have h1 := hts _ hw
  have h2 : s0.vm.findClass own = some cur := by rw [← hW.alike.findClass]; exact hcur
  obtain ⟨k, cf, i, a, -, -, -, -, -, hev⟩ := Cond.stringRef_spec h2 h1
  exact ⟨a, vk_R.warm hW (vk_R.of h1 hev)⟩
theorem CF.zq {D : va_G} {s : State} {H0 : Heap} (hC : CF D s H0) {C n d : String} (hl : Cond.laysStatic C n d ∈ lw_tbl) (hi : Cond.initialized C ∈ lw_tbl) (hr : Cond.isRef (.static C n d) ∈ flatC (Jvm.Cond.and given_1 narrow_1)) (hk : ∀ q : Nat, q < H0.size → s.heap[q]? = H0[q]?) (hz : H0.size ≤ s.heap.size) : vx_Zq C n d (fre H0) s s.heap := by
  obtain ⟨s0, b, h0, hW, hts, hn, hct⟩ := hC
  subst h0
  have z0 : vx_Zq C n d (fre s0.heap) s0 s0.heap := vx_Zqof (hts _ hl) (hts _ hi) (flat_of_before _ hn _ hr) (fun a ha hq => by have : s0.heap.size ≤ a := hq; omega)
  exact (z0.moved hW.alike).kept (fun a ha hq => hk a ha)
theorem zq_us : Cond.laysStatic Bundle.tN "UNASSIGNED_STACK" Bundle.steD ∈ lw_tbl ∧ Cond.laysStatic Bundle.tN "SUPPRESSED_SENTINEL" Bundle.listD ∈ lw_tbl ∧ Cond.initialized Bundle.tN ∈ lw_tbl ∧ Cond.isRef (.static Bundle.tN "UNASSIGNED_STACK" Bundle.steD) ∈ flatC (Jvm.Cond.and given_1 narrow_1) ∧ Cond.isRef (.static Bundle.tN "SUPPRESSED_SENTINEL" Bundle.listD) ∈ flatC (Jvm.Cond.and given_1 narrow_1) := by decide +kernel
/-- the words that go with a state's tables -/
def gw2 : Cond → Bool
  | .castable _ _ => true
  | .declares _ => true
  | .methodLinkNest _ _ _ _ => true
  | .fieldLinkNest _ _ _ _ _ _ => true
  | w => goodWord w
theorem gw2_ot {w : Cond} (h : gw2 w = true) : vx_ot w = true := by
  cases w <;> first | rfl | (simp only [gw2] at h; simp [vx_ot, h])
theorem CF.word2 {D : va_G} {s : State} {H0 : Heap} (hC : CF D s H0) {w : Cond} (hw : w ∈ lw_tbl) (hg : gw2 w = true) (args : Array Value) : w.before args s = true := by
  by_cases g : goodWord w = true
  · exact hC.word hw g args
  · obtain ⟨s0, b, h0, hW, hts, hn, hct⟩ := hC
    cases w with
    | castable A B => exact va_Nw.use rfl (va_Nw.warmC hW (va_Nw.of rfl (hts _ hw)))
    | declares y => exact va_Nw.use rfl (va_tabs rfl (rfl : (s0.setVm s.vm).vm = s.vm) (by rw [Cond.declares_setVm hW.alike]; exact (va_Nw.of rfl (hts _ hw) : va_Nw (.declares y) s0)))
    | methodLinkNest a i x hh => exact va_Nw.use rfl (va_Nw.warmM hW (va_Nw.of rfl (hts _ hw)))
    | fieldLinkNest a i b2 n2 d2 hh => exact va_Nw.use rfl (va_Nw.warmF hW (va_Nw.of rfl (hts _ hw)))
    | _ => exact absurd hg g
def exN : List String := ["java/lang/RuntimeException", "java/lang/Exception"]
/-- what the tables say of 'throw new E("text")' in a class -/
def TW (own E text : String) (ik is ic : Nat) : Prop := Bundle.fit E = true ∧ Cond.classLink own ik E ∈ lw_tbl ∧ Cond.initialized E ∈ lw_tbl ∧ Cond.stringRef own is text ∈ lw_tbl ∧ ∀ w ∈ vx_atS own ic E exN, w ∈ lw_tbl ∧ gw2 w = true
theorem exN_fit : ∀ n ∈ exN, Bundle.fit n = true := by decide +kernel
section AWT
variable {M : MI} {dep : Nat} {fx : Bool} {Φ : Rs → ah → Prop} {k n pc : Nat} {lv : List (Nat × Value)} {st : List Value} {h : ah}
theorem aw_throw {E text : String} {ik is ic : Nat} (ht0 : M.2.2.2.2 = []) (hw : TW M.1.cls E text ik is ic) (d0 : decode M.2.1 pc = .ok (.new ik, 3)) (d3 : decode M.2.1 (pc + 3) = .ok (.dup, 1)) (d4 : decode M.2.1 (pc + 4) = .ok (.ldc_w is, 3)) (d7 : decode M.2.1 (pc + 7) = .ok (.invokespecial ic, 3)) (d10 : decode M.2.1 (pc + 10) = .ok (.athrow, 1)) (hd : 6 ≤ dep) (hcat : (st.map fun v => v.category).sum ≤ 8) (hk : 1 ≤ k) (hn : 6 ≤ n) (hp : Φ (.inr E) h) : AW M dep fx Φ k n pc lv st h := by
  intro p l e R s m args below meth c H0 D ty ad mc ms H locs cells slots Qc XC ls G hl
  obtain ⟨⟨hx, hb, htr, hml, hr, hlo, hnm, hown, hK, hC, b1, b2, b3, b4, b5, htb⟩, g2, g3, hR, hS, hQ, hX⟩ := id G
  obtain ⟨w1, w2, w3, w4, w5⟩ := hw
  obtain ⟨sa, hstr⟩ := hC.str hown w4
  have hs0 : ∀ q : Nat, q < H0.size → s.heap[q]? = H0[q]? := fun q hq => by
    rw [← hR.2.2.2.1 q hq]
    exact (hS.2.1 q (by omega) (by show ¬ H0.size ≤ q; omega)).symm
  refine vx_throwSW hx hb htr hown w1 exN_fit (hC.word w2 rfl args) (hC.word w3 rfl args) hstr (fun w hw => hC.word2 (w5 w hw).1 (w5 w hw).2 args) ?_ (hC.zq zq_us.1 zq_us.2.2.1 zq_us.2.2.2.1 hs0 b5) (hC.zq zq_us.2.1 zq_us.2.2.1 zq_us.2.2.2.2 hs0 b5) hS (by rw [hml]; exact hl.1) d0 d3 d4 d7 d10 ?_ ?_ ?_ (by omega) (by omega) hlo ?_ hS.2.2 (by omega) (by omega)
  · intro w hw
    rcases List.mem_cons.mp hw with e1 | e1
    · rw [e1]; rfl
    · rcases List.mem_cons.mp e1 with e2 | e2
      · rw [e2]; rfl
      · exact gw2_ot (w5 w e2).2
  · rw [htb, ht0]
    intro x hx'
    cases hx'
  · show 2 + 3 < R.frames
    omega
  · rw [cvs_cat]
    show _ + (13 * (2 + 1) + 43) ≤ R.locals
    omega
  · intro t hA hz ho
    have hR' : Rep H0 D ty ad h t.heap := by
      refine ⟨fun i x hi => ⟨(hR.1 i x hi).1.kept (ho _ ?_), (hR.1 i x hi).2⟩, hR.2.1, Nat.le_trans hR.2.2.1 hz, fun q hq => by rw [ho q (Nat.lt_of_lt_of_le hq hR.2.2.1)]; exact hR.2.2.2.1 q hq, hR.2.2.2.2⟩
      exact (hR.1 i x hi).1.lt
    exact hX E h ad t (fun _ => rfl) (fun _ _ _ => rfl) hp hR' (Nat.le_trans hS.1 hz) hA
end AWT
theorem tw_mk {own E text : String} {ik is ic : Nat} (h1 : Bundle.fit E = true) (h2 : Cond.classLink own ik E ∈ lw_tbl) (h3 : Cond.initialized E ∈ lw_tbl) (h4 : Cond.stringRef own is text ∈ lw_tbl) (h : (vx_atS own ic E exN).all (fun w => decide (w ∈ lw_tbl) && gw2 w) = true) : TW own E text ik is ic := by
  refine ⟨h1, h2, h3, h4, fun w hw => ?_⟩
  have := List.all_eq_true.mp h w hw
  simpa using this
