theorem AC.met0 {M : MI} {dep k n : Nat} {fx : Bool} {Φ : Rs → ah → Prop} {as : List Value} {h : ah} (hA : AC M dep fx Φ k n as h) (hno : ∀ E h', ¬ Φ (.inr E) h') (hy : plainName M.1.cls = true) (ht : M.2.2.2.2 = []) (hlen : (lg_sl as).length ≤ M.2.2.1) (l : Launch) (hl : l.stackTraces = false) (H0 : Heap) (D : va_G) (ty : Nat → ClassId) (ad : Nat → Nat) :
    Met l M.1 [Cond.code M.1 M.2.1 M.2.2.1 M.2.2.2.1] (rmd dep k n) (Pm H0 D ty ad h as) (Qm fx Φ H0 D ty ad h) k n (fre H0) := by
  intro p e ha hc hk s m args below hf happ hP hK
  obtain ⟨j, o, h1, h2, h3, h4⟩ := hA.met hy ht hlen l hl H0 D ty ad p e ha hc hk s m args below hf happ hP hK
  refine ⟨j, o, h1, h2, h3, ?_⟩
  rcases h4 with h4 | ⟨q, h5, E, ce, L, ⟨h', ad', a1, a2, a3, a4⟩, h6⟩
  · exact h4
  · exact absurd a3 (hno E h')
section AWN
variable {M M' : MI} {dep dep' : Nat} {fx fx' : Bool} {Φ Φ' : Rs → ah → Prop} {k n k' n' pc na idx : Nat} {lv : List (Nat × Value)} {st stk as : List Value} {h : ah}
/-- a call that comes back, put behind its run -/
theorem run_back {p : Program} {l : Launch} {e : Env} {R : Room} {s : State} {m : MethodId} {args : Array Value} {below : List Frame} {meth : Method} {c : Code} {H0 : Heap} {D : va_G} {ty : Nat → ClassId} {ad : Nat → Nat} {mc ms : Nat} {H : Heap} {locs : List Loc} {cells slots : Nat} {Qc : Array Value → State → Outcome → State → Prop} {XC : String → State → State → Prop} {ls : Array Slot} {stk' : List Value} {a : Array Value}
    (G : AK M dep fx Φ k n h p l R s m args meth c H0 D ty ad mc ms H locs cells slots Qc XC) (hl : lv_has ls M.2.2.1 (cvl ad lv)) (run : va_Run p l e R s m args below meth c H locs cells slots k' n' (F0 m pc ls stk') (cvs ad st) (Qm fx' Φ' H0 D ty ad h a) (fre H0)) (hk : k' ≤ k) (hn : n' ≤ n) (hfx : fx = true → fx' = true) (hdom : ∀ v h', Φ' v h' → ∀ i x, h i = some x → ∃ y, h' i = some y) (hok : fx' = true ∨ (okv h st ∧ okv h (lv.map (fun q => q.2))))
    (kk : ∀ v h', Φ' (.inl v) h' → AW M dep fx Φ (k - k') (n - n') (pc + 3) lv (v.toList ++ st) h') :
    W p l e R s m args below meth c H locs cells slots (vx_MQ below Qc XC args s mc ms (fre H0)) (F0 m pc ls stk') := by
  intro T hT X
  obtain ⟨v0, st₀, t, T', L, h0, X', hL, e1, e2, ⟨v, h', ad', c1, c2, c3, c4, c5, c6⟩, st1⟩ := run T hT X
  cases c3
  have e3 : cvs ad' st = cvs ad st := hok.elim (fun z => by rw [c1 z]) (fun z => cvs_agr z.1 (fun k hk => by rw [c5.2.2.2.2 k hk, G.2.2.2.1.2.2.2.2 k hk]) c2)
  have e4 : cvl ad' lv = cvl ad lv := hok.elim (fun z => by rw [c1 z]) (fun z => cvl_agr z.2 (fun k hk => by rw [c5.2.2.2.2 k hk, G.2.2.2.1.2.2.2.2 k hk]) c2)
  obtain ⟨t2, a1, b1'⟩ := kk v h' c4 p l e R s m args below meth c H0 D ty ad' mc ms T'.heap (locs ++ L) (cells + k') (slots + n') Qc XC ls (G.back h0 e1 (fun z => c1 (hfx z)) c2 c5 c6 hL (hdom _ _ c4) hk hn) (by rw [e4]; exact hl) T' rfl X'
  refine ⟨t2, st1 t2 ?_, b1'⟩
  have e5 : cvs ad' (v.toList ++ st) = (v.map (cv ad')).toList ++ cvs ad st := by
    rw [← e3]
    cases v <;> rfl
  rw [e5] at a1
  exact a1
theorem callN_mk {p : Program} {l : Launch} {R : Room} {s : State} {m : MethodId} {args : Array Value} {meth : Method} {c : Code} {H0 : Heap} {D : va_G} {ty : Nat → ClassId} {mc ms : Nat} {host : String}
    (G : Gd M dep p l R s m meth c H0 D ty mc ms) (ho : MO M' na) (hl : Cond.methodLinkNest M.1.cls idx M'.1 host ∈ lw_tbl) (hd : dep' + 1 ≤ dep) :
    va_CN R s args M.1.cls idx M'.1 host M'.2.1 M'.2.2.1 M'.2.2.2.1 [Cond.code M'.1 M'.2.1 M'.2.2.1 M'.2.2.2.1] (rmd dep' k n) k n na := by
  obtain ⟨a1, a2, a3, a4, a5, a6, a7, a8, a9, hC, b1, b2, b3⟩ := G
  obtain ⟨o1, o2, o3, o4, o5, o6, o7⟩ := ho
  refine ⟨⟨rfl, rfl, by show dep' + 1 ≤ _; omega, by show 8 + (M'.2.2.1 + 11) + 60 * dep' ≤ _; omega, fun w hw a' U hW => ?_, List.mem_cons_self⟩, hC.word o1 rfl args, hC.word o2 rfl args, o5, fun sig hsig => ?_, hC.word2 hl rfl args⟩
  · rw [List.mem_singleton] at hw
    subst hw
    exact (hC.warm hW).word o1 rfl a'
  · rw [hsig] at o6
    exact (Option.some.inj o6).symm
/-- a private static method of the nest's host -/
theorem aw_callSN {host : String} (d : decode M.2.1 pc = .ok (.invokestatic idx, 3)) (hl0 : Cond.methodLinkNest M.1.cls idx M'.1 host ∈ lw_tbl) (ho : MO M' na) (hv : MS M') (hA : AC M' dep' fx' Φ' k' n' as h) (hst : stk = as.reverse ++ st) (hno : ∀ E h', ¬ Φ' (.inr E) h') (hna : as.length = na) (hlen : (lg_sl as).length ≤ M'.2.2.1) (hd : dep' + 1 ≤ dep) (hcat : (st.map fun v => v.category).sum ≤ 8) (hk : k' ≤ k) (hn : n' ≤ n) (hfx : fx = true → fx' = true) (hdom : ∀ v h', Φ' v h' → ∀ i x, h i = some x → ∃ y, h' i = some y) (hok : fx' = true ∨ (okv h st ∧ okv h (lv.map (fun q => q.2))))
    (kk : ∀ v h', Φ' (.inl v) h' → AW M dep fx Φ (k - k') (n - n') (pc + 3) lv (v.toList ++ st) h') : AW M dep fx Φ k n pc lv stk h := by
  subst hst
  intro p l e R s m args below meth c H0 D ty ad mc ms H locs cells slots Qc XC ls G hl
  obtain ⟨⟨hx, hb, htr, hml, hr, hlo, hnm, hown, hK, hC, b1, b2, b3, b4, b5, htb⟩, g2, g3, hR, hS, hQX⟩ := id G
  have hM := hA.met0 hno ho.2.2.2.1 ho.2.2.1 hlen l htr H0 D ty ad
  exact run_back G hl (va_runSN (e := e) (meth := meth) (below := below) (R := R) (As := as.map (cv ad)) (rest := cvs ad st) (g := F0 m pc ls (cvs ad (as.reverse ++ st))) (Ts := []) (locs := locs) (cells := cells) (slots := slots) ⟨hx, hb, hml, hown, fun _ hq => nomatch hq⟩ hM ⟨callN_mk (args := args) (k := k') (n := n') G.1 ho hl0 hd, hC.word hv rfl args, trivial⟩ ⟨Pm.blind, fun U hU hW => ⟨rfl, hC.warm hW, va_K.moved hW.alike hK, by rw [hU]; exact hR⟩⟩ rfl (by simpa using hna) hl.1 (by simp [cvs]) (lv_room (by rw [cvs_cat]; exact hcat)) d ⟨by omega, by omega⟩) hk hn hfx hdom hok kk
/-- a constructor of the nest's mate -/
theorem aw_callIN {host : String} {b : Nat} (d : decode M.2.1 pc = .ok (.invokespecial idx, 3)) (hl0 : Cond.methodLinkNest M.1.cls idx M'.1 host ∈ lw_tbl) (ho : MO M' na) (hv : Cond.instanceMethod M'.1 ∈ lw_tbl) (hi : M'.1.name = "<init>") (hr0 : M'.2.2.2.1 = none) (hA : AC M' dep' fx' Φ' k' n' (.ref b :: as) h) (hst : stk = as.reverse ++ .ref b :: st) (hno : ∀ E h', ¬ Φ' (.inr E) h') (hna : as.length = na) (hlen : (lg_sl (.ref b :: as)).length ≤ M'.2.2.1) (hd : dep' + 1 ≤ dep) (hcat : (st.map fun v => v.category).sum ≤ 8) (hk : k' ≤ k) (hn : n' ≤ n) (hfx : fx = true → fx' = true) (hdom : ∀ v h', Φ' v h' → ∀ i x, h i = some x → ∃ y, h' i = some y) (hok : fx' = true ∨ (okv h st ∧ okv h (lv.map (fun q => q.2))))
    (kk : ∀ v h', Φ' (.inl v) h' → AW M dep fx Φ (k - k') (n - n') (pc + 3) lv (v.toList ++ st) h') : AW M dep fx Φ k n pc lv stk h := by
  subst hst
  intro p l e R s m args below meth c H0 D ty ad mc ms H locs cells slots Qc XC ls G hl
  obtain ⟨⟨hx, hb, htr, hml, hr, hlo, hnm, hown, hK, hC, b1, b2, b3, b4, b5, htb⟩, g2, g3, hR, hS, hQX⟩ := id G
  have hM := hA.met0 hno ho.2.2.2.1 ho.2.2.1 hlen l htr H0 D ty ad
  have hcn := callN_mk (args := args) (k := k') (n := n') G.1 ho hl0 hd
  rw [hr0] at hM hcn
  exact run_back G hl (va_runIN (e := e) (meth := meth) (below := below) (R := R) (As := as.map (cv ad)) (b := ad b) (rest := cvs ad st) (g := F0 m pc ls (cvs ad (as.reverse ++ .ref b :: st))) (Ts := []) (locs := locs) (cells := cells) (slots := slots) ⟨hx, hb, hml, hown, fun _ hq => nomatch hq⟩ hM ⟨hcn, hi, hC.word hv rfl args⟩ ⟨Pm.blind, fun U hU hW => ⟨rfl, hC.warm hW, va_K.moved hW.alike hK, by rw [hU]; exact hR⟩⟩ rfl (by simpa using hna) hl.1 (by simp [cvs, cv]) (lv_room (by rw [cvs_cat]; exact hcat)) d ⟨by omega, by omega⟩) hk hn hfx hdom hok kk
/-- a constructor -/
theorem aw_callI {b : Nat} (d : decode M.2.1 pc = .ok (.invokespecial idx, 3)) (hl0 : Cond.methodLink M.1.cls idx M'.1 ∈ lw_tbl) (ho : MO M' na) (hv : Cond.instanceMethod M'.1 ∈ lw_tbl) (hi : M'.1.name = "<init>") (hr0 : M'.2.2.2.1 = none) (hA : AC M' dep' fx' Φ' k' n' (.ref b :: as) h) (hst : stk = as.reverse ++ .ref b :: st) (hno : ∀ E h', ¬ Φ' (.inr E) h') (hna : as.length = na) (hlen : (lg_sl (.ref b :: as)).length ≤ M'.2.2.1) (hd : dep' + 1 ≤ dep) (hcat : (st.map fun v => v.category).sum ≤ 8) (hk : k' ≤ k) (hn : n' ≤ n) (hfx : fx = true → fx' = true) (hdom : ∀ v h', Φ' v h' → ∀ i x, h i = some x → ∃ y, h' i = some y) (hok : fx' = true ∨ (okv h st ∧ okv h (lv.map (fun q => q.2))))
    (kk : ∀ v h', Φ' (.inl v) h' → AW M dep fx Φ (k - k') (n - n') (pc + 3) lv (v.toList ++ st) h') : AW M dep fx Φ k n pc lv stk h := by
  subst hst
  intro p l e R s m args below meth c H0 D ty ad mc ms H locs cells slots Qc XC ls G hl
  obtain ⟨⟨hx, hb, htr, hml, hr, hlo, hnm, hown, hK, hC, b1, b2, b3, b4, b5, htb⟩, g2, g3, hR, hS, hQX⟩ := id G
  have hM := hA.met0 hno ho.2.2.2.1 ho.2.2.1 hlen l htr H0 D ty ad
  have hcn := callB_mk (args := args) (k := k') (n := n') G.1 ho hl0 hd
  rw [hr0] at hM hcn
  exact run_back G hl (va_runI (e := e) (meth := meth) (below := below) (R := R) (As := as.map (cv ad)) (b := ad b) (rest := cvs ad st) (g := F0 m pc ls (cvs ad (as.reverse ++ .ref b :: st))) (Ts := []) (locs := locs) (cells := cells) (slots := slots) ⟨hx, hb, hml, hown, fun _ hq => nomatch hq⟩ hM ⟨hcn, hi, hC.word hv rfl args⟩ ⟨Pm.blind, fun U hU hW => ⟨rfl, hC.warm hW, va_K.moved hW.alike hK, by rw [hU]; exact hR⟩⟩ rfl (by simpa using hna) hl.1 (by simp [cvs, cv]) (lv_room (by rw [cvs_cat]; exact hcat)) d ⟨by omega, by omega⟩) hk hn hfx hdom hok kk
theorem aw_objInit {b : Nat} (d : decode M.2.1 pc = .ok (.invokespecial idx, 3)) (hl0 : Cond.methodLink M.1.cls idx Lib.objectInit ∈ lw_tbl) (hd : 1 ≤ dep) (hcat : (st.map fun v => v.category).sum ≤ 8) (kk : AW M dep fx Φ k n (pc + 3) lv st h) : AW M dep fx Φ k n pc lv (.ref b :: st) h := by
  intro p l e R s m args below meth c H0 D ty ad mc ms H locs cells slots Qc XC ls G hl
  obtain ⟨⟨hx, hb, htr, hml, hr, hlo, hnm, hown, hK, hC, b1, b2, b3, b4, b5, htb⟩, g2, g3, hR, hS, hQX⟩ := id G
  refine W.objInit hx hb hown (hC.word hl0 rfl args) (hC.word (w := .instanceMethod Lib.objectInit) (by decide +kernel) rfl args) (hC.word (w := .code Lib.objectInit ⟨#[0xb1]⟩ 1 none) (by decide +kernel) rfl args) rfl (by rw [hml]; exact hl.1) rfl d (by omega) ?_ (W.eq (g2 := F0 m (pc + 3) ls (cvs ad st)) rfl (kk p l e R s m args below meth c H0 D ty ad mc ms H locs cells slots Qc XC ls G hl))
  show 2 * 0 + ((cvs ad st).map fun v => v.category).sum + 12 ≤ R.locals
  rw [cvs_cat]
  omega
/-- a place that was free is filled by a new cell -/
theorem AK.made {p : Program} {l : Launch} {R : Room} {s : State} {m : MethodId} {args : Array Value} {meth : Method} {c : Code} {H0 : Heap} {D : va_G} {ty : Nat → ClassId} {ad : Nat → Nat} {mc ms : Nat} {H H1 : Heap} {locs : List Loc} {cells slots z : Nat} {Qc : Array Value → State → Outcome → State → Prop} {XC : String → State → State → Prop} {i : Nat} {x : ae}
    (G : AK M dep false Φ k n h p l R s m args meth c H0 D ty ad mc ms H locs cells slots Qc XC) (hi : h i = none) (hi2 : i < 200) (hx : va_at D kcl (H.size, ce ty (va_up ad i H.size) x) H1) (hz : H1.size = H.size + 1) (oq : ∀ q : Nat, q < H.size → H1[q]? = H[q]?) (hk : 1 ≤ k) (hn : z ≤ n) (hrf : ∀ j y, h j = some y → ce ty (va_up ad i H.size) y = ce ty ad y) :
    AK M dep false Φ (k - 1) (n - z) (uph h i x) p l R s m args meth c H0 D ty (va_up ad i H.size) mc ms H1 locs (cells + 1) (slots + z) Qc XC := by
  obtain ⟨g1, g2, g3, hR, hS, hQ, hX⟩ := G
  have hag : ∀ j y, h j = some y → va_up ad i H.size j = ad j := by
    intro j y hj
    have : j ≠ i := fun e => by rw [e, hi] at hj; cases hj
    simp [va_up, this]
  have hlt : ∀ j y, h j = some y → ad j < H.size := fun j y hj => (hR.1 j y hj).1.lt
  refine ⟨g1, by omega, by omega, ⟨fun j y hj => ?_, fun j j2 y y2 hj hj2 e => ?_, by have := hR.2.2.1; omega, fun q hq => by rw [oq q (Nat.lt_of_lt_of_le hq hR.2.2.1)]; exact hR.2.2.2.1 q hq, fun k hk => by rw [show va_up ad i H.size k = ad k from by simp [va_up, show k ≠ i by omega]]; exact hR.2.2.2.2 k hk⟩, ⟨by have := hS.1; omega, fun q h1 h2 => by rw [oq q (Nat.lt_of_lt_of_le h1 hS.1)]; exact hS.2.1 q h1 h2, hS.2.2⟩, fun v h' ad' t a b => hQ v h' ad' t (fun z => by cases z) (fun j y hj => ?_), fun E h' ad' t a b => hX E h' ad' t (fun z => by cases z) (fun j y hj => ?_)⟩
  · by_cases e : j = i
    · subst e
      rw [uph_same] at hj
      cases hj
      have e2 : va_up ad j H.size j = H.size := by simp [va_up]
      rw [e2]
      exact ⟨hx, hR.2.2.1⟩
    · rw [uph_ne h x e] at hj
      rw [hag j y hj, hrf j y hj]
      exact ⟨(hR.1 j y hj).1.kept (oq _ (hlt j y hj)), (hR.1 j y hj).2⟩
  · by_cases e1 : j = i
    · by_cases e2 : j2 = i
      · rw [e1, e2]
      · rw [uph_ne h x e2] at hj2
        rw [e1, hag j2 y2 hj2] at e
        have := hlt j2 y2 hj2
        simp [va_up] at e
        omega
    · rw [uph_ne h x e1] at hj
      by_cases e2 : j2 = i
      · rw [e2, hag j y hj] at e
        have := hlt j y hj
        simp [va_up] at e
        omega
      · rw [uph_ne h x e2] at hj2
        rw [hag j y hj, hag j2 y2 hj2] at e
        exact hR.2.1 j j2 y y2 hj hj2 e
  · have hj' : uph h i x j = some y := by rw [uph_ne h x (fun e => by rw [e, hi] at hj; cases hj)]; exact hj
    rw [b j y hj', hag j y hj]
  · have hj' : uph h i x j = some y := by rw [uph_ne h x (fun e => by rw [e, hi] at hj; cases hj)]; exact hj
    rw [b j y hj', hag j y hj]
end AWN
