/-! THE SYSTEM: the state at hand, those before the latest changes (the latest first), what was saved, the reason kept (0: none), the input -/
abbrev Sy : Type := St × List St × Option St × Nat × List Nat
def up (q : St) (j k v : Nat) : St := fun a b => if a = j ∧ b = k then v else q a b
theorem up_s (q : St) (j k v : Nat) : up q j k v j k = v := by simp [up]
theorem up_n (q : St) {j k a b : Nat} (v : Nat) (h : ¬ (a = j ∧ b = k)) : up q j k v a b = q a b := by simp [up, h]
def push (y : Sy) (q' : St) : Sy := (q', (y.1 :: y.2.1).take 8, y.2.2)
/-- what a call gives: 0 or the place of what it throws; its answer; the system behind it -/
abbrev Out : Type := Nat × Int32 × Sy
def HM (row : Nat → Int32) (many : Int32) (q0 : St) (L : List St) : Prop := many = nI L.length ∧ L.length ≤ 8 ∧ (∀ i, i < L.length → RR (fun k => row (113 * i + k)) (L.getD (L.length - 1 - i) q0)) ∧ ∀ p ∈ L, QOK p
def SV (d : Dt) : Option St → Prop
  | none => d.1 160 5 = 0
  | some p => d.1 160 5 = 1 ∧ RR (d.1 164) p ∧ QOK p
def TP (row : Nat → Int32) (len : Int32) (T : List Nat) : Prop := len = nI T.length ∧ T.length ≤ 80 ∧ ∀ i, i < T.length → row i = nI (T.getD i 0) ∧ T.getD i 0 < 65536
/-- the reference holds the system y -/
def MR (d : Dt) (y : Sy) : Prop := (RR (d.1 161) y.1 ∧ QOK y.1) ∧ HM (d.1 163) (d.1 160 3) y.1 y.2.1 ∧ SV d y.2.2.1 ∧ (d.1 160 6 = nI y.2.2.2.1 ∧ y.2.2.2.1 ≤ 6) ∧ TP (d.1 172) (d.1 160 17) y.2.2.2.2
/-- the reference writes its own cells alone -/
def fM (d d' : Dt) : Prop := (∀ i, i < 160 ∨ 174 < i → d'.1 i = d.1 i ∧ d'.2.1 i = d.2.1 i) ∧ d'.2.2 = d.2.2
theorem fM_r (d : Dt) : fM d d := ⟨fun _ _ => ⟨rfl, rfl⟩, rfl⟩
theorem fM_t {a b c : Dt} (h : fM a b) (g : fM b c) : fM a c := ⟨fun i hi => ⟨(g.1 i hi).1.trans (h.1 i hi).1, (g.1 i hi).2.trans (h.1 i hi).2⟩, g.2.trans h.2⟩
theorem fM_dI {d d' : Dt} (h : fM d d') {i : Nat} (hi : 160 ≤ i ∧ i ≤ 174) (f : Nat → Int32) : fM d (dI d' i f) := ⟨fun j hj => ⟨by rw [dI_n _ _ (by omega)]; exact (h.1 j hj).1, (h.1 j hj).2⟩, h.2⟩
theorem fM_dL {d d' : Dt} (h : fM d d') {i : Nat} (hi : 160 ≤ i ∧ i ≤ 174) (f : Nat → Int64) : fM d (dL d' i f) := ⟨fun j hj => ⟨(h.1 j hj).1, by rw [dL_n _ _ (by omega)]; exact (h.1 j hj).2⟩, h.2⟩
theorem mS_fM {d d' : Dt} (h : mS d d') : fM d d' := by
  refine ⟨fun i hi => ⟨h.2.1 i (by omega) (by omega) (by omega), by rw [h.1]⟩, by rw [h.1]⟩
theorem RR_congr {r r' : Nat → Int32} {q : St} (hq : q 0 1 ≤ 12) (h : ∀ k, k < 113 → r' k = r k) (hr : RR r q) : RR r' q := by
  obtain ⟨⟨h1, h2⟩, h3, h4, h5, h6, h7⟩ := hr
  refine ⟨⟨by rw [h 0 (by omega)]; exact h1, by rw [h 16 (by omega)]; exact h2⟩, fun k hk => by rw [h _ (by omega)]; exact h3 k hk, fun k hk => by rw [h _ (by omega)]; exact h4 k hk, fun k hk => by rw [h _ (by omega)]; exact h5 k hk, fun t ht => ?_, fun t ht => ?_⟩
  · obtain ⟨g1, g2, g3⟩ := h6 t ht
    exact ⟨fun m hm => by rw [h _ (by omega)]; exact g1 m hm, by rw [h _ (by omega)]; exact g2, by rw [h _ (by omega)]; exact g3⟩
  · obtain ⟨g1, g2, g3⟩ := h7 t ht
    exact ⟨by rw [h _ (by omega)]; exact g1, by rw [h _ (by omega)]; exact g2, by rw [h _ (by omega)]; exact g3⟩
/-- the reference's cells but for g, ahead, and what a call may write of its numbers (thrown, rowMany, at, command) -/
def mK (d d' : Dt) : Prop := d'.1 163 = d.1 163 ∧ d'.1 164 = d.1 164 ∧ d'.1 172 = d.1 172 ∧ d'.1 160 3 = d.1 160 3 ∧ d'.1 160 5 = d.1 160 5 ∧ d'.1 160 17 = d.1 160 17
theorem mK_r (d : Dt) : mK d d := ⟨rfl, rfl, rfl, rfl, rfl, rfl⟩
theorem mK_t {a b c : Dt} (h : mK a b) (g : mK b c) : mK a c := ⟨g.1.trans h.1, g.2.1.trans h.2.1, g.2.2.1.trans h.2.2.1, g.2.2.2.1.trans h.2.2.2.1, g.2.2.2.2.1.trans h.2.2.2.2.1, g.2.2.2.2.2.trans h.2.2.2.2.2⟩
theorem mK_dI {d d' : Dt} (h : mK d d') {i : Nat} (hi : i ≠ 163 ∧ i ≠ 164 ∧ i ≠ 172 ∧ i ≠ 160) (f : Nat → Int32) : mK d (dI d' i f) := by
  obtain ⟨a, b, c, e⟩ := hi
  exact mK_t h ⟨dI_n _ _ (Ne.symm a), dI_n _ _ (Ne.symm b), dI_n _ _ (Ne.symm c), by rw [dI_n _ _ (Ne.symm e)], by rw [dI_n _ _ (Ne.symm e)], by rw [dI_n _ _ (Ne.symm e)]⟩
theorem mK_160 {d d' : Dt} (h : mK d d') {k : Nat} (hk : k ≠ 3 ∧ k ≠ 5 ∧ k ≠ 17) (x : Int32) : mK d (dI d' 160 (upd (d'.1 160) k x)) := by
  obtain ⟨a, b, c⟩ := hk
  refine mK_t h ⟨dI_n _ _ (by decide), dI_n _ _ (by decide), dI_n _ _ (by decide), ?_, ?_, ?_⟩ <;> rw [dI_s] <;> simp only [upd]
  · rw [if_neg (Ne.symm a)]
  · rw [if_neg (Ne.symm b)]
  · rw [if_neg (Ne.symm c)]
theorem mS_mK {d d' : Dt} (h : mS d d') : mK d d' := ⟨h.2.1 163 (by decide) (by decide) (by decide), h.2.1 164 (by decide) (by decide) (by decide), h.2.1 172 (by decide) (by decide) (by decide), h.2.2 3 (by decide), h.2.2 5 (by decide), h.2.2 17 (by decide)⟩
/-- a call that leaves the system as it is, but for its reason -/
theorem MR_keep {d d' : Dt} {y : Sy} (h : MR d y) (hk : mK d d') {q : St} (hr : RR (d'.1 161) q) (ok : QOK q) {w : Nat} (hw : d'.1 160 6 = nI w) (hw6 : w ≤ 6) : MR d' (q, y.2.1, y.2.2.1, w, y.2.2.2.2) := by
  obtain ⟨-, ⟨a1, a2, a3, a4⟩, a5, -, a6⟩ := h
  obtain ⟨k1, k2, k3, k4, k5, k6⟩ := hk
  refine ⟨⟨hr, ok⟩, ⟨by rw [k4]; exact a1, a2, fun i hi => ?_, a4⟩, ?_, ⟨hw, hw6⟩, by rw [k3, k6]; exact a6⟩
  · rw [k1]
    have hi' : i < y.2.1.length := hi
    have := a3 i hi'
    rw [List.getD_eq_getElem?_getD, List.getElem?_eq_getElem (by omega)] at this ⊢
    exact this
  · cases hs : y.2.2.1 with
    | none => rw [hs] at a5; show d'.1 160 5 = 0; rw [k5]; exact a5
    | some p => rw [hs] at a5; exact ⟨by rw [k5]; exact a5.1, by rw [k2]; exact a5.2.1, a5.2.2⟩
/-- what keeps does to the history -/
def kept (d : Dt) (n : Nat) (h : Nat → Int32) : Prop := (∀ i, i < (if n = 8 then 7 else n) → ∀ k, k < 113 → h (113 * i + k) = d.1 163 (113 * (i + (if n = 8 then 1 else 0)) + k)) ∧ ∀ k, k < 113 → h (113 * (if n = 8 then 7 else n) + k) = d.1 162 k
theorem HM_push {d : Dt} {q0 q' : St} {L : List St} {h : Nat → Int32} (hm : HM (d.1 163) (d.1 160 3) q0 L) (hk : kept d L.length h) (hr : RR (d.1 162) q0) (ok : QOK q0) : HM h (nI (if L.length = 8 then 8 else L.length + 1)) q' ((q0 :: L).take 8) := by
  obtain ⟨h1, h2, h3, h4⟩ := hm
  have hlen : ((q0 :: L).take 8).length = if L.length = 8 then 8 else L.length + 1 := by
    rw [List.length_take, List.length_cons]
    split <;> omega
  refine ⟨by rw [hlen], by rw [hlen]; split <;> omega, fun i hi => ?_, fun p hp => ?_⟩
  · rw [hlen] at hi
    rw [hlen]
    by_cases e : i = if L.length = 8 then 7 else L.length
    · have e2 : ((if L.length = 8 then 8 else L.length + 1) - 1 - i) = 0 := by rw [e]; split <;> omega
      rw [e2]
      have e3 : ((q0 :: L).take 8).getD 0 q' = q0 := rfl
      rw [e3]
      refine RR_congr ok.2.1 (fun k hkk => ?_) hr
      rw [e]
      exact hk.2 k hkk
    · have hi2 : i < if L.length = 8 then 7 else L.length := by split at hi <;> split at e <;> split <;> omega
      have hi3 : i + (if L.length = 8 then 1 else 0) < L.length := by split at hi2 <;> split <;> omega
      have e2 : ((q0 :: L).take 8).getD ((if L.length = 8 then 8 else L.length + 1) - 1 - i) q' = L.getD (L.length - 1 - (i + (if L.length = 8 then 1 else 0))) q0 := by
        rw [List.getD_eq_getElem?_getD, List.getD_eq_getElem?_getD, List.getElem?_take_of_lt (by split <;> omega)]
        have e3 : (if L.length = 8 then 8 else L.length + 1) - 1 - i = (L.length - 1 - (i + (if L.length = 8 then 1 else 0))) + 1 := by split at hi3 <;> split <;> simp_all <;> omega
        rw [e3, List.getElem?_cons_succ, List.getElem?_eq_getElem (by omega)]
        rfl
      rw [e2]
      exact RR_congr (h4 _ (by rw [List.getD_eq_getElem?_getD, List.getElem?_eq_getElem (by omega)]; exact List.getElem_mem _)).2.1 (fun k hkk => hk.1 i hi2 k hkk) (h3 _ hi3)
  · rcases List.mem_cons.mp (List.mem_of_mem_take hp) with e | e
    · rw [e]; exact ok
    · exact h4 p e
