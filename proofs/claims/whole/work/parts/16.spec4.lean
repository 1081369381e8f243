theorem stn_eq {q : St} (ok : QOK q) (s : Nat) : oN (q 0 1) (fun t => if q 6 t = s + 1 then 2 ^ t else 0) = stn q s := by
  refine (oN_cut ok.2.1 (fun k h1 h2 => ?_)).symm
  rw [if_neg (by rw [(ok.2.2.2.2.2.2.2.1 k h1 h2).1]; omega)]
theorem tls_eq {q : St} (ok : QOK q) {S : Nat} (hS : S < 2 ^ q 0 1) : lacks (oN (q 0 1) (fun t => if S.testBit t = true then 2 ^ q 5 t else 0)) 1 = tls q S := by
  have hlt : oN (q 0 1) (fun t => if S.testBit t = true then 2 ^ q 5 t else 0) < 4096 := oN_lt (w := 12) fun k hk => by
    have h5 := (ok.2.2.2.2.2.2.1 k (by have := ok.2.1; omega)).1
    split
    · exact Nat.lt_of_le_of_lt (Nat.pow_le_pow_right (by omega) h5) (by decide)
    · decide
  refine bits_eq fun i => ?_
  rw [lacks_bit hlt, Bool.and_eq_true, oN_bit, tls, oN_bit]
  have h1 : ((1 : Nat).testBit i = true) ↔ i = 0 := by
    rw [show (1 : Nat) = 2 ^ 0 from rfl, p2_bit]; simp; omega
  constructor
  · rintro ⟨⟨k, hk, hb⟩, h0⟩
    have h12 := ok.2.1
    refine ⟨k, by omega, ?_⟩
    split at hb
    · rename_i hbk
      rw [p2_bit] at hb
      have e : q 5 k = i := of_decide_eq_true hb
      have hne : q 5 k ≠ 0 := fun z => by
        rw [h1.mpr (by omega)] at h0
        cases h0
      rw [if_pos ⟨hbk, hne⟩, p2_bit]
      simpa using e
    · simp at hb
  · rintro ⟨k, hk, hb⟩
    split at hb
    · rename_i hbk
      rw [p2_bit] at hb
      have e : q 5 k = i := of_decide_eq_true hb
      refine ⟨⟨k, lt_of_bit hS hbk.1, by rw [if_pos hbk.1, p2_bit]; simpa using e⟩, ?_⟩
      cases hz : (1 : Nat).testBit i with
      | false => rfl
      | true => exact absurd (h1.mp hz) (by rw [← e]; exact hbk.2)
    · simp at hb
theorem tls_lt {q : St} (ok : QOK q) (S : Nat) : tls q S < 64 := oN_lt (w := 6) fun k hk => by
  have h5 := (ok.2.2.2.2.2.2.1 k hk).1
  split
  · exact Nat.lt_of_le_of_lt (Nat.pow_le_pow_right (by omega) h5) (by decide)
  · decide
theorem stn_lt {q : St} (ok : QOK q) (s : Nat) : stn q s < 2 ^ q 0 1 := by
  rw [← stn_eq ok]
  refine oN_lt fun k hk => ?_
  split
  · exact Nat.pow_lt_pow_right (by omega) hk
  · exact Nat.two_pow_pos _
/-- no pair, apart, together -/
def pk (q : St) (t u : Nat) : Nat := if (q 10 t).testBit u = true then 1 else if (q 11 t).testBit u = true then 2 else 0
theorem m1_ne0 {a : Nat} (h : a < 2 ^ 31) : ¬ (-1 : Int32) = nI a := fun z => by
  have e1 := congrArg Int32.toInt z
  rw [nI_toInt h, show (-1 : Int32).toInt = -1 from by decide] at e1
  omega
theorem pv_nI {p s : Nat} (hp : p ≤ 8) (hs : s < 100) : pv p = nI s ↔ p = s + 1 := by
  unfold pv
  split
  · rename_i h
    constructor
    · intro z; exact absurd z (m1_ne0 (by omega))
    · omega
  · rw [nI_eq (by omega) (by omega)]
    omega
