abbrev aNn (s : Nat → Int32) : Nat := (s 199).toNatClampNeg
abbrev aWn (s : Nat → Int32) : Nat := (s 200).toNatClampNeg
/-- the array as it always is -/
def aI (s : Nat → Int32) : Prop := aIa s (aNn s) (aWn s)
theorem aI_of {s : Nat → Int32} {N W : Nat} (h : aIa s N W) : aI s := by
  have e1 : aNn s = N := by
    show (s 199).toNatClampNeg = N
    rw [h.1.1, nI_clamp (by have := h.1.2; omega)]
  have e2 : aWn s = W := by
    show (s 200).toNatClampNeg = W
    rw [h.2.1.1, nI_clamp (by have := h.2.1.2; omega)]
  unfold aI
  rw [e1, e2]
  exact h
theorem aIa_bidder {s : Nat → Int32} {N W : Nat} {r c p v : Int32} (h : aIa s N W) : aI (aBidder s N r c p v).2.2 := by
  unfold aBidder
  by_cases q1 : aSeat r c = 0
  · rw [if_pos q1]; exact aI_of h
  · rw [if_neg q1]
    by_cases q2 : aIn p 0 999 = 0
    · rw [if_pos q2]; exact aI_of h
    · rw [if_neg q2]
      by_cases q3 : aIn v 1 9 = 0
      · rw [if_pos q3]; exact aI_of h
      · rw [if_neg q3]
        by_cases q4 : aFind s r c N 0 < 0
        · rw [if_pos q4]
          by_cases q5 : s 199 = 12
          · rw [if_pos q5]; exact aI_of h
          · rw [if_neg q5]
            have hN : N < 12 := by
              rcases Nat.lt_or_ge N 12 with q | q
              · exact q
              · exact absurd (by rw [h.1.1, show N = 12 by have := h.1.2; omega]; rfl) q5
            exact aI_of (aIa_bid h hN (aSeat_R q1).1 (aSeat_R q1).2 (aIn_R (a := 0) (b := 999) (by omega) (by omega) q2) q4)
        · rw [if_neg q4]; exact aI_of h
theorem aIa_setB {s : Nat → Int32} {N W cell : Nat} {b v : Int32} (h : aIa s N W) (hc : cell = 4 ∨ cell = 5) : aI (aSetB s b v cell).2.2 := by
  unfold aSetB
  by_cases q1 : aIs s b = 0
  · rw [if_pos q1]; exact aI_of h
  · rw [if_neg q1]
    by_cases q2 : aIn v 0 5 = 0
    · rw [if_pos q2]; exact aI_of h
    · rw [if_neg q2]
      obtain ⟨k, hk, -, hb⟩ := aIs_nat h.1.1 h.1.2 q1
      have hN := h.1.2
      rw [hb]
      rcases hc with rfl | rfl
      · exact aI_of (aIa_cold h (by omega) (aIn_R (a := 0) (b := 5) (by omega) (by omega) q2))
      · exact aI_of (aIa_irr (j := 11 * k + 5) (v := v) h (by unfold aRel; omega))
theorem aIa_lotQ {s : Nat → Int32} {N W : Nat} {r v : Int32} (h : aIa s N W) : aI (aLot s W r v).2.2 := by
  unfold aLot
  by_cases q1 : aIn r 1 99 = 0
  · rw [if_pos q1]; exact aI_of h
  · rw [if_neg q1]
    by_cases q2 : aIn v 1 20 = 0
    · rw [if_pos q2]; exact aI_of h
    · rw [if_neg q2]
      by_cases q3 : s 200 = 8
      · rw [if_pos q3]; exact aI_of h
      · rw [if_neg q3]
        have hW : W < 8 := by
          rcases Nat.lt_or_ge W 8 with q | q
          · exact q
          · exact absurd (by rw [h.2.1.1, show W = 8 by have := h.2.1.2; omega]; rfl) q3
        exact aI_of (aIa_lot h hW (aIn_R (a := 1) (b := 99) (by omega) (by omega) q1) (aIn_R (a := 1) (b := 20) (by omega) (by omega) q2))
theorem aIa_coughQ {s : Nat → Int32} {N W : Nat} {b : Int32} (h : aIa s N W) : aI (aCough s b).2.2 := by
  unfold aCough
  by_cases q1 : aIs s b = 0
  · rw [if_pos q1]; exact aI_of h
  · rw [if_neg q1]
    obtain ⟨k, hk, -, hb⟩ := aIs_nat h.1.1 h.1.2 q1
    rw [hb]
    exact aI_of (aIa_cgh h hk).1
theorem aIa_beatsQ {s : Nat → Int32} {N W : Nat} {m : Int32} (h : aIa s N W) : aI (aBeats s N m).2.2 := by
  unfold aBeats
  by_cases q1 : aIn m 1 50 = 0
  · rw [if_pos q1]; exact aI_of h
  · rw [if_neg q1]
    by_cases q2 : s 198 + m ≤ 9999
    · rw [if_pos q2]; exact aI_of (aIa_pass _ _ h)
    · rw [if_neg q2]; exact aI_of h
theorem aIa_upQ {s : Nat → Int32} {N W : Nat} (h : aIa s N W) : aI (aUp s W).2.2 := by
  unfold aUp
  by_cases q1 : s 148 = 1
  · rw [if_pos q1]; exact aI_of h
  · rw [if_neg q1]
    by_cases q2 : s 200 = 0
    · rw [if_pos q2]; exact aI_of h
    · rw [if_neg q2]
      have hW0 : 0 < W := by
        rcases Nat.eq_zero_or_pos W with q | q
        · exact absurd (by rw [h.2.1.1, q]; rfl) q2
        · exact q
      exact aI_of (aIa_up h hW0)
theorem aIa_ngtQ {s sp : Nat → Int32} {N W : Nat} (h : aIa s N W) : aI (aNgt s sp N).2.2 := by
  unfold aNgt
  by_cases q1 : s 148 = 1
  · rw [if_pos q1]; exact aI_of h
  · rw [if_neg q1]
    by_cases q2 : s 209 = 999
    · rw [if_pos q2]; exact aI_of h
    · rw [if_neg q2]; exact aI_of (aIa_night h)
theorem aIa_setQ {s : Nat → Int32} {N W : Nat} {k v : Int32} (h : aIa s N W) : aI (aSet s k v).2.2 := by
  unfold aSet
  by_cases q1 : aIn k 0 2 = 0
  · rw [if_pos q1]; exact aI_of h
  · rw [if_neg q1]
    by_cases q2 : aIn v 1 9 = 0
    · rw [if_pos q2]; exact aI_of h
    · rw [if_neg q2]
      obtain ⟨j, -, j2, -, j4⟩ := aIn_nat (a := 0) (b := 2) (by omega) (by omega) q1
      rw [j4]
      exact aI_of (aIa_irr (j := 212 + j) (v := v) h (by unfold aRel; omega))
