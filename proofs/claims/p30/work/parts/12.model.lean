theorem aIn_of {v a b : Int32} (h : ¬ aIn v a b = 0) : a ≤ v ∧ v ≤ b := by
  unfold aIn at h
  by_cases h1 : v < a
  · rw [if_pos h1] at h
    exact absurd rfl h
  · rw [if_neg h1] at h
    by_cases h2 : b < v
    · rw [if_pos h2] at h
      exact absurd rfl h
    · exact ⟨Int32.not_lt.mp h1, Int32.not_lt.mp h2⟩
theorem aIn_nat {v : Int32} {a b : Nat} (hb : b < 1000) (ha : a ≤ b) (h : ¬ aIn v (nI a) (nI b) = 0) : ∃ k, a ≤ k ∧ k ≤ b ∧ v = nI k ∧ v.toNatClampNeg = k := by
  obtain ⟨h1, h2⟩ := aIn_of h
  have h0 : ¬ v < 0 := by
    rw [Int32.le_iff_toInt_le, nI_toInt (by omega)] at h1
    rw [Int32.lt_iff_toInt_lt]
    intro q
    have : (0 : Int32).toInt = 0 := by decide
    omega
  obtain ⟨k, hk, rfl⟩ := nI_of h0
  rw [nI_leI (by omega) hk] at h1
  rw [nI_leI hk (by omega)] at h2
  exact ⟨k, h1, h2, rfl, nI_clamp hk⟩
theorem aIs_nat {s : Nat → Int32} {b : Int32} {N : Nat} (hn : s 199 = nI N) (hN : N ≤ 12) (h : ¬ aIs s b = 0) : ∃ k, k < N ∧ b = nI k ∧ b.toNatClampNeg = k := by
  unfold aIs at h
  rw [hn] at h
  rcases Nat.eq_zero_or_pos N with rfl | hp
  · obtain ⟨h1, h2⟩ := aIn_of h
    rw [Int32.le_iff_toInt_le] at h1 h2
    have e1 : (nI 0 - 1).toInt = -1 := by decide
    have e2 : (0 : Int32).toInt = 0 := by decide
    omega
  · obtain ⟨m, rfl⟩ : ∃ m, N = m + 1 := ⟨N - 1, by omega⟩
    rw [nI_pred] at h
    obtain ⟨k, h1, h2, h3, h4⟩ := aIn_nat (a := 0) (b := m) (by omega) (by omega) h
    exact ⟨k, by omega, h3, h4⟩
def aBid (s : Nat → Int32) (N : Nat) (row seat purse strength : Int32) : Nat → Int32 :=
  let t := upd s (11 * N + 0) row
  let t := upd t (11 * N + 1) seat
  let t := upd t (11 * N + 2) purse
  let t := upd t (11 * N + 3) strength
  let t := upd t (11 * N + 10) purse
  upd t 199 (t 199 + 1)
def aBidder (s : Nat → Int32) (N : Nat) (row seat purse strength : Int32) : Int32 × Bool × (Nat → Int32) :=
  if aSeat row seat = 0 then (-1000001, false, s) else if aIn purse 0 999 = 0 then (-1000001, false, s) else if aIn strength 1 9 = 0 then (-1000001, false, s)
  else if aFind s row seat N 0 < 0 then (if s 199 = 12 then (-1000003, false, s) else (nI N, true, aBid s N row seat purse strength)) else (-1000002, false, s)
def aSetB (s : Nat → Int32) (b v : Int32) (cell : Nat) : Int32 × Bool × (Nat → Int32) :=
  if aIs s b = 0 then (-1000001, false, s) else if aIn v 0 5 = 0 then (-1000001, false, s) else (s (11 * b.toNatClampNeg + cell), true, upd s (11 * b.toNatClampNeg + cell) v)
def aLotT (s : Nat → Int32) (W : Nat) (r v : Int32) : Nat → Int32 :=
  let t := upd s (132 + 2 * W) r
  let t := upd t (132 + 2 * W + 1) v
  let t := upd t 200 (t 200 + 1)
  upd t 201 (t 201 + 1)
def aLot (s : Nat → Int32) (W : Nat) (r v : Int32) : Int32 × Bool × (Nat → Int32) :=
  if aIn r 1 99 = 0 then (-1000001, false, s) else if aIn v 1 20 = 0 then (-1000001, false, s) else if s 200 = 8 then (-1000003, false, s) else (aLotT s W r v 200, true, aLotT s W r v)
def aCough (s : Nat → Int32) (b : Int32) : Int32 × Bool × (Nat → Int32) := if aIs s b = 0 then (-1000001, false, s) else ((aCgh s b.toNatClampNeg 0).1, true, (aCgh s b.toNatClampNeg 0).2)
def aBeats (s : Nat → Int32) (N : Nat) (many : Int32) : Int32 × Bool × (Nat → Int32) :=
  if aIn many 1 50 = 0 then (-1000001, false, s) else if s 198 + many ≤ 9999 then (aGone (aPass N many.toNatClampNeg s) - aGone s, true, aPass N many.toNatClampNeg s) else (-1000003, false, s)
def aSet (s : Nat → Int32) (k v : Int32) : Int32 × Bool × (Nat → Int32) :=
  if aIn k 0 2 = 0 then (-1000001, false, s) else if aIn v 1 9 = 0 then (-1000001, false, s) else (s (212 + k.toNatClampNeg), true, upd s (212 + k.toNatClampNeg) v)
def aZr (t : Nat → Int32) (k : Nat) : Nat → Int32 := fun j => if 151 ≤ j ∧ j < k then 0 else t j
theorem aZr_0 {t : Nat → Int32} : aZr t 151 = t := by
  funext j
  unfold aZr
  rw [if_neg (by omega)]
theorem aZr_up {t : Nat → Int32} {k : Nat} (h : 151 ≤ k) : upd (aZr t k) k 0 = aZr t (k + 1) := by
  funext j
  unfold upd aZr
  by_cases q : j = k
  · subst q
    rw [if_pos rfl, if_pos (by omega)]
  · rw [if_neg q]
    by_cases h2 : 151 ≤ j ∧ j < k
    · rw [if_pos h2, if_pos (by omega)]
    · rw [if_neg h2, if_neg (by omega)]
def aWs (t : Nat → Int32) (k : Nat) : Nat → Int32 := fun j => if 132 ≤ j ∧ j < 132 + k then t (j + 2) else t j
theorem aWs_0 {t : Nat → Int32} : aWs t 0 = t := by
  funext j
  unfold aWs
  rw [if_neg (by omega)]
theorem aWs_up {t : Nat → Int32} {k : Nat} : upd (aWs t k) (132 + k) (aWs t k (132 + k + 2)) = aWs t (k + 1) := by
  funext j
  unfold upd aWs
  by_cases q : j = 132 + k
  · subst q
    rw [if_pos rfl, if_neg (by omega), if_pos (by omega)]
  · rw [if_neg q]
    by_cases h2 : 132 ≤ j ∧ j < 132 + k
    · rw [if_pos h2, if_pos (by omega)]
    · rw [if_neg h2, if_neg (by omega)]
def aUp1 (s : Nat → Int32) : Nat → Int32 :=
  let t := upd s 148 1
  let t := upd t 149 (t 132)
  upd t 150 (t 133)
def aUp2 (t : Nat → Int32) : Nat → Int32 := upd t 200 (t 200 - 1)
def aUpT (s : Nat → Int32) (W : Nat) : Nat → Int32 := aWs (aUp2 (aZr (aUp1 s) 158)) (2 * (W - 1))
def aUp (s : Nat → Int32) (W : Nat) : Int32 × Bool × (Nat → Int32) := if s 148 = 1 then (-1000002, false, s) else if s 200 = 0 then (-1000002, false, s) else (aUpT s W 149, true, aUpT s W)
