theorem z_lt_nat {x : Int32} {W : Nat} (hW : W < 1000) (h1 : ¬ x < 0) (h2 : ¬ nI W ≤ x) : ∃ k, k < W ∧ x = nI k ∧ x.toNatClampNeg = k := by
  obtain ⟨k, hk, rfl⟩ := nI_of h1
  rw [nI_leI (by omega) hk] at h2
  exact ⟨k, by omega, rfl, nI_clamp hk⟩
def aBof (s : Nat → Int32) (b v : Int32) : Int32 :=
  if aIs s b = 0 then -1000001 else if aIn v 0 10 = 0 then -1000001
  else if 6 ≤ v then (if v = 6 then 100 + aLoud s b.toNatClampNeg else s (11 * b.toNatClampNeg + (v.toNatClampNeg - 1))) else s (11 * b.toNatClampNeg + v.toNatClampNeg)
def aAt (s : Nat → Int32) (N : Nat) (row seat : Int32) : Int32 := if aSeat row seat = 0 then -1000001 else aFind s row seat N 0
def aWhy (s : Nat → Int32) (b : Int32) : Int32 := if aIs s b = 0 then -1000001 else aBar s b.toNatClampNeg
def aWai (s : Nat → Int32) (p v : Int32) : Int32 := if p < 0 then -1000001 else if aIn v 0 1 = 0 then -1000001 else if s 200 ≤ p then -1000004 else s (132 + 2 * p.toNatClampNeg + v.toNatClampNeg)
def aBk2 (x v : Int32) : Int32 := if v = 2 then (if x ≤ 0 then -1000004 else x - 1) else x
def aBook (s : Nat → Int32) (p v : Int32) : Int32 := if p < 0 then -1000001 else if aIn v 0 4 = 0 then -1000001 else if p < s 210 then aBk2 (s (158 + 5 * p.toNatClampNeg + v.toNatClampNeg)) v else -1000004
def aCs (s : Nat → Int32) : Nat → Nat → Nat → Nat
  | 0, _, a => a
  | n + 1, k, a => if aNext s k = 0 then aCs s n (k + 1) a else aCs s n (k + 1) (a ||| 2 ^ k)
def aBp (s : Nat → Int32) : Nat → Nat → Int32 → Int32
  | 0, _, a => a
  | n + 1, k, a => aBp s n (k + 1) (a + (s (11 * k + 10) - s (11 * k + 2)))
def aLd (s : Nat → Int32) : Nat → Nat → Int32 → Int32
  | 0, _, b => b
  | n + 1, k, b => if b < 0 then aLd s n (k + 1) (nI k) else if aLoud s k ≤ aLoud s b.toNatClampNeg then aLd s n (k + 1) b else aLd s n (k + 1) (nI k)
def aUpQ (s : Nat → Int32) : Nat → Int32
  | 2 => if s 152 ≤ 0 then -1000004 else s 151
  | 3 => if s 152 ≤ 0 then -1000004 else s 152 - 1
  | 4 => s 153
  | 5 => s 154
  | 6 => aAsk s
  | 7 => s 155
  | 8 => s 156
  | n => s (149 + n)
def aUpV (s : Nat → Int32) (v : Int32) : Int32 := if aIn v 0 8 = 0 then -1000001 else if s 148 = 0 then -1000002 else aUpQ s v.toNatClampNeg
def aCntQ (s : Nat → Int32) (N : Nat) (pa ty : Int32) : Nat → Int32
  | 0 => s 198
  | 1 => s 199
  | 2 => s 200
  | 3 => s 148
  | 4 => s 201
  | 5 => s 202
  | 6 => s 203
  | 7 => s 204
  | 8 => s 205
  | 9 => aBp s N 0 0
  | 10 => s 206
  | 11 => s 207
  | 12 => s 208
  | 13 => nI (aCo s N 0 0)
  | 14 => s 209
  | 15 => s 210
  | 16 => pa
  | 17 => ty
  | 18 => s 211
  | 20 => s 212
  | 21 => s 213
  | 22 => s 214
  | _ => -1000001
def aCnt (s : Nat → Int32) (N : Nat) (pa ty v : Int32) : Int32 := if v.toInt < 0 ∨ 22 < v.toInt then -1000001 else aCntQ s N pa ty v.toNatClampNeg
theorem z_sw {v : Int32} {n : Nat} (hn : n < 1000) (h : ¬ (v.toInt < 0 ∨ (n : Int) < v.toInt)) : ∃ j, j ≤ n ∧ v = nI j ∧ v.toNatClampNeg = j := by
  have h0 : ¬ v < 0 := by
    rw [Int32.lt_iff_toInt_lt]
    have : (0 : Int32).toInt = 0 := by decide
    omega
  obtain ⟨j, hj, rfl⟩ := nI_of h0
  rw [nI_toInt hj] at h
  exact ⟨j, by omega, rfl, nI_clamp hj⟩
