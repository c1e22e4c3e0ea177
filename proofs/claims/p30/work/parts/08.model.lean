theorem z_n {n : Nat} : (OfNat.ofNat n : Int32) = nI n := rfl
/-- is v from a to b -/
def aIn (v a b : Int32) : Int32 := if v < a then 0 else if b < v then 0 else 1
def aSeat (r c : Int32) : Int32 := if aIn r 0 5 = 0 then 0 else if aIn c 0 7 = 0 then 0 else 1
def aIs (s : Nat → Int32) (b : Int32) : Int32 := aIn b 0 (s 199 - 1)
def aLoud (s : Nat → Int32) (k : Nat) : Int32 := s (11 * k + 3) + s (11 * k + 4) - s (11 * k + 5) - s (11 * k + 0)
def aAsk (s : Nat → Int32) : Int32 := if s 152 ≤ 0 then s 149 else s 151 + s 150
def aBar (s : Nat → Int32) (k : Nat) : Int32 := if s 148 = 0 then 1 else if ¬ s 212 ≤ aLoud s k then 2 else if s 152 = nI k + 1 then 3 else if ¬ aAsk s ≤ s (11 * k + 2) then 4 else 0
