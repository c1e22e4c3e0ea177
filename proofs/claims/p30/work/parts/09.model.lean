theorem z_inc {k : Nat} : nI k + Int32.ofInt 1 = nI (k + 1) := nI_1 k
theorem z_dec {k : Nat} (h : 0 < k) : nI k + Int32.ofInt (-1) = nI (k - 1) := by
  obtain ⟨j, rfl⟩ : ∃ j, k = j + 1 := ⟨k - 1, by omega⟩
  exact pk_m1 j
/-- the first of n bidders from k on who sits there -/
def aFind (s : Nat → Int32) (row seat : Int32) : Nat → Nat → Int32
  | 0, _ => -1000004
  | n + 1, k => if s (11 * k + 0) = row then (if s (11 * k + 1) = seat then nI k else aFind s row seat n (k + 1)) else aFind s row seat n (k + 1)
/-- the book makes room -/
def aShf (s : Nat → Int32) (k : Nat) : Nat → Int32 := fun j => if 158 + k < j ∧ j < 198 then s (j - 5) else s j
theorem aShf_39 {s : Nat → Int32} : aShf s 39 = s := by
  funext j
  unfold aShf
  rw [if_neg (by omega)]
theorem aShf_up {s : Nat → Int32} {k : Nat} (h1 : 5 ≤ k) (h2 : k ≤ 39) : upd (aShf s k) (158 + k) (aShf s k (158 + k - 5)) = aShf s (k - 1) := by
  funext j
  unfold upd aShf
  by_cases h : j = 158 + k
  · subst h
    rw [if_pos rfl, if_neg (by omega), if_pos (by omega)]
  · rw [if_neg h]
    by_cases h3 : 158 + k < j ∧ j < 198
    · rw [if_pos h3, if_pos (by omega)]
    · rw [if_neg h3, if_neg (by omega)]
def aGo1 (t : Nat → Int32) (how : Nat) : Nat → Int32 :=
  let t := upd t 158 (nI how)
  let t := upd t 159 (t 151)
  let t := upd t 160 (t 152)
  let t := upd t 161 (t 153)
  upd t 162 (t 155)
def aGo3 (t : Nat → Int32) (how : Nat) : Nat → Int32 := if nI how = 3 then upd (upd t 211 (t 211 + 1)) 148 0 else upd (upd t (202 + how) (t (202 + how) + 1)) 148 0
def aGo2 (t : Nat → Int32) (how : Nat) : Nat → Int32 := if 8 ≤ t 210 then aGo3 (upd t 210 (t 210 + 0)) how else aGo3 (upd t 210 (t 210 + 1)) how
/-- the lot that is up goes: 0 sold, 1 withdrawn, 2 without a bid, 3 for a cold -/
def aGo (s : Nat → Int32) (how : Nat) : Nat → Int32 := aGo2 (aGo1 (aShf s 4) how) how
def aC1 (s : Nat → Int32) (k : Nat) : Nat → Int32 :=
  let t := upd s (11 * k + 6) (s (11 * k + 6) + 1)
  upd t 206 (t 206 + 1)
def aC2 (t : Nat → Int32) (k : Nat) (c : Int32) : Nat → Int32 :=
  let t := upd t 151 (aAsk t)
  let t := upd t 152 (nI k + 1)
  let t := upd t 156 c
  let t := upd t 157 1
  let t := upd t 155 (t 155 + 1)
  let t := upd t 207 (t 207 + 1)
  upd t (11 * k + 7) (t (11 * k + 7) + 1)
def aC3 (t : Nat → Int32) : Nat → Int32 :=
  let t := upd t 153 (t 153 + 1)
  upd t 208 (t 208 + 1)
def aC4 (t : Nat → Int32) : Int32 × (Nat → Int32) := if t 153 < t 213 then (t 151, t) else (aGo t 1 151, aGo t 1)
def aC5 (t : Nat → Int32) (k : Nat) : Int32 × (Nat → Int32) := if t (11 * k + 4) ≤ t (11 * k + 3) then (t 151, t) else aC4 (aC3 t)
/-- a cough: the bid, 0 if it is none, and what is then -/
def aCgh (s : Nat → Int32) (k : Nat) (c : Int32) : Int32 × (Nat → Int32) := if aBar s k ≤ 0 then aC5 (aC2 (aC1 s k) k c) k else (0, aC1 s k)
/-- does a bidder cough for a cold in the next beat -/
def aNext (s : Nat → Int32) (k : Nat) : Int32 := if s (11 * k + 4) ≤ 0 then 0 else if s 198 + nI k - (s 198 + nI k) / (7 - s (11 * k + 4)) * (7 - s (11 * k + 4)) = 0 then 1 else 0
