-- the text
section SX
/-- the script's objects: its ints f, its characters tx, its numbers nm -/
def gX (g : zH) (f tx nm : Nat → Int32) : zH := fun a => if a = 142 then (fun k => if k = 0 then .ref 143 else if k = 1 then .ref 144 else .int (f k)) else if a = 143 then iA tx else if a = 144 then iA nm else g a
variable {g : zH} {f tx nm : Nat → Int32} {k j T p : Nat} {x c : Int32}
theorem x_f (h : 2 ≤ k) : gX g f tx nm 142 k = .int (f k) := by
  show (if k = 0 then Value.ref 143 else if k = 1 then .ref 144 else .int (f k)) = _
  rw [if_neg (by omega), if_neg (by omega)]
theorem x_o {a : Nat} (h : a < 142 ∨ 144 < a) : gX g f tx nm a = g a := by
  unfold gX
  rw [if_neg (by omega), if_neg (by omega), if_neg (by omega)]
theorem x_au {B : Nat} (hB : aB B) {v : Nat → Nat → Int32} {q : Nat → Nat} : gX (gAu g B v q) f tx nm = gAu (gX g f tx nm) B v q := by
  funext a
  by_cases h : B ≤ a ∧ a < B + 35
  · rw [x_o (by unfold aB at hB; omega)]
    unfold gAu
    rw [if_pos h, if_pos h]
  · rw [zb_out (g := gX g f tx nm) (by omega)]
    unfold gX
    rw [zb_out (by omega)]
def aTx (tx : Nat → Int32) (T : Nat) : Prop := ∀ j, j < T → aR (tx j) 32 126
end SX
