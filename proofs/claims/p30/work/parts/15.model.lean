def aUnS (pa : Nat → Int32) (q : Nat) : Nat → Int32 := fun j => pa (215 * q + j)
