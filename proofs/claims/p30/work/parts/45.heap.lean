-- the law's own arrays stand for w: cells 0 to 214 as the spec's, 215 the purses told
section LV
def jV (a i : Nat) : Nat := if a = 215 then 11 * (i / 5) + i % 5 else if a = 216 then 11 * (i / 5) + 5 + i % 5 else if a = 217 then 132 + i else if a = 218 then (if i = 9 then 148 else 149 + i) else if a = 219 then 158 + i else if i = 7 then 211 else if i = 14 then 215 else if i < 7 then 198 + i else 197 + i
def lV (a : Nat) : Nat := if a < 217 then 60 else if a = 217 then 16 else if a = 218 then 10 else if a = 219 then 40 else 18
def gV (g : zH) (w : Nat → Int32) : zH := fun a => if 215 ≤ a ∧ a < 221 then (fun i => if i < lV a then .int (w (jV a i)) else .int 0) else g a
theorem lV_le (a : Nat) : lV a ≤ 60 := by
  unfold lV
  repeat' split
  all_goals omega
theorem jV_a (i : Nat) : jV 215 i = 11 * (i / 5) + i % 5 := rfl
theorem jV_d (i : Nat) : jV 216 i = 11 * (i / 5) + 5 + i % 5 := rfl
theorem jV_q (i : Nat) : jV 217 i = 132 + i := rfl
theorem jV_u (i : Nat) : jV 218 i = if i = 9 then 148 else 149 + i := rfl
theorem jV_b (i : Nat) : jV 219 i = 158 + i := rfl
theorem jV_t (i : Nat) : jV 220 i = if i = 7 then 211 else if i = 14 then 215 else if i < 7 then 198 + i else 197 + i := rfl
/-- the array of a cell -/
def kV (j : Nat) : Nat := if j < 132 then (if j % 11 < 5 then 215 else 216) else if j < 148 then 217 else if j < 158 then 218 else if j < 198 then 219 else 220
theorem jV_k {a i : Nat} (ha : 215 ≤ a ∧ a < 221) (hi : i < lV a) : kV (jV a i) = a := by
  unfold kV
  rcases (show a = 215 ∨ a = 216 ∨ a = 217 ∨ a = 218 ∨ a = 219 ∨ a = 220 by omega) with rfl | rfl | rfl | rfl | rfl | rfl
  · have hi : i < 60 := hi
    rw [jV_a]
    rw [if_pos (by omega), if_pos (by omega)]
  · have hi : i < 60 := hi
    rw [jV_d]
    rw [if_pos (by omega), if_neg (by omega)]
  · have hi : i < 16 := hi
    rw [jV_q]
    rw [if_neg (by omega), if_pos (by omega)]
  · have hi : i < 10 := hi
    rw [jV_u]
    split
    · rfl
    · rw [if_neg (by omega), if_neg (by omega), if_pos (by omega)]
  · have hi : i < 40 := hi
    rw [jV_b]
    rw [if_neg (by omega), if_neg (by omega), if_neg (by omega), if_pos (by omega)]
  · have hi : i < 18 := hi
    rw [jV_t]
    repeat' split
    all_goals omega
theorem jV_i {a i j : Nat} (ha : 215 ≤ a ∧ a < 221) (hi : i < lV a) (hj : j < lV a) (e : jV a i = jV a j) : i = j := by
  rcases (show a = 215 ∨ a = 216 ∨ a = 217 ∨ a = 218 ∨ a = 219 ∨ a = 220 by omega) with rfl | rfl | rfl | rfl | rfl | rfl
  · rw [jV_a, jV_a] at e
    omega
  · rw [jV_d, jV_d] at e
    omega
  · rw [jV_q, jV_q] at e
    omega
  · have hi : i < 10 := hi
    have hj : j < 10 := hj
    rw [jV_u, jV_u] at e
    repeat' split at e
    all_goals omega
  · rw [jV_b, jV_b] at e
    omega
  · have hi : i < 18 := hi
    have hj : j < 18 := hj
    rw [jV_t, jV_t] at e
    repeat' split at e
    all_goals omega
theorem jV_inj {a i b j : Nat} (ha : 215 ≤ a ∧ a < 221) (hb : 215 ≤ b ∧ b < 221) (hi : i < lV a) (hj : j < lV b) (e : jV a i = jV b j) : a = b ∧ i = j := by
  have h1 := jV_k ha hi
  rw [e, jV_k hb hj] at h1
  subst h1
  exact ⟨rfl, jV_i ha hi hj e⟩
variable {g : zH} {w : Nat → Int32} {a i : Nat}
theorem gV_at (ha : 215 ≤ a ∧ a < 221) (hi : i < lV a) : gV g w a i = .int (w (jV a i)) := by
  unfold gV
  rw [if_pos ha]
  exact if_pos hi
theorem gV_z (ha : 215 ≤ a ∧ a < 221) (hi : ¬ i < lV a) : gV g w a i = .int 0 := by
  unfold gV
  rw [if_pos ha]
  exact if_neg hi
theorem gV_ot (ha : ¬ (215 ≤ a ∧ a < 221)) : gV g w a = g a := if_neg ha
theorem gV_up {x : Int32} (ha : 215 ≤ a ∧ a < 221) (hi : i < lV a) : va_up (gV g w) a (va_up (gV g w a) i (.int x)) = gV g (upd w (jV a i) x) := by
  funext b
  by_cases hb : b = a
  · subst hb
    rw [va_up_self]
    funext j
    by_cases hj : j = i
    · subst hj
      rw [va_up_self, gV_at ha hi, pk_us]
    · rw [va_up_ne _ _ hj]
      by_cases hl : j < lV b
      · rw [gV_at ha hl, gV_at ha hl, pk_un (fun e => hj (jV_i ha hl hi e))]
      · rw [gV_z ha hl, gV_z ha hl]
  · rw [va_up_ne _ _ hb]
    by_cases hc : 215 ≤ b ∧ b < 221
    · funext j
      by_cases hl : j < lV b
      · rw [gV_at hc hl, gV_at hc hl, pk_un (fun e => hb (jV_inj hc ha hl hi e).1)]
      · rw [gV_z hc hl, gV_z hc hl]
    · rw [gV_ot hc, gV_ot hc]
/-- what lies elsewhere changes -/
theorem gV_ou {f : Nat → Value} (ha : ¬ (215 ≤ a ∧ a < 221)) : va_up (gV g w) a f = gV (va_up g a f) w := by
  funext b
  by_cases hb : b = a
  · subst hb
    rw [va_up_self, gV_ot ha, va_up_self]
  · rw [va_up_ne _ _ hb]
    by_cases hc : 215 ≤ b ∧ b < 221
    · unfold gV
      rw [if_pos hc, if_pos hc]
    · rw [gV_ot hc, gV_ot hc, va_up_ne _ _ hb]
/-- a heap that has the law's arrays as they were -/
theorem gV_of {h : zH} (e : ∀ x, 215 ≤ x → h x = gV g w x) : h = gV h w := by
  funext b
  by_cases hc : 215 ≤ b ∧ b < 221
  · rw [e b hc.1]
    unfold gV
    rw [if_pos hc, if_pos hc]
  · rw [gV_ot hc]
variable {X : Nat × (Nat → Int32)} {M : zM} {n0 pc nz : Nat} {ls st : List Value} {Q : zQt}
/-- an element of the law's arrays -/
theorem l_ld {x v : Int32} (J : Nat) (hd : decode (zMb M) pc = .ok (.iaload, 1)) (ha : 215 ≤ a ∧ a < 221) (hS : zS a = (10, lV a)) (hz : 6 ≤ nz) (hi : x = nI i) (hin : i < lV a) (hJ : jV a i = J) (hv : w J = v) (kk : zJ X M n0 (pc + 1) ls (.int v :: st) (215 + nz) (gV g w) Q) : zJ X M n0 pc ls (.int x :: .ref a :: st) (215 + nz) (gV g w) Q :=
  j_iald hd hS (by omega) (z_vin hi hin (by have := lV_le a; omega)) (by rw [hi, z_cl (by have := lV_le a; omega), gV_at ha hin, hJ, hv]; rfl) kk
theorem l_st {x y : Int32} (J : Nat) (hd : decode (zMb M) pc = .ok (.iastore, 1)) (ha : 215 ≤ a ∧ a < 221) (hS : zS a = (10, lV a)) (hz : 6 ≤ nz) (hi : x = nI i) (hin : i < lV a) (hJ : jV a i = J) (kk : zJ X M n0 (pc + 1) ls st (215 + nz) (gV g (upd w J y)) Q) : zJ X M n0 pc ls (.int y :: .int x :: .ref a :: st) (215 + nz) (gV g w) Q :=
  j_iast hd hS (by omega) (z_vin hi hin (by have := lV_le a; omega)) (by rw [hi, z_cl (by have := lV_le a; omega), gV_up ha hin, hJ]; exact kk)
theorem jA {k j : Nat} (hj : j < 5) : jV 215 (5 * k + j) = 11 * k + j := by
  rw [jV_a]
  omega
theorem jA0 {k : Nat} : jV 215 (5 * k) = 11 * k + 0 := by
  rw [jV_a]
  omega
theorem jD {k j c : Nat} (hj : j < 5) (hc : 5 + j = c) : jV 216 (5 * k + j) = 11 * k + c := by
  rw [jV_d]
  omega
theorem jD0 {k : Nat} : jV 216 (5 * k) = 11 * k + 5 := by
  rw [jV_d]
  omega
theorem jU {i : Nat} (hi : i < 9) : jV 218 i = 149 + i := by
  rw [jV_u, if_neg (by omega)]
theorem jF {how : Nat} (hh : how ≤ 3) : jV 220 (4 + how) = aFc how := by
  rcases (show how = 0 ∨ how = 1 ∨ how = 2 ∨ how = 3 by omega) with rfl | rfl | rfl | rfl <;> rfl
end LV
