variable {nz : Nat}
-- the class's side: an auction's block
section CB
/-- an array of ints by two numbers, changed at a place -/
def up2 (v : Nat → Nat → Int32) (o k : Nat) (x : Int32) : Nat → Nat → Int32 := fun a b => if a = o ∧ b = k then x else v a b
theorem up2_s {v : Nat → Nat → Int32} {o k : Nat} {x : Int32} : up2 v o k x o k = x := if_pos ⟨rfl, rfl⟩
theorem up2_n {v : Nat → Nat → Int32} {o k a b : Nat} {x : Int32} (h : a = o → b = k → False) : up2 v o k x a b = v a b := if_neg (fun q => h q.1 q.2)
theorem up2_sw {v : Nat → Nat → Int32} {o k o' k' : Nat} {x y : Int32} (h : o = o' → k = k' → False) : up2 (up2 v o k x) o' k' y = up2 (up2 v o' k' y) o k x := by
  funext a b
  unfold up2
  by_cases h1 : a = o' ∧ b = k'
  · rw [if_pos h1, if_neg (fun q => h (q.1.symm.trans h1.1) (q.2.symm.trans h1.2)), if_pos h1]
  · rw [if_neg h1, if_neg h1]
theorem upd_sw {s : Nat → Int32} {k j : Nat} {x y : Int32} (h : k ≠ j) : upd (upd s k x) j y = upd (upd s j y) k x := by
  funext a
  by_cases h1 : a = j
  · subst h1
    rw [upd_s, upd_n (Ne.symm h), upd_s]
  · rw [upd_n h1]
    by_cases h2 : a = k
    · subst h2
      rw [upd_s, upd_s]
    · rw [upd_n h2, upd_n h2, upd_n h1]
theorem va_s {α : Type} {f : Nat → α} {k : Nat} {x : α} : va_up f k x k = x := va_up_self _ _ _
theorem va_n {α : Type} {f : Nat → α} {k j : Nat} {x : α} (h : j ≠ k) : va_up f k x j = f j := va_up_ne _ _ h
/-- the place o of the block at B: v o k for the ints, p i for where the lot at the place i lies (0 to 7 those that wait, 8 to 15 the book, 16 the lot that is up) -/
def tB (B : Nat) (v : Nat → Nat → Int32) (p : Nat → Nat) (o : Nat) : Nat → Value := fun k =>
  if o = 0 then (if k = 9 then .ref (B + p 16) else if 4 < k then .int (v 0 k) else .ref (B + (if k = 0 then 1 else if k = 1 then 14 else if k = 2 then 23 else if k = 3 then 32 else 33)))
  else if o = 1 then .ref (B + (2 + k)) else if o = 14 then .ref (B + (if k < 8 then p k else 15)) else if o = 23 then .ref (B + (if k < 8 then p (8 + k) else 15)) else .int (v o k)
def gAu (g : zH) (B : Nat) (v : Nat → Nat → Int32) (p : Nat → Nat) : zH := fun a => if B ≤ a ∧ a < B + 35 then tB B v p (a - B) else g a
def aB (B : Nat) : Prop := B = 2 ∨ B = 37 ∨ B = 72 ∨ B = 107 ∨ B = 145 ∨ B = 180
theorem aB_lt {B o : Nat} (h : aB B) (ho : o < 35) : B + o < (215 + nz) := by unfold aB at h; omega
theorem aB_l0 {B : Nat} (h : aB B) : B < (215 + nz) := by unfold aB at h; omega
theorem aB_S {B o : Nat} (h : aB B) (ho : o < 35) : zS (B + o) = zA o := by
  unfold aB at h
  rcases h with rfl | rfl | rfl | rfl | rfl | rfl <;> unfold zS
  · rw [if_neg (by omega), if_neg (by omega), if_pos (by omega)]
    exact congrArg zA (by omega)
  · rw [if_neg (by omega), if_neg (by omega), if_pos (by omega)]
    exact congrArg zA (by omega)
  · rw [if_neg (by omega), if_neg (by omega), if_pos (by omega)]
    exact congrArg zA (by omega)
  · rw [if_neg (by omega), if_neg (by omega), if_pos (by omega)]
    exact congrArg zA (by omega)
  · rw [if_neg (by omega), if_neg (by omega), if_neg (by omega), if_neg (by omega), if_neg (by omega), if_neg (by omega), if_pos (by omega)]
    exact congrArg zA (by omega)
  · rw [if_neg (by omega), if_neg (by omega), if_neg (by omega), if_neg (by omega), if_neg (by omega), if_neg (by omega), if_pos (by omega)]
    exact congrArg zA (by omega)
theorem aB_S0 {B : Nat} (h : aB B) : (zS B).1 = 0 := congrArg Prod.fst (aB_S (o := 0) h (by omega))
/-- where a lot lies -/
def aL (o : Nat) : Prop := (15 ≤ o ∧ o < 23) ∨ (24 ≤ o ∧ o < 32) ∨ o = 34
theorem aL_lt {o : Nat} (h : aL o) : o < 35 := by unfold aL at h; omega
theorem zA_L {o : Nat} (h : aL o) : zA o = (2, 0) := by
  unfold aL at h
  unfold zA
  repeat' split
  all_goals first | rfl | omega
theorem zA_b {k : Nat} (h : k < 12) : zA (2 + k) = (1, 0) := by
  unfold zA
  repeat' split
  all_goals first | rfl | omega
theorem aB_Sb {B k : Nat} (h : aB B) (hk : k < 12) : (zS (B + (2 + k))).1 = 1 := by rw [aB_S h (by omega), zA_b hk]
theorem aB_SL {B o : Nat} (h : aB B) (ho : aL o) : (zS (B + o)).1 = 2 := by rw [aB_S h (aL_lt ho), zA_L ho]
/-- the cells of ints -/
def tI (o k : Nat) : Prop := o < 35 ∧ ¬ o = 1 ∧ ¬ o = 14 ∧ ¬ o = 23 ∧ (o = 0 → 4 < k ∧ ¬ k = 9)
theorem tI_b {k j : Nat} (h : k < 12) : tI (2 + k) j := by unfold tI; omega
theorem tI_L {o k : Nat} (h : aL o) : tI o k := by unfold aL at h; unfold tI; omega
variable {g : zH} {B o k : Nat} {v : Nat → Nat → Int32} {p : Nat → Nat}
theorem zb_at (ho : o < 35) : gAu g B v p (B + o) = tB B v p o := by
  unfold gAu
  rw [if_pos (by omega), Nat.add_sub_cancel_left]
theorem zb_a0 : gAu g B v p B = tB B v p 0 := zb_at (o := 0) (by omega)
theorem zb_out {a : Nat} (h : a < B ∨ B + 35 ≤ a) : gAu g B v p a = g a := by
  unfold gAu
  rw [if_neg (by omega)]
theorem tB_int (h : tI o k) : tB B v p o k = .int (v o k) := by
  unfold tI at h
  unfold tB
  by_cases h0 : o = 0
  · subst h0
    rw [if_pos rfl, if_neg (by omega), if_pos (by omega)]
  · rw [if_neg h0, if_neg (by omega), if_neg (by omega), if_neg (by omega)]
theorem zb_int (h : tI o k) : gAu g B v p (B + o) k = .int (v o k) := by rw [zb_at h.1, tB_int h]
theorem zb_int0 (h : tI 0 k) : gAu g B v p B k = .int (v 0 k) := zb_int (o := 0) h
theorem gAu_up (ho : o < 35) {f : Nat → Value} {v' : Nat → Nat → Int32} {p' : Nat → Nat} (h1 : f = tB B v' p' o) (h2 : ∀ a, a < 35 → a ≠ o → tB B v p a = tB B v' p' a) : va_up (gAu g B v p) (B + o) f = gAu g B v' p' := by
  funext a
  by_cases ha : a = B + o
  · subst ha
    rw [va_s, zb_at ho, h1]
  · rw [va_n ha]
    unfold gAu
    by_cases hb : B ≤ a ∧ a < B + 35
    · rw [if_pos hb, if_pos hb]
      exact h2 _ (by omega) (by omega)
    · rw [if_neg hb, if_neg hb]
theorem tB_v {v' : Nat → Nat → Int32} {a : Nat} (h : ∀ k, tI a k → v a k = v' a k) (ha : a < 35) : tB B v p a = tB B v' p a := by
  funext k
  by_cases hi : tI a k
  · rw [tB_int hi, tB_int hi, h k hi]
  · unfold tI at hi
    unfold tB
    by_cases h0 : a = 0
    · subst h0
      rw [if_pos rfl, if_pos rfl]
      by_cases h9 : k = 9
      · rw [if_pos h9, if_pos h9]
      · rw [if_neg h9, if_neg h9, if_neg (show ¬ 4 < k by omega), if_neg (show ¬ 4 < k by omega)]
    · rw [if_neg h0, if_neg h0]
      by_cases h1 : a = 1
      · rw [if_pos h1, if_pos h1]
      · rw [if_neg h1, if_neg h1]
        by_cases h14 : a = 14
        · rw [if_pos h14, if_pos h14]
        · rw [if_neg h14, if_neg h14, if_pos (show a = 23 by omega), if_pos (show a = 23 by omega)]
theorem zb_wr {x : Int32} (h : tI o k) : va_up (gAu g B v p) (B + o) (va_up (gAu g B v p (B + o)) k (.int x)) = gAu g B (up2 v o k x) p := by
  refine gAu_up h.1 ?_ (fun a ha hn => tB_v (fun k' _ => (up2_n (fun q _ => hn q)).symm) ha)
  rw [zb_at h.1]
  funext b
  by_cases hb : b = k
  · subst hb
    rw [va_s, tB_int h, up2_s]
  · rw [va_n hb]
    exact congrFun (f := tB B v p o) (g := fun b => if b = k then tB B v p o b else tB B (up2 v o k x) p o b) (by
      funext b
      by_cases hb : b = k
      · rw [if_pos hb]
      · rw [if_neg hb]
        by_cases hi : tI o b
        · rw [tB_int hi, tB_int hi, up2_n (fun _ q => hb q)]
        · have hi' := hi
          unfold tI at hi
          have hoo := h
          unfold tI at hoo
          have h0 : o = 0 := by omega
          subst h0
          unfold tB
          rw [if_pos rfl, if_pos rfl]
          by_cases h9 : b = 9
          · rw [if_pos h9, if_pos h9]
          · rw [if_neg h9, if_neg h9, if_neg (show ¬ 4 < b by omega), if_neg (show ¬ 4 < b by omega)]) b |>.trans (if_neg hb)
theorem zb_wr0 {x : Int32} (h : tI 0 k) : va_up (gAu g B v p) B (va_up (gAu g B v p B) k (.int x)) = gAu g B (up2 v 0 k x) p := zb_wr (o := 0) h
-- the pointers
theorem zb_p0 : gAu g B v p B 0 = .ref (B + 1) := by rw [zb_a0]; rfl
theorem zb_p1 : gAu g B v p B 1 = .ref (B + 14) := by rw [zb_a0]; rfl
theorem zb_p2 : gAu g B v p B 2 = .ref (B + 23) := by rw [zb_a0]; rfl
theorem zb_p3 : gAu g B v p B 3 = .ref (B + 32) := by rw [zb_a0]; rfl
theorem zb_p4 : gAu g B v p B 4 = .ref (B + 33) := by rw [zb_a0]; rfl
theorem zb_p9 : gAu g B v p B 9 = .ref (B + p 16) := by rw [zb_a0]; rfl
theorem zb_bd : gAu g B v p (B + 1) k = .ref (B + (2 + k)) := by rw [zb_at (by omega)]; rfl
theorem zb_qu (h : k < 8) : gAu g B v p (B + 14) k = .ref (B + p k) := by
  rw [zb_at (by omega)]
  show Value.ref (B + (if k < 8 then p k else 15)) = _
  rw [if_pos h]
theorem zb_go (h : k < 8) : gAu g B v p (B + 23) k = .ref (B + p (8 + k)) := by
  rw [zb_at (by omega)]
  show Value.ref (B + (if k < 8 then p (8 + k) else 15)) = _
  rw [if_pos h]
theorem tB_p {p' : Nat → Nat} {a : Nat} (h0 : a = 0 → p 16 = p' 16) (h14 : a = 14 → ∀ k, k < 8 → p k = p' k) (h23 : a = 23 → ∀ k, k < 8 → p (8 + k) = p' (8 + k)) : tB B v p a = tB B v p' a := by
  funext k
  unfold tB
  by_cases q0 : a = 0
  · rw [if_pos q0, if_pos q0, h0 q0]
  · rw [if_neg q0, if_neg q0]
    by_cases q1 : a = 1
    · rw [if_pos q1, if_pos q1]
    · rw [if_neg q1, if_neg q1]
      by_cases q14 : a = 14
      · rw [if_pos q14, if_pos q14]
        by_cases hk : k < 8
        · rw [if_pos hk, if_pos hk, h14 q14 k hk]
        · rw [if_neg hk, if_neg hk]
      · rw [if_neg q14, if_neg q14]
        by_cases q23 : a = 23
        · rw [if_pos q23, if_pos q23]
          by_cases hk : k < 8
          · rw [if_pos hk, if_pos hk, h23 q23 k hk]
          · rw [if_neg hk, if_neg hk]
        · rw [if_neg q23, if_neg q23]
theorem zb_pr : va_up (gAu g B v p) B (va_up (gAu g B v p B) 9 (.ref (B + o))) = gAu g B v (va_up p 16 o) := by
  refine gAu_up (o := 0) (by omega) ?_ (fun a ha hn => tB_p (fun q => absurd q hn) (fun _ k hk => (va_n (by omega)).symm) (fun _ k hk => (va_n (by omega)).symm))
  rw [zb_a0]
  funext b
  by_cases hb : b = 9
  · subst hb
    rw [va_s]
    show _ = Value.ref (B + va_up p 16 o 16)
    rw [va_s]
  · rw [va_n hb]
    unfold tB
    rw [if_pos rfl, if_pos rfl, if_neg hb, if_neg hb]
theorem zb_pq {j : Nat} (hj : j < 8) : va_up (gAu g B v p) (B + 14) (va_up (gAu g B v p (B + 14)) j (.ref (B + o))) = gAu g B v (va_up p j o) := by
  refine gAu_up (by omega) ?_ (fun a ha hn => tB_p (fun _ => (va_n (by omega)).symm) (fun q => absurd q hn) (fun _ k hk => (va_n (by omega)).symm))
  rw [zb_at (by omega)]
  funext b
  show va_up (tB B v p 14) j (.ref (B + o)) b = Value.ref (B + (if b < 8 then va_up p j o b else 15))
  by_cases hb : b = j
  · subst hb
    rw [va_s, if_pos hj, va_s]
  · rw [va_n hb, va_n hb]
    rfl
theorem zb_pg {j : Nat} (hj : j < 8) : va_up (gAu g B v p) (B + 23) (va_up (gAu g B v p (B + 23)) j (.ref (B + o))) = gAu g B v (va_up p (8 + j) o) := by
  refine gAu_up (by omega) ?_ (fun a ha hn => tB_p (fun _ => (va_n (by omega)).symm) (fun _ k hk => (va_n (by omega)).symm) (fun q => absurd q hn))
  rw [zb_at (by omega)]
  funext b
  show va_up (tB B v p 23) j (.ref (B + o)) b = Value.ref (B + (if b < 8 then va_up p (8 + j) o (8 + b) else 15))
  by_cases hb : b = j
  · subst hb
    rw [va_s, if_pos hj, va_s]
  · rw [va_n hb, va_n (by omega)]
    rfl
end CB
