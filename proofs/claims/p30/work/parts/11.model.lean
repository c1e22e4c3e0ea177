abbrev iA (f : Nat → Int32) : Nat → Value := fun k => .int (f k)
theorem arrV_congr {cA : ClassId} {n : Nat} {f g : Nat → Value} (h : ∀ k, k < n → f k = g k) : arrV cA n f = arrV cA n g := by
  unfold arrV
  congr 2
  funext j
  exact h j.val j.isLt
/-- what lies outside an array says nothing -/
theorem j_same {X : Nat × (Nat → Int32)} {M : zM} {n0 pc : Nat} {ls st : List Value} {nx : Nat} {h h' : zH} {Q : zQt} (he : ∀ a, a < nx → ∀ k, k < zZ a → h a k = h' a k) (kk : zJ X M n0 pc ls st nx h' Q) : zJ X M n0 pc ls st nx h Q := by
  intro p l e R s m args below meth c D cA b z H locs Qm la C hX hll hw hS hend
  refine kk p l e R s m args below meth c D cA b z H locs Qm la C hX hll ⟨hw.1, hw.2.1, fun k q hq => ?_⟩ hS hend
  obtain ⟨hk, rfl⟩ := zW_of hq
  have h1 := hw.2.2 k _ (zW_get (h := h) hk)
  have h2 := he k hk
  unfold zZ at h2
  by_cases hc : (zS k).1 < 10
  · rw [if_pos hc] at h2
    have e : zE cA b z k (h' k) = zE cA b z k (h k) := by
      rw [zE_obj rfl hc, zE_obj rfl hc]
      congr 2
      apply List.map_congr_left
      intro i hi
      rw [h2 i (List.mem_range.mp hi)]
    rw [e]
    exact h1
  · rw [if_neg hc] at h2
    by_cases hc2 : (zS k).1 < 12
    · have e0 : zS k = (10 + ((zS k).1 - 10), (zS k).2) := by
        apply Prod.ext
        · show (zS k).1 = 10 + ((zS k).1 - 10)
          omega
        · rfl
      rw [zE_num e0 (by omega)] at h1 ⊢
      show H[z + k]? = some (vp_cell _ _)
      have h3 : H[z + k]? = some (vp_cell _ _) := h1
      rw [h3, vp_cell_i, vp_cell_i]
      exact congrArg some (arrV_congr (fun i hi => by rw [h2 i hi]))
    · have e0 : zS k = (12 + ((zS k).1 - 12), (zS k).2) := by
        apply Prod.ext
        · show (zS k).1 = 12 + ((zS k).1 - 12)
          omega
        · rfl
      rw [zE_arr e0] at h1 ⊢
      show H[z + k]? = some (vp_cell _ _)
      have h3 : H[z + k]? = some (vp_cell _ _) := h1
      rw [h3, vp_cell_q, vp_cell_q]
      exact congrArg some (arrV_congr (fun i hi => by rw [h2 i hi]))
theorem up_up {α : Type} {h : Nat → α} {a : Nat} {f g : α} : va_up (va_up h a f) a g = va_up h a g := by
  funext b
  by_cases hb : b = a <;> simp [va_up, hb]
/-- s put at place q of the history, its first k cells -/
def aPut (pa : Nat → Int32) (q : Nat) (s : Nat → Int32) (k : Nat) : Nat → Int32 := fun j => if 215 * q ≤ j ∧ j < 215 * q + k then s (j - 215 * q) else pa j
/-- the history's oldest goes -/
def aSh (pa : Nat → Int32) (k : Nat) : Nat → Int32 := fun j => if j < k then pa (j + 215) else pa j
def aPa (pa : Nat → Int32) (p : Nat) (s : Nat → Int32) : Nat → Int32 := if p = 4 then aPut (aSh pa 645) 3 s 215 else aPut pa p s 215
def aPn (p : Nat) : Nat := if p = 4 then 4 else p + 1
