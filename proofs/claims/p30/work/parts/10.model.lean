theorem upd_s {f : Nat → Int32} {k : Nat} {x : Int32} : upd f k x k = x := by simp [upd]
theorem upd_n {f : Nat → Int32} {k j : Nat} {x : Int32} (h : j ≠ k) : upd f k x j = f j := by simp [upd, h]
/-- whose the latest bid is -/
def aWho (s : Nat → Int32) : Nat := (s 152).toNatClampNeg - 1
def aWk (s : Nat → Int32) : Prop := aWho s < 12 ∧ (s 152 = 0 ∨ s 152 = nI (aWho s + 1))
theorem aWho_sub {s : Nat → Int32} (hw : aWk s) (h : ¬ s 152 = 0) : s 152 - 1 = nI (aWho s) := by
  rcases hw.2 with q | q
  · exact absurd q h
  · rw [q]
    exact nI_pred _
def aH1 (s : Nat → Int32) (j : Nat) : Nat → Int32 :=
  let t := upd s (11 * j + 2) (s (11 * j + 2) + (0 - s 151))
  let t := upd t (11 * j + 9) (t (11 * j + 9) + t 151)
  let t := upd t (11 * j + 8) (t (11 * j + 8) + 1)
  upd t 205 (t 205 + t 151)
def aHam (s : Nat → Int32) : Nat → Int32 := if s 152 = 0 then aGo s 2 else if s 156 = 1 then aGo s 3 else aGo (aH1 s (aWho s)) 0
def aBf (t : Nat → Int32) : Nat → Int32 := if upd t 157 0 154 < upd t 157 0 214 then upd t 157 0 else aHam (upd t 157 0)
def aBg (t : Nat → Int32) : Nat → Int32 := if t 148 = 1 then (if t 157 = 1 then aBf (upd t 154 0) else aBf (upd t 154 (t 154 + 1))) else t
/-- a beat's end: it is counted, the hush, the hammer -/
def aBe (s : Nat → Int32) : Nat → Int32 := aBg (upd s 198 (s 198 + 1))
/-- coughs for a cold, of n bidders from k on -/
def aBt : Nat → Nat → Int32 → (Nat → Int32) → (Nat → Int32)
  | 0, _, _, s => s
  | n + 1, k, u, s => if u = 0 then s else if aNext s k = 0 then aBt n (k + 1) u s else if (aCgh s k 1).1 < 0 then aBt n (k + 1) 0 (aCgh s k 1).2 else aBt n (k + 1) 1 (aCgh s k 1).2
def aBeat (s : Nat → Int32) (N : Nat) : Nat → Int32 := if s 148 = 1 then aBe (aBt N 0 1 s) else aBe (aBt N 0 0 s)
/-- what the beats need of the array: how many bidders, no cold of 7, whose the latest bid is -/
def aOk (s : Nat → Int32) (N : Nat) : Prop := s 199 = nI N ∧ N ≤ 12 ∧ (∀ k, k < 12 → ¬ 7 - s (11 * k + 4) = 0) ∧ aWk s
theorem aShf_lo {s : Nat → Int32} {k j : Nat} (h : j ≤ 158 ∨ 198 ≤ j) : aShf s k j = s j := by
  unfold aShf
  rw [if_neg (by omega)]
theorem aGo_n {s : Nat → Int32} {how j : Nat} (hh : how ≤ 3) (h1 : j < 158 ∨ 198 ≤ j) (h2 : j ≠ 148) (h3 : j < 202 ∨ 205 < j) (h4 : j ≠ 210 ∧ j ≠ 211) : aGo s how j = s j := by
  have e1 : aGo1 (aShf s 4) how j = s j := by
    unfold aGo1
    rw [upd_n (by omega), upd_n (by omega), upd_n (by omega), upd_n (by omega), upd_n (by omega), aShf_lo (by omega)]
  have e3 : ∀ t : Nat → Int32, aGo3 t how j = t j := by
    intro t
    unfold aGo3
    split
    · rw [upd_n (by omega), upd_n (by omega)]
    · rw [upd_n (by omega), upd_n (by omega)]
  unfold aGo aGo2
  split
  · rw [e3, upd_n (by omega), e1]
  · rw [e3, upd_n (by omega), e1]
theorem aC1_n {s : Nat → Int32} {k j : Nat} (h : j ≠ 11 * k + 6) (h2 : j ≠ 206) : aC1 s k j = s j := by
  unfold aC1
  rw [upd_n (by omega), upd_n (by omega)]
theorem aC2_n {s : Nat → Int32} {k j : Nat} {c : Int32} (h : j ≠ 11 * k + 7) (h1 : j ≠ 151) (h2 : j < 155 ∨ 157 < j) (h3 : j ≠ 207) (h4 : j ≠ 152) : aC2 s k c j = s j := by
  unfold aC2
  rw [upd_n (by omega), upd_n (by omega), upd_n (by omega), upd_n (by omega), upd_n (by omega), upd_n (by omega), upd_n (by omega)]
theorem aC2_152 {s : Nat → Int32} {k : Nat} {c : Int32} (hk : k < 12) : aC2 s k c 152 = nI k + 1 := by
  unfold aC2
  rw [upd_n (by omega), upd_n (by omega), upd_n (by omega), upd_n (by omega), upd_n (by omega), upd_s]
theorem aC3_n {s : Nat → Int32} {j : Nat} (h : j ≠ 153) (h2 : j ≠ 208) : aC3 s j = s j := by
  unfold aC3
  rw [upd_n (by omega), upd_n (by omega)]
theorem aC4_n {s : Nat → Int32} {j : Nat} (h1 : j < 158 ∨ 198 ≤ j) (h2 : j ≠ 148) (h3 : j < 202 ∨ 205 < j) (h4 : j ≠ 210 ∧ j ≠ 211) : (aC4 s).2 j = s j := by
  unfold aC4
  split
  · rfl
  · exact aGo_n (by omega) h1 h2 h3 h4
theorem aC5_n {s : Nat → Int32} {k j : Nat} (h1 : j < 158 ∨ 198 ≤ j) (h2 : j ≠ 148) (h3 : j < 202 ∨ 205 < j) (h4 : j ≠ 210 ∧ j ≠ 211) (h5 : j ≠ 153) (h6 : j ≠ 208) : (aC5 s k).2 j = s j := by
  unfold aC5
  split
  · rfl
  · rw [aC4_n h1 h2 h3 h4, aC3_n h5 h6]
theorem aCgh_n {s : Nat → Int32} {k j : Nat} {c : Int32} (h1 : j < 148 ∨ 198 ≤ j) (h3 : j < 202 ∨ 208 < j) (h4 : j ≠ 210 ∧ j ≠ 211) (h5 : j ≠ 11 * k + 6) (h6 : j ≠ 11 * k + 7) : (aCgh s k c).2 j = s j := by
  unfold aCgh
  split
  · rw [aC5_n (by omega) (by omega) (by omega) h4 (by omega) (by omega), aC2_n h6 (by omega) (by omega) (by omega) (by omega), aC1_n h5 (by omega)]
  · exact aC1_n h5 (by omega)
theorem aCgh_152 {s : Nat → Int32} {k : Nat} {c : Int32} (hk : k < 12) : (aCgh s k c).2 152 = nI (k + 1) ∨ (aCgh s k c).2 152 = s 152 := by
  unfold aCgh
  split
  · left
    rw [aC5_n (by omega) (by omega) (by omega) (by omega) (by omega) (by omega), aC2_152 hk]
    exact nI_1 k
  · right
    exact aC1_n (j := 152) (k := k) (by omega) (by omega)
theorem aWk_of {s t : Nat → Int32} (hw : aWk s) (h : t 152 = s 152) : aWk t := by
  unfold aWk aWho at hw ⊢
  rw [h]
  exact hw
theorem aWk_k {t : Nat → Int32} {k : Nat} (hk : k < 12) (h : t 152 = nI (k + 1)) : aWk t := by
  unfold aWk aWho
  rw [h, nI_clamp (by omega)]
  exact ⟨by omega, Or.inr rfl⟩
theorem aOk_cgh {s : Nat → Int32} {N k : Nat} {c : Int32} (h : aOk s N) (hk : k < 12) : aOk (aCgh s k c).2 N := by
  refine ⟨?_, h.2.1, fun j hj => ?_, ?_⟩
  · rw [aCgh_n (by omega) (by omega) (by omega) (by omega) (by omega)]
    exact h.1
  · rw [aCgh_n (by omega) (by omega) (by omega) (by omega) (by omega)]
    exact h.2.2.1 j hj
  · rcases aCgh_152 (s := s) (c := c) hk with q | q
    · exact aWk_k hk q
    · exact aWk_of h.2.2.2 q
def aPass (N : Nat) : Nat → (Nat → Int32) → (Nat → Int32)
  | 0, s => s
  | n + 1, s => aPass N n (aBeat s N)
def aGone (s : Nat → Int32) : Int32 := s 202 + s 203 + s 204 + s 211
