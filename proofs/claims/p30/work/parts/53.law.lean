section L8
variable {s t w : Nat → Int32} {N W K k how j : Nat} {c : Int32}
def lK1 (j : Nat) : Prop := j = 199 ∨ j = 215 ∨ j = 209 ∨ (j < 132 ∧ j % 11 = 10)
theorem lGo_k (hh : how ≤ 3) (hj : lK1 j ∨ j = 156 ∨ j = 198) : aGo s how j = s j := by
  unfold lK1 at hj
  exact aGo_n hh (by omega) (by omega) (by omega) (by omega)
theorem lCgh_k (hk : k < 12) (hj : lK1 j ∨ j = 198) : (aCgh s k c).2 j = s j := by
  unfold lK1 at hj
  exact aCgh_n (by omega) (by omega) (by omega) (by omega) (by omega)
theorem lH1_k (hk : k < 12) (hj : lK1 j ∨ j = 156 ∨ j = 198 ∨ j = 148 ∨ j = 152 ∨ j = 210 ∨ j = 202 ∨ j = 203 ∨ j = 204 ∨ j = 211 ∨ (160 ≤ j ∧ j < 198)) : aH1 s k j = s j := by
  unfold lK1 at hj
  unfold aH1
  rw [pk_un (by omega), pk_un (by omega), pk_un (by omega), pk_un (by omega)]
theorem lHam_k (hW : aWk s) (hj : lK1 j ∨ j = 156 ∨ j = 198) : aHam s j = s j := by
  unfold aHam
  split
  · exact lGo_k (by omega) hj
  · split
    · exact lGo_k (by omega) hj
    · exact (lGo_k (by omega) hj).trans (lH1_k hW.1 (hj.elim Or.inl (fun h => Or.inr (h.elim Or.inl (fun h => Or.inr (Or.inl h))))))
theorem lBf_k (hW : aWk t) (hj : lK1 j ∨ j = 156 ∨ j = 198) : aBf t j = t j := by
  have h7 : j ≠ 157 := by unfold lK1 at hj; omega
  unfold aBf
  split
  · exact pk_un h7
  · exact (lHam_k (l_wk hW (pk_un (by decide))) hj).trans (pk_un h7)
theorem lBg_k (hW : aWk t) (hj : lK1 j ∨ j = 156 ∨ j = 198) : aBg t j = t j := by
  have h7 : j ≠ 154 := by unfold lK1 at hj; omega
  unfold aBg
  split
  · split
    · exact (lBf_k (l_wk hW (pk_un (by decide))) hj).trans (pk_un h7)
    · exact (lBf_k (l_wk hW (pk_un (by decide))) hj).trans (pk_un h7)
  · rfl
theorem lBe_k (hW : aWk s) (hj : lK1 j ∨ j = 156) : aBe s j = s j := (lBg_k (l_wk hW (pk_un (by decide))) (hj.elim Or.inl (fun h => Or.inr (Or.inl h)))).trans (pk_un (by unfold lK1 at hj; omega))
theorem lBe_198 (hW : aWk s) : aBe s 198 = s 198 + 1 := (lBg_k (l_wk hW (pk_un (by decide))) (Or.inr (Or.inr rfl))).trans pk_us
theorem lBt_k (hj : lK1 j ∨ j = 198) : ∀ (n k : Nat) (u : Int32) (s : Nat → Int32), k + n ≤ 12 → aBt n k u s j = s j
  | 0, _, _, _, _ => rfl
  | n + 1, k, u, s, hk => by
    unfold aBt
    split
    · rfl
    · split
      · exact lBt_k hj n (k + 1) u s (by omega)
      · split
        · exact (lBt_k hj n (k + 1) 0 _ (by omega)).trans (lCgh_k (by omega) hj)
        · exact (lBt_k hj n (k + 1) 1 _ (by omega)).trans (lCgh_k (by omega) hj)
theorem lBeat_eq : ∃ u : Int32, aBeat s N = aBe (aBt N 0 u s) := by
  unfold aBeat
  split
  · exact ⟨1, rfl⟩
  · exact ⟨0, rfl⟩
theorem lBeat_W (hI : aIa s N W) (u : Int32) : aIa (aBt N 0 u s) N W := aIa_bt N 0 u s (by omega) hI
theorem lBeat_k (hI : aIa s N W) (hj : lK1 j) : aBeat s N j = s j := by
  obtain ⟨u, e⟩ := lBeat_eq (s := s) (N := N)
  rw [e, lBe_k (lBeat_W hI u).2.2.2.2.2.2.1.1 (Or.inl hj), lBt_k (Or.inl hj) N 0 u s (by have := hI.1.2; omega)]
theorem lBeat_198 (hI : aIa s N W) : aBeat s N 198 = s 198 + 1 := by
  obtain ⟨u, e⟩ := lBeat_eq (s := s) (N := N)
  rw [e, lBe_198 (lBeat_W hI u).2.2.2.2.2.2.1.1, lBt_k (Or.inr rfl) N 0 u s (by have := hI.1.2; omega)]
theorem lBeat_156 (hI : aIa s N W) (h : s 156 = 0 ∨ s 156 = 1) : aBeat s N 156 = 0 ∨ aBeat s N 156 = 1 := by
  obtain ⟨u, e⟩ := lBeat_eq (s := s) (N := N)
  rw [e, lBe_k (lBeat_W hI u).2.2.2.2.2.2.1.1 (Or.inr rfl)]
  exact l_156bt (N := N) (W := W) N 0 u s (by have := hI.1.2; omega) h
/-- the book's bidders -/
def lBk8 (s : Nat → Int32) : Prop := ∀ i, i < 8 → ¬ s (160 + 5 * i) < 0
theorem lBk_of (h : lBk8 s) (e : ∀ j, 160 ≤ j → j < 198 → t j = s j) : lBk8 t := fun i hi => by rw [e _ (by omega) (by omega)]; exact h i hi
theorem lWk_nn (h : aWk s) : ¬ s 152 < 0 := by
  rcases h.2 with e | e
  · rw [e]
    decide
  · rw [e]
    exact nI_pos (by have := h.1; omega)
theorem lGo_b (hh : how ≤ 3) (hK : s 210 = nI K) (hK8 : K ≤ 8) (h2 : ¬ s 152 < 0) (hb : lBk8 s) : lBk8 (aGo s how) := by
  intro i hi
  have hf := aFc_r hh
  rw [aGo_at hh hK hK8, if_neg (by omega), if_neg (by omega), if_neg (by omega), if_neg (by omega), if_neg (by omega)]
  by_cases h0 : i = 0
  · subst h0
    rw [if_pos rfl]
    exact h2
  · rw [if_neg (by omega), if_neg (by omega), if_neg (by omega), if_pos (by omega), show 160 + 5 * i - 5 = 160 + 5 * (i - 1) by omega]
    exact hb (i - 1) (by omega)
theorem lC2_lo {j : Nat} (hk : k < 12) (h1 : 160 ≤ j) (h2 : j ≠ 206) (h3 : j ≠ 207) : aC2 (aC1 s k) k c j = s j := by
  rw [aC2_n (by omega) (by omega) (by omega) h3 (by omega), aC1_n (by omega) h2]
theorem lC2_148 (hk : k < 12) : aC2 (aC1 s k) k c 148 = s 148 := by
  rw [aC2_n (by omega) (by omega) (by omega) (by omega) (by omega), aC1_n (by omega) (by omega)]
theorem lC5_b (hk : k < 12) (hK : s 210 = nI K) (hK8 : K ≤ 8) (hb : lBk8 s) : lBk8 (aC5 (aC2 (aC1 s k) k c) k).2 := by
  have hD : lBk8 (aC2 (aC1 s k) k c) := lBk_of hb (fun j h1 h2 => lC2_lo hk h1 (by omega) (by omega))
  have h3 : lBk8 (aC3 (aC2 (aC1 s k) k c)) := lBk_of hD (fun j h1 h2 => aC3_n (by omega) (by omega))
  unfold aC5
  split
  · exact hD
  · unfold aC4
    split
    · exact h3
    · refine lGo_b (by omega) (K := K) ?_ hK8 ?_ h3
      · rw [aC3_n (by omega) (by omega), lC2_lo hk (by omega) (by omega) (by omega)]
        exact hK
      · rw [aC3_n (by omega) (by omega), aC2_152 hk, nI_1]
        exact nI_pos (by omega)
theorem lCgh_b (hI : aIa s N W) (hk : k < N) (hb : lBk8 s) : lBk8 (aCgh s k c).2 := by
  have hN := hI.1.2
  obtain ⟨K, -, hK8, hK⟩ := hI.2.2.1
  unfold aCgh
  split
  · exact lC5_b (by omega) hK hK8 hb
  · exact lBk_of hb (fun j h1 h2 => aC1_n (by omega) (by omega))
theorem lHam_b (hW : aWk s) (hK : s 210 = nI K) (hK8 : K ≤ 8) (hb : lBk8 s) : lBk8 (aHam s) := by
  unfold aHam
  split
  · exact lGo_b (by omega) hK hK8 (lWk_nn hW) hb
  · split
    · exact lGo_b (by omega) hK hK8 (lWk_nn hW) hb
    · refine lGo_b (by omega) (K := K) ?_ hK8 ?_ (lBk_of hb (fun j h1 h2 => lH1_k hW.1 (by omega)))
      · rw [lH1_k hW.1 (by omega)]
        exact hK
      · rw [lH1_k hW.1 (by omega)]
        exact lWk_nn hW
theorem lBf_b (hW : aWk t) (hK : t 210 = nI K) (hK8 : K ≤ 8) (hb : lBk8 t) : lBk8 (aBf t) := by
  have h1 : lBk8 (upd t 157 0) := lBk_of hb (fun j h1 h2 => pk_un (by omega))
  unfold aBf
  split
  · exact h1
  · exact lHam_b (l_wk hW (pk_un (by decide))) (by rw [pk_un (by decide)]; exact hK) hK8 h1
theorem lBe_b (hI : aIa s N W) (hb : lBk8 s) : lBk8 (aBe s) := by
  obtain ⟨K, -, hK8, hK⟩ := hI.2.2.1
  have hW := hI.2.2.2.2.2.2.1.1
  have h0 : ∀ x y, lBk8 (upd (upd s 198 x) 154 y) := fun x y => lBk_of hb (fun j h1 h2 => by rw [pk_un (by omega), pk_un (by omega)])
  unfold aBe aBg
  split
  · split
    · exact lBf_b (l_wk hW (by rw [pk_un (by decide), pk_un (by decide)])) (by rw [pk_un (by decide), pk_un (by decide)]; exact hK) hK8 (h0 _ _)
    · exact lBf_b (l_wk hW (by rw [pk_un (by decide), pk_un (by decide)])) (by rw [pk_un (by decide), pk_un (by decide)]; exact hK) hK8 (h0 _ _)
  · exact lBk_of hb (fun j h1 h2 => pk_un (by omega))
theorem lBt_b : ∀ (n k : Nat) (u : Int32) (s : Nat → Int32), k + n ≤ N → aIa s N W → lBk8 s → lBk8 (aBt n k u s)
  | 0, _, _, _, _, _, h => h
  | n + 1, k, u, s, hk, hI, h => by
    have h2 := lCgh_b (c := 1) hI (show k < N by omega) h
    have hI2 := (aIa_cgh (c := 1) hI (show k < N by omega)).1
    unfold aBt
    split
    · exact h
    · split
      · exact lBt_b n (k + 1) u s (by omega) hI h
      · split
        · exact lBt_b n (k + 1) 0 _ (by omega) hI2 h2
        · exact lBt_b n (k + 1) 1 _ (by omega) hI2 h2
theorem lBeat_b (hI : aIa s N W) (hb : lBk8 s) : lBk8 (aBeat s N) := by
  obtain ⟨u, e⟩ := lBeat_eq (s := s) (N := N)
  rw [e]
  exact lBe_b (lBeat_W hI u) (lBt_b N 0 u s (by omega) hI hb)
/-- hammers and the lot that is up -/
def lD (s : Nat → Int32) : Int32 := aGone s + s 148
theorem lD_of (e : ∀ j, (j = 202 ∨ j = 203 ∨ j = 204 ∨ j = 211 ∨ j = 148) → t j = s j) : lD t = lD s := by
  unfold lD aGone
  rw [e 202 (by omega), e 203 (by omega), e 204 (by omega), e 211 (by omega), e 148 (by omega)]
theorem i_g0 (a b c d : Int32) : a + 1 + b + c + d + 0 = a + b + c + d + 1 := by grind
theorem i_g1 (a b c d : Int32) : a + (b + 1) + c + d + 0 = a + b + c + d + 1 := by grind
theorem i_g2 (a b c d : Int32) : a + b + (c + 1) + d + 0 = a + b + c + d + 1 := by grind
theorem i_g3 (a b c d : Int32) : a + b + c + (d + 1) + 0 = a + b + c + d + 1 := by grind
theorem lGo_D (hh : how ≤ 3) (hK : s 210 = nI K) (hK8 : K ≤ 8) (h : s 148 = 1) : lD (aGo s how) = lD s := by
  have g : ∀ j, (j = 202 ∨ j = 203 ∨ j = 204 ∨ j = 211) → aGo s how j = if j = aFc how then s j + 1 else s j := fun j hj => by
    rw [aGo_at hh hK hK8, if_neg (by omega)]
    by_cases q : j = aFc how
    · rw [if_pos q, if_pos q]
    · rw [if_neg q, if_neg q, if_neg (by omega), if_neg (by omega), if_neg (by omega), if_neg (by omega), if_neg (by omega), if_neg (by omega), if_neg (by omega)]
  unfold lD aGone
  rw [aGo_148, g 202 (by omega), g 203 (by omega), g 204 (by omega), g 211 (by omega), h]
  rcases (show how = 0 ∨ how = 1 ∨ how = 2 ∨ how = 3 by omega) with rfl | rfl | rfl | rfl
  · rw [if_pos (by decide), if_neg (by decide), if_neg (by decide), if_neg (by decide)]
    exact i_g0 _ _ _ _
  · rw [if_neg (by decide), if_pos (by decide), if_neg (by decide), if_neg (by decide)]
    exact i_g1 _ _ _ _
  · rw [if_neg (by decide), if_neg (by decide), if_pos (by decide), if_neg (by decide)]
    exact i_g2 _ _ _ _
  · rw [if_neg (by decide), if_neg (by decide), if_neg (by decide), if_pos (by decide)]
    exact i_g3 _ _ _ _
theorem lCgh_D (hI : aIa s N W) (hk : k < N) : lD (aCgh s k c).2 = lD s := by
  have hN := hI.1.2
  obtain ⟨K, -, hK8, hK⟩ := hI.2.2.1
  have hk12 : k < 12 := by omega
  unfold aCgh
  split
  · rename_i hb
    have h1 : s 148 = 1 := hI.2.2.2.2.2.1.resolve_left (aBar_le hb).1
    have hD : lD (aC2 (aC1 s k) k c) = lD s := lD_of (fun j hj => by
      by_cases q : j = 148
      · rw [q]
        exact lC2_148 hk12
      · exact lC2_lo hk12 (by omega) (by omega) (by omega))
    have h3 : lD (aC3 (aC2 (aC1 s k) k c)) = lD s := (lD_of (fun j hj => aC3_n (by omega) (by omega))).trans hD
    unfold aC5
    split
    · exact hD
    · unfold aC4
      split
      · exact h3
      · refine (lGo_D (by omega) (K := K) ?_ hK8 ?_).trans h3
        · rw [aC3_n (by omega) (by omega), lC2_lo hk12 (by omega) (by omega) (by omega)]
          exact hK
        · rw [aC3_n (by omega) (by omega), lC2_148 hk12]
          exact h1
  · exact lD_of (fun j hj => aC1_n (by omega) (by omega))
theorem lHam_D (hW : aWk s) (hK : s 210 = nI K) (hK8 : K ≤ 8) (h : s 148 = 1) : lD (aHam s) = lD s := by
  unfold aHam
  split
  · exact lGo_D (by omega) hK hK8 h
  · split
    · exact lGo_D (by omega) hK hK8 h
    · refine (lGo_D (by omega) (K := K) ?_ hK8 ?_).trans (lD_of (fun j hj => lH1_k hW.1 (by omega)))
      · rw [lH1_k hW.1 (by omega)]
        exact hK
      · rw [lH1_k hW.1 (by omega)]
        exact h
theorem lBf_D (hW : aWk t) (hK : t 210 = nI K) (hK8 : K ≤ 8) (h : t 148 = 1) : lD (aBf t) = lD t := by
  have h1 : lD (upd t 157 0) = lD t := lD_of (fun j hj => pk_un (by omega))
  unfold aBf
  split
  · exact h1
  · exact (lHam_D (l_wk hW (pk_un (by decide))) (by rw [pk_un (by decide)]; exact hK) hK8 (by rw [pk_un (by decide)]; exact h)).trans h1
theorem lBe_D (hI : aIa s N W) : lD (aBe s) = lD s := by
  obtain ⟨K, -, hK8, hK⟩ := hI.2.2.1
  have hW := hI.2.2.2.2.2.2.1.1
  have h0 : ∀ x y, lD (upd (upd s 198 x) 154 y) = lD s := fun x y => lD_of (fun j hj => by rw [pk_un (by omega), pk_un (by omega)])
  unfold aBe aBg
  split
  · rename_i h8
    split
    · exact (lBf_D (l_wk hW (by rw [pk_un (by decide), pk_un (by decide)])) (by rw [pk_un (by decide), pk_un (by decide)]; exact hK) hK8 (by rw [pk_un (by decide)]; exact h8)).trans (h0 _ _)
    · exact (lBf_D (l_wk hW (by rw [pk_un (by decide), pk_un (by decide)])) (by rw [pk_un (by decide), pk_un (by decide)]; exact hK) hK8 (by rw [pk_un (by decide)]; exact h8)).trans (h0 _ _)
  · exact lD_of (fun j hj => pk_un (by omega))
theorem lBt_D : ∀ (n k : Nat) (u : Int32) (s : Nat → Int32), k + n ≤ N → aIa s N W → lD (aBt n k u s) = lD s
  | 0, _, _, _, _, _ => rfl
  | n + 1, k, u, s, hk, hI => by
    have h2 := lCgh_D (c := 1) hI (show k < N by omega)
    have hI2 := (aIa_cgh (c := 1) hI (show k < N by omega)).1
    unfold aBt
    split
    · rfl
    · split
      · exact lBt_D n (k + 1) u s (by omega) hI
      · split
        · exact (lBt_D n (k + 1) 0 _ (by omega) hI2).trans h2
        · exact (lBt_D n (k + 1) 1 _ (by omega) hI2).trans h2
theorem lBeat_D (hI : aIa s N W) : lD (aBeat s N) = lD s := by
  obtain ⟨u, e⟩ := lBeat_eq (s := s) (N := N)
  rw [e]
  exact (lBe_D (lBeat_W hI u)).trans (lBt_D N 0 u s (by omega) hI)
theorem lPass_all : ∀ (n : Nat) (s : Nat → Int32), aIa s N W → (s 156 = 0 ∨ s 156 = 1) → lBk8 s → (aPass N n s 156 = 0 ∨ aPass N n s 156 = 1) ∧ lBk8 (aPass N n s) ∧ lD (aPass N n s) = lD s ∧ (∀ j, lK1 j → aPass N n s j = s j) ∧ aPass N n s 198 = s 198 + nI n
  | 0, s, _, h6, hb => ⟨h6, hb, rfl, fun _ _ => rfl, (Int32.add_zero (s 198)).symm⟩
  | n + 1, s, hI, h6, hb => by
    obtain ⟨a, b, c, d, e⟩ := lPass_all n (aBeat s N) (aIa_beat hI) (lBeat_156 hI h6) (lBeat_b hI hb)
    refine ⟨a, b, c.trans (lBeat_D hI), fun j hj => (d j hj).trans (lBeat_k hI hj), ?_⟩
    show aPass N n (aBeat s N) 198 = _
    rw [e, lBeat_198 hI, nI_succ, Int32.add_assoc, Int32.add_comm 1 (nI n)]
theorem i_ham (a b c d : Int32) (h : a + c = b + d) : a - b = d - c := by grind
theorem lPass_G (h : lD (aPass N k s) = lD s) : aGone (aPass N k s) - aGone s = s 148 - aPass N k s 148 := i_ham _ _ _ _ h
/-- how many have a cold, told by a mask -/
theorem lPop1 : ∀ k, k < 12 → ∀ a, a < 2 ^ k → aPop 12 (a ||| 2 ^ k) = aPop 12 a + 1 := by decide +kernel
theorem lPop : ∀ (n k a : Nat), k + n ≤ 12 → a < 2 ^ k → aPop 12 (aCo s n k a) = lIl s n k (aPop 12 a)
  | 0, _, _, _, _ => rfl
  | n + 1, k, a, hk, ha => by
    have e : 2 ^ (k + 1) = 2 * 2 ^ k := by rw [Nat.pow_succ, Nat.mul_comm]
    unfold aCo lIl
    split
    · exact lPop n (k + 1) a (by omega) (by omega)
    · rw [lPop n (k + 1) (a ||| 2 ^ k) (by omega) (Nat.or_lt_two_pow (by omega) (by omega)), lPop1 k (by omega) a ha]
theorem lPop0 (hN : N ≤ 12) : nI (aPop 12 (aCo s N 0 0)) = nI (lIl s N 0 0) := congrArg nI (lPop N 0 0 (by omega) (by decide))
/-- cells that a cough leaves -/
theorem lCgh_LB (hI : aIa w N W) (hN : aNn w = N) (hk : k < N) (hc : c = 0 ∨ c = 1) (hB : LB w) : LB (aCgh w k c).2 := by
  have hN2 := hI.1.2
  have e9 : aNn (aCgh w k c).2 = aNn w := by
    show ((aCgh w k c).2 199).toNatClampNeg = (w 199).toNatClampNeg
    rw [lCgh_k (by omega) (Or.inl (Or.inl rfl))]
  refine ⟨?_, lCgh_b hI hk hB.2.1, ?_⟩
  · rcases l_156 (s := w) (k := k) (c := c) (by omega) with e | e
    · rw [e]
      exact hc
    · rw [e]
      exact hB.1
  · rw [e9, lCgh_k (by omega) (Or.inl (Or.inr (Or.inl rfl))), hB.2.2, aSm_c (s := w) (t := (aCgh w k c).2) _ (fun i hi => lCgh_k (by omega) (Or.inl (by unfold lK1; omega)))]
theorem lPass_LB (hI : aIa w N W) (hN : aNn w = N) (n : Nat) (hB : LB w) : LB (aPass N n w) := by
  have hN2 := hI.1.2
  obtain ⟨a, b, -, d, -⟩ := lPass_all n w hI hB.1 hB.2.1
  have e9 : aNn (aPass N n w) = aNn w := by
    show (aPass N n w 199).toNatClampNeg = (w 199).toNatClampNeg
    rw [d 199 (Or.inl rfl)]
  refine ⟨a, b, ?_⟩
  rw [e9, d 215 (Or.inr (Or.inl rfl)), hB.2.2, aSm_c (s := w) (t := aPass N n w) _ (fun i hi => d _ (by unfold lK1; omega))]
theorem lNight_LB (hN : aNn w ≤ 12) (hB : LB w) : LB (aNight w w (aNn w)) := LB_of hB hN (fun j hj => aNight_n hN (by unfold lRl at hj; omega) (fun i hi => by unfold lRl at hj; omega))
theorem aNl_209 {sp : Nat → Int32} : ∀ (n k : Nat) (s : Nat → Int32), k + n ≤ 12 → aNl sp N n k s 209 = s 209
  | 0, _, _, _ => rfl
  | n + 1, k, s, hk => by
    show aNl sp N n (k + 1) (upd s (11 * k + 4) _) 209 = _
    rw [aNl_209 n (k + 1) _ (by omega), pk_un (by omega)]
theorem aNight_209 (hN : N ≤ 12) : aNight w w N 209 = w 209 + 1 := by
  show upd (aNl w N N 0 w) 209 (aNl w N N 0 w 209 + 1) 209 = _
  rw [pk_us, aNl_209 N 0 w (by omega)]
theorem LW_mono {h : zH} {b m b' m' : Nat} (hb : b ≤ b') (hm : m ≤ m') (h1 : LW h b m) : LW h b' m' := by
  obtain ⟨w, pa, tx, n, T, a1, a2, a3, a4, ⟨x, -, x2, x3⟩, ⟨y, -, y2, y3⟩⟩ := h1
  exact ⟨w, pa, tx, n, T, a1, a2, a3, a4, ⟨x, Nat.zero_le _, by omega, x3⟩, ⟨y, Nat.zero_le _, by omega, y3⟩⟩
theorem aR_up {x : Int32} {b b' : Nat} (hb : b ≤ b') (h : aR x 0 b) : aR x 0 b' := by
  obtain ⟨y, -, y2, y3⟩ := h
  exact ⟨y, Nat.zero_le _, by omega, y3⟩
end L8
