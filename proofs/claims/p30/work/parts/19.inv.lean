-- what the check's array keeps
abbrev aR (x : Int32) (lo hi : Nat) : Prop := ∃ n : Nat, lo ≤ n ∧ n ≤ hi ∧ x = nI n
def aLotI (s : Nat → Int32) : Prop := aR (s 149) 1 99 ∧ aR (s 150) 1 20 ∧ ∃ b B : Nat, s 151 = nI b ∧ s 155 = nI B ∧ B ≤ b ∧ b ≤ 999 ∧ (B = 0 ↔ s 152 = 0) ∧ (¬ s 152 = 0 → ∃ p : Nat, s (11 * aWho s + 2) = nI p ∧ b ≤ p ∧ p ≤ 999)
def aIb (s : Nat → Int32) : Prop := ∀ k, k < 12 → aR (s (11 * k + 0)) 0 5 ∧ aR (s (11 * k + 1)) 0 7 ∧ aR (s (11 * k + 2)) 0 999 ∧ aR (s (11 * k + 4)) 0 5
def aIu (s : Nat → Int32) (N : Nat) : Prop := ∀ i j, i < j → j < N → ¬ (s (11 * i + 0) = s (11 * j + 0) ∧ s (11 * i + 1) = s (11 * j + 1))
def aIw (s : Nat → Int32) (W : Nat) : Prop := ∀ i, i < W → aR (s (132 + 2 * i)) 1 99 ∧ aR (s (133 + 2 * i)) 1 20
def aIa (s : Nat → Int32) (N W : Nat) : Prop :=
  (s 199 = nI N ∧ N ≤ 12) ∧ (s 200 = nI W ∧ W ≤ 8) ∧ aR (s 210) 0 8 ∧ aIb s ∧ aIu s N ∧ (s 148 = 0 ∨ s 148 = 1) ∧ (aWk s ∧ (s 152 = 0 ∨ aWho s < N)) ∧ (s 148 = 1 → aLotI s) ∧ aIw s W
/-- the cells that it speaks of -/
def aRel (j : Nat) : Prop := (j < 132 ∧ (j % 11 = 0 ∨ j % 11 = 1 ∨ j % 11 = 2 ∨ j % 11 = 4)) ∨ (132 ≤ j ∧ j < 153) ∨ j = 155 ∨ j = 199 ∨ j = 200 ∨ j = 210
theorem aIa_of {s t : Nat → Int32} {N W : Nat} (h : aIa s N W) (hr : ∀ j, aRel j → t j = s j) : aIa t N W := by
  obtain ⟨h1, h2, h3, h4, h5, h6, h7, h8, h9⟩ := h
  have hN := h1.2
  have hW := h2.2
  have r : ∀ j, (j < 132 ∧ (j % 11 = 0 ∨ j % 11 = 1 ∨ j % 11 = 2 ∨ j % 11 = 4)) ∨ (132 ≤ j ∧ j < 153) ∨ j = 155 ∨ j = 199 ∨ j = 200 ∨ j = 210 → t j = s j := hr
  have e52 : t 152 = s 152 := r 152 (by omega)
  have eW : aWho t = aWho s := by unfold aWho; rw [e52]
  refine ⟨⟨by rw [r 199 (by omega)]; exact h1.1, hN⟩, ⟨by rw [r 200 (by omega)]; exact h2.1, hW⟩, by rw [r 210 (by omega)]; exact h3, fun k hk => ?_, fun i j hij hj => ?_, by rw [r 148 (by omega)]; exact h6, ⟨aWk_of h7.1 e52, by rw [e52, eW]; exact h7.2⟩, fun h0 => ?_, fun i hi => ?_⟩
  · rw [r _ (by omega), r _ (by omega), r _ (by omega), r _ (by omega)]
    exact h4 k hk
  · rw [r _ (by omega), r _ (by omega), r _ (by omega), r _ (by omega)]
    exact h5 i j hij hj
  · rw [r 148 (by omega)] at h0
    obtain ⟨g1, g2, b, B, g3, g4, g5, g6, g7, g8⟩ := h8 h0
    have hw := h7.1.1
    refine ⟨by rw [r 149 (by omega)]; exact g1, by rw [r 150 (by omega)]; exact g2, b, B, by rw [r 151 (by omega)]; exact g3, by rw [r 155 (by omega)]; exact g4, g5, g6, by rw [e52]; exact g7, fun q => ?_⟩
    rw [e52] at q
    rw [eW, r _ (by omega)]
    exact g8 q
  · rw [r _ (by omega), r _ (by omega)]
    exact h9 i hi
/-- what a lot's going does: no lot is up, one more is in the book -/
theorem aGo_148 {s : Nat → Int32} {how : Nat} : aGo s how 148 = 0 := by
  have e3 : ∀ t : Nat → Int32, aGo3 t how 148 = 0 := by
    intro t
    unfold aGo3
    split <;> exact upd_s
  unfold aGo aGo2
  split <;> exact e3 _
theorem aGo_210 {s : Nat → Int32} {how : Nat} (hh : how ≤ 3) (h : aR (s 210) 0 8) : aR (aGo s how 210) 0 8 := by
  obtain ⟨K, -, hK, hs⟩ := h
  have e1 : aGo1 (aShf s 4) how 210 = s 210 := by
    unfold aGo1
    rw [upd_n (by omega), upd_n (by omega), upd_n (by omega), upd_n (by omega), upd_n (by omega), aShf_lo (by omega)]
  have e3 : ∀ t : Nat → Int32, aGo3 t how 210 = t 210 := by
    intro t
    unfold aGo3
    split
    · rw [upd_n (by omega), upd_n (by omega)]
    · rw [upd_n (by omega), upd_n (by omega)]
  unfold aGo aGo2
  split
  · rename_i q
    rw [e3, upd_s, e1, hs]
    exact ⟨K, by omega, hK, nI_add K 0⟩
  · rename_i q
    rw [e3, upd_s, e1, hs]
    rw [e1, hs] at q
    have h8 : K < 8 := Nat.lt_of_not_le (fun w => q ((nI_leI (a := 8) (by omega) (by omega)).mpr w))
    exact ⟨K + 1, by omega, by omega, nI_1 K⟩
/-- the array but for the lot that is up -/
def aIz (s : Nat → Int32) (N W : Nat) : Prop := (s 199 = nI N ∧ N ≤ 12) ∧ (s 200 = nI W ∧ W ≤ 8) ∧ aR (s 210) 0 8 ∧ aIb s ∧ aIu s N ∧ (aWk s ∧ (s 152 = 0 ∨ aWho s < N)) ∧ aIw s W
theorem aIa_z {s : Nat → Int32} {N W : Nat} (h : aIa s N W) : aIz s N W := ⟨h.1, h.2.1, h.2.2.1, h.2.2.2.1, h.2.2.2.2.1, h.2.2.2.2.2.2.1, h.2.2.2.2.2.2.2.2⟩
theorem aIa_go {s : Nat → Int32} {N W how : Nat} (hh : how ≤ 3) (h : aIz s N W) : aIa (aGo s how) N W := by
  obtain ⟨h1, h2, h3, h4, h5, h7, h9⟩ := h
  have hN := h1.2
  have hW := h2.2
  have r : ∀ j, j < 148 ∨ (148 < j ∧ j < 158) ∨ j = 199 ∨ j = 200 → aGo s how j = s j := fun j hj => aGo_n hh (by omega) (by omega) (by omega) (by omega)
  have e52 : aGo s how 152 = s 152 := r 152 (by omega)
  have eW : aWho (aGo s how) = aWho s := by unfold aWho; rw [e52]
  refine ⟨⟨by rw [r 199 (by omega)]; exact h1.1, hN⟩, ⟨by rw [r 200 (by omega)]; exact h2.1, hW⟩, aGo_210 hh h3, fun k hk => ?_, fun i j hij hj => ?_, Or.inl aGo_148, ⟨aWk_of h7.1 e52, by rw [e52, eW]; exact h7.2⟩, fun h0 => ?_, fun i hi => ?_⟩
  · rw [r _ (by omega), r _ (by omega), r _ (by omega), r _ (by omega)]
    exact h4 k hk
  · rw [r _ (by omega), r _ (by omega), r _ (by omega), r _ (by omega)]
    exact h5 i j hij hj
  · rw [aGo_148] at h0
    exact absurd h0 (by decide)
  · rw [r _ (by omega), r _ (by omega)]
    exact h9 i hi
theorem aWk_pos {s : Nat → Int32} (hw : aWk s) (h : ¬ s 152 = 0) : ¬ s 152 ≤ 0 := by
  rcases hw.2 with q | q
  · exact absurd q h
  · rw [q]
    exact nI_nle (by omega) (by have := hw.1; omega)
/-- what is asked: at least one more than the bids so far -/
theorem aAsk_nat {s : Nat → Int32} (hw : aWk s) (h : aLotI s) : ∃ a B : Nat, s 155 = nI B ∧ B + 1 ≤ a ∧ a ≤ 1100 ∧ aAsk s = nI a := by
  obtain ⟨⟨r, r1, r2, r3⟩, ⟨st, t1, t2, t3⟩, b, B, g3, g4, g5, g6, g7, g8⟩ := h
  unfold aAsk
  by_cases q : s 152 = 0
  · have hB := g7.mpr q
    rw [q, if_pos (by decide)]
    exact ⟨r, B, g4, by omega, by omega, r3⟩
  · rw [if_neg (aWk_pos hw q), g3, t3, nI_add]
    exact ⟨b + st, B, g4, by omega, by omega, rfl⟩
theorem aBar_le {s : Nat → Int32} {k : Nat} (h : aBar s k ≤ 0) : ¬ s 148 = 0 ∧ s 212 ≤ aLoud s k ∧ ¬ s 152 = nI k + 1 ∧ aAsk s ≤ s (11 * k + 2) := by
  unfold aBar at h
  by_cases h1 : s 148 = 0
  · rw [if_pos h1] at h
    exact absurd h (by decide)
  · rw [if_neg h1] at h
    by_cases h2 : s 212 ≤ aLoud s k
    · rw [if_neg (fun q => q h2)] at h
      by_cases h3 : s 152 = nI k + 1
      · rw [if_pos h3] at h
        exact absurd h (by decide)
      · rw [if_neg h3] at h
        by_cases h4 : aAsk s ≤ s (11 * k + 2)
        · exact ⟨h1, h2, h3, h4⟩
        · rw [if_pos h4] at h
          exact absurd h (by decide)
    · rw [if_pos h2] at h
      exact absurd h (by decide)
theorem aC1_rel {s : Nat → Int32} {k : Nat} (hk : k < 12) {j : Nat} (h : aRel j) : aC1 s k j = s j := by
  unfold aRel at h
  exact aC1_n (by omega) (by omega)
theorem aAsk_c1 {s : Nat → Int32} {k : Nat} (hk : k < 12) : aAsk (aC1 s k) = aAsk s := by
  unfold aAsk
  rw [aC1_n (by omega) (by omega), aC1_n (by omega) (by omega), aC1_n (by omega) (by omega), aC1_n (by omega) (by omega)]
theorem aC2_151 {s : Nat → Int32} {k : Nat} {c : Int32} (hk : k < 12) : aC2 s k c 151 = aAsk s := by
  unfold aC2
  rw [upd_n (by omega), upd_n (by omega), upd_n (by omega), upd_n (by omega), upd_n (by omega), upd_n (by omega), upd_s]
theorem aC2_155 {s : Nat → Int32} {k : Nat} {c : Int32} (hk : k < 12) : aC2 s k c 155 = s 155 + 1 := by
  unfold aC2
  rw [upd_n (by omega), upd_n (by omega), upd_s, upd_n (by omega), upd_n (by omega), upd_n (by omega), upd_n (by omega)]
/-- a bid keeps what the array keeps -/
theorem aIa_bid2 {s : Nat → Int32} {N W k : Nat} {c : Int32} (h : aIa s N W) (hk : k < N) (hb : aBar s k ≤ 0) : aIa (aC2 (aC1 s k) k c) N W ∧ ∃ a, 1 ≤ a ∧ a ≤ 999 ∧ aC2 (aC1 s k) k c 151 = nI a := by
  have hN := h.1.2
  have hk12 : k < 12 := by omega
  obtain ⟨b1, b2, b3, b4⟩ := aBar_le hb
  have h1 : aIa (aC1 s k) N W := aIa_of h (fun j hj => aC1_rel hk12 hj)
  obtain ⟨h1, h2, h3, h4, h5, h6, h7, h8, h9⟩ := h1
  have hup : aC1 s k 148 = 1 := by
    rcases h6 with q | q
    · rw [aC1_n (by omega) (by omega)] at q
      exact absurd q b1
    · exact q
  have hL := h8 hup
  obtain ⟨a, B, a1, a2, a3, a4⟩ := aAsk_nat h7.1 hL
  obtain ⟨p, -, p2, p3⟩ := (h4 k hk12).2.2.1
  have e2 : aC1 s k (11 * k + 2) = s (11 * k + 2) := aC1_n (by omega) (by omega)
  rw [← aAsk_c1 hk12, a4, ← e2, p3, nI_leI (by omega) (by omega)] at b4
  have hW := h2.2
  generalize aC1 s k = t at *
  have r : ∀ j, (j < 132 ∧ (j % 11 = 0 ∨ j % 11 = 1 ∨ j % 11 = 2 ∨ j % 11 = 4)) ∨ (132 ≤ j ∧ j < 151) ∨ j = 199 ∨ j = 200 ∨ j = 210 → aC2 t k c j = t j := fun j hj => aC2_n (by omega) (by omega) (by omega) (by omega) (by omega)
  have e51 : aC2 t k c 151 = nI a := by rw [aC2_151 hk12, a4]
  have e52 : aC2 t k c 152 = nI (k + 1) := by rw [aC2_152 hk12]; exact nI_1 k
  have eW : aWho (aC2 t k c) = k := by unfold aWho; rw [e52, nI_clamp (by omega)]; omega
  refine ⟨⟨⟨by rw [r 199 (by omega)]; exact h1.1, hN⟩, ⟨by rw [r 200 (by omega)]; exact h2.1, hW⟩, by rw [r 210 (by omega)]; exact h3, fun i hi => ?_, fun i j hij hj => ?_, by rw [r 148 (by omega)]; exact h6, ⟨aWk_k hk12 e52, Or.inr (by rw [eW]; exact hk)⟩, fun _ => ?_, fun i hi => ?_⟩, a, by omega, by omega, e51⟩
  · rw [r _ (by omega), r _ (by omega), r _ (by omega), r _ (by omega)]
    exact h4 i hi
  · rw [r _ (by omega), r _ (by omega), r _ (by omega), r _ (by omega)]
    exact h5 i j hij hj
  · obtain ⟨g1, g2, -⟩ := hL
    refine ⟨by rw [r 149 (by omega)]; exact g1, by rw [r 150 (by omega)]; exact g2, a, B + 1, e51, by rw [aC2_155 hk12, a1, nI_1], by omega, by omega, ⟨fun q => by omega, fun q => ?_⟩, fun _ => ⟨p, by rw [eW, r _ (by omega)]; exact p3, b4, p2⟩⟩
    rw [e52] at q
    exact absurd q (nI_ne0 (by omega) (by omega))
  · rw [r _ (by omega), r _ (by omega)]
    exact h9 i hi
theorem aC3_rel {s : Nat → Int32} {j : Nat} (h : aRel j) : aC3 s j = s j := by
  unfold aRel at h
  exact aC3_n (by omega) (by omega)
theorem aIa_cgh {s : Nat → Int32} {N W k : Nat} {c : Int32} (h : aIa s N W) (hk : k < N) : aIa (aCgh s k c).2 N W ∧ ∃ a, a ≤ 999 ∧ (aCgh s k c).1 = nI a := by
  have hN := h.1.2
  unfold aCgh
  by_cases hb : aBar s k ≤ 0
  · rw [if_pos hb]
    obtain ⟨h1, a, a1, a2, a3⟩ := aIa_bid2 (c := c) h hk hb
    generalize aC2 (aC1 s k) k c = t at *
    unfold aC5
    by_cases hd : t (11 * k + 4) ≤ t (11 * k + 3)
    · rw [if_pos hd]
      exact ⟨h1, a, a2, a3⟩
    · rw [if_neg hd]
      have h2 : aIa (aC3 t) N W := aIa_of h1 (fun j hj => aC3_rel hj)
      have a4 : aC3 t 151 = nI a := by rw [aC3_n (by omega) (by omega)]; exact a3
      generalize aC3 t = u at *
      unfold aC4
      by_cases he : u 153 < u 213
      · rw [if_pos he]
        exact ⟨h2, a, a2, a4⟩
      · rw [if_neg he]
        exact ⟨aIa_go (by omega) (aIa_z h2), a, a2, by show aGo u 1 151 = _; rw [aGo_n (by omega) (by omega) (by omega) (by omega) (by omega)]; exact a4⟩
  · rw [if_neg hb]
    exact ⟨aIa_of h (fun j hj => aC1_rel (by omega) hj), 0, by omega, rfl⟩
theorem z_negsub {p b : Nat} (h : b ≤ p) : nI p + (0 - nI b) = nI (p - b) := by
  rw [← pk_sub h]
  apply Int32.toBitVec_inj.mp
  simp [Int32.toBitVec_add, Int32.toBitVec_sub]
  bv_omega
theorem aIa_ham {s : Nat → Int32} {N W : Nat} (h : aIa s N W) (hup : s 148 = 1) : aIa (aHam s) N W := by
  unfold aHam
  by_cases q1 : s 152 = 0
  · rw [if_pos q1]
    exact aIa_go (by omega) (aIa_z h)
  · rw [if_neg q1]
    by_cases q2 : s 156 = 1
    · rw [if_pos q2]
      exact aIa_go (by omega) (aIa_z h)
    · rw [if_neg q2]
      refine aIa_go (by omega) ?_
      obtain ⟨h1, h2, h3, h4, h5, h6, h7, h8, h9⟩ := h
      obtain ⟨g1, g2, b, B, g3, g4, g5, g6, g7, g8⟩ := h8 hup
      obtain ⟨p, p1, p2, p2b⟩ := g8 q1
      have hN := h1.2
      have hW := h2.2
      have hw := h7.1.1
      have r : ∀ j, j ≠ 11 * aWho s + 2 → j ≠ 11 * aWho s + 9 → j ≠ 11 * aWho s + 8 → j ≠ 205 → aH1 s (aWho s) j = s j := by
        intro j q1 q2 q3 q4
        unfold aH1
        rw [upd_n q4, upd_n q3, upd_n q2, upd_n q1]
      have e52 : aH1 s (aWho s) 152 = s 152 := r 152 (by omega) (by omega) (by omega) (by omega)
      have eW : aWho (aH1 s (aWho s)) = aWho s := by
        show (aH1 s (aWho s) 152).toNatClampNeg - 1 = _
        rw [e52]
        rfl
      refine ⟨⟨by rw [r 199 (by omega) (by omega) (by omega) (by omega)]; exact h1.1, hN⟩, ⟨by rw [r 200 (by omega) (by omega) (by omega) (by omega)]; exact h2.1, hW⟩, by rw [r 210 (by omega) (by omega) (by omega) (by omega)]; exact h3, fun i hi => ?_, fun i j hij hj => ?_, ⟨aWk_of h7.1 e52, by rw [e52, eW]; exact h7.2⟩, fun i hi => ?_⟩
      · obtain ⟨k1, k2, k3, k4⟩ := h4 i hi
        rw [r (11 * i + 0) (by omega) (by omega) (by omega) (by omega), r (11 * i + 1) (by omega) (by omega) (by omega) (by omega), r (11 * i + 4) (by omega) (by omega) (by omega) (by omega)]
        refine ⟨k1, k2, ?_, k4⟩
        by_cases hi2 : i = aWho s
        · subst hi2
          have e : aH1 s (aWho s) (11 * aWho s + 2) = nI (p - b) := by
            unfold aH1
            rw [upd_n (by omega), upd_n (by omega), upd_n (by omega), upd_s, p1, g3, z_negsub p2]
          rw [e]
          exact ⟨p - b, by omega, by omega, rfl⟩
        · rw [r (11 * i + 2) (by omega) (by omega) (by omega) (by omega)]
          exact k3
      · rw [r (11 * i + 0) (by omega) (by omega) (by omega) (by omega), r (11 * i + 1) (by omega) (by omega) (by omega) (by omega), r (11 * j + 0) (by omega) (by omega) (by omega) (by omega), r (11 * j + 1) (by omega) (by omega) (by omega) (by omega)]
        exact h5 i j hij hj
      · rw [r (132 + 2 * i) (by omega) (by omega) (by omega) (by omega), r (133 + 2 * i) (by omega) (by omega) (by omega) (by omega)]
        exact h9 i hi
