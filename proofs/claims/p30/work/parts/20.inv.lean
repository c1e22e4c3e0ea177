-- what the check's array keeps, change by change
theorem aIa_be {s : Nat → Int32} {N W : Nat} (h : aIa s N W) : aIa (aBe s) N W := by
  have e : ∀ (t : Nat → Int32), aIa t N W → t 148 = 1 → aIa (aBf t) N W := by
    intro t ht h1
    have h2 : aIa (upd t 157 0) N W := aIa_of ht (fun j hj => by unfold aRel at hj; exact upd_n (by omega))
    unfold aBf
    split
    · exact h2
    · exact aIa_ham h2 (by rw [upd_n (by omega)]; exact h1)
  have h1 : aIa (upd s 198 (s 198 + 1)) N W := aIa_of h (fun j hj => by unfold aRel at hj; exact upd_n (by omega))
  unfold aBe aBg
  generalize upd s 198 (s 198 + 1) = t at *
  split
  · rename_i q
    split
    · exact e _ (aIa_of h1 (fun j hj => by unfold aRel at hj; exact upd_n (by omega))) (by rw [upd_n (by omega)]; exact q)
    · exact e _ (aIa_of h1 (fun j hj => by unfold aRel at hj; exact upd_n (by omega))) (by rw [upd_n (by omega)]; exact q)
  · exact h1
theorem aIa_bt {N W : Nat} : ∀ (n k : Nat) (u : Int32) (s : Nat → Int32), k + n ≤ N → aIa s N W → aIa (aBt n k u s) N W
  | 0, _, _, _, _, h => h
  | n + 1, k, u, s, hk, h => by
    unfold aBt
    split
    · exact h
    · split
      · exact aIa_bt n (k + 1) u s (by omega) h
      · split
        · exact aIa_bt n (k + 1) 0 _ (by omega) (aIa_cgh h (by omega)).1
        · exact aIa_bt n (k + 1) 1 _ (by omega) (aIa_cgh h (by omega)).1
theorem aIa_beat {s : Nat → Int32} {N W : Nat} (h : aIa s N W) : aIa (aBeat s N) N W := by
  unfold aBeat
  split
  · exact aIa_be (aIa_bt N 0 1 s (by omega) h)
  · exact aIa_be (aIa_bt N 0 0 s (by omega) h)
theorem aIa_pass {N W : Nat} : ∀ (n : Nat) (s : Nat → Int32), aIa s N W → aIa (aPass N n s) N W
  | 0, _, h => h
  | n + 1, _, h => aIa_pass n _ (aIa_beat h)
theorem aIa_ok {s : Nat → Int32} {N W : Nat} (h : aIa s N W) : aOk s N := by
  obtain ⟨h1, h2, h3, h4, h5, h6, h7, h8, h9⟩ := h
  refine ⟨h1.1, h1.2, fun k hk q => ?_, h7.1⟩
  obtain ⟨n, -, n2, n3⟩ := (h4 k hk).2.2.2
  rw [n3, show (7 : Int32) = nI 7 from rfl, pk_sub (by omega)] at q
  exact nI_ne0 (by omega) (by omega) q
theorem aFind_neg {s : Nat → Int32} {row seat : Int32} : ∀ n k : Nat, k + n ≤ 12 → aFind s row seat n k < 0 → ∀ i, k ≤ i → i < k + n → ¬ (s (11 * i + 0) = row ∧ s (11 * i + 1) = seat)
  | 0, _, _, _, i, h1, h2 => by omega
  | n + 1, k, hk, h, i, h1, h2 => by
    unfold aFind at h
    intro q
    by_cases hi : i = k
    · subst hi
      rw [if_pos q.1, if_pos q.2] at h
      exact nI_pos (n := i) (by omega) h
    · have h3 : aFind s row seat n (k + 1) < 0 := by
        split at h
        · split at h
          · exact absurd h (nI_pos (by omega))
          · exact h
        · exact h
      exact aFind_neg n (k + 1) (by omega) h3 i (by omega) (by omega) q
theorem aIn_R {v : Int32} {a b : Nat} (hb : b < 1000) (ha : a ≤ b) (h : ¬ aIn v (nI a) (nI b) = 0) : aR v a b := by
  obtain ⟨k, h1, h2, h3, -⟩ := aIn_nat hb ha h
  exact ⟨k, h1, h2, h3⟩
theorem aSeat_R {r c : Int32} (h : ¬ aSeat r c = 0) : aR r 0 5 ∧ aR c 0 7 := by
  unfold aSeat at h
  by_cases q1 : aIn r 0 5 = 0
  · rw [if_pos q1] at h
    exact absurd rfl h
  · rw [if_neg q1] at h
    by_cases q2 : aIn c 0 7 = 0
    · rw [if_pos q2] at h
      exact absurd rfl h
    · exact ⟨aIn_R (a := 0) (b := 5) (by omega) (by omega) q1, aIn_R (a := 0) (b := 7) (by omega) (by omega) q2⟩
theorem aIa_bid {s : Nat → Int32} {N W : Nat} {row seat purse strength : Int32} (h : aIa s N W) (hN : N < 12) (h0 : aR row 0 5) (h1 : aR seat 0 7) (h2 : aR purse 0 999) (hf : aFind s row seat N 0 < 0) : aIa (aBid s N row seat purse strength) (N + 1) W := by
  have hng := aFind_neg N 0 (by omega) hf
  obtain ⟨g1, g2, g3, g4, g5, g6, g7, g8, g9⟩ := h
  have hW := g2.2
  have r : ∀ j, (j < 11 * N ∨ 11 * N + 10 < j ∨ j = 11 * N + 4) → j ≠ 199 → aBid s N row seat purse strength j = s j := by
    intro j q1 q2
    unfold aBid
    rw [upd_n (by omega), upd_n (by omega), upd_n (by omega), upd_n (by omega), upd_n (by omega), upd_n (by omega)]
  have e0 : aBid s N row seat purse strength (11 * N + 0) = row := by
    unfold aBid
    rw [upd_n (by omega), upd_n (by omega), upd_n (by omega), upd_n (by omega), upd_n (by omega), upd_s]
  have e1 : aBid s N row seat purse strength (11 * N + 1) = seat := by
    unfold aBid
    rw [upd_n (by omega), upd_n (by omega), upd_n (by omega), upd_n (by omega), upd_s]
  have e2 : aBid s N row seat purse strength (11 * N + 2) = purse := by
    unfold aBid
    rw [upd_n (by omega), upd_n (by omega), upd_n (by omega), upd_s]
  have e9 : aBid s N row seat purse strength 199 = nI (N + 1) := by
    unfold aBid
    rw [upd_s, upd_n (by omega), upd_n (by omega), upd_n (by omega), upd_n (by omega), upd_n (by omega), g1.1, nI_1]
  have e52 : aBid s N row seat purse strength 152 = s 152 := r 152 (by omega) (by omega)
  have eW : aWho (aBid s N row seat purse strength) = aWho s := by
    show (aBid s N row seat purse strength 152).toNatClampNeg - 1 = _
    rw [e52]
    rfl
  refine ⟨⟨e9, by omega⟩, ⟨by rw [r 200 (by omega) (by omega)]; exact g2.1, hW⟩, by rw [r 210 (by omega) (by omega)]; exact g3, fun i hi => ?_, fun i j hij hj => ?_, by rw [r 148 (by omega) (by omega)]; exact g6, ⟨aWk_of g7.1 e52, by rw [e52, eW]; rcases g7.2 with q | q; exact Or.inl q; exact Or.inr (by omega)⟩, fun q => ?_, fun i hi => ?_⟩
  · by_cases hi2 : i = N
    · subst hi2
      rw [e0, e1, e2, r (11 * i + 4) (by omega) (by omega)]
      exact ⟨h0, h1, h2, (g4 i hi).2.2.2⟩
    · rw [r _ (by omega) (by omega), r _ (by omega) (by omega), r _ (by omega) (by omega), r _ (by omega) (by omega)]
      exact g4 i hi
  · rw [r (11 * i + 0) (by omega) (by omega), r (11 * i + 1) (by omega) (by omega)]
    by_cases hj2 : j = N
    · subst hj2
      rw [e0, e1]
      exact hng i (by omega) (by omega)
    · rw [r (11 * j + 0) (by omega) (by omega), r (11 * j + 1) (by omega) (by omega)]
      exact g5 i j hij (by omega)
  · rw [r 148 (by omega) (by omega)] at q
    obtain ⟨k1, k2, b, B, k3, k4, k5, k6, k7, k8⟩ := g8 q
    refine ⟨by rw [r 149 (by omega) (by omega)]; exact k1, by rw [r 150 (by omega) (by omega)]; exact k2, b, B, by rw [r 151 (by omega) (by omega)]; exact k3, by rw [r 155 (by omega) (by omega)]; exact k4, k5, k6, by rw [e52]; exact k7, fun q2 => ?_⟩
    rw [e52] at q2
    have hw : aWho s < N := by
      rcases g7.2 with q3 | q3
      · exact absurd q3 q2
      · exact q3
    rw [eW, r _ (by omega) (by omega)]
    exact k8 q2
  · rw [r _ (by omega) (by omega), r _ (by omega) (by omega)]
    exact g9 i hi
/-- one relevant cell of a bidder: the cold -/
theorem aIa_cold {s : Nat → Int32} {N W k : Nat} {v : Int32} (h : aIa s N W) (hk : k < 12) (hv : aR v 0 5) : aIa (upd s (11 * k + 4) v) N W := by
  obtain ⟨g1, g2, g3, g4, g5, g6, g7, g8, g9⟩ := h
  have hW := g2.2
  have hN := g1.2
  have hw := g7.1.1
  have r : ∀ j, j ≠ 11 * k + 4 → upd s (11 * k + 4) v j = s j := fun j q => upd_n q
  have e52 : upd s (11 * k + 4) v 152 = s 152 := r 152 (by omega)
  have eW : aWho (upd s (11 * k + 4) v) = aWho s := by
    show (upd s (11 * k + 4) v 152).toNatClampNeg - 1 = _
    rw [e52]
    rfl
  refine ⟨⟨by rw [r 199 (by omega)]; exact g1.1, hN⟩, ⟨by rw [r 200 (by omega)]; exact g2.1, hW⟩, by rw [r 210 (by omega)]; exact g3, fun i hi => ?_, fun i j hij hj => ?_, by rw [r 148 (by omega)]; exact g6, ⟨aWk_of g7.1 e52, by rw [e52, eW]; exact g7.2⟩, fun q => ?_, fun i hi => ?_⟩
  · rw [r (11 * i + 0) (by omega), r (11 * i + 1) (by omega), r (11 * i + 2) (by omega)]
    refine ⟨(g4 i hi).1, (g4 i hi).2.1, (g4 i hi).2.2.1, ?_⟩
    by_cases hi2 : i = k
    · subst hi2
      rw [upd_s]
      exact hv
    · rw [r (11 * i + 4) (by omega)]
      exact (g4 i hi).2.2.2
  · rw [r _ (by omega), r _ (by omega), r _ (by omega), r _ (by omega)]
    exact g5 i j hij hj
  · rw [r 148 (by omega)] at q
    obtain ⟨k1, k2, b, B, k3, k4, k5, k6, k7, k8⟩ := g8 q
    refine ⟨by rw [r 149 (by omega)]; exact k1, by rw [r 150 (by omega)]; exact k2, b, B, by rw [r 151 (by omega)]; exact k3, by rw [r 155 (by omega)]; exact k4, k5, k6, by rw [e52]; exact k7, fun q2 => ?_⟩
    rw [e52] at q2
    rw [eW, r _ (by omega)]
    exact k8 q2
  · rw [r _ (by omega), r _ (by omega)]
    exact g9 i hi
theorem aIa_irr {s : Nat → Int32} {N W j : Nat} {v : Int32} (h : aIa s N W) (hj : ¬ aRel j) : aIa (upd s j v) N W :=
  aIa_of h (fun i hi => upd_n (fun q => hj (by rw [← q]; exact hi)))
theorem aIa_lot {s : Nat → Int32} {N W : Nat} {r v : Int32} (h : aIa s N W) (hW : W < 8) (hr : aR r 1 99) (hv : aR v 1 20) : aIa (aLotT s W r v) N (W + 1) := by
  obtain ⟨g1, g2, g3, g4, g5, g6, g7, g8, g9⟩ := h
  have hN := g1.2
  have hw := g7.1.1
  have rr : ∀ j, j ≠ 132 + 2 * W → j ≠ 132 + 2 * W + 1 → j ≠ 200 → j ≠ 201 → aLotT s W r v j = s j := by
    intro j q1 q2 q3 q4
    unfold aLotT
    rw [upd_n q4, upd_n q3, upd_n q2, upd_n q1]
  have e1 : aLotT s W r v (132 + 2 * W) = r := by
    unfold aLotT
    rw [upd_n (by omega), upd_n (by omega), upd_n (by omega), upd_s]
  have e2 : aLotT s W r v (132 + 2 * W + 1) = v := by
    unfold aLotT
    rw [upd_n (by omega), upd_n (by omega), upd_s]
  have e3 : aLotT s W r v 200 = nI (W + 1) := by
    unfold aLotT
    rw [upd_n (by omega), upd_s, upd_n (by omega), upd_n (by omega), g2.1, nI_1]
  have e52 : aLotT s W r v 152 = s 152 := rr 152 (by omega) (by omega) (by omega) (by omega)
  have eW : aWho (aLotT s W r v) = aWho s := by
    show (aLotT s W r v 152).toNatClampNeg - 1 = _
    rw [e52]
    rfl
  refine ⟨⟨by rw [rr 199 (by omega) (by omega) (by omega) (by omega)]; exact g1.1, hN⟩, ⟨e3, by omega⟩, by rw [rr 210 (by omega) (by omega) (by omega) (by omega)]; exact g3, fun i hi => ?_, fun i j hij hj => ?_, by rw [rr 148 (by omega) (by omega) (by omega) (by omega)]; exact g6, ⟨aWk_of g7.1 e52, by rw [e52, eW]; exact g7.2⟩, fun q => ?_, fun i hi => ?_⟩
  · rw [rr (11 * i + 0) (by omega) (by omega) (by omega) (by omega), rr (11 * i + 1) (by omega) (by omega) (by omega) (by omega), rr (11 * i + 2) (by omega) (by omega) (by omega) (by omega), rr (11 * i + 4) (by omega) (by omega) (by omega) (by omega)]
    exact g4 i hi
  · rw [rr (11 * i + 0) (by omega) (by omega) (by omega) (by omega), rr (11 * i + 1) (by omega) (by omega) (by omega) (by omega), rr (11 * j + 0) (by omega) (by omega) (by omega) (by omega), rr (11 * j + 1) (by omega) (by omega) (by omega) (by omega)]
    exact g5 i j hij hj
  · rw [rr 148 (by omega) (by omega) (by omega) (by omega)] at q
    obtain ⟨k1, k2, b, B, k3, k4, k5, k6, k7, k8⟩ := g8 q
    refine ⟨by rw [rr 149 (by omega) (by omega) (by omega) (by omega)]; exact k1, by rw [rr 150 (by omega) (by omega) (by omega) (by omega)]; exact k2, b, B, by rw [rr 151 (by omega) (by omega) (by omega) (by omega)]; exact k3, by rw [rr 155 (by omega) (by omega) (by omega) (by omega)]; exact k4, k5, k6, by rw [e52]; exact k7, fun q2 => ?_⟩
    rw [e52] at q2
    rw [eW, rr (11 * aWho s + 2) (by omega) (by omega) (by omega) (by omega)]
    exact k8 q2
  · by_cases hi2 : i = W
    · subst hi2
      rw [e1, show 133 + 2 * i = 132 + 2 * i + 1 by omega, e2]
      exact ⟨hr, hv⟩
    · rw [rr (132 + 2 * i) (by omega) (by omega) (by omega) (by omega), rr (133 + 2 * i) (by omega) (by omega) (by omega) (by omega)]
      exact g9 i (by omega)
theorem aUpT_n {s : Nat → Int32} {W j : Nat} (hW : W ≤ 8) (h : j < 132 ∨ 157 < j) (h2 : j ≠ 200) : aUpT s W j = s j := by
  have e : ∀ i, (i < 148 ∨ 157 < i) → i ≠ 200 → aUp2 (aZr (aUp1 s) 158) i = s i := by
    intro i q1 q2
    unfold aUp2 aZr aUp1
    rw [upd_n q2, if_neg (by omega), upd_n (by omega), upd_n (by omega), upd_n (by omega)]
  unfold aUpT aWs
  rw [if_neg (by omega)]
  exact e j (by omega) h2
theorem aUpT_w {s : Nat → Int32} {W j : Nat} (hW : W ≤ 8) (h : 132 ≤ j) (h2 : j < 132 + 2 * (W - 1)) : aUpT s W j = s (j + 2) := by
  unfold aUpT aWs
  rw [if_pos ⟨h, h2⟩]
  unfold aUp2 aZr aUp1
  rw [upd_n (by omega), if_neg (by omega), upd_n (by omega), upd_n (by omega), upd_n (by omega)]
theorem aUpT_up {s : Nat → Int32} {W : Nat} (hW : W ≤ 8) : aUpT s W 148 = 1 ∧ aUpT s W 149 = s 132 ∧ aUpT s W 150 = s 133 ∧ (∀ j, 151 ≤ j → j < 158 → aUpT s W j = 0) ∧ aUpT s W 200 = s 200 - 1 := by
  refine ⟨?_, ?_, ?_, fun j h1 h2 => ?_, ?_⟩
  · unfold aUpT aWs
    rw [if_neg (by omega)]
    unfold aUp2 aZr aUp1
    rw [upd_n (by omega), if_neg (by omega), upd_n (by omega), upd_n (by omega), upd_s]
  · unfold aUpT aWs
    rw [if_neg (by omega)]
    unfold aUp2 aZr aUp1
    rw [upd_n (by omega), if_neg (by omega), upd_n (by omega), upd_s, upd_n (by omega)]
  · unfold aUpT aWs
    rw [if_neg (by omega)]
    unfold aUp2 aZr aUp1
    rw [upd_n (by omega), if_neg (by omega), upd_s, upd_n (by omega), upd_n (by omega)]
  · unfold aUpT aWs
    rw [if_neg (by omega)]
    unfold aUp2 aZr
    rw [upd_n (by omega), if_pos ⟨h1, h2⟩]
  · unfold aUpT aWs
    rw [if_neg (by omega)]
    unfold aUp2 aZr aUp1
    rw [upd_s, if_neg (by omega), upd_n (by omega), upd_n (by omega), upd_n (by omega)]
theorem aIa_up {s : Nat → Int32} {N W : Nat} (h : aIa s N W) (hW0 : 0 < W) : aIa (aUpT s W) N (W - 1) := by
  obtain ⟨g1, g2, g3, g4, g5, g6, g7, g8, g9⟩ := h
  have hN := g1.2
  have hW := g2.2
  obtain ⟨u1, u2, u3, u4, u5⟩ := aUpT_up (s := s) hW
  have e52 : aUpT s W 152 = 0 := u4 152 (by omega) (by omega)
  have eW : aWho (aUpT s W) = 0 := by
    unfold aWho
    rw [e52]
    rfl
  refine ⟨⟨by rw [aUpT_n hW (by omega) (by omega)]; exact g1.1, hN⟩, ⟨?_, by omega⟩, by rw [aUpT_n hW (by omega) (by omega)]; exact g3, fun i hi => ?_, fun i j hij hj => ?_, Or.inr u1, ⟨⟨by rw [eW]; omega, Or.inl e52⟩, Or.inl e52⟩, fun q => ?_, fun i hi => ?_⟩
  · rw [u5, g2.1]
    obtain ⟨m, rfl⟩ : ∃ m, W = m + 1 := ⟨W - 1, by omega⟩
    exact nI_pred m
  · rw [aUpT_n hW (by omega) (by omega), aUpT_n hW (by omega) (by omega), aUpT_n hW (by omega) (by omega), aUpT_n hW (by omega) (by omega)]
    exact g4 i hi
  · rw [aUpT_n hW (by omega) (by omega), aUpT_n hW (by omega) (by omega), aUpT_n hW (by omega) (by omega), aUpT_n hW (by omega) (by omega)]
    exact g5 i j hij hj
  · have h0 := g9 0 hW0
    refine ⟨by rw [u2]; exact h0.1, by rw [u3]; exact h0.2, 0, 0, u4 151 (by omega) (by omega), u4 155 (by omega) (by omega), by omega, by omega, ⟨fun _ => e52, fun _ => rfl⟩, fun q2 => absurd e52 q2⟩
  · rw [aUpT_w hW (by omega) (by omega), aUpT_w hW (by omega) (by omega)]
    have := g9 (i + 1) (by omega)
    rw [show 132 + 2 * (i + 1) = 132 + 2 * i + 2 by omega, show 133 + 2 * (i + 1) = 133 + 2 * i + 2 by omega] at this
    exact this
theorem aCl_R {c : Int32} : aR (aCl c) 0 5 := by
  unfold aCl
  by_cases h1 : c ≤ 5
  · rw [if_pos h1]
    by_cases h2 : 0 ≤ c
    · rw [if_pos h2]
      obtain ⟨j, hj, rfl⟩ := nI_of2 (M := 5) (n := 5) (by decide) (Int32.not_lt.mpr h2) h1
      exact ⟨j, by omega, hj, rfl⟩
    · rw [if_neg h2]
      exact ⟨0, by omega, by omega, rfl⟩
  · rw [if_neg h1]
    exact ⟨5, by omega, by omega, rfl⟩
theorem aNv_R {s sp : Nat → Int32} {N k : Nat} : aR (aNv s sp N k) 0 5 := by
  unfold aNv
  split
  · split <;> exact aCl_R
  · exact aCl_R
theorem aIa_nl {sp : Nat → Int32} {N W : Nat} : ∀ (n k : Nat) (s : Nat → Int32), k + n ≤ 12 → aIa s N W → aIa (aNl sp N n k s) N W
  | 0, _, _, _, h => h
  | n + 1, k, s, hk, h => by
    unfold aNl
    exact aIa_nl n (k + 1) _ (by omega) (aIa_cold h (by omega) aNv_R)
theorem aIa_night {s sp : Nat → Int32} {N W : Nat} (h : aIa s N W) : aIa (aNight s sp N) N W := by
  unfold aNight aNe
  exact aIa_irr (aIa_nl N 0 s (by have := h.1.2; omega) h) (by unfold aRel; omega)
