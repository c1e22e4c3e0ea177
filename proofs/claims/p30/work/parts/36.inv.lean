-- what the check's array keeps besides: places where nobody sits, nights, sums
section CJ
variable {s t u : Nat → Int32} {N W K k : Nat}
/-- a sum over the bidders -/
def aSm (s : Nat → Int32) (c : Nat) : Nat → Nat
  | 0 => 0
  | n + 1 => aSm s c n + (s (11 * n + c)).toNatClampNeg
theorem aSm_c {c : Nat} : ∀ n, (∀ k, k < n → t (11 * k + c) = s (11 * k + c)) → aSm t c n = aSm s c n
  | 0, _ => rfl
  | n + 1, h => by
    unfold aSm
    rw [aSm_c n (fun k hk => h k (by omega)), h n (by omega)]
theorem aSm_u {c w x d : Nat} : ∀ n, w < n → x < 1000 → d ≤ x → s (11 * w + c) = nI x → t (11 * w + c) = nI (x - d) → (∀ k, k < n → k ≠ w → t (11 * k + c) = s (11 * k + c)) → aSm t c n + d = aSm s c n
  | 0, hw, _, _, _, _, _ => absurd hw (Nat.not_lt_zero w)
  | n + 1, hw, hx, hd, h1, h2, h3 => by
    unfold aSm
    by_cases e : w = n
    · subst e
      rw [aSm_c w (fun k hk => h3 k (by omega) (by omega)), h1, h2, z_cl (by omega), z_cl (by omega)]
      omega
    · have := aSm_u n (by omega) hx hd h1 h2 (fun k hk hne => h3 k (by omega) hne)
      rw [h3 n (by omega) (fun q => e q.symm)]
      omega
def aMs (s : Nat → Int32) (N : Nat) : Prop := (∃ a b : Nat, s 202 = nI a ∧ s 205 = nI b ∧ a ≤ b ∧ aSm s 2 N + b = aSm s 10 N) ∧ ∀ k, k < N → aR (s (11 * k + 10)) 0 999
def aJ (s : Nat → Int32) (N : Nat) : Prop := aDead s N ∧ aR (s 209) 0 999 ∧ aMs s N
/-- nothing of it changes -/
def aQu (s t : Nat → Int32) (N : Nat) : Prop := ∀ j, ((11 * N ≤ j ∧ j < 132) ∨ (j < 132 ∧ (j % 11 = 2 ∨ j % 11 = 10)) ∨ j = 202 ∨ j = 205 ∨ j = 209) → t j = s j
theorem aQu_tr (h1 : aQu s t N) (h2 : aQu t u N) : aQu s u N := fun j hj => (h2 j hj).trans (h1 j hj)
theorem aMs_qu (hN : N ≤ 12) (h : aMs s N) (q2 : ∀ j, j < 132 → (j % 11 = 2 ∨ j % 11 = 10) → t j = s j) (q3 : t 202 = s 202) (q4 : t 205 = s 205) : aMs t N := by
  obtain ⟨⟨a, b, h1, h2, h3, h4⟩, h5⟩ := h
  refine ⟨⟨a, b, q3.trans h1, q4.trans h2, h3, ?_⟩, fun k hk => ?_⟩
  · rw [aSm_c (s := s) N (fun k hk => q2 _ (by omega) (by omega)), aSm_c (s := s) N (fun k hk => q2 _ (by omega) (by omega))]
    exact h4
  · rw [q2 _ (by omega) (by omega)]
    exact h5 k hk
theorem aJ_qu (hN : N ≤ 12) (q : aQu s t N) (h : aJ s N) : aJ t N := by
  refine ⟨fun k j h1 h2 h3 h4 => ?_, ?_, aMs_qu hN h.2.2 (fun j hj h2 => q j (by omega)) (q 202 (by omega)) (q 205 (by omega))⟩
  · rw [q _ (by omega)]
    exact h.1 k j h1 h2 h3 h4
  · rw [q 209 (by omega)]
    exact h.2.1
theorem aQu_go {how : Nat} (hh : how ≤ 3) (h0 : how ≠ 0) (hK : s 210 = nI K) (hK8 : K ≤ 8) : aQu s (aGo s how) N := by
  intro j hj
  have hf : aFc how = 203 ∨ aFc how = 204 ∨ aFc how = 211 := by
    unfold aFc
    split <;> omega
  rw [aGo_at hh hK hK8, if_neg (by omega), if_neg (by omega), if_neg (by omega), if_neg (by omega), if_neg (by omega), if_neg (by omega), if_neg (by omega), if_neg (by omega), if_neg (by omega)]
theorem aQu_cgh {c : Int32} (hI : aIa s N W) (hk : k < N) : aQu s (aCgh s k c).2 N := by
  have hN := hI.1.2
  rw [← dCgh_eq (by omega)]
  have h1 : aQu s (aC1 s k) N := fun j hj => aC1_n (by omega) (by omega)
  unfold dCgh
  split
  · refine aQu_tr h1 ?_
    have h2 : aQu (aC1 s k) (aC2 (aC1 s k) k c) N := fun j hj => aC2_n (by omega) (by omega) (by omega) (by omega) (by omega)
    refine aQu_tr h2 ?_
    show aQu _ (dCgT _ k) N
    unfold dCgT
    split
    · exact fun _ _ => rfl
    · unfold dDb
      have h3 : aQu (aC2 (aC1 s k) k c) (aC3 (aC2 (aC1 s k) k c)) N := fun j hj => aC3_n (by omega) (by omega)
      split
      · exact h3
      · refine aQu_tr h3 ?_
        obtain ⟨K, -, hK8, hK⟩ := hI.2.2.1
        refine aQu_go (K := K) (by decide) (by decide) ?_ hK8
        rw [aC3_n (by omega) (by omega), aC2_n (by omega) (by omega) (by omega) (by omega) (by omega), aC1_n (by omega) (by omega)]
        exact hK
  · exact h1
theorem aQu_bt : ∀ (n k : Nat) (u : Int32) (s : Nat → Int32), k + n ≤ N → aIa s N W → aQu s (aBt n k u s) N
  | 0, _, _, _, _, _ => fun _ _ => rfl
  | n + 1, k, u, s, hk, h => by
    unfold aBt
    split
    · exact fun _ _ => rfl
    · split
      · exact aQu_bt n (k + 1) u s (by omega) h
      · split
        · exact aQu_tr (aQu_cgh h (by omega)) (aQu_bt n (k + 1) 0 _ (by omega) (aIa_cgh h (by omega)).1)
        · exact aQu_tr (aQu_cgh h (by omega)) (aQu_bt n (k + 1) 1 _ (by omega) (aIa_cgh h (by omega)).1)
theorem aJ_ham (hI : aIa s N W) (hup : s 148 = 1) (h : aJ s N) : aJ (aHam s) N := by
  obtain ⟨K, -, hK8, hK⟩ := hI.2.2.1
  have hN := hI.1.2
  unfold aHam
  split
  · exact aJ_qu hN (aQu_go (by decide) (by decide) hK hK8) h
  · rename_i h1
    split
    · exact aJ_qu hN (aQu_go (by decide) (by decide) hK hK8) h
    · obtain ⟨w1, w2⟩ := aWho_of hI h1
      obtain ⟨g1, g2, b, C, g3, g4, g5, g6, g7, g8⟩ := hI.2.2.2.2.2.2.2.1 hup
      obtain ⟨x, x1, x2, x3⟩ := g8 h1
      have hb : 1 ≤ b := by
        have : C ≠ 0 := fun q => h1 (g7.mp q)
        omega
      have hK1 : aH1 s (aWho s) 210 = nI K := (aH1_n (by omega) (by omega) (by omega)).trans hK
      have A := fun j => aGo_at (s := aH1 s (aWho s)) (how := 0) (by decide) hK1 hK8 j
      have f0 : aFc 0 = 202 := rfl
      generalize hw : aWho s = w at *
      have lo : ∀ j, j < 132 ∨ j = 205 ∨ j = 209 → aGo (aH1 s w) 0 j = aH1 s w j := fun j hj => by
        rw [A, if_neg (by omega), if_neg (by omega), if_neg (by omega), if_neg (by omega), if_neg (by omega), if_neg (by omega), if_neg (by omega), if_neg (by omega), if_neg (by omega)]
      have e2 : ∀ j, j < 132 → j ≠ 11 * w + 2 → j ≠ 11 * w + 9 → j ≠ 11 * w + 8 → aH1 s w j = s j := fun j a b c d => by
        unfold aH1
        rw [upd_n (by omega), upd_n (by omega), upd_n (by omega), upd_n (by omega)]
      have ep : aH1 s w (11 * w + 2) = nI (x - b) := by
        unfold aH1
        rw [upd_n (by omega), upd_n (by omega), upd_n (by omega), upd_s, x1, g3]
        exact z_negsub x2
      have e5 : aH1 s w 205 = s 205 + s 151 := by
        unfold aH1
        rw [upd_s, upd_n (by omega), upd_n (by omega), upd_n (by omega), upd_n (by omega), upd_n (by omega), upd_n (by omega)]
      obtain ⟨h2, h3, ⟨a, c, m1, m2, m3, m4⟩, m5⟩ := h
      refine ⟨fun k j a1 a2 a3 a4 => ?_, ?_, ⟨a + 1, c + b, ?_, ?_, by omega, ?_⟩, fun k hk => ?_⟩
      · rw [lo _ (by omega), e2 _ (by omega) (by omega) (by omega) (by omega)]
        exact h2 k j a1 a2 a3 a4
      · rw [lo _ (by omega), aH1_n (by omega) (by omega) (by omega)]
        exact h3
      · rw [A, if_neg (by omega), f0, if_pos rfl, aH1_n (by omega) (by omega) (by omega), m1]
        exact nI_1 a
      · rw [lo _ (by omega), e5, m2, g3]
        exact nI_add c b
      · have q1 := aSm_u (s := s) (t := aGo (aH1 s w) 0) (c := 2) (w := w) (x := x) (d := b) N (by omega) (by omega) x2 x1 (by rw [lo _ (by omega)]; exact ep) (fun k hk hne => by rw [lo _ (by omega), e2 _ (by omega) (by omega) (by omega) (by omega)])
        have q2 := aSm_c (s := s) (t := aGo (aH1 s w) 0) (c := 10) N (fun k hk => by rw [lo _ (by omega), e2 _ (by omega) (by omega) (by omega) (by omega)])
        rw [q2]
        omega
      · rw [lo _ (by omega), e2 _ (by omega) (by omega) (by omega) (by omega)]
        exact m5 k hk
theorem aJ_be (hI : aIa s N W) (h : aJ s N) : aJ (aBe s) N := by
  have hN := hI.1.2
  have e : ∀ t : Nat → Int32, aIa t N W → t 148 = 1 → aJ t N → aJ (aBf t) N := by
    intro t ht h1 hj
    have h2 : aIa (upd t 157 0) N W := aIa_of ht (fun j hj => by unfold aRel at hj; exact upd_n (by omega))
    have h3 : aJ (upd t 157 0) N := aJ_qu hN (fun j hj => upd_n (by omega)) hj
    unfold aBf
    split
    · exact h3
    · exact aJ_ham h2 (by rw [upd_n (by omega)]; exact h1) h3
  have h1 : aIa (upd s 198 (s 198 + 1)) N W := aIa_of hI (fun j hj => by unfold aRel at hj; exact upd_n (by omega))
  have h0 : aJ (upd s 198 (s 198 + 1)) N := aJ_qu hN (fun j hj => upd_n (by omega)) h
  unfold aBe aBg
  generalize upd s 198 (s 198 + 1) = t at *
  split
  · rename_i q
    split
    · exact e _ (aIa_of h1 (fun j hj => by unfold aRel at hj; exact upd_n (by omega))) (by rw [upd_n (by omega)]; exact q) (aJ_qu hN (fun j hj => upd_n (by omega)) h0)
    · exact e _ (aIa_of h1 (fun j hj => by unfold aRel at hj; exact upd_n (by omega))) (by rw [upd_n (by omega)]; exact q) (aJ_qu hN (fun j hj => upd_n (by omega)) h0)
  · exact h0
theorem aJ_beat (hI : aIa s N W) (h : aJ s N) : aJ (aBeat s N) N := by
  have hN := hI.1.2
  unfold aBeat
  split
  · exact aJ_be (aIa_bt N 0 1 s (by omega) hI) (aJ_qu hN (aQu_bt N 0 1 s (by omega) hI) h)
  · exact aJ_be (aIa_bt N 0 0 s (by omega) hI) (aJ_qu hN (aQu_bt N 0 0 s (by omega) hI) h)
theorem aJ_pass : ∀ (n : Nat) (s : Nat → Int32), aIa s N W → aJ s N → aJ (aPass N n s) N
  | 0, _, _, h => h
  | n + 1, _, hI, h => aJ_pass n _ (aIa_beat hI) (aJ_beat hI h)
theorem aJ_bid {row seat purse strength : Int32} (hI : aIa s N W) (hN : N < 12) (hp : aR purse 0 999) (h : aJ s N) : aJ (aBid s N row seat purse strength) (N + 1) := by
  have lo : ∀ j, j < 11 * N ∨ (11 * N + 11 ≤ j ∧ j ≠ 199) → aBid s N row seat purse strength j = s j := fun j hj => by
    unfold aBid
    rw [upd_n (by omega), upd_n (by omega), upd_n (by omega), upd_n (by omega), upd_n (by omega), upd_n (by omega)]
  have e2 : aBid s N row seat purse strength (11 * N + 2) = purse := by
    unfold aBid
    rw [upd_n (by omega), upd_n (by omega), upd_n (by omega), upd_s]
  have e10 : aBid s N row seat purse strength (11 * N + 10) = purse := by
    unfold aBid
    rw [upd_n (by omega), upd_s]
  obtain ⟨h2, h3, ⟨a, c, m1, m2, m3, m4⟩, m5⟩ := h
  refine ⟨fun k j a1 a2 a3 a4 => ?_, ?_, ⟨a, c, ?_, ?_, m3, ?_⟩, fun k hk => ?_⟩
  · rw [lo _ (by omega)]
    exact h2 k j (by omega) a2 a3 a4
  · rw [lo _ (by omega)]
    exact h3
  · rw [lo _ (by omega)]
    exact m1
  · rw [lo _ (by omega)]
    exact m2
  · unfold aSm
    rw [e2, e10, aSm_c (s := s) N (fun k hk => lo _ (by omega)), aSm_c (s := s) N (fun k hk => lo _ (by omega))]
    omega
  · by_cases e : k = N
    · subst e
      rw [e10]
      exact hp
    · rw [lo _ (by omega)]
      exact m5 k (by omega)
theorem aNn_Q {q : Nat → Int32} (hI : aIa q N W) (h : aJ q N) : aJ q (aNn q) := by
  rw [aNn_eq hI]
  exact h
/-- all that is kept -/
def aK (s : Nat → Int32) : Prop := aI s ∧ aJ s (aNn s)
theorem aK_of (hI : aIa s N W) (h : aJ s N) : aK s := by
  refine ⟨?_, aNn_Q hI h⟩
  unfold aI
  rw [aNn_eq hI, aWn_eq hI]
  exact hI
theorem aK_bidder {row seat purse strength : Int32} (h : aK s) : aK (aBidder s (aNn s) row seat purse strength).2.2 := by
  refine ⟨aIa_bidder h.1, ?_⟩
  have hI := aIa_bidder (r := row) (c := seat) (p := purse) (v := strength) h.1
  have hN := h.1.1.2
  unfold aBidder at hI ⊢
  by_cases h1 : aSeat row seat = 0
  · rw [if_pos h1] at hI ⊢
    exact h.2
  · rw [if_neg h1] at hI ⊢
    by_cases h2 : aIn purse 0 999 = 0
    · rw [if_pos h2] at hI ⊢
      exact h.2
    · rw [if_neg h2] at hI ⊢
      by_cases h3 : aIn strength 1 9 = 0
      · rw [if_pos h3] at hI ⊢
        exact h.2
      · rw [if_neg h3] at hI ⊢
        by_cases h4 : aFind s row seat (aNn s) 0 < 0
        · rw [if_pos h4] at hI ⊢
          by_cases h5 : s 199 = 12
          · rw [if_pos h5] at hI ⊢
            exact h.2
          · rw [if_neg h5] at hI ⊢
            have hlt : aNn s < 12 := by
              have e := h.1.1.1
              refine Nat.lt_of_le_of_ne hN (fun q => h5 ?_)
              rw [e, q]
              rfl
            have hp := aIn_R (a := 0) (b := 999) (by decide) (by decide) h2
            have hj := aJ_bid (row := row) (seat := seat) (strength := strength) h.1 hlt hp h.2
            have e : aNn (aBid s (aNn s) row seat purse strength) = aNn s + 1 := by
              show (aBid s (aNn s) row seat purse strength 199).toNatClampNeg = aNn s + 1
              unfold aBid
              rw [upd_s, upd_n (by omega), upd_n (by omega), upd_n (by omega), upd_n (by omega), upd_n (by omega), h.1.1.1, show nI (aNn s) + 1 = nI (aNn s + 1) from nI_1 _, z_cl (by omega)]
            show aJ (aBid s (aNn s) row seat purse strength) (aNn (aBid s (aNn s) row seat purse strength))
            rw [e]
            exact hj
        · rw [if_neg h4] at hI ⊢
          exact h.2
theorem aK_qu (h : aK s) (hI : aI t) (h9 : t 199 = s 199) (q : aQu s t (aNn s)) : aK t := by
  have e : aNn t = aNn s := congrArg Int32.toNatClampNeg h9
  refine ⟨hI, ?_⟩
  rw [e]
  exact aJ_qu h.1.1.2 q h.2
theorem aK_setB {b x : Int32} {cell : Nat} (hc : cell = 4 ∨ cell = 5) (h : aK s) : aK (aSetB s b x cell).2.2 := by
  have hI := aIa_setB (b := b) (v := x) h.1 hc
  unfold aSetB at hI ⊢
  by_cases h1 : aIs s b = 0
  · rw [if_pos h1]
    exact h
  · rw [if_neg h1] at hI ⊢
    by_cases h2 : aIn x 0 5 = 0
    · rw [if_pos h2]
      exact h
    · rw [if_neg h2] at hI ⊢
      obtain ⟨k, hk, rfl, hb2⟩ := aIs_nat h.1.1.1 h.1.1.2 h1
      have hN := h.1.1.2
      rw [hb2] at hI ⊢
      exact aK_qu h hI (upd_n (by omega)) (fun j hj => upd_n (by omega))
theorem aK_lot {r c : Int32} (h : aK s) : aK (aLot s (aWn s) r c).2.2 := by
  have hI := aIa_lotQ (r := r) (v := c) h.1
  have hW := h.1.2.1.2
  unfold aLot at hI ⊢
  by_cases h1 : aIn r 1 99 = 0
  · rw [if_pos h1]
    exact h
  · rw [if_neg h1] at hI ⊢
    by_cases h2 : aIn c 1 20 = 0
    · rw [if_pos h2]
      exact h
    · rw [if_neg h2] at hI ⊢
      by_cases h3 : s 200 = 8
      · rw [if_pos h3]
        exact h
      · rw [if_neg h3] at hI ⊢
        have hN := h.1.1.2
        have lo : ∀ j, j < 132 ∨ 201 < j ∨ j = 199 → aLotT s (aWn s) r c j = s j := fun j hj => by
          unfold aLotT
          rw [upd_n (by omega), upd_n (by omega), upd_n (by omega), upd_n (by omega)]
        exact aK_qu h hI (lo 199 (by omega)) (fun j hj => lo j (by omega))
theorem aK_up (h : aK s) : aK (aUp s (aWn s)).2.2 := by
  have hI := aIa_upQ h.1
  have hW := h.1.2.1.2
  have hN := h.1.1.2
  unfold aUp at hI ⊢
  by_cases h1 : s 148 = 1
  · rw [if_pos h1]
    exact h
  · rw [if_neg h1] at hI ⊢
    by_cases h2 : s 200 = 0
    · rw [if_pos h2]
      exact h
    · rw [if_neg h2] at hI ⊢
      exact aK_qu h hI (aUpT_n hW (by omega) (by omega)) (fun j hj => aUpT_n hW (by omega) (by omega))
theorem aK_cough {b : Int32} (h : aK s) : aK (aCough s b).2.2 := by
  have hI := aIa_coughQ (b := b) h.1
  have hN := h.1.1.2
  unfold aCough at hI ⊢
  by_cases h1 : aIs s b = 0
  · rw [if_pos h1]
    exact h
  · rw [if_neg h1] at hI ⊢
    obtain ⟨k, hk, rfl, hb2⟩ := aIs_nat h.1.1.1 h.1.1.2 h1
    rw [hb2] at hI ⊢
    exact aK_qu h hI (aCgh_n (by omega) (by omega) (by omega) (by omega) (by omega)) (aQu_cgh h.1 hk)
theorem aK_beats {m : Int32} (h : aK s) : aK (aBeats s (aNn s) m).2.2 := by
  unfold aBeats
  by_cases h1 : aIn m 1 50 = 0
  · rw [if_pos h1]
    exact h
  · rw [if_neg h1]
    by_cases h2 : s 198 + m ≤ 9999
    · rw [if_pos h2]
      exact aK_of (aIa_pass _ s h.1) (aJ_pass _ s h.1 h.2)
    · rw [if_neg h2]
      exact h
theorem aK_set {k x : Int32} (h : aK s) : aK (aSet s k x).2.2 := by
  have hN := h.1.1.2
  have hW := h.1.2.1.2
  unfold aSet
  by_cases h1 : aIn k 0 2 = 0
  · rw [if_pos h1]
    exact h
  · rw [if_neg h1]
    by_cases h2 : aIn x 1 9 = 0
    · rw [if_pos h2]
      exact h
    · rw [if_neg h2]
      obtain ⟨j, -, hj, rfl, hb2⟩ := aIn_nat (a := 0) (b := 2) (by omega) (by omega) h1
      rw [hb2]
      have hI : aIa (upd s (212 + j) x) (aNn s) (aWn s) := aIa_irr h.1 (by unfold aRel; omega)
      exact aK_of hI (aJ_qu hN (fun i hi => upd_n (by omega)) h.2)
theorem aNight_n {sp : Nat → Int32} {j : Nat} (hN : N ≤ 12) (h : j ≠ 209) (h2 : ∀ i, i < N → j ≠ 11 * i + 4) : aNight s sp N j = s j := by
  unfold aNight aNe
  rw [upd_n h, aNl_n N 0 s (fun i _ hi => h2 i (by omega))]
theorem aJ_night {sp : Nat → Int32} (hN : N ≤ 12) (h : aJ s N) (h9 : ¬ s 209 = 999) : aJ (aNight s sp N) N := by
  obtain ⟨h2, ⟨x, -, hx, e⟩, h4⟩ := h
  refine ⟨fun k j a1 a2 a3 a4 => ?_, ⟨x + 1, by omega, ?_, ?_⟩, aMs_qu hN h4 (fun j hj h2 => aNight_n hN (by omega) (fun i hi => by omega)) (aNight_n hN (by omega) (fun i hi => by omega)) (aNight_n hN (by omega) (fun i hi => by omega))⟩
  · rw [aNight_n hN (by omega) (fun i hi => by omega)]
    exact h2 k j a1 a2 a3 a4
  · have : x ≠ 999 := fun q => h9 (by rw [e, q]; rfl)
    omega
  · unfold aNight aNe
    rw [upd_s, aNl_n N 0 s (fun i _ hi => by omega), e]
    exact nI_1 x
theorem aK_ngt {sp : Nat → Int32} (h : aK s) : aK (aNgt s sp (aNn s)).2.2 := by
  unfold aNgt
  by_cases h1 : s 148 = 1
  · rw [if_pos h1]
    exact h
  · rw [if_neg h1]
    by_cases h2 : s 209 = 999
    · rw [if_pos h2]
      exact h
    · rw [if_neg h2]
      exact aK_of (aIa_night h.1) (aJ_night h.1.1.2 h.2 h2)
end CJ
