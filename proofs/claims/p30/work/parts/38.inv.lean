-- mufflers and settings; what is kept, below 215
section CE
variable {s t u : Nat → Int32} {N W K k : Nat}
def aE (s : Nat → Int32) : Prop := (∀ k, k < 12 → aR (s (11 * k + 5)) 0 5) ∧ ∀ k, k < 3 → aR (s (212 + k)) 0 9
def aQe (s t : Nat → Int32) : Prop := ∀ j, ((j < 132 ∧ j % 11 = 5) ∨ (212 ≤ j ∧ j < 215)) → t j = s j
theorem aQe_tr (h1 : aQe s t) (h2 : aQe t u) : aQe s u := fun j hj => (h2 j hj).trans (h1 j hj)
theorem aE_q (q : aQe s t) (h : aE s) : aE t := by
  refine ⟨fun k hk => ?_, fun k hk => ?_⟩
  · rw [q _ (by omega)]
    exact h.1 k hk
  · rw [q _ (by omega)]
    exact h.2 k hk
theorem aQe_go {how : Nat} (hh : how ≤ 3) (hK : s 210 = nI K) (hK8 : K ≤ 8) : aQe s (aGo s how) := by
  intro j hj
  have hf := aFc_r hh
  rw [aGo_at hh hK hK8, if_neg (by omega), if_neg (by omega), if_neg (by omega), if_neg (by omega), if_neg (by omega), if_neg (by omega), if_neg (by omega), if_neg (by omega), if_neg (by omega)]
theorem aQe_cgh {c : Int32} (hI : aIa s N W) (hk : k < N) : aQe s (aCgh s k c).2 := by
  have hN := hI.1.2
  rw [← dCgh_eq (by omega)]
  have h1 : aQe s (aC1 s k) := fun j hj => aC1_n (by omega) (by omega)
  unfold dCgh
  split
  · refine aQe_tr h1 ?_
    have h2 : aQe (aC1 s k) (aC2 (aC1 s k) k c) := fun j hj => aC2_n (by omega) (by omega) (by omega) (by omega) (by omega)
    refine aQe_tr h2 ?_
    show aQe _ (dCgT _ k)
    unfold dCgT
    split
    · exact fun _ _ => rfl
    · unfold dDb
      have h3 : aQe (aC2 (aC1 s k) k c) (aC3 (aC2 (aC1 s k) k c)) := fun j hj => aC3_n (by omega) (by omega)
      split
      · exact h3
      · refine aQe_tr h3 ?_
        obtain ⟨K, -, hK8, hK⟩ := hI.2.2.1
        refine aQe_go (K := K) (by decide) ?_ hK8
        rw [aC3_n (by omega) (by omega), aC2_n (by omega) (by omega) (by omega) (by omega) (by omega), aC1_n (by omega) (by omega)]
        exact hK
  · exact h1
theorem aQe_bt : ∀ (n k : Nat) (u : Int32) (s : Nat → Int32), k + n ≤ N → aIa s N W → aQe s (aBt n k u s)
  | 0, _, _, _, _, _ => fun _ _ => rfl
  | n + 1, k, u, s, hk, h => by
    unfold aBt
    split
    · exact fun _ _ => rfl
    · split
      · exact aQe_bt n (k + 1) u s (by omega) h
      · split
        · exact aQe_tr (aQe_cgh h (by omega)) (aQe_bt n (k + 1) 0 _ (by omega) (aIa_cgh h (by omega)).1)
        · exact aQe_tr (aQe_cgh h (by omega)) (aQe_bt n (k + 1) 1 _ (by omega) (aIa_cgh h (by omega)).1)
theorem aQe_ham (hI : aIa s N W) : aQe s (aHam s) := by
  obtain ⟨K, -, hK8, hK⟩ := hI.2.2.1
  have hN := hI.1.2
  unfold aHam
  split
  · exact aQe_go (by decide) hK hK8
  · rename_i h1
    split
    · exact aQe_go (by decide) hK hK8
    · have hw := (aWho_of hI h1).2
      have e : aQe s (aH1 s (aWho s)) := fun j hj => by
        unfold aH1
        rw [upd_n (by omega), upd_n (by omega), upd_n (by omega), upd_n (by omega)]
      exact aQe_tr e (aQe_go (by decide) ((aH1_n (by omega) (by omega) (by omega)).trans hK) hK8)
theorem aQe_be (hI : aIa s N W) : aQe s (aBe s) := by
  have e : ∀ t : Nat → Int32, aIa t N W → aQe t (aBf t) := by
    intro t ht
    have h2 : aIa (upd t 157 0) N W := aIa_of ht (fun j hj => by unfold aRel at hj; exact upd_n (by omega))
    have h3 : aQe t (upd t 157 0) := fun j hj => upd_n (by omega)
    unfold aBf
    split
    · exact h3
    · exact aQe_tr h3 (aQe_ham h2)
  have h1 : aIa (upd s 198 (s 198 + 1)) N W := aIa_of hI (fun j hj => by unfold aRel at hj; exact upd_n (by omega))
  have h0 : aQe s (upd s 198 (s 198 + 1)) := fun j hj => upd_n (by omega)
  unfold aBe aBg
  refine aQe_tr h0 ?_
  generalize upd s 198 (s 198 + 1) = t at *
  split
  · split
    · exact aQe_tr (t := upd t 154 0) (fun j hj => upd_n (by omega)) (e _ (aIa_of h1 (fun j hj => by unfold aRel at hj; exact upd_n (by omega))))
    · exact aQe_tr (t := upd t 154 (t 154 + 1)) (fun j hj => upd_n (by omega)) (e _ (aIa_of h1 (fun j hj => by unfold aRel at hj; exact upd_n (by omega))))
  · exact fun _ _ => rfl
theorem aQe_beat (hI : aIa s N W) : aQe s (aBeat s N) := by
  unfold aBeat
  split
  · exact aQe_tr (aQe_bt N 0 1 s (by omega) hI) (aQe_be (aIa_bt N 0 1 s (by omega) hI))
  · exact aQe_tr (aQe_bt N 0 0 s (by omega) hI) (aQe_be (aIa_bt N 0 0 s (by omega) hI))
theorem aQe_pass : ∀ (n : Nat) (s : Nat → Int32), aIa s N W → aQe s (aPass N n s)
  | 0, _, _ => fun _ _ => rfl
  | n + 1, _, hI => aQe_tr (aQe_beat hI) (aQe_pass n _ (aIa_beat hI))
/-- all that is kept, for the calls too -/
def aM (s : Nat → Int32) : Prop := aK s ∧ aE s
/-- an answer that is no error: a change is recorded -/
def aOkQ (s : Nat → Int32) (q : Int32 × Bool × (Nat → Int32)) : Prop := (q.2.1 = false → q.1 < 0 ∧ q.2.2 = s) ∧ (q.2.1 = true → ¬ q.1 < 0) ∧ aE q.2.2
theorem aOk_f {x : Int32} (h : aE s) (hx : x < 0) : aOkQ s (x, false, s) := ⟨fun _ => ⟨hx, rfl⟩, fun q => absurd q Bool.false_ne_true, h⟩
theorem aOk_t {x : Int32} (h : aE t) (hx : ¬ x < 0) : aOkQ s (x, true, t) := ⟨fun q => absurd q.symm Bool.false_ne_true, fun _ => hx, h⟩
theorem aR_nn {x : Int32} {a b : Nat} (hb : b < 1000000) (h : aR x a b) : ¬ x < 0 := by
  obtain ⟨n, -, hn, rfl⟩ := h
  exact nI_nlt (a := n) (b := 0) (by omega) (by omega)
theorem aOk_bidder {r c p v : Int32} (h : aM s) : aOkQ s (aBidder s (aNn s) r c p v) := by
  have hN := h.1.1.1.2
  unfold aBidder
  repeat' split
  all_goals first | exact aOk_f h.2 (by decide) | skip
  refine aOk_t (aE_q (fun j hj => ?_) h.2) (nI_nlt (a := aNn s) (b := 0) (by omega) (by omega))
  unfold aBid
  rename_i h3 h4 h5
  have hlt : aNn s < 12 := by
    refine Nat.lt_of_le_of_ne hN (fun q => h5 ?_)
    rw [h.1.1.1.1, q]
    rfl
  rw [upd_n (by omega), upd_n (by omega), upd_n (by omega), upd_n (by omega), upd_n (by omega), upd_n (by omega)]
theorem aOk_setB {b x : Int32} {cell : Nat} (hc : cell = 4 ∨ cell = 5) (h : aM s) : aOkQ s (aSetB s b x cell) := by
  have hN := h.1.1.1.2
  unfold aSetB
  by_cases h1 : aIs s b = 0
  · rw [if_pos h1]
    exact aOk_f h.2 (by decide)
  · rw [if_neg h1]
    by_cases h2 : aIn x 0 5 = 0
    · rw [if_pos h2]
      exact aOk_f h.2 (by decide)
    · rw [if_neg h2]
      obtain ⟨k, hk, rfl, hb2⟩ := aIs_nat h.1.1.1.1 hN h1
      rw [hb2]
      have hx := aIn_R (a := 0) (b := 5) (by decide) (by decide) h2
      rcases hc with rfl | rfl
      · exact aOk_t (aE_q (fun j hj => upd_n (by omega)) h.2) (aR_nn (by decide) (h.1.1.2.2.2.1 k (by omega)).2.2.2)
      · refine aOk_t ⟨fun i hi => ?_, fun i hi => ?_⟩ (aR_nn (by decide) (h.2.1 k (by omega)))
        · by_cases e : i = k
          · rw [e, upd_s]
            exact hx
          · rw [upd_n (by omega)]
            exact h.2.1 i hi
        · rw [upd_n (by omega)]
          exact h.2.2 i hi
theorem aOk_lot {r c : Int32} (h : aM s) : aOkQ s (aLot s (aWn s) r c) := by
  have hW := h.1.1.2.1.2
  rw [← dLot_eq h.1.1]
  unfold dLot
  by_cases h1 : aIn r 1 99 = 0
  · rw [if_pos h1]
    exact aOk_f h.2 (by decide)
  · rw [if_neg h1]
    by_cases h2 : aIn c 1 20 = 0
    · rw [if_pos h2]
      exact aOk_f h.2 (by decide)
    · rw [if_neg h2]
      by_cases h3 : s 200 < 8
      · rw [if_pos h3]
        refine aOk_t (aE_q (fun j hj => ?_) h.2) ?_
        · unfold aLotT
          rw [upd_n (by omega), upd_n (by omega), upd_n (by omega), upd_n (by omega)]
        · rw [show nI (aWn s) + 1 = nI (aWn s + 1) from nI_1 _]
          exact nI_nlt (a := aWn s + 1) (b := 0) (by omega) (by omega)
      · rw [if_neg h3]
        exact aOk_f h.2 (by decide)
theorem aOk_up (h : aM s) : aOkQ s (aUp s (aWn s)) := by
  have hW := h.1.1.2.1.2
  unfold aUp
  by_cases h1 : s 148 = 1
  · rw [if_pos h1]
    exact aOk_f h.2 (by decide)
  · rw [if_neg h1]
    by_cases h2 : s 200 = 0
    · rw [if_pos h2]
      exact aOk_f h.2 (by decide)
    · rw [if_neg h2]
      have hW0 : 0 < aWn s := Nat.pos_of_ne_zero (fun q => h2 (by rw [h.1.1.2.1.1, q]; rfl))
      refine aOk_t (aE_q (fun j hj => aUpT_n hW (by omega) (by omega)) h.2) ?_
      rw [(aUpT_up hW).2.1]
      exact aR_nn (by decide) (h.1.1.2.2.2.2.2.2.2.2 0 hW0).1
theorem aOk_cough {b : Int32} (h : aM s) : aOkQ s (aCough s b) := by
  unfold aCough
  by_cases h1 : aIs s b = 0
  · rw [if_pos h1]
    exact aOk_f h.2 (by decide)
  · rw [if_neg h1]
    obtain ⟨k, hk, rfl, hb2⟩ := aIs_nat h.1.1.1.1 h.1.1.1.2 h1
    rw [hb2]
    obtain ⟨a, ha, e⟩ := (aIa_cgh (c := 0) h.1.1 hk).2
    refine aOk_t (aE_q (aQe_cgh h.1.1 hk) h.2) ?_
    rw [e]
    exact nI_nlt (a := a) (b := 0) (by omega) (by omega)
theorem aOk_beats {m : Int32} (h : aM s) : aOkQ s (aBeats s (aNn s) m) := by
  rw [← dBeats_eq h.1.1]
  unfold dBeats
  by_cases h1 : aIn m 1 50 = 0
  · rw [if_pos h1]
    exact aOk_f h.2 (by decide)
  · rw [if_neg h1]
    by_cases h2 : s 198 + m ≤ 9999
    · rw [if_pos h2]
      refine aOk_t (aE_q (aQe_pass _ s h.1.1) h.2) ?_
      unfold dEnd
      repeat' split
      all_goals decide
    · rw [if_neg h2]
      exact aOk_f h.2 (by decide)
theorem aOk_set {k x : Int32} (h : aM s) : aOkQ s (aSet s k x) := by
  unfold aSet
  by_cases h1 : aIn k 0 2 = 0
  · rw [if_pos h1]
    exact aOk_f h.2 (by decide)
  · rw [if_neg h1]
    by_cases h2 : aIn x 1 9 = 0
    · rw [if_pos h2]
      exact aOk_f h.2 (by decide)
    · rw [if_neg h2]
      obtain ⟨j, -, hj, rfl, hb2⟩ := aIn_nat (a := 0) (b := 2) (by omega) (by omega) h1
      rw [hb2]
      obtain ⟨y, -, hy, hye⟩ := aIn_R (a := 1) (b := 9) (by decide) (by decide) h2
      refine aOk_t ⟨fun i hi => ?_, fun i hi => ?_⟩ (aR_nn (by decide) (h.2.2 j (by omega)))
      · rw [upd_n (by omega)]
        exact h.2.1 i hi
      · by_cases e : i = j
        · rw [e, upd_s]
          exact ⟨y, by omega, hy, hye⟩
        · rw [upd_n (by omega)]
          exact h.2.2 i hi
theorem aPop_le : ∀ f v, aPop f v ≤ f
  | 0, _ => Nat.le_refl _
  | f + 1, v => by
    unfold aPop
    have := aPop_le f (v / 2)
    have := Nat.mod_lt v (show 2 > 0 by decide)
    omega
theorem aOk_ngt {sp : Nat → Int32} (h : aM s) : aOkQ s (aNgt s sp (aNn s)) := by
  have hN := h.1.1.1.2
  unfold aNgt
  by_cases h1 : s 148 = 1
  · rw [if_pos h1]
    exact aOk_f h.2 (by decide)
  · rw [if_neg h1]
    by_cases h2 : s 209 = 999
    · rw [if_pos h2]
      exact aOk_f h.2 (by decide)
    · rw [if_neg h2]
      have := aPop_le 12 (aCo (aNight s sp (aNn s)) (aNn s) 0 0)
      exact aOk_t (aE_q (fun j hj => aNight_n hN (by omega) (fun i hi => by omega)) h.2) (nI_nlt (a := aPop 12 _) (b := 0) (by omega) (by omega))
/-- only the cells below 215 count -/
theorem aM_ext (h : aM s) (e : ∀ j, j < 215 → t j = s j) : aM t := by
  have hI : aIa t (aNn s) (aWn s) := aIa_of h.1.1 (fun j hj => e j (by unfold aRel at hj; omega))
  have hN := h.1.1.1.2
  refine ⟨aK_of hI (aJ_qu hN (fun j hj => e j (by omega)) h.1.2), aE_q (fun j hj => e j (by omega)) h.2⟩
theorem AT_ext {v : Nat → Nat → Int32} {p : Nat → Nat} (h : AT v p s) (e : ∀ j, j < 215 → t j = s j) : AT v p t := by
  obtain ⟨N, W, K, g1, g2, g3, hn, hP, hZ, hS, hB, hQ, hG, hU⟩ := h
  refine ⟨N, W, K, (e _ (by omega)).trans g1, (e _ (by omega)).trans g2, (e _ (by omega)).trans g3, hn, hP, hZ, fun o k hi => ?_, fun k j hk hj => ?_, fun i hi => ?_, fun i hi => ?_, fun hu => ?_⟩
  · have := sJ_rng hi
    rw [e _ (by omega)]
    exact hS o k hi
  · rw [e _ (by omega)]
    exact hB k j hk hj
  · rw [e _ (by omega), e _ (by omega)]
    exact hQ i hi
  · have q := hG i hi
    unfold AG1 at q ⊢
    rw [e _ (by omega), e _ (by omega), e _ (by omega), e _ (by omega), e _ (by omega)]
    exact q
  · rw [e _ (by omega)] at hu
    have q := hU hu
    unfold AU at q ⊢
    rw [e _ (by omega), e _ (by omega), e _ (by omega), e _ (by omega), e _ (by omega), e _ (by omega), e _ (by omega), e _ (by omega), e _ (by omega)]
    exact q
end CE
