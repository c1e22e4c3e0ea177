-- how the changes go with the relation
section CT
variable {v v' : Nat → Nat → Int32} {p p' : Nat → Nat} {s s' : Nat → Int32} {N W K o k how : Nat} {x : Int32}
/-- the block stands for s, whatever the counts -/
def AT (v : Nat → Nat → Int32) (p : Nat → Nat) (s : Nat → Int32) : Prop := ∃ N W K : Nat, s 199 = nI N ∧ s 200 = nI W ∧ s 210 = nI K ∧ AR v p s N W K
theorem AT_of (h : AT v p s) (hI : aIa s N W) : ∃ K, s 210 = nI K ∧ AR v p s N W K := by
  obtain ⟨N', W', K, h1, h2, h3, hA⟩ := h
  have e1 : N' = N := by
    have := congrArg Int32.toNatClampNeg (h1.symm.trans hI.1.1)
    have q1 := hA.1.1
    have q2 := hI.1.2
    rw [nI_clamp (by omega), nI_clamp (by omega)] at this
    exact this
  have e2 : W' = W := by
    have := congrArg Int32.toNatClampNeg (h2.symm.trans hI.2.1.1)
    have q1 := hA.1.2.1
    have q2 := hI.2.1.2
    rw [nI_clamp (by omega), nI_clamp (by omega)] at this
    exact this
  rw [e1, e2] at hA
  exact ⟨K, h3, hA⟩
theorem AT_mk (hA : AR v p s N W K) (hI : aIa s N W) (hK : s 210 = nI K) : AT v p s := ⟨N, W, K, hI.1.1, hI.2.1.1, hK, hA⟩
theorem ar_grow (h : AR v p s N W K) (hN : N < 12) (hv : ∀ a b, a ≠ 2 + N → v' a b = v a b) (hs : ∀ i, i < 11 * N ∨ 11 * N + 11 ≤ i → s' i = s i) (hj : ∀ j, j < 11 → v' (2 + N) (bS j) = s' (11 * N + j)) : AR v' p s' (N + 1) W K := by
  obtain ⟨hn, hP, hZ, hS, hB, hQ, hG, hU⟩ := h
  have hL : ∀ q, aL q → ∀ a, v' q a = v q a := fun q hq a => hv _ _ (fun e => by unfold aL at hq; omega)
  refine ⟨⟨by omega, hn.2.1, hn.2.2⟩, hP, fun q hq => ?_, fun q a ha => ?_, fun i m hi' hm => ?_, fun i hi' => ?_, fun i hi' => ?_, fun q => ?_⟩
  · rw [hL q hq, hL q hq]
    exact hZ q hq
  · have hr := sJ_rng ha
    rw [hv _ _ (fun e => by omega), hs _ (by omega)]
    exact hS q a ha
  · by_cases e : i = N
    · subst e
      exact hj m hm
    · rw [hv _ _ (fun q => e (by omega)), hs _ (by omega)]
      exact hB i m (by omega) hm
  · rw [hL _ (hP.1 i (by omega)), hL _ (hP.1 i (by omega)), hs _ (by omega), hs _ (by omega)]
    refine ⟨(hQ i hi').1, (hQ i hi').2.1, fun m h1 h2 => ?_⟩
    rw [hL _ (hP.1 i (by omega))]
    exact (hQ i hi').2.2 m h1 h2
  · have q := hG i hi'
    unfold AG1 at q ⊢
    rw [hL _ (hP.1 _ (by omega)), hL _ (hP.1 _ (by omega)), hL _ (hP.1 _ (by omega)), hL _ (hP.1 _ (by omega)), hL _ (hP.1 _ (by omega)), hs _ (by omega), hs _ (by omega), hs _ (by omega), hs _ (by omega), hs _ (by omega)]
    exact q
  · rw [hs _ (by omega)] at q
    have q := hU q
    unfold AU at q ⊢
    have e : ∀ a, 149 ≤ a → s' a = s a := fun a h1 => hs a (by omega)
    rw [hL _ (hP.1 _ (by omega)), hL _ (hP.1 _ (by omega)), hL _ (hP.1 _ (by omega)), hL _ (hP.1 _ (by omega)), hL _ (hP.1 _ (by omega)), hL _ (hP.1 _ (by omega)), hL _ (hP.1 _ (by omega)), hL _ (hP.1 _ (by omega)), hL _ (hP.1 _ (by omega)), e _ (by omega), e _ (by omega), e _ (by omega), e _ (by omega), e _ (by omega), e _ (by omega), e _ (by omega), e _ (by omega), e _ (by omega)]
    exact q
theorem ar_growQ (h : AR v p s N W K) (hW : W < 8) (hv : ∀ a b, a ≠ p W → v' a b = v a b) (hz : aZb (v' (p W) 4) ∧ aZb (v' (p W) 5)) (hs : ∀ i, i ≠ 132 + 2 * W → i ≠ 133 + 2 * W → s' i = s i) (hq : v' (p W) 0 = s' (132 + 2 * W) ∧ v' (p W) 1 = s' (133 + 2 * W) ∧ ∀ m, 2 ≤ m → m < 9 → v' (p W) m = if m = 3 then -1 else 0) : AR v' p s' N (W + 1) K := by
  obtain ⟨hn, hP, hZ, hS, hB, hQ, hG, hU⟩ := h
  have hw := hP.1 W (by omega)
  have hL : ∀ i, i < 17 → i ≠ W → ∀ a, v' (p i) a = v (p i) a := fun i hi hne a => hv _ _ (fun e => hne (hP.2 i W hi (by omega) e))
  refine ⟨⟨hn.1, by omega, hn.2.2⟩, hP, fun q hq' => ?_, fun q a ha => ?_, fun i m hi' hm => ?_, fun i hi' => ?_, fun i hi' => ?_, fun q => ?_⟩
  · by_cases e : q = p W
    · rw [e]
      exact hz
    · rw [hv _ _ e, hv _ _ e]
      exact hZ q hq'
  · have hr := sJ_rng ha
    rw [hv _ _ (fun e => by unfold aL at hw; omega), hs _ (by omega) (by omega)]
    exact hS q a ha
  · rw [hv _ _ (fun e => by unfold aL at hw; omega), hs _ (by omega) (by omega)]
    exact hB i m hi' hm
  · by_cases e : i = W
    · subst e
      exact hq
    · rw [hL i (by omega) e, hL i (by omega) e, hs _ (by omega) (by omega), hs _ (by omega) (by omega)]
      refine ⟨(hQ i (by omega)).1, (hQ i (by omega)).2.1, fun m h1 h2 => ?_⟩
      rw [hL i (by omega) e]
      exact (hQ i (by omega)).2.2 m h1 h2
  · have q := hG i hi'
    unfold AG1 at q ⊢
    rw [hL _ (by omega) (by omega), hL _ (by omega) (by omega), hL _ (by omega) (by omega), hL _ (by omega) (by omega), hL _ (by omega) (by omega), hs _ (by omega) (by omega), hs _ (by omega) (by omega), hs _ (by omega) (by omega), hs _ (by omega) (by omega), hs _ (by omega) (by omega)]
    exact q
  · rw [hs _ (by omega) (by omega)] at q
    have q := hU q
    unfold AU at q ⊢
    have e : ∀ a, 149 ≤ a → s' a = s a := fun a h1 => hs a (by omega) (by omega)
    have l : ∀ a, v' (p 16) a = v (p 16) a := hL 16 (by omega) (by omega)
    rw [l, l, l, l, l, l, l, l, l, e _ (by omega), e _ (by omega), e _ (by omega), e _ (by omega), e _ (by omega), e _ (by omega), e _ (by omega), e _ (by omega), e _ (by omega)]
    exact q
/-- the next lot is raised: the places go round -/
def pR (p : Nat → Nat) (k : Nat) : Nat → Nat := fun i => if i = 16 then p 0 else if i + 1 < k then p (i + 1) else p i
theorem pR_1 : va_up p 16 (p 0) = pR p 1 := by
  funext i
  unfold pR
  by_cases h : i = 16
  · subst h
    rw [va_s, if_pos rfl]
  · rw [va_n h, if_neg h, if_neg (by omega)]
theorem pR_step (h1 : 1 ≤ k) (h2 : k < 8) : va_up (pR p k) (k - 1) (pR p k k) = pR p (k + 1) := by
  funext i
  by_cases h : i = k - 1
  · subst h
    rw [va_s]
    unfold pR
    rw [if_neg (by omega), if_neg (by omega), if_neg (by omega), if_pos (by omega), Nat.sub_add_cancel h1]
  · rw [va_n h]
    unfold pR
    by_cases h3 : i = 16
    · rw [if_pos h3, if_pos h3]
    · rw [if_neg h3, if_neg h3]
      by_cases h4 : i + 1 < k
      · rw [if_pos h4, if_pos (by omega)]
      · rw [if_neg h4, if_neg (by omega)]
def pRs (p : Nat → Nat) : Nat → Nat := va_up (pR p 8) 7 (p 16)
theorem pRs_at (i : Nat) (h : i < 17) : pRs p i = p (if i = 16 then 0 else if i < 7 then i + 1 else if i = 7 then 16 else i) := by
  unfold pRs
  by_cases h7 : i = 7
  · subst h7
    rw [va_s]
    rfl
  · rw [va_n h7]
    unfold pR
    by_cases h16 : i = 16
    · rw [if_pos h16, if_pos h16]
    · rw [if_neg h16, if_neg h16]
      by_cases h4 : i < 7
      · rw [if_pos (by omega), if_pos h4]
      · rw [if_neg (by omega), if_neg h4, if_neg h7]
theorem AP_of (hP : AP p) (f : Nat → Nat) (hf : ∀ i, i < 17 → f i < 17) (hi : ∀ i j, i < 17 → j < 17 → f i = f j → i = j) (he : ∀ i, i < 17 → p' i = p (f i)) : AP p' := by
  refine ⟨fun i h => ?_, fun i j h1 h2 e => ?_⟩
  · rw [he i h]
    exact hP.1 _ (hf i h)
  · rw [he i h1, he j h2] at e
    exact hi i j h1 h2 (hP.2 _ _ (hf i h1) (hf j h2) e)
theorem AP_R (hP : AP p) : AP (pRs p) := by
  refine AP_of hP (fun i => if i = 16 then 0 else if i < 7 then i + 1 else if i = 7 then 16 else i) (fun i h => ?_) (fun i j h1 h2 e => ?_) (fun i h => pRs_at i h)
  · repeat' split
    all_goals omega
  · repeat' split at e
    all_goals omega
theorem ar_raise (h : AR v p s N W K) (hI : aIa s N W) (hW : 0 < W) : AR (up2 (up2 v 0 6 (s 200 - 1)) 0 8 1) (pRs p) (aUpT s W) N (W - 1) K := by
  obtain ⟨hn, hP, hZ, hS, hB, hQ, hG, hU⟩ := h
  have h8 : W ≤ 8 := hn.2.1
  obtain ⟨u1, u2, u3, u4, u5⟩ := aUpT_up (s := s) (W := W) h8
  have hL : ∀ q, aL q → ∀ a, up2 (up2 v 0 6 (s 200 - 1)) 0 8 1 q a = v q a := fun q hq a => by
    rw [up2_n (fun e _ => by unfold aL at hq; omega), up2_n (fun e _ => by unfold aL at hq; omega)]
  have hP' := AP_R hP
  refine ⟨⟨hn.1, by omega, hn.2.2⟩, hP', fun q hq => ?_, fun q a ha => ?_, fun i j hi' hj' => ?_, fun i hi' => ?_, fun i hi' => ?_, fun _ => ?_⟩
  · rw [hL q hq, hL q hq]
    exact hZ q hq
  · have hr := sJ_rng ha
    by_cases e8 : q = 0 ∧ a = 8
    · rw [e8.1, e8.2, up2_s]
      exact u1.symm
    · rw [up2_n (fun e1 e2 => e8 ⟨e1, e2⟩)]
      by_cases e6 : q = 0 ∧ a = 6
      · rw [e6.1, e6.2, up2_s]
        exact u5.symm
      · rw [up2_n (fun e1 e2 => e6 ⟨e1, e2⟩)]
        have g1 : sJ q a ≠ 148 := fun e => e8 (sJ_inj (o' := 0) (k' := 8) ha (by decide) e)
        have g2 : sJ q a ≠ 200 := fun e => e6 (sJ_inj (o' := 0) (k' := 6) ha (by decide) e)
        rw [aUpT_n h8 (by omega) g2]
        exact hS q a ha
  · rw [up2_n (fun e _ => by omega), up2_n (fun e _ => by omega), aUpT_n h8 (by omega) (by omega)]
    exact hB i j hi' hj'
  · have e : pRs p i = p (i + 1) := by
      rw [pRs_at i (by omega), if_neg (by omega), if_pos (by omega)]
    have q := hQ (i + 1) (by omega)
    rw [e, hL _ (hP.1 _ (by omega)), hL _ (hP.1 _ (by omega)), aUpT_w h8 (by omega) (by omega), aUpT_w h8 (by omega) (by omega)]
    refine ⟨q.1, q.2.1, fun m h1 h2 => ?_⟩
    rw [hL _ (hP.1 _ (by omega))]
    exact q.2.2 m h1 h2
  · have e : pRs p (8 + i) = p (8 + i) := by
      rw [pRs_at _ (by omega), if_neg (by omega), if_neg (by omega), if_neg (by omega)]
    have q := hG i hi'
    unfold AG1 at q ⊢
    rw [e, hL _ (hP.1 _ (by omega)), hL _ (hP.1 _ (by omega)), hL _ (hP.1 _ (by omega)), hL _ (hP.1 _ (by omega)), hL _ (hP.1 _ (by omega)), aUpT_n h8 (by omega) (by omega), aUpT_n h8 (by omega) (by omega), aUpT_n h8 (by omega) (by omega), aUpT_n h8 (by omega) (by omega), aUpT_n h8 (by omega) (by omega)]
    exact q
  · have e : pRs p 16 = p 0 := by
      rw [pRs_at _ (by omega), if_pos rfl]
    obtain ⟨q1, q2, q3⟩ := hQ 0 hW
    have l := hL _ (hP.1 0 (by omega))
    unfold AU
    rw [e, l, l, l, l, l, l, l, l, l, u2, u3, u4 151 (by omega) (by omega), u4 152 (by omega) (by omega), u4 156 (by omega) (by omega), u4 157 (by omega) (by omega), u4 155 (by omega) (by omega), u4 153 (by omega) (by omega), u4 154 (by omega) (by omega)]
    exact ⟨q1, q2, q3 2 (by omega) (by omega), q3 3 (by omega) (by omega), q3 4 (by omega) (by omega), q3 5 (by omega) (by omega), q3 6 (by omega) (by omega), q3 7 (by omega) (by omega), q3 8 (by omega) (by omega)⟩
-- a lot goes
theorem aGo1_at (j : Nat) : aGo1 (aShf s 4) how j = if j = 158 then nI how else if j = 159 then s 151 else if j = 160 then s 152 else if j = 161 then s 153 else if j = 162 then s 155 else if 162 < j ∧ j < 198 then s (j - 5) else s j := by
  have lo : ∀ i, i < 158 → aShf s 4 i = s i := fun i hi => aShf_lo (by omega)
  unfold aGo1
  by_cases h1 : j = 162
  · subst h1
    rw [upd_s, upd_n (by omega), upd_n (by omega), upd_n (by omega), upd_n (by omega), lo _ (by omega)]
    rfl
  · rw [upd_n h1]
    by_cases h2 : j = 161
    · subst h2
      rw [upd_s, upd_n (by omega), upd_n (by omega), upd_n (by omega), lo _ (by omega)]
      rfl
    · rw [upd_n h2]
      by_cases h3 : j = 160
      · subst h3
        rw [upd_s, upd_n (by omega), upd_n (by omega), lo _ (by omega)]
        rfl
      · rw [upd_n h3]
        by_cases h4 : j = 159
        · subst h4
          rw [upd_s, upd_n (by omega), lo _ (by omega)]
          rfl
        · rw [upd_n h4]
          by_cases h5 : j = 158
          · subst h5
            rw [upd_s]
            rfl
          · rw [upd_n h5, if_neg h5, if_neg h4, if_neg h3, if_neg h2, if_neg h1]
            rfl
/-- which account a fate is counted in -/
def aFc (how : Nat) : Nat := if how = 3 then 211 else 202 + how
theorem aGo3_at (t : Nat → Int32) (hh : how ≤ 3) (j : Nat) : aGo3 t how j = if j = 148 then 0 else if j = aFc how then t j + 1 else t j := by
  have e : aGo3 t how = upd (upd t (aFc how) (t (aFc how) + 1)) 148 0 := by
    rcases (show how = 0 ∨ how = 1 ∨ how = 2 ∨ how = 3 by omega) with rfl | rfl | rfl | rfl <;> rfl
  rw [e]
  by_cases h1 : j = 148
  · subst h1
    rw [upd_s, if_pos rfl]
  · rw [upd_n h1, if_neg h1]
    by_cases h2 : j = aFc how
    · rw [h2, upd_s, if_pos rfl]
    · rw [upd_n h2, if_neg h2]
theorem aFc_r (hh : how ≤ 3) : aFc how = 211 ∨ (202 ≤ aFc how ∧ aFc how ≤ 204) := by
  unfold aFc
  split <;> omega
theorem aGo_at (hh : how ≤ 3) (hK : s 210 = nI K) (hK8 : K ≤ 8) (j : Nat) : aGo s how j = if j = 148 then 0 else if j = aFc how then s j + 1 else if j = 210 then nI (if 8 ≤ K then K else K + 1) else if j = 158 then nI how else if j = 159 then s 151 else if j = 160 then s 152 else if j = 161 then s 153 else if j = 162 then s 155 else if 162 < j ∧ j < 198 then s (j - 5) else s j := by
  have hf := aFc_r hh
  have e210 : aGo1 (aShf s 4) how 210 = nI K := (aGo1_at 210).trans hK
  have ef : aGo1 (aShf s 4) how (aFc how) = s (aFc how) := by
    rw [aGo1_at, if_neg (by omega), if_neg (by omega), if_neg (by omega), if_neg (by omega), if_neg (by omega), if_neg (by omega)]
  have key : ∀ x, aGo3 (upd (aGo1 (aShf s 4) how) 210 x) how j = if j = 148 then 0 else if j = aFc how then s j + 1 else if j = 210 then x else aGo1 (aShf s 4) how j := by
    intro x
    rw [aGo3_at _ hh]
    by_cases h1 : j = 148
    · rw [if_pos h1, if_pos h1]
    · rw [if_neg h1, if_neg h1]
      by_cases h2 : j = aFc how
      · rw [if_pos h2, if_pos h2, h2, upd_n (by omega), ef]
      · rw [if_neg h2, if_neg h2]
        by_cases h3 : j = 210
        · subst h3
          rw [upd_s, if_pos rfl]
        · rw [upd_n h3, if_neg h3]
  unfold aGo aGo2
  rw [e210]
  by_cases h8 : 8 ≤ K
  · rw [if_pos (show (8 : Int32) ≤ nI K from (nI_leI (a := 8) (by omega) (by omega)).mpr h8), key, if_pos h8, show nI K + 0 = nI K from nI_add K 0, aGo1_at]
  · rw [if_neg (show ¬ (8 : Int32) ≤ nI K from fun q => h8 ((nI_leI (a := 8) (by omega) (by omega)).mp q)), key, if_neg h8, show nI K + 1 = nI (K + 1) from nI_1 K, aGo1_at]
/-- the book makes room: the places go round -/
def pC (p : Nat → Nat) (k : Nat) : Nat → Nat := fun a => if 8 + k < a ∧ a < 16 then p (a - 1) else p a
theorem pC_7 : pC p 7 = p := by
  funext a
  unfold pC
  rw [if_neg (by omega)]
theorem pC_step (h1 : 0 < k) (h2 : k ≤ 7) : va_up (pC p k) (8 + k) (pC p k (8 + (k - 1))) = pC p (k - 1) := by
  funext i
  by_cases h : i = 8 + k
  · subst h
    rw [va_s]
    unfold pC
    rw [if_neg (by omega), if_pos (by omega)]
    exact congrArg p (by omega)
  · rw [va_n h]
    unfold pC
    by_cases h3 : 8 + k < i ∧ i < 16
    · rw [if_pos h3, if_pos (by omega)]
    · rw [if_neg h3, if_neg (by omega)]
def pCs (p : Nat → Nat) : Nat → Nat := va_up (va_up (pC p 0) 8 (p 16)) 16 (p 15)
theorem pCs_at (i : Nat) : pCs p i = p (if i = 16 then 15 else if i = 8 then 16 else if 8 < i ∧ i < 16 then i - 1 else i) := by
  unfold pCs
  by_cases h : i = 16
  · subst h
    rw [va_s, if_pos rfl]
  · rw [va_n h, if_neg h]
    by_cases h8 : i = 8
    · subst h8
      rw [va_s, if_pos rfl]
    · rw [va_n h8, if_neg h8]
      unfold pC
      by_cases h3 : 8 < i ∧ i < 16
      · rw [if_pos (by omega), if_pos h3]
      · rw [if_neg (by omega), if_neg h3]
theorem AP_C (hP : AP p) : AP (pCs p) := by
  refine AP_of hP (fun i => if i = 16 then 15 else if i = 8 then 16 else if 8 < i ∧ i < 16 then i - 1 else i) (fun i h => ?_) (fun i j h1 h2 e => ?_) (fun i h => pCs_at i)
  · repeat' split
    all_goals omega
  · repeat' split at e
    all_goals omega
def cCl1 (v : Nat → Nat → Int32) (p : Nat → Nat) (s : Nat → Int32) (how : Nat) : Nat → Nat → Int32 := up2 (up2 (up2 v (p 16) 9 (nI how)) 0 8 0) 32 how (s (aFc how) + 1)
def cCl (v : Nat → Nat → Int32) (p : Nat → Nat) (s : Nat → Int32) (how K : Nat) : Nat → Nat → Int32 := if 8 ≤ K then cCl1 v p s how else up2 (cCl1 v p s how) 0 7 (nI (K + 1))
theorem sJ_f (hh : how ≤ 3) : sJ 32 how = aFc how := by
  rcases (show how = 0 ∨ how = 1 ∨ how = 2 ∨ how = 3 by omega) with rfl | rfl | rfl | rfl <;> rfl
theorem cCl_L (h16 : aL (p 16)) {q : Nat} (hq : aL q) (a : Nat) : cCl v p s how K q a = if q = p 16 ∧ a = 9 then nI how else v q a := by
  have h1 : cCl v p s how K q a = cCl1 v p s how q a := by
    unfold cCl
    split
    · rfl
    · exact up2_n (fun e _ => by unfold aL at hq; omega)
  rw [h1]
  unfold cCl1
  rw [up2_n (fun e _ => by unfold aL at hq; omega), up2_n (fun e _ => by unfold aL at hq; omega)]
  rfl
theorem ar_close (h : AR v p s N W K) (hK : s 210 = nI K) (hup : s 148 = 1) (hx : s 155 ≤ 0 ↔ s 152 ≤ 0) (hh : how ≤ 3) : AR (cCl v p s how K) (pCs p) (aGo s how) N W (if 8 ≤ K then K else K + 1) := by
  obtain ⟨hn, hP, hZ, hS, hB, hQ, hG, hU⟩ := h
  have hU := hU hup
  have h8 := hn.2.2
  have h16 := hP.1 16 (by omega)
  have hf := aFc_r hh
  have A := fun j => aGo_at (s := s) hh hK h8 j
  have hC : ∀ q, aL q → ∀ a, a ≠ 9 → cCl v p s how K q a = v q a := fun q hq a ha => by rw [cCl_L h16 hq, if_neg (fun w => ha w.2)]
  have hs : ∀ j, j < 148 ∨ (149 ≤ j ∧ j < 158) → aGo s how j = s j := fun j hj => by
    rw [A, if_neg (by omega), if_neg (by omega), if_neg (by omega), if_neg (by omega), if_neg (by omega), if_neg (by omega), if_neg (by omega), if_neg (by omega), if_neg (by omega)]
  refine ⟨⟨hn.1, hn.2.1, by split <;> omega⟩, AP_C hP, fun q hq => ?_, fun q a ha => ?_, fun i j hi' hj' => ?_, fun i hi' => ?_, fun i hi' => ?_, fun q => ?_⟩
  · rw [hC q hq 4 (by omega), hC q hq 5 (by omega)]
    exact hZ q hq
  · have hr := sJ_rng ha
    have hnl : ¬ q = p 16 := fun e => aL_sI ha (e ▸ h16)
    rw [A]
    by_cases e8 : q = 0 ∧ a = 8
    · rw [e8.1, e8.2, if_pos (show sJ 0 8 = 148 from rfl)]
      unfold cCl cCl1
      split
      · rw [up2_n (by omega), up2_s]
      · rw [up2_n (by omega), up2_n (by omega), up2_s]
    · rw [if_neg (show ¬ sJ q a = 148 from fun e => e8 (sJ_inj (o' := 0) (k' := 8) ha (by decide) e))]
      by_cases ef : q = 32 ∧ a = how
      · rw [ef.1, ef.2, sJ_f hh, if_pos rfl]
        unfold cCl cCl1
        split
        · rw [up2_s]
        · rw [up2_n (by omega), up2_s]
      · rw [if_neg (show ¬ sJ q a = aFc how from fun e => ef (sJ_inj (o' := 32) (k' := how) ha (by omega) (e.trans (sJ_f hh).symm)))]
        have e1 : cCl1 v p s how q a = v q a := by
          unfold cCl1
          rw [up2_n (fun e1 e2 => ef ⟨e1, e2⟩), up2_n (fun e1 e2 => e8 ⟨e1, e2⟩), up2_n (fun e1 _ => hnl e1)]
        by_cases e7 : q = 0 ∧ a = 7
        · rw [e7.1, e7.2, if_pos (show sJ 0 7 = 210 from rfl)]
          unfold cCl
          by_cases hk8 : 8 ≤ K
          · rw [if_pos hk8, if_pos hk8]
            rw [e7.1, e7.2] at e1
            rw [e1, ← hK]
            exact hS 0 7 (by decide)
          · rw [if_neg hk8, if_neg hk8, up2_s]
        · rw [if_neg (show ¬ sJ q a = 210 from fun e => e7 (sJ_inj (o' := 0) (k' := 7) ha (by decide) e)), if_neg (by omega), if_neg (by omega), if_neg (by omega), if_neg (by omega), if_neg (by omega), if_neg (by omega), ← hS q a ha, ← e1]
          unfold cCl
          split
          · rfl
          · rw [up2_n (fun e1 e2 => e7 ⟨e1, e2⟩)]
  · rw [hs _ (by omega), ← hB i j hi' hj']
    unfold cCl cCl1
    have l : ¬ 2 + i = p 16 := fun e => by unfold aL at h16; omega
    split
    · rw [up2_n (fun e _ => by omega), up2_n (fun e _ => by omega), up2_n (fun e _ => l e)]
    · rw [up2_n (fun e _ => by omega), up2_n (fun e _ => by omega), up2_n (fun e _ => by omega), up2_n (fun e _ => l e)]
  · have e : pCs p i = p i := by
      rw [pCs_at, if_neg (by omega), if_neg (by omega), if_neg (by omega)]
    rw [e, hC _ (hP.1 i (by omega)) 0 (by omega), hC _ (hP.1 i (by omega)) 1 (by omega), hs _ (by omega), hs _ (by omega)]
    refine ⟨(hQ i hi').1, (hQ i hi').2.1, fun m h1 h2 => ?_⟩
    rw [hC _ (hP.1 i (by omega)) m (by omega)]
    exact (hQ i hi').2.2 m h1 h2
  · have hi8 : i < 8 := by
      revert hi'
      split <;> omega
    by_cases e0 : i = 0
    · subst e0
      have e : pCs p (8 + 0) = p 16 := by
        rw [pCs_at, if_neg (by omega), if_pos (by omega)]
      unfold AG1
      rw [e, hC _ h16 2 (by omega), hC _ h16 6 (by omega), hC _ h16 3 (by omega), hC _ h16 7 (by omega), cCl_L h16 h16, if_pos ⟨rfl, rfl⟩]
      obtain ⟨g0, g1, g2, g3, g4, g5, g6, g7, g9⟩ := hU
      refine ⟨?_, ?_, ?_, ?_, ?_, ?_⟩
      · rw [A, if_neg (by omega), if_neg (by omega), if_neg (by omega), if_pos (by omega)]
      · rw [g2, A, if_neg (by omega), if_neg (by omega), if_neg (by omega), if_neg (by omega), if_pos (by omega)]
      · rw [g6, hx, A, if_neg (by omega), if_neg (by omega), if_neg (by omega), if_neg (by omega), if_neg (by omega), if_pos (by omega)]
      · rw [g3, A, if_neg (by omega), if_neg (by omega), if_neg (by omega), if_neg (by omega), if_neg (by omega), if_pos (by omega)]
      · rw [g7, A, if_neg (by omega), if_neg (by omega), if_neg (by omega), if_neg (by omega), if_neg (by omega), if_neg (by omega), if_pos (by omega)]
      · rw [g6, A, if_neg (by omega), if_neg (by omega), if_neg (by omega), if_neg (by omega), if_neg (by omega), if_neg (by omega), if_neg (by omega), if_pos (by omega)]
    · obtain ⟨j, rfl⟩ : ∃ j, i = j + 1 := ⟨i - 1, by omega⟩
      have hjK : j < K := by
        revert hi'
        split <;> omega
      have e : pCs p (8 + (j + 1)) = p (8 + j) := by
        rw [pCs_at, if_neg (by omega), if_neg (by omega), if_pos (by omega)]
        exact congrArg p (by omega)
      have hl := hP.1 (8 + j) (by omega)
      have hne : ¬ p (8 + j) = p 16 := fun w => by have := hP.2 _ _ (by omega) (by omega) w; omega
      have q := hG j hjK
      have B : ∀ m, m < 5 → aGo s how (158 + m + 5 * (j + 1)) = s (158 + m + 5 * j) := fun m hm => by
        rw [A, if_neg (by omega), if_neg (by omega), if_neg (by omega), if_neg (by omega), if_neg (by omega), if_neg (by omega), if_neg (by omega), if_neg (by omega), if_pos (by omega)]
        exact congrArg s (by omega)
      unfold AG1 at q ⊢
      rw [e, hC _ hl 2 (by omega), hC _ hl 6 (by omega), hC _ hl 3 (by omega), hC _ hl 7 (by omega), cCl_L h16 hl, if_neg (fun w => hne w.1)]
      have b0 := B 0 (by omega)
      have b1 := B 1 (by omega)
      have b2 := B 2 (by omega)
      have b3 := B 3 (by omega)
      have b4 := B 4 (by omega)
      simp only [Nat.reduceAdd, Nat.add_zero] at b0 b1 b2 b3 b4
      rw [b0, b1, b2, b3, b4]
      exact q
  · rw [A, if_pos rfl] at q
    exact absurd q (by decide)
end CT
