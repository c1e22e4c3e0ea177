-- how a block stands for the check's array
section CR
/-- counts, accounts, settings: which cells, and where the check has them -/
abbrev sI (o k : Nat) : Prop := (o = 0 ∧ 5 ≤ k ∧ k ≤ 16 ∧ ¬ k = 9) ∨ (o = 32 ∧ k < 4) ∨ (o = 33 ∧ k < 3)
def sJ (o k : Nat) : Nat := if o = 0 then (if k = 5 then 199 else if k = 6 then 200 else if k = 7 then 210 else if k = 8 then 148 else if k = 10 then 198 else if k = 11 then 209 else if k = 12 then 201 else if k = 13 then 205 else k + 192) else if o = 32 then (if k = 3 then 211 else 202 + k) else 212 + k
theorem sJ_rng {o k : Nat} (h : sI o k) : sJ o k = 148 ∨ (198 ≤ sJ o k ∧ sJ o k < 215) := by
  unfold sJ
  rcases h with ⟨rfl, h1, h2, h3⟩ | ⟨rfl, h1⟩ | ⟨rfl, h1⟩
  · rw [if_pos rfl]
    repeat' split
    all_goals omega
  · rw [if_neg (by decide), if_pos rfl]
    repeat' split
    all_goals omega
  · rw [if_neg (by decide), if_neg (by decide)]
    omega
/-- the way back -/
def sL (j : Nat) : Nat × Nat := if j = 199 then (0, 5) else if j = 200 then (0, 6) else if j = 210 then (0, 7) else if j = 148 then (0, 8) else if j = 198 then (0, 10) else if j = 209 then (0, 11) else if j = 201 then (0, 12) else if j = 205 then (0, 13) else if j = 211 then (32, 3) else if j < 206 then (32, j - 202) else if j < 209 then (0, j - 192) else (33, j - 212)
theorem sL_J {o k : Nat} (h : sI o k) : sL (sJ o k) = (o, k) := by
  rcases h with ⟨rfl, h1, h2, h3⟩ | ⟨rfl, h1⟩ | ⟨rfl, h1⟩
  · rcases (show k = 5 ∨ k = 6 ∨ k = 7 ∨ k = 8 ∨ k = 10 ∨ k = 11 ∨ k = 12 ∨ k = 13 ∨ k = 14 ∨ k = 15 ∨ k = 16 by omega) with rfl | rfl | rfl | rfl | rfl | rfl | rfl | rfl | rfl | rfl | rfl <;> rfl
  · rcases (show k = 0 ∨ k = 1 ∨ k = 2 ∨ k = 3 by omega) with rfl | rfl | rfl | rfl <;> rfl
  · rcases (show k = 0 ∨ k = 1 ∨ k = 2 by omega) with rfl | rfl | rfl <;> rfl
theorem sJ_inj {o k o' k' : Nat} (h : sI o k) (h' : sI o' k') (e : sJ o k = sJ o' k') : o = o' ∧ k = k' := by
  have e1 := sL_J h
  rw [e, sL_J h'] at e1
  exact ⟨(congrArg Prod.fst e1).symm, (congrArg Prod.snd e1).symm⟩
def bS (j : Nat) : Nat := if j < 3 then j else if j = 10 then 3 else j + 1
theorem bS_inj {i j : Nat} (h : i < 11) (h' : j < 11) (e : bS i = bS j) : i = j := by
  unfold bS at e
  repeat' split at e
  all_goals omega
abbrev aZb (x : Int32) : Prop := x = 0 ∨ x = 1
def AP (p : Nat → Nat) : Prop := (∀ i, i < 17 → aL (p i)) ∧ ∀ i j, i < 17 → j < 17 → p i = p j → i = j
def AZ (v : Nat → Nat → Int32) : Prop := ∀ o, aL o → aZb (v o 4) ∧ aZb (v o 5)
def AS (v : Nat → Nat → Int32) (s : Nat → Int32) : Prop := ∀ o k, sI o k → v o k = s (sJ o k)
def AB (v : Nat → Nat → Int32) (s : Nat → Int32) (N : Nat) : Prop := ∀ k j, k < N → j < 11 → v (2 + k) (bS j) = s (11 * k + j)
def AQ (v : Nat → Nat → Int32) (p : Nat → Nat) (s : Nat → Int32) (W : Nat) : Prop := ∀ i, i < W → v (p i) 0 = s (132 + 2 * i) ∧ v (p i) 1 = s (133 + 2 * i) ∧ ∀ m, 2 ≤ m → m < 9 → v (p i) m = if m = 3 then -1 else 0
def AU (v : Nat → Nat → Int32) (o : Nat) (s : Nat → Int32) : Prop := v o 0 = s 149 ∧ v o 1 = s 150 ∧ v o 2 = s 151 ∧ v o 3 = s 152 - 1 ∧ v o 4 = s 156 ∧ v o 5 = s 157 ∧ v o 6 = s 155 ∧ v o 7 = s 153 ∧ v o 8 = s 154
def AG1 (v : Nat → Nat → Int32) (o : Nat) (s : Nat → Int32) (i : Nat) : Prop := v o 9 = s (158 + 5 * i) ∧ v o 2 = s (159 + 5 * i) ∧ (v o 6 ≤ 0 ↔ s (160 + 5 * i) ≤ 0) ∧ v o 3 = s (160 + 5 * i) - 1 ∧ v o 7 = s (161 + 5 * i) ∧ v o 6 = s (162 + 5 * i)
def AG (v : Nat → Nat → Int32) (p : Nat → Nat) (s : Nat → Int32) (K : Nat) : Prop := ∀ i, i < K → AG1 v (p (8 + i)) s i
/-- the block stands for s: N bidders, W lots that wait, K in the book -/
def AR (v : Nat → Nat → Int32) (p : Nat → Nat) (s : Nat → Int32) (N W K : Nat) : Prop := (N ≤ 12 ∧ W ≤ 8 ∧ K ≤ 8) ∧ AP p ∧ AZ v ∧ AS v s ∧ AB v s N ∧ AQ v p s W ∧ AG v p s K ∧ (s 148 = 1 → AU v (p 16) s)
variable {v v' : Nat → Nat → Int32} {p : Nat → Nat} {s s' : Nat → Int32} {N W K o k : Nat} {x : Int32}
theorem ar_s (h : AR v p s N W K) (o k : Nat) (hi : sI o k) : v o k = s (sJ o k) := h.2.2.2.1 o k hi
theorem ar_b (h : AR v p s N W K) {k : Nat} (hk : k < N) (j : Nat) (hj : j < 11) : v (2 + k) (bS j) = s (11 * k + j) := h.2.2.2.2.1 k j hk hj
theorem ar_q (h : AR v p s N W K) {k : Nat} (hk : k < W) : v (p k) 0 = s (132 + 2 * k) ∧ v (p k) 1 = s (133 + 2 * k) ∧ ∀ m, 2 ≤ m → m < 9 → v (p k) m = if m = 3 then -1 else 0 := h.2.2.2.2.2.1 k hk
theorem ar_g (h : AR v p s N W K) {k : Nat} (hk : k < K) : AG1 v (p (8 + k)) s k := h.2.2.2.2.2.2.1 k hk
theorem ar_u (h : AR v p s N W K) (hu : s 148 = 1) : AU v (p 16) s := h.2.2.2.2.2.2.2 hu
theorem ar_z (h : AR v p s N W K) {o : Nat} (ho : aL o) : aZb (v o 4) ∧ aZb (v o 5) := h.2.2.1 o ho
theorem aL_sI (h : sI o k) : ¬ aL o := by
  unfold aL
  omega
/-- a count or an account or a setting changes -/
theorem ar_sc (h : AR v p s N W K) (hi : sI o k) (hu : upd s (sJ o k) x 148 = 1 → AU v (p 16) s) : AR (up2 v o k x) p (upd s (sJ o k) x) N W K := by
  obtain ⟨hn, hP, hZ, hS, hB, hQ, hG, hU⟩ := h
  have hL : ∀ q, aL q → ∀ a, up2 v o k x q a = v q a := fun q hq a => up2_n (fun e _ => aL_sI hi (e ▸ hq))
  have hj := sJ_rng hi
  refine ⟨hn, hP, fun q hq => ?_, fun q a ha => ?_, fun i j hi' hj' => ?_, fun i hi' => ?_, fun i hi' => ?_, fun q => ?_⟩
  · rw [hL q hq, hL q hq]
    exact hZ q hq
  · by_cases e : q = o ∧ a = k
    · rw [e.1, e.2, up2_s, upd_s]
    · rw [up2_n (fun e1 e2 => e ⟨e1, e2⟩), upd_n (fun e1 => e (sJ_inj ha hi e1))]
      exact hS q a ha
  · rw [up2_n (fun e _ => by omega), upd_n (by omega)]
    exact hB i j hi' hj'
  · obtain ⟨q1, q2, q3⟩ := hQ i hi'
    refine ⟨?_, ?_, fun m hm1 hm2 => ?_⟩
    · rw [hL _ (hP.1 i (by omega)), upd_n (by omega)]
      exact q1
    · rw [hL _ (hP.1 i (by omega)), upd_n (by omega)]
      exact q2
    · rw [hL _ (hP.1 i (by omega))]
      exact q3 m hm1 hm2
  · have q := hG i hi'
    unfold AG1 at q ⊢
    rw [hL _ (hP.1 _ (by omega)), hL _ (hP.1 _ (by omega)), hL _ (hP.1 _ (by omega)), hL _ (hP.1 _ (by omega)), hL _ (hP.1 _ (by omega)), upd_n (by omega), upd_n (by omega), upd_n (by omega), upd_n (by omega), upd_n (by omega)]
    exact q
  · have q := hu q
    unfold AU at q ⊢
    have e : ∀ j, 149 ≤ j → j < 158 → upd s (sJ o k) x j = s j := fun j h1 h2 => upd_n (by omega)
    rw [hL _ (hP.1 _ (by omega)), hL _ (hP.1 _ (by omega)), hL _ (hP.1 _ (by omega)), hL _ (hP.1 _ (by omega)), hL _ (hP.1 _ (by omega)), hL _ (hP.1 _ (by omega)), hL _ (hP.1 _ (by omega)), hL _ (hP.1 _ (by omega)), hL _ (hP.1 _ (by omega)), e _ (by omega) (by omega), e _ (by omega) (by omega), e _ (by omega) (by omega), e _ (by omega) (by omega), e _ (by omega) (by omega), e _ (by omega) (by omega), e _ (by omega) (by omega), e _ (by omega) (by omega), e _ (by omega) (by omega)]
    exact q
theorem ar_sc1 (h : AR v p s N W K) (hi : sI o k) (hu : sJ o k ≠ 148) : AR (up2 v o k x) p (upd s (sJ o k) x) N W K := ar_sc h hi (fun q => ar_u h (by rw [upd_n (Ne.symm hu)] at q; exact q))
/-- a bidder's cell changes -/
theorem ar_bd (h : AR v p s N W K) {k j : Nat} (hk : k < N) (hj : j < 11) : AR (up2 v (2 + k) (bS j) x) p (upd s (11 * k + j) x) N W K := by
  obtain ⟨hn, hP, hZ, hS, hB, hQ, hG, hU⟩ := h
  have hL : ∀ q, aL q → ∀ a, up2 v (2 + k) (bS j) x q a = v q a := fun q hq a => up2_n (fun e _ => by unfold aL at hq; omega)
  refine ⟨hn, hP, fun q hq => ?_, fun q a ha => ?_, fun i m hi' hm => ?_, fun i hi' => ?_, fun i hi' => ?_, fun q => ?_⟩
  · rw [hL q hq, hL q hq]
    exact hZ q hq
  · have hr := sJ_rng ha
    rw [up2_n (fun e _ => by omega), upd_n (by omega)]
    exact hS q a ha
  · by_cases e : i = k ∧ m = j
    · rw [e.1, e.2, up2_s, upd_s]
    · rw [up2_n (fun e1 e2 => e ⟨by omega, bS_inj hm hj e2⟩), upd_n (by omega)]
      exact hB i m hi' hm
  · obtain ⟨q1, q2, q3⟩ := hQ i hi'
    refine ⟨?_, ?_, fun m hm1 hm2 => ?_⟩
    · rw [hL _ (hP.1 i (by omega)), upd_n (by omega)]
      exact q1
    · rw [hL _ (hP.1 i (by omega)), upd_n (by omega)]
      exact q2
    · rw [hL _ (hP.1 i (by omega))]
      exact q3 m hm1 hm2
  · have q := hG i hi'
    unfold AG1 at q ⊢
    rw [hL _ (hP.1 _ (by omega)), hL _ (hP.1 _ (by omega)), hL _ (hP.1 _ (by omega)), hL _ (hP.1 _ (by omega)), hL _ (hP.1 _ (by omega)), upd_n (by omega), upd_n (by omega), upd_n (by omega), upd_n (by omega), upd_n (by omega)]
    exact q
  · rw [upd_n (by omega)] at q
    have q := hU q
    unfold AU at q ⊢
    have e : ∀ a, 149 ≤ a → upd s (11 * k + j) x a = s a := fun a h1 => upd_n (by omega)
    rw [hL _ (hP.1 _ (by omega)), hL _ (hP.1 _ (by omega)), hL _ (hP.1 _ (by omega)), hL _ (hP.1 _ (by omega)), hL _ (hP.1 _ (by omega)), hL _ (hP.1 _ (by omega)), hL _ (hP.1 _ (by omega)), hL _ (hP.1 _ (by omega)), hL _ (hP.1 _ (by omega)), e _ (by omega), e _ (by omega), e _ (by omega), e _ (by omega), e _ (by omega), e _ (by omega), e _ (by omega), e _ (by omega), e _ (by omega)]
    exact q
/-- the lot that is up changes -/
theorem ar_up (h : AR v p s N W K) (hv : ∀ a b, a ≠ p 16 → v' a b = v a b) (hs : ∀ j, j < 149 ∨ 158 ≤ j → s' j = s j) (hz : aZb (v' (p 16) 4) ∧ aZb (v' (p 16) 5)) (hu : s 148 = 1 → AU v' (p 16) s') : AR v' p s' N W K := by
  obtain ⟨hn, hP, hZ, hS, hB, hQ, hG, hU⟩ := h
  have h16 := hP.1 16 (by omega)
  have hL : ∀ i, i < 16 → ∀ a, v' (p i) a = v (p i) a := fun i hi a => hv _ _ (fun e => by have := hP.2 i 16 (by omega) (by omega) e; omega)
  refine ⟨hn, hP, fun q hq => ?_, fun q a ha => ?_, fun i m hi' hm => ?_, fun i hi' => ?_, fun i hi' => ?_, fun q => ?_⟩
  · by_cases e : q = p 16
    · rw [e]
      exact hz
    · rw [hv _ _ e, hv _ _ e]
      exact hZ q hq
  · have hr := sJ_rng ha
    rw [hv _ _ (fun e => by unfold aL at h16; omega), hs _ (by omega)]
    exact hS q a ha
  · rw [hv _ _ (fun e => by unfold aL at h16; omega), hs _ (by omega)]
    exact hB i m hi' hm
  · rw [hL _ (by omega), hL _ (by omega), hs _ (by omega), hs _ (by omega)]
    refine ⟨(hQ i hi').1, (hQ i hi').2.1, fun m h1 h2 => ?_⟩
    rw [hL _ (by omega)]
    exact (hQ i hi').2.2 m h1 h2
  · have q := hG i hi'
    unfold AG1 at q ⊢
    rw [hL _ (by omega), hL _ (by omega), hL _ (by omega), hL _ (by omega), hL _ (by omega), hs _ (by omega), hs _ (by omega), hs _ (by omega), hs _ (by omega), hs _ (by omega)]
    exact q
  · rw [hs _ (by omega)] at q
    exact hu q
end CR
