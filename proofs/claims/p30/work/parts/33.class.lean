variable {nz : Nat}
-- nights
section CN
variable {s s0 sp : Nat → Int32} {N W k : Nat}
def dBes (s : Nat → Int32) (i k : Nat) : Int32 := if s (11 * i + 0) = s (11 * k + 0) then (if s (11 * i + 1) = s (11 * k + 1) - 1 then 1 else if s (11 * i + 1) = s (11 * k + 1) + 1 then 1 else 0) else 0
/-- does one of n bidders from i on give k a cold -/
def dSb (s : Nat → Int32) (k : Nat) : Nat → Nat → Int32
  | 0, _ => 0
  | n + 1, i => if dBes s i k = 0 then dSb s k n (i + 1) else if s (11 * i + 4) - s (11 * i + 5) < 2 then dSb s k n (i + 1) else 1
/-- those that catch -/
def dCm (s : Nat → Int32) (N : Nat) : Nat → Nat → Nat → Nat
  | 0, _, a => a
  | n + 1, k, a => if dSb s k N 0 = 0 then dCm s N n (k + 1) a else dCm s N n (k + 1) (a ||| 2 ^ k)
theorem dCm_lt : ∀ n k a : Nat, k + n ≤ 12 → a < 4096 → dCm s N n k a < 4096
  | 0, _, _, _, h => h
  | n + 1, k, a, hk, h => by
    unfold dCm
    split
    · exact dCm_lt n (k + 1) a (by omega) h
    · refine dCm_lt n (k + 1) _ (by omega) ?_
      exact Nat.or_lt_two_pow (n := 12) h (Nat.pow_lt_pow_right (by first | decide | omega) (by omega))
theorem dCm_bit : ∀ (n k a i : Nat), (dCm s N n k a).testBit i = (a.testBit i || (decide (k ≤ i ∧ i < k + n) && decide (¬ dSb s i N 0 = 0)))
  | 0, k, a, i => by
    unfold dCm
    rw [decide_eq_false (show ¬ (k ≤ i ∧ i < k + 0) by omega), Bool.false_and, Bool.or_false]
  | n + 1, k, a, i => by
    unfold dCm
    by_cases hik : i = k
    · subst hik
      rw [decide_eq_true (show i ≤ i ∧ i < i + (n + 1) by omega), Bool.true_and]
      split
      · rename_i h
        rw [dCm_bit n (i + 1) a i, decide_eq_false (show ¬ (i + 1 ≤ i ∧ i < i + 1 + n) by omega), Bool.false_and, decide_eq_false (fun q => q h)]
      · rename_i h
        rw [dCm_bit n (i + 1) _ i, decide_eq_false (show ¬ (i + 1 ≤ i ∧ i < i + 1 + n) by omega), Bool.false_and, decide_eq_true h, Nat.testBit_or, Nat.testBit_two_pow_self, Bool.or_true, Bool.true_or]
    · have e : decide (k ≤ i ∧ i < k + (n + 1)) = decide (k + 1 ≤ i ∧ i < k + 1 + n) := decide_eq_decide.mpr (by omega)
      rw [e]
      split
      · exact dCm_bit n (k + 1) a i
      · rw [dCm_bit n (k + 1) _ i, Nat.testBit_or, Nat.testBit_two_pow_of_ne (Ne.symm hik), Bool.or_false]
/-- the colds of n bidders from k on go up or down -/
def dSl (m : Nat) : Nat → Nat → (Nat → Int32) → (Nat → Int32)
  | 0, _, s => s
  | n + 1, k, s => if (nI m >>> (nI k &&& 31)) &&& 1 = 1 then dSl m n (k + 1) (upd s (11 * k + 4) (if 5 < s (11 * k + 4) + 1 then 5 else s (11 * k + 4) + 1)) else dSl m n (k + 1) (upd s (11 * k + 4) (if s (11 * k + 4) - 1 < 0 then 0 else s (11 * k + 4) - 1))
theorem aFind_hit {r c : Int32} : ∀ n k : Nat, k + n ≤ 12 → (aFind s r c n k = -1000004 ∨ ∃ j, k ≤ j ∧ j < k + n ∧ aFind s r c n k = nI j ∧ s (11 * j + 0) = r ∧ s (11 * j + 1) = c) := by
  intro n
  induction n with
  | zero => exact fun k _ => Or.inl rfl
  | succ n ih =>
    intro k hk
    have h := ih (k + 1) (by omega)
    unfold aFind
    by_cases h1 : s (11 * k + 0) = r
    · rw [if_pos h1]
      by_cases h2 : s (11 * k + 1) = c
      · rw [if_pos h2]
        exact Or.inr ⟨k, Nat.le_refl _, by omega, rfl, h1, h2⟩
      · rw [if_neg h2]
        rcases h with h | ⟨j, a, b, c, d⟩
        · exact Or.inl h
        · exact Or.inr ⟨j, by omega, by omega, c, d⟩
    · rw [if_neg h1]
      rcases h with h | ⟨j, a, b, c, d⟩
      · exact Or.inl h
      · exact Or.inr ⟨j, by omega, by omega, c, d⟩
def aTt (s : Nat → Int32) (i : Nat) : Prop := ¬ s (11 * i + 4) - s (11 * i + 5) < 2
theorem dSb_iff : ∀ n i, dSb s k n i ≠ 0 ↔ ∃ j, i ≤ j ∧ j < i + n ∧ dBes s j k ≠ 0 ∧ aTt s j
  | 0, i => ⟨fun h => absurd rfl h, fun ⟨j, a, b, _⟩ => by omega⟩
  | n + 1, i => by
    have ih := dSb_iff n (i + 1)
    have key : (∃ j, i ≤ j ∧ j < i + (n + 1) ∧ dBes s j k ≠ 0 ∧ aTt s j) ↔ (dBes s i k ≠ 0 ∧ aTt s i) ∨ ∃ j, i + 1 ≤ j ∧ j < i + 1 + n ∧ dBes s j k ≠ 0 ∧ aTt s j := by
      constructor
      · rintro ⟨j, a, b, c, d⟩
        by_cases e : j = i
        · subst e
          exact Or.inl ⟨c, d⟩
        · exact Or.inr ⟨j, by omega, by omega, c, d⟩
      · rintro (⟨c, d⟩ | ⟨j, a, b, c, d⟩)
        · exact ⟨i, Nat.le_refl _, by omega, c, d⟩
        · exact ⟨j, by omega, by omega, c, d⟩
    have e0 : dSb s k (n + 1) i = if dBes s i k = 0 then dSb s k n (i + 1) else if s (11 * i + 4) - s (11 * i + 5) < 2 then dSb s k n (i + 1) else 1 := rfl
    rw [key, ← ih, e0]
    by_cases h1 : dBes s i k = 0
    · rw [if_pos h1]
      exact ⟨fun q => Or.inr q, fun q => q.resolve_left (fun w => w.1 h1)⟩
    · rw [if_neg h1]
      by_cases h2 : s (11 * i + 4) - s (11 * i + 5) < 2
      · rw [if_pos h2]
        exact ⟨fun q => Or.inr q, fun q => q.resolve_left (fun w => w.2 h2)⟩
      · rw [if_neg h2]
        exact ⟨fun _ => Or.inl ⟨h1, h2⟩, fun _ => by decide⟩
theorem aCf2_neg {o : Int32} (h : o < 0) : aCf2 s sp o = 0 := if_pos h
theorem aCf_iff (hI : aIa s N W) {r c : Int32} : aCf s s N r c ≠ 0 ↔ ∃ j, j < N ∧ s (11 * j + 0) = r ∧ s (11 * j + 1) = c ∧ aTt s j := by
  have hN := hI.1.2
  have hit := aFind_hit (s := s) (r := r) (c := c) N 0 (by omega)
  have neg := aFind_neg (s := s) (row := r) (seat := c) N 0 (by omega)
  constructor
  · intro h
    unfold aCf at h
    by_cases h1 : aIn c 0 7 = 0
    · rw [if_pos h1, aCf2_neg (by first | decide | omega)] at h
      exact absurd rfl h
    · rw [if_neg h1] at h
      rcases hit with e | ⟨j, -, b, e, d1, d2⟩
      · rw [e, aCf2_neg (by first | decide | omega)] at h
        exact absurd rfl h
      · rw [e] at h
        unfold aCf2 at h
        rw [if_neg (show ¬ nI j < 0 from nI_nlt (a := j) (b := 0) (by omega) (by omega)), z_cl (by omega)] at h
        refine ⟨j, by omega, d1, d2, fun q => ?_⟩
        rw [if_pos q] at h
        exact h rfl
  · rintro ⟨j, hj, d1, d2, d3⟩
    have hc : ¬ aIn c 0 7 = 0 := by
      obtain ⟨x, x1, x2, x3⟩ := (hI.2.2.2.1 j (by omega)).2.1
      rw [← d2, x3]
      unfold aIn
      rw [if_neg (show ¬ nI x < 0 from nI_nlt (a := x) (b := 0) (by omega) (by omega)), if_neg (show ¬ (7 : Int32) < nI x from nI_nlt (a := 7) (b := x) (by omega) (by omega))]
      decide
    unfold aCf
    rw [if_neg hc]
    rcases hit with e | ⟨i, -, b, e, b1, b2⟩
    · exact absurd ⟨d1, d2⟩ (neg (by rw [e]; decide) j (by omega) (by omega))
    · have hij : i = j := by
        by_cases h1 : i < j
        · exact absurd ⟨b1.trans d1.symm, b2.trans d2.symm⟩ (hI.2.2.2.2.1 i j h1 hj)
        · by_cases h2 : j < i
          · exact absurd ⟨d1.trans b1.symm, d2.trans b2.symm⟩ (hI.2.2.2.2.1 j i h2 (by omega))
          · omega
      subst hij
      rw [e]
      unfold aCf2
      rw [if_neg (show ¬ nI i < 0 from nI_nlt (a := i) (b := 0) (by omega) (by omega)), z_cl (by omega), if_neg d3]
      decide
theorem aCf_dSb (hI : aIa s N W) : dSb s k N 0 = 0 ↔ (aCf s s N (s (11 * k + 0)) (s (11 * k + 1) - 1) = 0 ∧ aCf s s N (s (11 * k + 0)) (s (11 * k + 1) + 1) = 0) := by
  have h1 := aCf_iff hI (r := s (11 * k + 0)) (c := s (11 * k + 1) - 1)
  have h2 := aCf_iff hI (r := s (11 * k + 0)) (c := s (11 * k + 1) + 1)
  have h0 := dSb_iff (s := s) (k := k) N 0
  have hb : ∀ j, dBes s j k ≠ 0 ↔ (s (11 * j + 0) = s (11 * k + 0) ∧ (s (11 * j + 1) = s (11 * k + 1) - 1 ∨ s (11 * j + 1) = s (11 * k + 1) + 1)) := by
    intro j
    unfold dBes
    by_cases a : s (11 * j + 0) = s (11 * k + 0)
    · rw [if_pos a]
      by_cases b : s (11 * j + 1) = s (11 * k + 1) - 1
      · rw [if_pos b]
        exact ⟨fun _ => ⟨a, Or.inl b⟩, fun _ => by decide⟩
      · rw [if_neg b]
        by_cases c : s (11 * j + 1) = s (11 * k + 1) + 1
        · rw [if_pos c]
          exact ⟨fun _ => ⟨a, Or.inr c⟩, fun _ => by decide⟩
        · rw [if_neg c]
          exact ⟨fun q => absurd rfl q, fun q => by rcases q.2 with q | q; exact absurd q b; exact absurd q c⟩
    · rw [if_neg a]
      exact ⟨fun q => absurd rfl q, fun q => absurd q.1 a⟩
  constructor
  · intro h
    refine ⟨Classical.byContradiction fun q => ?_, Classical.byContradiction fun q => ?_⟩
    · obtain ⟨j, a, b, c, d⟩ := h1.mp q
      exact h0.mpr ⟨j, by omega, by omega, (hb j).mpr ⟨b, Or.inl c⟩, d⟩ h
    · obtain ⟨j, a, b, c, d⟩ := h2.mp q
      exact h0.mpr ⟨j, by omega, by omega, (hb j).mpr ⟨b, Or.inr c⟩, d⟩ h
  · intro h
    refine Classical.byContradiction fun q => ?_
    obtain ⟨j, a, b, c, d⟩ := h0.mp q
    obtain ⟨e, f | f⟩ := (hb j).mp c
    · exact h1.mpr ⟨j, by omega, e, f, d⟩ h.1
    · exact h2.mpr ⟨j, by omega, e, f, d⟩ h.2
theorem aFind_c {r c : Int32} : ∀ n k : Nat, k + n ≤ 12 → (∀ j, j % 11 ≠ 4 → j < 132 → s j = s0 j) → aFind s r c n k = aFind s0 r c n k
  | 0, _, _, _ => rfl
  | n + 1, k, hk, h => by
    unfold aFind
    rw [h (11 * k + 0) (by omega) (by omega), h (11 * k + 1) (by omega) (by omega), aFind_c n (k + 1) (by omega) h]
theorem aCf_c {r c : Int32} (hN : N ≤ 12) (h : ∀ j, j % 11 ≠ 4 → j < 132 → s j = s0 j) (hsp : ∀ j, j < 11 * N → sp j = s0 j) : aCf s sp N r c = aCf s0 s0 N r c := by
  have e : ∀ o : Int32, (o = -1000004 ∨ ∃ j, j < N ∧ o = nI j) → aCf2 s sp o = aCf2 s0 s0 o := by
    rintro o (rfl | ⟨j, hj, rfl⟩)
    · rw [aCf2_neg (by first | decide | omega), aCf2_neg (by first | decide | omega)]
    · unfold aCf2
      rw [z_cl (by omega), h (11 * j + 5) (by omega) (by omega), hsp (11 * j + 4) (by omega)]
  unfold aCf
  rw [aFind_c N 0 (by omega) h]
  split
  · exact e _ (Or.inl rfl)
  · refine e _ ?_
    rcases aFind_hit (s := s0) (r := r) (c := c) N 0 (by omega) with h1 | ⟨j, -, b, h1, -⟩
    · exact Or.inl h1
    · exact Or.inr ⟨j, by omega, h1⟩
theorem dSl_eq (hI : aIa s0 N W) (hsp : ∀ j, j < 11 * N → sp j = s0 j) : ∀ (n k : Nat) (s : Nat → Int32), k + n = N → (∀ j, j % 11 ≠ 4 → j < 132 → s j = s0 j) → (∀ i, k ≤ i → i < N → s (11 * i + 4) = s0 (11 * i + 4)) → dSl (dCm s0 N N 0 0) n k s = aNl sp N n k s := by
  have hN := hI.1.2
  intro n
  induction n with
  | zero => exact fun _ _ _ _ _ => rfl
  | succ n ih =>
    intro k s hk h1 h2
    have hb := z_bit (a := dCm s0 N N 0 0) (k := k) (dCm_lt N 0 0 (by omega) (by omega)) (by omega)
    have hb2 : (dCm s0 N N 0 0).testBit k = true ↔ ¬ dSb s0 k N 0 = 0 := by
      rw [dCm_bit, Nat.zero_testBit, Bool.false_or, decide_eq_true (show 0 ≤ k ∧ k < 0 + N by omega), Bool.true_and, decide_eq_true_iff]
    have e4 := h2 k (Nat.le_refl _) (by omega)
    obtain ⟨c, -, hc, hce⟩ := (hI.2.2.2.1 k (by omega)).2.2.2
    have hs := aCf_dSb (k := k) hI
    have val : aNv s sp N k = if dSb s0 k N 0 = 0 then aCl (s0 (11 * k + 4) + (-1)) else aCl (s0 (11 * k + 4) + 1) := by
      unfold aNv
      rw [h1 (11 * k + 0) (by omega) (by omega), h1 (11 * k + 1) (by omega) (by omega), aCf_c hN h1 hsp, aCf_c hN h1 hsp, e4]
      by_cases q : dSb s0 k N 0 = 0
      · rw [if_pos q, if_pos (hs.mp q).1, if_pos (hs.mp q).2]
      · rw [if_neg q]
        by_cases q1 : aCf s0 s0 N (s0 (11 * k + 0)) (s0 (11 * k + 1) - 1) = 0
        · rw [if_pos q1, if_neg (fun q2 => q (hs.mpr ⟨q1, q2⟩))]
        · rw [if_neg q1]
    have up : ∀ x, dSl (dCm s0 N N 0 0) n (k + 1) (upd s (11 * k + 4) x) = aNl sp N n (k + 1) (upd s (11 * k + 4) x) := fun x => ih (k + 1) _ (by omega) (fun j hj hj2 => by rw [upd_n (by omega)]; exact h1 j hj hj2) (fun i hi hi2 => by rw [upd_n (by omega)]; exact h2 i (by omega) hi2)
    unfold dSl aNl
    rw [val]
    by_cases q : dSb s0 k N 0 = 0
    · rw [if_neg (fun w => (hb2.mp (hb.mp w)) q), if_pos q, up]
      refine congrArg (fun x => aNl sp N n (k + 1) (upd s (11 * k + 4) x)) ?_
      rw [e4, hce]
      rcases (show c = 0 ∨ c = 1 ∨ c = 2 ∨ c = 3 ∨ c = 4 ∨ c = 5 by omega) with rfl | rfl | rfl | rfl | rfl | rfl <;> decide
    · rw [if_pos (hb.mpr (hb2.mpr q)), if_neg q, up]
      refine congrArg (fun x => aNl sp N n (k + 1) (upd s (11 * k + 4) x)) ?_
      rw [e4, hce]
      rcases (show c = 0 ∨ c = 1 ∨ c = 2 ∨ c = 3 ∨ c = 4 ∨ c = 5 by omega) with rfl | rfl | rfl | rfl | rfl | rfl <;> decide
/-- colds go round -/
def dSpr (s : Nat → Int32) (N : Nat) : Nat → Int32 := dSl (dCm s N N 0 0) N 0 s
theorem dSpr_eq (hI : aIa s N W) (hsp : ∀ j, j < 11 * N → sp j = s j) : aNight s sp N = aNe (dSpr s N) := by
  unfold aNight dSpr
  rw [dSl_eq hI hsp N 0 s (by omega) (fun _ _ _ => rfl) (fun _ _ _ => rfl)]
theorem aIa_spr (hI : aIa s N W) : aIa (dSpr s N) N W := by
  have h := aIa_nl (sp := s) (N := N) N 0 s (by have := hI.1.2; omega) hI
  rw [← dSl_eq hI (fun _ _ => rfl) N 0 s (by omega) (fun _ _ _ => rfl) (fun _ _ _ => rfl)] at h
  exact h
def dNgt (s : Nat → Int32) (N : Nat) : Int32 × Bool × (Nat → Int32) := if s 148 = 0 then (if s 209 < 999 then (nI (aPop 12 (aCo (aNe (dSpr s N)) N 0 0)), true, aNe (dSpr s N)) else (-1000003, false, s)) else (-1000002, false, s)
theorem dNgt_eq (hI : aIa s N W) (hsp : ∀ j, j < 11 * N → sp j = s j) (h9 : aR (s 209) 0 999) : dNgt s N = aNgt s sp N := by
  unfold dNgt aNgt
  rw [dSpr_eq hI hsp]
  obtain ⟨x, -, hx, e⟩ := h9
  rcases hI.2.2.2.2.2.1 with h | h
  · rw [if_pos h, if_neg (show ¬ s 148 = 1 by rw [h]; decide)]
    by_cases q : s 209 = 999
    · rw [if_neg (show ¬ s 209 < 999 by rw [q]; decide), if_pos q]
    · rw [if_pos, if_neg q]
      rw [e] at q ⊢
      refine Int32.lt_of_le_of_ne ((nI_leI (a := x) (b := 999) (by omega) (by omega)).mpr hx) q
  · rw [if_neg (show ¬ s 148 = 0 by rw [h]; decide), if_pos h]
end CN
theorem d_beside {g : zH} {B : Nat} (hB : aB B) {v : Nat → Nat → Int32} {p : Nat → Nat} {s : Nat → Int32} {N W K : Nat} (hA : AR v p s N W K) (hI : aIa s N W) {i k : Nat} (hi : i < N) (hk : k < N) : zCT mX1_isBeside [.ref (B + (2 + i)), .ref (B + (2 + k))] (215 + nz) (gAu g B v p) (215 + nz) (fun r h' => r = some (dBes s i k) ∧ h' = gAu g B v p) := (c_beside hB (k := i) (j := k) (by have := hA.1.1; omega) (by have := hA.1.1; omega)).to (fun r h' q => ⟨q.1.trans (congrArg some (by
  unfold dBes
  rw [← ar_b hA hi 0 (by first | decide | omega), ← ar_b hA hi 1 (by first | decide | omega), ← ar_b hA hk 0 (by first | decide | omega), ← ar_b hA hk 1 (by first | decide | omega)]
  rfl)), q.2⟩)
set_option maxRecDepth 4000 in
set_option maxHeartbeats 2000000 in
theorem c_sits_lp {g : zH} {B : Nat} (hB : aB B) {v : Nat → Nat → Int32} {p : Nat → Nat} {s : Nat → Int32} {N W K : Nat} (hA : AR v p s N W K) (hI : aIa s N W) {k : Nat} (hk : k < N) {X : Nat × (Nat → Int32)} {Q : zQt} : ∀ (n i : Nat) (y : Value), i + n = N → (∀ r h', r = some (dSb s k n i) ∧ h' = gAu g B v p → Q r (215 + nz) h') → zJ X mX0_sitsBesideCold (215 + nz) 2 [.ref B, .ref (B + (2 + k)), .int (nI i), y] [] (215 + nz) (gAu g B v p) Q := by
  have hN := hA.1
  intro n
  induction n with
  | zero =>
    intro i y hi hQ
    refine j_iload_n dX0_sitsBesideCold_2 rfl ?_
    refine j_aload_n dX0_sitsBesideCold_3 rfl ?_
    refine j_get (v := .int (s 199)) dX0_sitsBesideCold_4 fX0_39 (aB_S0 hB) (aB_l0 hB) ((zb_int0 (by unfold tI; decide)).trans (congrArg Value.int (ar_s hA 0 5 (by first | decide | omega)))) ?_
    refine j_icmp_ge dX0_sitsBesideCold_7 (tgt := 46) rfl (fun _ => ?_) (fun c1 => absurd (show s 199 ≤ nI i by rw [hI.1.1]; exact nI_le (by omega) (by omega)) c1)
    refine j_iconst (v := 0) dX0_sitsBesideCold_46 (by first | decide | omega) ?_
    refine j_iret dX0_sitsBesideCold_47 rfl (rfl) ?_
    exact hQ _ _ ⟨rfl, rfl⟩
  | succ n ih =>
    intro i y hi hQ
    refine j_iload_n dX0_sitsBesideCold_2 rfl ?_
    refine j_aload_n dX0_sitsBesideCold_3 rfl ?_
    refine j_get (v := .int (s 199)) dX0_sitsBesideCold_4 fX0_39 (aB_S0 hB) (aB_l0 hB) ((zb_int0 (by unfold tI; decide)).trans (congrArg Value.int (ar_s hA 0 5 (by first | decide | omega)))) ?_
    refine j_icmp_ge dX0_sitsBesideCold_7 (tgt := 46) rfl (fun c1 => absurd c1 (show ¬ s 199 ≤ nI i by rw [hI.1.1]; exact nI_ge (by omega) (by omega))) (fun _ => ?_)
    refine j_aload_n dX0_sitsBesideCold_10 rfl ?_
    refine j_get dX0_sitsBesideCold_11 fX0_13 (aB_S0 hB) (aB_l0 hB) zb_p0 ?_
    refine j_iload_n dX0_sitsBesideCold_14 rfl ?_
    refine k_aald (n := 12) (t := 1) (r := (B + (2 + i))) i dX0_sitsBesideCold_15 (aB_S hB (by first | decide | omega)) (by first | decide | omega) (aB_lt hB (by first | decide | omega)) (by first | rfl | (simp only [z_n, pk_mul, nI_add]; done) | (simp only [z_n, pk_mul, nI_add]; exact pk_sub (by omega)) | (simp only [z_n, pk_mul, nI_add, pk_sub, *]; done)) (by omega) (by first | decide | omega) (zb_bd) ?_
    refine j_astore_n dX0_sitsBesideCold_16 (by first | decide | omega) ?_
    refine j_aload_n dX0_sitsBesideCold_17 rfl ?_
    refine j_aload_n dX0_sitsBesideCold_18 rfl ?_
    refine k_callV1i dX0_sitsBesideCold_19 vX0_sitsBesideCold_225 (d_beside hB hA hI (i := i) (k := k) (by omega) (by omega)) (aB_Sb hB (by omega)) (aB_lt hB (by omega)) rfl (Nat.le_of_ble_eq_true rfl) ⟨rfl, rfl⟩ rfl ?_
    rintro _ _ ⟨⟨⟩, rfl⟩
    refine j_if_eq dX0_sitsBesideCold_22 (tgt := 40) rfl (fun c2 => ?_) (fun c2 => ?_)
    · refine j_iinc (v := nI (i + 1)) dX0_sitsBesideCold_40 rfl z_inc (by first | decide | omega) ?_
      refine j_goto dX0_sitsBesideCold_43 (tgt := 2) rfl ?_
      exact ih (i + 1) _ (by omega) (fun r h' h => hQ r h' ⟨h.1.trans (congrArg some ((if_pos c2).trans (rfl) : dSb s k (n + 1) i = _).symm), h.2⟩)
    · refine j_aload_n dX0_sitsBesideCold_25 rfl ?_
      refine j_get (v := .int (s (11 * i + 4))) dX0_sitsBesideCold_26 fX0_117 (aB_Sb hB (by omega)) (aB_lt hB (by omega)) ((zb_int (tI_b (by omega))).trans (congrArg Value.int (ar_b hA (by omega) 4 (by first | decide | omega)))) ?_
      refine j_aload_n dX0_sitsBesideCold_29 rfl ?_
      refine j_get (v := .int (s (11 * i + 5))) dX0_sitsBesideCold_30 fX0_120 (aB_Sb hB (by omega)) (aB_lt hB (by omega)) ((zb_int (tI_b (by omega))).trans (congrArg Value.int (ar_b hA (by omega) 5 (by first | decide | omega)))) ?_
      refine j_isub dX0_sitsBesideCold_33 ?_
      refine j_iconst (v := 2) dX0_sitsBesideCold_34 (by first | decide | omega) ?_
      refine j_icmp_lt dX0_sitsBesideCold_35 (tgt := 40) rfl (fun c3 => ?_) (fun c3 => ?_)
      · refine j_iinc (v := nI (i + 1)) dX0_sitsBesideCold_40 rfl z_inc (by first | decide | omega) ?_
        refine j_goto dX0_sitsBesideCold_43 (tgt := 2) rfl ?_
        exact ih (i + 1) _ (by omega) (fun r h' h => hQ r h' ⟨h.1.trans (congrArg some ((if_neg c2).trans ((if_pos c3).trans (rfl)) : dSb s k (n + 1) i = _).symm), h.2⟩)
      · refine j_iconst (v := 1) dX0_sitsBesideCold_38 (by first | decide | omega) ?_
        refine j_iret dX0_sitsBesideCold_39 rfl (rfl) ?_
        exact hQ _ _ (zb_r ((if_neg c2).trans ((if_neg c3).trans (rfl))))
set_option maxRecDepth 4000 in
set_option maxHeartbeats 2000000 in
theorem c_sits {g : zH} {B : Nat} (hB : aB B) {v : Nat → Nat → Int32} {p : Nat → Nat} {s : Nat → Int32} {N W K : Nat} (hA : AR v p s N W K) (hI : aIa s N W) {k : Nat} (hk : k < N) : zCT mX0_sitsBesideCold [.ref B, .ref (B + (2 + k))] (215 + nz) (gAu g B v p) (215 + nz) (fun r h' => r = some (dSb s k N 0) ∧ h' = gAu g B v p) := by
  intro X Q hQ
  show zJ X mX0_sitsBesideCold (215 + nz) 0 [.ref B, .ref (B + (2 + k)), .null, .null] [] (215 + nz) (gAu g B v p) Q
  refine j_iconst (v := 0) dX0_sitsBesideCold_0 (by first | decide | omega) ?_
  refine j_istore_n dX0_sitsBesideCold_1 (by first | decide | omega) ?_
  exact c_sits_lp hB hA hI hk N 0 _ (by omega) hQ
set_option maxRecDepth 4000 in
set_option maxHeartbeats 2000000 in
theorem c_spr1_lp {g : zH} {B : Nat} (hB : aB B) {v : Nat → Nat → Int32} {p : Nat → Nat} {s : Nat → Int32} {N W K : Nat} (hA : AR v p s N W K) (hI : aIa s N W) {y : Value} {X : Nat × (Nat → Int32)} {Q : zQt} : ∀ (n k a : Nat), k + n = N → (∀ y : Value, zJ X mX0_spreadColds (215 + nz) 39 [.ref B, .int (nI (dCm s N n k a)), .int (nI 0), y] [] (215 + nz) (gAu g B v p) Q) → zJ X mX0_spreadColds (215 + nz) 4 [.ref B, .int (nI a), .int (nI k), y] [] (215 + nz) (gAu g B v p) Q := by
  have hN := hA.1
  intro n
  induction n with
  | zero =>
    intro k a hk kk
    refine j_iload_n dX0_spreadColds_4 rfl ?_
    refine j_aload_n dX0_spreadColds_5 rfl ?_
    refine j_get (v := .int (s 199)) dX0_spreadColds_6 fX0_39 (aB_S0 hB) (aB_l0 hB) ((zb_int0 (by unfold tI; decide)).trans (congrArg Value.int (ar_s hA 0 5 (by first | decide | omega)))) ?_
    refine j_icmp_ge dX0_spreadColds_9 (tgt := 37) rfl (fun _ => ?_) (fun c1 => absurd (show s 199 ≤ nI k by rw [hI.1.1]; exact nI_le (by omega) (by omega)) c1)
    refine j_iconst (v := 0) dX0_spreadColds_37 (by first | decide | omega) ?_
    refine j_istore_n dX0_spreadColds_38 (by first | decide | omega) ?_
    exact kk _
  | succ n ih =>
    intro k a hk kk
    refine j_iload_n dX0_spreadColds_4 rfl ?_
    refine j_aload_n dX0_spreadColds_5 rfl ?_
    refine j_get (v := .int (s 199)) dX0_spreadColds_6 fX0_39 (aB_S0 hB) (aB_l0 hB) ((zb_int0 (by unfold tI; decide)).trans (congrArg Value.int (ar_s hA 0 5 (by first | decide | omega)))) ?_
    refine j_icmp_ge dX0_spreadColds_9 (tgt := 37) rfl (fun c1 => absurd c1 (show ¬ s 199 ≤ nI k by rw [hI.1.1]; exact nI_ge (by omega) (by omega))) (fun _ => ?_)
    refine j_aload_n dX0_spreadColds_12 rfl ?_
    refine j_aload_n dX0_spreadColds_13 rfl ?_
    refine j_get dX0_spreadColds_14 fX0_13 (aB_S0 hB) (aB_l0 hB) zb_p0 ?_
    refine j_iload_n dX0_spreadColds_17 rfl ?_
    refine k_aald (n := 12) (t := 1) (r := (B + (2 + k))) k dX0_spreadColds_18 (aB_S hB (by first | decide | omega)) (by first | decide | omega) (aB_lt hB (by first | decide | omega)) (by first | rfl | (simp only [z_n, pk_mul, nI_add]; done) | (simp only [z_n, pk_mul, nI_add]; exact pk_sub (by omega)) | (simp only [z_n, pk_mul, nI_add, pk_sub, *]; done)) (by omega) (by first | decide | omega) (zb_bd) ?_
    refine k_callV1i dX0_spreadColds_19 vX0_spreadColds_213 (c_sits hB hA hI (k := k) (by omega)) (aB_S0 hB) (aB_l0 hB) rfl (Nat.le_of_ble_eq_true rfl) ⟨rfl, rfl⟩ rfl ?_
    rintro _ _ ⟨⟨⟩, rfl⟩
    refine j_if_eq dX0_spreadColds_22 (tgt := 31) rfl (fun c2 => ?_) (fun c2 => ?_)
    · refine j_iinc (v := nI (k + 1)) dX0_spreadColds_31 rfl z_inc (by first | decide | omega) ?_
      refine j_goto dX0_spreadColds_34 (tgt := 4) rfl ?_
      have e : dCm s N (n + 1) k a = dCm s N n (k + 1) a := (if_pos c2).trans (rfl)
      rw [e] at kk
      exact ih (k + 1) _ (by omega) kk
    · refine j_iload_n dX0_spreadColds_25 rfl ?_
      refine j_iconst (v := 1) dX0_spreadColds_26 (by first | decide | omega) ?_
      refine j_iload_n dX0_spreadColds_27 rfl ?_
      refine j_ishl dX0_spreadColds_28 ?_
      refine j_ior dX0_spreadColds_29 ?_
      rw [z_or1 (by omega)]
      refine j_istore_n dX0_spreadColds_30 (by first | decide | omega) ?_
      refine j_iinc (v := nI (k + 1)) dX0_spreadColds_31 rfl z_inc (by first | decide | omega) ?_
      refine j_goto dX0_spreadColds_34 (tgt := 4) rfl ?_
      have e : dCm s N (n + 1) k a = dCm s N n (k + 1) (a ||| 2 ^ k) := (if_neg c2).trans (rfl)
      rw [e] at kk
      exact ih (k + 1) _ (by omega) kk
theorem dCl_R1 {c : Nat} (hc : c ≤ 5) : aR (if 5 < nI c + 1 then 5 else nI c + 1) 0 5 := by
  rcases (show c = 0 ∨ c = 1 ∨ c = 2 ∨ c = 3 ∨ c = 4 ∨ c = 5 by omega) with rfl | rfl | rfl | rfl | rfl | rfl
  · exact ⟨1, by decide⟩
  · exact ⟨2, by decide⟩
  · exact ⟨3, by decide⟩
  · exact ⟨4, by decide⟩
  · exact ⟨5, by decide⟩
  · exact ⟨5, by decide⟩
theorem dCl_R2 {c : Nat} (hc : c ≤ 5) : aR (if nI c - 1 < 0 then 0 else nI c - 1) 0 5 := by
  rcases (show c = 0 ∨ c = 1 ∨ c = 2 ∨ c = 3 ∨ c = 4 ∨ c = 5 by omega) with rfl | rfl | rfl | rfl | rfl | rfl
  · exact ⟨0, by decide⟩
  · exact ⟨0, by decide⟩
  · exact ⟨1, by decide⟩
  · exact ⟨2, by decide⟩
  · exact ⟨3, by decide⟩
  · exact ⟨4, by decide⟩
set_option maxRecDepth 4000 in
set_option maxHeartbeats 2000000 in
theorem c_spr2_lp {g : zH} {B : Nat} (hB : aB B) {N W m : Nat} {X : Nat × (Nat → Int32)} {Q : zQt} : ∀ (n k : Nat) (v : Nat → Nat → Int32) (s : Nat → Int32) (y : Value) {p : Nat → Nat} {K : Nat}, k + n = N → AR v p s N W K → aIa s N W → s 210 = nI K → (∀ r h', (r = none ∧ ∃ v' p' K', h' = gAu g B v' p' ∧ (dSl m n k s) 210 = nI K' ∧ AR v' p' (dSl m n k s) N W K') → Q r (215 + nz) h') → zJ X mX0_spreadColds (215 + nz) 39 [.ref B, .int (nI m), .int (nI k), y] [] (215 + nz) (gAu g B v p) Q := by
  intro n
  induction n with
  | zero =>
    intro k v s y p K hk hA hI hK hQ
    have hN := hA.1
    refine j_iload_n dX0_spreadColds_39 rfl ?_
    refine j_aload_n dX0_spreadColds_40 rfl ?_
    refine j_get (v := .int (s 199)) dX0_spreadColds_41 fX0_39 (aB_S0 hB) (aB_l0 hB) ((zb_int0 (by unfold tI; decide)).trans (congrArg Value.int (ar_s hA 0 5 (by first | decide | omega)))) ?_
    refine j_icmp_ge dX0_spreadColds_44 (tgt := 107) rfl (fun _ => ?_) (fun c1 => absurd (show s 199 ≤ nI k by rw [hI.1.1]; exact nI_le (by omega) (by omega)) c1)
    refine j_vret dX0_spreadColds_107 rfl ?_
    exact hQ _ _ ⟨rfl, v, p, K, rfl, hK, hA⟩
  | succ n ih =>
    intro k v s y p K hk hA hI hK hQ
    have hN := hA.1
    refine j_iload_n dX0_spreadColds_39 rfl ?_
    refine j_aload_n dX0_spreadColds_40 rfl ?_
    refine j_get (v := .int (s 199)) dX0_spreadColds_41 fX0_39 (aB_S0 hB) (aB_l0 hB) ((zb_int0 (by unfold tI; decide)).trans (congrArg Value.int (ar_s hA 0 5 (by first | decide | omega)))) ?_
    refine j_icmp_ge dX0_spreadColds_44 (tgt := 107) rfl (fun c1 => absurd c1 (show ¬ s 199 ≤ nI k by rw [hI.1.1]; exact nI_ge (by omega) (by omega))) (fun _ => ?_)
    refine j_aload_n dX0_spreadColds_47 rfl ?_
    refine j_get dX0_spreadColds_48 fX0_13 (aB_S0 hB) (aB_l0 hB) zb_p0 ?_
    refine j_iload_n dX0_spreadColds_51 rfl ?_
    refine k_aald (n := 12) (t := 1) (r := (B + (2 + k))) k dX0_spreadColds_52 (aB_S hB (by first | decide | omega)) (by first | decide | omega) (aB_lt hB (by first | decide | omega)) (by first | rfl | (simp only [z_n, pk_mul, nI_add]; done) | (simp only [z_n, pk_mul, nI_add]; exact pk_sub (by omega)) | (simp only [z_n, pk_mul, nI_add, pk_sub, *]; done)) (by omega) (by first | decide | omega) (zb_bd) ?_
    refine j_get (v := .int (s (11 * k + 4))) dX0_spreadColds_53 fX0_117 (aB_Sb hB (by omega)) (aB_lt hB (by omega)) ((zb_int (tI_b (by omega))).trans (congrArg Value.int (ar_b hA (by omega) 4 (by first | decide | omega)))) ?_
    refine j_istore_n dX0_spreadColds_56 (by first | decide | omega) ?_
    refine j_iload_n dX0_spreadColds_57 rfl ?_
    refine j_iload_n dX0_spreadColds_58 rfl ?_
    refine j_ishr dX0_spreadColds_59 ?_
    refine j_iconst (v := 1) dX0_spreadColds_60 (by first | decide | omega) ?_
    refine j_iand dX0_spreadColds_61 ?_
    refine j_iconst (v := 1) dX0_spreadColds_62 (by first | decide | omega) ?_
    refine j_icmp_ne dX0_spreadColds_63 (tgt := 85) rfl (fun c2 => ?_) (fun c2 => ?_)
    · refine j_aload_n dX0_spreadColds_85 rfl ?_
      refine j_get dX0_spreadColds_86 fX0_13 (aB_S0 hB) (aB_l0 hB) zb_p0 ?_
      refine j_iload_n dX0_spreadColds_89 rfl ?_
      refine k_aald (n := 12) (t := 1) (r := (B + (2 + k))) k dX0_spreadColds_90 (aB_S hB (by first | decide | omega)) (by first | decide | omega) (aB_lt hB (by first | decide | omega)) (by first | rfl | (simp only [z_n, pk_mul, nI_add]; done) | (simp only [z_n, pk_mul, nI_add]; exact pk_sub (by omega)) | (simp only [z_n, pk_mul, nI_add, pk_sub, *]; done)) (by omega) (by first | decide | omega) (zb_bd) ?_
      refine j_iload_n dX0_spreadColds_91 rfl ?_
      refine j_iconst (v := 1) dX0_spreadColds_92 (by first | decide | omega) ?_
      refine j_isub dX0_spreadColds_93 ?_
      refine j_iconst (v := 0) dX0_spreadColds_94 (by first | decide | omega) ?_
      refine j_mmax dX0_spreadColds_95 nX0_222 z_maxS z_mathI z_maxC (by first | decide | omega) (Nat.le_of_ble_eq_true rfl) (Nat.le_refl _) (by first | decide | omega) (by first | decide | omega) ?_
      refine j_put dX0_spreadColds_98 fX0_117 (aB_Sb hB (by omega)) (aB_lt hB (by omega)) (rfl) ?_
      rw [zb_wr (tI_b (by omega))]
      refine j_iinc (v := nI (k + 1)) dX0_spreadColds_101 rfl z_inc (by first | decide | omega) ?_
      refine j_goto dX0_spreadColds_104 (tgt := 39) rfl ?_
      have hA2 := ar_bd (j := 4) (x := (if s (11 * k + 4) - 1 < 0 then 0 else s (11 * k + 4) - 1)) hA (show k < N by omega) (by first | decide | omega)
      have hI2 : aIa (upd s (11 * k + 4) (if s (11 * k + 4) - 1 < 0 then 0 else s (11 * k + 4) - 1)) N W := aIa_cold hI (by omega) (by
        obtain ⟨c, -, hc, hce⟩ := (hI.2.2.2.1 k (by omega)).2.2.2
        rw [hce]
        exact dCl_R2 hc)
      have e : dSl m (n + 1) k s = dSl m n (k + 1) (upd s (11 * k + 4) (if s (11 * k + 4) - 1 < 0 then 0 else s (11 * k + 4) - 1)) := (if_neg c2).trans (rfl)
      rw [e] at hQ
      exact ih (k + 1) _ _ _ (by omega) hA2 hI2 (by rw [upd_n (by omega)]; exact hK) hQ
    · refine j_aload_n dX0_spreadColds_66 rfl ?_
      refine j_get dX0_spreadColds_67 fX0_13 (aB_S0 hB) (aB_l0 hB) zb_p0 ?_
      refine j_iload_n dX0_spreadColds_70 rfl ?_
      refine k_aald (n := 12) (t := 1) (r := (B + (2 + k))) k dX0_spreadColds_71 (aB_S hB (by first | decide | omega)) (by first | decide | omega) (aB_lt hB (by first | decide | omega)) (by first | rfl | (simp only [z_n, pk_mul, nI_add]; done) | (simp only [z_n, pk_mul, nI_add]; exact pk_sub (by omega)) | (simp only [z_n, pk_mul, nI_add, pk_sub, *]; done)) (by omega) (by first | decide | omega) (zb_bd) ?_
      refine j_iload_n dX0_spreadColds_72 rfl ?_
      refine j_iconst (v := 1) dX0_spreadColds_73 (by first | decide | omega) ?_
      refine j_iadd dX0_spreadColds_74 ?_
      refine j_iconst (v := 5) dX0_spreadColds_75 (by first | decide | omega) ?_
      refine j_mmin dX0_spreadColds_76 nX0_217 z_minS z_mathI z_minC (by first | decide | omega) (Nat.le_of_ble_eq_true rfl) (Nat.le_refl _) (by first | decide | omega) (by first | decide | omega) ?_
      refine j_put dX0_spreadColds_79 fX0_117 (aB_Sb hB (by omega)) (aB_lt hB (by omega)) (rfl) ?_
      rw [zb_wr (tI_b (by omega))]
      refine j_goto dX0_spreadColds_82 (tgt := 101) rfl ?_
      refine j_iinc (v := nI (k + 1)) dX0_spreadColds_101 rfl z_inc (by first | decide | omega) ?_
      refine j_goto dX0_spreadColds_104 (tgt := 39) rfl ?_
      have hA2 := ar_bd (j := 4) (x := (if 5 < s (11 * k + 4) + 1 then 5 else s (11 * k + 4) + 1)) hA (show k < N by omega) (by first | decide | omega)
      have hI2 : aIa (upd s (11 * k + 4) (if 5 < s (11 * k + 4) + 1 then 5 else s (11 * k + 4) + 1)) N W := aIa_cold hI (by omega) (by
        obtain ⟨c, -, hc, hce⟩ := (hI.2.2.2.1 k (by omega)).2.2.2
        rw [hce]
        exact dCl_R1 hc)
      have e : dSl m (n + 1) k s = dSl m n (k + 1) (upd s (11 * k + 4) (if 5 < s (11 * k + 4) + 1 then 5 else s (11 * k + 4) + 1)) := (if_pos c2).trans (rfl)
      rw [e] at hQ
      exact ih (k + 1) _ _ _ (by omega) hA2 hI2 (by rw [upd_n (by omega)]; exact hK) hQ
set_option maxRecDepth 4000 in
set_option maxHeartbeats 2000000 in
theorem c_spread {g : zH} {B : Nat} (hB : aB B) {v : Nat → Nat → Int32} {p : Nat → Nat} {s : Nat → Int32} {N W K : Nat} (hA : AR v p s N W K) (hI : aIa s N W) (hK : s 210 = nI K) : zCT mX0_spreadColds [.ref B] (215 + nz) (gAu g B v p) (215 + nz) (fun r h' => r = none ∧ ∃ v' p' K', h' = gAu g B v' p' ∧ (dSpr s N) 210 = nI K' ∧ AR v' p' (dSpr s N) N W K') := by
  intro X Q hQ
  show zJ X mX0_spreadColds (215 + nz) 0 [.ref B, .null, .null, .null] [] (215 + nz) (gAu g B v p) Q
  have hN := hA.1
  have hL := hA.2.1.1 16 (by omega)
  have hP := hA.2.1
  refine j_iconst (v := 0) dX0_spreadColds_0 (by first | decide | omega) ?_
  refine j_istore_n dX0_spreadColds_1 (by first | decide | omega) ?_
  refine j_iconst (v := 0) dX0_spreadColds_2 (by first | decide | omega) ?_
  refine j_istore_n dX0_spreadColds_3 (by first | decide | omega) ?_
  exact c_spr1_lp hB hA hI N 0 0 (by omega) (fun y => c_spr2_lp hB N 0 v s y (by omega) hA hI hK hQ)
set_option maxRecDepth 4000 in
set_option maxHeartbeats 2000000 in
theorem c_night0 {g : zH} {B : Nat} (hB : aB B) {v : Nat → Nat → Int32} {p : Nat → Nat} {s : Nat → Int32} {N W K : Nat} (hA : AR v p s N W K) (hI : aIa s N W) (hK : s 210 = nI K) : zCT mX0_passNight [.ref B] (215 + nz) (gAu g B v p) (215 + nz) (fun r h' => ∃ v' p', r = some ((dNgt s N).1) ∧ h' = gAu g B v' p' ∧ AT v' p' ((dNgt s N).2.2)) := by
  intro X Q hQ
  show zJ X mX0_passNight (215 + nz) 0 [.ref B] [] (215 + nz) (gAu g B v p) Q
  have hN := hA.1
  have hL := hA.2.1.1 16 (by omega)
  have hP := hA.2.1
  have hT := AT_mk hA hI hK
  refine j_aload_n dX0_passNight_0 rfl ?_
  refine j_get (v := .int (s 148)) dX0_passNight_1 fX0_56 (aB_S0 hB) (aB_l0 hB) ((zb_int0 (by unfold tI; decide)).trans (congrArg Value.int (ar_s hA 0 8 (by first | decide | omega)))) ?_
  refine j_if_eq dX0_passNight_4 (tgt := 10) rfl (fun c1 => ?_) (fun c1 => ?_)
  · refine j_aload_n dX0_passNight_10 rfl ?_
    refine j_get (v := .int (s 209)) dX0_passNight_11 fX0_69 (aB_S0 hB) (aB_l0 hB) ((zb_int0 (by unfold tI; decide)).trans (congrArg Value.int (ar_s hA 0 11 (by first | decide | omega)))) ?_
    refine j_sipush (v := 999) dX0_passNight_14 (by first | decide | omega) ?_
    refine j_icmp_lt dX0_passNight_17 (tgt := 23) rfl (fun c2 => ?_) (fun c2 => ?_)
    · refine j_aload_n dX0_passNight_23 rfl ?_
      refine k_callV0v dX0_passNight_24 vX0_passNight_202 (c_spread hB hA hI hK) (aB_S0 hB) (aB_l0 hB)  (Nat.le_of_ble_eq_true rfl) ⟨rfl, rfl⟩ rfl ?_
      rintro _ ⟨-, v1, p1, K1, rfl, hK1, hA1⟩
      refine j_aload_n dX0_passNight_27 rfl ?_
      refine j_dup dX0_passNight_28 rfl ?_
      refine j_get (v := .int (dSpr s N 209)) dX0_passNight_29 fX0_69 (aB_S0 hB) (aB_l0 hB) ((zb_int0 (by unfold tI; decide)).trans (congrArg Value.int (ar_s hA1 0 11 (by first | decide | omega)))) ?_
      refine j_iconst (v := 1) dX0_passNight_32 (by first | decide | omega) ?_
      refine j_iadd dX0_passNight_33 ?_
      refine j_put dX0_passNight_34 fX0_69 (aB_S0 hB) (aB_l0 hB) (rfl) ?_
      rw [zb_wr0 (k := 11) (by unfold tI; decide)]
      have hI1 := aIa_spr hI
      have hI2 : aIa (aNe (dSpr s N)) N W := aIa_irr hI1 (by unfold aRel; omega)
      have hA2 : AR (up2 v1 0 11 (dSpr s N 209 + 1)) p1 (aNe (dSpr s N)) N W K1 := ar_sc1 (o := 0) (k := 11) hA1 (by first | decide | omega) (by first | decide | omega)
      have hK2 : aNe (dSpr s N) 210 = nI K1 := (upd_n (by omega)).trans hK1
      refine j_aload_n dX0_passNight_37 rfl ?_
      refine k_callV0i dX0_passNight_38 vX0_passNight_205 (c_colds hB hA2 hI2) (aB_S0 hB) (aB_l0 hB)  (Nat.le_of_ble_eq_true rfl) ⟨rfl, rfl⟩ rfl ?_
      rintro _ _ ⟨⟨⟩, rfl⟩
      refine k_callS1i dX0_passNight_41 vX0_passNight_208 (c_bitCount) rfl (Nat.le_of_ble_eq_true rfl) ⟨rfl, rfl⟩ rfl ?_
      rintro _ _ ⟨⟨⟩, rfl⟩
      rw [bC_pop _ (aCo_lt _ _ _ (by omega) (by omega))]
      refine j_iret dX0_passNight_44 rfl (rfl) ?_
      exact hQ _ _ (zb_w ((if_pos c1).trans ((if_pos c2).trans (rfl))) (AT_mk hA2 hI2 hK2))
    · refine j_ldc (v := (-1000003)) dX0_passNight_20 cX0_108 ?_
      refine j_iret dX0_passNight_22 rfl (rfl) ?_
      exact hQ _ _ (zb_w ((if_pos c1).trans ((if_neg c2).trans (rfl))) (hT))
  · refine j_ldc (v := (-1000002)) dX0_passNight_7 cX0_107 ?_
    refine j_iret dX0_passNight_9 rfl (rfl) ?_
    exact hQ _ _ (zb_w ((if_neg c1).trans (rfl)) (hT))
theorem c_night {g : zH} {B : Nat} (hB : aB B) {v : Nat → Nat → Int32} {p : Nat → Nat} {s : Nat → Int32} {N W K : Nat} (hA : AR v p s N W K) (hI : aIa s N W) (hK : s 210 = nI K) (h9 : aR (s 209) 0 999) {sp : Nat → Int32} (hsp : ∀ j, j < 11 * N → sp j = s j) : zCT mX0_passNight [.ref B] (215 + nz) (gAu g B v p) (215 + nz) (fun r h' => ∃ v' p', r = some ((aNgt s sp N).1) ∧ h' = gAu g B v' p' ∧ AT v' p' ((aNgt s sp N).2.2)) := by
  rw [← dNgt_eq hI hsp h9]
  exact c_night0 hB hA hI hK
