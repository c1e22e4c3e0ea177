section L3
theorem zS_had {nz : Nat} (hz : 6 ≤ nz) : zS (215 + nz) = (10, 12) := by
  unfold zS
  rw [if_neg (by omega), if_neg (by omega), if_neg (by omega), if_neg (by omega), if_neg (by omega), if_neg (by omega), if_neg (by omega), if_neg (by omega), if_neg (by omega), if_neg (by omega), if_neg (by omega), if_neg (by omega)]
theorem zZ_had {nz : Nat} (hz : 6 ≤ nz) : zZ (215 + nz) = 12 := by
  unfold zZ
  rw [zS_had hz]
  rfl
abbrev gH (g : zH) (nz : Nat) (F : Nat → Int32) : zH := va_up g (215 + nz) (fun j => .int (F j))
theorem gH_s {g : zH} {nz : Nat} {F : Nat → Int32} : gH g nz F (215 + nz) = fun j => .int (F j) := va_s
theorem gH_n {g : zH} {nz a : Nat} {F : Nat → Int32} (h : ¬ a = 215 + nz) : gH g nz F a = g a := va_n h
section LH
variable {g : zH} {s F : Nat → Int32} {X : Nat × (Nat → Int32)} {M : zM} {n0 pc nz i : Nat} {ls st : List Value} {Q : zQt}
theorem h_ld {x : Int32} (hd : decode (zMb M) pc = .ok (.iaload, 1)) (hz : 6 ≤ nz) (hi : x = nI i) (hin : i < 12) (kk : zJ X M n0 (pc + 1) ls (.int (F i) :: st) (215 + (nz + 1)) (gV (gH g nz F) s) Q) : zJ X M n0 pc ls (.int x :: .ref (215 + nz) :: st) (215 + (nz + 1)) (gV (gH g nz F) s) Q :=
  j_iald hd (zS_had hz) (by omega) (z_vin hi hin (by omega)) (by rw [hi, z_cl (by omega), gV_ot (by omega), gH_s]; rfl) kk
theorem h_st {x y : Int32} (hd : decode (zMb M) pc = .ok (.iastore, 1)) (hz : 6 ≤ nz) (hi : x = nI i) (hin : i < 12) (kk : zJ X M n0 (pc + 1) ls st (215 + (nz + 1)) (gV (gH g nz (upd F i y)) s) Q) : zJ X M n0 pc ls (.int y :: .int x :: .ref (215 + nz) :: st) (215 + (nz + 1)) (gV (gH g nz F) s) Q :=
  j_iast hd (zS_had hz) (by omega) (z_vin hi hin (by omega)) (by
    rw [hi, z_cl (by omega), gV_ou (by omega), gV_ot (by omega)]
    have e : va_up (gH g nz F) (215 + nz) (va_up (gH g nz F (215 + nz)) i (.int y)) = gH g nz (upd F i y) := by
      funext a
      by_cases ha : a = 215 + nz
      · subst ha
        rw [va_s, gH_s, gH_s]
        funext j
        by_cases hj : j = i
        · subst hj
          rw [va_s, pk_us]
        · rw [va_n hj, pk_un hj]
      · rw [va_n ha, gH_n ha, gH_n ha]
    rw [e]
    exact kk)
end LH
section LN
variable {s s0 : Nat → Int32} {N W k j : Nat}
/-- the colds of the first k before the night -/
def hF (s0 : Nat → Int32) (k : Nat) : Nat → Int32 := fun j => if j < k then s0 (11 * j + 4) else 0
theorem hF_0 : hF s0 0 = fun _ => 0 := by
  funext j
  exact if_neg (Nat.not_lt_zero j)
theorem hF_up : upd (hF s0 k) k (s0 (11 * k + 4)) = hF s0 (k + 1) := by
  funext j
  unfold upd hF
  by_cases hj : j = k
  · subst hj
    rw [if_pos rfl, if_pos (by omega)]
  · rw [if_neg hj]
    by_cases h : j < k
    · rw [if_pos h, if_pos (by omega)]
    · rw [if_neg h, if_neg (by omega)]
theorem hF_at (h : j < k) : hF s0 k j = s0 (11 * j + 4) := if_pos h
def lE (s0 : Nat → Int32) (k j : Nat) : Prop := ∃ i, i < j ∧ dBes s0 i k ≠ 0 ∧ aTt s0 i
theorem lE_A {m : Int32} (h : m = 1 ↔ lE s0 k j) (hm : m = 0 ∨ m = 1) (c : ¬ m = 0) : ((1 : Int32) = 1 ↔ lE s0 k (j + 1)) := by
  obtain ⟨i, h1, h2⟩ := h.mp (hm.resolve_left c)
  exact ⟨fun _ => ⟨i, by omega, h2⟩, fun _ => rfl⟩
theorem lE_0 {m : Int32} (h : m = 1 ↔ lE s0 k j) (c : m = 0) (hno : ¬ (dBes s0 j k ≠ 0 ∧ aTt s0 j)) : ((0 : Int32) = 1 ↔ lE s0 k (j + 1)) := by
  refine ⟨fun q => absurd q (by decide), fun ⟨i, h1, h2⟩ => ?_⟩
  by_cases e : i = j
  · subst e
    exact absurd h2 hno
  · have h3 := h.mpr ⟨i, by omega, h2⟩
    rw [c] at h3
    exact h3
theorem lE_1 (hy : dBes s0 j k ≠ 0 ∧ aTt s0 j) : ((1 : Int32) = 1 ↔ lE s0 k (j + 1)) := ⟨fun _ => ⟨j, by omega, hy⟩, fun _ => rfl⟩
theorem lD_row (c : ¬ s0 (11 * j + 0) = s0 (11 * k + 0)) : ¬ (dBes s0 j k ≠ 0 ∧ aTt s0 j) := fun q => q.1 (if_neg c)
theorem lD_sq : ∀ p, p < 8 → ∀ q, q < 8 → (((if nI p = nI q - 1 then (1 : Int32) else if nI p = nI q + 1 then 1 else 0) ≠ 0) ↔ (nI p - nI q) * (nI p - nI q) = 1) := by decide +kernel
theorem lD_by (hI : aIa s0 N W) (hj : j < 12) (hk : k < 12) (c : s0 (11 * j + 0) = s0 (11 * k + 0)) : dBes s0 j k ≠ 0 ↔ (s0 (11 * j + 1) - s0 (11 * k + 1)) * (s0 (11 * j + 1) - s0 (11 * k + 1)) = 1 := by
  obtain ⟨p, -, p2, p3⟩ := (hI.2.2.2.1 j hj).2.1
  obtain ⟨q, -, q2, q3⟩ := (hI.2.2.2.1 k hk).2.1
  unfold dBes
  rw [if_pos c, p3, q3]
  exact lD_sq p (by omega) q (by omega)
theorem l_12 {x : Int32} : x ≤ 1 ↔ x < 2 := by
  rw [Int32.le_iff_toInt_le, Int32.lt_iff_toInt_lt, show (1 : Int32).toInt = 1 from rfl, show (2 : Int32).toInt = 2 from rfl]
  omega
theorem lD_T (c : s0 (11 * j + 4) - s0 (11 * j + 5) ≤ 1) : ¬ (dBes s0 j k ≠ 0 ∧ aTt s0 j) := fun q => q.2 (l_12.mp c)
theorem lD_Y (hI : aIa s0 N W) (hj : j < 12) (hk : k < 12) (c : s0 (11 * j + 0) = s0 (11 * k + 0)) (c2 : (s0 (11 * j + 1) - s0 (11 * k + 1)) * (s0 (11 * j + 1) - s0 (11 * k + 1)) = 1) (c3 : ¬ s0 (11 * j + 4) - s0 (11 * j + 5) ≤ 1) : dBes s0 j k ≠ 0 ∧ aTt s0 j := ⟨(lD_by hI hj hk c).mpr c2, fun q => c3 (l_12.mpr q)⟩
theorem lD_N (hI : aIa s0 N W) (hj : j < 12) (hk : k < 12) (c : s0 (11 * j + 0) = s0 (11 * k + 0)) (c2 : ¬ (s0 (11 * j + 1) - s0 (11 * k + 1)) * (s0 (11 * j + 1) - s0 (11 * k + 1)) = 1) : ¬ (dBes s0 j k ≠ 0 ∧ aTt s0 j) := fun q => c2 ((lD_by hI hj hk c).mp q.1)
theorem lE_N : lE s0 k N ↔ dSb s0 k N 0 ≠ 0 := by
  rw [dSb_iff]
  exact ⟨fun ⟨i, a, b⟩ => ⟨i, Nat.zero_le _, by omega, b⟩, fun ⟨i, a, b, c⟩ => ⟨i, by omega, c⟩⟩
theorem lCl_1 {c : Int32} (h1 : 0 ≤ c) (h2 : c ≤ 5) : aCl c = c := (if_pos h2).trans (if_pos h1)
theorem lCl_2 {c : Int32} (h2 : ¬ c ≤ 5) : aCl c = 5 := if_neg h2
theorem lCl_3 {c : Int32} (h1 : ¬ 0 ≤ c) : aCl c = 0 := by
  have h2 : c ≤ 5 := by
    rw [Int32.le_iff_toInt_le] at h1 ⊢
    rw [show (0 : Int32).toInt = 0 from rfl] at h1
    rw [show (5 : Int32).toInt = 5 from rfl]
    omega
  exact (if_pos h2).trans (if_neg h1)
theorem lNv (hI : aIa s0 N W) (h : ∀ j, j % 11 ≠ 4 → j < 132 → s j = s0 j) (hk : k < 12) (h4 : s (11 * k + 4) = s0 (11 * k + 4)) : aNv s s0 N k = aCl (s0 (11 * k + 4) + (if dSb s0 k N 0 = 0 then -1 else 1)) := by
  have e0 := h (11 * k + 0) (by omega) (by omega)
  have e1 := h (11 * k + 1) (by omega) (by omega)
  have hd := aCf_dSb (k := k) hI
  unfold aNv
  rw [e0, e1, h4, aCf_c hI.1.2 h (fun _ _ => rfl), aCf_c hI.1.2 h (fun _ _ => rfl)]
  by_cases h1 : aCf s0 s0 N (s0 (11 * k + 0)) (s0 (11 * k + 1) - 1) = 0
  · rw [if_pos h1]
    by_cases h2 : aCf s0 s0 N (s0 (11 * k + 0)) (s0 (11 * k + 1) + 1) = 0
    · rw [if_pos h2, if_pos (hd.mpr ⟨h1, h2⟩)]
    · rw [if_neg h2, if_neg (fun q => h2 (hd.mp q).2)]
  · rw [if_neg h1, if_neg (fun q => h1 (hd.mp q).1)]
/-- what the night leaves as it was -/
def lAg (s s0 : Nat → Int32) : Prop := (∀ j, j % 11 ≠ 4 → j < 132 → s j = s0 j) ∧ ∀ j, 132 ≤ j → s j = s0 j
theorem lAg_up {v : Int32} (h : lAg s s0) (hk : k < 12) : lAg (upd s (11 * k + 4) v) s0 := ⟨fun j h1 h2 => by rw [pk_un (by omega)]; exact h.1 j h1 h2, fun j h1 => by rw [pk_un (by omega)]; exact h.2 j h1⟩
end LN
set_option maxRecDepth 4000 in
set_option maxHeartbeats 2000000 in
theorem s_night_l1 {g : zH} {nz : Nat} (hz : 6 ≤ nz) {s0 : Nat → Int32} {N W : Nat} (hI : aIa s0 N W) {X : Nat × (Nat → Int32)} {Q : zQt} {y5 y6 y7 : Value} (hQ : zJ X mL_night (215 + nz) 34 [.ref 215, .ref 216, .ref 220, .ref (215 + nz), .int (nI N), y5, y6, y7] [] (215 + (nz + 1)) (gV (gH g nz (hF s0 N)) s0) Q) : ∀ (n k : Nat), k + n = N → zJ X mL_night (215 + nz) 8 [.ref 215, .ref 216, .ref 220, .ref (215 + nz), .int (nI k), y5, y6, y7] [] (215 + (nz + 1)) (gV (gH g nz (hF s0 k)) s0) Q := by
  have hN := hI.1.2
  intro n
  induction n with
  | zero =>
    intro k hk
    refine j_iload dL_night_8 rfl ?_
    refine j_aload_n dL_night_10 rfl ?_
    refine j_iconst (v := 1) dL_night_11 (by decide) ?_
    refine l_ld (a := 220) (i := 1) (v := nI N) 199 dL_night_12 (by decide) rfl (show 6 ≤ nz + 1 by omega) (rfl) (by decide) rfl (hI.1.1) ?_
    refine j_icmp_ge dL_night_13 (tgt := 34) rfl (fun _ => ?_) (fun c1 => absurd (show nI N ≤ nI k from nI_le (by omega) (by omega)) c1)
    obtain rfl : k = N := by omega
    exact hQ
  | succ n ih =>
    intro k hk
    refine j_iload dL_night_8 rfl ?_
    refine j_aload_n dL_night_10 rfl ?_
    refine j_iconst (v := 1) dL_night_11 (by decide) ?_
    refine l_ld (a := 220) (i := 1) (v := nI N) 199 dL_night_12 (by decide) rfl (show 6 ≤ nz + 1 by omega) (rfl) (by decide) rfl (hI.1.1) ?_
    refine j_icmp_ge dL_night_13 (tgt := 34) rfl (fun c1 => absurd c1 (show ¬ nI N ≤ nI k from nI_ge (by omega) (by omega))) (fun _ => ?_)
    refine j_aload_n dL_night_16 rfl ?_
    refine j_iload dL_night_17 rfl ?_
    refine j_aload_n dL_night_19 rfl ?_
    refine j_iconst (v := 5) dL_night_20 (by decide) ?_
    refine j_iload dL_night_21 rfl ?_
    refine j_imul dL_night_23 ?_
    refine j_iconst (v := 4) dL_night_24 (by decide) ?_
    refine j_iadd dL_night_25 ?_
    refine l_ld (a := 215) (i := ((5 * k) + 4)) (11 * k + 4) dL_night_26 (by decide) rfl (show 6 ≤ nz + 1 by omega) (by first | rfl | (simp only [z_n, pk_mul, nI_add]; done) | (simp only [z_n, pk_mul, nI_add]; exact pk_sub (by omega)) | (simp only [z_n, pk_mul, nI_add, pk_sub, *]; done)) (show _ < 60 by omega) (jA (by omega)) rfl ?_
    refine h_st (i := k) dL_night_27 hz (by first | rfl | (simp only [z_n, pk_mul, nI_add]; done) | (simp only [z_n, pk_mul, nI_add]; exact pk_sub (by omega)) | (simp only [z_n, pk_mul, nI_add, pk_sub, *]; done)) (by omega) ?_
    rw [hF_up]
    refine j_iinc (v := nI (k + 1)) dL_night_28 rfl z_inc (by decide) ?_
    refine j_goto dL_night_31 (tgt := 8) rfl ?_
    exact ih (k + 1) (by omega)
set_option maxRecDepth 4000 in
set_option maxHeartbeats 2000000 in
theorem s_night_l2 {g : zH} {nz : Nat} (hz : 6 ≤ nz) {s0 : Nat → Int32} {N W : Nat} (hI : aIa s0 N W) {X : Nat × (Nat → Int32)} {Q : zQt} {s : Nat → Int32} (hA : lAg s s0) {k : Nat} (hk : k < N) (hQ : ∀ m y, (m = 0 ∨ m = 1) → (m = 1 ↔ dSb s0 k N 0 ≠ 0) → zJ X mL_night (215 + nz) 135 [.ref 215, .ref 216, .ref 220, .ref (215 + nz), .int (nI k), .int m, .int (nI N), y] [] (215 + (nz + 1)) (gV (gH g nz (hF s0 N)) s) Q) : ∀ (n j : Nat) (m : Int32) (y7 : Value), j + n = N → (m = 0 ∨ m = 1) → (m = 1 ↔ lE s0 k j) → zJ X mL_night (215 + nz) 51 [.ref 215, .ref 216, .ref 220, .ref (215 + nz), .int (nI k), .int m, .int (nI j), y7] [] (215 + (nz + 1)) (gV (gH g nz (hF s0 N)) s) Q := by
  have hN := hI.1.2
  intro n
  induction n with
  | zero =>
    intro j m y7 hj hm h
    refine j_iload dL_night_51 rfl ?_
    refine j_aload_n dL_night_53 rfl ?_
    refine j_iconst (v := 1) dL_night_54 (by decide) ?_
    refine l_ld (a := 220) (i := 1) (v := nI N) 199 dL_night_55 (by decide) rfl (show 6 ≤ nz + 1 by omega) (rfl) (by decide) rfl ((hA.2 _ (by omega)).trans hI.1.1) ?_
    refine j_icmp_ge dL_night_56 (tgt := 135) rfl (fun _ => ?_) (fun c1 => absurd (show nI N ≤ nI j from nI_le (by omega) (by omega)) c1)
    obtain rfl : j = N := by omega
    exact hQ m y7 hm (h.trans lE_N)
  | succ n ih =>
    intro j m y7 hj hm h
    refine j_iload dL_night_51 rfl ?_
    refine j_aload_n dL_night_53 rfl ?_
    refine j_iconst (v := 1) dL_night_54 (by decide) ?_
    refine l_ld (a := 220) (i := 1) (v := nI N) 199 dL_night_55 (by decide) rfl (show 6 ≤ nz + 1 by omega) (rfl) (by decide) rfl ((hA.2 _ (by omega)).trans hI.1.1) ?_
    refine j_icmp_ge dL_night_56 (tgt := 135) rfl (fun c1 => absurd c1 (show ¬ nI N ≤ nI j from nI_ge (by omega) (by omega))) (fun _ => ?_)
    refine j_aload_n dL_night_59 rfl ?_
    refine j_iconst (v := 5) dL_night_60 (by decide) ?_
    refine j_iload dL_night_61 rfl ?_
    refine j_imul dL_night_63 ?_
    refine j_iconst (v := 1) dL_night_64 (by decide) ?_
    refine j_iadd dL_night_65 ?_
    refine l_ld (a := 215) (i := ((5 * j) + 1)) (v := s0 (11 * j + 1)) (11 * j + 1) dL_night_66 (by decide) rfl (show 6 ≤ nz + 1 by omega) (by first | rfl | (simp only [z_n, pk_mul, nI_add]; done) | (simp only [z_n, pk_mul, nI_add]; exact pk_sub (by omega)) | (simp only [z_n, pk_mul, nI_add, pk_sub, *]; done)) (show _ < 60 by omega) (jA (by omega)) (hA.1 _ (by omega) (by omega)) ?_
    refine j_aload_n dL_night_67 rfl ?_
    refine j_iconst (v := 5) dL_night_68 (by decide) ?_
    refine j_iload dL_night_69 rfl ?_
    refine j_imul dL_night_71 ?_
    refine j_iconst (v := 1) dL_night_72 (by decide) ?_
    refine j_iadd dL_night_73 ?_
    refine l_ld (a := 215) (i := ((5 * k) + 1)) (v := s0 (11 * k + 1)) (11 * k + 1) dL_night_74 (by decide) rfl (show 6 ≤ nz + 1 by omega) (by first | rfl | (simp only [z_n, pk_mul, nI_add]; done) | (simp only [z_n, pk_mul, nI_add]; exact pk_sub (by omega)) | (simp only [z_n, pk_mul, nI_add, pk_sub, *]; done)) (show _ < 60 by omega) (jA (by omega)) (hA.1 _ (by omega) (by omega)) ?_
    refine j_isub dL_night_75 ?_
    refine j_istore dL_night_76 (by decide) ?_
    refine j_iload dL_night_78 rfl ?_
    refine j_if_ne dL_night_80 (tgt := 122) rfl (fun c2 => ?_) (fun c2 => ?_)
    · refine j_iconst (v := 1) dL_night_122 (by decide) ?_
      refine j_goto dL_night_123 (tgt := 127) rfl ?_
      refine j_istore dL_night_127 (by decide) ?_
      refine j_iinc (v := nI (j + 1)) dL_night_129 rfl z_inc (by decide) ?_
      refine j_goto dL_night_132 (tgt := 51) rfl ?_
      exact ih (j + 1) 1 _ (by omega) (Or.inr rfl) (lE_A h hm c2)
    · refine j_aload_n dL_night_83 rfl ?_
      refine j_iconst (v := 5) dL_night_84 (by decide) ?_
      refine j_iload dL_night_85 rfl ?_
      refine j_imul dL_night_87 ?_
      refine l_ld (a := 215) (i := (5 * j)) (v := s0 (11 * j + 0)) (11 * j + 0) dL_night_88 (by decide) rfl (show 6 ≤ nz + 1 by omega) (by first | rfl | (simp only [z_n, pk_mul, nI_add]; done) | (simp only [z_n, pk_mul, nI_add]; exact pk_sub (by omega)) | (simp only [z_n, pk_mul, nI_add, pk_sub, *]; done)) (show _ < 60 by omega) jA0 (hA.1 _ (by omega) (by omega)) ?_
      refine j_aload_n dL_night_89 rfl ?_
      refine j_iconst (v := 5) dL_night_90 (by decide) ?_
      refine j_iload dL_night_91 rfl ?_
      refine j_imul dL_night_93 ?_
      refine l_ld (a := 215) (i := (5 * k)) (v := s0 (11 * k + 0)) (11 * k + 0) dL_night_94 (by decide) rfl (show 6 ≤ nz + 1 by omega) (by first | rfl | (simp only [z_n, pk_mul, nI_add]; done) | (simp only [z_n, pk_mul, nI_add]; exact pk_sub (by omega)) | (simp only [z_n, pk_mul, nI_add, pk_sub, *]; done)) (show _ < 60 by omega) jA0 (hA.1 _ (by omega) (by omega)) ?_
      refine j_icmp_ne dL_night_95 (tgt := 126) rfl (fun c3 => ?_) (fun c3 => ?_)
      · refine j_iconst (v := 0) dL_night_126 (by decide) ?_
        refine j_istore dL_night_127 (by decide) ?_
        refine j_iinc (v := nI (j + 1)) dL_night_129 rfl z_inc (by decide) ?_
        refine j_goto dL_night_132 (tgt := 51) rfl ?_
        exact ih (j + 1) 0 _ (by omega) (Or.inl rfl) (lE_0 h c2 (lD_row c3))
      · refine j_iload dL_night_98 rfl ?_
        refine j_iload dL_night_100 rfl ?_
        refine j_imul dL_night_102 ?_
        refine j_iconst (v := 1) dL_night_103 (by decide) ?_
        refine j_icmp_ne dL_night_104 (tgt := 126) rfl (fun c4 => ?_) (fun c4 => ?_)
        · refine j_iconst (v := 0) dL_night_126 (by decide) ?_
          refine j_istore dL_night_127 (by decide) ?_
          refine j_iinc (v := nI (j + 1)) dL_night_129 rfl z_inc (by decide) ?_
          refine j_goto dL_night_132 (tgt := 51) rfl ?_
          exact ih (j + 1) 0 _ (by omega) (Or.inl rfl) (lE_0 h c2 (lD_N hI (by omega) (by omega) c3 c4))
        · refine j_aload_n dL_night_107 rfl ?_
          refine j_iload dL_night_108 rfl ?_
          refine h_ld (i := j) dL_night_110 hz (by first | rfl | (simp only [z_n, pk_mul, nI_add]; done) | (simp only [z_n, pk_mul, nI_add]; exact pk_sub (by omega)) | (simp only [z_n, pk_mul, nI_add, pk_sub, *]; done)) (by omega) ?_
          rw [hF_at (by omega)]
          refine j_aload_n dL_night_111 rfl ?_
          refine j_iconst (v := 5) dL_night_112 (by decide) ?_
          refine j_iload dL_night_113 rfl ?_
          refine j_imul dL_night_115 ?_
          refine l_ld (a := 216) (i := (5 * j)) (v := s0 (11 * j + 5)) (11 * j + 5) dL_night_116 (by decide) rfl (show 6 ≤ nz + 1 by omega) (by first | rfl | (simp only [z_n, pk_mul, nI_add]; done) | (simp only [z_n, pk_mul, nI_add]; exact pk_sub (by omega)) | (simp only [z_n, pk_mul, nI_add, pk_sub, *]; done)) (show _ < 60 by omega) jD0 (hA.1 _ (by omega) (by omega)) ?_
          refine j_isub dL_night_117 ?_
          refine j_iconst (v := 1) dL_night_118 (by decide) ?_
          refine j_icmp_le dL_night_119 (tgt := 126) rfl (fun c5 => ?_) (fun c5 => ?_)
          · refine j_iconst (v := 0) dL_night_126 (by decide) ?_
            refine j_istore dL_night_127 (by decide) ?_
            refine j_iinc (v := nI (j + 1)) dL_night_129 rfl z_inc (by decide) ?_
            refine j_goto dL_night_132 (tgt := 51) rfl ?_
            exact ih (j + 1) 0 _ (by omega) (Or.inl rfl) (lE_0 h c2 (lD_T c5))
          · refine j_iconst (v := 1) dL_night_122 (by decide) ?_
            refine j_goto dL_night_123 (tgt := 127) rfl ?_
            refine j_istore dL_night_127 (by decide) ?_
            refine j_iinc (v := nI (j + 1)) dL_night_129 rfl z_inc (by decide) ?_
            refine j_goto dL_night_132 (tgt := 51) rfl ?_
            exact ih (j + 1) 1 _ (by omega) (Or.inr rfl) (lE_1 (lD_Y hI (by omega) (by omega) c3 c4 c5))
set_option maxRecDepth 4000 in
set_option maxHeartbeats 2000000 in
theorem s_night_l3 {g : zH} {nz : Nat} (hz : 6 ≤ nz) {s0 : Nat → Int32} {N W : Nat} (hI : aIa s0 N W) {X : Nat × (Nat → Int32)} {Q : zQt} : ∀ (n k : Nat) (s : Nat → Int32) (y5 y6 y7 : Value), k + n = N → lAg s s0 → (∀ i, k ≤ i → i < N → s (11 * i + 4) = s0 (11 * i + 4)) → (∀ y5 y6 y7, zJ X mL_night (215 + nz) 187 [.ref 215, .ref 216, .ref 220, .ref (215 + nz), .int (nI N), y5, y6, y7] [] (215 + (nz + 1)) (gV (gH g nz (hF s0 N)) (aNl s0 N n k s)) Q) → zJ X mL_night (215 + nz) 37 [.ref 215, .ref 216, .ref 220, .ref (215 + nz), .int (nI k), y5, y6, y7] [] (215 + (nz + 1)) (gV (gH g nz (hF s0 N)) s) Q := by
  have hN := hI.1.2
  intro n
  induction n with
  | zero =>
    intro k s y5 y6 y7 hk hA hC hQ
    refine j_iload dL_night_37 rfl ?_
    refine j_aload_n dL_night_39 rfl ?_
    refine j_iconst (v := 1) dL_night_40 (by decide) ?_
    refine l_ld (a := 220) (i := 1) (v := nI N) 199 dL_night_41 (by decide) rfl (show 6 ≤ nz + 1 by omega) (rfl) (by decide) rfl ((hA.2 _ (by omega)).trans hI.1.1) ?_
    refine j_icmp_ge dL_night_42 (tgt := 187) rfl (fun _ => ?_) (fun c1 => absurd (show nI N ≤ nI k from nI_le (by omega) (by omega)) c1)
    obtain rfl : k = N := by omega
    exact hQ y5 y6 y7
  | succ n ih =>
    intro k s y5 y6 y7 hk hA hC hQ
    have hstep : ∀ m y, (m = 0 ∨ m = 1) → (m = 1 ↔ dSb s0 k N 0 ≠ 0) → zJ X mL_night (215 + nz) 135 [.ref 215, .ref 216, .ref 220, .ref (215 + nz), .int (nI k), .int m, .int (nI N), y] [] (215 + (nz + 1)) (gV (gH g nz (hF s0 N)) s) Q := by
      intro m y hm h
      refine j_aload_n dL_night_135 rfl ?_
      refine j_iload dL_night_136 rfl ?_
      refine h_ld (i := k) dL_night_138 hz (by first | rfl | (simp only [z_n, pk_mul, nI_add]; done) | (simp only [z_n, pk_mul, nI_add]; exact pk_sub (by omega)) | (simp only [z_n, pk_mul, nI_add, pk_sub, *]; done)) (by omega) ?_
      rw [hF_at (by omega)]
      refine j_iload dL_night_139 rfl ?_
      refine j_if_eq dL_night_141 (tgt := 148) rfl (fun c1 => ?_) (fun c1 => ?_)
      · refine j_iconst (v := (-1)) dL_night_148 (by decide) ?_
        refine j_iadd dL_night_149 ?_
        refine j_istore dL_night_150 (by decide) ?_
        refine j_aload_n dL_night_152 rfl ?_
        refine j_iconst (v := 5) dL_night_153 (by decide) ?_
        refine j_iload dL_night_154 rfl ?_
        refine j_imul dL_night_156 ?_
        refine j_iconst (v := 4) dL_night_157 (by decide) ?_
        refine j_iadd dL_night_158 ?_
        refine j_iload dL_night_159 rfl ?_
        refine j_if_ge dL_night_161 (tgt := 168) rfl (fun c2 => ?_) (fun c2 => ?_)
        · refine j_iload dL_night_168 rfl ?_
          refine j_iconst (v := 5) dL_night_170 (by decide) ?_
          refine j_icmp_le dL_night_171 (tgt := 178) rfl (fun c3 => ?_) (fun c3 => ?_)
          · refine j_iload dL_night_178 rfl ?_
            refine l_st (a := 215) (i := ((5 * k) + 4)) (11 * k + 4) dL_night_180 (by decide) rfl (show 6 ≤ nz + 1 by omega) (by first | rfl | (simp only [z_n, pk_mul, nI_add]; done) | (simp only [z_n, pk_mul, nI_add]; exact pk_sub (by omega)) | (simp only [z_n, pk_mul, nI_add, pk_sub, *]; done)) (show _ < 60 by omega) (jA (by omega)) ?_
            refine j_iinc (v := nI (k + 1)) dL_night_181 rfl z_inc (by decide) ?_
            refine j_goto dL_night_184 (tgt := 37) rfl ?_
            refine z_to (congrArg (fun v => gV (gH g nz (hF s0 N)) (upd s (11 * k + 4) v)) (((lNv hI hA.1 (by omega) (hC k (Nat.le_refl k) (by omega))).trans (congrArg (fun v => aCl (s0 (11 * k + 4) + v)) (if_pos (show dSb s0 k N 0 = 0 from Decidable.byContradiction (fun q => absurd ((h.mpr q).symm.trans c1) (by decide)))))).trans (lCl_1 c2 c3)).symm) ?_
            exact ih (k + 1) _ _ _ _ (by omega) (lAg_up hA (by omega)) (fun i h1 h2 => by rw [pk_un (by omega)]; exact hC i (by omega) h2) hQ
          · refine j_iconst (v := 5) dL_night_174 (by decide) ?_
            refine j_goto dL_night_175 (tgt := 180) rfl ?_
            refine l_st (a := 215) (i := ((5 * k) + 4)) (11 * k + 4) dL_night_180 (by decide) rfl (show 6 ≤ nz + 1 by omega) (by first | rfl | (simp only [z_n, pk_mul, nI_add]; done) | (simp only [z_n, pk_mul, nI_add]; exact pk_sub (by omega)) | (simp only [z_n, pk_mul, nI_add, pk_sub, *]; done)) (show _ < 60 by omega) (jA (by omega)) ?_
            refine j_iinc (v := nI (k + 1)) dL_night_181 rfl z_inc (by decide) ?_
            refine j_goto dL_night_184 (tgt := 37) rfl ?_
            refine z_to (congrArg (fun v => gV (gH g nz (hF s0 N)) (upd s (11 * k + 4) v)) (((lNv hI hA.1 (by omega) (hC k (Nat.le_refl k) (by omega))).trans (congrArg (fun v => aCl (s0 (11 * k + 4) + v)) (if_pos (show dSb s0 k N 0 = 0 from Decidable.byContradiction (fun q => absurd ((h.mpr q).symm.trans c1) (by decide)))))).trans (lCl_2 c3)).symm) ?_
            exact ih (k + 1) _ _ _ _ (by omega) (lAg_up hA (by omega)) (fun i h1 h2 => by rw [pk_un (by omega)]; exact hC i (by omega) h2) hQ
        · refine j_iconst (v := 0) dL_night_164 (by decide) ?_
          refine j_goto dL_night_165 (tgt := 180) rfl ?_
          refine l_st (a := 215) (i := ((5 * k) + 4)) (11 * k + 4) dL_night_180 (by decide) rfl (show 6 ≤ nz + 1 by omega) (by first | rfl | (simp only [z_n, pk_mul, nI_add]; done) | (simp only [z_n, pk_mul, nI_add]; exact pk_sub (by omega)) | (simp only [z_n, pk_mul, nI_add, pk_sub, *]; done)) (show _ < 60 by omega) (jA (by omega)) ?_
          refine j_iinc (v := nI (k + 1)) dL_night_181 rfl z_inc (by decide) ?_
          refine j_goto dL_night_184 (tgt := 37) rfl ?_
          refine z_to (congrArg (fun v => gV (gH g nz (hF s0 N)) (upd s (11 * k + 4) v)) (((lNv hI hA.1 (by omega) (hC k (Nat.le_refl k) (by omega))).trans (congrArg (fun v => aCl (s0 (11 * k + 4) + v)) (if_pos (show dSb s0 k N 0 = 0 from Decidable.byContradiction (fun q => absurd ((h.mpr q).symm.trans c1) (by decide)))))).trans (lCl_3 c2)).symm) ?_
          exact ih (k + 1) _ _ _ _ (by omega) (lAg_up hA (by omega)) (fun i h1 h2 => by rw [pk_un (by omega)]; exact hC i (by omega) h2) hQ
      · refine j_iconst (v := 1) dL_night_144 (by decide) ?_
        refine j_goto dL_night_145 (tgt := 149) rfl ?_
        refine j_iadd dL_night_149 ?_
        refine j_istore dL_night_150 (by decide) ?_
        refine j_aload_n dL_night_152 rfl ?_
        refine j_iconst (v := 5) dL_night_153 (by decide) ?_
        refine j_iload dL_night_154 rfl ?_
        refine j_imul dL_night_156 ?_
        refine j_iconst (v := 4) dL_night_157 (by decide) ?_
        refine j_iadd dL_night_158 ?_
        refine j_iload dL_night_159 rfl ?_
        refine j_if_ge dL_night_161 (tgt := 168) rfl (fun c4 => ?_) (fun c4 => ?_)
        · refine j_iload dL_night_168 rfl ?_
          refine j_iconst (v := 5) dL_night_170 (by decide) ?_
          refine j_icmp_le dL_night_171 (tgt := 178) rfl (fun c5 => ?_) (fun c5 => ?_)
          · refine j_iload dL_night_178 rfl ?_
            refine l_st (a := 215) (i := ((5 * k) + 4)) (11 * k + 4) dL_night_180 (by decide) rfl (show 6 ≤ nz + 1 by omega) (by first | rfl | (simp only [z_n, pk_mul, nI_add]; done) | (simp only [z_n, pk_mul, nI_add]; exact pk_sub (by omega)) | (simp only [z_n, pk_mul, nI_add, pk_sub, *]; done)) (show _ < 60 by omega) (jA (by omega)) ?_
            refine j_iinc (v := nI (k + 1)) dL_night_181 rfl z_inc (by decide) ?_
            refine j_goto dL_night_184 (tgt := 37) rfl ?_
            refine z_to (congrArg (fun v => gV (gH g nz (hF s0 N)) (upd s (11 * k + 4) v)) (((lNv hI hA.1 (by omega) (hC k (Nat.le_refl k) (by omega))).trans (congrArg (fun v => aCl (s0 (11 * k + 4) + v)) (if_neg (show ¬ dSb s0 k N 0 = 0 from h.mp (hm.resolve_left c1))))).trans (lCl_1 c4 c5)).symm) ?_
            exact ih (k + 1) _ _ _ _ (by omega) (lAg_up hA (by omega)) (fun i h1 h2 => by rw [pk_un (by omega)]; exact hC i (by omega) h2) hQ
          · refine j_iconst (v := 5) dL_night_174 (by decide) ?_
            refine j_goto dL_night_175 (tgt := 180) rfl ?_
            refine l_st (a := 215) (i := ((5 * k) + 4)) (11 * k + 4) dL_night_180 (by decide) rfl (show 6 ≤ nz + 1 by omega) (by first | rfl | (simp only [z_n, pk_mul, nI_add]; done) | (simp only [z_n, pk_mul, nI_add]; exact pk_sub (by omega)) | (simp only [z_n, pk_mul, nI_add, pk_sub, *]; done)) (show _ < 60 by omega) (jA (by omega)) ?_
            refine j_iinc (v := nI (k + 1)) dL_night_181 rfl z_inc (by decide) ?_
            refine j_goto dL_night_184 (tgt := 37) rfl ?_
            refine z_to (congrArg (fun v => gV (gH g nz (hF s0 N)) (upd s (11 * k + 4) v)) (((lNv hI hA.1 (by omega) (hC k (Nat.le_refl k) (by omega))).trans (congrArg (fun v => aCl (s0 (11 * k + 4) + v)) (if_neg (show ¬ dSb s0 k N 0 = 0 from h.mp (hm.resolve_left c1))))).trans (lCl_2 c5)).symm) ?_
            exact ih (k + 1) _ _ _ _ (by omega) (lAg_up hA (by omega)) (fun i h1 h2 => by rw [pk_un (by omega)]; exact hC i (by omega) h2) hQ
        · refine j_iconst (v := 0) dL_night_164 (by decide) ?_
          refine j_goto dL_night_165 (tgt := 180) rfl ?_
          refine l_st (a := 215) (i := ((5 * k) + 4)) (11 * k + 4) dL_night_180 (by decide) rfl (show 6 ≤ nz + 1 by omega) (by first | rfl | (simp only [z_n, pk_mul, nI_add]; done) | (simp only [z_n, pk_mul, nI_add]; exact pk_sub (by omega)) | (simp only [z_n, pk_mul, nI_add, pk_sub, *]; done)) (show _ < 60 by omega) (jA (by omega)) ?_
          refine j_iinc (v := nI (k + 1)) dL_night_181 rfl z_inc (by decide) ?_
          refine j_goto dL_night_184 (tgt := 37) rfl ?_
          refine z_to (congrArg (fun v => gV (gH g nz (hF s0 N)) (upd s (11 * k + 4) v)) (((lNv hI hA.1 (by omega) (hC k (Nat.le_refl k) (by omega))).trans (congrArg (fun v => aCl (s0 (11 * k + 4) + v)) (if_neg (show ¬ dSb s0 k N 0 = 0 from h.mp (hm.resolve_left c1))))).trans (lCl_3 c4)).symm) ?_
          exact ih (k + 1) _ _ _ _ (by omega) (lAg_up hA (by omega)) (fun i h1 h2 => by rw [pk_un (by omega)]; exact hC i (by omega) h2) hQ
    refine j_iload dL_night_37 rfl ?_
    refine j_aload_n dL_night_39 rfl ?_
    refine j_iconst (v := 1) dL_night_40 (by decide) ?_
    refine l_ld (a := 220) (i := 1) (v := nI N) 199 dL_night_41 (by decide) rfl (show 6 ≤ nz + 1 by omega) (rfl) (by decide) rfl ((hA.2 _ (by omega)).trans hI.1.1) ?_
    refine j_icmp_ge dL_night_42 (tgt := 187) rfl (fun c1 => absurd c1 (show ¬ nI N ≤ nI k from nI_ge (by omega) (by omega))) (fun _ => ?_)
    refine j_iconst (v := 0) dL_night_45 (by decide) ?_
    refine j_istore dL_night_46 (by decide) ?_
    refine j_iconst (v := 0) dL_night_48 (by decide) ?_
    refine j_istore dL_night_49 (by decide) ?_
    refine s_night_l2 hz hI hA (show k < N by omega) (fun m y hm h => ?_) N 0 0 _ (Nat.zero_add N) (Or.inl rfl) ⟨fun q => absurd q (by decide), fun ⟨i, h1, _⟩ => absurd h1 (Nat.not_lt_zero i)⟩
    exact hstep m y hm h
set_option maxRecDepth 4000 in
set_option maxHeartbeats 2000000 in
theorem s_night {g : zH} {w : Nat → Int32} {nz : Nat} (hz : 6 ≤ nz) (hz2 : nz ≤ 100) {N W : Nat} (hI : aIa w N W) : zCT mL_night [.ref 215, .ref 216, .ref 220] (215 + nz) (gV g w) (215 + nz + 1) (fun r h' => r = none ∧ ∃ F, h' = gV (gH g nz F) (aNight w w N)) := by
  intro X Q hQ
  show zJ X mL_night (215 + nz) 0 [.ref 215, .ref 216, .ref 220, .null, .null, .null, .null, .null] [] (215 + nz) (gV g w) Q
  have hN := hI.1.2
  refine j_bipush (v := 12) dL_night_0 (by decide) ?_
  refine j_newa (t := 0) (n := 12) dL_night_2 (Or.inl ⟨rfl, rfl⟩) z_arI (zS_had hz) (by decide) (by decide) (by decide) (by omega) (Nat.le_refl _) (show 215 + nz + 1 - (215 + nz) ≤ 1 by omega) (show zN (215 + nz) + zZ (215 + nz) - zN (215 + nz) ≤ 12 by rw [zZ_had hz]; omega) ?_
  show zJ X mL_night (215 + nz) _ _ _ (215 + (nz + 1)) _ Q
  refine z_to (gV_ou (by omega)) ?_
  refine j_astore_n dL_night_4 (by decide) ?_
  refine j_iconst (v := 0) dL_night_5 (by decide) ?_
  refine j_istore dL_night_6 (by decide) ?_
  have e0 : va_up g (215 + nz) (fun _ => Value.int 0) = gH g nz (hF w 0) := by rw [hF_0]
  refine z_to (congrArg (fun z => gV z w) e0) ?_
  refine s_night_l1 hz hI ?_ N 0 (Nat.zero_add N)
  refine j_iconst (v := 0) dL_night_34 (by decide) ?_
  refine j_istore dL_night_35 (by decide) ?_
  refine s_night_l3 hz hI N 0 w _ _ _ (Nat.zero_add N) ⟨fun _ _ _ => rfl, fun _ _ => rfl⟩ (fun _ _ _ => rfl) (fun y5 y6 y7 => ?_)
  refine j_aload_n dL_night_187 rfl ?_
  refine j_bipush (v := 12) dL_night_188 (by decide) ?_
  refine j_dup2 dL_night_190 rfl rfl ?_
  refine l_ld (a := 220) (i := 12) 209 dL_night_191 (by decide) rfl (show 6 ≤ nz + 1 by omega) (rfl) (by decide) rfl rfl ?_
  refine j_iconst (v := 1) dL_night_192 (by decide) ?_
  refine j_iadd dL_night_193 ?_
  refine l_st (a := 220) (i := 12) 209 dL_night_194 (by decide) rfl (show 6 ≤ nz + 1 by omega) (rfl) (by decide) rfl ?_
  refine j_vret dL_night_195 rfl ?_
  exact hQ _ _ ⟨rfl, _, rfl⟩
end L3
