-- the law's start
section ST
/-- the check's first array -/
def s0 (j : Nat) : Int32 := if 212 ≤ j ∧ j < 215 then 3 else 0
theorem s0_z {j : Nat} (h : j < 212) : s0 j = 0 := if_neg (fun q => by omega)
theorem s0_3 {j : Nat} (h : 212 ≤ j ∧ j < 215) : s0 j = 3 := if_pos h
theorem r_0 {x : Int32} {hi : Nat} (h : x = 0) : aR x 0 hi := ⟨0, Nat.le_refl _, Nat.zero_le _, h⟩
theorem s50_eq : s50 = iA s0 := by
  funext k
  unfold s50
  show _ = Value.int (s0 k)
  by_cases h1 : k = 214
  · subst h1
    rw [va_s, s0_3 (by omega)]
  · rw [va_n h1]
    by_cases h2 : k = 213
    · subst h2
      rw [va_s, s0_3 (by omega)]
    · rw [va_n h2]
      by_cases h3 : k = 212
      · subst h3
        rw [va_s, s0_3 (by omega)]
      · rw [va_n h3]
        unfold s0
        rw [if_neg (by omega)]
theorem s0_M : aM s0 := by
  have e152 : s0 152 = 0 := s0_z (by omega)
  have e148 : s0 148 = 0 := s0_z (by omega)
  have hI : aIa s0 0 0 := by
    refine ⟨⟨s0_z (by omega), by omega⟩, ⟨s0_z (by omega), by omega⟩, r_0 (s0_z (by omega)), fun k hk => ⟨r_0 (s0_z (by omega)), r_0 (s0_z (by omega)), r_0 (s0_z (by omega)), r_0 (s0_z (by omega))⟩, fun i j _ hj => absurd hj (Nat.not_lt_zero j), Or.inl e148, ⟨⟨?_, Or.inl e152⟩, Or.inl e152⟩, fun q => ?_, fun i hi => absurd hi (Nat.not_lt_zero i)⟩
    · unfold aWho
      rw [e152]
      decide
    · rw [e148] at q
      exact absurd q (by decide)
  have hJ : aJ s0 0 := ⟨fun k j _ h1 h2 h3 => s0_z (by omega), r_0 (s0_z (by omega)), ⟨0, 0, s0_z (by omega), s0_z (by omega), Nat.le_refl _, rfl⟩, fun k hk => absurd hk (Nat.not_lt_zero k)⟩
  exact ⟨aK_of hI hJ, fun k hk => r_0 (s0_z (by omega)), fun k hk => ⟨3, by omega, by omega, s0_3 (by omega)⟩⟩
theorem AP_0 : AP p0 := by
  refine ⟨fun i hi => ?_, fun i j hi hj e => ?_⟩
  · unfold p0 aL
    repeat' split
    all_goals omega
  · unfold p0 at e
    repeat' split at e
    all_goals omega
theorem AZ_0 : AZ v0 := fun o _ => ⟨Or.inl (if_neg (fun q => by omega)), Or.inl (if_neg (fun q => by omega))⟩
theorem AS_0 : AS v0 s0 := by
  intro o k h
  rcases h with ⟨rfl, h1, h2, h3⟩ | ⟨rfl, h1⟩ | ⟨rfl, h1⟩
  · have hj : sJ 0 k < 212 := by
      unfold sJ
      rw [if_pos rfl]
      repeat' split
      all_goals omega
    rw [s0_z hj]
    exact if_neg (fun q => by omega)
  · have hj : sJ 32 k < 212 := by
      unfold sJ
      rw [if_neg (by decide), if_pos rfl]
      repeat' split
      all_goals omega
    rw [s0_z hj]
    exact if_neg (fun q => by omega)
  · have hj : 212 ≤ sJ 33 k ∧ sJ 33 k < 215 := by
      unfold sJ
      rw [if_neg (by decide), if_neg (by decide)]
      omega
    rw [s0_3 hj]
    exact if_pos ⟨rfl, h1⟩
theorem AT_0 : AT v0 p0 s0 := by
  have e148 : s0 148 = 0 := s0_z (by omega)
  refine ⟨0, 0, 0, s0_z (by omega), s0_z (by omega), s0_z (by omega), ⟨by omega, by omega, by omega⟩, AP_0, AZ_0, AS_0, fun k j hk => absurd hk (Nat.not_lt_zero k), fun i hi => absurd hi (Nat.not_lt_zero i), fun i hi => absurd hi (Nat.not_lt_zero i), fun q => ?_⟩
  rw [e148] at q
  exact absurd q (by decide)
/-- the heap at the loop's start -/
def HS : zH := gZ (va_up GH 215 (zB 5)) o50 s50
theorem HS_lo {a : Nat} (h : a < 215) : HS a = GH a := by
  unfold HS gZ
  rw [if_neg (by omega), if_neg (by omega), if_neg (by omega), va_n (by omega)]
theorem HS_lo2 {a : Nat} (h : a < 215) (h2 : 2 ≤ a) : HS a = FH a := by
  rw [HS_lo h]
  exact gO_o h2
theorem HS_CH : CH HS s0 z0 0 z0 0 := by
  refine ⟨fun i => i, fun _ => v0, fun _ => p0, f0, z0, ⟨⟨fun _ h => h, fun _ _ _ _ e => e⟩, fun i hi => ⟨fun a ha => ?_, AP_0, AZ_0⟩, by omega, ?_, ?_, rfl, by omega, fun j hj => absurd hj (Nat.not_lt_zero j)⟩, AT_0, fun i hi => absurd hi (Nat.not_lt_zero i)⟩
  · have hB := bs_B i
    have hl : 2 ≤ bs i + a ∧ bs i + a < 215 := by
      unfold aB at hB
      omega
    rw [HS_lo2 hl.2 hl.1]
    exact FH_B hB ha
  · refine (gO_eq (fun k => ?_) (fun k => ?_) (fun a ha => rfl)).symm
    · rw [HS_lo (by omega)]
      show (if k = 0 then Value.ref 1 else if k = 1 then .ref 142 else if k = 2 then .int (nI 0) else if k = 3 then .ref (bs 4) else if k = 4 then .ref (bs 5) else FH 0 k) = (if k = 0 then Value.ref 1 else if k = 1 then .ref 142 else if k = 2 then .int (nI 0) else if k = 3 then .ref (bs 4) else if k = 4 then .ref (bs 5) else HS 0 k)
      by_cases h5 : k < 5
      · rcases (show k = 0 ∨ k = 1 ∨ k = 2 ∨ k = 3 ∨ k = 4 by omega) with rfl | rfl | rfl | rfl | rfl <;> rfl
      · rw [if_neg (by omega), if_neg (by omega), if_neg (by omega), if_neg (by omega), if_neg (by omega), if_neg (by omega), if_neg (by omega), if_neg (by omega), if_neg (by omega), if_neg (by omega), HS_lo (by omega)]
        show _ = (if k = 0 then Value.ref 1 else if k = 1 then .ref 142 else if k = 2 then .int (nI 0) else if k = 3 then .ref (bs 4) else if k = 4 then .ref (bs 5) else FH 0 k)
        rw [if_neg (by omega), if_neg (by omega), if_neg (by omega), if_neg (by omega), if_neg (by omega)]
    · rw [HS_lo (by omega)]
      show (if k < 4 then Value.ref (bs k) else FH 1 k) = (if k < 4 then Value.ref (bs k) else HS 1 k)
      by_cases h5 : k < 4
      · rw [if_pos h5, if_pos h5]
      · rw [if_neg h5, if_neg h5, HS_lo (by omega)]
        show _ = (if k < 4 then Value.ref (bs k) else FH 1 k)
        rw [if_neg h5]
  · funext a
    unfold gX
    by_cases h1 : a = 142
    · subst h1
      rw [if_pos rfl, HS_lo2 (by omega) (by omega)]
      unfold FH
      rw [if_neg (by omega), if_pos rfl]
    · rw [if_neg h1]
      by_cases h2 : a = 143
      · subst h2
        rw [if_pos rfl, HS_lo2 (by omega) (by omega)]
        unfold FH
        rw [if_neg (by omega), if_neg (by omega), if_pos (by omega)]
      · rw [if_neg h2]
        by_cases h3 : a = 144
        · subst h3
          rw [if_pos rfl, HS_lo2 (by omega) (by omega)]
          unfold FH
          rw [if_neg (by omega), if_neg (by omega), if_pos (by omega)]
        · rw [if_neg h3]
theorem HS_5 : HS 215 = o50 := by
  unfold HS gZ
  rw [if_pos rfl]
theorem HS_6 : HS 216 = iA s0 := by
  unfold HS gZ
  rw [if_neg (by decide), if_pos rfl, s50_eq]
theorem HS_7 {a : Nat} (h : 217 ≤ a ∧ a < 222) : HS a = iA z0 := by
  unfold HS gZ
  rw [if_neg (by omega), if_neg (by omega), if_pos h]
theorem HS_KP : KP HS s0 z0 0 z0 z0 z0 z0 z0 := by
  refine ⟨⟨?_, ?_, ?_, ?_, ?_, ?_⟩, HS_6, HS_7 (by omega), HS_7 (by omega), HS_7 (by omega), HS_7 (by omega), HS_7 (by omega), ?_, fun k hk => ?_⟩
  · rw [HS_5]; rfl
  · rw [HS_5]; rfl
  · rw [HS_5]; rfl
  · rw [HS_5]; rfl
  · rw [HS_5]; rfl
  · rw [HS_5]; rfl
  · rw [HS_5]; rfl
  · rw [HS_5]
    rcases (show k = 5 ∨ k = 7 ∨ k = 8 ∨ k = 9 ∨ k = 10 ∨ k = 11 ∨ k = 12 ∨ k = 13 by omega) with rfl | rfl | rfl | rfl | rfl | rfl | rfl | rfl <;> rfl
theorem HS_LI : LI HS := ⟨s0, z0, z0, z0, z0, z0, z0, 0, 0, HS_CH, s0_M, fun i hi => absurd hi (Nat.not_lt_zero i), by omega, by omega, rfl, rfl, HS_KP⟩
end ST
theorem law_run {X : Nat × (Nat → Int32)} (hL : X.1 ≤ 2560) {Q : zQt} (hQ : ∀ h', Q (some 1) 222 h') {h : zH} : zJ X mL_law 0 0 [.ref 1000, .null, .null, .null] [] 0 h Q := by
  refine j_new dL_law_0 kL_7 rfl (by decide) (by decide) (by decide) (by decide +kernel) ?_
  refine j_dup dL_law_3 rfl ?_
  refine j_callI (As := []) (n := 0) dL_law_4 vL_law_9 (i_X4 va_s) (by decide) rfl (fun v hv => by cases hv) (Nat.le_of_ble_eq_true rfl) (by decide) rfl (by decide +kernel) (by decide) (by decide +kernel) ?_
  rintro h1 ⟨-, g1⟩
  refine j_same (h' := GH) (fun a ha k hk => g1 a ha k hk) ?_
  refine j_astore_n dL_law_7 (by decide) ?_
  refine j_new dL_law_8 kL_10 rfl (by decide) (by decide) (by decide) (by decide +kernel) ?_
  refine j_dup dL_law_11 rfl ?_
  refine j_callI (As := []) (n := 0) dL_law_12 vL_law_12 (i_X5 va_s) (by decide) rfl (fun v hv => by cases hv) (Nat.le_of_ble_eq_true rfl) (by decide) rfl (by decide +kernel) (by decide) (by decide +kernel) ?_
  rintro _ ⟨-, rfl⟩
  refine j_astore_n dL_law_15 (by decide) ?_
  refine j_iconst (v := 0) dL_law_16 (by decide) ?_
  refine j_istore_n dL_law_17 (by decide) ?_
  exact law_all hL hQ HS_LI
