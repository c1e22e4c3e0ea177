variable {nz : Nat}
set_option maxRecDepth 4000 in
set_option maxHeartbeats 2000000 in
theorem c_in {h : zH} {v a b : Int32} : zCT mX4_isWithin [.int v, .int a, .int b] (215 + nz) h (215 + nz) (fun r h' => r = some (aIn v a b) ∧ h' = h) := by
  intro X Q hQ
  show zJ X mX4_isWithin (215 + nz) 0 [.int v, .int a, .int b] [] (215 + nz) h Q
  refine j_iload_n dX4_isWithin_0 rfl ?_
  refine j_iload_n dX4_isWithin_1 rfl ?_
  refine j_icmp_lt dX4_isWithin_2 (tgt := 14) rfl (fun c1 => ?_) (fun c1 => ?_)
  · refine j_iconst (v := 0) dX4_isWithin_14 (by first | decide | omega) ?_
    refine j_iret dX4_isWithin_15 rfl (rfl) ?_
    exact hQ _ _ (zb_r ((if_pos c1).trans (rfl)))
  · refine j_iload_n dX4_isWithin_5 rfl ?_
    refine j_iload_n dX4_isWithin_6 rfl ?_
    refine j_icmp_gt dX4_isWithin_7 (tgt := 14) rfl (fun c2 => ?_) (fun c2 => ?_)
    · refine j_iconst (v := 0) dX4_isWithin_14 (by first | decide | omega) ?_
      refine j_iret dX4_isWithin_15 rfl (rfl) ?_
      exact hQ _ _ (zb_r ((if_neg c1).trans ((if_pos c2).trans (rfl))))
    · refine j_iconst (v := 1) dX4_isWithin_10 (by first | decide | omega) ?_
      refine j_goto dX4_isWithin_11 (tgt := 15) rfl ?_
      refine j_iret dX4_isWithin_15 rfl (rfl) ?_
      exact hQ _ _ (zb_r ((if_neg c1).trans ((if_neg c2).trans (rfl))))
set_option maxRecDepth 4000 in
set_option maxHeartbeats 2000000 in
theorem c_isSeat {h : zH} {r c : Int32} : zCT mX4_isSeat [.int r, .int c] (215 + nz) h (215 + nz) (fun x h' => x = some (aSeat r c) ∧ h' = h) := by
  intro X Q hQ
  show zJ X mX4_isSeat (215 + nz) 0 [.int r, .int c] [] (215 + nz) h Q
  refine j_iload_n dX4_isSeat_0 rfl ?_
  refine j_iconst (v := 0) dX4_isSeat_1 (by first | decide | omega) ?_
  refine j_iconst (v := 5) dX4_isSeat_2 (by first | decide | omega) ?_
  refine k_callS3i dX4_isSeat_3 vX4_isSeat_94 (c_in) rfl rfl rfl (Nat.le_of_ble_eq_true rfl) ⟨rfl, rfl⟩ rfl ?_
  rintro _ _ ⟨⟨⟩, rfl⟩
  refine j_if_eq dX4_isSeat_6 (tgt := 23) rfl (fun c1 => ?_) (fun c1 => ?_)
  · refine j_iconst (v := 0) dX4_isSeat_23 (by first | decide | omega) ?_
    refine j_iret dX4_isSeat_24 rfl (rfl) ?_
    exact hQ _ _ (zb_r ((if_pos c1).trans (rfl)))
  · refine j_iload_n dX4_isSeat_9 rfl ?_
    refine j_iconst (v := 0) dX4_isSeat_10 (by first | decide | omega) ?_
    refine j_bipush (v := 7) dX4_isSeat_11 (by first | decide | omega) ?_
    refine k_callS3i dX4_isSeat_13 vX4_isSeat_94 (c_in) rfl rfl rfl (Nat.le_of_ble_eq_true rfl) ⟨rfl, rfl⟩ rfl ?_
    rintro _ _ ⟨⟨⟩, rfl⟩
    refine j_if_eq dX4_isSeat_16 (tgt := 23) rfl (fun c2 => ?_) (fun c2 => ?_)
    · refine j_iconst (v := 0) dX4_isSeat_23 (by first | decide | omega) ?_
      refine j_iret dX4_isSeat_24 rfl (rfl) ?_
      exact hQ _ _ (zb_r ((if_neg c1).trans ((if_pos c2).trans (rfl))))
    · refine j_iconst (v := 1) dX4_isSeat_19 (by first | decide | omega) ?_
      refine j_goto dX4_isSeat_20 (tgt := 24) rfl ?_
      refine j_iret dX4_isSeat_24 rfl (rfl) ?_
      exact hQ _ _ (zb_r ((if_neg c1).trans ((if_neg c2).trans (rfl))))
def aHb (s : Nat → Int32) (b : Int32) : Int32 := if b < 0 then 0 else if s 199 ≤ b then 0 else 1
theorem aHb_eq {s : Nat → Int32} {b : Int32} {N : Nat} (hn : s 199 = nI N) (hN : N ≤ 12) : aHb s b = aIs s b := by
  have e1 : (nI N).toInt = (N : Int) := nI_toInt (by omega)
  have e2 : (nI N - 1).toInt = (N : Int) - 1 := by
    rcases (show N = 0 ∨ N = 1 ∨ N = 2 ∨ N = 3 ∨ N = 4 ∨ N = 5 ∨ N = 6 ∨ N = 7 ∨ N = 8 ∨ N = 9 ∨ N = 10 ∨ N = 11 ∨ N = 12 by omega) with rfl | rfl | rfl | rfl | rfl | rfl | rfl | rfl | rfl | rfl | rfl | rfl | rfl <;> decide
  unfold aHb aIs aIn
  rw [hn]
  by_cases h0 : b < 0
  · rw [if_pos h0, if_pos h0]
  · rw [if_neg h0, if_neg h0]
    by_cases h1 : nI N ≤ b
    · rw [if_pos h1, if_pos]
      rw [Int32.le_iff_toInt_le] at h1
      rw [Int32.lt_iff_toInt_lt]
      omega
    · rw [if_neg h1, if_neg]
      rw [Int32.le_iff_toInt_le] at h1
      rw [Int32.lt_iff_toInt_lt]
      omega
theorem aIs_of {s : Nat → Int32} {N k : Nat} (hn : s 199 = nI N) (hN : N ≤ 12) (hk : k < N) : aIs s (nI k) = 1 := by
  rw [← aHb_eq hn hN]
  unfold aHb
  rw [if_neg (show ¬ nI k < 0 from nI_nlt (a := k) (b := 0) (by omega) (by omega)), hn, if_neg (nI_ge (by omega) (by omega))]
set_option maxRecDepth 4000 in
set_option maxHeartbeats 2000000 in
theorem c_has0 {g : zH} {B : Nat} (hB : aB B) {v : Nat → Nat → Int32} {p : Nat → Nat} {s : Nat → Int32} {N W K : Nat} (hA : AR v p s N W K) (hI : aIa s N W) {b : Int32} : zCT mX0_hasBidder [.ref B, .int b] (215 + nz) (gAu g B v p) (215 + nz) (fun r h' => r = some (aHb s b) ∧ h' = gAu g B v p) := by
  intro X Q hQ
  show zJ X mX0_hasBidder (215 + nz) 0 [.ref B, .int b] [] (215 + nz) (gAu g B v p) Q
  refine j_iload_n dX0_hasBidder_0 rfl ?_
  refine j_if_lt dX0_hasBidder_1 (tgt := 16) rfl (fun c1 => ?_) (fun c1 => ?_)
  · refine j_iconst (v := 0) dX0_hasBidder_16 (by first | decide | omega) ?_
    refine j_iret dX0_hasBidder_17 rfl (rfl) ?_
    exact hQ _ _ (zb_r ((if_pos c1).trans (rfl)))
  · refine j_iload_n dX0_hasBidder_4 rfl ?_
    refine j_aload_n dX0_hasBidder_5 rfl ?_
    refine j_get (v := .int (s 199)) dX0_hasBidder_6 fX0_39 (aB_S0 hB) (aB_l0 hB) ((zb_int0 (by unfold tI; decide)).trans (congrArg Value.int (ar_s hA 0 5 (by first | decide | omega)))) ?_
    refine j_icmp_ge dX0_hasBidder_9 (tgt := 16) rfl (fun c2 => ?_) (fun c2 => ?_)
    · refine j_iconst (v := 0) dX0_hasBidder_16 (by first | decide | omega) ?_
      refine j_iret dX0_hasBidder_17 rfl (rfl) ?_
      exact hQ _ _ (zb_r ((if_neg c1).trans ((if_pos c2).trans (rfl))))
    · refine j_iconst (v := 1) dX0_hasBidder_12 (by first | decide | omega) ?_
      refine j_goto dX0_hasBidder_13 (tgt := 17) rfl ?_
      refine j_iret dX0_hasBidder_17 rfl (rfl) ?_
      exact hQ _ _ (zb_r ((if_neg c1).trans ((if_neg c2).trans (rfl))))
theorem c_has {g : zH} {B : Nat} (hB : aB B) {v : Nat → Nat → Int32} {p : Nat → Nat} {s : Nat → Int32} {N W K : Nat} (hA : AR v p s N W K) (hI : aIa s N W) {b : Int32} : zCT mX0_hasBidder [.ref B, .int b] (215 + nz) (gAu g B v p) (215 + nz) (fun r h' => r = some (aIs s b) ∧ h' = gAu g B v p) := (c_has0 hB hA hI).to (fun r h' q => ⟨q.1.trans (congrArg some (aHb_eq hI.1.1 hI.1.2)), q.2⟩)
set_option maxRecDepth 4000 in
set_option maxHeartbeats 2000000 in
theorem c_seated_lp {g : zH} {B : Nat} (hB : aB B) {v : Nat → Nat → Int32} {p : Nat → Nat} {s : Nat → Int32} {N W K : Nat} (hA : AR v p s N W K) (hI : aIa s N W) {row seat : Int32} {X : Nat × (Nat → Int32)} {Q : zQt} : ∀ (n k : Nat), k + n = N → (∀ r h', r = some (aFind s row seat n k) ∧ h' = gAu g B v p → Q r (215 + nz) h') → zJ X mX0_findSeated (215 + nz) 2 [.ref B, .int row, .int seat, .int (nI k)] [] (215 + nz) (gAu g B v p) Q := by
  have hN := hA.1
  intro n
  induction n with
  | zero =>
    intro k  hk hQ
    refine j_iload_n dX0_findSeated_2 rfl ?_
    refine j_aload_n dX0_findSeated_3 rfl ?_
    refine j_get (v := .int (s 199)) dX0_findSeated_4 fX0_39 (aB_S0 hB) (aB_l0 hB) ((zb_int0 (by unfold tI; decide)).trans (congrArg Value.int (ar_s hA 0 5 (by first | decide | omega)))) ?_
    refine j_icmp_ge dX0_findSeated_7 (tgt := 44) rfl (fun _ => ?_) (fun c1 => absurd (show s 199 ≤ nI k by rw [hI.1.1]; exact nI_le (by omega) (by omega)) c1)
    refine j_ldc (v := (-1000004)) dX0_findSeated_44 cX0_93 ?_
    refine j_iret dX0_findSeated_46 rfl (rfl) ?_
    exact hQ _ _ ⟨rfl, rfl⟩
  | succ n ih =>
    intro k  hk hQ
    refine j_iload_n dX0_findSeated_2 rfl ?_
    refine j_aload_n dX0_findSeated_3 rfl ?_
    refine j_get (v := .int (s 199)) dX0_findSeated_4 fX0_39 (aB_S0 hB) (aB_l0 hB) ((zb_int0 (by unfold tI; decide)).trans (congrArg Value.int (ar_s hA 0 5 (by first | decide | omega)))) ?_
    refine j_icmp_ge dX0_findSeated_7 (tgt := 44) rfl (fun c1 => absurd c1 (show ¬ s 199 ≤ nI k by rw [hI.1.1]; exact nI_ge (by omega) (by omega))) (fun _ => ?_)
    refine j_aload_n dX0_findSeated_10 rfl ?_
    refine j_get dX0_findSeated_11 fX0_13 (aB_S0 hB) (aB_l0 hB) zb_p0 ?_
    refine j_iload_n dX0_findSeated_14 rfl ?_
    refine k_aald (n := 12) (t := 1) (r := (B + (2 + k))) k dX0_findSeated_15 (aB_S hB (by first | decide | omega)) (by first | decide | omega) (aB_lt hB (by first | decide | omega)) (by first | rfl | (simp only [z_n, pk_mul, nI_add]; done) | (simp only [z_n, pk_mul, nI_add]; exact pk_sub (by omega)) | (simp only [z_n, pk_mul, nI_add, pk_sub, *]; done)) (by omega) (by first | decide | omega) (zb_bd) ?_
    refine j_get (v := .int (s (11 * k + 0))) dX0_findSeated_16 fX0_87 (aB_Sb hB (by omega)) (aB_lt hB (by omega)) ((zb_int (tI_b (by omega))).trans (congrArg Value.int (ar_b hA (by omega) 0 (by first | decide | omega)))) ?_
    refine j_iload_n dX0_findSeated_19 rfl ?_
    refine j_icmp_ne dX0_findSeated_20 (tgt := 38) rfl (fun c2 => ?_) (fun c2 => ?_)
    · refine j_iinc (v := nI (k + 1)) dX0_findSeated_38 rfl z_inc (by first | decide | omega) ?_
      refine j_goto dX0_findSeated_41 (tgt := 2) rfl ?_
      exact ih (k + 1)  (by omega) (fun r h' h => hQ r h' ⟨h.1.trans (congrArg some ((if_neg c2).trans (rfl) : aFind s row seat (n + 1) k = _).symm), h.2⟩)
    · refine j_aload_n dX0_findSeated_23 rfl ?_
      refine j_get dX0_findSeated_24 fX0_13 (aB_S0 hB) (aB_l0 hB) zb_p0 ?_
      refine j_iload_n dX0_findSeated_27 rfl ?_
      refine k_aald (n := 12) (t := 1) (r := (B + (2 + k))) k dX0_findSeated_28 (aB_S hB (by first | decide | omega)) (by first | decide | omega) (aB_lt hB (by first | decide | omega)) (by first | rfl | (simp only [z_n, pk_mul, nI_add]; done) | (simp only [z_n, pk_mul, nI_add]; exact pk_sub (by omega)) | (simp only [z_n, pk_mul, nI_add, pk_sub, *]; done)) (by omega) (by first | decide | omega) (zb_bd) ?_
      refine j_get (v := .int (s (11 * k + 1))) dX0_findSeated_29 fX0_90 (aB_Sb hB (by omega)) (aB_lt hB (by omega)) ((zb_int (tI_b (by omega))).trans (congrArg Value.int (ar_b hA (by omega) 1 (by first | decide | omega)))) ?_
      refine j_iload_n dX0_findSeated_32 rfl ?_
      refine j_icmp_ne dX0_findSeated_33 (tgt := 38) rfl (fun c3 => ?_) (fun c3 => ?_)
      · refine j_iinc (v := nI (k + 1)) dX0_findSeated_38 rfl z_inc (by first | decide | omega) ?_
        refine j_goto dX0_findSeated_41 (tgt := 2) rfl ?_
        exact ih (k + 1)  (by omega) (fun r h' h => hQ r h' ⟨h.1.trans (congrArg some ((if_pos c2).trans ((if_neg c3).trans (rfl)) : aFind s row seat (n + 1) k = _).symm), h.2⟩)
      · refine j_iload_n dX0_findSeated_36 rfl ?_
        refine j_iret dX0_findSeated_37 rfl (rfl) ?_
        exact hQ _ _ (zb_r ((if_pos c2).trans ((if_pos c3).trans (rfl))))
set_option maxRecDepth 4000 in
set_option maxHeartbeats 2000000 in
theorem c_seated {g : zH} {B : Nat} (hB : aB B) {v : Nat → Nat → Int32} {p : Nat → Nat} {s : Nat → Int32} {N W K : Nat} (hA : AR v p s N W K) (hI : aIa s N W) {row seat : Int32} : zCT mX0_findSeated [.ref B, .int row, .int seat] (215 + nz) (gAu g B v p) (215 + nz) (fun r h' => r = some (aFind s row seat N 0) ∧ h' = gAu g B v p) := by
  intro X Q hQ
  show zJ X mX0_findSeated (215 + nz) 0 [.ref B, .int row, .int seat, .null] [] (215 + nz) (gAu g B v p) Q
  refine j_iconst (v := 0) dX0_findSeated_0 (by first | decide | omega) ?_
  refine j_istore_n dX0_findSeated_1 (by first | decide | omega) ?_
  exact c_seated_lp hB hA hI N 0 (by omega) hQ
set_option maxRecDepth 4000 in
set_option maxHeartbeats 2000000 in
theorem c_colds_lp {g : zH} {B : Nat} (hB : aB B) {v : Nat → Nat → Int32} {p : Nat → Nat} {s : Nat → Int32} {N W K : Nat} (hA : AR v p s N W K) (hI : aIa s N W)  {X : Nat × (Nat → Int32)} {Q : zQt} : ∀ (n k : Nat) (a : Nat), k + n = N → (∀ r h', r = some (nI (aCo s n k a)) ∧ h' = gAu g B v p → Q r (215 + nz) h') → zJ X mX0_bidderSetWithCold (215 + nz) 4 [.ref B, .int (nI a), .int (nI k)] [] (215 + nz) (gAu g B v p) Q := by
  have hN := hA.1
  intro n
  induction n with
  | zero =>
    intro k a hk hQ
    refine j_iload_n dX0_bidderSetWithCold_4 rfl ?_
    refine j_aload_n dX0_bidderSetWithCold_5 rfl ?_
    refine j_get (v := .int (s 199)) dX0_bidderSetWithCold_6 fX0_39 (aB_S0 hB) (aB_l0 hB) ((zb_int0 (by unfold tI; decide)).trans (congrArg Value.int (ar_s hA 0 5 (by first | decide | omega)))) ?_
    refine j_icmp_ge dX0_bidderSetWithCold_9 (tgt := 36) rfl (fun _ => ?_) (fun c1 => absurd (show s 199 ≤ nI k by rw [hI.1.1]; exact nI_le (by omega) (by omega)) c1)
    refine j_iload_n dX0_bidderSetWithCold_36 rfl ?_
    refine j_iret dX0_bidderSetWithCold_37 rfl (rfl) ?_
    exact hQ _ _ ⟨rfl, rfl⟩
  | succ n ih =>
    intro k a hk hQ
    refine j_iload_n dX0_bidderSetWithCold_4 rfl ?_
    refine j_aload_n dX0_bidderSetWithCold_5 rfl ?_
    refine j_get (v := .int (s 199)) dX0_bidderSetWithCold_6 fX0_39 (aB_S0 hB) (aB_l0 hB) ((zb_int0 (by unfold tI; decide)).trans (congrArg Value.int (ar_s hA 0 5 (by first | decide | omega)))) ?_
    refine j_icmp_ge dX0_bidderSetWithCold_9 (tgt := 36) rfl (fun c1 => absurd c1 (show ¬ s 199 ≤ nI k by rw [hI.1.1]; exact nI_ge (by omega) (by omega))) (fun _ => ?_)
    refine j_aload_n dX0_bidderSetWithCold_12 rfl ?_
    refine j_get dX0_bidderSetWithCold_13 fX0_13 (aB_S0 hB) (aB_l0 hB) zb_p0 ?_
    refine j_iload_n dX0_bidderSetWithCold_16 rfl ?_
    refine k_aald (n := 12) (t := 1) (r := (B + (2 + k))) k dX0_bidderSetWithCold_17 (aB_S hB (by first | decide | omega)) (by first | decide | omega) (aB_lt hB (by first | decide | omega)) (by first | rfl | (simp only [z_n, pk_mul, nI_add]; done) | (simp only [z_n, pk_mul, nI_add]; exact pk_sub (by omega)) | (simp only [z_n, pk_mul, nI_add, pk_sub, *]; done)) (by omega) (by first | decide | omega) (zb_bd) ?_
    refine j_get (v := .int (s (11 * k + 4))) dX0_bidderSetWithCold_18 fX0_117 (aB_Sb hB (by omega)) (aB_lt hB (by omega)) ((zb_int (tI_b (by omega))).trans (congrArg Value.int (ar_b hA (by omega) 4 (by first | decide | omega)))) ?_
    refine j_if_le dX0_bidderSetWithCold_21 (tgt := 30) rfl (fun c2 => ?_) (fun c2 => ?_)
    · refine j_iinc (v := nI (k + 1)) dX0_bidderSetWithCold_30 rfl z_inc (by first | decide | omega) ?_
      refine j_goto dX0_bidderSetWithCold_33 (tgt := 4) rfl ?_
      exact ih (k + 1) _ (by omega) (fun r h' h => hQ r h' ⟨h.1.trans (congrArg (fun a => some (nI a)) ((if_pos c2).trans (rfl) : aCo s (n + 1) k a = _).symm), h.2⟩)
    · refine j_iload_n dX0_bidderSetWithCold_24 rfl ?_
      refine j_iconst (v := 1) dX0_bidderSetWithCold_25 (by first | decide | omega) ?_
      refine j_iload_n dX0_bidderSetWithCold_26 rfl ?_
      refine j_ishl dX0_bidderSetWithCold_27 ?_
      refine j_ior dX0_bidderSetWithCold_28 ?_
      rw [z_or1 (by omega)]
      refine j_istore_n dX0_bidderSetWithCold_29 (by first | decide | omega) ?_
      refine j_iinc (v := nI (k + 1)) dX0_bidderSetWithCold_30 rfl z_inc (by first | decide | omega) ?_
      refine j_goto dX0_bidderSetWithCold_33 (tgt := 4) rfl ?_
      exact ih (k + 1) _ (by omega) (fun r h' h => hQ r h' ⟨h.1.trans (congrArg (fun a => some (nI a)) ((if_neg c2).trans (rfl) : aCo s (n + 1) k a = _).symm), h.2⟩)
set_option maxRecDepth 4000 in
set_option maxHeartbeats 2000000 in
theorem c_colds {g : zH} {B : Nat} (hB : aB B) {v : Nat → Nat → Int32} {p : Nat → Nat} {s : Nat → Int32} {N W K : Nat} (hA : AR v p s N W K) (hI : aIa s N W) : zCT mX0_bidderSetWithCold [.ref B] (215 + nz) (gAu g B v p) (215 + nz) (fun r h' => r = some (nI (aCo s N 0 0)) ∧ h' = gAu g B v p) := by
  intro X Q hQ
  show zJ X mX0_bidderSetWithCold (215 + nz) 0 [.ref B, .null, .null] [] (215 + nz) (gAu g B v p) Q
  refine j_iconst (v := 0) dX0_bidderSetWithCold_0 (by first | decide | omega) ?_
  refine j_istore_n dX0_bidderSetWithCold_1 (by first | decide | omega) ?_
  refine j_iconst (v := 0) dX0_bidderSetWithCold_2 (by first | decide | omega) ?_
  refine j_istore_n dX0_bidderSetWithCold_3 (by first | decide | omega) ?_
  exact c_colds_lp hB hA hI N 0 0 (by omega) hQ
set_option maxRecDepth 4000 in
set_option maxHeartbeats 2000000 in
theorem c_byPurses_lp {g : zH} {B : Nat} (hB : aB B) {v : Nat → Nat → Int32} {p : Nat → Nat} {s : Nat → Int32} {N W K : Nat} (hA : AR v p s N W K) (hI : aIa s N W)  {X : Nat × (Nat → Int32)} {Q : zQt} : ∀ (n k : Nat) (a : Int32), k + n = N → (∀ r h', r = some (aBp s n k a) ∧ h' = gAu g B v p → Q r (215 + nz) h') → zJ X mX0_coinsGoneFromPurses (215 + nz) 4 [.ref B, .int a, .int (nI k)] [] (215 + nz) (gAu g B v p) Q := by
  have hN := hA.1
  intro n
  induction n with
  | zero =>
    intro k a hk hQ
    refine j_iload_n dX0_coinsGoneFromPurses_4 rfl ?_
    refine j_aload_n dX0_coinsGoneFromPurses_5 rfl ?_
    refine j_get (v := .int (s 199)) dX0_coinsGoneFromPurses_6 fX0_39 (aB_S0 hB) (aB_l0 hB) ((zb_int0 (by unfold tI; decide)).trans (congrArg Value.int (ar_s hA 0 5 (by first | decide | omega)))) ?_
    refine j_icmp_ge dX0_coinsGoneFromPurses_9 (tgt := 40) rfl (fun _ => ?_) (fun c1 => absurd (show s 199 ≤ nI k by rw [hI.1.1]; exact nI_le (by omega) (by omega)) c1)
    refine j_iload_n dX0_coinsGoneFromPurses_40 rfl ?_
    refine j_iret dX0_coinsGoneFromPurses_41 rfl (rfl) ?_
    exact hQ _ _ ⟨rfl, rfl⟩
  | succ n ih =>
    intro k a hk hQ
    refine j_iload_n dX0_coinsGoneFromPurses_4 rfl ?_
    refine j_aload_n dX0_coinsGoneFromPurses_5 rfl ?_
    refine j_get (v := .int (s 199)) dX0_coinsGoneFromPurses_6 fX0_39 (aB_S0 hB) (aB_l0 hB) ((zb_int0 (by unfold tI; decide)).trans (congrArg Value.int (ar_s hA 0 5 (by first | decide | omega)))) ?_
    refine j_icmp_ge dX0_coinsGoneFromPurses_9 (tgt := 40) rfl (fun c1 => absurd c1 (show ¬ s 199 ≤ nI k by rw [hI.1.1]; exact nI_ge (by omega) (by omega))) (fun _ => ?_)
    refine j_iload_n dX0_coinsGoneFromPurses_12 rfl ?_
    refine j_aload_n dX0_coinsGoneFromPurses_13 rfl ?_
    refine j_get dX0_coinsGoneFromPurses_14 fX0_13 (aB_S0 hB) (aB_l0 hB) zb_p0 ?_
    refine j_iload_n dX0_coinsGoneFromPurses_17 rfl ?_
    refine k_aald (n := 12) (t := 1) (r := (B + (2 + k))) k dX0_coinsGoneFromPurses_18 (aB_S hB (by first | decide | omega)) (by first | decide | omega) (aB_lt hB (by first | decide | omega)) (by first | rfl | (simp only [z_n, pk_mul, nI_add]; done) | (simp only [z_n, pk_mul, nI_add]; exact pk_sub (by omega)) | (simp only [z_n, pk_mul, nI_add, pk_sub, *]; done)) (by omega) (by first | decide | omega) (zb_bd) ?_
    refine j_get (v := .int (s (11 * k + 10))) dX0_coinsGoneFromPurses_19 fX0_228 (aB_Sb hB (by omega)) (aB_lt hB (by omega)) ((zb_int (tI_b (by omega))).trans (congrArg Value.int (ar_b hA (by omega) 10 (by first | decide | omega)))) ?_
    refine j_aload_n dX0_coinsGoneFromPurses_22 rfl ?_
    refine j_get dX0_coinsGoneFromPurses_23 fX0_13 (aB_S0 hB) (aB_l0 hB) zb_p0 ?_
    refine j_iload_n dX0_coinsGoneFromPurses_26 rfl ?_
    refine k_aald (n := 12) (t := 1) (r := (B + (2 + k))) k dX0_coinsGoneFromPurses_27 (aB_S hB (by first | decide | omega)) (by first | decide | omega) (aB_lt hB (by first | decide | omega)) (by first | rfl | (simp only [z_n, pk_mul, nI_add]; done) | (simp only [z_n, pk_mul, nI_add]; exact pk_sub (by omega)) | (simp only [z_n, pk_mul, nI_add, pk_sub, *]; done)) (by omega) (by first | decide | omega) (zb_bd) ?_
    refine j_get (v := .int (s (11 * k + 2))) dX0_coinsGoneFromPurses_28 fX0_144 (aB_Sb hB (by omega)) (aB_lt hB (by omega)) ((zb_int (tI_b (by omega))).trans (congrArg Value.int (ar_b hA (by omega) 2 (by first | decide | omega)))) ?_
    refine j_isub dX0_coinsGoneFromPurses_31 ?_
    refine j_iadd dX0_coinsGoneFromPurses_32 ?_
    refine j_istore_n dX0_coinsGoneFromPurses_33 (by first | decide | omega) ?_
    refine j_iinc (v := nI (k + 1)) dX0_coinsGoneFromPurses_34 rfl z_inc (by first | decide | omega) ?_
    refine j_goto dX0_coinsGoneFromPurses_37 (tgt := 4) rfl ?_
    exact ih (k + 1) _ (by omega) hQ
set_option maxRecDepth 4000 in
set_option maxHeartbeats 2000000 in
theorem c_byPurses {g : zH} {B : Nat} (hB : aB B) {v : Nat → Nat → Int32} {p : Nat → Nat} {s : Nat → Int32} {N W K : Nat} (hA : AR v p s N W K) (hI : aIa s N W) : zCT mX0_coinsGoneFromPurses [.ref B] (215 + nz) (gAu g B v p) (215 + nz) (fun r h' => r = some (aBp s N 0 0) ∧ h' = gAu g B v p) := by
  intro X Q hQ
  show zJ X mX0_coinsGoneFromPurses (215 + nz) 0 [.ref B, .null, .null] [] (215 + nz) (gAu g B v p) Q
  refine j_iconst (v := 0) dX0_coinsGoneFromPurses_0 (by first | decide | omega) ?_
  refine j_istore_n dX0_coinsGoneFromPurses_1 (by first | decide | omega) ?_
  refine j_iconst (v := 0) dX0_coinsGoneFromPurses_2 (by first | decide | omega) ?_
  refine j_istore_n dX0_coinsGoneFromPurses_3 (by first | decide | omega) ?_
  exact c_byPurses_lp hB hA hI N 0 0 (by omega) hQ
theorem d_loud {g : zH} {B : Nat} (hB : aB B) {v : Nat → Nat → Int32} {p : Nat → Nat} {s : Nat → Int32} {N W K : Nat} (hA : AR v p s N W K) (hI : aIa s N W) {k : Nat} (hk : k < N) : zCT mX1_loudness [.ref (B + (2 + k))] (215 + nz) (gAu g B v p) (215 + nz) (fun r h' => r = some (aLoud s k) ∧ h' = gAu g B v p) := (c_loudness hB (by have := hA.1.1; omega)).to (fun r h' q => ⟨q.1.trans (congrArg some (by
  unfold aLoud
  rw [← ar_b hA hk 3 (by first | decide | omega), ← ar_b hA hk 4 (by first | decide | omega), ← ar_b hA hk 5 (by first | decide | omega), ← ar_b hA hk 0 (by first | decide | omega)]
  rfl)), q.2⟩)
/-- has the lot that is up a bid -/
def aHas (s : Nat → Int32) : Int32 := if s 155 ≤ 0 then 0 else 1
theorem aHas_who {s : Nat → Int32} {N W : Nat} (hI : aIa s N W) (hup : s 148 = 1) : (s 155 ≤ 0 ↔ s 152 ≤ 0) ∧ (s 152 ≤ 0 ↔ s 152 = 0) := by
  have hw := hI.2.2.2.2.2.2.1.1
  obtain ⟨-, -, b, C, -, e2, e3, e4, e5, -⟩ := hI.2.2.2.2.2.2.2.1 hup
  have e6 : s 152 ≤ 0 ↔ s 152 = 0 := ⟨fun q => Classical.byContradiction fun w => aWk_pos hw w q, fun q => by rw [q]; decide⟩
  refine ⟨?_, e6⟩
  rw [e6, ← e5, e2]
  exact (nI_leI (a := C) (b := 0) (by omega) (by omega)).trans (by omega)
theorem d_has {g : zH} {B : Nat} (hB : aB B) {v : Nat → Nat → Int32} {p : Nat → Nat} {s : Nat → Int32} {N W K : Nat} (hA : AR v p s N W K) (hI : aIa s N W) (hup : s 148 = 1) : zCT mX2_hasBid [.ref (B + p 16)] (215 + nz) (gAu g B v p) (215 + nz) (fun r h' => r = some (aHas s) ∧ h' = gAu g B v p) := (c_hasBid hB (hA.2.1.1 16 (by omega))).to (fun r h' q => ⟨q.1.trans (congrArg some (by
  have hU := ar_u hA hup
  unfold cHas aHas
  rw [hU.2.2.2.2.2.2.1])), q.2⟩)
theorem d_asked {g : zH} {B : Nat} (hB : aB B) {v : Nat → Nat → Int32} {p : Nat → Nat} {s : Nat → Int32} {N W K : Nat} (hA : AR v p s N W K) (hI : aIa s N W) (hup : s 148 = 1) : zCT mX2_asked [.ref (B + p 16)] (215 + nz) (gAu g B v p) (215 + nz) (fun r h' => r = some (aAsk s) ∧ h' = gAu g B v p) := (c_asked hB (hA.2.1.1 16 (by omega))).to (fun r h' q => ⟨q.1.trans (congrArg some (by
  have hU := ar_u hA hup
  unfold cAsk aAsk
  rw [hU.2.2.2.2.2.2.1, hU.1, hU.2.1, hU.2.2.1]
  by_cases h : s 152 ≤ 0
  · rw [if_pos h, if_pos ((aHas_who hI hup).1.mpr h)]
  · rw [if_neg h, if_neg (fun w => h ((aHas_who hI hup).1.mp w))])), q.2⟩)
def dBar2 (s : Nat → Int32) (k : Nat) : Int32 := if aAsk s ≤ s (11 * k + 2) then 0 else 4
def dBar (s : Nat → Int32) (k : Nat) : Int32 := if s 148 = 0 then 1 else if s 212 ≤ aLoud s k then (if aHas s = 0 then dBar2 s k else if s 152 - 1 = nI k then 3 else dBar2 s k) else 2
theorem zk_ne0 (k : Nat) (h : k < 1000) : ¬ nI k + 1 = 0 := by
  rw [show nI k + 1 = nI (k + 1) from nI_1 k]
  intro q
  have := congrArg Int32.toInt q
  rw [nI_toInt (by omega)] at this
  have e0 : (0 : Int32).toInt = 0 := by decide
  omega
theorem dBar_eq {s : Nat → Int32} {N W k : Nat} (hI : aIa s N W) (hk : k < 12) : dBar s k = aBar s k := by
  have e2 : dBar2 s k = if ¬ aAsk s ≤ s (11 * k + 2) then 4 else 0 := by
    unfold dBar2
    by_cases h : aAsk s ≤ s (11 * k + 2)
    · rw [if_pos h, if_neg (fun q => q h)]
    · rw [if_neg h, if_pos h]
  unfold dBar aBar
  by_cases h0 : s 148 = 0
  · rw [if_pos h0, if_pos h0]
  · rw [if_neg h0, if_neg h0]
    by_cases h1 : s 212 ≤ aLoud s k
    · rw [if_pos h1, if_neg (show ¬ ¬ s 212 ≤ aLoud s k from fun q => q h1)]
      have hup : s 148 = 1 := hI.2.2.2.2.2.1.resolve_left h0
      have h2 := aHas_who hI hup
      by_cases h3 : s 155 ≤ 0
      · have e : s 152 = 0 := h2.2.mp (h2.1.mp h3)
        rw [if_pos (show aHas s = 0 from if_pos h3), e2, if_neg (show ¬ s 152 = nI k + 1 by rw [e]; exact fun q => zk_ne0 k (by omega) (Eq.symm q))]
      · rw [if_neg (show ¬ aHas s = 0 by unfold aHas; rw [if_neg h3]; decide), e2]
        have e4 : s 152 - 1 = nI k ↔ s 152 = nI k + 1 := ⟨fun q => by rw [← q, Int32.sub_add_cancel], fun q => by rw [q, Int32.add_sub_cancel]⟩
        by_cases h4 : s 152 = nI k + 1
        · rw [if_pos h4, if_pos (e4.mpr h4)]
        · rw [if_neg h4, if_neg (fun q => h4 (e4.mp q))]
    · rw [if_neg h1, if_pos h1]
set_option maxRecDepth 4000 in
set_option maxHeartbeats 2000000 in
theorem c_bar0 {g : zH} {B : Nat} (hB : aB B) {v : Nat → Nat → Int32} {p : Nat → Nat} {s : Nat → Int32} {N W K : Nat} (hA : AR v p s N W K) (hI : aIa s N W) {k : Nat} (hk : k < N) : zCT mX0_reasonAgainst [.ref B, .int (nI k)] (215 + nz) (gAu g B v p) (215 + nz) (fun r h' => r = some (dBar s k) ∧ h' = gAu g B v p) := by
  intro X Q hQ
  show zJ X mX0_reasonAgainst (215 + nz) 0 [.ref B, .int (nI k)] [] (215 + nz) (gAu g B v p) Q
  have hN := hA.1
  have hL := hA.2.1.1 16 (by omega)
  refine j_aload_n dX0_reasonAgainst_0 rfl ?_
  refine j_get (v := .int (s 148)) dX0_reasonAgainst_1 fX0_56 (aB_S0 hB) (aB_l0 hB) ((zb_int0 (by unfold tI; decide)).trans (congrArg Value.int (ar_s hA 0 8 (by first | decide | omega)))) ?_
  refine j_if_ne dX0_reasonAgainst_4 (tgt := 9) rfl (fun c1 => ?_) (fun c1 => ?_)
  · have hup : s 148 = 1 := hI.2.2.2.2.2.1.resolve_left ‹¬ s 148 = 0›
    have hU := ar_u hA hup
    refine j_aload_n dX0_reasonAgainst_9 rfl ?_
    refine j_get dX0_reasonAgainst_10 fX0_13 (aB_S0 hB) (aB_l0 hB) zb_p0 ?_
    refine j_iload_n dX0_reasonAgainst_13 rfl ?_
    refine k_aald (n := 12) (t := 1) (r := (B + (2 + k))) k dX0_reasonAgainst_14 (aB_S hB (by first | decide | omega)) (by first | decide | omega) (aB_lt hB (by first | decide | omega)) (by first | rfl | (simp only [z_n, pk_mul, nI_add]; done) | (simp only [z_n, pk_mul, nI_add]; exact pk_sub (by omega)) | (simp only [z_n, pk_mul, nI_add, pk_sub, *]; done)) (by omega) (by first | decide | omega) (zb_bd) ?_
    refine k_callV0i dX0_reasonAgainst_15 vX0_reasonAgainst_133 (d_loud hB hA hI (by omega)) (aB_Sb hB (by omega)) (aB_lt hB (by omega))  (Nat.le_of_ble_eq_true rfl) ⟨rfl, rfl⟩ rfl ?_
    rintro _ _ ⟨⟨⟩, rfl⟩
    refine j_aload_n dX0_reasonAgainst_18 rfl ?_
    refine j_get dX0_reasonAgainst_19 fX0_32 (aB_S0 hB) (aB_l0 hB) zb_p4 ?_
    refine j_iconst (v := 0) dX0_reasonAgainst_22 (by first | decide | omega) ?_
    refine k_iald (n := 3) 0 dX0_reasonAgainst_23 (aB_S hB (by first | decide | omega)) (aB_lt hB (by first | decide | omega)) (rfl) (by omega) (by first | decide | omega) ((zb_int (by unfold tI; omega)).trans (congrArg Value.int (show _ = s 212 from ar_s hA 33 0 (by first | decide | omega)))) ?_
    refine j_icmp_ge dX0_reasonAgainst_24 (tgt := 29) rfl (fun c2 => ?_) (fun c2 => ?_)
    · refine j_aload_n dX0_reasonAgainst_29 rfl ?_
      refine j_get dX0_reasonAgainst_30 fX0_35 (aB_S0 hB) (aB_l0 hB) zb_p9 ?_
      refine k_callV0i dX0_reasonAgainst_33 vX0_reasonAgainst_137 (d_has hB hA hI hup) (aB_SL hB hL) (aB_lt hB (aL_lt hL))  (Nat.le_of_ble_eq_true rfl) ⟨rfl, rfl⟩ rfl ?_
      rintro _ _ ⟨⟨⟩, rfl⟩
      refine j_if_eq dX0_reasonAgainst_36 (tgt := 52) rfl (fun c3 => ?_) (fun c3 => ?_)
      · refine j_aload_n dX0_reasonAgainst_52 rfl ?_
        refine j_get dX0_reasonAgainst_53 fX0_13 (aB_S0 hB) (aB_l0 hB) zb_p0 ?_
        refine j_iload_n dX0_reasonAgainst_56 rfl ?_
        refine k_aald (n := 12) (t := 1) (r := (B + (2 + k))) k dX0_reasonAgainst_57 (aB_S hB (by first | decide | omega)) (by first | decide | omega) (aB_lt hB (by first | decide | omega)) (by first | rfl | (simp only [z_n, pk_mul, nI_add]; done) | (simp only [z_n, pk_mul, nI_add]; exact pk_sub (by omega)) | (simp only [z_n, pk_mul, nI_add, pk_sub, *]; done)) (by omega) (by first | decide | omega) (zb_bd) ?_
        refine j_get (v := .int (s (11 * k + 2))) dX0_reasonAgainst_58 fX0_144 (aB_Sb hB (by omega)) (aB_lt hB (by omega)) ((zb_int (tI_b (by omega))).trans (congrArg Value.int (ar_b hA (by omega) 2 (by first | decide | omega)))) ?_
        refine j_aload_n dX0_reasonAgainst_61 rfl ?_
        refine j_get dX0_reasonAgainst_62 fX0_35 (aB_S0 hB) (aB_l0 hB) zb_p9 ?_
        refine k_callV0i dX0_reasonAgainst_65 vX0_reasonAgainst_147 (d_asked hB hA hI hup) (aB_SL hB hL) (aB_lt hB (aL_lt hL))  (Nat.le_of_ble_eq_true rfl) ⟨rfl, rfl⟩ rfl ?_
        rintro _ _ ⟨⟨⟩, rfl⟩
        refine j_icmp_ge dX0_reasonAgainst_68 (tgt := 73) rfl (fun c4 => ?_) (fun c4 => ?_)
        · refine j_iconst (v := 0) dX0_reasonAgainst_73 (by first | decide | omega) ?_
          refine j_iret dX0_reasonAgainst_74 rfl (rfl) ?_
          exact hQ _ _ (zb_r ((if_neg c1).trans ((if_pos c2).trans ((if_pos c3).trans ((if_pos c4).trans (rfl))))))
        · refine j_iconst (v := 4) dX0_reasonAgainst_71 (by first | decide | omega) ?_
          refine j_iret dX0_reasonAgainst_72 rfl (rfl) ?_
          exact hQ _ _ (zb_r ((if_neg c1).trans ((if_pos c2).trans ((if_pos c3).trans ((if_neg c4).trans (rfl))))))
      · refine j_aload_n dX0_reasonAgainst_39 rfl ?_
        refine j_get dX0_reasonAgainst_40 fX0_35 (aB_S0 hB) (aB_l0 hB) zb_p9 ?_
        refine j_get (v := .int (s 152 - 1)) dX0_reasonAgainst_43 fX0_141 (aB_SL hB hL) (aB_lt hB (aL_lt hL)) ((zb_int (tI_L hL)).trans (congrArg Value.int (hU.2.2.2.1))) ?_
        refine j_iload_n dX0_reasonAgainst_46 rfl ?_
        refine j_icmp_ne dX0_reasonAgainst_47 (tgt := 52) rfl (fun c5 => ?_) (fun c5 => ?_)
        · refine j_aload_n dX0_reasonAgainst_52 rfl ?_
          refine j_get dX0_reasonAgainst_53 fX0_13 (aB_S0 hB) (aB_l0 hB) zb_p0 ?_
          refine j_iload_n dX0_reasonAgainst_56 rfl ?_
          refine k_aald (n := 12) (t := 1) (r := (B + (2 + k))) k dX0_reasonAgainst_57 (aB_S hB (by first | decide | omega)) (by first | decide | omega) (aB_lt hB (by first | decide | omega)) (by first | rfl | (simp only [z_n, pk_mul, nI_add]; done) | (simp only [z_n, pk_mul, nI_add]; exact pk_sub (by omega)) | (simp only [z_n, pk_mul, nI_add, pk_sub, *]; done)) (by omega) (by first | decide | omega) (zb_bd) ?_
          refine j_get (v := .int (s (11 * k + 2))) dX0_reasonAgainst_58 fX0_144 (aB_Sb hB (by omega)) (aB_lt hB (by omega)) ((zb_int (tI_b (by omega))).trans (congrArg Value.int (ar_b hA (by omega) 2 (by first | decide | omega)))) ?_
          refine j_aload_n dX0_reasonAgainst_61 rfl ?_
          refine j_get dX0_reasonAgainst_62 fX0_35 (aB_S0 hB) (aB_l0 hB) zb_p9 ?_
          refine k_callV0i dX0_reasonAgainst_65 vX0_reasonAgainst_147 (d_asked hB hA hI hup) (aB_SL hB hL) (aB_lt hB (aL_lt hL))  (Nat.le_of_ble_eq_true rfl) ⟨rfl, rfl⟩ rfl ?_
          rintro _ _ ⟨⟨⟩, rfl⟩
          refine j_icmp_ge dX0_reasonAgainst_68 (tgt := 73) rfl (fun c6 => ?_) (fun c6 => ?_)
          · refine j_iconst (v := 0) dX0_reasonAgainst_73 (by first | decide | omega) ?_
            refine j_iret dX0_reasonAgainst_74 rfl (rfl) ?_
            exact hQ _ _ (zb_r ((if_neg c1).trans ((if_pos c2).trans ((if_neg c3).trans ((if_neg c5).trans ((if_pos c6).trans (rfl)))))))
          · refine j_iconst (v := 4) dX0_reasonAgainst_71 (by first | decide | omega) ?_
            refine j_iret dX0_reasonAgainst_72 rfl (rfl) ?_
            exact hQ _ _ (zb_r ((if_neg c1).trans ((if_pos c2).trans ((if_neg c3).trans ((if_neg c5).trans ((if_neg c6).trans (rfl)))))))
        · refine j_iconst (v := 3) dX0_reasonAgainst_50 (by first | decide | omega) ?_
          refine j_iret dX0_reasonAgainst_51 rfl (rfl) ?_
          exact hQ _ _ (zb_r ((if_neg c1).trans ((if_pos c2).trans ((if_neg c3).trans ((if_pos c5).trans (rfl))))))
    · refine j_iconst (v := 2) dX0_reasonAgainst_27 (by first | decide | omega) ?_
      refine j_iret dX0_reasonAgainst_28 rfl (rfl) ?_
      exact hQ _ _ (zb_r ((if_neg c1).trans ((if_neg c2).trans (rfl))))
  · refine j_iconst (v := 1) dX0_reasonAgainst_7 (by first | decide | omega) ?_
    refine j_iret dX0_reasonAgainst_8 rfl (rfl) ?_
    exact hQ _ _ (zb_r ((if_pos c1).trans (rfl)))
theorem c_bar {g : zH} {B : Nat} (hB : aB B) {v : Nat → Nat → Int32} {p : Nat → Nat} {s : Nat → Int32} {N W K : Nat} (hA : AR v p s N W K) (hI : aIa s N W) {k : Nat} (hk : k < N) : zCT mX0_reasonAgainst [.ref B, .int (nI k)] (215 + nz) (gAu g B v p) (215 + nz) (fun r h' => r = some (aBar s k) ∧ h' = gAu g B v p) := (c_bar0 hB hA hI hk).to (fun r h' q => ⟨q.1.trans (congrArg some (dBar_eq hI (by have := hA.1.1; omega))), q.2⟩)
def dNext (s : Nat → Int32) (k : Nat) : Int32 := if s (11 * k + 4) ≤ 0 then 0 else if 7 - s (11 * k + 4) ≤ 0 then 0 else if s 198 + nI k - (s 198 + nI k) / (7 - s (11 * k + 4)) * (7 - s (11 * k + 4)) = 0 then 1 else 0
theorem dNext_eq {s : Nat → Int32} {N W k : Nat} (hI : aIa s N W) (hk : k < 12) : dNext s k = aNext s k := by
  obtain ⟨c, -, hc, e⟩ := (hI.2.2.2.1 k hk).2.2.2
  unfold dNext aNext
  rw [if_neg (show ¬ 7 - s (11 * k + 4) ≤ 0 by
    rw [e]
    rcases (show c = 0 ∨ c = 1 ∨ c = 2 ∨ c = 3 ∨ c = 4 ∨ c = 5 by omega) with rfl | rfl | rfl | rfl | rfl | rfl <;> decide)]
set_option maxRecDepth 4000 in
set_option maxHeartbeats 2000000 in
theorem c_next0 {g : zH} {B : Nat} (hB : aB B) {v : Nat → Nat → Int32} {p : Nat → Nat} {s : Nat → Int32} {N W K : Nat} (hA : AR v p s N W K) (hI : aIa s N W) {k : Nat} (hk : k < N) : zCT mX0_isDueToCough [.ref B, .int (nI k)] (215 + nz) (gAu g B v p) (215 + nz) (fun r h' => r = some (dNext s k) ∧ h' = gAu g B v p) := by
  intro X Q hQ
  show zJ X mX0_isDueToCough (215 + nz) 0 [.ref B, .int (nI k), .null, .null] [] (215 + nz) (gAu g B v p) Q
  have hN := hA.1
  have hL := hA.2.1.1 16 (by omega)
  refine j_aload_n dX0_isDueToCough_0 rfl ?_
  refine j_get dX0_isDueToCough_1 fX0_13 (aB_S0 hB) (aB_l0 hB) zb_p0 ?_
  refine j_iload_n dX0_isDueToCough_4 rfl ?_
  refine k_aald (n := 12) (t := 1) (r := (B + (2 + k))) k dX0_isDueToCough_5 (aB_S hB (by first | decide | omega)) (by first | decide | omega) (aB_lt hB (by first | decide | omega)) (by first | rfl | (simp only [z_n, pk_mul, nI_add]; done) | (simp only [z_n, pk_mul, nI_add]; exact pk_sub (by omega)) | (simp only [z_n, pk_mul, nI_add, pk_sub, *]; done)) (by omega) (by first | decide | omega) (zb_bd) ?_
  refine j_get (v := .int (s (11 * k + 4))) dX0_isDueToCough_6 fX0_117 (aB_Sb hB (by omega)) (aB_lt hB (by omega)) ((zb_int (tI_b (by omega))).trans (congrArg Value.int (ar_b hA (by omega) 4 (by first | decide | omega)))) ?_
  refine j_istore_n dX0_isDueToCough_9 (by first | decide | omega) ?_
  refine j_bipush (v := 7) dX0_isDueToCough_10 (by first | decide | omega) ?_
  refine j_iload_n dX0_isDueToCough_12 rfl ?_
  refine j_isub dX0_isDueToCough_13 ?_
  refine j_istore_n dX0_isDueToCough_14 (by first | decide | omega) ?_
  refine j_iload_n dX0_isDueToCough_15 rfl ?_
  refine j_if_le dX0_isDueToCough_16 (tgt := 38) rfl (fun c1 => ?_) (fun c1 => ?_)
  · refine j_iconst (v := 0) dX0_isDueToCough_38 (by first | decide | omega) ?_
    refine j_iret dX0_isDueToCough_39 rfl (rfl) ?_
    exact hQ _ _ (zb_r ((if_pos c1).trans (rfl)))
  · refine j_iload_n dX0_isDueToCough_19 rfl ?_
    refine j_if_le dX0_isDueToCough_20 (tgt := 38) rfl (fun c2 => ?_) (fun c2 => ?_)
    · refine j_iconst (v := 0) dX0_isDueToCough_38 (by first | decide | omega) ?_
      refine j_iret dX0_isDueToCough_39 rfl (rfl) ?_
      exact hQ _ _ (zb_r ((if_neg c1).trans ((if_pos c2).trans (rfl))))
    · refine j_aload_n dX0_isDueToCough_23 rfl ?_
      refine j_get (v := .int (s 198)) dX0_isDueToCough_24 fX0_66 (aB_S0 hB) (aB_l0 hB) ((zb_int0 (by unfold tI; decide)).trans (congrArg Value.int (ar_s hA 0 10 (by first | decide | omega)))) ?_
      refine j_iload_n dX0_isDueToCough_27 rfl ?_
      refine j_iadd dX0_isDueToCough_28 ?_
      refine j_iload_n dX0_isDueToCough_29 rfl ?_
      refine j_irem dX0_isDueToCough_30 ((aIa_ok hI).2.2.1 k (by omega)) ?_
      refine j_if_ne dX0_isDueToCough_31 (tgt := 38) rfl (fun c3 => ?_) (fun c3 => ?_)
      · refine j_iconst (v := 0) dX0_isDueToCough_38 (by first | decide | omega) ?_
        refine j_iret dX0_isDueToCough_39 rfl (rfl) ?_
        exact hQ _ _ (zb_r ((if_neg c1).trans ((if_neg c2).trans ((if_neg c3).trans (rfl)))))
      · refine j_iconst (v := 1) dX0_isDueToCough_34 (by first | decide | omega) ?_
        refine j_goto dX0_isDueToCough_35 (tgt := 39) rfl ?_
        refine j_iret dX0_isDueToCough_39 rfl (rfl) ?_
        exact hQ _ _ (zb_r ((if_neg c1).trans ((if_neg c2).trans ((if_pos c3).trans (rfl)))))
theorem c_next {g : zH} {B : Nat} (hB : aB B) {v : Nat → Nat → Int32} {p : Nat → Nat} {s : Nat → Int32} {N W K : Nat} (hA : AR v p s N W K) (hI : aIa s N W) {k : Nat} (hk : k < N) : zCT mX0_isDueToCough [.ref B, .int (nI k)] (215 + nz) (gAu g B v p) (215 + nz) (fun r h' => r = some (aNext s k) ∧ h' = gAu g B v p) := (c_next0 hB hA hI hk).to (fun r h' q => ⟨q.1.trans (congrArg some (dNext_eq hI (by have := hA.1.1; omega))), q.2⟩)
def dTotQ (s : Nat → Int32) (N : Nat) : Nat → Int32
  | 0 => s 198
  | 1 => s 199
  | 2 => s 200
  | 3 => if s 148 = 0 then 0 else 1
  | 4 => s 201
  | 5 => s 202
  | 6 => s 203
  | 7 => s 204
  | 8 => s 205
  | 9 => aBp s N 0 0
  | 10 => s 206
  | 11 => s 207
  | 12 => s 208
  | 13 => nI (aCo s N 0 0)
  | 14 => s 209
  | 15 => s 210
  | 18 => s 211
  | 20 => s 212
  | 21 => s 213
  | 22 => s 214
  | _ => -1000001
def dTot (s : Nat → Int32) (N : Nat) (v : Int32) : Int32 := if v.toInt < 0 ∨ 22 < v.toInt then -1000001 else dTotQ s N v.toNatClampNeg
set_option maxRecDepth 4000 in
set_option maxHeartbeats 2000000 in
theorem c_total {g : zH} {B : Nat} (hB : aB B) {v : Nat → Nat → Int32} {p : Nat → Nat} {s : Nat → Int32} {N W K : Nat} (hA : AR v p s N W K) (hI : aIa s N W) {x : Int32} : zCT mX0_total [.ref B, .int x] (215 + nz) (gAu g B v p) (215 + nz) (fun r h' => r = some (dTot s N x) ∧ h' = gAu g B v p) := by
  intro X Q hQ
  show zJ X mX0_total (215 + nz) 0 [.ref B, .int x] [] (215 + nz) (gAu g B v p) Q
  have hN := hA.1
  have hL := hA.2.1.1 16 (by omega)
  refine j_iload_n dX0_total_0 rfl ?_
  by_cases hv : x.toInt < 0 ∨ (22 : Int) < x.toInt
  rotate_left
  obtain ⟨j, hj2, rfl, hv2⟩ := z_sw (n := 22) (by omega) hv
  rcases (show j = 0 ∨ j = 1 ∨ j = 2 ∨ j = 3 ∨ j = 4 ∨ j = 5 ∨ j = 6 ∨ j = 7 ∨ j = 8 ∨ j = 9 ∨ j = 10 ∨ j = 11 ∨ j = 12 ∨ j = 13 ∨ j = 14 ∨ j = 15 ∨ j = 16 ∨ j = 17 ∨ j = 18 ∨ j = 19 ∨ j = 20 ∨ j = 21 ∨ j = 22 by omega) with rfl | rfl | rfl | rfl | rfl | rfl | rfl | rfl | rfl | rfl | rfl | rfl | rfl | rfl | rfl | rfl | rfl | rfl | rfl | rfl | rfl | rfl | rfl
  · refine j_tableIn dX0_total_1 (off := 107) (tgt := 108) (by first | decide | omega) (by first | decide | omega) rfl rfl ?_
    refine j_aload_n dX0_total_108 rfl ?_
    refine j_get (v := .int (s 198)) dX0_total_109 fX0_66 (aB_S0 hB) (aB_l0 hB) ((zb_int0 (by unfold tI; decide)).trans (congrArg Value.int (ar_s hA 0 10 (by first | decide | omega)))) ?_
    refine j_iret dX0_total_112 rfl (rfl) ?_
    exact hQ _ _ (zb_r ((if_neg hv).trans (by rw [hv2]; exact (rfl))))
  · refine j_tableIn dX0_total_1 (off := 112) (tgt := 113) (by first | decide | omega) (by first | decide | omega) rfl rfl ?_
    refine j_aload_n dX0_total_113 rfl ?_
    refine j_get (v := .int (s 199)) dX0_total_114 fX0_39 (aB_S0 hB) (aB_l0 hB) ((zb_int0 (by unfold tI; decide)).trans (congrArg Value.int (ar_s hA 0 5 (by first | decide | omega)))) ?_
    refine j_iret dX0_total_117 rfl (rfl) ?_
    exact hQ _ _ (zb_r ((if_neg hv).trans (by rw [hv2]; exact (rfl))))
  · refine j_tableIn dX0_total_1 (off := 117) (tgt := 118) (by first | decide | omega) (by first | decide | omega) rfl rfl ?_
    refine j_aload_n dX0_total_118 rfl ?_
    refine j_get (v := .int (s 200)) dX0_total_119 fX0_47 (aB_S0 hB) (aB_l0 hB) ((zb_int0 (by unfold tI; decide)).trans (congrArg Value.int (ar_s hA 0 6 (by first | decide | omega)))) ?_
    refine j_iret dX0_total_122 rfl (rfl) ?_
    exact hQ _ _ (zb_r ((if_neg hv).trans (by rw [hv2]; exact (rfl))))
  · refine j_tableIn dX0_total_1 (off := 122) (tgt := 123) (by first | decide | omega) (by first | decide | omega) rfl rfl ?_
    refine j_aload_n dX0_total_123 rfl ?_
    refine j_get (v := .int (s 148)) dX0_total_124 fX0_56 (aB_S0 hB) (aB_l0 hB) ((zb_int0 (by unfold tI; decide)).trans (congrArg Value.int (ar_s hA 0 8 (by first | decide | omega)))) ?_
    refine j_if_eq dX0_total_127 (tgt := 134) rfl (fun c1 => ?_) (fun c1 => ?_)
    · refine j_iconst (v := 0) dX0_total_134 (by first | decide | omega) ?_
      refine j_iret dX0_total_135 rfl (rfl) ?_
      exact hQ _ _ (zb_r ((if_neg hv).trans (by rw [hv2]; exact ((if_pos c1).trans (rfl)))))
    · refine j_iconst (v := 1) dX0_total_130 (by first | decide | omega) ?_
      refine j_goto dX0_total_131 (tgt := 135) rfl ?_
      refine j_iret dX0_total_135 rfl (rfl) ?_
      exact hQ _ _ (zb_r ((if_neg hv).trans (by rw [hv2]; exact ((if_neg c1).trans (rfl)))))
  · refine j_tableIn dX0_total_1 (off := 135) (tgt := 136) (by first | decide | omega) (by first | decide | omega) rfl rfl ?_
    refine j_aload_n dX0_total_136 rfl ?_
    refine j_get (v := .int (s 201)) dX0_total_137 fX0_72 (aB_S0 hB) (aB_l0 hB) ((zb_int0 (by unfold tI; decide)).trans (congrArg Value.int (ar_s hA 0 12 (by first | decide | omega)))) ?_
    refine j_iret dX0_total_140 rfl (rfl) ?_
    exact hQ _ _ (zb_r ((if_neg hv).trans (by rw [hv2]; exact (rfl))))
  · refine j_tableIn dX0_total_1 (off := 140) (tgt := 141) (by first | decide | omega) (by first | decide | omega) rfl rfl ?_
    refine j_aload_n dX0_total_141 rfl ?_
    refine j_get dX0_total_142 fX0_28 (aB_S0 hB) (aB_l0 hB) zb_p3 ?_
    refine j_iconst (v := 0) dX0_total_145 (by first | decide | omega) ?_
    refine k_iald (n := 4) 0 dX0_total_146 (aB_S hB (by first | decide | omega)) (aB_lt hB (by first | decide | omega)) (rfl) (by omega) (by first | decide | omega) ((zb_int (by unfold tI; omega)).trans (congrArg Value.int (show _ = s 202 from ar_s hA 32 0 (by first | decide | omega)))) ?_
    refine j_iret dX0_total_147 rfl (rfl) ?_
    exact hQ _ _ (zb_r ((if_neg hv).trans (by rw [hv2]; exact (rfl))))
  · refine j_tableIn dX0_total_1 (off := 147) (tgt := 148) (by first | decide | omega) (by first | decide | omega) rfl rfl ?_
    refine j_aload_n dX0_total_148 rfl ?_
    refine j_get dX0_total_149 fX0_28 (aB_S0 hB) (aB_l0 hB) zb_p3 ?_
    refine j_iconst (v := 1) dX0_total_152 (by first | decide | omega) ?_
    refine k_iald (n := 4) 1 dX0_total_153 (aB_S hB (by first | decide | omega)) (aB_lt hB (by first | decide | omega)) (rfl) (by omega) (by first | decide | omega) ((zb_int (by unfold tI; omega)).trans (congrArg Value.int (show _ = s 203 from ar_s hA 32 1 (by first | decide | omega)))) ?_
    refine j_iret dX0_total_154 rfl (rfl) ?_
    exact hQ _ _ (zb_r ((if_neg hv).trans (by rw [hv2]; exact (rfl))))
  · refine j_tableIn dX0_total_1 (off := 154) (tgt := 155) (by first | decide | omega) (by first | decide | omega) rfl rfl ?_
    refine j_aload_n dX0_total_155 rfl ?_
    refine j_get dX0_total_156 fX0_28 (aB_S0 hB) (aB_l0 hB) zb_p3 ?_
    refine j_iconst (v := 2) dX0_total_159 (by first | decide | omega) ?_
    refine k_iald (n := 4) 2 dX0_total_160 (aB_S hB (by first | decide | omega)) (aB_lt hB (by first | decide | omega)) (rfl) (by omega) (by first | decide | omega) ((zb_int (by unfold tI; omega)).trans (congrArg Value.int (show _ = s 204 from ar_s hA 32 2 (by first | decide | omega)))) ?_
    refine j_iret dX0_total_161 rfl (rfl) ?_
    exact hQ _ _ (zb_r ((if_neg hv).trans (by rw [hv2]; exact (rfl))))
  · refine j_tableIn dX0_total_1 (off := 161) (tgt := 162) (by first | decide | omega) (by first | decide | omega) rfl rfl ?_
    refine j_aload_n dX0_total_162 rfl ?_
    refine j_get (v := .int (s 205)) dX0_total_163 fX0_75 (aB_S0 hB) (aB_l0 hB) ((zb_int0 (by unfold tI; decide)).trans (congrArg Value.int (ar_s hA 0 13 (by first | decide | omega)))) ?_
    refine j_iret dX0_total_166 rfl (rfl) ?_
    exact hQ _ _ (zb_r ((if_neg hv).trans (by rw [hv2]; exact (rfl))))
  · refine j_tableIn dX0_total_1 (off := 166) (tgt := 167) (by first | decide | omega) (by first | decide | omega) rfl rfl ?_
    refine j_aload_n dX0_total_167 rfl ?_
    refine k_callV0i dX0_total_168 vX0_total_231 (c_byPurses hB hA hI) (aB_S0 hB) (aB_l0 hB)  (Nat.le_of_ble_eq_true rfl) ⟨rfl, rfl⟩ rfl ?_
    rintro _ _ ⟨⟨⟩, rfl⟩
    refine j_iret dX0_total_171 rfl (rfl) ?_
    exact hQ _ _ (zb_r ((if_neg hv).trans (by rw [hv2]; exact (rfl))))
  · refine j_tableIn dX0_total_1 (off := 171) (tgt := 172) (by first | decide | omega) (by first | decide | omega) rfl rfl ?_
    refine j_aload_n dX0_total_172 rfl ?_
    refine j_get (v := .int (s 206)) dX0_total_173 fX0_78 (aB_S0 hB) (aB_l0 hB) ((zb_int0 (by unfold tI; decide)).trans (congrArg Value.int (ar_s hA 0 14 (by first | decide | omega)))) ?_
    refine j_iret dX0_total_176 rfl (rfl) ?_
    exact hQ _ _ (zb_r ((if_neg hv).trans (by rw [hv2]; exact (rfl))))
  · refine j_tableIn dX0_total_1 (off := 176) (tgt := 177) (by first | decide | omega) (by first | decide | omega) rfl rfl ?_
    refine j_aload_n dX0_total_177 rfl ?_
    refine j_get (v := .int (s 207)) dX0_total_178 fX0_81 (aB_S0 hB) (aB_l0 hB) ((zb_int0 (by unfold tI; decide)).trans (congrArg Value.int (ar_s hA 0 15 (by first | decide | omega)))) ?_
    refine j_iret dX0_total_181 rfl (rfl) ?_
    exact hQ _ _ (zb_r ((if_neg hv).trans (by rw [hv2]; exact (rfl))))
  · refine j_tableIn dX0_total_1 (off := 181) (tgt := 182) (by first | decide | omega) (by first | decide | omega) rfl rfl ?_
    refine j_aload_n dX0_total_182 rfl ?_
    refine j_get (v := .int (s 208)) dX0_total_183 fX0_84 (aB_S0 hB) (aB_l0 hB) ((zb_int0 (by unfold tI; decide)).trans (congrArg Value.int (ar_s hA 0 16 (by first | decide | omega)))) ?_
    refine j_iret dX0_total_186 rfl (rfl) ?_
    exact hQ _ _ (zb_r ((if_neg hv).trans (by rw [hv2]; exact (rfl))))
  · refine j_tableIn dX0_total_1 (off := 186) (tgt := 187) (by first | decide | omega) (by first | decide | omega) rfl rfl ?_
    refine j_aload_n dX0_total_187 rfl ?_
    refine k_callV0i dX0_total_188 vX0_total_205 (c_colds hB hA hI) (aB_S0 hB) (aB_l0 hB)  (Nat.le_of_ble_eq_true rfl) ⟨rfl, rfl⟩ rfl ?_
    rintro _ _ ⟨⟨⟩, rfl⟩
    refine j_iret dX0_total_191 rfl (rfl) ?_
    exact hQ _ _ (zb_r ((if_neg hv).trans (by rw [hv2]; exact (rfl))))
  · refine j_tableIn dX0_total_1 (off := 191) (tgt := 192) (by first | decide | omega) (by first | decide | omega) rfl rfl ?_
    refine j_aload_n dX0_total_192 rfl ?_
    refine j_get (v := .int (s 209)) dX0_total_193 fX0_69 (aB_S0 hB) (aB_l0 hB) ((zb_int0 (by unfold tI; decide)).trans (congrArg Value.int (ar_s hA 0 11 (by first | decide | omega)))) ?_
    refine j_iret dX0_total_196 rfl (rfl) ?_
    exact hQ _ _ (zb_r ((if_neg hv).trans (by rw [hv2]; exact (rfl))))
  · refine j_tableIn dX0_total_1 (off := 196) (tgt := 197) (by first | decide | omega) (by first | decide | omega) rfl rfl ?_
    refine j_aload_n dX0_total_197 rfl ?_
    refine j_get (v := .int (s 210)) dX0_total_198 fX0_53 (aB_S0 hB) (aB_l0 hB) ((zb_int0 (by unfold tI; decide)).trans (congrArg Value.int (ar_s hA 0 7 (by first | decide | omega)))) ?_
    refine j_iret dX0_total_201 rfl (rfl) ?_
    exact hQ _ _ (zb_r ((if_neg hv).trans (by rw [hv2]; exact (rfl))))
  · refine j_tableIn dX0_total_1 (off := 229) (tgt := 230) (by first | decide | omega) (by first | decide | omega) rfl rfl ?_
    refine j_ldc (v := (-1000001)) dX0_total_230 cX0_102 ?_
    refine j_iret dX0_total_232 rfl (rfl) ?_
    exact hQ _ _ (zb_r ((if_neg hv).trans (by rw [hv2]; exact (rfl))))
  · refine j_tableIn dX0_total_1 (off := 229) (tgt := 230) (by first | decide | omega) (by first | decide | omega) rfl rfl ?_
    refine j_ldc (v := (-1000001)) dX0_total_230 cX0_102 ?_
    refine j_iret dX0_total_232 rfl (rfl) ?_
    exact hQ _ _ (zb_r ((if_neg hv).trans (by rw [hv2]; exact (rfl))))
  · refine j_tableIn dX0_total_1 (off := 201) (tgt := 202) (by first | decide | omega) (by first | decide | omega) rfl rfl ?_
    refine j_aload_n dX0_total_202 rfl ?_
    refine j_get dX0_total_203 fX0_28 (aB_S0 hB) (aB_l0 hB) zb_p3 ?_
    refine j_iconst (v := 3) dX0_total_206 (by first | decide | omega) ?_
    refine k_iald (n := 4) 3 dX0_total_207 (aB_S hB (by first | decide | omega)) (aB_lt hB (by first | decide | omega)) (rfl) (by omega) (by first | decide | omega) ((zb_int (by unfold tI; omega)).trans (congrArg Value.int (show _ = s 211 from ar_s hA 32 3 (by first | decide | omega)))) ?_
    refine j_iret dX0_total_208 rfl (rfl) ?_
    exact hQ _ _ (zb_r ((if_neg hv).trans (by rw [hv2]; exact (rfl))))
  · refine j_tableIn dX0_total_1 (off := 229) (tgt := 230) (by first | decide | omega) (by first | decide | omega) rfl rfl ?_
    refine j_ldc (v := (-1000001)) dX0_total_230 cX0_102 ?_
    refine j_iret dX0_total_232 rfl (rfl) ?_
    exact hQ _ _ (zb_r ((if_neg hv).trans (by rw [hv2]; exact (rfl))))
  · refine j_tableIn dX0_total_1 (off := 208) (tgt := 209) (by first | decide | omega) (by first | decide | omega) rfl rfl ?_
    refine j_aload_n dX0_total_209 rfl ?_
    refine j_get dX0_total_210 fX0_32 (aB_S0 hB) (aB_l0 hB) zb_p4 ?_
    refine j_iconst (v := 0) dX0_total_213 (by first | decide | omega) ?_
    refine k_iald (n := 3) 0 dX0_total_214 (aB_S hB (by first | decide | omega)) (aB_lt hB (by first | decide | omega)) (rfl) (by omega) (by first | decide | omega) ((zb_int (by unfold tI; omega)).trans (congrArg Value.int (show _ = s 212 from ar_s hA 33 0 (by first | decide | omega)))) ?_
    refine j_iret dX0_total_215 rfl (rfl) ?_
    exact hQ _ _ (zb_r ((if_neg hv).trans (by rw [hv2]; exact (rfl))))
  · refine j_tableIn dX0_total_1 (off := 215) (tgt := 216) (by first | decide | omega) (by first | decide | omega) rfl rfl ?_
    refine j_aload_n dX0_total_216 rfl ?_
    refine j_get dX0_total_217 fX0_32 (aB_S0 hB) (aB_l0 hB) zb_p4 ?_
    refine j_iconst (v := 1) dX0_total_220 (by first | decide | omega) ?_
    refine k_iald (n := 3) 1 dX0_total_221 (aB_S hB (by first | decide | omega)) (aB_lt hB (by first | decide | omega)) (rfl) (by omega) (by first | decide | omega) ((zb_int (by unfold tI; omega)).trans (congrArg Value.int (show _ = s 213 from ar_s hA 33 1 (by first | decide | omega)))) ?_
    refine j_iret dX0_total_222 rfl (rfl) ?_
    exact hQ _ _ (zb_r ((if_neg hv).trans (by rw [hv2]; exact (rfl))))
  · refine j_tableIn dX0_total_1 (off := 222) (tgt := 223) (by first | decide | omega) (by first | decide | omega) rfl rfl ?_
    refine j_aload_n dX0_total_223 rfl ?_
    refine j_get dX0_total_224 fX0_32 (aB_S0 hB) (aB_l0 hB) zb_p4 ?_
    refine j_iconst (v := 2) dX0_total_227 (by first | decide | omega) ?_
    refine k_iald (n := 3) 2 dX0_total_228 (aB_S hB (by first | decide | omega)) (aB_lt hB (by first | decide | omega)) (rfl) (by omega) (by first | decide | omega) ((zb_int (by unfold tI; omega)).trans (congrArg Value.int (show _ = s 214 from ar_s hA 33 2 (by first | decide | omega)))) ?_
    refine j_iret dX0_total_229 rfl (rfl) ?_
    exact hQ _ _ (zb_r ((if_neg hv).trans (by rw [hv2]; exact (rfl))))
  · refine j_tableOut dX0_total_1 (tgt := 230) (hv) rfl ?_
    refine j_ldc (v := (-1000001)) dX0_total_230 cX0_102 ?_
    refine j_iret dX0_total_232 rfl (rfl) ?_
    exact hQ _ _ (zb_r ((if_pos hv).trans (rfl)))
