variable {nz : Nat}
-- the auction's changes
theorem zb_w {g : zH} {B : Nat} {v : Nat → Nat → Int32} {p : Nat → Nat} {q : Int32 × Bool × (Nat → Int32)} {x : Int32} {b : Bool} {t : Nat → Int32} (e : q = (x, b, t)) (hT : AT v p t) : ∃ v' p', some x = some q.1 ∧ gAu g B v p = gAu g B v' p' ∧ AT v' p' q.2.2 := by
  subst e
  exact ⟨v, p, rfl, rfl, hT⟩
section CW
variable {v : Nat → Nat → Int32} {p : Nat → Nat} {s : Nat → Int32} {N W K : Nat}
theorem zt_bd (hA : AR v p s N W K) (hI : aIa s N W) (hK : s 210 = nI K) {k j : Nat} {x : Int32} (hk : k < N) (hj : j < 11) : AT (up2 v (2 + k) (bS j) x) p (upd s (11 * k + j) x) := by
  have hN := hA.1.1
  refine ⟨N, W, K, ?_, ?_, ?_, ar_bd hA hk hj⟩
  · rw [upd_n (by omega)]
    exact hI.1.1
  · rw [upd_n (by omega)]
    exact hI.2.1.1
  · rw [upd_n (by omega)]
    exact hK
theorem zt_set (hA : AR v p s N W K) (hI : aIa s N W) (hK : s 210 = nI K) {k : Nat} {x : Int32} (hk : k < 3) : AT (up2 v 33 k x) p (upd s (212 + k) x) := by
  have h := ar_sc1 (o := 33) (k := k) (x := x) hA (by omega) (show 212 + k ≠ 148 by omega)
  refine ⟨N, W, K, ?_, ?_, ?_, h⟩
  · rw [upd_n (by omega)]
    exact hI.1.1
  · rw [upd_n (by omega)]
    exact hI.2.1.1
  · rw [upd_n (by omega)]
    exact hK
/-- a place where no bidder sits yet is as new but for what a bidder comes with -/
def aDead (s : Nat → Int32) (N : Nat) : Prop := ∀ k j, N ≤ k → k < 12 → 4 ≤ j → j < 10 → s (11 * k + j) = 0
theorem zt_seat (hA : AR v p s N W K) (hI : aIa s N W) (hK : s 210 = nI K) (hN : N < 12) (hD : aDead s N) {r c pu st : Int32} : AT (up2 (cCp v (2 + N) (cSit r c pu st) 11) 0 5 (s 199 + 1)) p (aBid s N r c pu st) := by
  have h1 : AR (cCp v (2 + N) (cSit r c pu st) 11) p (upd (upd (upd (upd (upd s (11 * N + 0) r) (11 * N + 1) c) (11 * N + 2) pu) (11 * N + 3) st) (11 * N + 10) pu) (N + 1) W K := by
    refine ar_grow hA hN (fun a b hab => ?_) (fun i hi => ?_) (fun j hj => ?_)
    · rw [cCp_at, if_neg (fun q => hab q.1)]
    · rw [upd_n (by omega), upd_n (by omega), upd_n (by omega), upd_n (by omega), upd_n (by omega)]
    · have hb : bS j < 11 := by
        unfold bS
        repeat' split
        all_goals omega
      rw [cCp_at, if_pos ⟨rfl, hb⟩]
      rcases (show j = 0 ∨ j = 1 ∨ j = 2 ∨ j = 3 ∨ (4 ≤ j ∧ j < 10) ∨ j = 10 by omega) with rfl | rfl | rfl | rfl | hj2 | rfl
      · rw [upd_n (by omega), upd_n (by omega), upd_n (by omega), upd_n (by omega), upd_s]
        rfl
      · rw [upd_n (by omega), upd_n (by omega), upd_n (by omega), upd_s]
        rfl
      · rw [upd_n (by omega), upd_n (by omega), upd_s]
        rfl
      · rw [upd_n (by omega), upd_s]
        rfl
      · rw [upd_n (by omega), upd_n (by omega), upd_n (by omega), upd_n (by omega), upd_n (by omega), hD N j (Nat.le_refl _) hN hj2.1 hj2.2]
        have e : bS j = j + 1 := by
          unfold bS
          rw [if_neg (by omega), if_neg (by omega)]
        rw [e]
        rcases (show j = 4 ∨ j = 5 ∨ j = 6 ∨ j = 7 ∨ j = 8 ∨ j = 9 by omega) with rfl | rfl | rfl | rfl | rfl | rfl <;> rfl
      · rw [upd_s]
        rfl
  have e9 : (upd (upd (upd (upd (upd s (11 * N + 0) r) (11 * N + 1) c) (11 * N + 2) pu) (11 * N + 3) st) (11 * N + 10) pu) 199 = s 199 := by
    rw [upd_n (by omega), upd_n (by omega), upd_n (by omega), upd_n (by omega), upd_n (by omega)]
  have h2 := ar_sc1 (o := 0) (k := 5) (x := s 199 + 1) h1 (by first | decide | omega) (by first | decide | omega)
  have e : aBid s N r c pu st = upd (upd (upd (upd (upd (upd s (11 * N + 0) r) (11 * N + 1) c) (11 * N + 2) pu) (11 * N + 3) st) (11 * N + 10) pu) 199 (s 199 + 1) := by
    unfold aBid
    dsimp only
    rw [e9]
  rw [e]
  refine ⟨N + 1, W, K, ?_, ?_, ?_, h2⟩
  · rw [upd_s, hI.1.1]
    exact nI_1 N
  · rw [upd_n (by omega), upd_n (by omega), upd_n (by omega), upd_n (by omega), upd_n (by omega), upd_n (by omega)]
    exact hI.2.1.1
  · rw [upd_n (by omega), upd_n (by omega), upd_n (by omega), upd_n (by omega), upd_n (by omega), upd_n (by omega)]
    exact hK
theorem zt_lot (hA : AR v p s N W K) (hI : aIa s N W) (hK : s 210 = nI K) (hW : W < 8) {r c : Int32} : AT (up2 (up2 (cCp v (p W) (cCome r c) 10) 0 6 (s 200 + 1)) 0 12 (s 201 + 1)) p (aLotT s W r c) := by
  have hp := hA.2.1.1 W (by omega)
  have h1 : AR (cCp v (p W) (cCome r c) 10) p (upd (upd s (132 + 2 * W) r) (132 + 2 * W + 1) c) N (W + 1) K := by
    refine ar_growQ hA hW (fun a b hab => ?_) ?_ (fun i h1 h2 => ?_) ⟨?_, ?_, fun m h1 h2 => ?_⟩
    · rw [cCp_at, if_neg (fun q => hab q.1)]
    · rw [cCp_at, if_pos ⟨rfl, by decide⟩, cCp_at, if_pos ⟨rfl, by decide⟩]
      exact ⟨Or.inl rfl, Or.inl rfl⟩
    · rw [upd_n (by omega), upd_n (by omega)]
    · rw [cCp_at, if_pos ⟨rfl, by decide⟩, upd_n (by omega), upd_s]
      rfl
    · rw [cCp_at, if_pos ⟨rfl, by decide⟩, show 133 + 2 * W = 132 + 2 * W + 1 by omega, upd_s]
      rfl
    · rw [cCp_at, if_pos ⟨rfl, by omega⟩]
      rcases (show m = 2 ∨ m = 3 ∨ m = 4 ∨ m = 5 ∨ m = 6 ∨ m = 7 ∨ m = 8 by omega) with rfl | rfl | rfl | rfl | rfl | rfl | rfl <;> rfl
  have h2 := ar_sc1 (o := 0) (k := 6) (x := s 200 + 1) h1 (by first | decide | omega) (by first | decide | omega)
  have h3 := ar_sc1 (o := 0) (k := 12) (x := s 201 + 1) h2 (by first | decide | omega) (by first | decide | omega)
  have e : aLotT s W r c = upd (upd (upd (upd s (132 + 2 * W) r) (132 + 2 * W + 1) c) 200 (s 200 + 1)) 201 (s 201 + 1) := by
    unfold aLotT
    dsimp only
    rw [upd_n (j := 200) (by omega), upd_n (j := 200) (by omega), upd_n (j := 201) (by omega), upd_n (j := 201) (by omega), upd_n (j := 201) (by omega)]
  rw [e]
  refine ⟨N, W + 1, K, ?_, ?_, ?_, h3⟩
  · rw [upd_n (by omega), upd_n (by omega), upd_n (by omega), upd_n (by omega)]
    exact hI.1.1
  · rw [upd_n (by omega), upd_s, hI.2.1.1]
    exact nI_1 W
  · rw [upd_n (by omega), upd_n (by omega), upd_n (by omega), upd_n (by omega)]
    exact hK
theorem aFind_val {row seat : Int32} : ∀ n k : Nat, k + n ≤ 12 → (aFind s row seat n k = -1000004 ∨ ∃ j, j < 12 ∧ aFind s row seat n k = nI j) := by
  intro n
  induction n with
  | zero => exact fun k _ => Or.inl rfl
  | succ n ih =>
    intro k hk
    unfold aFind
    split
    · split
      · exact Or.inr ⟨k, by omega, rfl⟩
      · exact ih _ (by omega)
    · exact ih _ (by omega)
theorem aFind_lt {row seat : Int32} (hN : N ≤ 12) : aFind s row seat N 0 < 0 ↔ aFind s row seat N 0 = -1000004 := by
  rcases aFind_val (s := s) (row := row) (seat := seat) N 0 (by omega) with h | ⟨j, hj, h⟩
  · rw [h]
    decide
  · rw [h]
    refine ⟨fun q => absurd q (show ¬ nI j < 0 from nI_nlt (a := j) (b := 0) (by omega) (by omega)), fun q => ?_⟩
    have e9 := congrArg Int32.toInt q
    rw [nI_toInt (by omega)] at e9
    have e8 : (-1000004 : Int32).toInt = -1000004 := by decide
    omega
def dBidder (s : Nat → Int32) (N : Nat) (row seat purse strength : Int32) : Int32 × Bool × (Nat → Int32) :=
  if aSeat row seat = 0 then (-1000001, false, s) else if aIn purse 0 999 = 0 then (-1000001, false, s) else if aIn strength 1 9 = 0 then (-1000001, false, s)
  else if aFind s row seat N 0 = -1000004 then (if s 199 < 12 then (nI N, true, aBid s N row seat purse strength) else (-1000003, false, s)) else (-1000002, false, s)
theorem dBidder_eq (hI : aIa s N W) {row seat purse strength : Int32} : dBidder s N row seat purse strength = aBidder s N row seat purse strength := by
  have e := aFind_lt (s := s) (row := row) (seat := seat) hI.1.2
  have e1 : s 199 < 12 ↔ ¬ s 199 = 12 := by
    rw [hI.1.1]
    have := hI.1.2
    rcases (show N = 0 ∨ N = 1 ∨ N = 2 ∨ N = 3 ∨ N = 4 ∨ N = 5 ∨ N = 6 ∨ N = 7 ∨ N = 8 ∨ N = 9 ∨ N = 10 ∨ N = 11 ∨ N = 12 by omega) with rfl | rfl | rfl | rfl | rfl | rfl | rfl | rfl | rfl | rfl | rfl | rfl | rfl <;> decide
  unfold dBidder aBidder
  by_cases h1 : aFind s row seat N 0 = -1000004
  · rw [if_pos h1, if_pos (e.mpr h1)]
    by_cases h2 : s 199 = 12
    · rw [if_neg (fun q => e1.mp q h2), if_pos h2]
    · rw [if_pos (e1.mpr h2), if_neg h2]
  · rw [if_neg h1, if_neg (fun q => h1 (e.mp q))]
def dLot (s : Nat → Int32) (W : Nat) (r v : Int32) : Int32 × Bool × (Nat → Int32) :=
  if aIn r 1 99 = 0 then (-1000001, false, s) else if aIn v 1 20 = 0 then (-1000001, false, s) else if s 200 < 8 then (nI W + 1, true, aLotT s W r v) else (-1000003, false, s)
theorem dLot_eq (hI : aIa s N W) {r c : Int32} : dLot s W r c = aLot s W r c := by
  have e1 : s 200 < 8 ↔ ¬ s 200 = 8 := by
    rw [hI.2.1.1]
    have := hI.2.1.2
    rcases (show W = 0 ∨ W = 1 ∨ W = 2 ∨ W = 3 ∨ W = 4 ∨ W = 5 ∨ W = 6 ∨ W = 7 ∨ W = 8 by omega) with rfl | rfl | rfl | rfl | rfl | rfl | rfl | rfl | rfl <;> decide
  have e2 : aLotT s W r c 200 = nI W + 1 := by
    have := hI.2.1.2
    unfold aLotT
    rw [upd_n (by omega), upd_s, upd_n (by omega), upd_n (by omega), hI.2.1.1]
  unfold dLot aLot
  by_cases h2 : s 200 = 8
  · rw [if_neg (fun q => e1.mp q h2), if_pos h2]
  · rw [if_pos (e1.mpr h2), if_neg h2, e2]
def dUp (s : Nat → Int32) (W : Nat) : Int32 × Bool × (Nat → Int32) := if s 148 = 0 then (if s 200 = 0 then (-1000002, false, s) else (aUpT s W 149, true, aUpT s W)) else (-1000002, false, s)
theorem dUp_eq (hI : aIa s N W) : dUp s W = aUp s W := by
  unfold dUp aUp
  rcases hI.2.2.2.2.2.1 with h | h
  · rw [if_pos h, if_neg (show ¬ s 148 = 1 by rw [h]; decide)]
  · rw [if_neg (show ¬ s 148 = 0 by rw [h]; decide), if_pos h]
theorem pR_L (hP : AP p) {k i : Nat} (hk : k ≤ 8) (hi : i < 17) : aL (pR p k i) := by
  unfold pR
  repeat' split
  all_goals exact hP.1 _ (by omega)
theorem pC_L (hP : AP p) {k i : Nat} (hi : i < 17) : aL (pC p k i) := by
  unfold pC
  repeat' split
  all_goals exact hP.1 _ (by omega)
end CW
set_option maxRecDepth 4000 in
set_option maxHeartbeats 2000000 in
theorem c_cold {g : zH} {B : Nat} (hB : aB B) {v : Nat → Nat → Int32} {p : Nat → Nat} {s : Nat → Int32} {N W K : Nat} (hA : AR v p s N W K) (hI : aIa s N W) (hK : s 210 = nI K) {b c : Int32} : zCT mX0_changeCold [.ref B, .int b, .int c] (215 + nz) (gAu g B v p) (215 + nz) (fun r h' => ∃ v' p', r = some ((aSetB s b c 4).1) ∧ h' = gAu g B v' p' ∧ AT v' p' ((aSetB s b c 4).2.2)) := by
  intro X Q hQ
  show zJ X mX0_changeCold (215 + nz) 0 [.ref B, .int b, .int c, .null] [] (215 + nz) (gAu g B v p) Q
  have hN := hA.1
  have hL := hA.2.1.1 16 (by omega)
  have hP := hA.2.1
  have hT := AT_mk hA hI hK
  refine j_aload_n dX0_changeCold_0 rfl ?_
  refine j_iload_n dX0_changeCold_1 rfl ?_
  refine k_callV1i dX0_changeCold_2 vX0_changeCold_113 (c_has hB hA hI) (aB_S0 hB) (aB_l0 hB) rfl (Nat.le_of_ble_eq_true rfl) ⟨rfl, rfl⟩ rfl ?_
  rintro _ _ ⟨⟨⟩, rfl⟩
  refine j_if_eq dX0_changeCold_5 (tgt := 17) rfl (fun c1 => ?_) (fun c1 => ?_)
  · refine j_ldc (v := (-1000001)) dX0_changeCold_17 cX0_102 ?_
    refine j_iret dX0_changeCold_19 rfl (rfl) ?_
    exact hQ _ _ (zb_w ((if_pos c1).trans (rfl)) (hT))
  · refine j_iload_n dX0_changeCold_8 rfl ?_
    refine j_iconst (v := 0) dX0_changeCold_9 (by first | decide | omega) ?_
    refine j_iconst (v := 5) dX0_changeCold_10 (by first | decide | omega) ?_
    refine k_callS3i dX0_changeCold_11 vX0_changeCold_98 (c_in) rfl rfl rfl (Nat.le_of_ble_eq_true rfl) ⟨rfl, rfl⟩ rfl ?_
    rintro _ _ ⟨⟨⟩, rfl⟩
    refine j_if_ne dX0_changeCold_14 (tgt := 20) rfl (fun c2 => ?_) (fun c2 => ?_)
    · obtain ⟨k, hk, rfl, hb2⟩ := aIs_nat hI.1.1 hN.1 ‹¬ aIs s b = 0›
      refine j_aload_n dX0_changeCold_20 rfl ?_
      refine j_get dX0_changeCold_21 fX0_13 (aB_S0 hB) (aB_l0 hB) zb_p0 ?_
      refine j_iload_n dX0_changeCold_24 rfl ?_
      refine k_aald (n := 12) (t := 1) (r := (B + (2 + k))) k dX0_changeCold_25 (aB_S hB (by first | decide | omega)) (by first | decide | omega) (aB_lt hB (by first | decide | omega)) (by first | rfl | (simp only [z_n, pk_mul, nI_add]; done) | (simp only [z_n, pk_mul, nI_add]; exact pk_sub (by omega)) | (simp only [z_n, pk_mul, nI_add, pk_sub, *]; done)) (by omega) (by first | decide | omega) (zb_bd) ?_
      refine j_get (v := .int (s (11 * k + 4))) dX0_changeCold_26 fX0_117 (aB_Sb hB (by omega)) (aB_lt hB (by omega)) ((zb_int (tI_b (by omega))).trans (congrArg Value.int (ar_b hA (by omega) 4 (by first | decide | omega)))) ?_
      refine j_istore_n dX0_changeCold_29 (by first | decide | omega) ?_
      refine j_aload_n dX0_changeCold_30 rfl ?_
      refine j_get dX0_changeCold_31 fX0_13 (aB_S0 hB) (aB_l0 hB) zb_p0 ?_
      refine j_iload_n dX0_changeCold_34 rfl ?_
      refine k_aald (n := 12) (t := 1) (r := (B + (2 + k))) k dX0_changeCold_35 (aB_S hB (by first | decide | omega)) (by first | decide | omega) (aB_lt hB (by first | decide | omega)) (by first | rfl | (simp only [z_n, pk_mul, nI_add]; done) | (simp only [z_n, pk_mul, nI_add]; exact pk_sub (by omega)) | (simp only [z_n, pk_mul, nI_add, pk_sub, *]; done)) (by omega) (by first | decide | omega) (zb_bd) ?_
      refine j_iload_n dX0_changeCold_36 rfl ?_
      refine j_put dX0_changeCold_37 fX0_117 (aB_Sb hB (by omega)) (aB_lt hB (by omega)) (rfl) ?_
      rw [zb_wr (tI_b (by omega))]
      refine j_iload_n dX0_changeCold_40 rfl ?_
      refine j_iret dX0_changeCold_41 rfl (rfl) ?_
      exact hQ _ _ (zb_w ((if_neg c1).trans ((if_neg c2).trans ((by rw [hb2])))) (zt_bd hA hI hK hk (j := 4) (by first | decide | omega)))
    · refine j_ldc (v := (-1000001)) dX0_changeCold_17 cX0_102 ?_
      refine j_iret dX0_changeCold_19 rfl (rfl) ?_
      exact hQ _ _ (zb_w ((if_neg c1).trans ((if_pos c2).trans (rfl))) (hT))
set_option maxRecDepth 4000 in
set_option maxHeartbeats 2000000 in
theorem c_muffle {g : zH} {B : Nat} (hB : aB B) {v : Nat → Nat → Int32} {p : Nat → Nat} {s : Nat → Int32} {N W K : Nat} (hA : AR v p s N W K) (hI : aIa s N W) (hK : s 210 = nI K) {b c : Int32} : zCT mX0_changeMuffler [.ref B, .int b, .int c] (215 + nz) (gAu g B v p) (215 + nz) (fun r h' => ∃ v' p', r = some ((aSetB s b c 5).1) ∧ h' = gAu g B v' p' ∧ AT v' p' ((aSetB s b c 5).2.2)) := by
  intro X Q hQ
  show zJ X mX0_changeMuffler (215 + nz) 0 [.ref B, .int b, .int c, .null] [] (215 + nz) (gAu g B v p) Q
  have hN := hA.1
  have hL := hA.2.1.1 16 (by omega)
  have hP := hA.2.1
  have hT := AT_mk hA hI hK
  refine j_aload_n dX0_changeMuffler_0 rfl ?_
  refine j_iload_n dX0_changeMuffler_1 rfl ?_
  refine k_callV1i dX0_changeMuffler_2 vX0_changeMuffler_113 (c_has hB hA hI) (aB_S0 hB) (aB_l0 hB) rfl (Nat.le_of_ble_eq_true rfl) ⟨rfl, rfl⟩ rfl ?_
  rintro _ _ ⟨⟨⟩, rfl⟩
  refine j_if_eq dX0_changeMuffler_5 (tgt := 17) rfl (fun c1 => ?_) (fun c1 => ?_)
  · refine j_ldc (v := (-1000001)) dX0_changeMuffler_17 cX0_102 ?_
    refine j_iret dX0_changeMuffler_19 rfl (rfl) ?_
    exact hQ _ _ (zb_w ((if_pos c1).trans (rfl)) (hT))
  · refine j_iload_n dX0_changeMuffler_8 rfl ?_
    refine j_iconst (v := 0) dX0_changeMuffler_9 (by first | decide | omega) ?_
    refine j_iconst (v := 5) dX0_changeMuffler_10 (by first | decide | omega) ?_
    refine k_callS3i dX0_changeMuffler_11 vX0_changeMuffler_98 (c_in) rfl rfl rfl (Nat.le_of_ble_eq_true rfl) ⟨rfl, rfl⟩ rfl ?_
    rintro _ _ ⟨⟨⟩, rfl⟩
    refine j_if_ne dX0_changeMuffler_14 (tgt := 20) rfl (fun c2 => ?_) (fun c2 => ?_)
    · obtain ⟨k, hk, rfl, hb2⟩ := aIs_nat hI.1.1 hN.1 ‹¬ aIs s b = 0›
      refine j_aload_n dX0_changeMuffler_20 rfl ?_
      refine j_get dX0_changeMuffler_21 fX0_13 (aB_S0 hB) (aB_l0 hB) zb_p0 ?_
      refine j_iload_n dX0_changeMuffler_24 rfl ?_
      refine k_aald (n := 12) (t := 1) (r := (B + (2 + k))) k dX0_changeMuffler_25 (aB_S hB (by first | decide | omega)) (by first | decide | omega) (aB_lt hB (by first | decide | omega)) (by first | rfl | (simp only [z_n, pk_mul, nI_add]; done) | (simp only [z_n, pk_mul, nI_add]; exact pk_sub (by omega)) | (simp only [z_n, pk_mul, nI_add, pk_sub, *]; done)) (by omega) (by first | decide | omega) (zb_bd) ?_
      refine j_get (v := .int (s (11 * k + 5))) dX0_changeMuffler_26 fX0_120 (aB_Sb hB (by omega)) (aB_lt hB (by omega)) ((zb_int (tI_b (by omega))).trans (congrArg Value.int (ar_b hA (by omega) 5 (by first | decide | omega)))) ?_
      refine j_istore_n dX0_changeMuffler_29 (by first | decide | omega) ?_
      refine j_aload_n dX0_changeMuffler_30 rfl ?_
      refine j_get dX0_changeMuffler_31 fX0_13 (aB_S0 hB) (aB_l0 hB) zb_p0 ?_
      refine j_iload_n dX0_changeMuffler_34 rfl ?_
      refine k_aald (n := 12) (t := 1) (r := (B + (2 + k))) k dX0_changeMuffler_35 (aB_S hB (by first | decide | omega)) (by first | decide | omega) (aB_lt hB (by first | decide | omega)) (by first | rfl | (simp only [z_n, pk_mul, nI_add]; done) | (simp only [z_n, pk_mul, nI_add]; exact pk_sub (by omega)) | (simp only [z_n, pk_mul, nI_add, pk_sub, *]; done)) (by omega) (by first | decide | omega) (zb_bd) ?_
      refine j_iload_n dX0_changeMuffler_36 rfl ?_
      refine j_put dX0_changeMuffler_37 fX0_120 (aB_Sb hB (by omega)) (aB_lt hB (by omega)) (rfl) ?_
      rw [zb_wr (tI_b (by omega))]
      refine j_iload_n dX0_changeMuffler_40 rfl ?_
      refine j_iret dX0_changeMuffler_41 rfl (rfl) ?_
      exact hQ _ _ (zb_w ((if_neg c1).trans ((if_neg c2).trans ((by rw [hb2])))) (zt_bd hA hI hK hk (j := 5) (by first | decide | omega)))
    · refine j_ldc (v := (-1000001)) dX0_changeMuffler_17 cX0_102 ?_
      refine j_iret dX0_changeMuffler_19 rfl (rfl) ?_
      exact hQ _ _ (zb_w ((if_neg c1).trans ((if_pos c2).trans (rfl))) (hT))
set_option maxRecDepth 4000 in
set_option maxHeartbeats 2000000 in
theorem c_set {g : zH} {B : Nat} (hB : aB B) {v : Nat → Nat → Int32} {p : Nat → Nat} {s : Nat → Int32} {N W K : Nat} (hA : AR v p s N W K) (hI : aIa s N W) (hK : s 210 = nI K) {k c : Int32} : zCT mX0_changeSetting [.ref B, .int k, .int c] (215 + nz) (gAu g B v p) (215 + nz) (fun r h' => ∃ v' p', r = some ((aSet s k c).1) ∧ h' = gAu g B v' p' ∧ AT v' p' ((aSet s k c).2.2)) := by
  intro X Q hQ
  show zJ X mX0_changeSetting (215 + nz) 0 [.ref B, .int k, .int c, .null] [] (215 + nz) (gAu g B v p) Q
  have hN := hA.1
  have hL := hA.2.1.1 16 (by omega)
  have hP := hA.2.1
  have hT := AT_mk hA hI hK
  refine j_iload_n dX0_changeSetting_0 rfl ?_
  refine j_iconst (v := 0) dX0_changeSetting_1 (by first | decide | omega) ?_
  refine j_aload_n dX0_changeSetting_2 rfl ?_
  refine j_get dX0_changeSetting_3 fX0_32 (aB_S0 hB) (aB_l0 hB) zb_p4 ?_
  refine j_alen (n := 3) (t := 0) (v := 3) dX0_changeSetting_6 (aB_S hB (by first | decide | omega)) (by first | decide | omega) (aB_lt hB (by first | decide | omega)) rfl ?_
  refine j_iconst (v := 1) dX0_changeSetting_7 (by first | decide | omega) ?_
  refine j_isub dX0_changeSetting_8 ?_
  rw [show (3 : Int32) - 1 = 2 from rfl]
  refine k_callS3i dX0_changeSetting_9 vX0_changeSetting_98 (c_in) rfl rfl rfl (Nat.le_of_ble_eq_true rfl) ⟨rfl, rfl⟩ rfl ?_
  rintro _ _ ⟨⟨⟩, rfl⟩
  refine j_if_eq dX0_changeSetting_12 (tgt := 25) rfl (fun c1 => ?_) (fun c1 => ?_)
  · refine j_ldc (v := (-1000001)) dX0_changeSetting_25 cX0_102 ?_
    refine j_iret dX0_changeSetting_27 rfl (rfl) ?_
    exact hQ _ _ (zb_w ((if_pos c1).trans (rfl)) (hT))
  · refine j_iload_n dX0_changeSetting_15 rfl ?_
    refine j_iconst (v := 1) dX0_changeSetting_16 (by first | decide | omega) ?_
    refine j_bipush (v := 9) dX0_changeSetting_17 (by first | decide | omega) ?_
    refine k_callS3i dX0_changeSetting_19 vX0_changeSetting_98 (c_in) rfl rfl rfl (Nat.le_of_ble_eq_true rfl) ⟨rfl, rfl⟩ rfl ?_
    rintro _ _ ⟨⟨⟩, rfl⟩
    refine j_if_ne dX0_changeSetting_22 (tgt := 28) rfl (fun c2 => ?_) (fun c2 => ?_)
    · obtain ⟨j, -, hj, rfl, hb2⟩ := aIn_nat (a := 0) (b := 2) (by omega) (by omega) ‹¬ aIn k 0 2 = 0›
      refine j_aload_n dX0_changeSetting_28 rfl ?_
      refine j_get dX0_changeSetting_29 fX0_32 (aB_S0 hB) (aB_l0 hB) zb_p4 ?_
      refine j_iload_n dX0_changeSetting_32 rfl ?_
      refine k_iald (n := 3) j dX0_changeSetting_33 (aB_S hB (by first | decide | omega)) (aB_lt hB (by first | decide | omega)) (by first | rfl | (simp only [z_n, pk_mul, nI_add]; done) | (simp only [z_n, pk_mul, nI_add]; exact pk_sub (by omega)) | (simp only [z_n, pk_mul, nI_add, pk_sub, *]; done)) (by omega) (by first | decide | omega) ((zb_int (by unfold tI; omega)).trans (congrArg Value.int (show _ = s (212 + j) from ar_s hA 33 j (by omega)))) ?_
      refine j_istore_n dX0_changeSetting_34 (by first | decide | omega) ?_
      refine j_aload_n dX0_changeSetting_35 rfl ?_
      refine j_get dX0_changeSetting_36 fX0_32 (aB_S0 hB) (aB_l0 hB) zb_p4 ?_
      refine j_iload_n dX0_changeSetting_39 rfl ?_
      refine j_iload_n dX0_changeSetting_40 rfl ?_
      refine k_iast (n := 3) j dX0_changeSetting_41 (aB_S hB (by first | decide | omega)) (aB_lt hB (by first | decide | omega)) (by first | rfl | (simp only [z_n, pk_mul, nI_add]; done) | (simp only [z_n, pk_mul, nI_add]; exact pk_sub (by omega)) | (simp only [z_n, pk_mul, nI_add, pk_sub, *]; done)) (by omega) (by first | decide | omega) ?_
      rw [zb_wr (o := 33) (by unfold tI; omega)]
      refine j_iload_n dX0_changeSetting_42 rfl ?_
      refine j_iret dX0_changeSetting_43 rfl (rfl) ?_
      exact hQ _ _ (zb_w ((if_neg c1).trans ((if_neg c2).trans ((by rw [hb2])))) (zt_set hA hI hK (by omega)))
    · refine j_ldc (v := (-1000001)) dX0_changeSetting_25 cX0_102 ?_
      refine j_iret dX0_changeSetting_27 rfl (rfl) ?_
      exact hQ _ _ (zb_w ((if_neg c1).trans ((if_pos c2).trans (rfl))) (hT))
set_option maxRecDepth 4000 in
set_option maxHeartbeats 2000000 in
theorem c_bidder {g : zH} {B : Nat} (hB : aB B) {v : Nat → Nat → Int32} {p : Nat → Nat} {s : Nat → Int32} {N W K : Nat} (hA : AR v p s N W K) (hI : aIa s N W) (hK : s 210 = nI K) (hD : aDead s N) {a1 a2 a3 a4 : Int32} : zCT mX0_seatBidder [.ref B, .int a1, .int a2, .int a3, .int a4] (215 + nz) (gAu g B v p) (215 + nz) (fun r h' => ∃ v' p', r = some ((aBidder s N a1 a2 a3 a4).1) ∧ h' = gAu g B v' p' ∧ AT v' p' ((aBidder s N a1 a2 a3 a4).2.2)) := by
  intro X Q hQ
  show zJ X mX0_seatBidder (215 + nz) 0 [.ref B, .int a1, .int a2, .int a3, .int a4] [] (215 + nz) (gAu g B v p) Q
  have hN := hA.1
  have hL := hA.2.1.1 16 (by omega)
  have hP := hA.2.1
  have hT := AT_mk hA hI hK
  refine j_iload_n dX0_seatBidder_0 rfl ?_
  refine j_iload_n dX0_seatBidder_1 rfl ?_
  refine k_callS2i dX0_seatBidder_2 vX0_seatBidder_94 (c_isSeat) rfl rfl (Nat.le_of_ble_eq_true rfl) ⟨rfl, rfl⟩ rfl ?_
  rintro _ _ ⟨⟨⟩, rfl⟩
  refine j_if_eq dX0_seatBidder_5 (tgt := 30) rfl (fun c1 => ?_) (fun c1 => ?_)
  · refine j_ldc (v := (-1000001)) dX0_seatBidder_30 cX0_102 ?_
    refine j_iret dX0_seatBidder_32 rfl (rfl) ?_
    exact hQ _ _ (zb_w ((dBidder_eq hI).symm.trans ((if_pos c1).trans (rfl))) (hT))
  · refine j_iload_n dX0_seatBidder_8 rfl ?_
    refine j_iconst (v := 0) dX0_seatBidder_9 (by first | decide | omega) ?_
    refine j_sipush (v := 999) dX0_seatBidder_10 (by first | decide | omega) ?_
    refine k_callS3i dX0_seatBidder_13 vX0_seatBidder_98 (c_in) rfl rfl rfl (Nat.le_of_ble_eq_true rfl) ⟨rfl, rfl⟩ rfl ?_
    rintro _ _ ⟨⟨⟩, rfl⟩
    refine j_if_eq dX0_seatBidder_16 (tgt := 30) rfl (fun c2 => ?_) (fun c2 => ?_)
    · refine j_ldc (v := (-1000001)) dX0_seatBidder_30 cX0_102 ?_
      refine j_iret dX0_seatBidder_32 rfl (rfl) ?_
      exact hQ _ _ (zb_w ((dBidder_eq hI).symm.trans ((if_neg c1).trans ((if_pos c2).trans (rfl)))) (hT))
    · refine j_iload dX0_seatBidder_19 rfl ?_
      refine j_iconst (v := 1) dX0_seatBidder_21 (by first | decide | omega) ?_
      refine j_bipush (v := 9) dX0_seatBidder_22 (by first | decide | omega) ?_
      refine k_callS3i dX0_seatBidder_24 vX0_seatBidder_98 (c_in) rfl rfl rfl (Nat.le_of_ble_eq_true rfl) ⟨rfl, rfl⟩ rfl ?_
      rintro _ _ ⟨⟨⟩, rfl⟩
      refine j_if_ne dX0_seatBidder_27 (tgt := 33) rfl (fun c3 => ?_) (fun c3 => ?_)
      · refine j_aload_n dX0_seatBidder_33 rfl ?_
        refine j_iload_n dX0_seatBidder_34 rfl ?_
        refine j_iload_n dX0_seatBidder_35 rfl ?_
        refine k_callV2i dX0_seatBidder_36 vX0_seatBidder_103 (c_seated hB hA hI) (aB_S0 hB) (aB_l0 hB) rfl rfl (Nat.le_of_ble_eq_true rfl) ⟨rfl, rfl⟩ rfl ?_
        rintro _ _ ⟨⟨⟩, rfl⟩
        refine j_ldc (v := (-1000004)) dX0_seatBidder_39 cX0_93 ?_
        refine j_icmp_eq dX0_seatBidder_41 (tgt := 47) rfl (fun c4 => ?_) (fun c4 => ?_)
        · refine j_aload_n dX0_seatBidder_47 rfl ?_
          refine j_get (v := .int (s 199)) dX0_seatBidder_48 fX0_39 (aB_S0 hB) (aB_l0 hB) ((zb_int0 (by unfold tI; decide)).trans (congrArg Value.int (ar_s hA 0 5 (by first | decide | omega)))) ?_
          refine j_aload_n dX0_seatBidder_51 rfl ?_
          refine j_get dX0_seatBidder_52 fX0_13 (aB_S0 hB) (aB_l0 hB) zb_p0 ?_
          refine j_alen (n := 12) (t := 3) (v := 12) dX0_seatBidder_55 (aB_S hB (by first | decide | omega)) (by first | decide | omega) (aB_lt hB (by first | decide | omega)) rfl ?_
          refine j_icmp_lt dX0_seatBidder_56 (tgt := 62) rfl (fun c5 => ?_) (fun c5 => ?_)
          · have hN12 : N < 12 := by
              have hq := ‹s 199 < 12›
              rw [hI.1.1] at hq
              exact Nat.lt_of_not_le (fun q => nI_nlt (a := N) (b := 12) q (by omega) hq)
            refine j_aload_n dX0_seatBidder_62 rfl ?_
            refine j_get dX0_seatBidder_63 fX0_13 (aB_S0 hB) (aB_l0 hB) zb_p0 ?_
            refine j_aload_n dX0_seatBidder_66 rfl ?_
            refine j_get (v := .int (nI N)) dX0_seatBidder_67 fX0_39 (aB_S0 hB) (aB_l0 hB) ((zb_int0 (by unfold tI; decide)).trans (congrArg Value.int ((ar_s hA 0 5 (by first | decide | omega)).trans (hI.1.1)))) ?_
            refine k_aald (n := 12) (t := 1) (r := (B + (2 + N))) N dX0_seatBidder_70 (aB_S hB (by first | decide | omega)) (by first | decide | omega) (aB_lt hB (by first | decide | omega)) (by first | rfl | (simp only [z_n, pk_mul, nI_add]; done) | (simp only [z_n, pk_mul, nI_add]; exact pk_sub (by omega)) | (simp only [z_n, pk_mul, nI_add, pk_sub, *]; done)) (by omega) (by first | decide | omega) (zb_bd) ?_
            refine j_iload_n dX0_seatBidder_71 rfl ?_
            refine j_iload_n dX0_seatBidder_72 rfl ?_
            refine j_iload_n dX0_seatBidder_73 rfl ?_
            refine j_iload dX0_seatBidder_74 rfl ?_
            refine k_callV4v dX0_seatBidder_76 vX0_seatBidder_109 (c_sitDown hB (by omega)) (aB_Sb hB (by omega)) (aB_lt hB (by omega)) rfl rfl rfl rfl (Nat.le_of_ble_eq_true rfl) ⟨rfl, rfl⟩ rfl ?_
            rintro _ ⟨-, rfl⟩
            refine j_aload_n dX0_seatBidder_79 rfl ?_
            refine j_dup dX0_seatBidder_80 rfl ?_
            refine j_get (v := .int (s 199)) dX0_seatBidder_81 fX0_39 (aB_S0 hB) (aB_l0 hB) ((zb_int0 (by unfold tI; decide)).trans (congrArg Value.int ((cCp_at 11 0 5).trans ((if_neg (by omega)).trans (ar_s hA 0 5 (by first | decide | omega)))))) ?_
            refine j_iconst (v := 1) dX0_seatBidder_84 (by first | decide | omega) ?_
            refine j_iadd dX0_seatBidder_85 ?_
            refine j_put dX0_seatBidder_86 fX0_39 (aB_S0 hB) (aB_l0 hB) (rfl) ?_
            rw [zb_wr0 (k := 5) (by unfold tI; decide)]
            refine j_aload_n dX0_seatBidder_89 rfl ?_
            refine j_get (v := .int (nI N + 1)) dX0_seatBidder_90 fX0_39 (aB_S0 hB) (aB_l0 hB) ((zb_int0 (by unfold tI; decide)).trans (congrArg Value.int (up2_s.trans (by rw [hI.1.1])))) ?_
            refine j_iconst (v := 1) dX0_seatBidder_93 (by first | decide | omega) ?_
            refine j_isub dX0_seatBidder_94 ?_
            rw [show nI N + 1 - 1 = nI N from Int32.add_sub_cancel _ _]
            refine j_iret dX0_seatBidder_95 rfl (rfl) ?_
            exact hQ _ _ (zb_w ((dBidder_eq hI).symm.trans ((if_neg c1).trans ((if_neg c2).trans ((if_neg c3).trans ((if_pos c4).trans ((if_pos c5).trans (rfl))))))) (zt_seat hA hI hK hN12 hD))
          · refine j_ldc (v := (-1000003)) dX0_seatBidder_59 cX0_108 ?_
            refine j_iret dX0_seatBidder_61 rfl (rfl) ?_
            exact hQ _ _ (zb_w ((dBidder_eq hI).symm.trans ((if_neg c1).trans ((if_neg c2).trans ((if_neg c3).trans ((if_pos c4).trans ((if_neg c5).trans (rfl))))))) (hT))
        · refine j_ldc (v := (-1000002)) dX0_seatBidder_44 cX0_107 ?_
          refine j_iret dX0_seatBidder_46 rfl (rfl) ?_
          exact hQ _ _ (zb_w ((dBidder_eq hI).symm.trans ((if_neg c1).trans ((if_neg c2).trans ((if_neg c3).trans ((if_neg c4).trans (rfl)))))) (hT))
      · refine j_ldc (v := (-1000001)) dX0_seatBidder_30 cX0_102 ?_
        refine j_iret dX0_seatBidder_32 rfl (rfl) ?_
        exact hQ _ _ (zb_w ((dBidder_eq hI).symm.trans ((if_neg c1).trans ((if_neg c2).trans ((if_pos c3).trans (rfl))))) (hT))
set_option maxRecDepth 4000 in
set_option maxHeartbeats 2000000 in
theorem c_lot {g : zH} {B : Nat} (hB : aB B) {v : Nat → Nat → Int32} {p : Nat → Nat} {s : Nat → Int32} {N W K : Nat} (hA : AR v p s N W K) (hI : aIa s N W) (hK : s 210 = nI K) {a1 a2 : Int32} : zCT mX0_addLot [.ref B, .int a1, .int a2] (215 + nz) (gAu g B v p) (215 + nz) (fun r h' => ∃ v' p', r = some ((aLot s W a1 a2).1) ∧ h' = gAu g B v' p' ∧ AT v' p' ((aLot s W a1 a2).2.2)) := by
  intro X Q hQ
  show zJ X mX0_addLot (215 + nz) 0 [.ref B, .int a1, .int a2] [] (215 + nz) (gAu g B v p) Q
  have hN := hA.1
  have hL := hA.2.1.1 16 (by omega)
  have hP := hA.2.1
  have hT := AT_mk hA hI hK
  refine j_iload_n dX0_addLot_0 rfl ?_
  refine j_iconst (v := 1) dX0_addLot_1 (by first | decide | omega) ?_
  refine j_bipush (v := 99) dX0_addLot_2 (by first | decide | omega) ?_
  refine k_callS3i dX0_addLot_4 vX0_addLot_98 (c_in) rfl rfl rfl (Nat.le_of_ble_eq_true rfl) ⟨rfl, rfl⟩ rfl ?_
  rintro _ _ ⟨⟨⟩, rfl⟩
  refine j_if_eq dX0_addLot_7 (tgt := 20) rfl (fun c1 => ?_) (fun c1 => ?_)
  · refine j_ldc (v := (-1000001)) dX0_addLot_20 cX0_102 ?_
    refine j_iret dX0_addLot_22 rfl (rfl) ?_
    exact hQ _ _ (zb_w ((dLot_eq hI).symm.trans ((if_pos c1).trans (rfl))) (hT))
  · refine j_iload_n dX0_addLot_10 rfl ?_
    refine j_iconst (v := 1) dX0_addLot_11 (by first | decide | omega) ?_
    refine j_bipush (v := 20) dX0_addLot_12 (by first | decide | omega) ?_
    refine k_callS3i dX0_addLot_14 vX0_addLot_98 (c_in) rfl rfl rfl (Nat.le_of_ble_eq_true rfl) ⟨rfl, rfl⟩ rfl ?_
    rintro _ _ ⟨⟨⟩, rfl⟩
    refine j_if_ne dX0_addLot_17 (tgt := 23) rfl (fun c2 => ?_) (fun c2 => ?_)
    · refine j_aload_n dX0_addLot_23 rfl ?_
      refine j_get (v := .int (s 200)) dX0_addLot_24 fX0_47 (aB_S0 hB) (aB_l0 hB) ((zb_int0 (by unfold tI; decide)).trans (congrArg Value.int (ar_s hA 0 6 (by first | decide | omega)))) ?_
      refine j_aload_n dX0_addLot_27 rfl ?_
      refine j_get dX0_addLot_28 fX0_20 (aB_S0 hB) (aB_l0 hB) zb_p1 ?_
      refine j_alen (n := 8) (t := 4) (v := 8) dX0_addLot_31 (aB_S hB (by first | decide | omega)) (by first | decide | omega) (aB_lt hB (by first | decide | omega)) rfl ?_
      refine j_icmp_lt dX0_addLot_32 (tgt := 38) rfl (fun c3 => ?_) (fun c3 => ?_)
      · have hW8 : W < 8 := by
          have hq := ‹s 200 < 8›
          rw [hI.2.1.1] at hq
          exact Nat.lt_of_not_le (fun q => nI_nlt (a := W) (b := 8) q (by omega) hq)
        have hpW := hP.1 W (by omega)
        have hp0 : ¬ 0 = p W := fun e => by unfold aL at hpW; omega
        refine j_aload_n dX0_addLot_38 rfl ?_
        refine j_get dX0_addLot_39 fX0_20 (aB_S0 hB) (aB_l0 hB) zb_p1 ?_
        refine j_aload_n dX0_addLot_42 rfl ?_
        refine j_get (v := .int (nI W)) dX0_addLot_43 fX0_47 (aB_S0 hB) (aB_l0 hB) ((zb_int0 (by unfold tI; decide)).trans (congrArg Value.int ((ar_s hA 0 6 (by first | decide | omega)).trans (hI.2.1.1)))) ?_
        refine k_aald (n := 8) (t := 2) (r := (B + p W)) W dX0_addLot_46 (aB_S hB (by first | decide | omega)) (by first | decide | omega) (aB_lt hB (by first | decide | omega)) (by first | rfl | (simp only [z_n, pk_mul, nI_add]; done) | (simp only [z_n, pk_mul, nI_add]; exact pk_sub (by omega)) | (simp only [z_n, pk_mul, nI_add, pk_sub, *]; done)) (by omega) (by first | decide | omega) (zb_qu (by omega)) ?_
        refine j_iload_n dX0_addLot_47 rfl ?_
        refine j_iload_n dX0_addLot_48 rfl ?_
        refine k_callV2v dX0_addLot_49 vX0_addLot_123 (c_come hB (hP.1 _ (by omega))) (aB_SL hB (hP.1 _ (by omega))) (aB_lt hB (aL_lt (hP.1 _ (by omega)))) rfl rfl (Nat.le_of_ble_eq_true rfl) ⟨rfl, rfl⟩ rfl ?_
        rintro _ ⟨-, rfl⟩
        refine j_aload_n dX0_addLot_52 rfl ?_
        refine j_dup dX0_addLot_53 rfl ?_
        refine j_get (v := .int (s 200)) dX0_addLot_54 fX0_47 (aB_S0 hB) (aB_l0 hB) ((zb_int0 (by unfold tI; decide)).trans (congrArg Value.int ((cCp_at 10 0 6).trans ((if_neg (fun q => hp0 q.1)).trans (ar_s hA 0 6 (by first | decide | omega)))))) ?_
        refine j_iconst (v := 1) dX0_addLot_57 (by first | decide | omega) ?_
        refine j_iadd dX0_addLot_58 ?_
        refine j_put dX0_addLot_59 fX0_47 (aB_S0 hB) (aB_l0 hB) (rfl) ?_
        rw [zb_wr0 (k := 6) (by unfold tI; decide)]
        refine j_aload_n dX0_addLot_62 rfl ?_
        refine j_dup dX0_addLot_63 rfl ?_
        refine j_get (v := .int (s 201)) dX0_addLot_64 fX0_72 (aB_S0 hB) (aB_l0 hB) ((zb_int0 (by unfold tI; decide)).trans (congrArg Value.int ((up2_n (by omega)).trans ((cCp_at 10 0 12).trans ((if_neg (fun q => hp0 q.1)).trans (ar_s hA 0 12 (by first | decide | omega))))))) ?_
        refine j_iconst (v := 1) dX0_addLot_67 (by first | decide | omega) ?_
        refine j_iadd dX0_addLot_68 ?_
        refine j_put dX0_addLot_69 fX0_72 (aB_S0 hB) (aB_l0 hB) (rfl) ?_
        rw [zb_wr0 (k := 12) (by unfold tI; decide)]
        refine j_aload_n dX0_addLot_72 rfl ?_
        refine j_get (v := .int (nI W + 1)) dX0_addLot_73 fX0_47 (aB_S0 hB) (aB_l0 hB) ((zb_int0 (by unfold tI; decide)).trans (congrArg Value.int ((up2_n (by omega)).trans (up2_s.trans (by rw [hI.2.1.1]))))) ?_
        refine j_iret dX0_addLot_76 rfl (rfl) ?_
        exact hQ _ _ (zb_w ((dLot_eq hI).symm.trans ((if_neg c1).trans ((if_neg c2).trans ((if_pos c3).trans (rfl))))) (zt_lot hA hI hK hW8))
      · refine j_ldc (v := (-1000003)) dX0_addLot_35 cX0_108 ?_
        refine j_iret dX0_addLot_37 rfl (rfl) ?_
        exact hQ _ _ (zb_w ((dLot_eq hI).symm.trans ((if_neg c1).trans ((if_neg c2).trans ((if_neg c3).trans (rfl))))) (hT))
    · refine j_ldc (v := (-1000001)) dX0_addLot_20 cX0_102 ?_
      refine j_iret dX0_addLot_22 rfl (rfl) ?_
      exact hQ _ _ (zb_w ((dLot_eq hI).symm.trans ((if_neg c1).trans ((if_pos c2).trans (rfl)))) (hT))
set_option maxRecDepth 4000 in
set_option maxHeartbeats 2000000 in
theorem c_raise_lp {g : zH} {B : Nat} (hB : aB B) {v : Nat → Nat → Int32} {p : Nat → Nat} {s : Nat → Int32} {N W K : Nat} (hA : AR v p s N W K) (hI : aIa s N W) (hK : s 210 = nI K) (hW0 : 0 < W) {X : Nat × (Nat → Int32)} {Q : zQt} (hQ : ∀ r h', (∃ v' p', r = some (aUpT s W 149) ∧ h' = gAu g B v' p' ∧ AT v' p' (aUpT s W)) → Q r (215 + nz) h') : ∀ (n k : Nat), k + n = 8 → 1 ≤ k → zJ X mX0_raiseNextLot (215 + nz) 34 [.ref B, .ref (B + p 16), .int (nI k)] [] (215 + nz) (gAu g B v (pR p k)) Q := by
  have hN := hA.1
  have hL := hA.2.1.1 16 (by omega)
  have hP := hA.2.1
  have hT := AT_mk hA hI hK
  intro n
  induction n with
  | zero =>
    intro k hk hk1
    obtain rfl : k = 8 := by omega
    refine j_iload_n dX0_raiseNextLot_34 rfl ?_
    refine j_aload_n dX0_raiseNextLot_35 rfl ?_
    refine j_get dX0_raiseNextLot_36 fX0_20 (aB_S0 hB) (aB_l0 hB) zb_p1 ?_
    refine j_alen (n := 8) (t := 4) (v := 8) dX0_raiseNextLot_39 (aB_S hB (by first | decide | omega)) (by first | decide | omega) (aB_lt hB (by first | decide | omega)) rfl ?_
    refine j_icmp_ge dX0_raiseNextLot_40 (tgt := 63) rfl (fun _ => ?_) (fun c1 => absurd (show (8 : Int32) ≤ nI 8 by decide) c1)
    refine j_aload_n dX0_raiseNextLot_63 rfl ?_
    refine j_get dX0_raiseNextLot_64 fX0_20 (aB_S0 hB) (aB_l0 hB) zb_p1 ?_
    refine j_aload_n dX0_raiseNextLot_67 rfl ?_
    refine j_get dX0_raiseNextLot_68 fX0_20 (aB_S0 hB) (aB_l0 hB) zb_p1 ?_
    refine j_alen (n := 8) (t := 4) (v := 8) dX0_raiseNextLot_71 (aB_S hB (by first | decide | omega)) (by first | decide | omega) (aB_lt hB (by first | decide | omega)) rfl ?_
    refine j_iconst (v := 1) dX0_raiseNextLot_72 (by first | decide | omega) ?_
    refine j_isub dX0_raiseNextLot_73 ?_
    refine j_aload_n dX0_raiseNextLot_74 rfl ?_
    refine k_aast (n := 8) (t := 2) (8 - 1) dX0_raiseNextLot_75 (aB_S hB (by first | decide | omega)) (by first | decide | omega) (aB_lt hB (by first | decide | omega)) (by first | rfl | (simp only [z_n, pk_mul, nI_add]; done) | (simp only [z_n, pk_mul, nI_add]; exact pk_sub (by omega)) | (simp only [z_n, pk_mul, nI_add, pk_sub, *]; done)) (by omega) (by first | decide | omega) (aB_SL hB hL) (aB_lt hB (aL_lt hL)) ?_
    rw [zb_pq (by omega)]
    rw [show va_up (pR p 8) (8 - 1) (p 16) = pRs p from rfl]
    refine j_aload_n dX0_raiseNextLot_76 rfl ?_
    refine j_dup dX0_raiseNextLot_77 rfl ?_
    refine j_get (v := .int (s 200)) dX0_raiseNextLot_78 fX0_47 (aB_S0 hB) (aB_l0 hB) ((zb_int0 (by unfold tI; decide)).trans (congrArg Value.int (ar_s hA 0 6 (by first | decide | omega)))) ?_
    refine j_iconst (v := 1) dX0_raiseNextLot_81 (by first | decide | omega) ?_
    refine j_isub dX0_raiseNextLot_82 ?_
    refine j_put dX0_raiseNextLot_83 fX0_47 (aB_S0 hB) (aB_l0 hB) (rfl) ?_
    rw [zb_wr0 (k := 6) (by unfold tI; decide)]
    refine j_aload_n dX0_raiseNextLot_86 rfl ?_
    refine j_iconst (v := 1) dX0_raiseNextLot_87 (by first | decide | omega) ?_
    refine j_put dX0_raiseNextLot_88 fX0_56 (aB_S0 hB) (aB_l0 hB) (rfl) ?_
    rw [zb_wr0 (k := 8) (by unfold tI; decide)]
    have hA2 := ar_raise hA hI hW0
    have hU2 := ar_u hA2 (aUpT_up hN.2.1).1
    have hL2 := hA2.2.1.1 16 (by omega)
    refine j_aload_n dX0_raiseNextLot_91 rfl ?_
    refine j_get dX0_raiseNextLot_92 fX0_35 (aB_S0 hB) (aB_l0 hB) zb_p9 ?_
    refine j_get (v := .int ((aUpT s W) 149)) dX0_raiseNextLot_95 fX0_127 (aB_SL hB hL2) (aB_lt hB (aL_lt hL2)) ((zb_int (tI_L hL2)).trans (congrArg Value.int (hU2.1))) ?_
    refine j_iret dX0_raiseNextLot_98 rfl (rfl) ?_
    exact hQ _ _ ⟨_, _, rfl, rfl, N, W - 1, K, by rw [aUpT_n hN.2.1 (by omega) (by omega)]; exact hI.1.1, by rw [(aUpT_up hN.2.1).2.2.2.2, hI.2.1.1]; exact pk_sub hW0, by rw [aUpT_n hN.2.1 (by omega) (by omega)]; exact hK, hA2⟩
  | succ n ih =>
    intro k hk hk1
    refine j_iload_n dX0_raiseNextLot_34 rfl ?_
    refine j_aload_n dX0_raiseNextLot_35 rfl ?_
    refine j_get dX0_raiseNextLot_36 fX0_20 (aB_S0 hB) (aB_l0 hB) zb_p1 ?_
    refine j_alen (n := 8) (t := 4) (v := 8) dX0_raiseNextLot_39 (aB_S hB (by first | decide | omega)) (by first | decide | omega) (aB_lt hB (by first | decide | omega)) rfl ?_
    refine j_icmp_ge dX0_raiseNextLot_40 (tgt := 63) rfl (fun c1 => absurd c1 (show ¬ (8 : Int32) ≤ nI k from nI_ge (a := k) (b := 8) (by omega) (by omega))) (fun _ => ?_)
    refine j_aload_n dX0_raiseNextLot_43 rfl ?_
    refine j_get dX0_raiseNextLot_44 fX0_20 (aB_S0 hB) (aB_l0 hB) zb_p1 ?_
    refine j_iload_n dX0_raiseNextLot_47 rfl ?_
    refine j_iconst (v := 1) dX0_raiseNextLot_48 (by first | decide | omega) ?_
    refine j_isub dX0_raiseNextLot_49 ?_
    refine j_aload_n dX0_raiseNextLot_50 rfl ?_
    refine j_get dX0_raiseNextLot_51 fX0_20 (aB_S0 hB) (aB_l0 hB) zb_p1 ?_
    refine j_iload_n dX0_raiseNextLot_54 rfl ?_
    refine k_aald (n := 8) (t := 2) (r := (B + (pR p k) k)) k dX0_raiseNextLot_55 (aB_S hB (by first | decide | omega)) (by first | decide | omega) (aB_lt hB (by first | decide | omega)) (by first | rfl | (simp only [z_n, pk_mul, nI_add]; done) | (simp only [z_n, pk_mul, nI_add]; exact pk_sub (by omega)) | (simp only [z_n, pk_mul, nI_add, pk_sub, *]; done)) (by omega) (by first | decide | omega) (zb_qu (by omega)) ?_
    refine k_aast (n := 8) (t := 2) (k - 1) dX0_raiseNextLot_56 (aB_S hB (by first | decide | omega)) (by first | decide | omega) (aB_lt hB (by first | decide | omega)) (by first | rfl | (simp only [z_n, pk_mul, nI_add]; done) | (simp only [z_n, pk_mul, nI_add]; exact pk_sub (by omega)) | (simp only [z_n, pk_mul, nI_add, pk_sub, *]; done)) (by omega) (by first | decide | omega) (aB_SL hB (pR_L hP (by omega) (by omega))) (aB_lt hB (aL_lt (pR_L hP (by omega) (by omega)))) ?_
    rw [zb_pq (by omega)]
    rw [pR_step (by omega) (by omega)]
    refine j_iinc (v := nI (k + 1)) dX0_raiseNextLot_57 rfl z_inc (by first | decide | omega) ?_
    refine j_goto dX0_raiseNextLot_60 (tgt := 34) rfl ?_
    exact ih (k + 1) (by omega) (by omega)
set_option maxRecDepth 4000 in
set_option maxHeartbeats 2000000 in
theorem c_up {g : zH} {B : Nat} (hB : aB B) {v : Nat → Nat → Int32} {p : Nat → Nat} {s : Nat → Int32} {N W K : Nat} (hA : AR v p s N W K) (hI : aIa s N W) (hK : s 210 = nI K) : zCT mX0_raiseNextLot [.ref B] (215 + nz) (gAu g B v p) (215 + nz) (fun r h' => ∃ v' p', r = some ((aUp s W).1) ∧ h' = gAu g B v' p' ∧ AT v' p' ((aUp s W).2.2)) := by
  intro X Q hQ
  show zJ X mX0_raiseNextLot (215 + nz) 0 [.ref B, .null, .null] [] (215 + nz) (gAu g B v p) Q
  have hN := hA.1
  have hL := hA.2.1.1 16 (by omega)
  have hP := hA.2.1
  have hT := AT_mk hA hI hK
  refine j_aload_n dX0_raiseNextLot_0 rfl ?_
  refine j_get (v := .int (s 148)) dX0_raiseNextLot_1 fX0_56 (aB_S0 hB) (aB_l0 hB) ((zb_int0 (by unfold tI; decide)).trans (congrArg Value.int (ar_s hA 0 8 (by first | decide | omega)))) ?_
  refine j_if_ne dX0_raiseNextLot_4 (tgt := 14) rfl (fun c1 => ?_) (fun c1 => ?_)
  · refine j_ldc (v := (-1000002)) dX0_raiseNextLot_14 cX0_107 ?_
    refine j_iret dX0_raiseNextLot_16 rfl (rfl) ?_
    exact hQ _ _ (zb_w ((dUp_eq hI).symm.trans ((if_neg c1).trans (rfl))) (hT))
  · refine j_aload_n dX0_raiseNextLot_7 rfl ?_
    refine j_get (v := .int (s 200)) dX0_raiseNextLot_8 fX0_47 (aB_S0 hB) (aB_l0 hB) ((zb_int0 (by unfold tI; decide)).trans (congrArg Value.int (ar_s hA 0 6 (by first | decide | omega)))) ?_
    refine j_if_ne dX0_raiseNextLot_11 (tgt := 17) rfl (fun c2 => ?_) (fun c2 => ?_)
    · have hW0 : 0 < W := Nat.pos_of_ne_zero (fun q => ‹¬ s 200 = 0› (by rw [hI.2.1.1, q]; rfl))
      refine j_aload_n dX0_raiseNextLot_17 rfl ?_
      refine j_get dX0_raiseNextLot_18 fX0_35 (aB_S0 hB) (aB_l0 hB) zb_p9 ?_
      refine j_astore_n dX0_raiseNextLot_21 (by first | decide | omega) ?_
      refine j_aload_n dX0_raiseNextLot_22 rfl ?_
      refine j_aload_n dX0_raiseNextLot_23 rfl ?_
      refine j_get dX0_raiseNextLot_24 fX0_20 (aB_S0 hB) (aB_l0 hB) zb_p1 ?_
      refine j_iconst (v := 0) dX0_raiseNextLot_27 (by first | decide | omega) ?_
      refine k_aald (n := 8) (t := 2) (r := (B + p 0)) 0 dX0_raiseNextLot_28 (aB_S hB (by first | decide | omega)) (by first | decide | omega) (aB_lt hB (by first | decide | omega)) (rfl) (by omega) (by first | decide | omega) (zb_qu (by omega)) ?_
      refine j_put dX0_raiseNextLot_29 fX0_35 (aB_S0 hB) (aB_l0 hB) rfl ?_
      rw [zb_pr]
      rw [pR_1]
      refine j_iconst (v := 1) dX0_raiseNextLot_32 (by first | decide | omega) ?_
      refine j_istore_n dX0_raiseNextLot_33 (by first | decide | omega) ?_
      exact c_raise_lp hB hA hI hK hW0 (fun r h' q => hQ r h' (by
        have e : aUp s W = (aUpT s W 149, true, aUpT s W) := (dUp_eq hI).symm.trans ((if_pos c1).trans ((if_neg c2).trans (rfl)))
        rw [e]
        exact q)) 7 1 (by omega) (by omega)
    · refine j_ldc (v := (-1000002)) dX0_raiseNextLot_14 cX0_107 ?_
      refine j_iret dX0_raiseNextLot_16 rfl (rfl) ?_
      exact hQ _ _ (zb_w ((dUp_eq hI).symm.trans ((if_pos c1).trans ((if_pos c2).trans (rfl)))) (hT))
set_option maxRecDepth 4000 in
set_option maxHeartbeats 2000000 in
theorem c_close_lp {g : zH} {B : Nat} (hB : aB B) {v : Nat → Nat → Int32} {p : Nat → Nat} {s : Nat → Int32} {N W K : Nat} (hA : AR v p s N W K) (hK : s 210 = nI K) {how : Nat} (hh : how ≤ 3) {X : Nat × (Nat → Int32)} {Q : zQt} (hQ : ∀ r h', (fun r h' => r = none ∧ h' = gAu g B (cCl v p s how K) (pCs p)) r h' → Q r (215 + nz) h') : ∀ (k : Nat), k ≤ 7 → zJ X mX0_close (215 + nz) 21 [.ref B, .int (nI how), .ref (B + p 15), .int (nI k)] [] (215 + nz) (gAu g B v (pC p k)) Q := by
  have hN := hA.1
  have hP := hA.2.1
  have hL := hP.1 16 (by omega)
  have hL15 := hP.1 15 (by omega)
  have hp0 : ∀ o, ¬ aL o → ¬ o = p 16 := fun o q e => q (e ▸ hL)
  intro k
  induction k with
  | zero =>
    intro hk
    refine j_iload_n dX0_close_21 rfl ?_
    refine j_if_le dX0_close_22 (tgt := 45) rfl (fun _ => ?_) (fun c1 => absurd (show nI 0 ≤ 0 by decide) c1)
    refine j_aload_n dX0_close_45 rfl ?_
    refine j_get dX0_close_46 fX0_25 (aB_S0 hB) (aB_l0 hB) zb_p2 ?_
    refine j_iconst (v := 0) dX0_close_49 (by first | decide | omega) ?_
    refine j_aload_n dX0_close_50 rfl ?_
    refine j_get (v := .ref (B + p 16)) dX0_close_51 fX0_35 (aB_S0 hB) (aB_l0 hB) (zb_p9.trans (congrArg (fun o => Value.ref (B + o)) (show _ = p 16 from rfl))) ?_
    refine k_aast (n := 8) (t := 2) 0 dX0_close_54 (aB_S hB (by first | decide | omega)) (by first | decide | omega) (aB_lt hB (by first | decide | omega)) (rfl) (by omega) (by first | decide | omega) (aB_SL hB hL) (aB_lt hB (aL_lt hL)) ?_
    rw [zb_pg (by omega)]
    rw [show va_up (pC p 0) (8 + 0) (p 16) = va_up (pC p 0) 8 (p 16) from rfl]
    refine j_aload_n dX0_close_55 rfl ?_
    refine j_get (v := .ref (B + p 16)) dX0_close_56 fX0_35 (aB_S0 hB) (aB_l0 hB) (zb_p9.trans (congrArg (fun o => Value.ref (B + o)) (show _ = p 16 from rfl))) ?_
    refine j_iload_n dX0_close_59 rfl ?_
    refine j_put dX0_close_60 fX0_130 (aB_SL hB hL) (aB_lt hB (aL_lt hL)) (rfl) ?_
    rw [zb_wr (tI_L hL)]
    refine j_aload_n dX0_close_63 rfl ?_
    refine j_aload_n dX0_close_64 rfl ?_
    refine j_put dX0_close_65 fX0_35 (aB_S0 hB) (aB_l0 hB) rfl ?_
    rw [zb_pr]
    rw [show va_up (va_up (pC p 0) 8 (p 16)) 16 (p 15) = pCs p from rfl]
    refine j_aload_n dX0_close_68 rfl ?_
    refine j_iconst (v := 0) dX0_close_69 (by first | decide | omega) ?_
    refine j_put dX0_close_70 fX0_56 (aB_S0 hB) (aB_l0 hB) (rfl) ?_
    rw [zb_wr0 (k := 8) (by unfold tI; decide)]
    refine j_aload_n dX0_close_73 rfl ?_
    refine j_get dX0_close_74 fX0_28 (aB_S0 hB) (aB_l0 hB) zb_p3 ?_
    refine j_iload_n dX0_close_77 rfl ?_
    refine j_dup2 dX0_close_78 rfl rfl ?_
    refine k_iald (n := 4) (x := s (aFc how)) how dX0_close_79 (aB_S hB (by first | decide | omega)) (aB_lt hB (by first | decide | omega)) rfl (by omega) (by first | decide | omega) ((zb_int (o := 32) (by unfold tI; omega)).trans (congrArg Value.int ((up2_n (by omega)).trans ((up2_n (fun e _ => hp0 32 (by unfold aL; omega) e)).trans ((ar_s hA 32 how (by omega)).trans (congrArg s (sJ_f hh))))))) ?_
    refine j_iconst (v := 1) dX0_close_80 (by first | decide | omega) ?_
    refine j_iadd dX0_close_81 ?_
    refine k_iast (n := 4) how dX0_close_82 (aB_S hB (by first | decide | omega)) (aB_lt hB (by first | decide | omega)) (by first | rfl | (simp only [z_n, pk_mul, nI_add]; done) | (simp only [z_n, pk_mul, nI_add]; exact pk_sub (by omega)) | (simp only [z_n, pk_mul, nI_add, pk_sub, *]; done)) (by omega) (by first | decide | omega) ?_
    rw [zb_wr (o := 32) (by unfold tI; omega)]
    refine j_aload_n dX0_close_83 rfl ?_
    refine j_get (v := .int (nI K)) dX0_close_84 fX0_53 (aB_S0 hB) (aB_l0 hB) ((zb_int0 (k := 7) (by unfold tI; decide)).trans (congrArg Value.int ((up2_n (by omega)).trans ((up2_n (by omega)).trans ((up2_n (fun e _ => hp0 0 (by unfold aL; omega) e)).trans ((ar_s hA 0 7 (by first | decide | omega)).trans hK)))))) ?_
    refine j_aload_n dX0_close_87 rfl ?_
    refine j_get dX0_close_88 fX0_25 (aB_S0 hB) (aB_l0 hB) zb_p2 ?_
    refine j_alen (n := 8) (t := 4) (v := 8) dX0_close_91 (aB_S hB (by first | decide | omega)) (by first | decide | omega) (aB_lt hB (by first | decide | omega)) rfl ?_
    refine j_icmp_ge dX0_close_92 (tgt := 105) rfl (fun c2 => ?_) (fun c2 => ?_)
    · refine j_vret dX0_close_105 rfl ?_
      exact hQ _ _ ⟨rfl, by rw [cCl, if_pos (show 8 ≤ K from (nI_leI (a := 8) (by omega) (by omega)).mp c2)]; rfl⟩
    · refine j_aload_n dX0_close_95 rfl ?_
      refine j_dup dX0_close_96 rfl ?_
      refine j_get (v := .int (nI K)) dX0_close_97 fX0_53 (aB_S0 hB) (aB_l0 hB) ((zb_int0 (k := 7) (by unfold tI; decide)).trans (congrArg Value.int ((up2_n (by omega)).trans ((up2_n (by omega)).trans ((up2_n (fun e _ => hp0 0 (by unfold aL; omega) e)).trans ((ar_s hA 0 7 (by first | decide | omega)).trans hK)))))) ?_
      refine j_iconst (v := 1) dX0_close_100 (by first | decide | omega) ?_
      refine j_iadd dX0_close_101 ?_
      rw [show nI K + 1 = nI (K + 1) from nI_1 K]
      refine j_put dX0_close_102 fX0_53 (aB_S0 hB) (aB_l0 hB) (rfl) ?_
      rw [zb_wr0 (k := 7) (by unfold tI; decide)]
      refine j_vret dX0_close_105 rfl ?_
      exact hQ _ _ ⟨rfl, by rw [cCl, if_neg (show ¬ 8 ≤ K from fun q => c2 ((nI_leI (a := 8) (by omega) (by omega)).mpr q))]; rfl⟩
  | succ k ih =>
    intro hk
    refine j_iload_n dX0_close_21 rfl ?_
    refine j_if_le dX0_close_22 (tgt := 45) rfl (fun c1 => absurd c1 (show ¬ nI (k + 1) ≤ nI 0 from fun q => by have := (nI_leI (a := k + 1) (b := 0) (by omega) (by omega)).mp q; omega)) (fun _ => ?_)
    refine j_aload_n dX0_close_25 rfl ?_
    refine j_get dX0_close_26 fX0_25 (aB_S0 hB) (aB_l0 hB) zb_p2 ?_
    refine j_iload_n dX0_close_29 rfl ?_
    refine j_aload_n dX0_close_30 rfl ?_
    refine j_get dX0_close_31 fX0_25 (aB_S0 hB) (aB_l0 hB) zb_p2 ?_
    refine j_iload_n dX0_close_34 rfl ?_
    refine j_iconst (v := 1) dX0_close_35 (by first | decide | omega) ?_
    refine j_isub dX0_close_36 ?_
    refine k_aald (n := 8) (t := 2) (r := (B + (pC p (k + 1)) (8 + ((k + 1) - 1)))) ((k + 1) - 1) dX0_close_37 (aB_S hB (by first | decide | omega)) (by first | decide | omega) (aB_lt hB (by first | decide | omega)) (by first | rfl | (simp only [z_n, pk_mul, nI_add]; done) | (simp only [z_n, pk_mul, nI_add]; exact pk_sub (by omega)) | (simp only [z_n, pk_mul, nI_add, pk_sub, *]; done)) (by omega) (by first | decide | omega) (zb_go (by omega)) ?_
    refine k_aast (n := 8) (t := 2) (k + 1) dX0_close_38 (aB_S hB (by first | decide | omega)) (by first | decide | omega) (aB_lt hB (by first | decide | omega)) (by first | rfl | (simp only [z_n, pk_mul, nI_add]; done) | (simp only [z_n, pk_mul, nI_add]; exact pk_sub (by omega)) | (simp only [z_n, pk_mul, nI_add, pk_sub, *]; done)) (by omega) (by first | decide | omega) (aB_SL hB (pC_L hP (by omega))) (aB_lt hB (aL_lt (pC_L hP (by omega)))) ?_
    rw [zb_pg (by omega)]
    rw [pC_step (by omega) (by omega)]
    refine j_iinc (v := nI ((k + 1) - 1)) dX0_close_39 rfl (z_dec (by omega)) (by first | decide | omega) ?_
    refine j_goto dX0_close_42 (tgt := 21) rfl ?_
    rw [show k + 1 - 1 = k from rfl]
    exact ih (by omega)
set_option maxRecDepth 4000 in
set_option maxHeartbeats 2000000 in
theorem c_close {g : zH} {B : Nat} (hB : aB B) {v : Nat → Nat → Int32} {p : Nat → Nat} {s : Nat → Int32} {N W K : Nat} (hA : AR v p s N W K) (hK : s 210 = nI K) {how : Nat} (hh : how ≤ 3) : zCT mX0_close [.ref B, .int (nI how)] (215 + nz) (gAu g B v p) (215 + nz) (fun r h' => r = none ∧ h' = gAu g B (cCl v p s how K) (pCs p)) := by
  intro X Q hQ
  show zJ X mX0_close (215 + nz) 0 [.ref B, .int (nI how), .null, .null] [] (215 + nz) (gAu g B v p) Q
  have hN := hA.1
  have hP := hA.2.1
  have hL := hP.1 16 (by omega)
  have hL15 := hP.1 15 (by omega)
  have hp0 : ∀ o, ¬ aL o → ¬ o = p 16 := fun o q e => q (e ▸ hL)
  refine j_aload_n dX0_close_0 rfl ?_
  refine j_get dX0_close_1 fX0_25 (aB_S0 hB) (aB_l0 hB) zb_p2 ?_
  refine j_aload_n dX0_close_4 rfl ?_
  refine j_get dX0_close_5 fX0_25 (aB_S0 hB) (aB_l0 hB) zb_p2 ?_
  refine j_alen (n := 8) (t := 4) (v := 8) dX0_close_8 (aB_S hB (by first | decide | omega)) (by first | decide | omega) (aB_lt hB (by first | decide | omega)) rfl ?_
  refine j_iconst (v := 1) dX0_close_9 (by first | decide | omega) ?_
  refine j_isub dX0_close_10 ?_
  refine k_aald (n := 8) (t := 2) (r := (B + p (8 + (8 - 1)))) (8 - 1) dX0_close_11 (aB_S hB (by first | decide | omega)) (by first | decide | omega) (aB_lt hB (by first | decide | omega)) (by first | rfl | (simp only [z_n, pk_mul, nI_add]; done) | (simp only [z_n, pk_mul, nI_add]; exact pk_sub (by omega)) | (simp only [z_n, pk_mul, nI_add, pk_sub, *]; done)) (by omega) (by first | decide | omega) (zb_go (by omega)) ?_
  refine j_astore_n dX0_close_12 (by first | decide | omega) ?_
  refine j_aload_n dX0_close_13 rfl ?_
  refine j_get dX0_close_14 fX0_25 (aB_S0 hB) (aB_l0 hB) zb_p2 ?_
  refine j_alen (n := 8) (t := 4) (v := 8) dX0_close_17 (aB_S hB (by first | decide | omega)) (by first | decide | omega) (aB_lt hB (by first | decide | omega)) rfl ?_
  refine j_iconst (v := 1) dX0_close_18 (by first | decide | omega) ?_
  refine j_isub dX0_close_19 ?_
  rw [show (8 : Int32) - 1 = nI 7 from rfl]
  refine j_istore_n dX0_close_20 (by first | decide | omega) ?_
  rw [show gAu g B v p = gAu g B v (pC p 7) by rw [pC_7]]
  exact c_close_lp hB hA hK hh hQ 7 (by omega)
