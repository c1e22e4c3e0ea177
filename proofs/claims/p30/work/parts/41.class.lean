variable {nz : Nat}
-- the class's calls that tell
section CU
variable {v : Nat → Nat → Int32} {p : Nat → Nat} {s : Nat → Int32} {N W K k j : Nat}
theorem cTell_s (hA : AR v p s N W K) (hk : k < N) (hj : j ≤ 10) : cTellQ v (2 + k) j = if 6 ≤ nI j then (if nI j = 6 then 100 + aLoud s k else s (11 * k + (j - 1))) else s (11 * k + j) := by
  have b := fun i (hi : i < 11) => ar_b hA hk i hi
  have e0 : v (2 + k) 0 = s (11 * k + 0) := b 0 (by first | decide | omega)
  have e3 : v (2 + k) 4 = s (11 * k + 3) := b 3 (by first | decide | omega)
  have e4 : v (2 + k) 5 = s (11 * k + 4) := b 4 (by first | decide | omega)
  have e5 : v (2 + k) 6 = s (11 * k + 5) := b 5 (by first | decide | omega)
  rcases (show j = 0 ∨ j = 1 ∨ j = 2 ∨ j = 3 ∨ j = 4 ∨ j = 5 ∨ j = 6 ∨ j = 7 ∨ j = 8 ∨ j = 9 ∨ j = 10 by omega) with rfl | rfl | rfl | rfl | rfl | rfl | rfl | rfl | rfl | rfl | rfl
  · rw [if_neg (by first | decide | omega)]
    exact e0
  · rw [if_neg (by first | decide | omega)]
    exact b 1 (by first | decide | omega)
  · rw [if_neg (by first | decide | omega)]
    exact b 2 (by first | decide | omega)
  · rw [if_neg (by first | decide | omega)]
    exact e3
  · rw [if_neg (by first | decide | omega)]
    exact e4
  · rw [if_neg (by first | decide | omega)]
    exact e5
  · rw [if_pos (by first | decide | omega), if_pos (by first | decide | omega)]
    show 100 + cLoud v (2 + k) = _
    unfold aLoud
    rw [← e0, ← e3, ← e4, ← e5]
  · rw [if_pos (by first | decide | omega), if_neg (by first | decide | omega)]
    exact b 6 (by first | decide | omega)
  · rw [if_pos (by first | decide | omega), if_neg (by first | decide | omega)]
    exact b 7 (by first | decide | omega)
  · rw [if_pos (by first | decide | omega), if_neg (by first | decide | omega)]
    exact b 8 (by first | decide | omega)
  · rw [if_pos (by first | decide | omega), if_neg (by first | decide | omega)]
    exact b 9 (by first | decide | omega)
theorem aIn_sw {x : Int32} {n : Nat} (hn : n < 1000) : aIn x 0 (nI n) = 0 ↔ (x.toInt < 0 ∨ (n : Int) < x.toInt) := by
  have e0 : (0 : Int32).toInt = 0 := by decide
  have en : (nI n).toInt = (n : Int) := nI_toInt (by omega)
  unfold aIn
  by_cases h1 : x < 0
  · rw [if_pos h1]
    rw [Int32.lt_iff_toInt_lt, e0] at h1
    exact ⟨fun _ => Or.inl h1, fun _ => rfl⟩
  · rw [if_neg h1]
    rw [Int32.lt_iff_toInt_lt, e0] at h1
    by_cases h2 : nI n < x
    · rw [if_pos h2]
      rw [Int32.lt_iff_toInt_lt, en] at h2
      exact ⟨fun _ => Or.inr h2, fun _ => rfl⟩
    · rw [if_neg h2]
      rw [Int32.lt_iff_toInt_lt, en] at h2
      exact ⟨fun q => absurd q (by first | decide | omega), fun q => by omega⟩
def dBof (v : Nat → Nat → Int32) (s : Nat → Int32) (b x : Int32) : Int32 := if aIs s b = 0 then -1000001 else cTell v (2 + b.toNatClampNeg) x
theorem dBof_eq (hA : AR v p s N W K) (hI : aIa s N W) {b x : Int32} : dBof v s b x = aBof s b x := by
  unfold dBof aBof
  by_cases h : aIs s b = 0
  · rw [if_pos h, if_pos h]
  · rw [if_neg h, if_neg h]
    obtain ⟨k, hk, rfl, hb2⟩ := aIs_nat hI.1.1 hA.1.1 h
    rw [hb2]
    have e : aIn x 0 10 = 0 ↔ (x.toInt < 0 ∨ (10 : Int) < x.toInt) := aIn_sw (x := x) (n := 10) (by first | decide | omega)
    unfold cTell
    by_cases h2 : aIn x 0 10 = 0
    · rw [if_pos h2, if_pos (e.mp h2)]
    · rw [if_neg h2, if_neg (fun q => h2 (e.mpr q))]
      obtain ⟨j, -, hj, rfl, hj2⟩ := aIn_nat (a := 0) (b := 10) (by omega) (by omega) h2
      rw [hj2]
      exact cTell_s hA hk hj
theorem cTu_s (hA : AR v p s N W K) (hI : aIa s N W) (hup : s 148 = 1) (hj : j < 9) : cTuQ v (p 16) j = aUpQ s j := by
  obtain ⟨g0, g1, g2, g3, g4, g5, g6, g7, g8⟩ := ar_u hA hup
  have hz := (ar_z57 hA hup).1
  have hw := aHas_who hI hup
  have hc : cHas v (p 16) = 0 ↔ s 152 ≤ 0 := by
    unfold cHas
    rw [g6, ← hw.1]
    by_cases q : s 155 ≤ 0
    · rw [if_pos q]
      exact ⟨fun _ => q, fun _ => rfl⟩
    · rw [if_neg q]
      exact ⟨fun e => absurd e (by first | decide | omega), fun e => absurd e q⟩
  have hm : ∀ a b c : Int32, (if cHas v (p 16) = 0 then a else b) = if s 152 ≤ 0 then a else b := fun a b _ => by
    by_cases q : s 152 ≤ 0
    · rw [if_pos q, if_pos (hc.mpr q)]
    · rw [if_neg q, if_neg (fun e => q (hc.mp e))]
  rcases (show j = 0 ∨ j = 1 ∨ j = 2 ∨ j = 3 ∨ j = 4 ∨ j = 5 ∨ j = 6 ∨ j = 7 ∨ j = 8 by omega) with rfl | rfl | rfl | rfl | rfl | rfl | rfl | rfl | rfl
  · exact g0
  · exact g1
  · show (if cHas v (p 16) = 0 then (-1000004 : Int32) else v (p 16) 2) = if s 152 ≤ 0 then -1000004 else s 151
    rw [hm _ _ 0, g2]
  · show (if cHas v (p 16) = 0 then (-1000004 : Int32) else v (p 16) 3) = if s 152 ≤ 0 then -1000004 else s 152 - 1
    rw [hm _ _ 0, g3]
  · exact g7
  · exact g8
  · show cAsk v (p 16) = aAsk s
    unfold cAsk aAsk
    rw [g6, g0, g1, g2]
    by_cases q : s 152 ≤ 0
    · rw [if_pos q, if_pos (hw.1.mpr q)]
    · rw [if_neg q, if_neg (fun e => q (hw.1.mp e))]
  · exact g6
  · show (if v (p 16) 4 = 0 then (0 : Int32) else 1) = s 156
    rw [g4]
    rcases hz with q | q
    · rw [q]
      rfl
    · rw [q]
      rfl
def dUpV (v : Nat → Nat → Int32) (p : Nat → Nat) (s : Nat → Int32) (x : Int32) : Int32 := if aIn x 0 8 = 0 then -1000001 else if s 148 = 0 then -1000002 else cTuQ v (p 16) x.toNatClampNeg
theorem dUpV_eq (hA : AR v p s N W K) (hI : aIa s N W) {x : Int32} : dUpV v p s x = aUpV s x := by
  unfold dUpV aUpV
  by_cases h1 : aIn x 0 8 = 0
  · rw [if_pos h1, if_pos h1]
  · rw [if_neg h1, if_neg h1]
    by_cases h2 : s 148 = 0
    · rw [if_pos h2, if_pos h2]
    · rw [if_neg h2, if_neg h2]
      obtain ⟨j, -, hj, rfl, hj2⟩ := aIn_nat (a := 0) (b := 8) (by omega) (by omega) h1
      rw [hj2]
      exact cTu_s hA hI (hI.2.2.2.2.2.1.resolve_left h2) (by omega)
theorem cTg_s (hA : AR v p s N W K) (hk : k < K) (hj : j < 5) : cTgQ v (p (8 + k)) j = aBk2 (s (158 + 5 * k + j)) (nI j) := by
  obtain ⟨g0, g1, g2, g3, g4, g5⟩ := ar_g hA hk
  rcases (show j = 0 ∨ j = 1 ∨ j = 2 ∨ j = 3 ∨ j = 4 by omega) with rfl | rfl | rfl | rfl | rfl
  · unfold aBk2
    rw [if_neg (by first | decide | omega)]
    exact g0
  · unfold aBk2
    rw [if_neg (by first | decide | omega), show 158 + 5 * k + 1 = 159 + 5 * k by omega]
    exact g1
  · unfold aBk2
    rw [if_pos (by first | decide | omega), show 158 + 5 * k + 2 = 160 + 5 * k by omega]
    show (if cHas v (p (8 + k)) = 0 then (-1000004 : Int32) else v (p (8 + k)) 3) = _
    rw [g3]
    unfold cHas
    by_cases q : v (p (8 + k)) 6 ≤ 0
    · rw [if_pos q, if_pos rfl, if_pos (g2.mp q)]
    · rw [if_neg q, if_neg (by first | decide | omega), if_neg (fun e => q (g2.mpr e))]
  · unfold aBk2
    rw [if_neg (by first | decide | omega), show 158 + 5 * k + 3 = 161 + 5 * k by omega]
    exact g4
  · unfold aBk2
    rw [if_neg (by first | decide | omega), show 158 + 5 * k + 4 = 162 + 5 * k by omega]
    exact g5
end CU
set_option maxRecDepth 4000 in
set_option maxHeartbeats 2000000 in
theorem o_bidderOf {h : zH} {s pa tx : Nat → Int32} {n T : Nat} (hc : CH h s pa n tx T) (hM : aM s) {b x : Int32} : zCT mX4_bidderOf [.ref 0, .int b, .int x] (215 + nz) h (215 + nz) (fun r h' => r = some (aBof s b x) ∧ h' = h) := by
  obtain ⟨π, V, P, f, nm, hq, hS, hH⟩ := hc
  have hI : aIa s (aNn s) (aWn s) := hM.1.1
  obtain ⟨Kn, hKn, hA⟩ := AT_of hS hI
  have hN := hA.1
  have hb4 := CQ_bk hq (i := 4) (by omega)
  have hb5 := CQ_bk hq (i := 5) (by omega)
  have hne : ¬ bs (π 5) = bs (π 4) := CQ_ne hq (by omega) (by omega) (by omega)
  have h45 : π 4 ≠ π 5 := fun e => hne (by rw [e])
  have hh5 : ∀ i, i < n → π i ≠ π 5 := fun i hi e => by
    have := hq.1.2 i 5 (by have := CQ_n4 hq; omega) (by omega) e
    have := CQ_n4 hq
    omega
  have hB := bs_B (π 4)
  have hL := hA.2.1.1 16 (by omega)
  have hP := hA.2.1
  intro X Q hQ
  show zJ X mX4_bidderOf (215 + nz) 0 [.ref 0, .int b, .int x] [] (215 + nz) h Q
  refine z_to (zBk_self hb4.1).symm ?_
  refine j_aload_n dX4_bidderOf_0 rfl ?_
  refine j_get (v := .ref (bs (π 4))) dX4_bidderOf_1 fX4_27 rfl (by first | decide | omega) ((congrFun (zb_lo hB (by omega)) _).trans ((CQ_rd hq 0 3).trans gO_now)) ?_
  refine j_iload_n dX4_bidderOf_4 rfl ?_
  refine k_callV1i dX4_bidderOf_5 vX4_bidderOf_73 (c_has hB hA hI) (aB_S0 hB) (aB_l0 hB) rfl (Nat.le_of_ble_eq_true rfl) ⟨rfl, rfl⟩ rfl ?_
  rintro _ _ ⟨⟨⟩, rfl⟩
  refine j_if_ne dX4_bidderOf_8 (tgt := 14) rfl (fun c1 => ?_) (fun c1 => ?_)
  · obtain ⟨k, hk, rfl, hb2⟩ := aIs_nat hI.1.1 hN.1 ‹¬ aIs s b = 0›
    refine j_aload_n dX4_bidderOf_14 rfl ?_
    refine j_get (v := .ref (bs (π 4))) dX4_bidderOf_15 fX4_27 rfl (by first | decide | omega) ((congrFun (zb_lo hB (by omega)) _).trans ((CQ_rd hq 0 3).trans gO_now)) ?_
    refine j_get dX4_bidderOf_18 fX4_78 (aB_S0 hB) (aB_l0 hB) zb_p0 ?_
    refine j_iload_n dX4_bidderOf_21 rfl ?_
    refine k_aald (n := 12) (t := 1) (r := (bs (π 4) + (2 + k))) k dX4_bidderOf_22 (aB_S hB (by first | decide | omega)) (by first | decide | omega) (aB_lt hB (by first | decide | omega)) (by first | rfl | (simp only [z_n, pk_mul, nI_add]; done) | (simp only [z_n, pk_mul, nI_add]; exact pk_sub (by omega)) | (simp only [z_n, pk_mul, nI_add, pk_sub, *]; done)) (show k < 12 by omega) (by first | decide | omega) (zb_bd) ?_
    refine j_iload_n dX4_bidderOf_23 rfl ?_
    refine k_callV1i dX4_bidderOf_24 vX4_bidderOf_82 (c_tell hB (show k < 12 by omega)) (aB_Sb hB (show k < 12 by omega)) (aB_lt hB (by omega)) rfl (Nat.le_of_ble_eq_true rfl) ⟨rfl, rfl⟩ rfl ?_
    rintro _ _ ⟨⟨⟩, rfl⟩
    refine j_iret dX4_bidderOf_27 rfl (rfl) ?_
    exact hQ _ _ ⟨congrArg some ((dBof_eq hA hI).symm.trans ((if_neg c1).trans ((by rw [hb2])))).symm, zBk_self hb4.1⟩
  · refine j_ldc (v := (-1000001)) dX4_bidderOf_11 cX4_77 ?_
    refine j_iret dX4_bidderOf_13 rfl (rfl) ?_
    exact hQ _ _ ⟨congrArg some ((dBof_eq hA hI).symm.trans ((if_pos c1).trans (rfl))).symm, zBk_self hb4.1⟩
set_option maxRecDepth 4000 in
set_option maxHeartbeats 2000000 in
theorem o_at {h : zH} {s pa tx : Nat → Int32} {n T : Nat} (hc : CH h s pa n tx T) (hM : aM s) {a1 a2 : Int32} : zCT mX4_at [.ref 0, .int a1, .int a2] (215 + nz) h (215 + nz) (fun r h' => r = some (aAt s (aNn s) a1 a2) ∧ h' = h) := by
  obtain ⟨π, V, P, f, nm, hq, hS, hH⟩ := hc
  have hI : aIa s (aNn s) (aWn s) := hM.1.1
  obtain ⟨Kn, hKn, hA⟩ := AT_of hS hI
  have hN := hA.1
  have hb4 := CQ_bk hq (i := 4) (by omega)
  have hb5 := CQ_bk hq (i := 5) (by omega)
  have hne : ¬ bs (π 5) = bs (π 4) := CQ_ne hq (by omega) (by omega) (by omega)
  have h45 : π 4 ≠ π 5 := fun e => hne (by rw [e])
  have hh5 : ∀ i, i < n → π i ≠ π 5 := fun i hi e => by
    have := hq.1.2 i 5 (by have := CQ_n4 hq; omega) (by omega) e
    have := CQ_n4 hq
    omega
  have hB := bs_B (π 4)
  have hL := hA.2.1.1 16 (by omega)
  have hP := hA.2.1
  intro X Q hQ
  show zJ X mX4_at (215 + nz) 0 [.ref 0, .int a1, .int a2] [] (215 + nz) h Q
  refine z_to (zBk_self hb4.1).symm ?_
  refine j_iload_n dX4_at_0 rfl ?_
  refine j_iload_n dX4_at_1 rfl ?_
  refine k_callS2i dX4_at_2 vX4_at_87 (c_isSeat) rfl rfl (Nat.le_of_ble_eq_true rfl) ⟨rfl, rfl⟩ rfl ?_
  rintro _ _ ⟨⟨⟩, rfl⟩
  refine j_if_ne dX4_at_5 (tgt := 11) rfl (fun c1 => ?_) (fun c1 => ?_)
  · refine j_aload_n dX4_at_11 rfl ?_
    refine j_get (v := .ref (bs (π 4))) dX4_at_12 fX4_27 rfl (by first | decide | omega) ((congrFun (zb_lo hB (by omega)) _).trans ((CQ_rd hq 0 3).trans gO_now)) ?_
    refine j_iload_n dX4_at_15 rfl ?_
    refine j_iload_n dX4_at_16 rfl ?_
    refine k_callV2i dX4_at_17 vX4_at_91 (c_seated hB hA hI) (aB_S0 hB) (aB_l0 hB) rfl rfl (Nat.le_of_ble_eq_true rfl) ⟨rfl, rfl⟩ rfl ?_
    rintro _ _ ⟨⟨⟩, rfl⟩
    refine j_iret dX4_at_20 rfl (rfl) ?_
    exact hQ _ _ ⟨congrArg some ((if_neg c1).trans (rfl)).symm, zBk_self hb4.1⟩
  · refine j_ldc (v := (-1000001)) dX4_at_8 cX4_77 ?_
    refine j_iret dX4_at_10 rfl (rfl) ?_
    exact hQ _ _ ⟨congrArg some ((if_pos c1).trans (rfl)).symm, zBk_self hb4.1⟩
set_option maxRecDepth 4000 in
set_option maxHeartbeats 2000000 in
theorem o_up {h : zH} {s pa tx : Nat → Int32} {n T : Nat} (hc : CH h s pa n tx T) (hM : aM s) {x : Int32} : zCT mX4_up [.ref 0, .int x] (215 + nz) h (215 + nz) (fun r h' => r = some (aUpV s x) ∧ h' = h) := by
  obtain ⟨π, V, P, f, nm, hq, hS, hH⟩ := hc
  have hI : aIa s (aNn s) (aWn s) := hM.1.1
  obtain ⟨Kn, hKn, hA⟩ := AT_of hS hI
  have hN := hA.1
  have hb4 := CQ_bk hq (i := 4) (by omega)
  have hb5 := CQ_bk hq (i := 5) (by omega)
  have hne : ¬ bs (π 5) = bs (π 4) := CQ_ne hq (by omega) (by omega) (by omega)
  have h45 : π 4 ≠ π 5 := fun e => hne (by rw [e])
  have hh5 : ∀ i, i < n → π i ≠ π 5 := fun i hi e => by
    have := hq.1.2 i 5 (by have := CQ_n4 hq; omega) (by omega) e
    have := CQ_n4 hq
    omega
  have hB := bs_B (π 4)
  have hL := hA.2.1.1 16 (by omega)
  have hP := hA.2.1
  intro X Q hQ
  show zJ X mX4_up (215 + nz) 0 [.ref 0, .int x] [] (215 + nz) h Q
  refine z_to (zBk_self hb4.1).symm ?_
  refine j_iload_n dX4_up_0 rfl ?_
  refine j_iconst (v := 0) dX4_up_1 (by first | decide | omega) ?_
  refine j_bipush (v := 8) dX4_up_2 (by first | decide | omega) ?_
  refine k_callS3i dX4_up_4 vX4_up_94 (c_in) rfl rfl rfl (Nat.le_of_ble_eq_true rfl) ⟨rfl, rfl⟩ rfl ?_
  rintro _ _ ⟨⟨⟩, rfl⟩
  refine j_if_ne dX4_up_7 (tgt := 13) rfl (fun c1 => ?_) (fun c1 => ?_)
  · refine j_aload_n dX4_up_13 rfl ?_
    refine j_get (v := .ref (bs (π 4))) dX4_up_14 fX4_27 rfl (by first | decide | omega) ((congrFun (zb_lo hB (by omega)) _).trans ((CQ_rd hq 0 3).trans gO_now)) ?_
    refine j_get (v := .int (s 148)) dX4_up_17 fX4_98 (aB_S0 hB) (aB_l0 hB) ((zb_int0 (by unfold tI; decide)).trans (congrArg Value.int (ar_s hA 0 8 (by first | decide | omega)))) ?_
    refine j_if_ne dX4_up_20 (tgt := 26) rfl (fun c2 => ?_) (fun c2 => ?_)
    · obtain ⟨j, -, hj, rfl, hj2⟩ := aIn_nat (a := 0) (b := 8) (by omega) (by omega) ‹¬ aIn x 0 8 = 0›
      refine j_aload_n dX4_up_26 rfl ?_
      refine j_get (v := .ref (bs (π 4))) dX4_up_27 fX4_27 rfl (by first | decide | omega) ((congrFun (zb_lo hB (by omega)) _).trans ((CQ_rd hq 0 3).trans gO_now)) ?_
      refine j_get dX4_up_30 fX4_103 (aB_S0 hB) (aB_l0 hB) zb_p9 ?_
      refine j_iload_n dX4_up_33 rfl ?_
      refine k_callV1i dX4_up_34 vX4_up_107 (c_tellUp hB hL (by omega)) (aB_SL hB hL) (aB_lt hB (aL_lt hL)) rfl (Nat.le_of_ble_eq_true rfl) ⟨rfl, rfl⟩ rfl ?_
      rintro _ _ ⟨⟨⟩, rfl⟩
      refine j_iret dX4_up_37 rfl (rfl) ?_
      exact hQ _ _ ⟨congrArg some ((dUpV_eq hA hI).symm.trans ((if_neg c1).trans ((if_neg c2).trans ((by rw [hj2]))))).symm, zBk_self hb4.1⟩
    · refine j_ldc (v := (-1000002)) dX4_up_23 cX4_102 ?_
      refine j_iret dX4_up_25 rfl (rfl) ?_
      exact hQ _ _ ⟨congrArg some ((dUpV_eq hA hI).symm.trans ((if_neg c1).trans ((if_pos c2).trans (rfl)))).symm, zBk_self hb4.1⟩
  · refine j_ldc (v := (-1000001)) dX4_up_10 cX4_77 ?_
    refine j_iret dX4_up_12 rfl (rfl) ?_
    exact hQ _ _ ⟨congrArg some ((dUpV_eq hA hI).symm.trans ((if_pos c1).trans (rfl))).symm, zBk_self hb4.1⟩
set_option maxRecDepth 4000 in
set_option maxHeartbeats 2000000 in
theorem o_why {h : zH} {s pa tx : Nat → Int32} {n T : Nat} (hc : CH h s pa n tx T) (hM : aM s) {b : Int32} : zCT mX4_why [.ref 0, .int b] (215 + nz) h (215 + nz) (fun r h' => r = some (aWhy s b) ∧ h' = h) := by
  obtain ⟨π, V, P, f, nm, hq, hS, hH⟩ := hc
  have hI : aIa s (aNn s) (aWn s) := hM.1.1
  obtain ⟨Kn, hKn, hA⟩ := AT_of hS hI
  have hN := hA.1
  have hb4 := CQ_bk hq (i := 4) (by omega)
  have hb5 := CQ_bk hq (i := 5) (by omega)
  have hne : ¬ bs (π 5) = bs (π 4) := CQ_ne hq (by omega) (by omega) (by omega)
  have h45 : π 4 ≠ π 5 := fun e => hne (by rw [e])
  have hh5 : ∀ i, i < n → π i ≠ π 5 := fun i hi e => by
    have := hq.1.2 i 5 (by have := CQ_n4 hq; omega) (by omega) e
    have := CQ_n4 hq
    omega
  have hB := bs_B (π 4)
  have hL := hA.2.1.1 16 (by omega)
  have hP := hA.2.1
  intro X Q hQ
  show zJ X mX4_why (215 + nz) 0 [.ref 0, .int b] [] (215 + nz) h Q
  refine z_to (zBk_self hb4.1).symm ?_
  refine j_aload_n dX4_why_0 rfl ?_
  refine j_get (v := .ref (bs (π 4))) dX4_why_1 fX4_27 rfl (by first | decide | omega) ((congrFun (zb_lo hB (by omega)) _).trans ((CQ_rd hq 0 3).trans gO_now)) ?_
  refine j_iload_n dX4_why_4 rfl ?_
  refine k_callV1i dX4_why_5 vX4_why_73 (c_has hB hA hI) (aB_S0 hB) (aB_l0 hB) rfl (Nat.le_of_ble_eq_true rfl) ⟨rfl, rfl⟩ rfl ?_
  rintro _ _ ⟨⟨⟩, rfl⟩
  refine j_if_ne dX4_why_8 (tgt := 14) rfl (fun c1 => ?_) (fun c1 => ?_)
  · obtain ⟨k, hk, rfl, hb2⟩ := aIs_nat hI.1.1 hN.1 ‹¬ aIs s b = 0›
    refine j_aload_n dX4_why_14 rfl ?_
    refine j_get (v := .ref (bs (π 4))) dX4_why_15 fX4_27 rfl (by first | decide | omega) ((congrFun (zb_lo hB (by omega)) _).trans ((CQ_rd hq 0 3).trans gO_now)) ?_
    refine j_iload_n dX4_why_18 rfl ?_
    refine k_callV1i dX4_why_19 vX4_why_135 (c_bar hB hA hI (k := k) hk) (aB_S0 hB) (aB_l0 hB) rfl (Nat.le_of_ble_eq_true rfl) ⟨rfl, rfl⟩ rfl ?_
    rintro _ _ ⟨⟨⟩, rfl⟩
    refine j_iret dX4_why_22 rfl (rfl) ?_
    exact hQ _ _ ⟨congrArg some ((if_neg c1).trans ((by rw [hb2]))).symm, zBk_self hb4.1⟩
  · refine j_ldc (v := (-1000001)) dX4_why_11 cX4_77 ?_
    refine j_iret dX4_why_13 rfl (rfl) ?_
    exact hQ _ _ ⟨congrArg some ((if_pos c1).trans (rfl)).symm, zBk_self hb4.1⟩
def dWai (s : Nat → Int32) (q x : Int32) : Int32 := if q < 0 then -1000001 else if aIn x 0 1 = 0 then -1000001 else if q < s 200 then (if x = 0 then s (132 + 2 * q.toNatClampNeg) else s (133 + 2 * q.toNatClampNeg)) else -1000004
theorem dWai_eq {s : Nat → Int32} {q x : Int32} : dWai s q x = aWai s q x := by
  unfold dWai aWai
  by_cases h0 : q < 0
  · rw [if_pos h0, if_pos h0]
  · rw [if_neg h0, if_neg h0]
    by_cases h1 : aIn x 0 1 = 0
    · rw [if_pos h1, if_pos h1]
    · rw [if_neg h1, if_neg h1]
      obtain ⟨j, -, hj, rfl, hj2⟩ := aIn_nat (a := 0) (b := 1) (by omega) (by omega) h1
      by_cases h2 : s 200 ≤ q
      · rw [if_pos h2, if_neg (Int32.not_lt.mpr h2)]
      · rw [if_neg h2, if_pos (Int32.not_le.mp h2), hj2]
        rcases (show j = 0 ∨ j = 1 by omega) with rfl | rfl
        · rw [if_pos (show nI 0 = 0 from rfl)]
          rfl
        · rw [if_neg (show ¬ nI 1 = 0 by decide)]
          exact congrArg s (by omega)
def dBook (v : Nat → Nat → Int32) (p : Nat → Nat) (s : Nat → Int32) (q x : Int32) : Int32 := if q < 0 then -1000001 else if aIn x 0 4 = 0 then -1000001 else if q < s 210 then cTgQ v (p (8 + q.toNatClampNeg)) x.toNatClampNeg else -1000004
theorem dBook_eq {v : Nat → Nat → Int32} {p : Nat → Nat} {s : Nat → Int32} {N W K : Nat} (hA : AR v p s N W K) (hK : s 210 = nI K) {q x : Int32} : dBook v p s q x = aBook s q x := by
  unfold dBook aBook
  by_cases h0 : q < 0
  · rw [if_pos h0, if_pos h0]
  · rw [if_neg h0, if_neg h0]
    by_cases h1 : aIn x 0 4 = 0
    · rw [if_pos h1, if_pos h1]
    · rw [if_neg h1, if_neg h1]
      by_cases h2 : q < s 210
      · rw [if_pos h2, if_pos h2]
        obtain ⟨j, -, hj, rfl, hj2⟩ := aIn_nat (a := 0) (b := 4) (by omega) (by omega) h1
        obtain ⟨k, hk, rfl, hk2⟩ := z_lt_nat (W := K) (by have := hA.1; omega) h0 (by rw [← hK]; exact Int32.not_le.mpr h2)
        rw [hj2, hk2]
        exact cTg_s hA hk (by omega)
      · rw [if_neg h2, if_neg h2]
def dCnt (s : Nat → Int32) (N : Nat) (pa ty x : Int32) : Int32 := if x = 16 then pa else if x = 17 then ty else dTot s N x
theorem dCnt_eq {s : Nat → Int32} {N W : Nat} (hI : aIa s N W) {pa ty x : Int32} : dCnt s N pa ty x = aCnt s N pa ty x := by
  unfold dCnt aCnt dTot
  by_cases h : x.toInt < 0 ∨ 22 < x.toInt
  · rw [if_pos h, if_pos h, if_neg (fun e => by rw [e] at h; revert h; decide), if_neg (fun e => by rw [e] at h; revert h; decide)]
  · rw [if_neg h, if_neg h]
    obtain ⟨j, hj, rfl, hj2⟩ := z_sw (n := 22) (by omega) h
    rw [hj2]
    have hz := hI.2.2.2.2.2.1
    rcases (show j = 0 ∨ j = 1 ∨ j = 2 ∨ j = 3 ∨ j = 4 ∨ j = 5 ∨ j = 6 ∨ j = 7 ∨ j = 8 ∨ j = 9 ∨ j = 10 ∨ j = 11 ∨ j = 12 ∨ j = 13 ∨ j = 14 ∨ j = 15 ∨ j = 16 ∨ j = 17 ∨ j = 18 ∨ j = 19 ∨ j = 20 ∨ j = 21 ∨ j = 22 by omega) with rfl | rfl | rfl | rfl | rfl | rfl | rfl | rfl | rfl | rfl | rfl | rfl | rfl | rfl | rfl | rfl | rfl | rfl | rfl | rfl | rfl | rfl | rfl
    all_goals first | rfl | skip
    show (if s 148 = 0 then (0 : Int32) else 1) = s 148
    rcases hz with q | q <;> rw [q] <;> rfl
set_option maxRecDepth 4000 in
set_option maxHeartbeats 2000000 in
theorem o_waiting {h : zH} {s pa tx : Nat → Int32} {n T : Nat} (hc : CH h s pa n tx T) (hM : aM s) {q x : Int32} : zCT mX4_waiting [.ref 0, .int q, .int x] (215 + nz) h (215 + nz) (fun r h' => r = some (aWai s q x) ∧ h' = h) := by
  obtain ⟨π, V, P, f, nm, hq, hS, hH⟩ := hc
  have hI : aIa s (aNn s) (aWn s) := hM.1.1
  obtain ⟨Kn, hKn, hA⟩ := AT_of hS hI
  have hN := hA.1
  have hb4 := CQ_bk hq (i := 4) (by omega)
  have hb5 := CQ_bk hq (i := 5) (by omega)
  have hne : ¬ bs (π 5) = bs (π 4) := CQ_ne hq (by omega) (by omega) (by omega)
  have h45 : π 4 ≠ π 5 := fun e => hne (by rw [e])
  have hh5 : ∀ i, i < n → π i ≠ π 5 := fun i hi e => by
    have := hq.1.2 i 5 (by have := CQ_n4 hq; omega) (by omega) e
    have := CQ_n4 hq
    omega
  have hB := bs_B (π 4)
  have hL := hA.2.1.1 16 (by omega)
  have hP := hA.2.1
  intro X Q hQ
  show zJ X mX4_waiting (215 + nz) 0 [.ref 0, .int q, .int x, .null] [] (215 + nz) h Q
  refine z_to (zBk_self hb4.1).symm ?_
  refine j_iload_n dX4_waiting_0 rfl ?_
  refine j_if_lt dX4_waiting_1 (tgt := 13) rfl (fun c1 => ?_) (fun c1 => ?_)
  · refine j_ldc (v := (-1000001)) dX4_waiting_13 cX4_77 ?_
    refine j_iret dX4_waiting_15 rfl (rfl) ?_
    exact hQ _ _ ⟨congrArg some ((dWai_eq).symm.trans ((if_pos c1).trans (rfl))).symm, zBk_self hb4.1⟩
  · refine j_iload_n dX4_waiting_4 rfl ?_
    refine j_iconst (v := 0) dX4_waiting_5 (by first | decide | omega) ?_
    refine j_iconst (v := 1) dX4_waiting_6 (by first | decide | omega) ?_
    refine k_callS3i dX4_waiting_7 vX4_waiting_94 (c_in) rfl rfl rfl (Nat.le_of_ble_eq_true rfl) ⟨rfl, rfl⟩ rfl ?_
    rintro _ _ ⟨⟨⟩, rfl⟩
    refine j_if_ne dX4_waiting_10 (tgt := 16) rfl (fun c2 => ?_) (fun c2 => ?_)
    · refine j_iload_n dX4_waiting_16 rfl ?_
      refine j_aload_n dX4_waiting_17 rfl ?_
      refine j_get (v := .ref (bs (π 4))) dX4_waiting_18 fX4_27 rfl (by first | decide | omega) ((congrFun (zb_lo hB (by omega)) _).trans ((CQ_rd hq 0 3).trans gO_now)) ?_
      refine j_get (v := .int (s 200)) dX4_waiting_21 fX4_112 (aB_S0 hB) (aB_l0 hB) ((zb_int0 (by unfold tI; decide)).trans (congrArg Value.int (ar_s hA 0 6 (by first | decide | omega)))) ?_
      refine j_icmp_lt dX4_waiting_24 (tgt := 30) rfl (fun c3 => ?_) (fun c3 => ?_)
      · obtain ⟨k, hk, rfl, hb2⟩ := z_lt_nat (W := aWn s) (by omega) ‹¬ q < 0› (by rw [← hI.2.1.1]; exact Int32.not_le.mpr ‹q < s 200›)
        refine j_aload_n dX4_waiting_30 rfl ?_
        refine j_get (v := .ref (bs (π 4))) dX4_waiting_31 fX4_27 rfl (by first | decide | omega) ((congrFun (zb_lo hB (by omega)) _).trans ((CQ_rd hq 0 3).trans gO_now)) ?_
        refine j_get dX4_waiting_34 fX4_116 (aB_S0 hB) (aB_l0 hB) zb_p1 ?_
        refine j_iload_n dX4_waiting_37 rfl ?_
        refine k_aald (n := 8) (t := 2) (r := (bs (π 4) + (P (π 4)) k)) k dX4_waiting_38 (aB_S hB (by first | decide | omega)) (by first | decide | omega) (aB_lt hB (by first | decide | omega)) (by first | rfl | (simp only [z_n, pk_mul, nI_add]; done) | (simp only [z_n, pk_mul, nI_add]; exact pk_sub (by omega)) | (simp only [z_n, pk_mul, nI_add, pk_sub, *]; done)) (by omega) (by first | decide | omega) (zb_qu (by omega)) ?_
        refine j_astore_n dX4_waiting_39 (by first | decide | omega) ?_
        refine j_iload_n dX4_waiting_40 rfl ?_
        refine j_if_ne dX4_waiting_41 (tgt := 51) rfl (fun c4 => ?_) (fun c4 => ?_)
        · refine j_aload_n dX4_waiting_51 rfl ?_
          refine j_get (v := .int (s (133 + 2 * k))) dX4_waiting_52 fX4_123 (aB_SL hB (hP.1 k (by omega))) (aB_lt hB (aL_lt (hP.1 k (by omega)))) ((zb_int (tI_L (hP.1 k (by omega)))).trans (congrArg Value.int (ar_q hA hk).2.1)) ?_
          refine j_iret dX4_waiting_55 rfl (rfl) ?_
          exact hQ _ _ ⟨congrArg some ((dWai_eq).symm.trans ((if_neg c1).trans ((if_neg c2).trans ((if_pos c3).trans ((by rw [hb2]; exact ((if_neg c4).trans (rfl)))))))).symm, zBk_self hb4.1⟩
        · refine j_aload_n dX4_waiting_44 rfl ?_
          refine j_get (v := .int (s (132 + 2 * k))) dX4_waiting_45 fX4_120 (aB_SL hB (hP.1 k (by omega))) (aB_lt hB (aL_lt (hP.1 k (by omega)))) ((zb_int (tI_L (hP.1 k (by omega)))).trans (congrArg Value.int (ar_q hA hk).1)) ?_
          refine j_goto dX4_waiting_48 (tgt := 55) rfl ?_
          refine j_iret dX4_waiting_55 rfl (rfl) ?_
          exact hQ _ _ ⟨congrArg some ((dWai_eq).symm.trans ((if_neg c1).trans ((if_neg c2).trans ((if_pos c3).trans ((by rw [hb2]; exact ((if_pos c4).trans (rfl)))))))).symm, zBk_self hb4.1⟩
      · refine j_ldc (v := (-1000004)) dX4_waiting_27 cX4_115 ?_
        refine j_iret dX4_waiting_29 rfl (rfl) ?_
        exact hQ _ _ ⟨congrArg some ((dWai_eq).symm.trans ((if_neg c1).trans ((if_neg c2).trans ((if_neg c3).trans (rfl))))).symm, zBk_self hb4.1⟩
    · refine j_ldc (v := (-1000001)) dX4_waiting_13 cX4_77 ?_
      refine j_iret dX4_waiting_15 rfl (rfl) ?_
      exact hQ _ _ ⟨congrArg some ((dWai_eq).symm.trans ((if_neg c1).trans ((if_pos c2).trans (rfl)))).symm, zBk_self hb4.1⟩
set_option maxRecDepth 4000 in
set_option maxHeartbeats 2000000 in
theorem o_book {h : zH} {s pa tx : Nat → Int32} {n T : Nat} (hc : CH h s pa n tx T) (hM : aM s) {q x : Int32} : zCT mX4_book [.ref 0, .int q, .int x] (215 + nz) h (215 + nz) (fun r h' => r = some (aBook s q x) ∧ h' = h) := by
  obtain ⟨π, V, P, f, nm, hq, hS, hH⟩ := hc
  have hI : aIa s (aNn s) (aWn s) := hM.1.1
  obtain ⟨Kn, hKn, hA⟩ := AT_of hS hI
  have hN := hA.1
  have hb4 := CQ_bk hq (i := 4) (by omega)
  have hb5 := CQ_bk hq (i := 5) (by omega)
  have hne : ¬ bs (π 5) = bs (π 4) := CQ_ne hq (by omega) (by omega) (by omega)
  have h45 : π 4 ≠ π 5 := fun e => hne (by rw [e])
  have hh5 : ∀ i, i < n → π i ≠ π 5 := fun i hi e => by
    have := hq.1.2 i 5 (by have := CQ_n4 hq; omega) (by omega) e
    have := CQ_n4 hq
    omega
  have hB := bs_B (π 4)
  have hL := hA.2.1.1 16 (by omega)
  have hP := hA.2.1
  intro X Q hQ
  show zJ X mX4_book (215 + nz) 0 [.ref 0, .int q, .int x] [] (215 + nz) h Q
  refine z_to (zBk_self hb4.1).symm ?_
  refine j_iload_n dX4_book_0 rfl ?_
  refine j_if_lt dX4_book_1 (tgt := 13) rfl (fun c1 => ?_) (fun c1 => ?_)
  · refine j_ldc (v := (-1000001)) dX4_book_13 cX4_77 ?_
    refine j_iret dX4_book_15 rfl (rfl) ?_
    exact hQ _ _ ⟨congrArg some ((dBook_eq hA hKn).symm.trans ((if_pos c1).trans (rfl))).symm, zBk_self hb4.1⟩
  · refine j_iload_n dX4_book_4 rfl ?_
    refine j_iconst (v := 0) dX4_book_5 (by first | decide | omega) ?_
    refine j_iconst (v := 4) dX4_book_6 (by first | decide | omega) ?_
    refine k_callS3i dX4_book_7 vX4_book_94 (c_in) rfl rfl rfl (Nat.le_of_ble_eq_true rfl) ⟨rfl, rfl⟩ rfl ?_
    rintro _ _ ⟨⟨⟩, rfl⟩
    refine j_if_ne dX4_book_10 (tgt := 16) rfl (fun c2 => ?_) (fun c2 => ?_)
    · refine j_iload_n dX4_book_16 rfl ?_
      refine j_aload_n dX4_book_17 rfl ?_
      refine j_get (v := .ref (bs (π 4))) dX4_book_18 fX4_27 rfl (by first | decide | omega) ((congrFun (zb_lo hB (by omega)) _).trans ((CQ_rd hq 0 3).trans gO_now)) ?_
      refine j_get (v := .int (s 210)) dX4_book_21 fX4_126 (aB_S0 hB) (aB_l0 hB) ((zb_int0 (by unfold tI; decide)).trans (congrArg Value.int (ar_s hA 0 7 (by first | decide | omega)))) ?_
      refine j_icmp_lt dX4_book_24 (tgt := 30) rfl (fun c3 => ?_) (fun c3 => ?_)
      · obtain ⟨k, hk, rfl, hb2⟩ := z_lt_nat (W := Kn) (by omega) ‹¬ q < 0› (by rw [← hKn]; exact Int32.not_le.mpr ‹q < s 210›)
        obtain ⟨j, -, hj, rfl, hj2⟩ := aIn_nat (a := 0) (b := 4) (by omega) (by omega) ‹¬ aIn x 0 4 = 0›
        refine j_aload_n dX4_book_30 rfl ?_
        refine j_get (v := .ref (bs (π 4))) dX4_book_31 fX4_27 rfl (by first | decide | omega) ((congrFun (zb_lo hB (by omega)) _).trans ((CQ_rd hq 0 3).trans gO_now)) ?_
        refine j_get dX4_book_34 fX4_129 (aB_S0 hB) (aB_l0 hB) zb_p2 ?_
        refine j_iload_n dX4_book_37 rfl ?_
        refine k_aald (n := 8) (t := 2) (r := (bs (π 4) + (P (π 4)) (8 + k))) k dX4_book_38 (aB_S hB (by first | decide | omega)) (by first | decide | omega) (aB_lt hB (by first | decide | omega)) (by first | rfl | (simp only [z_n, pk_mul, nI_add]; done) | (simp only [z_n, pk_mul, nI_add]; exact pk_sub (by omega)) | (simp only [z_n, pk_mul, nI_add, pk_sub, *]; done)) (by omega) (by first | decide | omega) (zb_go (by omega)) ?_
        refine j_iload_n dX4_book_39 rfl ?_
        refine k_callV1i dX4_book_40 vX4_book_132 (c_tellGone hB (hP.1 _ (by omega)) (by omega)) (aB_SL hB (hP.1 _ (by omega))) (aB_lt hB (aL_lt (hP.1 _ (by omega)))) rfl (Nat.le_of_ble_eq_true rfl) ⟨rfl, rfl⟩ rfl ?_
        rintro _ _ ⟨⟨⟩, rfl⟩
        refine j_iret dX4_book_43 rfl (rfl) ?_
        exact hQ _ _ ⟨congrArg some ((dBook_eq hA hKn).symm.trans ((if_neg c1).trans ((if_neg c2).trans ((if_pos c3).trans ((by rw [hb2, hj2])))))).symm, zBk_self hb4.1⟩
      · refine j_ldc (v := (-1000004)) dX4_book_27 cX4_115 ?_
        refine j_iret dX4_book_29 rfl (rfl) ?_
        exact hQ _ _ ⟨congrArg some ((dBook_eq hA hKn).symm.trans ((if_neg c1).trans ((if_neg c2).trans ((if_neg c3).trans (rfl))))).symm, zBk_self hb4.1⟩
    · refine j_ldc (v := (-1000001)) dX4_book_13 cX4_77 ?_
      refine j_iret dX4_book_15 rfl (rfl) ?_
      exact hQ _ _ ⟨congrArg some ((dBook_eq hA hKn).symm.trans ((if_neg c1).trans ((if_pos c2).trans (rfl)))).symm, zBk_self hb4.1⟩
set_option maxRecDepth 4000 in
set_option maxHeartbeats 2000000 in
theorem o_count {h : zH} {s pa tx : Nat → Int32} {n T : Nat} (hc : CH h s pa n tx T) (hM : aM s) {x : Int32} : zCT mX4_count [.ref 0, .int x] (215 + nz) h (215 + nz) (fun r h' => r = some (aCnt s (aNn s) (nI n) (nI T) x) ∧ h' = h) := by
  obtain ⟨π, V, P, f, nm, hq, hS, hH⟩ := hc
  have hI : aIa s (aNn s) (aWn s) := hM.1.1
  obtain ⟨Kn, hKn, hA⟩ := AT_of hS hI
  have hN := hA.1
  have hb4 := CQ_bk hq (i := 4) (by omega)
  have hb5 := CQ_bk hq (i := 5) (by omega)
  have hne : ¬ bs (π 5) = bs (π 4) := CQ_ne hq (by omega) (by omega) (by omega)
  have h45 : π 4 ≠ π 5 := fun e => hne (by rw [e])
  have hh5 : ∀ i, i < n → π i ≠ π 5 := fun i hi e => by
    have := hq.1.2 i 5 (by have := CQ_n4 hq; omega) (by omega) e
    have := CQ_n4 hq
    omega
  have hB := bs_B (π 4)
  have hL := hA.2.1.1 16 (by omega)
  have hP := hA.2.1
  have hn4 := CQ_n4 hq
  rw [← dCnt_eq hI]
  intro X Q hQ
  show zJ X mX4_count (215 + nz) 0 [.ref 0, .int x] [] (215 + nz) h Q
  refine z_to (zBk_self hb4.1).symm ?_
  refine j_iload_n dX4_count_0 rfl ?_
  by_cases h16 : x = 16
  · subst h16
    refine j_lookup dX4_count_1 (off := 27) (tgt := 28) (by first | decide | omega) (by first | decide | omega) rfl ?_
    refine j_aload_n dX4_count_28 rfl ?_
    refine j_get (v := .int (nI n)) dX4_count_29 fX4_23 rfl (by first | decide | omega) ((congrFun (zb_lo hB (by omega)) _).trans ((CQ_rd hq 0 2).trans gO_n)) ?_
    refine j_iret dX4_count_32 rfl (rfl) ?_
    exact hQ _ _ ⟨congrArg some (if_pos rfl).symm, zBk_self hb4.1⟩
  by_cases h17 : x = 17
  · subst h17
    refine j_lookup dX4_count_1 (off := 32) (tgt := 33) (by first | decide | omega) (by first | decide | omega) rfl ?_
    refine j_aload_n dX4_count_33 rfl ?_
    refine j_get (v := .ref 142) dX4_count_34 fX4_19 rfl (by first | decide | omega) ((congrFun (zb_lo hB (by omega)) _).trans ((CQ_rd hq 0 1).trans gO_1)) ?_
    refine j_get (v := .int (nI T)) dX4_count_37 fX4_178 rfl (by first | decide | omega) ((congrFun (zb_lo hB (by omega)) 2).trans ((congrFun (congrFun hq.2.2.2.2.1.symm 142) 2).trans ((x_f (by first | decide | omega)).trans (congrArg Value.int hq.2.2.2.2.2.1)))) ?_
    refine j_iret dX4_count_40 rfl (rfl) ?_
    exact hQ _ _ ⟨congrArg some ((if_neg h16).trans (if_pos rfl)).symm, zBk_self hb4.1⟩
  · refine j_lookup dX4_count_1 (off := 40) (tgt := 41) (by first | decide | omega) ?_ rfl ?_
    · show Op.lookupswitch.offset [(16, 27), (17, 32)] 40 _ = _
      rw [Op.lookupswitch.offset_cons, if_neg (fun e => h16 (Int32.toInt_inj.mp e.symm)), Op.lookupswitch.offset_cons, if_neg (fun e => h17 (Int32.toInt_inj.mp e.symm))]
      rfl
    refine j_aload_n dX4_count_41 rfl ?_
    refine j_get (v := .ref (bs (π 4))) dX4_count_42 fX4_27 rfl (by first | decide | omega) ((congrFun (zb_lo hB (by omega)) _).trans ((CQ_rd hq 0 3).trans gO_now)) ?_
    refine j_iload_n dX4_count_45 rfl ?_
    refine k_callV1i dX4_count_46 vX4_count_181 (c_total hB hA hI) (aB_S0 hB) (aB_l0 hB) rfl (Nat.le_of_ble_eq_true rfl) ⟨rfl, rfl⟩ rfl ?_
    rintro _ _ ⟨⟨⟩, rfl⟩
    refine j_iret dX4_count_49 rfl (rfl) ?_
    exact hQ _ _ ⟨congrArg some ((if_neg h16).trans (if_neg h17)).symm, zBk_self hb4.1⟩
set_option maxRecDepth 4000 in
set_option maxHeartbeats 2000000 in
theorem o_coughing_lp {h : zH} {s tx : Nat → Int32} {n0 T : Nat} {π : Nat → Nat} {V : Nat → Nat → Nat → Int32} {P : Nat → Nat → Nat} {f nm : Nat → Int32} {N W K : Nat} (hq : CQ h π V P f nm n0 tx T) (hA : AR (V (π 4)) (P (π 4)) s N W K) (hI : aIa s N W) {X : Nat × (Nat → Int32)} {Q : zQt} : ∀ (n k : Nat) (a : Nat), k + n = N → (∀ r h', r = some (nI (aCs s n k a)) ∧ h' = gAu h (bs (π 4)) (V (π 4)) (P (π 4)) → Q r (215 + nz) h') → zJ X mX4_coughing (215 + nz) 4 [.ref 0, .int (nI a), .int (nI k)] [] (215 + nz) (gAu h (bs (π 4)) (V (π 4)) (P (π 4))) Q := by
  have hN := hA.1
  have hB := bs_B (π 4)
  intro n
  induction n with
  | zero =>
    intro k a hk hQ
    refine j_iload_n dX4_coughing_4 rfl ?_
    refine j_aload_n dX4_coughing_5 rfl ?_
    refine j_get (v := .ref (bs (π 4))) dX4_coughing_6 fX4_27 rfl (by first | decide | omega) ((congrFun (zb_lo hB (by omega)) _).trans ((CQ_rd hq 0 3).trans gO_now)) ?_
    refine j_get (v := .int (s 199)) dX4_coughing_9 fX4_154 (aB_S0 hB) (aB_l0 hB) ((zb_int0 (by unfold tI; decide)).trans (congrArg Value.int (ar_s hA 0 5 (by first | decide | omega)))) ?_
    refine j_icmp_ge dX4_coughing_12 (tgt := 38) rfl (fun _ => ?_) (fun c1 => absurd (show s 199 ≤ nI k by rw [hI.1.1]; exact nI_le (by omega) (by omega)) c1)
    refine j_iload_n dX4_coughing_38 rfl ?_
    refine j_iret dX4_coughing_39 rfl (rfl) ?_
    exact hQ _ _ ⟨rfl, rfl⟩
  | succ n ih =>
    intro k a hk hQ
    refine j_iload_n dX4_coughing_4 rfl ?_
    refine j_aload_n dX4_coughing_5 rfl ?_
    refine j_get (v := .ref (bs (π 4))) dX4_coughing_6 fX4_27 rfl (by first | decide | omega) ((congrFun (zb_lo hB (by omega)) _).trans ((CQ_rd hq 0 3).trans gO_now)) ?_
    refine j_get (v := .int (s 199)) dX4_coughing_9 fX4_154 (aB_S0 hB) (aB_l0 hB) ((zb_int0 (by unfold tI; decide)).trans (congrArg Value.int (ar_s hA 0 5 (by first | decide | omega)))) ?_
    refine j_icmp_ge dX4_coughing_12 (tgt := 38) rfl (fun c1 => absurd c1 (show ¬ s 199 ≤ nI k by rw [hI.1.1]; exact nI_ge (by omega) (by omega))) (fun _ => ?_)
    refine j_aload_n dX4_coughing_15 rfl ?_
    refine j_get (v := .ref (bs (π 4))) dX4_coughing_16 fX4_27 rfl (by first | decide | omega) ((congrFun (zb_lo hB (by omega)) _).trans ((CQ_rd hq 0 3).trans gO_now)) ?_
    refine j_iload_n dX4_coughing_19 rfl ?_
    refine k_callV1i dX4_coughing_20 vX4_coughing_157 (c_next hB hA hI (k := k) (by omega)) (aB_S0 hB) (aB_l0 hB) rfl (Nat.le_of_ble_eq_true rfl) ⟨rfl, rfl⟩ rfl ?_
    rintro _ _ ⟨⟨⟩, rfl⟩
    refine j_if_eq dX4_coughing_23 (tgt := 32) rfl (fun c2 => ?_) (fun c2 => ?_)
    · refine j_iinc (v := nI (k + 1)) dX4_coughing_32 rfl z_inc (by first | decide | omega) ?_
      refine j_goto dX4_coughing_35 (tgt := 4) rfl ?_
      exact ih (k + 1) _ (by omega) (fun r h' h => hQ r h' ⟨h.1.trans (congrArg (fun a => some (nI a)) ((if_pos c2).trans (rfl) : aCs s (n + 1) k a = _).symm), h.2⟩)
    · refine j_iload_n dX4_coughing_26 rfl ?_
      refine j_iconst (v := 1) dX4_coughing_27 (by first | decide | omega) ?_
      refine j_iload_n dX4_coughing_28 rfl ?_
      refine j_ishl dX4_coughing_29 ?_
      refine j_ior dX4_coughing_30 ?_
      rw [z_or1 (by omega)]
      refine j_istore_n dX4_coughing_31 (by first | decide | omega) ?_
      refine j_iinc (v := nI (k + 1)) dX4_coughing_32 rfl z_inc (by first | decide | omega) ?_
      refine j_goto dX4_coughing_35 (tgt := 4) rfl ?_
      exact ih (k + 1) _ (by omega) (fun r h' h => hQ r h' ⟨h.1.trans (congrArg (fun a => some (nI a)) ((if_neg c2).trans (rfl) : aCs s (n + 1) k a = _).symm), h.2⟩)
set_option maxRecDepth 4000 in
set_option maxHeartbeats 2000000 in
theorem o_coughing {h : zH} {s pa tx : Nat → Int32} {n T : Nat} (hc : CH h s pa n tx T) (hM : aM s)  : zCT mX4_coughing [.ref 0] (215 + nz) h (215 + nz) (fun r h' => r = some (nI (aCs s (aNn s) 0 0)) ∧ h' = h) := by
  obtain ⟨π, V, P, f, nm, hq, hS, hH⟩ := hc
  have hI : aIa s (aNn s) (aWn s) := hM.1.1
  obtain ⟨Kn, hKn, hA⟩ := AT_of hS hI
  have hN := hA.1
  have hb4 := CQ_bk hq (i := 4) (by omega)
  have hb5 := CQ_bk hq (i := 5) (by omega)
  have hne : ¬ bs (π 5) = bs (π 4) := CQ_ne hq (by omega) (by omega) (by omega)
  have h45 : π 4 ≠ π 5 := fun e => hne (by rw [e])
  have hh5 : ∀ i, i < n → π i ≠ π 5 := fun i hi e => by
    have := hq.1.2 i 5 (by have := CQ_n4 hq; omega) (by omega) e
    have := CQ_n4 hq
    omega
  have hB := bs_B (π 4)
  have hL := hA.2.1.1 16 (by omega)
  have hP := hA.2.1
  intro X Q hQ
  show zJ X mX4_coughing (215 + nz) 0 [.ref 0, .null, .null] [] (215 + nz) h Q
  refine z_to (zBk_self hb4.1).symm ?_
  refine j_iconst (v := 0) dX4_coughing_0 (by first | decide | omega) ?_
  refine j_istore_n dX4_coughing_1 (by first | decide | omega) ?_
  refine j_iconst (v := 0) dX4_coughing_2 (by first | decide | omega) ?_
  refine j_istore_n dX4_coughing_3 (by first | decide | omega) ?_
  exact o_coughing_lp hq hA hI (aNn s) 0 0 (by omega) (fun r h' q => hQ r h' ⟨q.1, q.2.trans (zBk_self hb4.1)⟩)
def dLd (s : Nat → Int32) : Nat → Nat → Int32 → Int32 → Int32
  | 0, _, b, _ => b
  | n + 1, k, b, m => if b = -1000004 then dLd s n (k + 1) (nI k) (aLoud s k) else if aLoud s k ≤ m then dLd s n (k + 1) b m else dLd s n (k + 1) (nI k) (aLoud s k)
theorem dLd_eq {s : Nat → Int32} : ∀ (n k : Nat) (b m : Int32), k + n ≤ 12 → ((b = -1000004) ∨ ∃ j, j < 12 ∧ b = nI j ∧ m = aLoud s j) → dLd s n k b m = aLd s n k b
  | 0, _, _, _, _, _ => rfl
  | n + 1, k, b, m, hk, hb => by
    unfold dLd aLd
    rcases hb with rfl | ⟨j, hj, rfl, rfl⟩
    · rw [if_pos rfl, if_pos (by first | decide | omega)]
      exact dLd_eq n (k + 1) _ _ (by omega) (Or.inr ⟨k, by omega, rfl, rfl⟩)
    · have hn : ¬ nI j = -1000004 := fun q => by
        have e9 := congrArg Int32.toInt q
        rw [nI_toInt (by omega)] at e9
        have e8 : (-1000004 : Int32).toInt = -1000004 := by decide
        omega
      rw [if_neg hn, if_neg (show ¬ nI j < 0 from nI_nlt (a := j) (b := 0) (by omega) (by omega)), z_cl (by omega)]
      by_cases h2 : aLoud s k ≤ aLoud s j
      · rw [if_pos h2, if_pos h2]
        exact dLd_eq n (k + 1) _ _ (by omega) (Or.inr ⟨j, hj, rfl, rfl⟩)
      · rw [if_neg h2, if_neg h2]
        exact dLd_eq n (k + 1) _ _ (by omega) (Or.inr ⟨k, by omega, rfl, rfl⟩)
set_option maxRecDepth 4000 in
set_option maxHeartbeats 2000000 in
theorem o_loudest_lp {h : zH} {s tx : Nat → Int32} {n0 T : Nat} {π : Nat → Nat} {V : Nat → Nat → Nat → Int32} {P : Nat → Nat → Nat} {f nm : Nat → Int32} {N W K : Nat} (hq : CQ h π V P f nm n0 tx T) (hA : AR (V (π 4)) (P (π 4)) s N W K) (hI : aIa s N W) {X : Nat × (Nat → Int32)} {Q : zQt} : ∀ (n k : Nat) (b m : Int32) (y : Value), k + n = N → (∀ r h', r = some (dLd s n k b m) ∧ h' = gAu h (bs (π 4)) (V (π 4)) (P (π 4)) → Q r (215 + nz) h') → zJ X mX4_loudest (215 + nz) 7 [.ref 0, .int b, .int m, .int (nI k), y] [] (215 + nz) (gAu h (bs (π 4)) (V (π 4)) (P (π 4))) Q := by
  have hN := hA.1
  have hB := bs_B (π 4)
  intro n
  induction n with
  | zero =>
    intro k b m y hk hQ
    refine j_iload_n dX4_loudest_7 rfl ?_
    refine j_aload_n dX4_loudest_8 rfl ?_
    refine j_get (v := .ref (bs (π 4))) dX4_loudest_9 fX4_27 rfl (by first | decide | omega) ((congrFun (zb_lo hB (by omega)) _).trans ((CQ_rd hq 0 3).trans gO_now)) ?_
    refine j_get (v := .int (s 199)) dX4_loudest_12 fX4_154 (aB_S0 hB) (aB_l0 hB) ((zb_int0 (by unfold tI; decide)).trans (congrArg Value.int (ar_s hA 0 5 (by first | decide | omega)))) ?_
    refine j_icmp_ge dX4_loudest_15 (tgt := 55) rfl (fun _ => ?_) (fun c1 => absurd (show s 199 ≤ nI k by rw [hI.1.1]; exact nI_le (by omega) (by omega)) c1)
    refine j_iload_n dX4_loudest_55 rfl ?_
    refine j_iret dX4_loudest_56 rfl (rfl) ?_
    exact hQ _ _ ⟨rfl, rfl⟩
  | succ n ih =>
    intro k b m y hk hQ
    refine j_iload_n dX4_loudest_7 rfl ?_
    refine j_aload_n dX4_loudest_8 rfl ?_
    refine j_get (v := .ref (bs (π 4))) dX4_loudest_9 fX4_27 rfl (by first | decide | omega) ((congrFun (zb_lo hB (by omega)) _).trans ((CQ_rd hq 0 3).trans gO_now)) ?_
    refine j_get (v := .int (s 199)) dX4_loudest_12 fX4_154 (aB_S0 hB) (aB_l0 hB) ((zb_int0 (by unfold tI; decide)).trans (congrArg Value.int (ar_s hA 0 5 (by first | decide | omega)))) ?_
    refine j_icmp_ge dX4_loudest_15 (tgt := 55) rfl (fun c1 => absurd c1 (show ¬ s 199 ≤ nI k by rw [hI.1.1]; exact nI_ge (by omega) (by omega))) (fun _ => ?_)
    refine j_aload_n dX4_loudest_18 rfl ?_
    refine j_get (v := .ref (bs (π 4))) dX4_loudest_19 fX4_27 rfl (by first | decide | omega) ((congrFun (zb_lo hB (by omega)) _).trans ((CQ_rd hq 0 3).trans gO_now)) ?_
    refine j_get dX4_loudest_22 fX4_78 (aB_S0 hB) (aB_l0 hB) zb_p0 ?_
    refine j_iload_n dX4_loudest_25 rfl ?_
    refine k_aald (n := 12) (t := 1) (r := (bs (π 4) + (2 + k))) k dX4_loudest_26 (aB_S hB (by first | decide | omega)) (by first | decide | omega) (aB_lt hB (by first | decide | omega)) (by first | rfl | (simp only [z_n, pk_mul, nI_add]; done) | (simp only [z_n, pk_mul, nI_add]; exact pk_sub (by omega)) | (simp only [z_n, pk_mul, nI_add, pk_sub, *]; done)) (by omega) (by first | decide | omega) (zb_bd) ?_
    refine k_callV0i dX4_loudest_27 vX4_loudest_160 (d_loud hB hA hI (k := k) (by omega)) (aB_Sb hB (by omega)) (aB_lt hB (by omega))  (Nat.le_of_ble_eq_true rfl) ⟨rfl, rfl⟩ rfl ?_
    rintro _ _ ⟨⟨⟩, rfl⟩
    refine j_istore dX4_loudest_30 (by first | decide | omega) ?_
    refine j_iload_n dX4_loudest_32 rfl ?_
    refine j_ldc (v := (-1000004)) dX4_loudest_33 cX4_115 ?_
    refine j_icmp_eq dX4_loudest_35 (tgt := 44) rfl (fun c2 => ?_) (fun c2 => ?_)
    · refine j_iload_n dX4_loudest_44 rfl ?_
      refine j_istore_n dX4_loudest_45 (by first | decide | omega) ?_
      refine j_iload dX4_loudest_46 rfl ?_
      refine j_istore_n dX4_loudest_48 (by first | decide | omega) ?_
      refine j_iinc (v := nI (k + 1)) dX4_loudest_49 rfl z_inc (by first | decide | omega) ?_
      refine j_goto dX4_loudest_52 (tgt := 7) rfl ?_
      exact ih (k + 1) _ _ _ (by omega) (fun r h' h => hQ r h' ⟨h.1.trans (congrArg some ((if_pos c2).trans (rfl) : dLd s (n + 1) k b m = _).symm), h.2⟩)
    · refine j_iload dX4_loudest_38 rfl ?_
      refine j_iload_n dX4_loudest_40 rfl ?_
      refine j_icmp_le dX4_loudest_41 (tgt := 49) rfl (fun c3 => ?_) (fun c3 => ?_)
      · refine j_iinc (v := nI (k + 1)) dX4_loudest_49 rfl z_inc (by first | decide | omega) ?_
        refine j_goto dX4_loudest_52 (tgt := 7) rfl ?_
        exact ih (k + 1) _ _ _ (by omega) (fun r h' h => hQ r h' ⟨h.1.trans (congrArg some ((if_neg c2).trans ((if_pos c3).trans (rfl)) : dLd s (n + 1) k b m = _).symm), h.2⟩)
      · refine j_iload_n dX4_loudest_44 rfl ?_
        refine j_istore_n dX4_loudest_45 (by first | decide | omega) ?_
        refine j_iload dX4_loudest_46 rfl ?_
        refine j_istore_n dX4_loudest_48 (by first | decide | omega) ?_
        refine j_iinc (v := nI (k + 1)) dX4_loudest_49 rfl z_inc (by first | decide | omega) ?_
        refine j_goto dX4_loudest_52 (tgt := 7) rfl ?_
        exact ih (k + 1) _ _ _ (by omega) (fun r h' h => hQ r h' ⟨h.1.trans (congrArg some ((if_neg c2).trans ((if_neg c3).trans (rfl)) : dLd s (n + 1) k b m = _).symm), h.2⟩)
set_option maxRecDepth 4000 in
set_option maxHeartbeats 2000000 in
theorem o_loudest {h : zH} {s pa tx : Nat → Int32} {n T : Nat} (hc : CH h s pa n tx T) (hM : aM s)  : zCT mX4_loudest [.ref 0] (215 + nz) h (215 + nz) (fun r h' => r = some (aLd s (aNn s) 0 (-1000004)) ∧ h' = h) := by
  obtain ⟨π, V, P, f, nm, hq, hS, hH⟩ := hc
  have hI : aIa s (aNn s) (aWn s) := hM.1.1
  obtain ⟨Kn, hKn, hA⟩ := AT_of hS hI
  have hN := hA.1
  have hb4 := CQ_bk hq (i := 4) (by omega)
  have hb5 := CQ_bk hq (i := 5) (by omega)
  have hne : ¬ bs (π 5) = bs (π 4) := CQ_ne hq (by omega) (by omega) (by omega)
  have h45 : π 4 ≠ π 5 := fun e => hne (by rw [e])
  have hh5 : ∀ i, i < n → π i ≠ π 5 := fun i hi e => by
    have := hq.1.2 i 5 (by have := CQ_n4 hq; omega) (by omega) e
    have := CQ_n4 hq
    omega
  have hB := bs_B (π 4)
  have hL := hA.2.1.1 16 (by omega)
  have hP := hA.2.1
  intro X Q hQ
  show zJ X mX4_loudest (215 + nz) 0 [.ref 0, .null, .null, .null, .null] [] (215 + nz) h Q
  refine z_to (zBk_self hb4.1).symm ?_
  refine j_ldc (v := (-1000004)) dX4_loudest_0 cX4_115 ?_
  refine j_istore_n dX4_loudest_2 (by first | decide | omega) ?_
  refine j_iconst (v := 0) dX4_loudest_3 (by first | decide | omega) ?_
  refine j_istore_n dX4_loudest_4 (by first | decide | omega) ?_
  refine j_iconst (v := 0) dX4_loudest_5 (by first | decide | omega) ?_
  refine j_istore_n dX4_loudest_6 (by first | decide | omega) ?_
  refine o_loudest_lp hq hA hI (aNn s) 0 _ _ _ (by omega) (fun r h' q => hQ r h' ⟨?_, q.2.trans (zBk_self hb4.1)⟩)
  rw [← dLd_eq (s := s) (aNn s) 0 (-1000004) 0 (by omega) (Or.inl rfl)]
  exact q.1
