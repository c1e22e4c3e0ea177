variable {nz : Nat}
-- the class's calls that change
theorem o_fin {h : zH} {s pa tx : Nat → Int32} {n T : Nat} {q : Int32 × Bool × (Nat → Int32)} (hk : aOkQ s q) (hc : if q.1 < 0 then CH h s pa n tx T else CH h q.2.2 (aPa pa n s) (aPn n) tx T) : CH h q.2.2 (cond q.2.1 (aPa pa n s) pa) (cond q.2.1 (aPn n) n) tx T := by
  by_cases hb : q.2.1 = true
  · rw [hb]
    rw [if_neg (hk.2.1 hb)] at hc
    exact hc
  · have hf : q.2.1 = false := by
      cases h : q.2.1
      · rfl
      · exact absurd h hb
    rw [hf, (hk.1 hf).2]
    rw [if_pos (hk.1 hf).1] at hc
    exact hc
set_option maxRecDepth 4000 in
set_option maxHeartbeats 2000000 in
theorem o_bidder {h : zH} {s pa tx : Nat → Int32} {n T : Nat} (hc : CH h s pa n tx T) (hM : aM s) {a1 a2 a3 a4 : Int32} : zCT mX4_bidder [.ref 0, .int a1, .int a2, .int a3, .int a4] (215 + nz) h (215 + nz) (fun r h' => r = some (aBidder s (aNn s) a1 a2 a3 a4).1 ∧ (∀ x, 215 ≤ x → h' x = h x) ∧ CH h' (aBidder s (aNn s) a1 a2 a3 a4).2.2 (cond (aBidder s (aNn s) a1 a2 a3 a4).2.1 (aPa pa n s) pa) (cond (aBidder s (aNn s) a1 a2 a3 a4).2.1 (aPn n) n) tx T) := by
  obtain ⟨π, V, P, f, nm, hq, hS, hH⟩ := hc
  have hI : aIa s (aNn s) (aWn s) := hM.1.1
  obtain ⟨Kn, hKn, hA⟩ := AT_of hS hI
  have hN := hA.1
  have hb4 := CQ_bk hq (i := 4) (by omega)
  have hb5 := CQ_bk hq (i := 5) (by omega)
  have hne : ¬ bs (π 5) = bs (π 4) := CQ_ne hq (by omega) (by omega) (by omega)
  have h45 : π 4 ≠ π 5 := fun e => hne (by rw [e])
  have hh5 : ∀ i, i < n → π i ≠ π 5 := fun i hi e => by
    have := hq.1.2 i 5 (by have := CQ_n4 hq; omega) (by omega) e
    have := CQ_n4 hq
    omega
  intro X Q hQ
  show zJ X mX4_bidder (215 + nz) 0 [.ref 0, .int a1, .int a2, .int a3, .int a4] [] (215 + nz) h Q
  refine j_aload_n dX4_bidder_0 rfl ?_
  refine j_get (v := .ref (bs (π 5))) dX4_bidder_1 fX4_31 rfl (by first | decide | omega) ((CQ_rd hq 0 4).trans gO_tri) ?_
  refine j_aload_n dX4_bidder_4 rfl ?_
  refine j_get (v := .ref (bs (π 4))) dX4_bidder_5 fX4_27 rfl (by first | decide | omega) ((CQ_rd hq 0 3).trans gO_now) ?_
  refine z_to (zBk_self hb5.1).symm ?_
  refine k_callV1v dX4_bidder_8 vX4_bidder_34 (c_copy (bs_B _) (bs_B _) hne hb4.1 hb5.2.1 hb5.2.2 hA hI hKn) (aB_S0 (bs_B _)) (aB_l0 (bs_B _)) rfl (Nat.le_of_ble_eq_true rfl) ⟨rfl, rfl⟩ rfl ?_
  rintro _ ⟨-, v1, rfl, hA1⟩
  refine j_aload_n dX4_bidder_11 rfl ?_
  refine j_aload_n dX4_bidder_12 rfl ?_
  refine j_get (v := .ref (bs (π 5))) dX4_bidder_13 fX4_31 rfl (by first | decide | omega) ((congrFun (zb_lo (bs_B _) (by omega)) _).trans ((CQ_rd hq 0 4).trans gO_tri)) ?_
  refine j_iload_n dX4_bidder_16 rfl ?_
  refine j_iload_n dX4_bidder_17 rfl ?_
  refine j_iload_n dX4_bidder_18 rfl ?_
  refine j_iload dX4_bidder_19 rfl ?_
  refine k_callV4i dX4_bidder_21 vX4_bidder_38 (c_bidder (bs_B _) hA1 hI hKn hM.1.2.1) (aB_S0 (bs_B _)) (aB_l0 (bs_B _)) rfl rfl rfl rfl (Nat.le_of_ble_eq_true rfl) ⟨rfl, rfl⟩ rfl ?_
  rintro _ _ ⟨v2, p2, ⟨⟩, rfl, hT2⟩
  have hz2 := AT_zp hT2
  have hS2 : AT (va_up V (π 5) v2 (π 4)) (va_up P (π 5) p2 (π 4)) s := by
    rw [va_n h45, va_n h45]
    exact hS
  have hH2 : ∀ i, i < n → AT (va_up V (π 5) v2 (π i)) (va_up P (π 5) p2 (π i)) (aUnS pa i) := fun i hi => by
    rw [va_n (hh5 i hi), va_n (hh5 i hi)]
    exact hH i hi
  have hT5 : AT (va_up V (π 5) v2 (π 5)) (va_up P (π 5) p2 (π 5)) (aBidder s (aNn s) a1 a2 a3 a4).2.2 := by
    rw [va_s, va_s]
    exact hT2
  refine z_to (CQ_tr hq hz2.1 hz2.2).2.2.2.1.symm ?_
  refine k_callV1i dX4_bidder_24 vX4_bidder_42 (o_keep (CQ_tr hq hz2.1 hz2.2) hS2 hH2 (fun _ => hT5)) rfl (by first | decide | omega) rfl (Nat.le_of_ble_eq_true rfl) ⟨rfl, rfl⟩ rfl ?_
  rintro _ h3 ⟨⟨⟩, hlo, hch⟩
  refine j_iret dX4_bidder_27 rfl (rfl) ?_
  refine hQ _ _ ⟨rfl, fun x hx => ?_, o_fin (aOk_bidder hM) hch⟩
  rw [hlo x hx, gO_o (by omega), zb_lo (bs_B _) (by omega)]
set_option maxRecDepth 4000 in
set_option maxHeartbeats 2000000 in
theorem o_catches {h : zH} {s pa tx : Nat → Int32} {n T : Nat} (hc : CH h s pa n tx T) (hM : aM s) {a1 a2 : Int32} : zCT mX4_catches [.ref 0, .int a1, .int a2] (215 + nz) h (215 + nz) (fun r h' => r = some (aSetB s a1 a2 4).1 ∧ (∀ x, 215 ≤ x → h' x = h x) ∧ CH h' (aSetB s a1 a2 4).2.2 (cond (aSetB s a1 a2 4).2.1 (aPa pa n s) pa) (cond (aSetB s a1 a2 4).2.1 (aPn n) n) tx T) := by
  obtain ⟨π, V, P, f, nm, hq, hS, hH⟩ := hc
  have hI : aIa s (aNn s) (aWn s) := hM.1.1
  obtain ⟨Kn, hKn, hA⟩ := AT_of hS hI
  have hN := hA.1
  have hb4 := CQ_bk hq (i := 4) (by omega)
  have hb5 := CQ_bk hq (i := 5) (by omega)
  have hne : ¬ bs (π 5) = bs (π 4) := CQ_ne hq (by omega) (by omega) (by omega)
  have h45 : π 4 ≠ π 5 := fun e => hne (by rw [e])
  have hh5 : ∀ i, i < n → π i ≠ π 5 := fun i hi e => by
    have := hq.1.2 i 5 (by have := CQ_n4 hq; omega) (by omega) e
    have := CQ_n4 hq
    omega
  intro X Q hQ
  show zJ X mX4_catches (215 + nz) 0 [.ref 0, .int a1, .int a2] [] (215 + nz) h Q
  refine j_aload_n dX4_catches_0 rfl ?_
  refine j_get (v := .ref (bs (π 5))) dX4_catches_1 fX4_31 rfl (by first | decide | omega) ((CQ_rd hq 0 4).trans gO_tri) ?_
  refine j_aload_n dX4_catches_4 rfl ?_
  refine j_get (v := .ref (bs (π 4))) dX4_catches_5 fX4_27 rfl (by first | decide | omega) ((CQ_rd hq 0 3).trans gO_now) ?_
  refine z_to (zBk_self hb5.1).symm ?_
  refine k_callV1v dX4_catches_8 vX4_catches_34 (c_copy (bs_B _) (bs_B _) hne hb4.1 hb5.2.1 hb5.2.2 hA hI hKn) (aB_S0 (bs_B _)) (aB_l0 (bs_B _)) rfl (Nat.le_of_ble_eq_true rfl) ⟨rfl, rfl⟩ rfl ?_
  rintro _ ⟨-, v1, rfl, hA1⟩
  refine j_aload_n dX4_catches_11 rfl ?_
  refine j_aload_n dX4_catches_12 rfl ?_
  refine j_get (v := .ref (bs (π 5))) dX4_catches_13 fX4_31 rfl (by first | decide | omega) ((congrFun (zb_lo (bs_B _) (by omega)) _).trans ((CQ_rd hq 0 4).trans gO_tri)) ?_
  refine j_iload_n dX4_catches_16 rfl ?_
  refine j_iload_n dX4_catches_17 rfl ?_
  refine k_callV2i dX4_catches_18 vX4_catches_46 (c_cold (bs_B _) hA1 hI hKn) (aB_S0 (bs_B _)) (aB_l0 (bs_B _)) rfl rfl (Nat.le_of_ble_eq_true rfl) ⟨rfl, rfl⟩ rfl ?_
  rintro _ _ ⟨v2, p2, ⟨⟩, rfl, hT2⟩
  have hz2 := AT_zp hT2
  have hS2 : AT (va_up V (π 5) v2 (π 4)) (va_up P (π 5) p2 (π 4)) s := by
    rw [va_n h45, va_n h45]
    exact hS
  have hH2 : ∀ i, i < n → AT (va_up V (π 5) v2 (π i)) (va_up P (π 5) p2 (π i)) (aUnS pa i) := fun i hi => by
    rw [va_n (hh5 i hi), va_n (hh5 i hi)]
    exact hH i hi
  have hT5 : AT (va_up V (π 5) v2 (π 5)) (va_up P (π 5) p2 (π 5)) (aSetB s a1 a2 4).2.2 := by
    rw [va_s, va_s]
    exact hT2
  refine z_to (CQ_tr hq hz2.1 hz2.2).2.2.2.1.symm ?_
  refine k_callV1i dX4_catches_21 vX4_catches_42 (o_keep (CQ_tr hq hz2.1 hz2.2) hS2 hH2 (fun _ => hT5)) rfl (by first | decide | omega) rfl (Nat.le_of_ble_eq_true rfl) ⟨rfl, rfl⟩ rfl ?_
  rintro _ h3 ⟨⟨⟩, hlo, hch⟩
  refine j_iret dX4_catches_24 rfl (rfl) ?_
  refine hQ _ _ ⟨rfl, fun x hx => ?_, o_fin (aOk_setB (Or.inl rfl) hM) hch⟩
  rw [hlo x hx, gO_o (by omega), zb_lo (bs_B _) (by omega)]
set_option maxRecDepth 4000 in
set_option maxHeartbeats 2000000 in
theorem o_muffle {h : zH} {s pa tx : Nat → Int32} {n T : Nat} (hc : CH h s pa n tx T) (hM : aM s) {a1 a2 : Int32} : zCT mX4_muffle [.ref 0, .int a1, .int a2] (215 + nz) h (215 + nz) (fun r h' => r = some (aSetB s a1 a2 5).1 ∧ (∀ x, 215 ≤ x → h' x = h x) ∧ CH h' (aSetB s a1 a2 5).2.2 (cond (aSetB s a1 a2 5).2.1 (aPa pa n s) pa) (cond (aSetB s a1 a2 5).2.1 (aPn n) n) tx T) := by
  obtain ⟨π, V, P, f, nm, hq, hS, hH⟩ := hc
  have hI : aIa s (aNn s) (aWn s) := hM.1.1
  obtain ⟨Kn, hKn, hA⟩ := AT_of hS hI
  have hN := hA.1
  have hb4 := CQ_bk hq (i := 4) (by omega)
  have hb5 := CQ_bk hq (i := 5) (by omega)
  have hne : ¬ bs (π 5) = bs (π 4) := CQ_ne hq (by omega) (by omega) (by omega)
  have h45 : π 4 ≠ π 5 := fun e => hne (by rw [e])
  have hh5 : ∀ i, i < n → π i ≠ π 5 := fun i hi e => by
    have := hq.1.2 i 5 (by have := CQ_n4 hq; omega) (by omega) e
    have := CQ_n4 hq
    omega
  intro X Q hQ
  show zJ X mX4_muffle (215 + nz) 0 [.ref 0, .int a1, .int a2] [] (215 + nz) h Q
  refine j_aload_n dX4_muffle_0 rfl ?_
  refine j_get (v := .ref (bs (π 5))) dX4_muffle_1 fX4_31 rfl (by first | decide | omega) ((CQ_rd hq 0 4).trans gO_tri) ?_
  refine j_aload_n dX4_muffle_4 rfl ?_
  refine j_get (v := .ref (bs (π 4))) dX4_muffle_5 fX4_27 rfl (by first | decide | omega) ((CQ_rd hq 0 3).trans gO_now) ?_
  refine z_to (zBk_self hb5.1).symm ?_
  refine k_callV1v dX4_muffle_8 vX4_muffle_34 (c_copy (bs_B _) (bs_B _) hne hb4.1 hb5.2.1 hb5.2.2 hA hI hKn) (aB_S0 (bs_B _)) (aB_l0 (bs_B _)) rfl (Nat.le_of_ble_eq_true rfl) ⟨rfl, rfl⟩ rfl ?_
  rintro _ ⟨-, v1, rfl, hA1⟩
  refine j_aload_n dX4_muffle_11 rfl ?_
  refine j_aload_n dX4_muffle_12 rfl ?_
  refine j_get (v := .ref (bs (π 5))) dX4_muffle_13 fX4_31 rfl (by first | decide | omega) ((congrFun (zb_lo (bs_B _) (by omega)) _).trans ((CQ_rd hq 0 4).trans gO_tri)) ?_
  refine j_iload_n dX4_muffle_16 rfl ?_
  refine j_iload_n dX4_muffle_17 rfl ?_
  refine k_callV2i dX4_muffle_18 vX4_muffle_50 (c_muffle (bs_B _) hA1 hI hKn) (aB_S0 (bs_B _)) (aB_l0 (bs_B _)) rfl rfl (Nat.le_of_ble_eq_true rfl) ⟨rfl, rfl⟩ rfl ?_
  rintro _ _ ⟨v2, p2, ⟨⟩, rfl, hT2⟩
  have hz2 := AT_zp hT2
  have hS2 : AT (va_up V (π 5) v2 (π 4)) (va_up P (π 5) p2 (π 4)) s := by
    rw [va_n h45, va_n h45]
    exact hS
  have hH2 : ∀ i, i < n → AT (va_up V (π 5) v2 (π i)) (va_up P (π 5) p2 (π i)) (aUnS pa i) := fun i hi => by
    rw [va_n (hh5 i hi), va_n (hh5 i hi)]
    exact hH i hi
  have hT5 : AT (va_up V (π 5) v2 (π 5)) (va_up P (π 5) p2 (π 5)) (aSetB s a1 a2 5).2.2 := by
    rw [va_s, va_s]
    exact hT2
  refine z_to (CQ_tr hq hz2.1 hz2.2).2.2.2.1.symm ?_
  refine k_callV1i dX4_muffle_21 vX4_muffle_42 (o_keep (CQ_tr hq hz2.1 hz2.2) hS2 hH2 (fun _ => hT5)) rfl (by first | decide | omega) rfl (Nat.le_of_ble_eq_true rfl) ⟨rfl, rfl⟩ rfl ?_
  rintro _ h3 ⟨⟨⟩, hlo, hch⟩
  refine j_iret dX4_muffle_24 rfl (rfl) ?_
  refine hQ _ _ ⟨rfl, fun x hx => ?_, o_fin (aOk_setB (Or.inr rfl) hM) hch⟩
  rw [hlo x hx, gO_o (by omega), zb_lo (bs_B _) (by omega)]
set_option maxRecDepth 4000 in
set_option maxHeartbeats 2000000 in
theorem o_lot {h : zH} {s pa tx : Nat → Int32} {n T : Nat} (hc : CH h s pa n tx T) (hM : aM s) {a1 a2 : Int32} : zCT mX4_lot [.ref 0, .int a1, .int a2] (215 + nz) h (215 + nz) (fun r h' => r = some (aLot s (aWn s) a1 a2).1 ∧ (∀ x, 215 ≤ x → h' x = h x) ∧ CH h' (aLot s (aWn s) a1 a2).2.2 (cond (aLot s (aWn s) a1 a2).2.1 (aPa pa n s) pa) (cond (aLot s (aWn s) a1 a2).2.1 (aPn n) n) tx T) := by
  obtain ⟨π, V, P, f, nm, hq, hS, hH⟩ := hc
  have hI : aIa s (aNn s) (aWn s) := hM.1.1
  obtain ⟨Kn, hKn, hA⟩ := AT_of hS hI
  have hN := hA.1
  have hb4 := CQ_bk hq (i := 4) (by omega)
  have hb5 := CQ_bk hq (i := 5) (by omega)
  have hne : ¬ bs (π 5) = bs (π 4) := CQ_ne hq (by omega) (by omega) (by omega)
  have h45 : π 4 ≠ π 5 := fun e => hne (by rw [e])
  have hh5 : ∀ i, i < n → π i ≠ π 5 := fun i hi e => by
    have := hq.1.2 i 5 (by have := CQ_n4 hq; omega) (by omega) e
    have := CQ_n4 hq
    omega
  intro X Q hQ
  show zJ X mX4_lot (215 + nz) 0 [.ref 0, .int a1, .int a2] [] (215 + nz) h Q
  refine j_aload_n dX4_lot_0 rfl ?_
  refine j_get (v := .ref (bs (π 5))) dX4_lot_1 fX4_31 rfl (by first | decide | omega) ((CQ_rd hq 0 4).trans gO_tri) ?_
  refine j_aload_n dX4_lot_4 rfl ?_
  refine j_get (v := .ref (bs (π 4))) dX4_lot_5 fX4_27 rfl (by first | decide | omega) ((CQ_rd hq 0 3).trans gO_now) ?_
  refine z_to (zBk_self hb5.1).symm ?_
  refine k_callV1v dX4_lot_8 vX4_lot_34 (c_copy (bs_B _) (bs_B _) hne hb4.1 hb5.2.1 hb5.2.2 hA hI hKn) (aB_S0 (bs_B _)) (aB_l0 (bs_B _)) rfl (Nat.le_of_ble_eq_true rfl) ⟨rfl, rfl⟩ rfl ?_
  rintro _ ⟨-, v1, rfl, hA1⟩
  refine j_aload_n dX4_lot_11 rfl ?_
  refine j_aload_n dX4_lot_12 rfl ?_
  refine j_get (v := .ref (bs (π 5))) dX4_lot_13 fX4_31 rfl (by first | decide | omega) ((congrFun (zb_lo (bs_B _) (by omega)) _).trans ((CQ_rd hq 0 4).trans gO_tri)) ?_
  refine j_iload_n dX4_lot_16 rfl ?_
  refine j_iload_n dX4_lot_17 rfl ?_
  refine k_callV2i dX4_lot_18 vX4_lot_53 (c_lot (bs_B _) hA1 hI hKn) (aB_S0 (bs_B _)) (aB_l0 (bs_B _)) rfl rfl (Nat.le_of_ble_eq_true rfl) ⟨rfl, rfl⟩ rfl ?_
  rintro _ _ ⟨v2, p2, ⟨⟩, rfl, hT2⟩
  have hz2 := AT_zp hT2
  have hS2 : AT (va_up V (π 5) v2 (π 4)) (va_up P (π 5) p2 (π 4)) s := by
    rw [va_n h45, va_n h45]
    exact hS
  have hH2 : ∀ i, i < n → AT (va_up V (π 5) v2 (π i)) (va_up P (π 5) p2 (π i)) (aUnS pa i) := fun i hi => by
    rw [va_n (hh5 i hi), va_n (hh5 i hi)]
    exact hH i hi
  have hT5 : AT (va_up V (π 5) v2 (π 5)) (va_up P (π 5) p2 (π 5)) (aLot s (aWn s) a1 a2).2.2 := by
    rw [va_s, va_s]
    exact hT2
  refine z_to (CQ_tr hq hz2.1 hz2.2).2.2.2.1.symm ?_
  refine k_callV1i dX4_lot_21 vX4_lot_42 (o_keep (CQ_tr hq hz2.1 hz2.2) hS2 hH2 (fun _ => hT5)) rfl (by first | decide | omega) rfl (Nat.le_of_ble_eq_true rfl) ⟨rfl, rfl⟩ rfl ?_
  rintro _ h3 ⟨⟨⟩, hlo, hch⟩
  refine j_iret dX4_lot_24 rfl (rfl) ?_
  refine hQ _ _ ⟨rfl, fun x hx => ?_, o_fin (aOk_lot hM) hch⟩
  rw [hlo x hx, gO_o (by omega), zb_lo (bs_B _) (by omega)]
set_option maxRecDepth 4000 in
set_option maxHeartbeats 2000000 in
theorem o_putUp {h : zH} {s pa tx : Nat → Int32} {n T : Nat} (hc : CH h s pa n tx T) (hM : aM s)  : zCT mX4_putUp [.ref 0] (215 + nz) h (215 + nz) (fun r h' => r = some (aUp s (aWn s)).1 ∧ (∀ x, 215 ≤ x → h' x = h x) ∧ CH h' (aUp s (aWn s)).2.2 (cond (aUp s (aWn s)).2.1 (aPa pa n s) pa) (cond (aUp s (aWn s)).2.1 (aPn n) n) tx T) := by
  obtain ⟨π, V, P, f, nm, hq, hS, hH⟩ := hc
  have hI : aIa s (aNn s) (aWn s) := hM.1.1
  obtain ⟨Kn, hKn, hA⟩ := AT_of hS hI
  have hN := hA.1
  have hb4 := CQ_bk hq (i := 4) (by omega)
  have hb5 := CQ_bk hq (i := 5) (by omega)
  have hne : ¬ bs (π 5) = bs (π 4) := CQ_ne hq (by omega) (by omega) (by omega)
  have h45 : π 4 ≠ π 5 := fun e => hne (by rw [e])
  have hh5 : ∀ i, i < n → π i ≠ π 5 := fun i hi e => by
    have := hq.1.2 i 5 (by have := CQ_n4 hq; omega) (by omega) e
    have := CQ_n4 hq
    omega
  intro X Q hQ
  show zJ X mX4_putUp (215 + nz) 0 [.ref 0] [] (215 + nz) h Q
  refine j_aload_n dX4_putUp_0 rfl ?_
  refine j_get (v := .ref (bs (π 5))) dX4_putUp_1 fX4_31 rfl (by first | decide | omega) ((CQ_rd hq 0 4).trans gO_tri) ?_
  refine j_aload_n dX4_putUp_4 rfl ?_
  refine j_get (v := .ref (bs (π 4))) dX4_putUp_5 fX4_27 rfl (by first | decide | omega) ((CQ_rd hq 0 3).trans gO_now) ?_
  refine z_to (zBk_self hb5.1).symm ?_
  refine k_callV1v dX4_putUp_8 vX4_putUp_34 (c_copy (bs_B _) (bs_B _) hne hb4.1 hb5.2.1 hb5.2.2 hA hI hKn) (aB_S0 (bs_B _)) (aB_l0 (bs_B _)) rfl (Nat.le_of_ble_eq_true rfl) ⟨rfl, rfl⟩ rfl ?_
  rintro _ ⟨-, v1, rfl, hA1⟩
  refine j_aload_n dX4_putUp_11 rfl ?_
  refine j_aload_n dX4_putUp_12 rfl ?_
  refine j_get (v := .ref (bs (π 5))) dX4_putUp_13 fX4_31 rfl (by first | decide | omega) ((congrFun (zb_lo (bs_B _) (by omega)) _).trans ((CQ_rd hq 0 4).trans gO_tri)) ?_
  refine k_callV0i dX4_putUp_16 vX4_putUp_56 (c_up (bs_B _) hA1 hI hKn) (aB_S0 (bs_B _)) (aB_l0 (bs_B _))  (Nat.le_of_ble_eq_true rfl) ⟨rfl, rfl⟩ rfl ?_
  rintro _ _ ⟨v2, p2, ⟨⟩, rfl, hT2⟩
  have hz2 := AT_zp hT2
  have hS2 : AT (va_up V (π 5) v2 (π 4)) (va_up P (π 5) p2 (π 4)) s := by
    rw [va_n h45, va_n h45]
    exact hS
  have hH2 : ∀ i, i < n → AT (va_up V (π 5) v2 (π i)) (va_up P (π 5) p2 (π i)) (aUnS pa i) := fun i hi => by
    rw [va_n (hh5 i hi), va_n (hh5 i hi)]
    exact hH i hi
  have hT5 : AT (va_up V (π 5) v2 (π 5)) (va_up P (π 5) p2 (π 5)) (aUp s (aWn s)).2.2 := by
    rw [va_s, va_s]
    exact hT2
  refine z_to (CQ_tr hq hz2.1 hz2.2).2.2.2.1.symm ?_
  refine k_callV1i dX4_putUp_19 vX4_putUp_42 (o_keep (CQ_tr hq hz2.1 hz2.2) hS2 hH2 (fun _ => hT5)) rfl (by first | decide | omega) rfl (Nat.le_of_ble_eq_true rfl) ⟨rfl, rfl⟩ rfl ?_
  rintro _ h3 ⟨⟨⟩, hlo, hch⟩
  refine j_iret dX4_putUp_22 rfl (rfl) ?_
  refine hQ _ _ ⟨rfl, fun x hx => ?_, o_fin (aOk_up hM) hch⟩
  rw [hlo x hx, gO_o (by omega), zb_lo (bs_B _) (by omega)]
set_option maxRecDepth 4000 in
set_option maxHeartbeats 2000000 in
theorem o_cough {h : zH} {s pa tx : Nat → Int32} {n T : Nat} (hc : CH h s pa n tx T) (hM : aM s) {a1 : Int32} : zCT mX4_cough [.ref 0, .int a1] (215 + nz) h (215 + nz) (fun r h' => r = some (aCough s a1).1 ∧ (∀ x, 215 ≤ x → h' x = h x) ∧ CH h' (aCough s a1).2.2 (cond (aCough s a1).2.1 (aPa pa n s) pa) (cond (aCough s a1).2.1 (aPn n) n) tx T) := by
  obtain ⟨π, V, P, f, nm, hq, hS, hH⟩ := hc
  have hI : aIa s (aNn s) (aWn s) := hM.1.1
  obtain ⟨Kn, hKn, hA⟩ := AT_of hS hI
  have hN := hA.1
  have hb4 := CQ_bk hq (i := 4) (by omega)
  have hb5 := CQ_bk hq (i := 5) (by omega)
  have hne : ¬ bs (π 5) = bs (π 4) := CQ_ne hq (by omega) (by omega) (by omega)
  have h45 : π 4 ≠ π 5 := fun e => hne (by rw [e])
  have hh5 : ∀ i, i < n → π i ≠ π 5 := fun i hi e => by
    have := hq.1.2 i 5 (by have := CQ_n4 hq; omega) (by omega) e
    have := CQ_n4 hq
    omega
  intro X Q hQ
  show zJ X mX4_cough (215 + nz) 0 [.ref 0, .int a1] [] (215 + nz) h Q
  refine j_aload_n dX4_cough_0 rfl ?_
  refine j_get (v := .ref (bs (π 5))) dX4_cough_1 fX4_31 rfl (by first | decide | omega) ((CQ_rd hq 0 4).trans gO_tri) ?_
  refine j_aload_n dX4_cough_4 rfl ?_
  refine j_get (v := .ref (bs (π 4))) dX4_cough_5 fX4_27 rfl (by first | decide | omega) ((CQ_rd hq 0 3).trans gO_now) ?_
  refine z_to (zBk_self hb5.1).symm ?_
  refine k_callV1v dX4_cough_8 vX4_cough_34 (c_copy (bs_B _) (bs_B _) hne hb4.1 hb5.2.1 hb5.2.2 hA hI hKn) (aB_S0 (bs_B _)) (aB_l0 (bs_B _)) rfl (Nat.le_of_ble_eq_true rfl) ⟨rfl, rfl⟩ rfl ?_
  rintro _ ⟨-, v1, rfl, hA1⟩
  refine j_aload_n dX4_cough_11 rfl ?_
  refine j_aload_n dX4_cough_12 rfl ?_
  refine j_get (v := .ref (bs (π 5))) dX4_cough_13 fX4_31 rfl (by first | decide | omega) ((congrFun (zb_lo (bs_B _) (by omega)) _).trans ((CQ_rd hq 0 4).trans gO_tri)) ?_
  refine j_iload_n dX4_cough_16 rfl ?_
  refine j_iconst (v := 0) dX4_cough_17 (by first | decide | omega) ?_
  refine k_callV2i dX4_cough_18 vX4_cough_60 (c_coughT (bs_B _) hA1 hI hKn) (aB_S0 (bs_B _)) (aB_l0 (bs_B _)) rfl rfl (Nat.le_of_ble_eq_true rfl) ⟨rfl, rfl⟩ rfl ?_
  rintro _ _ ⟨v2, p2, ⟨⟩, rfl, hT2⟩
  have hz2 := AT_zp hT2
  have hS2 : AT (va_up V (π 5) v2 (π 4)) (va_up P (π 5) p2 (π 4)) s := by
    rw [va_n h45, va_n h45]
    exact hS
  have hH2 : ∀ i, i < n → AT (va_up V (π 5) v2 (π i)) (va_up P (π 5) p2 (π i)) (aUnS pa i) := fun i hi => by
    rw [va_n (hh5 i hi), va_n (hh5 i hi)]
    exact hH i hi
  have hT5 : AT (va_up V (π 5) v2 (π 5)) (va_up P (π 5) p2 (π 5)) (aCough s a1).2.2 := by
    rw [va_s, va_s]
    exact hT2
  refine z_to (CQ_tr hq hz2.1 hz2.2).2.2.2.1.symm ?_
  refine k_callV1i dX4_cough_21 vX4_cough_42 (o_keep (CQ_tr hq hz2.1 hz2.2) hS2 hH2 (fun _ => hT5)) rfl (by first | decide | omega) rfl (Nat.le_of_ble_eq_true rfl) ⟨rfl, rfl⟩ rfl ?_
  rintro _ h3 ⟨⟨⟩, hlo, hch⟩
  refine j_iret dX4_cough_24 rfl (rfl) ?_
  refine hQ _ _ ⟨rfl, fun x hx => ?_, o_fin (aOk_cough hM) hch⟩
  rw [hlo x hx, gO_o (by omega), zb_lo (bs_B _) (by omega)]
set_option maxRecDepth 4000 in
set_option maxHeartbeats 2000000 in
theorem o_beats {h : zH} {s pa tx : Nat → Int32} {n T : Nat} (hc : CH h s pa n tx T) (hM : aM s) {a1 : Int32} : zCT mX4_beats [.ref 0, .int a1] (215 + nz) h (215 + nz) (fun r h' => r = some (aBeats s (aNn s) a1).1 ∧ (∀ x, 215 ≤ x → h' x = h x) ∧ CH h' (aBeats s (aNn s) a1).2.2 (cond (aBeats s (aNn s) a1).2.1 (aPa pa n s) pa) (cond (aBeats s (aNn s) a1).2.1 (aPn n) n) tx T) := by
  obtain ⟨π, V, P, f, nm, hq, hS, hH⟩ := hc
  have hI : aIa s (aNn s) (aWn s) := hM.1.1
  obtain ⟨Kn, hKn, hA⟩ := AT_of hS hI
  have hN := hA.1
  have hb4 := CQ_bk hq (i := 4) (by omega)
  have hb5 := CQ_bk hq (i := 5) (by omega)
  have hne : ¬ bs (π 5) = bs (π 4) := CQ_ne hq (by omega) (by omega) (by omega)
  have h45 : π 4 ≠ π 5 := fun e => hne (by rw [e])
  have hh5 : ∀ i, i < n → π i ≠ π 5 := fun i hi e => by
    have := hq.1.2 i 5 (by have := CQ_n4 hq; omega) (by omega) e
    have := CQ_n4 hq
    omega
  intro X Q hQ
  show zJ X mX4_beats (215 + nz) 0 [.ref 0, .int a1] [] (215 + nz) h Q
  refine j_aload_n dX4_beats_0 rfl ?_
  refine j_get (v := .ref (bs (π 5))) dX4_beats_1 fX4_31 rfl (by first | decide | omega) ((CQ_rd hq 0 4).trans gO_tri) ?_
  refine j_aload_n dX4_beats_4 rfl ?_
  refine j_get (v := .ref (bs (π 4))) dX4_beats_5 fX4_27 rfl (by first | decide | omega) ((CQ_rd hq 0 3).trans gO_now) ?_
  refine z_to (zBk_self hb5.1).symm ?_
  refine k_callV1v dX4_beats_8 vX4_beats_34 (c_copy (bs_B _) (bs_B _) hne hb4.1 hb5.2.1 hb5.2.2 hA hI hKn) (aB_S0 (bs_B _)) (aB_l0 (bs_B _)) rfl (Nat.le_of_ble_eq_true rfl) ⟨rfl, rfl⟩ rfl ?_
  rintro _ ⟨-, v1, rfl, hA1⟩
  refine j_aload_n dX4_beats_11 rfl ?_
  refine j_aload_n dX4_beats_12 rfl ?_
  refine j_get (v := .ref (bs (π 5))) dX4_beats_13 fX4_31 rfl (by first | decide | omega) ((congrFun (zb_lo (bs_B _) (by omega)) _).trans ((CQ_rd hq 0 4).trans gO_tri)) ?_
  refine j_iload_n dX4_beats_16 rfl ?_
  refine k_callV1i dX4_beats_17 vX4_beats_64 (c_beats (bs_B _) hA1 hI hKn) (aB_S0 (bs_B _)) (aB_l0 (bs_B _)) rfl (Nat.le_of_ble_eq_true rfl) ⟨rfl, rfl⟩ rfl ?_
  rintro _ _ ⟨v2, p2, ⟨⟩, rfl, hT2⟩
  have hz2 := AT_zp hT2
  have hS2 : AT (va_up V (π 5) v2 (π 4)) (va_up P (π 5) p2 (π 4)) s := by
    rw [va_n h45, va_n h45]
    exact hS
  have hH2 : ∀ i, i < n → AT (va_up V (π 5) v2 (π i)) (va_up P (π 5) p2 (π i)) (aUnS pa i) := fun i hi => by
    rw [va_n (hh5 i hi), va_n (hh5 i hi)]
    exact hH i hi
  have hT5 : AT (va_up V (π 5) v2 (π 5)) (va_up P (π 5) p2 (π 5)) (aBeats s (aNn s) a1).2.2 := by
    rw [va_s, va_s]
    exact hT2
  refine z_to (CQ_tr hq hz2.1 hz2.2).2.2.2.1.symm ?_
  refine k_callV1i dX4_beats_20 vX4_beats_42 (o_keep (CQ_tr hq hz2.1 hz2.2) hS2 hH2 (fun _ => hT5)) rfl (by first | decide | omega) rfl (Nat.le_of_ble_eq_true rfl) ⟨rfl, rfl⟩ rfl ?_
  rintro _ h3 ⟨⟨⟩, hlo, hch⟩
  refine j_iret dX4_beats_23 rfl (rfl) ?_
  refine hQ _ _ ⟨rfl, fun x hx => ?_, o_fin (aOk_beats hM) hch⟩
  rw [hlo x hx, gO_o (by omega), zb_lo (bs_B _) (by omega)]
set_option maxRecDepth 4000 in
set_option maxHeartbeats 2000000 in
theorem o_night {h : zH} {s pa tx : Nat → Int32} {n T : Nat} (hc : CH h s pa n tx T) (hM : aM s) {sp : Nat → Int32} (hsp : ∀ j, j < 11 * aNn s → sp j = s j) : zCT mX4_night [.ref 0] (215 + nz) h (215 + nz) (fun r h' => r = some (aNgt s sp (aNn s)).1 ∧ (∀ x, 215 ≤ x → h' x = h x) ∧ CH h' (aNgt s sp (aNn s)).2.2 (cond (aNgt s sp (aNn s)).2.1 (aPa pa n s) pa) (cond (aNgt s sp (aNn s)).2.1 (aPn n) n) tx T) := by
  obtain ⟨π, V, P, f, nm, hq, hS, hH⟩ := hc
  have hI : aIa s (aNn s) (aWn s) := hM.1.1
  obtain ⟨Kn, hKn, hA⟩ := AT_of hS hI
  have hN := hA.1
  have hb4 := CQ_bk hq (i := 4) (by omega)
  have hb5 := CQ_bk hq (i := 5) (by omega)
  have hne : ¬ bs (π 5) = bs (π 4) := CQ_ne hq (by omega) (by omega) (by omega)
  have h45 : π 4 ≠ π 5 := fun e => hne (by rw [e])
  have hh5 : ∀ i, i < n → π i ≠ π 5 := fun i hi e => by
    have := hq.1.2 i 5 (by have := CQ_n4 hq; omega) (by omega) e
    have := CQ_n4 hq
    omega
  intro X Q hQ
  show zJ X mX4_night (215 + nz) 0 [.ref 0] [] (215 + nz) h Q
  refine j_aload_n dX4_night_0 rfl ?_
  refine j_get (v := .ref (bs (π 5))) dX4_night_1 fX4_31 rfl (by first | decide | omega) ((CQ_rd hq 0 4).trans gO_tri) ?_
  refine j_aload_n dX4_night_4 rfl ?_
  refine j_get (v := .ref (bs (π 4))) dX4_night_5 fX4_27 rfl (by first | decide | omega) ((CQ_rd hq 0 3).trans gO_now) ?_
  refine z_to (zBk_self hb5.1).symm ?_
  refine k_callV1v dX4_night_8 vX4_night_34 (c_copy (bs_B _) (bs_B _) hne hb4.1 hb5.2.1 hb5.2.2 hA hI hKn) (aB_S0 (bs_B _)) (aB_l0 (bs_B _)) rfl (Nat.le_of_ble_eq_true rfl) ⟨rfl, rfl⟩ rfl ?_
  rintro _ ⟨-, v1, rfl, hA1⟩
  refine j_aload_n dX4_night_11 rfl ?_
  refine j_aload_n dX4_night_12 rfl ?_
  refine j_get (v := .ref (bs (π 5))) dX4_night_13 fX4_31 rfl (by first | decide | omega) ((congrFun (zb_lo (bs_B _) (by omega)) _).trans ((CQ_rd hq 0 4).trans gO_tri)) ?_
  refine k_callV0i dX4_night_16 vX4_night_67 (c_night (bs_B _) hA1 hI hKn hM.1.2.2.1 hsp) (aB_S0 (bs_B _)) (aB_l0 (bs_B _))  (Nat.le_of_ble_eq_true rfl) ⟨rfl, rfl⟩ rfl ?_
  rintro _ _ ⟨v2, p2, ⟨⟩, rfl, hT2⟩
  have hz2 := AT_zp hT2
  have hS2 : AT (va_up V (π 5) v2 (π 4)) (va_up P (π 5) p2 (π 4)) s := by
    rw [va_n h45, va_n h45]
    exact hS
  have hH2 : ∀ i, i < n → AT (va_up V (π 5) v2 (π i)) (va_up P (π 5) p2 (π i)) (aUnS pa i) := fun i hi => by
    rw [va_n (hh5 i hi), va_n (hh5 i hi)]
    exact hH i hi
  have hT5 : AT (va_up V (π 5) v2 (π 5)) (va_up P (π 5) p2 (π 5)) (aNgt s sp (aNn s)).2.2 := by
    rw [va_s, va_s]
    exact hT2
  refine z_to (CQ_tr hq hz2.1 hz2.2).2.2.2.1.symm ?_
  refine k_callV1i dX4_night_19 vX4_night_42 (o_keep (CQ_tr hq hz2.1 hz2.2) hS2 hH2 (fun _ => hT5)) rfl (by first | decide | omega) rfl (Nat.le_of_ble_eq_true rfl) ⟨rfl, rfl⟩ rfl ?_
  rintro _ h3 ⟨⟨⟩, hlo, hch⟩
  refine j_iret dX4_night_22 rfl (rfl) ?_
  refine hQ _ _ ⟨rfl, fun x hx => ?_, o_fin (aOk_ngt hM) hch⟩
  rw [hlo x hx, gO_o (by omega), zb_lo (bs_B _) (by omega)]
set_option maxRecDepth 4000 in
set_option maxHeartbeats 2000000 in
theorem o_set {h : zH} {s pa tx : Nat → Int32} {n T : Nat} (hc : CH h s pa n tx T) (hM : aM s) {a1 a2 : Int32} : zCT mX4_set [.ref 0, .int a1, .int a2] (215 + nz) h (215 + nz) (fun r h' => r = some (aSet s a1 a2).1 ∧ (∀ x, 215 ≤ x → h' x = h x) ∧ CH h' (aSet s a1 a2).2.2 (cond (aSet s a1 a2).2.1 (aPa pa n s) pa) (cond (aSet s a1 a2).2.1 (aPn n) n) tx T) := by
  obtain ⟨π, V, P, f, nm, hq, hS, hH⟩ := hc
  have hI : aIa s (aNn s) (aWn s) := hM.1.1
  obtain ⟨Kn, hKn, hA⟩ := AT_of hS hI
  have hN := hA.1
  have hb4 := CQ_bk hq (i := 4) (by omega)
  have hb5 := CQ_bk hq (i := 5) (by omega)
  have hne : ¬ bs (π 5) = bs (π 4) := CQ_ne hq (by omega) (by omega) (by omega)
  have h45 : π 4 ≠ π 5 := fun e => hne (by rw [e])
  have hh5 : ∀ i, i < n → π i ≠ π 5 := fun i hi e => by
    have := hq.1.2 i 5 (by have := CQ_n4 hq; omega) (by omega) e
    have := CQ_n4 hq
    omega
  intro X Q hQ
  show zJ X mX4_set (215 + nz) 0 [.ref 0, .int a1, .int a2] [] (215 + nz) h Q
  refine j_aload_n dX4_set_0 rfl ?_
  refine j_get (v := .ref (bs (π 5))) dX4_set_1 fX4_31 rfl (by first | decide | omega) ((CQ_rd hq 0 4).trans gO_tri) ?_
  refine j_aload_n dX4_set_4 rfl ?_
  refine j_get (v := .ref (bs (π 4))) dX4_set_5 fX4_27 rfl (by first | decide | omega) ((CQ_rd hq 0 3).trans gO_now) ?_
  refine z_to (zBk_self hb5.1).symm ?_
  refine k_callV1v dX4_set_8 vX4_set_34 (c_copy (bs_B _) (bs_B _) hne hb4.1 hb5.2.1 hb5.2.2 hA hI hKn) (aB_S0 (bs_B _)) (aB_l0 (bs_B _)) rfl (Nat.le_of_ble_eq_true rfl) ⟨rfl, rfl⟩ rfl ?_
  rintro _ ⟨-, v1, rfl, hA1⟩
  refine j_aload_n dX4_set_11 rfl ?_
  refine j_aload_n dX4_set_12 rfl ?_
  refine j_get (v := .ref (bs (π 5))) dX4_set_13 fX4_31 rfl (by first | decide | omega) ((congrFun (zb_lo (bs_B _) (by omega)) _).trans ((CQ_rd hq 0 4).trans gO_tri)) ?_
  refine j_iload_n dX4_set_16 rfl ?_
  refine j_iload_n dX4_set_17 rfl ?_
  refine k_callV2i dX4_set_18 vX4_set_70 (c_set (bs_B _) hA1 hI hKn) (aB_S0 (bs_B _)) (aB_l0 (bs_B _)) rfl rfl (Nat.le_of_ble_eq_true rfl) ⟨rfl, rfl⟩ rfl ?_
  rintro _ _ ⟨v2, p2, ⟨⟩, rfl, hT2⟩
  have hz2 := AT_zp hT2
  have hS2 : AT (va_up V (π 5) v2 (π 4)) (va_up P (π 5) p2 (π 4)) s := by
    rw [va_n h45, va_n h45]
    exact hS
  have hH2 : ∀ i, i < n → AT (va_up V (π 5) v2 (π i)) (va_up P (π 5) p2 (π i)) (aUnS pa i) := fun i hi => by
    rw [va_n (hh5 i hi), va_n (hh5 i hi)]
    exact hH i hi
  have hT5 : AT (va_up V (π 5) v2 (π 5)) (va_up P (π 5) p2 (π 5)) (aSet s a1 a2).2.2 := by
    rw [va_s, va_s]
    exact hT2
  refine z_to (CQ_tr hq hz2.1 hz2.2).2.2.2.1.symm ?_
  refine k_callV1i dX4_set_21 vX4_set_42 (o_keep (CQ_tr hq hz2.1 hz2.2) hS2 hH2 (fun _ => hT5)) rfl (by first | decide | omega) rfl (Nat.le_of_ble_eq_true rfl) ⟨rfl, rfl⟩ rfl ?_
  rintro _ h3 ⟨⟨⟩, hlo, hch⟩
  refine j_iret dX4_set_24 rfl (rfl) ?_
  refine hQ _ _ ⟨rfl, fun x hx => ?_, o_fin (aOk_set hM) hch⟩
  rw [hlo x hx, gO_o (by omega), zb_lo (bs_B _) (by omega)]
