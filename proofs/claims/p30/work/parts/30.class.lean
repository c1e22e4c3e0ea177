variable {nz : Nat}
-- coughs and beats
theorem zb_c {g : zH} {B : Nat} {v : Nat → Nat → Int32} {p : Nat → Nat} {N W K : Nat} {q : Int32 × (Nat → Int32)} {x : Int32} {t : Nat → Int32} (e : q = (x, t)) (hK : t 210 = nI K) (hA : AR v p t N W K) : some x = some q.1 ∧ ∃ v' p' K', gAu g B v p = gAu g B v' p' ∧ q.2 210 = nI K' ∧ AR v' p' q.2 N W K' := by
  subst e
  exact ⟨rfl, v, p, K, rfl, hK, hA⟩
theorem zb_d {g : zH} {B : Nat} {v : Nat → Nat → Int32} {p : Nat → Nat} {N W K : Nat} {q t : Nat → Int32} (e : q = t) (hK : t 210 = nI K) (hA : AR v p t N W K) : (none : Option Int32) = none ∧ ∃ v' p' K', gAu g B v p = gAu g B v' p' ∧ q 210 = nI K' ∧ AR v' p' q N W K' := by
  subst e
  exact ⟨rfl, v, p, K, rfl, hK, hA⟩
section CX
variable {v : Nat → Nat → Int32} {p : Nat → Nat} {s : Nat → Int32} {N W K k : Nat}
theorem aGo_K {how : Nat} (hh : how ≤ 3) (hK : s 210 = nI K) (hK8 : K ≤ 8) : aGo s how 210 = nI (if 8 ≤ K then K else K + 1) := by
  have hf := aFc_r hh
  rw [aGo_at hh hK hK8, if_neg (by omega), if_neg (by omega), if_pos rfl]
theorem ar_c3 (hA : AR v p s N W K) : AR (up2 (up2 v 0 16 (s 208 + 1)) (p 16) 7 (s 153 + 1)) p (aC3 s) N W K := by
  have hp := hA.2.1.1 16 (by omega)
  have h0 : ¬ 0 = p 16 := fun e => by unfold aL at hp; omega
  have h1 : AR (up2 v (p 16) 7 (s 153 + 1)) p (upd s 153 (s 153 + 1)) N W K := by
    refine ar_up hA (fun a b h => up2_n (fun e _ => h e)) (fun j hj => upd_n (by omega)) ?_ (fun hup => ?_)
    · rw [up2_n (fun _ e => absurd e (by first | decide | omega)), up2_n (fun _ e => absurd e (by first | decide | omega))]
      exact ar_z hA hp
    · obtain ⟨g0, g1, g2, g3, g4, g5, g6, g7, g8⟩ := ar_u hA hup
      unfold AU
      rw [up2_s, upd_s, up2_n (fun _ e => absurd e (by first | decide | omega)), up2_n (fun _ e => absurd e (by first | decide | omega)), up2_n (fun _ e => absurd e (by first | decide | omega)), up2_n (fun _ e => absurd e (by first | decide | omega)), up2_n (fun _ e => absurd e (by first | decide | omega)), up2_n (fun _ e => absurd e (by first | decide | omega)), up2_n (fun _ e => absurd e (by first | decide | omega)), up2_n (fun _ e => absurd e (by first | decide | omega)), upd_n (by first | decide | omega), upd_n (by first | decide | omega), upd_n (by first | decide | omega), upd_n (by first | decide | omega), upd_n (by first | decide | omega), upd_n (by first | decide | omega), upd_n (by first | decide | omega), upd_n (by first | decide | omega)]
      exact ⟨g0, g1, g2, g3, g4, g5, g6, rfl, g8⟩
  have h2 := ar_sc1 (o := 0) (k := 16) (x := s 208 + 1) h1 (by first | decide | omega) (by first | decide | omega)
  rw [up2_sw (fun e _ => h0 e)]
  have e : aC3 s = upd (upd s 153 (s 153 + 1)) 208 (s 208 + 1) := by
    unfold aC3
    dsimp only
    rw [upd_n (j := 208) (by first | decide | omega)]
  rw [e]
  exact h2
theorem ar_c1 (hA : AR v p s N W K) (hk : k < N) : AR (up2 (up2 v 0 14 (s 206 + 1)) (2 + k) 7 (s (11 * k + 6) + 1)) p (aC1 s k) N W K := by
  have hN := hA.1.1
  have h1 := ar_bd (j := 6) (x := s (11 * k + 6) + 1) hA hk (by first | decide | omega)
  have h2 := ar_sc1 (o := 0) (k := 14) (x := s 206 + 1) h1 (by first | decide | omega) (by first | decide | omega)
  rw [up2_sw (fun e _ => by omega)]
  have e : aC1 s k = upd (upd s (11 * k + 6) (s (11 * k + 6) + 1)) 206 (s 206 + 1) := by
    unfold aC1
    dsimp only
    rw [upd_n (j := 206) (by omega)]
  rw [e]
  exact h2
theorem aC1_148 (hk : k < 12) : aC1 s k 148 = s 148 := aC1_n (by omega) (by omega)
theorem aBar_c1 (hk : k < 12) : aBar (aC1 s k) k = aBar s k := by
  have e : ∀ j, j ≠ 11 * k + 6 → j ≠ 206 → aC1 s k j = s j := fun j h1 h2 => aC1_n h1 h2
  unfold aBar aLoud aAsk
  rw [e 148 (by omega) (by omega), e 212 (by omega) (by omega), e (11 * k + 3) (by omega) (by omega), e (11 * k + 4) (by omega) (by omega), e (11 * k + 5) (by omega) (by omega), e (11 * k + 0) (by omega) (by omega), e 152 (by omega) (by omega), e 149 (by omega) (by omega), e 151 (by omega) (by omega), e 150 (by omega) (by omega), e (11 * k + 2) (by omega) (by omega)]
theorem ar_c2 (hA : AR v p s N W K) (hup : s 148 = 1) (hk : k < N) {c : Int32} (hc : aZb c) : AR (up2 (up2 (cTb v (p 16) (aAsk s) (nI k) c) 0 15 (s 207 + 1)) (2 + k) 8 (s (11 * k + 7) + 1)) p (aC2 s k c) N W K := by
  have hN := hA.1.1
  have hp := hA.2.1.1 16 (by omega)
  have h1 : AR (cTb v (p 16) (aAsk s) (nI k) c) p (upd (upd (upd (upd (upd s 151 (aAsk s)) 152 (nI k + 1)) 156 c) 157 1) 155 (s 155 + 1)) N W K := by
    refine ar_up hA (fun a b h => ?_) (fun j hj => ?_) ?_ (fun hup => ?_)
    · unfold cTb
      rw [up2_n (fun e _ => h e), up2_n (fun e _ => h e), up2_n (fun e _ => h e), up2_n (fun e _ => h e), up2_n (fun e _ => h e)]
    · rw [upd_n (by omega), upd_n (by omega), upd_n (by omega), upd_n (by omega), upd_n (by omega)]
    · unfold cTb
      rw [up2_n (fun _ e => absurd e (by first | decide | omega)), up2_n (fun _ e => absurd e (by first | decide | omega)), up2_s, up2_n (fun _ e => absurd e (by first | decide | omega)), up2_s]
      exact ⟨hc, Or.inr rfl⟩
    · obtain ⟨g0, g1, g2, g3, g4, g5, g6, g7, g8⟩ := ar_u hA hup
      unfold AU cTb
      refine ⟨?_, ?_, ?_, ?_, ?_, ?_, ?_, ?_, ?_⟩
      · rw [up2_n (fun _ e => absurd e (by first | decide | omega)), up2_n (fun _ e => absurd e (by first | decide | omega)), up2_n (fun _ e => absurd e (by first | decide | omega)), up2_n (fun _ e => absurd e (by first | decide | omega)), up2_n (fun _ e => absurd e (by first | decide | omega)), upd_n (by first | decide | omega), upd_n (by first | decide | omega), upd_n (by first | decide | omega), upd_n (by first | decide | omega), upd_n (by first | decide | omega)]
        exact g0
      · rw [up2_n (fun _ e => absurd e (by first | decide | omega)), up2_n (fun _ e => absurd e (by first | decide | omega)), up2_n (fun _ e => absurd e (by first | decide | omega)), up2_n (fun _ e => absurd e (by first | decide | omega)), up2_n (fun _ e => absurd e (by first | decide | omega)), upd_n (by first | decide | omega), upd_n (by first | decide | omega), upd_n (by first | decide | omega), upd_n (by first | decide | omega), upd_n (by first | decide | omega)]
        exact g1
      · rw [up2_n (fun _ e => absurd e (by first | decide | omega)), up2_n (fun _ e => absurd e (by first | decide | omega)), up2_n (fun _ e => absurd e (by first | decide | omega)), up2_n (fun _ e => absurd e (by first | decide | omega)), up2_s, upd_n (by first | decide | omega), upd_n (by first | decide | omega), upd_n (by first | decide | omega), upd_n (by first | decide | omega), upd_s]
      · rw [up2_n (fun _ e => absurd e (by first | decide | omega)), up2_n (fun _ e => absurd e (by first | decide | omega)), up2_n (fun _ e => absurd e (by first | decide | omega)), up2_s, upd_n (by first | decide | omega), upd_n (by first | decide | omega), upd_n (by first | decide | omega), upd_s, Int32.add_sub_cancel]
      · rw [up2_n (fun _ e => absurd e (by first | decide | omega)), up2_n (fun _ e => absurd e (by first | decide | omega)), up2_s, upd_n (by first | decide | omega), upd_n (by first | decide | omega), upd_s]
      · rw [up2_n (fun _ e => absurd e (by first | decide | omega)), up2_s, upd_n (by first | decide | omega), upd_s]
      · rw [up2_s, upd_s, g6]
      · rw [up2_n (fun _ e => absurd e (by first | decide | omega)), up2_n (fun _ e => absurd e (by first | decide | omega)), up2_n (fun _ e => absurd e (by first | decide | omega)), up2_n (fun _ e => absurd e (by first | decide | omega)), up2_n (fun _ e => absurd e (by first | decide | omega)), upd_n (by first | decide | omega), upd_n (by first | decide | omega), upd_n (by first | decide | omega), upd_n (by first | decide | omega), upd_n (by first | decide | omega)]
        exact g7
      · rw [up2_n (fun _ e => absurd e (by first | decide | omega)), up2_n (fun _ e => absurd e (by first | decide | omega)), up2_n (fun _ e => absurd e (by first | decide | omega)), up2_n (fun _ e => absurd e (by first | decide | omega)), up2_n (fun _ e => absurd e (by first | decide | omega)), upd_n (by first | decide | omega), upd_n (by first | decide | omega), upd_n (by first | decide | omega), upd_n (by first | decide | omega), upd_n (by first | decide | omega)]
        exact g8
  have h2 := ar_sc1 (o := 0) (k := 15) (x := s 207 + 1) h1 (by first | decide | omega) (by first | decide | omega)
  have h3 := ar_bd (j := 7) (x := s (11 * k + 7) + 1) h2 hk (by first | decide | omega)
  have e : aC2 s k c = upd (upd (upd (upd (upd (upd (upd s 151 (aAsk s)) 152 (nI k + 1)) 156 c) 157 1) 155 (s 155 + 1)) 207 (s 207 + 1)) (11 * k + 7) (s (11 * k + 7) + 1) := by
    unfold aC2
    dsimp only
    have e1 : (upd (upd (upd (upd s 151 (aAsk s)) 152 (nI k + 1)) 156 c) 157 1) 155 = s 155 := by
      rw [upd_n (by first | decide | omega), upd_n (by first | decide | omega), upd_n (by first | decide | omega), upd_n (by first | decide | omega)]
    rw [e1]
    have e2 : (upd (upd (upd (upd (upd s 151 (aAsk s)) 152 (nI k + 1)) 156 c) 157 1) 155 (s 155 + 1)) 207 = s 207 := by
      rw [upd_n (by first | decide | omega), upd_n (by first | decide | omega), upd_n (by first | decide | omega), upd_n (by first | decide | omega), upd_n (by first | decide | omega)]
    rw [e2]
    have e3 : (upd (upd (upd (upd (upd (upd s 151 (aAsk s)) 152 (nI k + 1)) 156 c) 157 1) 155 (s 155 + 1)) 207 (s 207 + 1)) (11 * k + 7) = s (11 * k + 7) := by
      rw [upd_n (by omega), upd_n (by omega), upd_n (by omega), upd_n (by omega), upd_n (by omega), upd_n (by omega)]
    rw [e3]
  rw [e]
  exact h3
def dDb (s : Nat → Int32) : Nat → Int32 := if aC3 s 153 < aC3 s 213 then aC3 s else aGo (aC3 s) 1
def dCgT (t : Nat → Int32) (k : Nat) : Nat → Int32 := if t (11 * k + 4) ≤ t (11 * k + 3) then t else dDb t
def dCgh (s : Nat → Int32) (k : Nat) (c : Int32) : Int32 × (Nat → Int32) := if aBar s k = 0 then (aAsk (aC1 s k), dCgT (aC2 (aC1 s k) k c) k) else (0, aC1 s k)
theorem aBar_0 : aBar s k ≤ 0 ↔ aBar s k = 0 := by
  unfold aBar
  repeat' split
  all_goals decide
theorem dCgh_eq {c : Int32} (hk : k < 12) : dCgh s k c = aCgh s k c := by
  unfold dCgh aCgh
  by_cases h : aBar s k = 0
  · rw [if_pos h, if_pos (aBar_0.mpr h)]
    unfold aC5 aC4 dCgT
    by_cases h2 : aC2 (aC1 s k) k c (11 * k + 4) ≤ aC2 (aC1 s k) k c (11 * k + 3)
    · rw [if_pos h2, if_pos h2, aC2_151 hk]
    · rw [if_neg h2, if_neg h2]
      unfold dDb
      by_cases h3 : aC3 (aC2 (aC1 s k) k c) 153 < aC3 (aC2 (aC1 s k) k c) 213
      · rw [if_pos h3, if_pos h3, aC3_n (by first | decide | omega) (by first | decide | omega), aC2_151 hk]
      · rw [if_neg h3, if_neg h3, aGo_n (by first | decide | omega) (by first | decide | omega) (by first | decide | omega) (by first | decide | omega) (by first | decide | omega), aC3_n (by first | decide | omega) (by first | decide | omega), aC2_151 hk]
  · rw [if_neg h, if_neg (fun q => h (aBar_0.mp q))]
def dCough (s : Nat → Int32) (b c : Int32) : Int32 × (Nat → Int32) := if aIs s b = 0 then (-1000001, s) else dCgh s b.toNatClampNeg c
end CX
set_option maxRecDepth 4000 in
set_option maxHeartbeats 2000000 in
theorem c_doubt {g : zH} {B : Nat} (hB : aB B) {v : Nat → Nat → Int32} {p : Nat → Nat} {s : Nat → Int32} {N W K : Nat} (hA : AR v p s N W K) (hK : s 210 = nI K) (hup : s 148 = 1) (hx : s 155 ≤ 0 ↔ s 152 ≤ 0) : zCT mX0_doubtBid [.ref B] (215 + nz) (gAu g B v p) (215 + nz) (fun r h' => r = none ∧ ∃ v' p' K', h' = gAu g B v' p' ∧ (dDb s) 210 = nI K' ∧ AR v' p' (dDb s) N W K') := by
  intro X Q hQ
  show zJ X mX0_doubtBid (215 + nz) 0 [.ref B] [] (215 + nz) (gAu g B v p) Q
  have hN := hA.1
  have hP := hA.2.1
  have hL := hP.1 16 (by omega)
  have hU := ar_u hA hup
  have hp0 : ∀ o, ¬ aL o → ¬ o = p 16 := fun o q e => q (e ▸ hL)
  refine j_aload_n dX0_doubtBid_0 rfl ?_
  refine j_dup dX0_doubtBid_1 rfl ?_
  refine j_get (v := .int (s 208)) dX0_doubtBid_2 fX0_84 (aB_S0 hB) (aB_l0 hB) ((zb_int0 (by unfold tI; decide)).trans (congrArg Value.int (ar_s hA 0 16 (by first | decide | omega)))) ?_
  refine j_iconst (v := 1) dX0_doubtBid_5 (by first | decide | omega) ?_
  refine j_iadd dX0_doubtBid_6 ?_
  refine j_put dX0_doubtBid_7 fX0_84 (aB_S0 hB) (aB_l0 hB) (rfl) ?_
  rw [zb_wr0 (k := 16) (by unfold tI; decide)]
  refine j_aload_n dX0_doubtBid_10 rfl ?_
  refine j_get dX0_doubtBid_11 fX0_35 (aB_S0 hB) (aB_l0 hB) zb_p9 ?_
  refine j_dup dX0_doubtBid_14 rfl ?_
  refine j_get (v := .int (s 153)) dX0_doubtBid_15 fX0_166 (aB_SL hB hL) (aB_lt hB (aL_lt hL)) ((zb_int (tI_L hL)).trans (congrArg Value.int ((up2_n (fun e _ => hp0 0 (by unfold aL; omega) e.symm)).trans hU.2.2.2.2.2.2.2.1))) ?_
  refine j_iconst (v := 1) dX0_doubtBid_18 (by first | decide | omega) ?_
  refine j_iadd dX0_doubtBid_19 ?_
  refine j_put dX0_doubtBid_20 fX0_166 (aB_SL hB hL) (aB_lt hB (aL_lt hL)) (rfl) ?_
  rw [zb_wr (tI_L hL)]
  have hA3 := ar_c3 hA
  have hK3 : aC3 s 210 = nI K := (aC3_n (by first | decide | omega) (by first | decide | omega)).trans hK
  have hup3 : aC3 s 148 = 1 := (aC3_n (by first | decide | omega) (by first | decide | omega)).trans hup
  have hU3 := ar_u hA3 hup3
  have hx3 : aC3 s 155 ≤ 0 ↔ aC3 s 152 ≤ 0 := by
    rw [aC3_n (j := 155) (by first | decide | omega) (by first | decide | omega), aC3_n (j := 152) (by first | decide | omega) (by first | decide | omega)]
    exact hx
  refine j_aload_n dX0_doubtBid_23 rfl ?_
  refine j_get dX0_doubtBid_24 fX0_35 (aB_S0 hB) (aB_l0 hB) zb_p9 ?_
  refine j_get (v := .int ((aC3 s) 153)) dX0_doubtBid_27 fX0_166 (aB_SL hB hL) (aB_lt hB (aL_lt hL)) ((zb_int (tI_L hL)).trans (congrArg Value.int (hU3.2.2.2.2.2.2.2.1))) ?_
  refine j_aload_n dX0_doubtBid_30 rfl ?_
  refine j_get dX0_doubtBid_31 fX0_32 (aB_S0 hB) (aB_l0 hB) zb_p4 ?_
  refine j_iconst (v := 1) dX0_doubtBid_34 (by first | decide | omega) ?_
  refine k_iald (n := 3) 1 dX0_doubtBid_35 (aB_S hB (by first | decide | omega)) (aB_lt hB (by first | decide | omega)) (rfl) (by omega) (by first | decide | omega) ((zb_int (by unfold tI; omega)).trans (congrArg Value.int (show _ = (aC3 s) 213 from ar_s hA3 33 1 (by first | decide | omega)))) ?_
  refine j_icmp_lt dX0_doubtBid_36 (tgt := 44) rfl (fun c1 => ?_) (fun c1 => ?_)
  · refine j_vret dX0_doubtBid_44 rfl ?_
    exact hQ _ _ (zb_d (if_pos c1) hK3 hA3)
  · refine j_aload_n dX0_doubtBid_39 rfl ?_
    refine j_iconst (v := 1) dX0_doubtBid_40 (by first | decide | omega) ?_
    refine k_callV1v dX0_doubtBid_41 vX0_doubtBid_167 (c_close (how := 1) hB hA3 hK3 (by first | decide | omega) ) (aB_S0 hB) (aB_l0 hB) rfl (Nat.le_of_ble_eq_true rfl) ⟨rfl, rfl⟩ rfl ?_
    rintro _ ⟨-, rfl⟩
    refine j_vret dX0_doubtBid_44 rfl ?_
    exact hQ _ _ (zb_d (if_neg c1) (aGo_K (by first | decide | omega) hK3 hN.2.2) (ar_close hA3 hK3 hup3 hx3 (by first | decide | omega)))
set_option maxRecDepth 4000 in
set_option maxHeartbeats 2000000 in
theorem c_cough0 {g : zH} {B : Nat} (hB : aB B) {v : Nat → Nat → Int32} {p : Nat → Nat} {s : Nat → Int32} {N W K : Nat} (hA : AR v p s N W K) (hI : aIa s N W) (hK : s 210 = nI K) {b c : Int32} (hc : aZb c) : zCT mX0_takeCough [.ref B, .int b, .int c] (215 + nz) (gAu g B v p) (215 + nz) (fun r h' => r = some (dCough s b c).1 ∧ ∃ v' p' K', h' = gAu g B v' p' ∧ ((dCough s b c).2) 210 = nI K' ∧ AR v' p' ((dCough s b c).2) N W K') := by
  intro X Q hQ
  show zJ X mX0_takeCough (215 + nz) 0 [.ref B, .int b, .int c, .null] [] (215 + nz) (gAu g B v p) Q
  have hN := hA.1
  have hL := hA.2.1.1 16 (by omega)
  have hP := hA.2.1
  refine j_aload_n dX0_takeCough_0 rfl ?_
  refine j_iload_n dX0_takeCough_1 rfl ?_
  refine k_callV1i dX0_takeCough_2 vX0_takeCough_113 (c_has hB hA hI) (aB_S0 hB) (aB_l0 hB) rfl (Nat.le_of_ble_eq_true rfl) ⟨rfl, rfl⟩ rfl ?_
  rintro _ _ ⟨⟨⟩, rfl⟩
  refine j_if_ne dX0_takeCough_5 (tgt := 11) rfl (fun c1 => ?_) (fun c1 => ?_)
  · obtain ⟨k, hk, rfl, hb2⟩ := aIs_nat hI.1.1 hN.1 ‹¬ aIs s b = 0›
    refine j_aload_n dX0_takeCough_11 rfl ?_
    refine j_dup dX0_takeCough_12 rfl ?_
    refine j_get (v := .int (s 206)) dX0_takeCough_13 fX0_78 (aB_S0 hB) (aB_l0 hB) ((zb_int0 (by unfold tI; decide)).trans (congrArg Value.int (ar_s hA 0 14 (by first | decide | omega)))) ?_
    refine j_iconst (v := 1) dX0_takeCough_16 (by first | decide | omega) ?_
    refine j_iadd dX0_takeCough_17 ?_
    refine j_put dX0_takeCough_18 fX0_78 (aB_S0 hB) (aB_l0 hB) (rfl) ?_
    rw [zb_wr0 (k := 14) (by unfold tI; decide)]
    refine j_aload_n dX0_takeCough_21 rfl ?_
    refine j_get dX0_takeCough_22 fX0_13 (aB_S0 hB) (aB_l0 hB) zb_p0 ?_
    refine j_iload_n dX0_takeCough_25 rfl ?_
    refine k_aald (n := 12) (t := 1) (r := (B + (2 + k))) k dX0_takeCough_26 (aB_S hB (by first | decide | omega)) (by first | decide | omega) (aB_lt hB (by first | decide | omega)) (by first | rfl | (simp only [z_n, pk_mul, nI_add]; done) | (simp only [z_n, pk_mul, nI_add]; exact pk_sub (by omega)) | (simp only [z_n, pk_mul, nI_add, pk_sub, *]; done)) (by omega) (by first | decide | omega) (zb_bd) ?_
    refine j_dup dX0_takeCough_27 rfl ?_
    refine j_get (v := .int (s (11 * k + 6))) dX0_takeCough_28 fX0_150 (aB_Sb hB (by omega)) (aB_lt hB (by omega)) ((zb_int (tI_b (by omega))).trans (congrArg Value.int ((up2_n (fun e _ => by omega)).trans (ar_b hA hk 6 (by first | decide | omega))))) ?_
    refine j_iconst (v := 1) dX0_takeCough_31 (by first | decide | omega) ?_
    refine j_iadd dX0_takeCough_32 ?_
    refine j_put dX0_takeCough_33 fX0_150 (aB_Sb hB (by omega)) (aB_lt hB (by omega)) (rfl) ?_
    rw [zb_wr (tI_b (by omega))]
    have hA1 := ar_c1 hA hk
    have hI1 : aIa (aC1 s k) N W := aIa_of hI (fun j hj => aC1_rel (by omega) hj)
    have hK1 : aC1 s k 210 = nI K := (aC1_n (by omega) (by omega)).trans hK
    refine j_aload_n dX0_takeCough_36 rfl ?_
    refine j_iload_n dX0_takeCough_37 rfl ?_
    refine k_callV1i dX0_takeCough_38 vX0_takeCough_151 (c_bar hB hA1 hI1 (by omega)) (aB_S0 hB) (aB_l0 hB) rfl (Nat.le_of_ble_eq_true rfl) ⟨rfl, rfl⟩ rfl ?_
    rintro _ _ ⟨⟨⟩, rfl⟩
    rw [aBar_c1 (s := s) (k := k) (by omega)]
    refine j_if_eq dX0_takeCough_41 (tgt := 46) rfl (fun c2 => ?_) (fun c2 => ?_)
    · have hup1 : aC1 s k 148 = 1 := hI1.2.2.2.2.2.1.resolve_left (fun q => (aBar_le (aBar_0.mpr ‹aBar s k = 0›)).1 (by rw [← aC1_148 (s := s) (k := k) (by omega)]; exact q))
      have hU1 := ar_u hA1 hup1
      have hp0 : ∀ o, ¬ aL o → ¬ o = p 16 := fun o q e => q (e ▸ hL)
      refine j_aload_n dX0_takeCough_46 rfl ?_
      refine j_get dX0_takeCough_47 fX0_35 (aB_S0 hB) (aB_l0 hB) zb_p9 ?_
      refine k_callV0i dX0_takeCough_50 vX0_takeCough_147 (d_asked hB hA1 hI1 hup1) (aB_SL hB hL) (aB_lt hB (aL_lt hL))  (Nat.le_of_ble_eq_true rfl) ⟨rfl, rfl⟩ rfl ?_
      rintro _ _ ⟨⟨⟩, rfl⟩
      refine j_istore_n dX0_takeCough_53 (by first | decide | omega) ?_
      refine j_aload_n dX0_takeCough_54 rfl ?_
      refine j_get dX0_takeCough_55 fX0_35 (aB_S0 hB) (aB_l0 hB) zb_p9 ?_
      refine j_iload_n dX0_takeCough_58 rfl ?_
      refine j_iload_n dX0_takeCough_59 rfl ?_
      refine j_iload_n dX0_takeCough_60 rfl ?_
      refine k_callV3v dX0_takeCough_61 vX0_takeCough_155 (c_takeBid hB hL hc) (aB_SL hB hL) (aB_lt hB (aL_lt hL)) rfl rfl rfl (Nat.le_of_ble_eq_true rfl) ⟨rfl, rfl⟩ rfl ?_
      rintro _ ⟨-, rfl⟩
      refine j_aload_n dX0_takeCough_64 rfl ?_
      refine j_dup dX0_takeCough_65 rfl ?_
      refine j_get (v := .int (aC1 s k 207)) dX0_takeCough_66 fX0_81 (aB_S0 hB) (aB_l0 hB) ((zb_int0 (by unfold tI; decide)).trans (congrArg Value.int (((up2_n (fun e _ => hp0 0 (by unfold aL; omega) e)).trans ((up2_n (fun e _ => hp0 0 (by unfold aL; omega) e)).trans ((up2_n (fun e _ => hp0 0 (by unfold aL; omega) e)).trans ((up2_n (fun e _ => hp0 0 (by unfold aL; omega) e)).trans (up2_n (fun e _ => hp0 0 (by unfold aL; omega) e)))))).trans (ar_s hA1 0 15 (by first | decide | omega))))) ?_
      refine j_iconst (v := 1) dX0_takeCough_69 (by first | decide | omega) ?_
      refine j_iadd dX0_takeCough_70 ?_
      refine j_put dX0_takeCough_71 fX0_81 (aB_S0 hB) (aB_l0 hB) (rfl) ?_
      rw [zb_wr0 (k := 15) (by unfold tI; decide)]
      refine j_aload_n dX0_takeCough_74 rfl ?_
      refine j_get dX0_takeCough_75 fX0_13 (aB_S0 hB) (aB_l0 hB) zb_p0 ?_
      refine j_iload_n dX0_takeCough_78 rfl ?_
      refine k_aald (n := 12) (t := 1) (r := (B + (2 + k))) k dX0_takeCough_79 (aB_S hB (by first | decide | omega)) (by first | decide | omega) (aB_lt hB (by first | decide | omega)) (by first | rfl | (simp only [z_n, pk_mul, nI_add]; done) | (simp only [z_n, pk_mul, nI_add]; exact pk_sub (by omega)) | (simp only [z_n, pk_mul, nI_add, pk_sub, *]; done)) (by omega) (by first | decide | omega) (zb_bd) ?_
      refine j_dup dX0_takeCough_80 rfl ?_
      refine j_get (v := .int (aC1 s k (11 * k + 7))) dX0_takeCough_81 fX0_159 (aB_Sb hB (by omega)) (aB_lt hB (by omega)) ((zb_int (tI_b (by omega))).trans (congrArg Value.int ((up2_n (fun e _ => by omega)).trans (((up2_n (fun e _ => hp0 (2 + k) (by unfold aL; omega) e)).trans ((up2_n (fun e _ => hp0 (2 + k) (by unfold aL; omega) e)).trans ((up2_n (fun e _ => hp0 (2 + k) (by unfold aL; omega) e)).trans ((up2_n (fun e _ => hp0 (2 + k) (by unfold aL; omega) e)).trans (up2_n (fun e _ => hp0 (2 + k) (by unfold aL; omega) e)))))).trans (ar_b hA1 hk 7 (by first | decide | omega)))))) ?_
      refine j_iconst (v := 1) dX0_takeCough_84 (by first | decide | omega) ?_
      refine j_iadd dX0_takeCough_85 ?_
      refine j_put dX0_takeCough_86 fX0_159 (aB_Sb hB (by omega)) (aB_lt hB (by omega)) (rfl) ?_
      rw [zb_wr (tI_b (by omega))]
      have hA2 := ar_c2 hA1 hup1 hk hc
      have hI2 := (aIa_bid2 (c := c) hI hk (aBar_0.mpr ‹aBar s k = 0›)).1
      have hK2 : aC2 (aC1 s k) k c 210 = nI K := (aC2_n (by omega) (by omega) (by omega) (by omega) (by omega)).trans hK1
      have hup2 : aC2 (aC1 s k) k c 148 = 1 := (aC2_n (by omega) (by omega) (by omega) (by omega) (by omega)).trans hup1
      have hx2 := (aHas_who hI2 hup2).1
      refine j_aload_n dX0_takeCough_89 rfl ?_
      refine j_get dX0_takeCough_90 fX0_13 (aB_S0 hB) (aB_l0 hB) zb_p0 ?_
      refine j_iload_n dX0_takeCough_93 rfl ?_
      refine k_aald (n := 12) (t := 1) (r := (B + (2 + k))) k dX0_takeCough_94 (aB_S hB (by first | decide | omega)) (by first | decide | omega) (aB_lt hB (by first | decide | omega)) (by first | rfl | (simp only [z_n, pk_mul, nI_add]; done) | (simp only [z_n, pk_mul, nI_add]; exact pk_sub (by omega)) | (simp only [z_n, pk_mul, nI_add, pk_sub, *]; done)) (by omega) (by first | decide | omega) (zb_bd) ?_
      refine j_get (v := .int ((aC2 (aC1 s k) k c) (11 * k + 4))) dX0_takeCough_95 fX0_117 (aB_Sb hB (by omega)) (aB_lt hB (by omega)) ((zb_int (tI_b (by omega))).trans (congrArg Value.int (ar_b hA2 (by omega) 4 (by first | decide | omega)))) ?_
      refine j_aload_n dX0_takeCough_98 rfl ?_
      refine j_get dX0_takeCough_99 fX0_13 (aB_S0 hB) (aB_l0 hB) zb_p0 ?_
      refine j_iload_n dX0_takeCough_102 rfl ?_
      refine k_aald (n := 12) (t := 1) (r := (B + (2 + k))) k dX0_takeCough_103 (aB_S hB (by first | decide | omega)) (by first | decide | omega) (aB_lt hB (by first | decide | omega)) (by first | rfl | (simp only [z_n, pk_mul, nI_add]; done) | (simp only [z_n, pk_mul, nI_add]; exact pk_sub (by omega)) | (simp only [z_n, pk_mul, nI_add, pk_sub, *]; done)) (by omega) (by first | decide | omega) (zb_bd) ?_
      refine j_get (v := .int ((aC2 (aC1 s k) k c) (11 * k + 3))) dX0_takeCough_104 fX0_160 (aB_Sb hB (by omega)) (aB_lt hB (by omega)) ((zb_int (tI_b (by omega))).trans (congrArg Value.int (ar_b hA2 (by omega) 3 (by first | decide | omega)))) ?_
      refine j_icmp_le dX0_takeCough_107 (tgt := 114) rfl (fun c3 => ?_) (fun c3 => ?_)
      · refine j_iload_n dX0_takeCough_114 rfl ?_
        refine j_iret dX0_takeCough_115 rfl (rfl) ?_
        exact hQ _ _ (zb_c ((if_neg c1).trans ((by rw [hb2]; exact ((if_pos c2).trans (congrArg (Prod.mk (aAsk (aC1 s k))) ((if_pos c3).trans (rfl))))))) hK2 hA2)
      · refine j_aload_n dX0_takeCough_110 rfl ?_
        refine k_callV0v dX0_takeCough_111 vX0_takeCough_163 (c_doubt hB hA2 hK2 hup2 hx2) (aB_S0 hB) (aB_l0 hB)  (Nat.le_of_ble_eq_true rfl) ⟨rfl, rfl⟩ rfl ?_
        rintro _ ⟨-, v9, p9, K9, rfl, hK9, hA9⟩
        refine j_iload_n dX0_takeCough_114 rfl ?_
        refine j_iret dX0_takeCough_115 rfl (rfl) ?_
        exact hQ _ _ (zb_c ((if_neg c1).trans ((by rw [hb2]; exact ((if_pos c2).trans (congrArg (Prod.mk (aAsk (aC1 s k))) ((if_neg c3).trans (rfl))))))) hK9 hA9)
    · refine j_iconst (v := 0) dX0_takeCough_44 (by first | decide | omega) ?_
      refine j_iret dX0_takeCough_45 rfl (rfl) ?_
      exact hQ _ _ (zb_c ((if_neg c1).trans ((by rw [hb2]; exact ((if_neg c2).trans (rfl))))) hK1 hA1)
  · refine j_ldc (v := (-1000001)) dX0_takeCough_8 cX0_102 ?_
    refine j_iret dX0_takeCough_10 rfl (rfl) ?_
    exact hQ _ _ (zb_c ((if_pos c1).trans (rfl)) hK hA)
theorem c_cough {g : zH} {B : Nat} (hB : aB B) {v : Nat → Nat → Int32} {p : Nat → Nat} {s : Nat → Int32} {N W K : Nat} (hA : AR v p s N W K) (hI : aIa s N W) (hK : s 210 = nI K) {b c : Int32} (hc : aZb c) : zCT mX0_takeCough [.ref B, .int b, .int c] (215 + nz) (gAu g B v p) (215 + nz) (fun r h' => r = some (if aIs s b = 0 then (-1000001, s) else aCgh s b.toNatClampNeg c).1 ∧ ∃ v' p' K', h' = gAu g B v' p' ∧ ((if aIs s b = 0 then (-1000001, s) else aCgh s b.toNatClampNeg c).2) 210 = nI K' ∧ AR v' p' ((if aIs s b = 0 then (-1000001, s) else aCgh s b.toNatClampNeg c).2) N W K') := by
  have e : dCough s b c = if aIs s b = 0 then (-1000001, s) else aCgh s b.toNatClampNeg c := by
    unfold dCough
    by_cases h : aIs s b = 0
    · rw [if_pos h, if_pos h]
    · obtain ⟨k, hk, rfl, hb2⟩ := aIs_nat hI.1.1 hA.1.1 h
      have := hA.1.1
      rw [if_neg h, if_neg h, hb2, dCgh_eq (by omega)]
  rw [← e]
  exact c_cough0 hB hA hI hK hc
theorem c_cough1 {g : zH} {B : Nat} (hB : aB B) {v : Nat → Nat → Int32} {p : Nat → Nat} {s : Nat → Int32} {N W K : Nat} (hA : AR v p s N W K) (hI : aIa s N W) (hK : s 210 = nI K) {k : Nat} (hk : k < N) {c : Int32} (hc : aZb c) : zCT mX0_takeCough [.ref B, .int (nI k), .int c] (215 + nz) (gAu g B v p) (215 + nz) (fun r h' => r = some (aCgh s k c).1 ∧ ∃ v' p' K', h' = gAu g B v' p' ∧ ((aCgh s k c).2) 210 = nI K' ∧ AR v' p' ((aCgh s k c).2) N W K') := by
  have h1 : ¬ aIs s (nI k) = 0 := by
    rw [aIs_of hI.1.1 hA.1.1 hk]
    decide
  have h := c_cough (nz := nz) (g := g) hB hA hI hK (b := nI k) hc
  rw [if_neg h1, z_cl (by have := hA.1.1; omega)] at h
  exact h
