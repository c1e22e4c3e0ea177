theorem s_aldv {X : Nat × (Nat → Int32)} {M : zM} {pc : Nat} {ls st : List Value} {Q : zQt} {g : zH} {s : Nat → Int32} {i v : Int32} (j : Nat) (hd : decode (zMb M) pc = .ok (.iaload, 1)) (hi : i = nI j) (hj : j < 215) (hv : s j = v) (kk : zJ X M 222 (pc + 1) ls (.int v :: st) 222 (gS g s) Q) : zJ X M 222 pc ls (.int i :: .ref 216 :: st) 222 (gS g s) Q :=
  s_ald j hd hi hj (by rw [hv]; exact kk)
/-- recording takes the heap g at s to g' -/
abbrev zCh (g g' : zH) (s : Nat → Int32) : Prop := zCT mX5_changes [.ref 215] 222 (gS g s) 222 (fun r h' => r = none ∧ h' = gS g' s)
theorem z_pc {g g' : zH} {p : Int32 × Bool × (Nat → Int32)} {x : Int32} {b : Bool} {t : Nat → Int32} (e : p = (x, b, t)) : some x = some p.1 ∧ gS (cond b g' g) t = gS (cond p.2.1 g' g) p.2.2 := by
  subst e
  exact ⟨rfl, rfl⟩
theorem aIn_of {v a b : Int32} (h : ¬ aIn v a b = 0) : a ≤ v ∧ v ≤ b := by
  unfold aIn at h
  by_cases h1 : v < a
  · rw [if_pos h1] at h
    exact absurd rfl h
  · rw [if_neg h1] at h
    by_cases h2 : b < v
    · rw [if_pos h2] at h
      exact absurd rfl h
    · exact ⟨Int32.not_lt.mp h1, Int32.not_lt.mp h2⟩
theorem aIn_nat {v : Int32} {a b : Nat} (hb : b < 1000) (ha : a ≤ b) (h : ¬ aIn v (nI a) (nI b) = 0) : ∃ k, a ≤ k ∧ k ≤ b ∧ v = nI k ∧ v.toNatClampNeg = k := by
  obtain ⟨h1, h2⟩ := aIn_of h
  have h0 : ¬ v < 0 := by
    rw [Int32.le_iff_toInt_le, nI_toInt (by omega)] at h1
    rw [Int32.lt_iff_toInt_lt]
    intro q
    have : (0 : Int32).toInt = 0 := by decide
    omega
  obtain ⟨k, hk, rfl⟩ := nI_of h0
  rw [nI_leI (by omega) hk] at h1
  rw [nI_leI hk (by omega)] at h2
  exact ⟨k, h1, h2, rfl, nI_clamp hk⟩
theorem aIs_nat {s : Nat → Int32} {b : Int32} {N : Nat} (hn : s 199 = nI N) (hN : N ≤ 12) (h : ¬ aIs s b = 0) : ∃ k, k < N ∧ b = nI k ∧ b.toNatClampNeg = k := by
  unfold aIs at h
  rw [hn] at h
  rcases Nat.eq_zero_or_pos N with rfl | hp
  · obtain ⟨h1, h2⟩ := aIn_of h
    rw [Int32.le_iff_toInt_le] at h1 h2
    have e1 : (nI 0 - 1).toInt = -1 := by decide
    have e2 : (0 : Int32).toInt = 0 := by decide
    omega
  · obtain ⟨m, rfl⟩ : ∃ m, N = m + 1 := ⟨N - 1, by omega⟩
    rw [nI_pred] at h
    obtain ⟨k, h1, h2, h3, h4⟩ := aIn_nat (a := 0) (b := m) (by omega) (by omega) h
    exact ⟨k, by omega, h3, h4⟩
def aBid (s : Nat → Int32) (N : Nat) (row seat purse strength : Int32) : Nat → Int32 :=
  let t := upd s (11 * N + 0) row
  let t := upd t (11 * N + 1) seat
  let t := upd t (11 * N + 2) purse
  let t := upd t (11 * N + 3) strength
  let t := upd t (11 * N + 10) purse
  upd t 199 (t 199 + 1)
def aBidder (s : Nat → Int32) (N : Nat) (row seat purse strength : Int32) : Int32 × Bool × (Nat → Int32) :=
  if aSeat row seat = 0 then (-1000001, false, s) else if aIn purse 0 999 = 0 then (-1000001, false, s) else if aIn strength 1 9 = 0 then (-1000001, false, s)
  else if aFind s row seat N 0 < 0 then (if s 199 = 12 then (-1000003, false, s) else (nI N, true, aBid s N row seat purse strength)) else (-1000002, false, s)
def aSetB (s : Nat → Int32) (b v : Int32) (cell : Nat) : Int32 × Bool × (Nat → Int32) :=
  if aIs s b = 0 then (-1000001, false, s) else if aIn v 0 5 = 0 then (-1000001, false, s) else (s (11 * b.toNatClampNeg + cell), true, upd s (11 * b.toNatClampNeg + cell) v)
def aLotT (s : Nat → Int32) (W : Nat) (r v : Int32) : Nat → Int32 :=
  let t := upd s (132 + 2 * W) r
  let t := upd t (132 + 2 * W + 1) v
  let t := upd t 200 (t 200 + 1)
  upd t 201 (t 201 + 1)
def aLot (s : Nat → Int32) (W : Nat) (r v : Int32) : Int32 × Bool × (Nat → Int32) :=
  if aIn r 1 99 = 0 then (-1000001, false, s) else if aIn v 1 20 = 0 then (-1000001, false, s) else if s 200 = 8 then (-1000003, false, s) else (aLotT s W r v 200, true, aLotT s W r v)
def aCough (s : Nat → Int32) (b : Int32) : Int32 × Bool × (Nat → Int32) := if aIs s b = 0 then (-1000001, false, s) else ((aCgh s b.toNatClampNeg 0).1, true, (aCgh s b.toNatClampNeg 0).2)
def aBeats (s : Nat → Int32) (N : Nat) (many : Int32) : Int32 × Bool × (Nat → Int32) :=
  if aIn many 1 50 = 0 then (-1000001, false, s) else if s 198 + many ≤ 9999 then (aGone (aPass N many.toNatClampNeg s) - aGone s, true, aPass N many.toNatClampNeg s) else (-1000003, false, s)
def aSet (s : Nat → Int32) (k v : Int32) : Int32 × Bool × (Nat → Int32) :=
  if aIn k 0 2 = 0 then (-1000001, false, s) else if aIn v 1 9 = 0 then (-1000001, false, s) else (s (212 + k.toNatClampNeg), true, upd s (212 + k.toNatClampNeg) v)
set_option maxRecDepth 4000 in
set_option maxHeartbeats 1000000 in
theorem s_bidder {g g' : zH} {s : Nat → Int32} (hg : gP g) (hg2 : gP g') (hch : zCh g g' s) {N : Nat} (hn : s 199 = nI N) (hN : N ≤ 12) {row seat purse strength : Int32} : zCT mX5_bidder [.ref 215, .int row, .int seat, .int purse, .int strength] 222 (gS g s) 222 (fun r h' => r = some (aBidder s N row seat purse strength).1 ∧ h' = gS (cond (aBidder s N row seat purse strength).2.1 g' g) (aBidder s N row seat purse strength).2.2) := by
  intro X Q hQ
  show zJ X mX5_bidder 222 0 [.ref 215, .int row, .int seat, .int purse, .int strength, .null] [] 222 (gS g s) Q
  refine j_iload_n dX5_bidder_0 rfl ?_
  refine j_iload_n dX5_bidder_1 rfl ?_
  refine k_callS2i dX5_bidder_2 vX5_bidder_74 (s_isSeat) rfl rfl (Nat.le_of_ble_eq_true rfl) ⟨rfl, rfl⟩ rfl ?_
  rintro _ _ ⟨⟨⟩, rfl⟩
  refine j_if_eq dX5_bidder_5 (tgt := 30) rfl (fun c1 => ?_) (fun c1 => ?_)
  · refine j_ldc (v := (-1000001)) dX5_bidder_30 cX5_78 ?_
    refine j_iret dX5_bidder_32 rfl (rfl) ?_
    exact hQ _ _ (z_pc (g := g) (g' := g') (b := false) ((if_pos c1).trans (rfl)))
  · refine j_iload_n dX5_bidder_8 rfl ?_
    refine j_iconst (v := 0) dX5_bidder_9 (by decide) ?_
    refine j_sipush (v := 999) dX5_bidder_10 (by decide) ?_
    refine k_callS3i dX5_bidder_13 vX5_bidder_36 (s_in) rfl rfl rfl (Nat.le_of_ble_eq_true rfl) ⟨rfl, rfl⟩ rfl ?_
    rintro _ _ ⟨⟨⟩, rfl⟩
    refine j_if_eq dX5_bidder_16 (tgt := 30) rfl (fun c2 => ?_) (fun c2 => ?_)
    · refine j_ldc (v := (-1000001)) dX5_bidder_30 cX5_78 ?_
      refine j_iret dX5_bidder_32 rfl (rfl) ?_
      exact hQ _ _ (z_pc (g := g) (g' := g') (b := false) ((if_neg c1).trans ((if_pos c2).trans (rfl))))
    · refine j_iload dX5_bidder_19 rfl ?_
      refine j_iconst (v := 1) dX5_bidder_21 (by decide) ?_
      refine j_bipush (v := 9) dX5_bidder_22 (by decide) ?_
      refine k_callS3i dX5_bidder_24 vX5_bidder_36 (s_in) rfl rfl rfl (Nat.le_of_ble_eq_true rfl) ⟨rfl, rfl⟩ rfl ?_
      rintro _ _ ⟨⟨⟩, rfl⟩
      refine j_if_ne dX5_bidder_27 (tgt := 33) rfl (fun c3 => ?_) (fun c3 => ?_)
      · refine j_aload_n dX5_bidder_33 rfl ?_
        refine j_iload_n dX5_bidder_34 rfl ?_
        refine j_iload_n dX5_bidder_35 rfl ?_
        refine k_callV2i dX5_bidder_36 vX5_bidder_79 (s_seated hg hn hN) rfl (by decide) rfl rfl (Nat.le_of_ble_eq_true rfl) ⟨rfl, rfl⟩ rfl ?_
        rintro _ _ ⟨⟨⟩, rfl⟩
        refine j_if_lt dX5_bidder_39 (tgt := 45) rfl (fun c4 => ?_) (fun c4 => ?_)
        · refine j_aload_n dX5_bidder_45 rfl ?_
          refine j_get (v := .ref 216) dX5_bidder_46 fX5_7 rfl (by decide) (gS_p0 hg) ?_
          refine j_sipush (v := 199) dX5_bidder_49 (by decide) ?_
          refine s_ald 199 dX5_bidder_52 (rfl) (by first | decide | omega) ?_
          refine j_bipush (v := 12) dX5_bidder_53 (by decide) ?_
          refine j_icmp_ne dX5_bidder_55 (tgt := 61) rfl (fun c5 => ?_) (fun c5 => ?_)
          · have hN2 : N < 12 := by
              rcases Nat.lt_or_ge N 12 with q | q
              · exact q
              · exact absurd (by rw [hn, show N = 12 by omega]; rfl) ‹¬ s 199 = 12›
            refine j_aload_n dX5_bidder_61 rfl ?_
            refine k_callV0v dX5_bidder_62 vX5_bidder_84 (hch) rfl (by decide)  (Nat.le_of_ble_eq_true rfl) ⟨rfl, rfl⟩ rfl ?_
            rintro _ ⟨-, rfl⟩
            refine j_aload_n dX5_bidder_65 rfl ?_
            refine j_get (v := .ref 216) dX5_bidder_66 fX5_7 rfl (by decide) (gS_p0 hg2) ?_
            refine j_sipush (v := 199) dX5_bidder_69 (by decide) ?_
            refine s_aldv (v := nI N) 199 dX5_bidder_72 (rfl) (by first | decide | omega) (hn) ?_
            refine j_istore dX5_bidder_73 (by decide) ?_
            refine j_aload_n dX5_bidder_75 rfl ?_
            refine j_iload dX5_bidder_76 rfl ?_
            refine j_iconst (v := 0) dX5_bidder_78 (by decide) ?_
            refine j_iload_n dX5_bidder_79 rfl ?_
            refine k_callV3v dX5_bidder_80 vX5_bidder_87 (s_lay hg2 N 0 (by omega) (by omega)) rfl (by decide) rfl rfl rfl (Nat.le_of_ble_eq_true rfl) ⟨rfl, rfl⟩ rfl ?_
            rintro _ ⟨-, rfl⟩
            refine j_aload_n dX5_bidder_83 rfl ?_
            refine j_iload dX5_bidder_84 rfl ?_
            refine j_iconst (v := 1) dX5_bidder_86 (by decide) ?_
            refine j_iload_n dX5_bidder_87 rfl ?_
            refine k_callV3v dX5_bidder_88 vX5_bidder_87 (s_lay hg2 N 1 (by omega) (by omega)) rfl (by decide) rfl rfl rfl (Nat.le_of_ble_eq_true rfl) ⟨rfl, rfl⟩ rfl ?_
            rintro _ ⟨-, rfl⟩
            refine j_aload_n dX5_bidder_91 rfl ?_
            refine j_iload dX5_bidder_92 rfl ?_
            refine j_iconst (v := 2) dX5_bidder_94 (by decide) ?_
            refine j_iload_n dX5_bidder_95 rfl ?_
            refine k_callV3v dX5_bidder_96 vX5_bidder_87 (s_lay hg2 N 2 (by omega) (by omega)) rfl (by decide) rfl rfl rfl (Nat.le_of_ble_eq_true rfl) ⟨rfl, rfl⟩ rfl ?_
            rintro _ ⟨-, rfl⟩
            refine j_aload_n dX5_bidder_99 rfl ?_
            refine j_iload dX5_bidder_100 rfl ?_
            refine j_iconst (v := 3) dX5_bidder_102 (by decide) ?_
            refine j_iload dX5_bidder_103 rfl ?_
            refine k_callV3v dX5_bidder_105 vX5_bidder_87 (s_lay hg2 N 3 (by omega) (by omega)) rfl (by decide) rfl rfl rfl (Nat.le_of_ble_eq_true rfl) ⟨rfl, rfl⟩ rfl ?_
            rintro _ ⟨-, rfl⟩
            refine j_aload_n dX5_bidder_108 rfl ?_
            refine j_iload dX5_bidder_109 rfl ?_
            refine j_bipush (v := 10) dX5_bidder_111 (by decide) ?_
            refine j_iload_n dX5_bidder_113 rfl ?_
            refine k_callV3v dX5_bidder_114 vX5_bidder_87 (s_lay hg2 N 10 (by omega) (by omega)) rfl (by decide) rfl rfl rfl (Nat.le_of_ble_eq_true rfl) ⟨rfl, rfl⟩ rfl ?_
            rintro _ ⟨-, rfl⟩
            refine j_aload_n dX5_bidder_117 rfl ?_
            refine j_get (v := .ref 216) dX5_bidder_118 fX5_7 rfl (by decide) (gS_p0 hg2) ?_
            refine j_sipush (v := 199) dX5_bidder_121 (by decide) ?_
            refine j_dup2 dX5_bidder_124 rfl rfl ?_
            refine s_ald 199 dX5_bidder_125 (rfl) (by first | decide | omega) ?_
            refine j_iconst (v := 1) dX5_bidder_126 (by decide) ?_
            refine j_iadd dX5_bidder_127 ?_
            refine s_ast 199 dX5_bidder_128 (rfl) (by first | decide | omega) ?_
            refine j_iload dX5_bidder_129 rfl ?_
            refine j_iret dX5_bidder_131 rfl (rfl) ?_
            exact hQ _ _ (z_pc (g := g) (g' := g') (b := true) ((if_neg c1).trans ((if_neg c2).trans ((if_neg c3).trans ((if_pos c4).trans ((if_neg c5).trans (rfl)))))))
          · refine j_ldc (v := (-1000003)) dX5_bidder_58 cX5_83 ?_
            refine j_iret dX5_bidder_60 rfl (rfl) ?_
            exact hQ _ _ (z_pc (g := g) (g' := g') (b := false) ((if_neg c1).trans ((if_neg c2).trans ((if_neg c3).trans ((if_pos c4).trans ((if_pos c5).trans (rfl)))))))
        · refine j_ldc (v := (-1000002)) dX5_bidder_42 cX5_82 ?_
          refine j_iret dX5_bidder_44 rfl (rfl) ?_
          exact hQ _ _ (z_pc (g := g) (g' := g') (b := false) ((if_neg c1).trans ((if_neg c2).trans ((if_neg c3).trans ((if_neg c4).trans (rfl))))))
      · refine j_ldc (v := (-1000001)) dX5_bidder_30 cX5_78 ?_
        refine j_iret dX5_bidder_32 rfl (rfl) ?_
        exact hQ _ _ (z_pc (g := g) (g' := g') (b := false) ((if_neg c1).trans ((if_neg c2).trans ((if_pos c3).trans (rfl)))))
set_option maxRecDepth 4000 in
set_option maxHeartbeats 1000000 in
theorem s_catches {g g' : zH} {s : Nat → Int32} (hg : gP g) (hg2 : gP g') (hch : zCh g g' s) {N : Nat} (hn : s 199 = nI N) (hN : N ≤ 12) {b v : Int32} : zCT mX5_catches [.ref 215, .int b, .int v] 222 (gS g s) 222 (fun r h' => r = some (aSetB s b v 4).1 ∧ h' = gS (cond (aSetB s b v 4).2.1 g' g) (aSetB s b v 4).2.2) := by
  intro X Q hQ
  show zJ X mX5_catches 222 0 [.ref 215, .int b, .int v, .null] [] 222 (gS g s) Q
  refine j_aload_n dX5_catches_0 rfl ?_
  refine j_iload_n dX5_catches_1 rfl ?_
  refine k_callV1i dX5_catches_2 vX5_catches_90 (s_isBidder hg) rfl (by decide) rfl (Nat.le_of_ble_eq_true rfl) ⟨rfl, rfl⟩ rfl ?_
  rintro _ _ ⟨⟨⟩, rfl⟩
  refine j_if_eq dX5_catches_5 (tgt := 17) rfl (fun c1 => ?_) (fun c1 => ?_)
  · refine j_ldc (v := (-1000001)) dX5_catches_17 cX5_78 ?_
    refine j_iret dX5_catches_19 rfl (rfl) ?_
    exact hQ _ _ (z_pc (g := g) (g' := g') (b := false) ((if_pos c1).trans (rfl)))
  · refine j_iload_n dX5_catches_8 rfl ?_
    refine j_iconst (v := 0) dX5_catches_9 (by decide) ?_
    refine j_iconst (v := 5) dX5_catches_10 (by decide) ?_
    refine k_callS3i dX5_catches_11 vX5_catches_36 (s_in) rfl rfl rfl (Nat.le_of_ble_eq_true rfl) ⟨rfl, rfl⟩ rfl ?_
    rintro _ _ ⟨⟨⟩, rfl⟩
    refine j_if_ne dX5_catches_14 (tgt := 20) rfl (fun c2 => ?_) (fun c2 => ?_)
    · obtain ⟨k, hk, rfl, hb2⟩ := aIs_nat hn hN ‹¬ aIs s b = 0›
      refine j_aload_n dX5_catches_20 rfl ?_
      refine k_callV0v dX5_catches_21 vX5_catches_84 (hch) rfl (by decide)  (Nat.le_of_ble_eq_true rfl) ⟨rfl, rfl⟩ rfl ?_
      rintro _ ⟨-, rfl⟩
      refine j_aload_n dX5_catches_24 rfl ?_
      refine j_iload_n dX5_catches_25 rfl ?_
      refine j_iconst (v := 4) dX5_catches_26 (by decide) ?_
      refine k_callV2i dX5_catches_27 vX5_catches_40 (s_of hg2 k 4 (by omega) (by omega)) rfl (by decide) rfl rfl (Nat.le_of_ble_eq_true rfl) ⟨rfl, rfl⟩ rfl ?_
      rintro _ _ ⟨⟨⟩, rfl⟩
      refine j_istore_n dX5_catches_30 (by decide) ?_
      refine j_aload_n dX5_catches_31 rfl ?_
      refine j_iload_n dX5_catches_32 rfl ?_
      refine j_iconst (v := 4) dX5_catches_33 (by decide) ?_
      refine j_iload_n dX5_catches_34 rfl ?_
      refine k_callV3v dX5_catches_35 vX5_catches_87 (s_lay hg2 k 4 (by omega) (by omega)) rfl (by decide) rfl rfl rfl (Nat.le_of_ble_eq_true rfl) ⟨rfl, rfl⟩ rfl ?_
      rintro _ ⟨-, rfl⟩
      refine j_iload_n dX5_catches_38 rfl ?_
      refine j_iret dX5_catches_39 rfl (rfl) ?_
      exact hQ _ _ (z_pc (g := g) (g' := g') (b := true) ((if_neg c1).trans ((if_neg c2).trans ((by rw [hb2])))))
    · refine j_ldc (v := (-1000001)) dX5_catches_17 cX5_78 ?_
      refine j_iret dX5_catches_19 rfl (rfl) ?_
      exact hQ _ _ (z_pc (g := g) (g' := g') (b := false) ((if_neg c1).trans ((if_pos c2).trans (rfl))))
set_option maxRecDepth 4000 in
set_option maxHeartbeats 1000000 in
theorem s_muffle {g g' : zH} {s : Nat → Int32} (hg : gP g) (hg2 : gP g') (hch : zCh g g' s) {N : Nat} (hn : s 199 = nI N) (hN : N ≤ 12) {b v : Int32} : zCT mX5_muffle [.ref 215, .int b, .int v] 222 (gS g s) 222 (fun r h' => r = some (aSetB s b v 5).1 ∧ h' = gS (cond (aSetB s b v 5).2.1 g' g) (aSetB s b v 5).2.2) := by
  intro X Q hQ
  show zJ X mX5_muffle 222 0 [.ref 215, .int b, .int v, .null] [] 222 (gS g s) Q
  refine j_aload_n dX5_muffle_0 rfl ?_
  refine j_iload_n dX5_muffle_1 rfl ?_
  refine k_callV1i dX5_muffle_2 vX5_muffle_90 (s_isBidder hg) rfl (by decide) rfl (Nat.le_of_ble_eq_true rfl) ⟨rfl, rfl⟩ rfl ?_
  rintro _ _ ⟨⟨⟩, rfl⟩
  refine j_if_eq dX5_muffle_5 (tgt := 17) rfl (fun c1 => ?_) (fun c1 => ?_)
  · refine j_ldc (v := (-1000001)) dX5_muffle_17 cX5_78 ?_
    refine j_iret dX5_muffle_19 rfl (rfl) ?_
    exact hQ _ _ (z_pc (g := g) (g' := g') (b := false) ((if_pos c1).trans (rfl)))
  · refine j_iload_n dX5_muffle_8 rfl ?_
    refine j_iconst (v := 0) dX5_muffle_9 (by decide) ?_
    refine j_iconst (v := 5) dX5_muffle_10 (by decide) ?_
    refine k_callS3i dX5_muffle_11 vX5_muffle_36 (s_in) rfl rfl rfl (Nat.le_of_ble_eq_true rfl) ⟨rfl, rfl⟩ rfl ?_
    rintro _ _ ⟨⟨⟩, rfl⟩
    refine j_if_ne dX5_muffle_14 (tgt := 20) rfl (fun c2 => ?_) (fun c2 => ?_)
    · obtain ⟨k, hk, rfl, hb2⟩ := aIs_nat hn hN ‹¬ aIs s b = 0›
      refine j_aload_n dX5_muffle_20 rfl ?_
      refine k_callV0v dX5_muffle_21 vX5_muffle_84 (hch) rfl (by decide)  (Nat.le_of_ble_eq_true rfl) ⟨rfl, rfl⟩ rfl ?_
      rintro _ ⟨-, rfl⟩
      refine j_aload_n dX5_muffle_24 rfl ?_
      refine j_iload_n dX5_muffle_25 rfl ?_
      refine j_iconst (v := 5) dX5_muffle_26 (by decide) ?_
      refine k_callV2i dX5_muffle_27 vX5_muffle_40 (s_of hg2 k 5 (by omega) (by omega)) rfl (by decide) rfl rfl (Nat.le_of_ble_eq_true rfl) ⟨rfl, rfl⟩ rfl ?_
      rintro _ _ ⟨⟨⟩, rfl⟩
      refine j_istore_n dX5_muffle_30 (by decide) ?_
      refine j_aload_n dX5_muffle_31 rfl ?_
      refine j_iload_n dX5_muffle_32 rfl ?_
      refine j_iconst (v := 5) dX5_muffle_33 (by decide) ?_
      refine j_iload_n dX5_muffle_34 rfl ?_
      refine k_callV3v dX5_muffle_35 vX5_muffle_87 (s_lay hg2 k 5 (by omega) (by omega)) rfl (by decide) rfl rfl rfl (Nat.le_of_ble_eq_true rfl) ⟨rfl, rfl⟩ rfl ?_
      rintro _ ⟨-, rfl⟩
      refine j_iload_n dX5_muffle_38 rfl ?_
      refine j_iret dX5_muffle_39 rfl (rfl) ?_
      exact hQ _ _ (z_pc (g := g) (g' := g') (b := true) ((if_neg c1).trans ((if_neg c2).trans ((by rw [hb2])))))
    · refine j_ldc (v := (-1000001)) dX5_muffle_17 cX5_78 ?_
      refine j_iret dX5_muffle_19 rfl (rfl) ?_
      exact hQ _ _ (z_pc (g := g) (g' := g') (b := false) ((if_neg c1).trans ((if_pos c2).trans (rfl))))
set_option maxRecDepth 4000 in
set_option maxHeartbeats 1000000 in
theorem s_lot {g g' : zH} {s : Nat → Int32} (hg : gP g) (hg2 : gP g') (hch : zCh g g' s) {W : Nat} (hW : s 200 = nI W) (hW8 : W ≤ 8) {rs v : Int32} : zCT mX5_lot [.ref 215, .int rs, .int v] 222 (gS g s) 222 (fun r h' => r = some (aLot s W rs v).1 ∧ h' = gS (cond (aLot s W rs v).2.1 g' g) (aLot s W rs v).2.2) := by
  intro X Q hQ
  show zJ X mX5_lot 222 0 [.ref 215, .int rs, .int v] [] 222 (gS g s) Q
  refine j_iload_n dX5_lot_0 rfl ?_
  refine j_iconst (v := 1) dX5_lot_1 (by decide) ?_
  refine j_bipush (v := 99) dX5_lot_2 (by decide) ?_
  refine k_callS3i dX5_lot_4 vX5_lot_36 (s_in) rfl rfl rfl (Nat.le_of_ble_eq_true rfl) ⟨rfl, rfl⟩ rfl ?_
  rintro _ _ ⟨⟨⟩, rfl⟩
  refine j_if_eq dX5_lot_7 (tgt := 20) rfl (fun c1 => ?_) (fun c1 => ?_)
  · refine j_ldc (v := (-1000001)) dX5_lot_20 cX5_78 ?_
    refine j_iret dX5_lot_22 rfl (rfl) ?_
    exact hQ _ _ (z_pc (g := g) (g' := g') (b := false) ((if_pos c1).trans (rfl)))
  · refine j_iload_n dX5_lot_10 rfl ?_
    refine j_iconst (v := 1) dX5_lot_11 (by decide) ?_
    refine j_bipush (v := 20) dX5_lot_12 (by decide) ?_
    refine k_callS3i dX5_lot_14 vX5_lot_36 (s_in) rfl rfl rfl (Nat.le_of_ble_eq_true rfl) ⟨rfl, rfl⟩ rfl ?_
    rintro _ _ ⟨⟨⟩, rfl⟩
    refine j_if_ne dX5_lot_17 (tgt := 23) rfl (fun c2 => ?_) (fun c2 => ?_)
    · refine j_aload_n dX5_lot_23 rfl ?_
      refine j_get (v := .ref 216) dX5_lot_24 fX5_7 rfl (by decide) (gS_p0 hg) ?_
      refine j_sipush (v := 200) dX5_lot_27 (by decide) ?_
      refine s_ald 200 dX5_lot_30 (rfl) (by first | decide | omega) ?_
      refine j_bipush (v := 8) dX5_lot_31 (by decide) ?_
      refine j_icmp_ne dX5_lot_33 (tgt := 39) rfl (fun c3 => ?_) (fun c3 => ?_)
      · have hW2 : W < 8 := by
          rcases Nat.lt_or_ge W 8 with q | q
          · exact q
          · exact absurd (by rw [hW, show W = 8 by omega]; rfl) ‹¬ s 200 = 8›
        refine j_aload_n dX5_lot_39 rfl ?_
        refine k_callV0v dX5_lot_40 vX5_lot_84 (hch) rfl (by decide)  (Nat.le_of_ble_eq_true rfl) ⟨rfl, rfl⟩ rfl ?_
        rintro _ ⟨-, rfl⟩
        refine j_aload_n dX5_lot_43 rfl ?_
        refine j_get (v := .ref 216) dX5_lot_44 fX5_7 rfl (by decide) (gS_p0 hg2) ?_
        refine j_sipush (v := 132) dX5_lot_47 (by decide) ?_
        refine j_iconst (v := 2) dX5_lot_50 (by decide) ?_
        refine j_aload_n dX5_lot_51 rfl ?_
        refine j_get (v := .ref 216) dX5_lot_52 fX5_7 rfl (by decide) (gS_p0 hg2) ?_
        refine j_sipush (v := 200) dX5_lot_55 (by decide) ?_
        refine s_aldv (v := nI W) 200 dX5_lot_58 (rfl) (by first | decide | omega) (hW) ?_
        refine j_imul dX5_lot_59 ?_
        refine j_iadd dX5_lot_60 ?_
        refine j_iload_n dX5_lot_61 rfl ?_
        refine s_ast (132 + (2 * W)) dX5_lot_62 (by first | rfl | (simp only [z_n, pk_mul, nI_add]; done) | (simp only [z_n, pk_mul, nI_add]; exact pk_sub (by omega)) | (simp only [z_n, pk_mul, nI_add, pk_sub, *]; done)) (by first | decide | omega) ?_
        refine j_aload_n dX5_lot_63 rfl ?_
        refine j_get (v := .ref 216) dX5_lot_64 fX5_7 rfl (by decide) (gS_p0 hg2) ?_
        refine j_sipush (v := 132) dX5_lot_67 (by decide) ?_
        refine j_iconst (v := 2) dX5_lot_70 (by decide) ?_
        refine j_aload_n dX5_lot_71 rfl ?_
        refine j_get (v := .ref 216) dX5_lot_72 fX5_7 rfl (by decide) (gS_p0 hg2) ?_
        refine j_sipush (v := 200) dX5_lot_75 (by decide) ?_
        refine s_aldv (v := nI W) 200 dX5_lot_78 (rfl) (by first | decide | omega) ((by rw [upd_n (by omega)]; exact hW)) ?_
        refine j_imul dX5_lot_79 ?_
        refine j_iadd dX5_lot_80 ?_
        refine j_iconst (v := 1) dX5_lot_81 (by decide) ?_
        refine j_iadd dX5_lot_82 ?_
        refine j_iload_n dX5_lot_83 rfl ?_
        refine s_ast ((132 + (2 * W)) + 1) dX5_lot_84 (by first | rfl | (simp only [z_n, pk_mul, nI_add]; done) | (simp only [z_n, pk_mul, nI_add]; exact pk_sub (by omega)) | (simp only [z_n, pk_mul, nI_add, pk_sub, *]; done)) (by first | decide | omega) ?_
        refine j_aload_n dX5_lot_85 rfl ?_
        refine j_get (v := .ref 216) dX5_lot_86 fX5_7 rfl (by decide) (gS_p0 hg2) ?_
        refine j_sipush (v := 200) dX5_lot_89 (by decide) ?_
        refine j_dup2 dX5_lot_92 rfl rfl ?_
        refine s_ald 200 dX5_lot_93 (rfl) (by first | decide | omega) ?_
        refine j_iconst (v := 1) dX5_lot_94 (by decide) ?_
        refine j_iadd dX5_lot_95 ?_
        refine s_ast 200 dX5_lot_96 (rfl) (by first | decide | omega) ?_
        refine j_aload_n dX5_lot_97 rfl ?_
        refine j_get (v := .ref 216) dX5_lot_98 fX5_7 rfl (by decide) (gS_p0 hg2) ?_
        refine j_sipush (v := 201) dX5_lot_101 (by decide) ?_
        refine j_dup2 dX5_lot_104 rfl rfl ?_
        refine s_ald 201 dX5_lot_105 (rfl) (by first | decide | omega) ?_
        refine j_iconst (v := 1) dX5_lot_106 (by decide) ?_
        refine j_iadd dX5_lot_107 ?_
        refine s_ast 201 dX5_lot_108 (rfl) (by first | decide | omega) ?_
        refine j_aload_n dX5_lot_109 rfl ?_
        refine j_get (v := .ref 216) dX5_lot_110 fX5_7 rfl (by decide) (gS_p0 hg2) ?_
        refine j_sipush (v := 200) dX5_lot_113 (by decide) ?_
        refine s_ald 200 dX5_lot_116 (rfl) (by first | decide | omega) ?_
        refine j_iret dX5_lot_117 rfl (rfl) ?_
        exact hQ _ _ (z_pc (g := g) (g' := g') (b := true) ((if_neg c1).trans ((if_neg c2).trans ((if_neg c3).trans (rfl)))))
      · refine j_ldc (v := (-1000003)) dX5_lot_36 cX5_83 ?_
        refine j_iret dX5_lot_38 rfl (rfl) ?_
        exact hQ _ _ (z_pc (g := g) (g' := g') (b := false) ((if_neg c1).trans ((if_neg c2).trans ((if_pos c3).trans (rfl)))))
    · refine j_ldc (v := (-1000001)) dX5_lot_20 cX5_78 ?_
      refine j_iret dX5_lot_22 rfl (rfl) ?_
      exact hQ _ _ (z_pc (g := g) (g' := g') (b := false) ((if_neg c1).trans ((if_pos c2).trans (rfl))))
set_option maxRecDepth 4000 in
set_option maxHeartbeats 1000000 in
theorem s_cough {g g' : zH} {s : Nat → Int32} (hg : gP g) (hg2 : gP g') (hch : zCh g g' s) {N : Nat} (hn : s 199 = nI N) (hN : N ≤ 12) {b : Int32} : zCT mX5_cough [.ref 215, .int b] 222 (gS g s) 222 (fun r h' => r = some (aCough s b).1 ∧ h' = gS (cond (aCough s b).2.1 g' g) (aCough s b).2.2) := by
  intro X Q hQ
  show zJ X mX5_cough 222 0 [.ref 215, .int b] [] 222 (gS g s) Q
  refine j_aload_n dX5_cough_0 rfl ?_
  refine j_iload_n dX5_cough_1 rfl ?_
  refine k_callV1i dX5_cough_2 vX5_cough_90 (s_isBidder hg) rfl (by decide) rfl (Nat.le_of_ble_eq_true rfl) ⟨rfl, rfl⟩ rfl ?_
  rintro _ _ ⟨⟨⟩, rfl⟩
  refine j_if_ne dX5_cough_5 (tgt := 11) rfl (fun c1 => ?_) (fun c1 => ?_)
  · obtain ⟨k, hk, rfl, hb2⟩ := aIs_nat hn hN ‹¬ aIs s b = 0›
    refine j_aload_n dX5_cough_11 rfl ?_
    refine k_callV0v dX5_cough_12 vX5_cough_84 (hch) rfl (by decide)  (Nat.le_of_ble_eq_true rfl) ⟨rfl, rfl⟩ rfl ?_
    rintro _ ⟨-, rfl⟩
    refine j_aload_n dX5_cough_15 rfl ?_
    refine j_iload_n dX5_cough_16 rfl ?_
    refine j_iconst (v := 0) dX5_cough_17 (by decide) ?_
    refine k_callV2i dX5_cough_18 vX5_cough_68 (s_coughs hg2 k (by omega)) rfl (by decide) rfl rfl (Nat.le_of_ble_eq_true rfl) ⟨rfl, rfl⟩ rfl ?_
    rintro _ _ ⟨⟨⟩, rfl⟩
    refine j_iret dX5_cough_21 rfl (rfl) ?_
    exact hQ _ _ (z_pc (g := g) (g' := g') (b := true) ((if_neg c1).trans ((by rw [hb2]))))
  · refine j_ldc (v := (-1000001)) dX5_cough_8 cX5_78 ?_
    refine j_iret dX5_cough_10 rfl (rfl) ?_
    exact hQ _ _ (z_pc (g := g) (g' := g') (b := false) ((if_pos c1).trans (rfl)))
set_option maxRecDepth 4000 in
set_option maxHeartbeats 1000000 in
theorem s_beats {g g' : zH} {s : Nat → Int32} (hg : gP g) (hg2 : gP g') (hch : zCh g g' s) {N : Nat} (hok : aOk s N) {many : Int32} : zCT mX5_beats [.ref 215, .int many] 222 (gS g s) 222 (fun r h' => r = some (aBeats s N many).1 ∧ h' = gS (cond (aBeats s N many).2.1 g' g) (aBeats s N many).2.2) := by
  intro X Q hQ
  show zJ X mX5_beats 222 0 [.ref 215, .int many, .null] [] 222 (gS g s) Q
  refine j_iload_n dX5_beats_0 rfl ?_
  refine j_iconst (v := 1) dX5_beats_1 (by decide) ?_
  refine j_bipush (v := 50) dX5_beats_2 (by decide) ?_
  refine k_callS3i dX5_beats_4 vX5_beats_36 (s_in) rfl rfl rfl (Nat.le_of_ble_eq_true rfl) ⟨rfl, rfl⟩ rfl ?_
  rintro _ _ ⟨⟨⟩, rfl⟩
  refine j_if_ne dX5_beats_7 (tgt := 13) rfl (fun c1 => ?_) (fun c1 => ?_)
  · refine j_aload_n dX5_beats_13 rfl ?_
    refine j_get (v := .ref 216) dX5_beats_14 fX5_7 rfl (by decide) (gS_p0 hg) ?_
    refine j_sipush (v := 198) dX5_beats_17 (by decide) ?_
    refine s_ald 198 dX5_beats_20 (rfl) (by first | decide | omega) ?_
    refine j_iload_n dX5_beats_21 rfl ?_
    refine j_iadd dX5_beats_22 ?_
    refine j_sipush (v := 9999) dX5_beats_23 (by decide) ?_
    refine j_icmp_le dX5_beats_26 (tgt := 32) rfl (fun c2 => ?_) (fun c2 => ?_)
    · obtain ⟨m, hm1, hm2, rfl, hb2⟩ := aIn_nat (a := 1) (b := 50) (by omega) (by omega) ‹¬ aIn many 1 50 = 0›
      refine j_aload_n dX5_beats_32 rfl ?_
      refine k_callV0v dX5_beats_33 vX5_beats_84 (hch) rfl (by decide)  (Nat.le_of_ble_eq_true rfl) ⟨rfl, rfl⟩ rfl ?_
      rintro _ ⟨-, rfl⟩
      refine j_aload_n dX5_beats_36 rfl ?_
      refine k_callV0i dX5_beats_37 vX5_beats_96 (s_gone hg2) rfl (by decide)  (Nat.le_of_ble_eq_true rfl) ⟨rfl, rfl⟩ rfl ?_
      rintro _ _ ⟨⟨⟩, rfl⟩
      refine j_istore_n dX5_beats_40 (by decide) ?_
      refine j_aload_n dX5_beats_41 rfl ?_
      refine j_iload_n dX5_beats_42 rfl ?_
      refine k_callV1v dX5_beats_43 vX5_beats_99 (s_pass hg2 hok m (by omega)) rfl (by decide) rfl (Nat.le_of_ble_eq_true rfl) ⟨rfl, rfl⟩ rfl ?_
      rintro _ ⟨-, rfl⟩
      refine j_aload_n dX5_beats_46 rfl ?_
      refine k_callV0i dX5_beats_47 vX5_beats_96 (s_gone hg2) rfl (by decide)  (Nat.le_of_ble_eq_true rfl) ⟨rfl, rfl⟩ rfl ?_
      rintro _ _ ⟨⟨⟩, rfl⟩
      refine j_iload_n dX5_beats_50 rfl ?_
      refine j_isub dX5_beats_51 ?_
      refine j_iret dX5_beats_52 rfl (rfl) ?_
      exact hQ _ _ (z_pc (g := g) (g' := g') (b := true) ((if_neg c1).trans ((if_pos c2).trans ((by rw [hb2])))))
    · refine j_ldc (v := (-1000003)) dX5_beats_29 cX5_83 ?_
      refine j_iret dX5_beats_31 rfl (rfl) ?_
      exact hQ _ _ (z_pc (g := g) (g' := g') (b := false) ((if_neg c1).trans ((if_neg c2).trans (rfl))))
  · refine j_ldc (v := (-1000001)) dX5_beats_10 cX5_78 ?_
    refine j_iret dX5_beats_12 rfl (rfl) ?_
    exact hQ _ _ (z_pc (g := g) (g' := g') (b := false) ((if_pos c1).trans (rfl)))
set_option maxRecDepth 4000 in
set_option maxHeartbeats 1000000 in
theorem s_set {g g' : zH} {s : Nat → Int32} (hg : gP g) (hg2 : gP g') (hch : zCh g g' s) {k v : Int32} : zCT mX5_set [.ref 215, .int k, .int v] 222 (gS g s) 222 (fun r h' => r = some (aSet s k v).1 ∧ h' = gS (cond (aSet s k v).2.1 g' g) (aSet s k v).2.2) := by
  intro X Q hQ
  show zJ X mX5_set 222 0 [.ref 215, .int k, .int v, .null] [] 222 (gS g s) Q
  refine j_iload_n dX5_set_0 rfl ?_
  refine j_iconst (v := 0) dX5_set_1 (by decide) ?_
  refine j_iconst (v := 2) dX5_set_2 (by decide) ?_
  refine k_callS3i dX5_set_3 vX5_set_36 (s_in) rfl rfl rfl (Nat.le_of_ble_eq_true rfl) ⟨rfl, rfl⟩ rfl ?_
  rintro _ _ ⟨⟨⟩, rfl⟩
  refine j_if_eq dX5_set_6 (tgt := 19) rfl (fun c1 => ?_) (fun c1 => ?_)
  · refine j_ldc (v := (-1000001)) dX5_set_19 cX5_78 ?_
    refine j_iret dX5_set_21 rfl (rfl) ?_
    exact hQ _ _ (z_pc (g := g) (g' := g') (b := false) ((if_pos c1).trans (rfl)))
  · refine j_iload_n dX5_set_9 rfl ?_
    refine j_iconst (v := 1) dX5_set_10 (by decide) ?_
    refine j_bipush (v := 9) dX5_set_11 (by decide) ?_
    refine k_callS3i dX5_set_13 vX5_set_36 (s_in) rfl rfl rfl (Nat.le_of_ble_eq_true rfl) ⟨rfl, rfl⟩ rfl ?_
    rintro _ _ ⟨⟨⟩, rfl⟩
    refine j_if_ne dX5_set_16 (tgt := 22) rfl (fun c2 => ?_) (fun c2 => ?_)
    · obtain ⟨j, hj1, hj2, rfl, hb2⟩ := aIn_nat (a := 0) (b := 2) (by omega) (by omega) ‹¬ aIn k 0 2 = 0›
      refine j_aload_n dX5_set_22 rfl ?_
      refine k_callV0v dX5_set_23 vX5_set_84 (hch) rfl (by decide)  (Nat.le_of_ble_eq_true rfl) ⟨rfl, rfl⟩ rfl ?_
      rintro _ ⟨-, rfl⟩
      refine j_aload_n dX5_set_26 rfl ?_
      refine j_get (v := .ref 216) dX5_set_27 fX5_7 rfl (by decide) (gS_p0 hg2) ?_
      refine j_sipush (v := 212) dX5_set_30 (by decide) ?_
      refine j_iload_n dX5_set_33 rfl ?_
      refine j_iadd dX5_set_34 ?_
      refine s_ald (212 + j) dX5_set_35 (by first | rfl | (simp only [z_n, pk_mul, nI_add]; done) | (simp only [z_n, pk_mul, nI_add]; exact pk_sub (by omega)) | (simp only [z_n, pk_mul, nI_add, pk_sub, *]; done)) (by first | decide | omega) ?_
      refine j_istore_n dX5_set_36 (by decide) ?_
      refine j_aload_n dX5_set_37 rfl ?_
      refine j_get (v := .ref 216) dX5_set_38 fX5_7 rfl (by decide) (gS_p0 hg2) ?_
      refine j_sipush (v := 212) dX5_set_41 (by decide) ?_
      refine j_iload_n dX5_set_44 rfl ?_
      refine j_iadd dX5_set_45 ?_
      refine j_iload_n dX5_set_46 rfl ?_
      refine s_ast (212 + j) dX5_set_47 (by first | rfl | (simp only [z_n, pk_mul, nI_add]; done) | (simp only [z_n, pk_mul, nI_add]; exact pk_sub (by omega)) | (simp only [z_n, pk_mul, nI_add, pk_sub, *]; done)) (by first | decide | omega) ?_
      refine j_iload_n dX5_set_48 rfl ?_
      refine j_iret dX5_set_49 rfl (rfl) ?_
      exact hQ _ _ (z_pc (g := g) (g' := g') (b := true) ((if_neg c1).trans ((if_neg c2).trans ((by rw [hb2])))))
    · refine j_ldc (v := (-1000001)) dX5_set_19 cX5_78 ?_
      refine j_iret dX5_set_21 rfl (rfl) ?_
      exact hQ _ _ (z_pc (g := g) (g' := g') (b := false) ((if_neg c1).trans ((if_pos c2).trans (rfl))))
def aZr (t : Nat → Int32) (k : Nat) : Nat → Int32 := fun j => if 151 ≤ j ∧ j < k then 0 else t j
theorem aZr_0 {t : Nat → Int32} : aZr t 151 = t := by
  funext j
  unfold aZr
  rw [if_neg (by omega)]
theorem aZr_up {t : Nat → Int32} {k : Nat} (h : 151 ≤ k) : upd (aZr t k) k 0 = aZr t (k + 1) := by
  funext j
  unfold upd aZr
  by_cases q : j = k
  · subst q
    rw [if_pos rfl, if_pos (by omega)]
  · rw [if_neg q]
    by_cases h2 : 151 ≤ j ∧ j < k
    · rw [if_pos h2, if_pos (by omega)]
    · rw [if_neg h2, if_neg (by omega)]
def aWs (t : Nat → Int32) (k : Nat) : Nat → Int32 := fun j => if 132 ≤ j ∧ j < 132 + k then t (j + 2) else t j
theorem aWs_0 {t : Nat → Int32} : aWs t 0 = t := by
  funext j
  unfold aWs
  rw [if_neg (by omega)]
theorem aWs_up {t : Nat → Int32} {k : Nat} : upd (aWs t k) (132 + k) (aWs t k (132 + k + 2)) = aWs t (k + 1) := by
  funext j
  unfold upd aWs
  by_cases q : j = 132 + k
  · subst q
    rw [if_pos rfl, if_neg (by omega), if_pos (by omega)]
  · rw [if_neg q]
    by_cases h2 : 132 ≤ j ∧ j < 132 + k
    · rw [if_pos h2, if_pos (by omega)]
    · rw [if_neg h2, if_neg (by omega)]
def aUp1 (s : Nat → Int32) : Nat → Int32 :=
  let t := upd s 148 1
  let t := upd t 149 (t 132)
  upd t 150 (t 133)
def aUp2 (t : Nat → Int32) : Nat → Int32 := upd t 200 (t 200 - 1)
def aUpT (s : Nat → Int32) (W : Nat) : Nat → Int32 := aWs (aUp2 (aZr (aUp1 s) 158)) (2 * (W - 1))
def aUp (s : Nat → Int32) (W : Nat) : Int32 × Bool × (Nat → Int32) := if s 148 = 1 then (-1000002, false, s) else if s 200 = 0 then (-1000002, false, s) else (aUpT s W 149, true, aUpT s W)
set_option maxRecDepth 4000 in
set_option maxHeartbeats 2000000 in
theorem s_putUp_l2 {g : zH} (hg : gP g) {t : Nat → Int32} {W : Nat} (hW8 : W ≤ 8) (hW : t 200 = nI (W - 1)) {X : Nat × (Nat → Int32)} {Q : zQt} (hQ : Q (some (aWs t (2 * (W - 1)) 149)) 222 (gS g (aWs t (2 * (W - 1))))) : ∀ (n k : Nat), k + n = 2 * (W - 1) → zJ X mX5_putUp 222 109 [.ref 215, .int (nI k)] [] 222 (gS g (aWs t k)) Q := by
  intro n
  induction n with
  | zero =>
    intro k hk
    obtain rfl : k = 2 * (W - 1) := by omega
    refine j_iload_n dX5_putUp_109 rfl ?_
    refine j_iconst (v := 2) dX5_putUp_110 (by decide) ?_
    refine j_aload_n dX5_putUp_111 rfl ?_
    refine j_get (v := .ref 216) dX5_putUp_112 fX5_7 rfl (by decide) (gS_p0 hg) ?_
    refine j_sipush (v := 200) dX5_putUp_115 (by decide) ?_
    refine s_aldv (v := nI (W - 1)) 200 dX5_putUp_118 (rfl) (by first | decide | omega) (((show aWs t _ 200 = t 200 from if_neg (by omega)).trans hW)) ?_
    refine j_imul dX5_putUp_119 ?_
    refine j_icmp_ge dX5_putUp_120 (tgt := 151) rfl (fun _ => ?_) (fun c1 => absurd (show 2 * nI (W - 1) ≤ nI (2 * (W - 1)) by rw [show (2 : Int32) = nI 2 from rfl, pk_mul]; exact nI_le (by omega) (by omega)) c1)
    refine j_aload_n dX5_putUp_151 rfl ?_
    refine j_get (v := .ref 216) dX5_putUp_152 fX5_7 rfl (by decide) (gS_p0 hg) ?_
    refine j_sipush (v := 149) dX5_putUp_155 (by decide) ?_
    refine s_ald 149 dX5_putUp_158 (rfl) (by first | decide | omega) ?_
    refine j_iret dX5_putUp_159 rfl (rfl) ?_
    exact hQ
  | succ n ih =>
    intro k hk
    refine j_iload_n dX5_putUp_109 rfl ?_
    refine j_iconst (v := 2) dX5_putUp_110 (by decide) ?_
    refine j_aload_n dX5_putUp_111 rfl ?_
    refine j_get (v := .ref 216) dX5_putUp_112 fX5_7 rfl (by decide) (gS_p0 hg) ?_
    refine j_sipush (v := 200) dX5_putUp_115 (by decide) ?_
    refine s_aldv (v := nI (W - 1)) 200 dX5_putUp_118 (rfl) (by first | decide | omega) (((show aWs t _ 200 = t 200 from if_neg (by omega)).trans hW)) ?_
    refine j_imul dX5_putUp_119 ?_
    refine j_icmp_ge dX5_putUp_120 (tgt := 151) rfl (fun c1 => absurd c1 (show ¬ 2 * nI (W - 1) ≤ nI k by rw [show (2 : Int32) = nI 2 from rfl, pk_mul]; exact nI_ge (by omega) (by omega))) (fun _ => ?_)
    refine j_aload_n dX5_putUp_123 rfl ?_
    refine j_get (v := .ref 216) dX5_putUp_124 fX5_7 rfl (by decide) (gS_p0 hg) ?_
    refine j_sipush (v := 132) dX5_putUp_127 (by decide) ?_
    refine j_iload_n dX5_putUp_130 rfl ?_
    refine j_iadd dX5_putUp_131 ?_
    refine j_aload_n dX5_putUp_132 rfl ?_
    refine j_get (v := .ref 216) dX5_putUp_133 fX5_7 rfl (by decide) (gS_p0 hg) ?_
    refine j_sipush (v := 132) dX5_putUp_136 (by decide) ?_
    refine j_iload_n dX5_putUp_139 rfl ?_
    refine j_iadd dX5_putUp_140 ?_
    refine j_iconst (v := 2) dX5_putUp_141 (by decide) ?_
    refine j_iadd dX5_putUp_142 ?_
    refine s_ald ((132 + k) + 2) dX5_putUp_143 (by first | rfl | (simp only [z_n, pk_mul, nI_add]; done) | (simp only [z_n, pk_mul, nI_add]; exact pk_sub (by omega)) | (simp only [z_n, pk_mul, nI_add, pk_sub, *]; done)) (by first | decide | omega) ?_
    refine s_ast (132 + k) dX5_putUp_144 (by first | rfl | (simp only [z_n, pk_mul, nI_add]; done) | (simp only [z_n, pk_mul, nI_add]; exact pk_sub (by omega)) | (simp only [z_n, pk_mul, nI_add, pk_sub, *]; done)) (by first | decide | omega) ?_
    refine j_iinc (v := nI (k + 1)) dX5_putUp_145 rfl z_inc (by decide) ?_
    refine j_goto dX5_putUp_148 (tgt := 109) rfl ?_
    rw [aWs_up]
    exact ih (k + 1) (by omega)
set_option maxRecDepth 4000 in
set_option maxHeartbeats 2000000 in
theorem s_putUp_l1 {g : zH} (hg : gP g) {t : Nat → Int32} {W : Nat} (hW8 : W ≤ 8) (hW0 : 0 < W) (hW : t 200 = nI W) {X : Nat × (Nat → Int32)} {Q : zQt} (hQ : Q (some (aWs (aUp2 (aZr t 158)) (2 * (W - 1)) 149)) 222 (gS g (aWs (aUp2 (aZr t 158)) (2 * (W - 1))))) : ∀ (n k : Nat), k + n = 158 → 151 ≤ k → zJ X mX5_putUp 222 75 [.ref 215, .int (nI k)] [] 222 (gS g (aZr t k)) Q := by
  intro n
  induction n with
  | zero =>
    intro k hk hk1
    obtain rfl : k = 158 := by omega
    refine j_iload_n dX5_putUp_75 rfl ?_
    refine j_sipush (v := 157) dX5_putUp_76 (by decide) ?_
    refine j_icmp_gt dX5_putUp_79 (tgt := 95) rfl (fun _ => ?_) (fun c1 => absurd (show 157 < nI 158 by decide) c1)
    refine j_aload_n dX5_putUp_95 rfl ?_
    refine j_get (v := .ref 216) dX5_putUp_96 fX5_7 rfl (by decide) (gS_p0 hg) ?_
    refine j_sipush (v := 200) dX5_putUp_99 (by decide) ?_
    refine j_dup2 dX5_putUp_102 rfl rfl ?_
    refine s_ald 200 dX5_putUp_103 (rfl) (by first | decide | omega) ?_
    refine j_iconst (v := 1) dX5_putUp_104 (by decide) ?_
    refine j_isub dX5_putUp_105 ?_
    refine s_ast 200 dX5_putUp_106 (rfl) (by first | decide | omega) ?_
    refine j_iconst (v := 0) dX5_putUp_107 (by decide) ?_
    refine j_istore_n dX5_putUp_108 (by decide) ?_
    rw [← aWs_0 (t := upd _ 200 _)]
    exact s_putUp_l2 hg hW8 (by show upd _ 200 _ 200 = _; rw [upd_s, show aZr t 158 200 = t 200 from if_neg (by omega), hW]; obtain ⟨m, rfl⟩ : ∃ m, W = m + 1 := ⟨W - 1, by omega⟩; exact nI_pred m) hQ (2 * (W - 1)) 0 (by omega)
  | succ n ih =>
    intro k hk hk1
    refine j_iload_n dX5_putUp_75 rfl ?_
    refine j_sipush (v := 157) dX5_putUp_76 (by decide) ?_
    refine j_icmp_gt dX5_putUp_79 (tgt := 95) rfl (fun c1 => absurd c1 (show ¬ nI 157 < nI k from nI_nlt (by omega) (by omega))) (fun _ => ?_)
    refine j_aload_n dX5_putUp_82 rfl ?_
    refine j_get (v := .ref 216) dX5_putUp_83 fX5_7 rfl (by decide) (gS_p0 hg) ?_
    refine j_iload_n dX5_putUp_86 rfl ?_
    refine j_iconst (v := 0) dX5_putUp_87 (by decide) ?_
    refine s_ast k dX5_putUp_88 (by first | rfl | (simp only [z_n, pk_mul, nI_add]; done) | (simp only [z_n, pk_mul, nI_add]; exact pk_sub (by omega)) | (simp only [z_n, pk_mul, nI_add, pk_sub, *]; done)) (by first | decide | omega) ?_
    refine j_iinc (v := nI (k + 1)) dX5_putUp_89 rfl z_inc (by decide) ?_
    refine j_goto dX5_putUp_92 (tgt := 75) rfl ?_
    rw [aZr_up (by omega)]
    exact ih (k + 1) (by omega) (by omega)
set_option maxRecDepth 4000 in
set_option maxHeartbeats 1000000 in
theorem s_putUp {g g' : zH} {s : Nat → Int32} (hg : gP g) (hg2 : gP g') (hch : zCh g g' s) {W : Nat} (hW : s 200 = nI W) (hW8 : W ≤ 8) : zCT mX5_putUp [.ref 215] 222 (gS g s) 222 (fun r h' => r = some (aUp s W).1 ∧ h' = gS (cond (aUp s W).2.1 g' g) (aUp s W).2.2) := by
  intro X Q hQ
  show zJ X mX5_putUp 222 0 [.ref 215, .null] [] 222 (gS g s) Q
  refine j_aload_n dX5_putUp_0 rfl ?_
  refine j_get (v := .ref 216) dX5_putUp_1 fX5_7 rfl (by decide) (gS_p0 hg) ?_
  refine j_sipush (v := 148) dX5_putUp_4 (by decide) ?_
  refine s_ald 148 dX5_putUp_7 (rfl) (by first | decide | omega) ?_
  refine j_iconst (v := 1) dX5_putUp_8 (by decide) ?_
  refine j_icmp_eq dX5_putUp_9 (tgt := 23) rfl (fun c1 => ?_) (fun c1 => ?_)
  · refine j_ldc (v := (-1000002)) dX5_putUp_23 cX5_82 ?_
    refine j_iret dX5_putUp_25 rfl (rfl) ?_
    exact hQ _ _ (z_pc (g := g) (g' := g') (b := false) ((if_pos c1).trans (rfl)))
  · refine j_aload_n dX5_putUp_12 rfl ?_
    refine j_get (v := .ref 216) dX5_putUp_13 fX5_7 rfl (by decide) (gS_p0 hg) ?_
    refine j_sipush (v := 200) dX5_putUp_16 (by decide) ?_
    refine s_ald 200 dX5_putUp_19 (rfl) (by first | decide | omega) ?_
    refine j_if_ne dX5_putUp_20 (tgt := 26) rfl (fun c2 => ?_) (fun c2 => ?_)
    · refine j_aload_n dX5_putUp_26 rfl ?_
      refine k_callV0v dX5_putUp_27 vX5_putUp_84 (hch) rfl (by decide)  (Nat.le_of_ble_eq_true rfl) ⟨rfl, rfl⟩ rfl ?_
      rintro _ ⟨-, rfl⟩
      refine j_aload_n dX5_putUp_30 rfl ?_
      refine j_get (v := .ref 216) dX5_putUp_31 fX5_7 rfl (by decide) (gS_p0 hg2) ?_
      refine j_sipush (v := 148) dX5_putUp_34 (by decide) ?_
      refine j_iconst (v := 1) dX5_putUp_37 (by decide) ?_
      refine s_ast 148 dX5_putUp_38 (rfl) (by first | decide | omega) ?_
      refine j_aload_n dX5_putUp_39 rfl ?_
      refine j_get (v := .ref 216) dX5_putUp_40 fX5_7 rfl (by decide) (gS_p0 hg2) ?_
      refine j_sipush (v := 149) dX5_putUp_43 (by decide) ?_
      refine j_aload_n dX5_putUp_46 rfl ?_
      refine j_get (v := .ref 216) dX5_putUp_47 fX5_7 rfl (by decide) (gS_p0 hg2) ?_
      refine j_sipush (v := 132) dX5_putUp_50 (by decide) ?_
      refine s_ald 132 dX5_putUp_53 (rfl) (by first | decide | omega) ?_
      refine s_ast 149 dX5_putUp_54 (rfl) (by first | decide | omega) ?_
      refine j_aload_n dX5_putUp_55 rfl ?_
      refine j_get (v := .ref 216) dX5_putUp_56 fX5_7 rfl (by decide) (gS_p0 hg2) ?_
      refine j_sipush (v := 150) dX5_putUp_59 (by decide) ?_
      refine j_aload_n dX5_putUp_62 rfl ?_
      refine j_get (v := .ref 216) dX5_putUp_63 fX5_7 rfl (by decide) (gS_p0 hg2) ?_
      refine j_sipush (v := 133) dX5_putUp_66 (by decide) ?_
      refine s_ald 133 dX5_putUp_69 (rfl) (by first | decide | omega) ?_
      refine s_ast 150 dX5_putUp_70 (rfl) (by first | decide | omega) ?_
      refine j_sipush (v := 151) dX5_putUp_71 (by decide) ?_
      refine j_istore_n dX5_putUp_74 (by decide) ?_
      have hW0 : 0 < W := by
        rcases Nat.eq_zero_or_pos W with q | q
        · exact absurd (by rw [hW, q]; rfl) ‹¬ s 200 = 0›
        · exact q
      rw [← aZr_0 (t := upd _ 150 _)]
      exact s_putUp_l1 hg2 hW8 hW0 (by show upd _ 150 _ 200 = _; rw [upd_n (by omega), upd_n (by omega), upd_n (by omega)]; exact hW) (hQ _ _ (z_pc (g := g) (g' := g') (b := true) ((if_neg c1).trans ((if_neg c2).trans (rfl))))) 7 151 (by omega) (by omega)
    · refine j_ldc (v := (-1000002)) dX5_putUp_23 cX5_82 ?_
      refine j_iret dX5_putUp_25 rfl (rfl) ?_
      exact hQ _ _ (z_pc (g := g) (g' := g') (b := false) ((if_neg c1).trans ((if_pos c2).trans (rfl))))
