section L7
variable {g : zH} {s t w : Nat → Int32} {N W k : Nat}
theorem jS {i : Nat} (hi : i < 3) : jV 220 (15 + i) = 212 + i := by
  rw [jV_t, if_neg (by omega), if_neg (by omega), if_neg (by omega)]
  omega
theorem aZr_o {j k : Nat} (h : j < 151 ∨ k ≤ j) : aZr w k j = w j := if_neg (by omega)
theorem l_u1 : upd (upd (upd (upd (aZr w 158) 149 (aZr w 158 132)) 150 (upd (aZr w 158) 149 (aZr w 158 132) 133)) 148 1) 200 (upd (upd (upd (aZr w 158) 149 (aZr w 158 132)) 150 (upd (aZr w 158) 149 (aZr w 158 132) 133)) 148 1 200 - 1) = aUp2 (aZr (aUp1 w) 158) := by
  have e : upd (upd (upd (aZr w 158) 149 (aZr w 158 132)) 150 (upd (aZr w 158) 149 (aZr w 158 132) 133)) 148 1 = aZr (aUp1 w) 158 := by
    rw [pk_un (k := 149) (j := 133) (by decide), aZr_o (j := 132) (by omega), aZr_o (j := 133) (by omega)]
    funext j
    by_cases h : 151 ≤ j ∧ j < 158
    · rw [pk_un (by omega), pk_un (by omega), pk_un (by omega)]
      exact (if_pos h).trans (if_pos h).symm
    · rw [aZr_o (w := aUp1 w) (by omega)]
      show _ = upd (upd (upd w 148 1) 149 (upd w 148 1 132)) 150 (upd (upd w 148 1) 149 (upd w 148 1 132) 133) j
      rw [pk_un (k := 148) (j := 132) (by decide), pk_un (k := 149) (j := 133) (by decide), pk_un (k := 148) (j := 133) (by decide)]
      by_cases h1 : j = 148
      · subst h1
        rw [pk_us, pk_un (by decide), pk_un (by decide), pk_us]
      · rw [pk_un h1]
        by_cases h2 : j = 150
        · subst h2
          rw [pk_us, pk_us]
        · rw [pk_un h2, pk_un h2]
          by_cases h3 : j = 149
          · subst h3
            rw [pk_us, pk_us]
          · rw [pk_un h3, pk_un h3, pk_un h1]
            exact aZr_o (by omega)
  rw [e]
  rfl
theorem lUp_lo {j : Nat} (hW : W ≤ 8) (h1 : j < 132 ∨ 158 ≤ j) (h2 : j ≠ 200) : aUpT w W j = w j := by
  have e1 : aUpT w W j = aUp2 (aZr (aUp1 w) 158) j := if_neg (by omega)
  rw [e1]
  show upd (aZr (aUp1 w) 158) 200 _ j = _
  rw [pk_un h2, aZr_o (by omega)]
  show upd (upd (upd w 148 1) 149 _) 150 _ j = _
  rw [pk_un (by omega), pk_un (by omega), pk_un (by omega)]
theorem lUp_156 (hW : W ≤ 8) : aUpT w W 156 = 0 := by
  have e1 : aUpT w W 156 = aUp2 (aZr (aUp1 w) 158) 156 := if_neg (by omega)
  rw [e1]
  show upd (aZr (aUp1 w) 158) 200 _ 156 = _
  rw [pk_un (by decide)]
  exact if_pos (by omega)
theorem lUp_LB (hB : LB w) (hN : aNn w ≤ 12) (hW : W ≤ 8) : LB (aUpT w W) := by
  have e9 : aNn (aUpT w W) = aNn w := by
    show (aUpT w W 199).toNatClampNeg = (w 199).toNatClampNeg
    rw [lUp_lo hW (by omega) (by omega)]
  refine ⟨Or.inl (lUp_156 hW), fun i hi => by rw [lUp_lo hW (by omega) (by omega)]; exact hB.2.1 i hi, ?_⟩
  rw [e9, lUp_lo hW (by omega) (by omega), hB.2.2, aSm_c (s := w) (t := aUpT w W) _ (fun k hk => lUp_lo hW (by omega) (by omega))]
theorem lSetB (hn : w 199 = nI N) (hN : N ≤ 12) (hk : k < N) {x : Int32} (hx : aR x 0 5) (c : Nat) : aSetB w (nI k) x c = (w (11 * k + c), true, upd w (11 * k + c) x) := by
  unfold aSetB
  rw [if_neg (by rw [aIs_of hn hN hk]; decide), if_neg (show ¬ aIn x 0 5 = 0 from lIn hx (by decide)), nI_clamp (by omega)]
theorem lSet (hk : k < 3) {x : Int32} (hx : aR x 1 9) : aSet w (nI k) x = (w (212 + k), true, upd w (212 + k) x) := by
  unfold aSet
  rw [if_neg (show ¬ aIn (nI k) 0 2 = 0 from lIn (a := 0) (b := 2) ⟨k, by omega, by omega, rfl⟩ (by decide)), if_neg (show ¬ aIn x 1 9 = 0 from lIn hx (by decide)), nI_clamp (by omega)]
end L7
set_option maxRecDepth 4000 in
set_option maxHeartbeats 2000000 in
theorem s_iu_1 {g : zH} {w : Nat → Int32} {nz : Nat} (hz : 6 ≤ nz) {X : Nat × (Nat → Int32)} {Q : zQt} (hQ : zJ X mL_isUp (215 + nz) 50 [.ref 0, .ref 217, .ref 218, .ref 220, .int (nI 9)] [] (215 + nz) (gV g (aZr w 158)) Q) : ∀ (n k : Nat), k + n = 9 → 2 ≤ k → zJ X mL_isUp (215 + nz) 32 [.ref 0, .ref 217, .ref 218, .ref 220, .int (nI k)] [] (215 + nz) (gV g (aZr w (149 + k))) Q := by
  intro n
  induction n with
  | zero =>
    intro k hk h2
    obtain rfl : k = 9 := by omega
    refine j_iload dL_isUp_32 rfl ?_
    refine j_bipush (v := 9) dL_isUp_34 (by decide) ?_
    refine j_icmp_ge dL_isUp_36 (tgt := 50) rfl (fun _ => ?_) (fun c1 => absurd (show 9 ≤ nI 9 by decide) c1)
    exact hQ
  | succ n ih =>
    intro k hk h2
    refine j_iload dL_isUp_32 rfl ?_
    refine j_bipush (v := 9) dL_isUp_34 (by decide) ?_
    refine j_icmp_ge dL_isUp_36 (tgt := 50) rfl (fun c1 => absurd c1 (show ¬ 9 ≤ nI k from nI_ge (b := 9) (by omega) (by decide))) (fun _ => ?_)
    refine j_aload_n dL_isUp_39 rfl ?_
    refine j_iload dL_isUp_40 rfl ?_
    refine j_iconst (v := 0) dL_isUp_42 (by decide) ?_
    refine l_st (a := 218) (i := k) (149 + k) dL_isUp_43 (by decide) rfl hz (by first | rfl | (simp only [z_n, pk_mul, nI_add]; done) | (simp only [z_n, pk_mul, nI_add]; exact pk_sub (by omega)) | (simp only [z_n, pk_mul, nI_add, pk_sub, *]; done)) (show _ < 10 by omega) (jU (by omega)) ?_
    rw [aZr_up (by omega)]
    refine j_iinc (v := nI (k + 1)) dL_isUp_44 rfl z_inc (by decide) ?_
    refine j_goto dL_isUp_47 (tgt := 32) rfl ?_
    exact ih (k + 1) (by omega) (by omega)
set_option maxRecDepth 4000 in
set_option maxHeartbeats 2000000 in
theorem s_iu_2 {g : zH} {t : Nat → Int32} {nz W : Nat} (hz : 6 ≤ nz) (hW : W ≤ 8) (ht : t 200 = nI (W - 1)) {X : Nat × (Nat → Int32)} {Q : zQt} (hQ : zJ X mL_isUp (215 + nz) 103 [.ref 0, .ref 217, .ref 218, .ref 220, .int (nI (2 * (W - 1)))] [] (215 + nz) (gV g (aWs t (2 * (W - 1)))) Q) : ∀ (n k : Nat), k + n = 2 * (W - 1) → zJ X mL_isUp (215 + nz) 77 [.ref 0, .ref 217, .ref 218, .ref 220, .int (nI k)] [] (215 + nz) (gV g (aWs t k)) Q := by
  intro n
  induction n with
  | zero =>
    intro k hk
    refine j_iload dL_isUp_77 rfl ?_
    refine j_iconst (v := 2) dL_isUp_79 (by decide) ?_
    refine j_aload_n dL_isUp_80 rfl ?_
    refine j_iconst (v := 2) dL_isUp_81 (by decide) ?_
    refine l_ld (a := 220) (i := 2) (v := nI (W - 1)) 200 dL_isUp_82 (by decide) rfl hz (rfl) (by decide) rfl (((show aWs t k 200 = t 200 from if_neg (by omega)).trans ht)) ?_
    refine j_imul dL_isUp_83 ?_
    rw [show 2 * nI (W - 1) = nI (2 * (W - 1)) from pk_mul 2 _]
    refine j_icmp_ge dL_isUp_84 (tgt := 103) rfl (fun _ => ?_) (fun c1 => absurd (show nI (2 * (W - 1)) ≤ nI k from nI_le (by omega) (by omega)) c1)
    obtain rfl : k = 2 * (W - 1) := by omega
    exact hQ
  | succ n ih =>
    intro k hk
    refine j_iload dL_isUp_77 rfl ?_
    refine j_iconst (v := 2) dL_isUp_79 (by decide) ?_
    refine j_aload_n dL_isUp_80 rfl ?_
    refine j_iconst (v := 2) dL_isUp_81 (by decide) ?_
    refine l_ld (a := 220) (i := 2) (v := nI (W - 1)) 200 dL_isUp_82 (by decide) rfl hz (rfl) (by decide) rfl (((show aWs t k 200 = t 200 from if_neg (by omega)).trans ht)) ?_
    refine j_imul dL_isUp_83 ?_
    rw [show 2 * nI (W - 1) = nI (2 * (W - 1)) from pk_mul 2 _]
    refine j_icmp_ge dL_isUp_84 (tgt := 103) rfl (fun c1 => absurd c1 (show ¬ nI (2 * (W - 1)) ≤ nI k from nI_ge (by omega) (by omega))) (fun _ => ?_)
    refine j_aload_n dL_isUp_87 rfl ?_
    refine j_iload dL_isUp_88 rfl ?_
    refine j_aload_n dL_isUp_90 rfl ?_
    refine j_iload dL_isUp_91 rfl ?_
    refine j_iconst (v := 2) dL_isUp_93 (by decide) ?_
    refine j_iadd dL_isUp_94 ?_
    refine l_ld (a := 217) (i := (k + 2)) (132 + (k + 2)) dL_isUp_95 (by decide) rfl hz (by first | rfl | (simp only [z_n, pk_mul, nI_add]; done) | (simp only [z_n, pk_mul, nI_add]; exact pk_sub (by omega)) | (simp only [z_n, pk_mul, nI_add, pk_sub, *]; done)) (show _ < 16 by omega) rfl rfl ?_
    refine l_st (a := 217) (i := k) (132 + k) dL_isUp_96 (by decide) rfl hz (by first | rfl | (simp only [z_n, pk_mul, nI_add]; done) | (simp only [z_n, pk_mul, nI_add]; exact pk_sub (by omega)) | (simp only [z_n, pk_mul, nI_add, pk_sub, *]; done)) (show _ < 16 by omega) rfl ?_
    refine z_to (congrArg (gV g) aWs_up) ?_
    refine j_iinc (v := nI (k + 1)) dL_isUp_97 rfl z_inc (by decide) ?_
    refine j_goto dL_isUp_100 (tgt := 77) rfl ?_
    exact ih (k + 1) (by omega)
set_option maxRecDepth 4000 in
set_option maxHeartbeats 2000000 in
theorem s_isUp {g : zH} {w pa tx : Nat → Int32} {n0 T nz b m : Nat} (hz : 6 ≤ nz) (hc : CH (gV g w) w pa n0 tx T) (hM : aM w) (hB : LB w) (hb : aR (w 198) 0 b) (hm : aR (w 209) 0 m) : zCT mL_isUp [.ref 0, .ref 217, .ref 218, .ref 220] (215 + nz) (gV g w) (215 + nz) (fun r h' => r = some 1 ∧ LW h' b m) := by
  intro X Q hQ
  show zJ X mL_isUp (215 + nz) 0 [.ref 0, .ref 217, .ref 218, .ref 220, .null] [] (215 + nz) (gV g w) Q
  have hI := hM.1.1
  have hn := hI.1.1
  have hN := hI.1.2
  have hw := hI.2.1.1
  have hW := hI.2.1.2
  refine j_aload_n dL_isUp_0 rfl ?_
  refine j_bipush (v := 9) dL_isUp_1 (by decide) ?_
  refine l_ld (a := 218) (i := 9) 148 dL_isUp_3 (by decide) rfl hz (rfl) (by decide) rfl rfl ?_
  refine j_iconst (v := 1) dL_isUp_4 (by decide) ?_
  refine j_icmp_eq dL_isUp_5 (tgt := 14) rfl (fun c1 => ?_) (fun c1 => ?_)
  · have K := o_putUp (nz := nz) hc hM
    have eU : aUp w (aWn w) = (-1000002, false, w) := if_pos c1
    rw [eU] at K
    refine j_aload_n dL_isUp_14 rfl ?_
    refine k_callV0i dL_isUp_15 vL_isUp_77 (K) rfl (by omega)  (Nat.le_of_ble_eq_true rfl) ⟨rfl, rfl⟩ rfl ?_
    rintro _ h1 ⟨⟨⟩, e1, c1⟩
    refine z_to (gV_of e1) ?_
    refine j_ldc (v := (-1000002)) dL_isUp_18 cL_61 ?_
    refine j_icmp_ne dL_isUp_20 (tgt := 27) rfl (fun c2 => absurd c2 (fun q => q rfl)) (fun _ => ?_)
    refine j_iconst (v := 1) dL_isUp_23 (by decide) ?_
    refine j_goto dL_isUp_24 (tgt := 28) rfl ?_
    refine j_iret dL_isUp_28 rfl (rfl) ?_
    exact hQ _ _ ⟨rfl, LW_g c1 (fun _ _ => rfl) hM hB hb hm⟩
  · refine j_aload_n dL_isUp_8 rfl ?_
    refine j_iconst (v := 2) dL_isUp_9 (by decide) ?_
    refine l_ld (a := 220) (i := 2) (v := nI (aWn w)) 200 dL_isUp_10 (by decide) rfl hz (rfl) (by decide) rfl (hw) ?_
    refine j_if_ne dL_isUp_11 (tgt := 29) rfl (fun c3 => ?_) (fun c3 => ?_)
    · refine j_iconst (v := 2) dL_isUp_29 (by decide) ?_
      refine j_istore dL_isUp_30 (by decide) ?_
      have hW1 : 1 ≤ (aWn w) := by
        have : (aWn w) ≠ 0 := fun q => c3 (by rw [q]; rfl)
        omega
      have eU : aUp w (aWn w) = (aUpT w (aWn w) 149, true, aUpT w (aWn w)) := (if_neg c1).trans (if_neg (fun q => c3 (hw.symm.trans q)))
      have hMq := lM_up hM
      rw [eU] at hMq
      have K := o_putUp (nz := nz) (CH_v (t := aUpT w (aWn w)) hc) hM
      rw [eU] at K
      have ht : (aUp2 (aZr (aUp1 w) 158)) 200 = nI ((aWn w) - 1) := by
        show upd (aZr (aUp1 w) 158) 200 (aZr (aUp1 w) 158 200 - 1) 200 = _
        rw [pk_us, aZr_o (by omega)]
        show upd (upd (upd w 148 1) 149 _) 150 _ 200 - 1 = _
        rw [pk_un (by decide), pk_un (by decide), pk_un (by decide), hw]
        exact pk_sub (b := 1) hW1
      refine z_to (congrArg (gV g) (show w = aZr w (149 + 2) from aZr_0.symm)) ?_
      refine s_iu_1 hz ?_ 7 2 rfl (by omega)
      refine j_aload_n dL_isUp_50 rfl ?_
      refine j_iconst (v := 0) dL_isUp_51 (by decide) ?_
      refine j_aload_n dL_isUp_52 rfl ?_
      refine j_iconst (v := 0) dL_isUp_53 (by decide) ?_
      refine l_ld (a := 217) (i := 0) 132 dL_isUp_54 (by decide) rfl hz (rfl) (by decide) rfl rfl ?_
      refine l_st (a := 218) (i := 0) 149 dL_isUp_55 (by decide) rfl hz (rfl) (by decide) rfl ?_
      refine j_aload_n dL_isUp_56 rfl ?_
      refine j_iconst (v := 1) dL_isUp_57 (by decide) ?_
      refine j_aload_n dL_isUp_58 rfl ?_
      refine j_iconst (v := 1) dL_isUp_59 (by decide) ?_
      refine l_ld (a := 217) (i := 1) 133 dL_isUp_60 (by decide) rfl hz (rfl) (by decide) rfl rfl ?_
      refine l_st (a := 218) (i := 1) 150 dL_isUp_61 (by decide) rfl hz (rfl) (by decide) rfl ?_
      refine j_aload_n dL_isUp_62 rfl ?_
      refine j_bipush (v := 9) dL_isUp_63 (by decide) ?_
      refine j_iconst (v := 1) dL_isUp_65 (by decide) ?_
      refine l_st (a := 218) (i := 9) 148 dL_isUp_66 (by decide) rfl hz (rfl) (by decide) rfl ?_
      refine j_aload_n dL_isUp_67 rfl ?_
      refine j_iconst (v := 2) dL_isUp_68 (by decide) ?_
      refine j_dup2 dL_isUp_69 rfl rfl ?_
      refine l_ld (a := 220) (i := 2) 200 dL_isUp_70 (by decide) rfl hz (rfl) (by decide) rfl rfl ?_
      refine j_iconst (v := 1) dL_isUp_71 (by decide) ?_
      refine j_isub dL_isUp_72 ?_
      refine l_st (a := 220) (i := 2) 200 dL_isUp_73 (by decide) rfl hz (rfl) (by decide) rfl ?_
      refine j_iconst (v := 0) dL_isUp_74 (by decide) ?_
      refine j_istore dL_isUp_75 (by decide) ?_
      refine z_to (congrArg (gV g) l_u1) ?_
      refine z_to (congrArg (gV g) (aWs_0 (t := (aUp2 (aZr (aUp1 w) 158)))).symm) ?_
      refine s_iu_2 hz hW ht ?_ _ 0 (Nat.zero_add _)
      refine j_aload_n dL_isUp_103 rfl ?_
      refine k_callV0i dL_isUp_104 vL_isUp_77 (K) rfl (by omega)  (Nat.le_of_ble_eq_true rfl) ⟨rfl, rfl⟩ rfl ?_
      rintro _ h1 ⟨⟨⟩, e1, c1⟩
      refine z_to (gV_of e1) ?_
      refine j_aload_n dL_isUp_107 rfl ?_
      refine j_iconst (v := 0) dL_isUp_108 (by decide) ?_
      refine l_ld (a := 218) (i := 0) 149 dL_isUp_109 (by decide) rfl hz (rfl) (by decide) rfl rfl ?_
      refine j_icmp_ne dL_isUp_110 (tgt := 117) rfl (fun c1 => absurd c1 (fun q => q rfl)) (fun _ => ?_)
      refine j_iconst (v := 1) dL_isUp_113 (by decide) ?_
      refine j_goto dL_isUp_114 (tgt := 118) rfl ?_
      refine j_iret dL_isUp_118 rfl (rfl) ?_
      exact hQ _ _ ⟨rfl, LW_g c1 (fun _ _ => rfl) hMq (lUp_LB hB hN hW) (by rw [lUp_lo hW (by omega) (by omega)]; exact hb) (by rw [lUp_lo hW (by omega) (by omega)]; exact hm)⟩
    · have K := o_putUp (nz := nz) hc hM
      have eU : aUp w (aWn w) = (-1000002, false, w) := (if_neg c1).trans (if_pos (hw.trans c3))
      rw [eU] at K
      refine j_aload_n dL_isUp_14 rfl ?_
      refine k_callV0i dL_isUp_15 vL_isUp_77 (K) rfl (by omega)  (Nat.le_of_ble_eq_true rfl) ⟨rfl, rfl⟩ rfl ?_
      rintro _ h1 ⟨⟨⟩, e1, c1⟩
      refine z_to (gV_of e1) ?_
      refine j_ldc (v := (-1000002)) dL_isUp_18 cL_61 ?_
      refine j_icmp_ne dL_isUp_20 (tgt := 27) rfl (fun c4 => absurd c4 (fun q => q rfl)) (fun _ => ?_)
      refine j_iconst (v := 1) dL_isUp_23 (by decide) ?_
      refine j_goto dL_isUp_24 (tgt := 28) rfl ?_
      refine j_iret dL_isUp_28 rfl (rfl) ?_
      exact hQ _ _ ⟨rfl, LW_g c1 (fun _ _ => rfl) hM hB hb hm⟩
set_option maxRecDepth 4000 in
set_option maxHeartbeats 2000000 in
theorem s_isChanged {g : zH} {w pa tx : Nat → Int32} {n0 T nz b m : Nat} (hz : 6 ≤ nz) (hc : CH (gV g w) w pa n0 tx T) (hM : aM w) (hB : LB w) (hb : aR (w 198) 0 b) (hm : aR (w 209) 0 m) {wa : Int32} {k z : Nat} (hk : k < (aNn w)) (hz30 : z < 2 ^ 30) : zCT mL_isChanged [.ref 0, .ref 215, .ref 216, .ref 220, .int wa, .int (nI k), .int (nI z)] (215 + nz) (gV g w) (215 + nz) (fun r h' => r = some 1 ∧ LW h' b m) := by
  intro X Q hQ
  show zJ X mL_isChanged (215 + nz) 0 [.ref 0, .ref 215, .ref 216, .ref 220, .int wa, .int (nI k), .int (nI z), .null] [] (215 + nz) (gV g w) Q
  have hI := hM.1.1
  have hn := hI.1.1
  have hN := hI.1.2
  have hw := hI.2.1.1
  have hW := hI.2.1.2
  refine j_iload dL_isChanged_0 rfl ?_
  refine j_if_ne dL_isChanged_2 (tgt := 50) rfl (fun c1 => ?_) (fun c1 => ?_)
  · refine j_iload dL_isChanged_50 rfl ?_
    refine j_iconst (v := 1) dL_isChanged_52 (by decide) ?_
    refine j_icmp_ne dL_isChanged_53 (tgt := 97) rfl (fun c2 => ?_) (fun c2 => ?_)
    · refine j_aload_n dL_isChanged_97 rfl ?_
      refine j_bipush (v := 15) dL_isChanged_98 (by decide) ?_
      refine j_iload dL_isChanged_100 rfl ?_
      refine j_iconst (v := 3) dL_isChanged_102 (by decide) ?_
      refine j_irem dL_isChanged_103 (by decide) ?_
      rw [show nI k - nI k / 3 * 3 = nI (k % 3) from pk_rem (d := 3) (by omega) (by decide) (by decide)]
      refine j_iadd dL_isChanged_104 ?_
      refine l_ld (a := 220) (i := (15 + (k % 3))) (212 + (k % 3)) dL_isChanged_105 (by decide) rfl hz (by first | rfl | (simp only [z_n, pk_mul, nI_add]; done) | (simp only [z_n, pk_mul, nI_add]; exact pk_sub (by omega)) | (simp only [z_n, pk_mul, nI_add, pk_sub, *]; done)) (show _ < 18 by omega) (jS (by omega)) rfl ?_
      refine j_istore dL_isChanged_106 (by decide) ?_
      refine j_aload_n dL_isChanged_108 rfl ?_
      refine j_bipush (v := 15) dL_isChanged_109 (by decide) ?_
      refine j_iload dL_isChanged_111 rfl ?_
      refine j_iconst (v := 3) dL_isChanged_113 (by decide) ?_
      refine j_irem dL_isChanged_114 (by decide) ?_
      rw [show nI k - nI k / 3 * 3 = nI (k % 3) from pk_rem (d := 3) (by omega) (by decide) (by decide)]
      refine j_iadd dL_isChanged_115 ?_
      refine j_iconst (v := 1) dL_isChanged_116 (by decide) ?_
      refine j_iload dL_isChanged_117 rfl ?_
      refine j_iconst (v := 5) dL_isChanged_119 (by decide) ?_
      refine j_irem dL_isChanged_120 (by decide) ?_
      rw [show nI z - nI z / 5 * 5 = nI (z % 5) from pk_rem (d := 5) (by omega) (by decide) (by decide)]
      refine j_iadd dL_isChanged_121 ?_
      refine l_st (a := 220) (i := (15 + (k % 3))) (212 + (k % 3)) dL_isChanged_122 (by decide) rfl hz (by first | rfl | (simp only [z_n, pk_mul, nI_add]; done) | (simp only [z_n, pk_mul, nI_add]; exact pk_sub (by omega)) | (simp only [z_n, pk_mul, nI_add, pk_sub, *]; done)) (show _ < 18 by omega) (jS (by omega)) ?_
      have eS := lSet (w := w) (k := k % 3) (by omega) (x := 1 + nI (z % 5)) ⟨1 + z % 5, by omega, by omega, nI_add 1 _⟩
      have hMq := lM_set hM (x := nI (k % 3)) (y := 1 + nI (z % 5))
      rw [eS] at hMq
      have K := o_set (nz := nz) (CH_v (t := upd w (212 + (k % 3)) (1 + nI (z % 5))) hc) hM (a1 := nI (k % 3)) (a2 := 1 + nI (z % 5))
      rw [eS] at K
      refine j_aload_n dL_isChanged_123 rfl ?_
      refine j_iload dL_isChanged_124 rfl ?_
      refine j_iconst (v := 3) dL_isChanged_126 (by decide) ?_
      refine j_irem dL_isChanged_127 (by decide) ?_
      rw [show nI k - nI k / 3 * 3 = nI (k % 3) from pk_rem (d := 3) (by omega) (by decide) (by decide)]
      refine j_iconst (v := 1) dL_isChanged_128 (by decide) ?_
      refine j_iload dL_isChanged_129 rfl ?_
      refine j_iconst (v := 5) dL_isChanged_131 (by decide) ?_
      refine j_irem dL_isChanged_132 (by decide) ?_
      rw [show nI z - nI z / 5 * 5 = nI (z % 5) from pk_rem (d := 5) (by omega) (by decide) (by decide)]
      refine j_iadd dL_isChanged_133 ?_
      refine k_callV2i dL_isChanged_134 vL_isChanged_86 (K) rfl (by omega) rfl rfl (Nat.le_of_ble_eq_true rfl) ⟨rfl, rfl⟩ rfl ?_
      rintro _ h1 ⟨⟨⟩, e1, c1⟩
      refine z_to (gV_of e1) ?_
      refine j_iload dL_isChanged_137 rfl ?_
      refine j_icmp_ne dL_isChanged_139 (tgt := 146) rfl (fun c3 => absurd c3 (fun q => q rfl)) (fun _ => ?_)
      refine j_iconst (v := 1) dL_isChanged_142 (by decide) ?_
      refine j_goto dL_isChanged_143 (tgt := 147) rfl ?_
      refine j_iret dL_isChanged_147 rfl (rfl) ?_
      exact hQ _ _ ⟨rfl, LW_g c1 (fun _ _ => rfl) hMq (LB_of hB hN (fun j hj => pk_un (by unfold lRl at hj; omega))) (by rw [pk_un (by omega)]; exact hb) (by rw [pk_un (by omega)]; exact hm)⟩
    · refine j_aload_n dL_isChanged_56 rfl ?_
      refine j_iconst (v := 5) dL_isChanged_57 (by decide) ?_
      refine j_iload dL_isChanged_58 rfl ?_
      refine j_imul dL_isChanged_60 ?_
      refine l_ld (a := 216) (i := (5 * k)) (11 * k + 5) dL_isChanged_61 (by decide) rfl hz (by first | rfl | (simp only [z_n, pk_mul, nI_add]; done) | (simp only [z_n, pk_mul, nI_add]; exact pk_sub (by omega)) | (simp only [z_n, pk_mul, nI_add, pk_sub, *]; done)) (show _ < 60 by omega) jD0 rfl ?_
      refine j_istore dL_isChanged_62 (by decide) ?_
      refine j_aload_n dL_isChanged_64 rfl ?_
      refine j_iconst (v := 5) dL_isChanged_65 (by decide) ?_
      refine j_iload dL_isChanged_66 rfl ?_
      refine j_imul dL_isChanged_68 ?_
      refine j_iload dL_isChanged_69 rfl ?_
      refine j_bipush (v := 6) dL_isChanged_71 (by decide) ?_
      refine j_irem dL_isChanged_73 (by decide) ?_
      rw [show nI z - nI z / 6 * 6 = nI (z % 6) from pk_rem (d := 6) (by omega) (by decide) (by decide)]
      refine l_st (a := 216) (i := (5 * k)) (11 * k + 5) dL_isChanged_74 (by decide) rfl hz (by first | rfl | (simp only [z_n, pk_mul, nI_add]; done) | (simp only [z_n, pk_mul, nI_add]; exact pk_sub (by omega)) | (simp only [z_n, pk_mul, nI_add, pk_sub, *]; done)) (show _ < 60 by omega) jD0 ?_
      have eS := lSetB hn hN hk (x := nI (z % 6)) ⟨z % 6, by omega, by omega, rfl⟩ 5
      have hMq := lM_setB (Or.inr rfl) hM (x := nI k) (y := nI (z % 6))
      rw [eS] at hMq
      have K := o_muffle (nz := nz) (CH_v (t := upd w (11 * k + 5) (nI (z % 6))) hc) hM (a1 := nI k) (a2 := nI (z % 6))
      rw [eS] at K
      refine j_aload_n dL_isChanged_75 rfl ?_
      refine j_iload dL_isChanged_76 rfl ?_
      refine j_iload dL_isChanged_78 rfl ?_
      refine j_bipush (v := 6) dL_isChanged_80 (by decide) ?_
      refine j_irem dL_isChanged_82 (by decide) ?_
      rw [show nI z - nI z / 6 * 6 = nI (z % 6) from pk_rem (d := 6) (by omega) (by decide) (by decide)]
      refine k_callV2i dL_isChanged_83 vL_isChanged_83 (K) rfl (by omega) rfl rfl (Nat.le_of_ble_eq_true rfl) ⟨rfl, rfl⟩ rfl ?_
      rintro _ h1 ⟨⟨⟩, e1, c1⟩
      refine z_to (gV_of e1) ?_
      refine j_iload dL_isChanged_86 rfl ?_
      refine j_icmp_ne dL_isChanged_88 (tgt := 95) rfl (fun c4 => absurd c4 (fun q => q rfl)) (fun _ => ?_)
      refine j_iconst (v := 1) dL_isChanged_91 (by decide) ?_
      refine j_goto dL_isChanged_92 (tgt := 96) rfl ?_
      refine j_iret dL_isChanged_96 rfl (rfl) ?_
      exact hQ _ _ ⟨rfl, LW_g c1 (fun _ _ => rfl) hMq (LB_of hB hN (fun j hj => pk_un (by unfold lRl at hj; omega))) (by rw [pk_un (by omega)]; exact hb) (by rw [pk_un (by omega)]; exact hm)⟩
  · refine j_aload_n dL_isChanged_5 rfl ?_
    refine j_iconst (v := 5) dL_isChanged_6 (by decide) ?_
    refine j_iload dL_isChanged_7 rfl ?_
    refine j_imul dL_isChanged_9 ?_
    refine j_iconst (v := 4) dL_isChanged_10 (by decide) ?_
    refine j_iadd dL_isChanged_11 ?_
    refine l_ld (a := 215) (i := ((5 * k) + 4)) (11 * k + 4) dL_isChanged_12 (by decide) rfl hz (by first | rfl | (simp only [z_n, pk_mul, nI_add]; done) | (simp only [z_n, pk_mul, nI_add]; exact pk_sub (by omega)) | (simp only [z_n, pk_mul, nI_add, pk_sub, *]; done)) (show _ < 60 by omega) (jA (by omega)) rfl ?_
    refine j_istore dL_isChanged_13 (by decide) ?_
    refine j_aload_n dL_isChanged_15 rfl ?_
    refine j_iconst (v := 5) dL_isChanged_16 (by decide) ?_
    refine j_iload dL_isChanged_17 rfl ?_
    refine j_imul dL_isChanged_19 ?_
    refine j_iconst (v := 4) dL_isChanged_20 (by decide) ?_
    refine j_iadd dL_isChanged_21 ?_
    refine j_iload dL_isChanged_22 rfl ?_
    refine j_bipush (v := 6) dL_isChanged_24 (by decide) ?_
    refine j_irem dL_isChanged_26 (by decide) ?_
    rw [show nI z - nI z / 6 * 6 = nI (z % 6) from pk_rem (d := 6) (by omega) (by decide) (by decide)]
    refine l_st (a := 215) (i := ((5 * k) + 4)) (11 * k + 4) dL_isChanged_27 (by decide) rfl hz (by first | rfl | (simp only [z_n, pk_mul, nI_add]; done) | (simp only [z_n, pk_mul, nI_add]; exact pk_sub (by omega)) | (simp only [z_n, pk_mul, nI_add, pk_sub, *]; done)) (show _ < 60 by omega) (jA (by omega)) ?_
    have eS := lSetB hn hN hk (x := nI (z % 6)) ⟨z % 6, by omega, by omega, rfl⟩ 4
    have hMq := lM_setB (Or.inl rfl) hM (x := nI k) (y := nI (z % 6))
    rw [eS] at hMq
    have K := o_catches (nz := nz) (CH_v (t := upd w (11 * k + 4) (nI (z % 6))) hc) hM (a1 := nI k) (a2 := nI (z % 6))
    rw [eS] at K
    refine j_aload_n dL_isChanged_28 rfl ?_
    refine j_iload dL_isChanged_29 rfl ?_
    refine j_iload dL_isChanged_31 rfl ?_
    refine j_bipush (v := 6) dL_isChanged_33 (by decide) ?_
    refine j_irem dL_isChanged_35 (by decide) ?_
    rw [show nI z - nI z / 6 * 6 = nI (z % 6) from pk_rem (d := 6) (by omega) (by decide) (by decide)]
    refine k_callV2i dL_isChanged_36 vL_isChanged_80 (K) rfl (by omega) rfl rfl (Nat.le_of_ble_eq_true rfl) ⟨rfl, rfl⟩ rfl ?_
    rintro _ h1 ⟨⟨⟩, e1, c1⟩
    refine z_to (gV_of e1) ?_
    refine j_iload dL_isChanged_39 rfl ?_
    refine j_icmp_ne dL_isChanged_41 (tgt := 48) rfl (fun c5 => absurd c5 (fun q => q rfl)) (fun _ => ?_)
    refine j_iconst (v := 1) dL_isChanged_44 (by decide) ?_
    refine j_goto dL_isChanged_45 (tgt := 49) rfl ?_
    refine j_iret dL_isChanged_49 rfl (rfl) ?_
    exact hQ _ _ ⟨rfl, LW_g c1 (fun _ _ => rfl) hMq (LB_of hB hN (fun j hj => pk_un (by unfold lRl at hj; omega))) (by rw [pk_un (by omega)]; exact hb) (by rw [pk_un (by omega)]; exact hm)⟩
