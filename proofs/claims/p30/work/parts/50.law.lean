section L5
variable {w : Nat → Int32} {W k K : Nat}
theorem lWai_m : aWai w (-1) 0 = -1000001 := if_pos (by decide)
theorem lWai_2 : aWai w 0 2 = -1000001 := (if_neg (by decide)).trans (if_pos (by decide))
theorem lWai_W (hw : w 200 = nI W) (hW : W ≤ 8) : aWai w (nI W) 0 = -1000004 := (if_neg (nI_pos (by omega))).trans ((if_neg (by decide)).trans (if_pos (by rw [hw]; exact nI_le (Nat.le_refl _) (by omega))))
theorem lWai (hw : w 200 = nI W) (hW : W ≤ 8) (hk : k < W) {v : Int32} (hv : ¬ aIn v 0 1 = 0) : aWai w (nI k) v = w (132 + 2 * k + v.toNatClampNeg) := by
  unfold aWai
  rw [if_neg (nI_pos (by omega)), if_neg hv, if_neg (by rw [hw]; exact nI_ge hk (by omega)), nI_clamp (by omega)]
theorem lWai0 (hw : w 200 = nI W) (hW : W ≤ 8) (hk : k < W) : aWai w (nI k) 0 = w (132 + (2 * k)) := lWai hw hW hk (by decide)
theorem lWai1 (hw : w 200 = nI W) (hW : W ≤ 8) (hk : k < W) : aWai w (nI k) 1 = w (132 + ((2 * k) + 1)) := lWai hw hW hk (by decide)
theorem lUp_z {x : Int32} (hx : ¬ aIn x 0 8 = 0) (c : w 148 = 0) : aUpV w x = -1000002 := (if_neg hx).trans (if_pos c)
theorem lUp_q {x : Int32} {j : Nat} (hx : ¬ aIn x 0 8 = 0) (hj : x.toNatClampNeg = j) (c : ¬ w 148 = 0) : aUpV w x = aUpQ w j := (if_neg hx).trans ((if_neg c).trans (by rw [hj]))
theorem l_v5 : ∀ v, v < 5 → ¬ aIn (nI v) 0 4 = 0 := by decide +kernel
theorem lBk (hK : w 210 = nI K) (hK8 : K ≤ 8) (hk : k < 40) : aBook w (nI (k / 5)) (nI (k % 5)) = if k / 5 < K then aBk2 (w (158 + k)) (nI (k % 5)) else -1000004 := by
  have h1 : k / 5 < 8 := by omega
  have h2 : k % 5 < 5 := by omega
  have e : 158 + 5 * (k / 5) + k % 5 = 158 + k := by omega
  unfold aBook
  rw [if_neg (nI_pos (by omega)), if_neg (l_v5 _ h2), nI_clamp (by omega), nI_clamp (by omega), e, hK]
  by_cases h : k / 5 < K
  · rw [if_pos h, if_pos (nI_lt h (by omega))]
  · rw [if_neg h, if_neg (nI_nlt (by omega) (by omega))]
theorem lBkA (hK : w 210 = nI K) (hK8 : K ≤ 8) (hk : k < 40) (c : nI K ≤ nI (k / 5)) : aBook w (nI (k / 5)) (nI (k % 5)) = -1000004 := by
  have := (nI_leI (show K < 2 ^ 31 by omega) (show k / 5 < 2 ^ 31 by omega)).mp c
  rw [lBk hK hK8 hk, if_neg (by omega)]
theorem lBkX (hK : w 210 = nI K) (hK8 : K ≤ 8) (hk : k < 40) (c : ¬ nI K ≤ nI (k / 5)) : aBook w (nI (k / 5)) (nI (k % 5)) = aBk2 (w (158 + k)) (nI (k % 5)) := by
  have h : ¬ K ≤ k / 5 := fun q => c ((nI_leI (show K < 2 ^ 31 by omega) (show k / 5 < 2 ^ 31 by omega)).mpr q)
  rw [lBk hK hK8 hk, if_pos (by omega)]
theorem i_nle {x : Int32} (h1 : ¬ x < 0) (h2 : ¬ x = 0) : ¬ x ≤ 0 := by
  intro h
  apply h2
  rw [Int32.lt_iff_toInt_lt] at h1
  rw [Int32.le_iff_toInt_le] at h
  exact Int32.toInt_inj.mp (by rw [show (0 : Int32).toInt = 0 from rfl] at *; omega)
theorem lBk5 (hb : ∀ i, i < 8 → ¬ w (160 + 5 * i) < 0) (hk : k < 40) (c : nI (k % 5) = 2) : ¬ w (158 + k) < 0 := by
  have h2 : k % 5 = 2 := (nI_eq (show k % 5 < 2 ^ 31 by omega) (show 2 < 2 ^ 31 by decide)).mp c
  have := hb (k / 5) (by omega)
  rw [show 160 + 5 * (k / 5) = 158 + k by omega] at this
  exact this
end L5
set_option maxRecDepth 4000 in
set_option maxHeartbeats 2000000 in
theorem s_al_1 {g : zH} {w pa tx : Nat → Int32} {n0 T nz : Nat} (hz : 6 ≤ nz) (hc : CH (gV g w) w pa n0 tx T) (hM : aM w) {y : Value} {X : Nat × (Nat → Int32)} {Q : zQt} (hQ : ∀ k : Int32, zJ X mL_areLots (215 + nz) 107 [.ref 0, .ref 217, .ref 218, .ref 219, .ref 220, .int 1, .int k, y] [] (215 + nz) (gV g w) Q) : ∀ (n k : Nat), k + n = (aWn w) → zJ X mL_areLots (215 + nz) 46 [.ref 0, .ref 217, .ref 218, .ref 219, .ref 220, .int 1, .int (nI k), y] [] (215 + nz) (gV g w) Q := by
  have hI := hM.1.1
  have hn := hI.1.1
  have hN := hI.1.2
  have hw := hI.2.1.1
  have hW := hI.2.1.2
  intro n
  induction n with
  | zero =>
    intro k hk
    refine j_iload dL_areLots_46 rfl ?_
    refine j_aload dL_areLots_48 rfl ?_
    refine j_iconst (v := 2) dL_areLots_50 (by decide) ?_
    refine l_ld (a := 220) (i := 2) (v := nI (aWn w)) 200 dL_areLots_51 (by decide) rfl hz (rfl) (by decide) rfl (hw) ?_
    refine j_icmp_ge dL_areLots_52 (tgt := 107) rfl (fun _ => ?_) (fun c1 => absurd (show nI (aWn w) ≤ nI k from nI_le (by omega) (by omega)) c1)
    exact hQ _
  | succ n ih =>
    intro k hk
    refine j_iload dL_areLots_46 rfl ?_
    refine j_aload dL_areLots_48 rfl ?_
    refine j_iconst (v := 2) dL_areLots_50 (by decide) ?_
    refine l_ld (a := 220) (i := 2) (v := nI (aWn w)) 200 dL_areLots_51 (by decide) rfl hz (rfl) (by decide) rfl (hw) ?_
    refine j_icmp_ge dL_areLots_52 (tgt := 107) rfl (fun c1 => absurd c1 (show ¬ nI (aWn w) ≤ nI k from nI_ge (by omega) (by omega))) (fun _ => ?_)
    refine j_iload dL_areLots_55 rfl ?_
    refine j_if_eq dL_areLots_57 (tgt := 98) rfl (fun c2 => absurd c2 (show ¬ (1 : Int32) = 0 by decide)) (fun _ => ?_)
    refine j_aload_n dL_areLots_60 rfl ?_
    refine j_iload dL_areLots_61 rfl ?_
    refine j_iconst (v := 0) dL_areLots_63 (by decide) ?_
    refine k_callV2i dL_areLots_64 vL_areLots_55 (o_waiting hc hM) rfl (by omega) rfl rfl (Nat.le_of_ble_eq_true rfl) ⟨rfl, rfl⟩ rfl ?_
    rintro _ _ ⟨⟨⟩, rfl⟩
    rw [lWai0 hw hW (show k < (aWn w) by omega)]
    refine j_aload_n dL_areLots_67 rfl ?_
    refine j_iconst (v := 2) dL_areLots_68 (by decide) ?_
    refine j_iload dL_areLots_69 rfl ?_
    refine j_imul dL_areLots_71 ?_
    refine l_ld (a := 217) (i := (2 * k)) (132 + (2 * k)) dL_areLots_72 (by decide) rfl hz (by first | rfl | (simp only [z_n, pk_mul, nI_add]; done) | (simp only [z_n, pk_mul, nI_add]; exact pk_sub (by omega)) | (simp only [z_n, pk_mul, nI_add, pk_sub, *]; done)) (show _ < 16 by omega) rfl rfl ?_
    refine j_icmp_ne dL_areLots_73 (tgt := 98) rfl (fun c3 => absurd c3 (fun q => q rfl)) (fun _ => ?_)
    refine j_aload_n dL_areLots_76 rfl ?_
    refine j_iload dL_areLots_77 rfl ?_
    refine j_iconst (v := 1) dL_areLots_79 (by decide) ?_
    refine k_callV2i dL_areLots_80 vL_areLots_55 (o_waiting hc hM) rfl (by omega) rfl rfl (Nat.le_of_ble_eq_true rfl) ⟨rfl, rfl⟩ rfl ?_
    rintro _ _ ⟨⟨⟩, rfl⟩
    rw [lWai1 hw hW (show k < (aWn w) by omega)]
    refine j_aload_n dL_areLots_83 rfl ?_
    refine j_iconst (v := 2) dL_areLots_84 (by decide) ?_
    refine j_iload dL_areLots_85 rfl ?_
    refine j_imul dL_areLots_87 ?_
    refine j_iconst (v := 1) dL_areLots_88 (by decide) ?_
    refine j_iadd dL_areLots_89 ?_
    refine l_ld (a := 217) (i := ((2 * k) + 1)) (132 + ((2 * k) + 1)) dL_areLots_90 (by decide) rfl hz (by first | rfl | (simp only [z_n, pk_mul, nI_add]; done) | (simp only [z_n, pk_mul, nI_add]; exact pk_sub (by omega)) | (simp only [z_n, pk_mul, nI_add, pk_sub, *]; done)) (show _ < 16 by omega) rfl rfl ?_
    refine j_icmp_ne dL_areLots_91 (tgt := 98) rfl (fun c4 => absurd c4 (fun q => q rfl)) (fun _ => ?_)
    refine j_iconst (v := 1) dL_areLots_94 (by decide) ?_
    refine j_goto dL_areLots_95 (tgt := 99) rfl ?_
    refine j_istore dL_areLots_99 (by decide) ?_
    refine j_iinc (v := nI (k + 1)) dL_areLots_101 rfl z_inc (by decide) ?_
    refine j_goto dL_areLots_104 (tgt := 46) rfl ?_
    exact ih (k + 1) (by omega)
set_option maxRecDepth 4000 in
set_option maxHeartbeats 2000000 in
theorem s_al_20 {g : zH} {w pa tx : Nat → Int32} {n0 T nz : Nat} (hz : 6 ≤ nz) (hc : CH (gV g w) w pa n0 tx T) (hM : aM w) {y : Value} {X : Nat × (Nat → Int32)} {Q : zQt} (hQ : ∀ y, zJ X mL_areLots (215 + nz) 110 [.ref 0, .ref 217, .ref 218, .ref 219, .ref 220, .int 1, .int 1, y] [] (215 + nz) (gV g w) Q) : zJ X mL_areLots (215 + nz) 110 [.ref 0, .ref 217, .ref 218, .ref 219, .ref 220, .int 1, .int 0, y] [] (215 + nz) (gV g w) Q := by
  refine j_iload dL_areLots_110 rfl ?_
  refine j_bipush (v := 9) dL_areLots_112 (by decide) ?_
  refine j_icmp_ge dL_areLots_114 (tgt := 270) rfl (fun c1 => absurd c1 (by decide)) (fun _ => ?_)
  refine j_iload dL_areLots_117 rfl ?_
  refine j_iconst (v := 2) dL_areLots_119 (by decide) ?_
  refine j_icmp_ge dL_areLots_120 (tgt := 130) rfl (fun c2 => absurd c2 (by decide)) (fun _ => ?_)
  refine j_aload_n dL_areLots_123 rfl ?_
  refine j_iload dL_areLots_124 rfl ?_
  refine l_ld (a := 218) (i := 0) 149 dL_areLots_126 (by decide) rfl hz (rfl) (by decide) rfl rfl ?_
  refine j_goto dL_areLots_127 (tgt := 227) rfl ?_
  refine j_istore dL_areLots_227 (by decide) ?_
  refine j_iload dL_areLots_229 rfl ?_
  refine j_if_eq dL_areLots_231 (tgt := 261) rfl (fun c3 => absurd c3 (show ¬ (1 : Int32) = 0 by decide)) (fun _ => ?_)
  refine j_aload_n dL_areLots_234 rfl ?_
  refine j_iload dL_areLots_235 rfl ?_
  refine k_callV1i dL_areLots_237 vL_areLots_58 (o_up hc hM) rfl (by omega) rfl (Nat.le_of_ble_eq_true rfl) ⟨rfl, rfl⟩ rfl ?_
  rintro _ _ ⟨⟨⟩, rfl⟩
  skip
  refine j_aload_n dL_areLots_240 rfl ?_
  refine j_bipush (v := 9) dL_areLots_241 (by decide) ?_
  refine l_ld (a := 218) (i := 9) 148 dL_areLots_243 (by decide) rfl hz (rfl) (by decide) rfl rfl ?_
  refine j_if_ne dL_areLots_244 (tgt := 252) rfl (fun c4 => ?_) (fun c4 => ?_)
  · refine j_iload dL_areLots_252 rfl ?_
    refine j_icmp_ne dL_areLots_254 (tgt := 261) rfl (fun c5 => absurd c5 (fun q => q ((lUp_q (j := 0) (by decide) (by decide) c4)))) (fun _ => ?_)
    refine j_iconst (v := 1) dL_areLots_257 (by decide) ?_
    refine j_goto dL_areLots_258 (tgt := 262) rfl ?_
    refine j_istore dL_areLots_262 (by decide) ?_
    refine j_iinc (v := 1) dL_areLots_264 rfl (by decide) (by decide) ?_
    refine j_goto dL_areLots_267 (tgt := 110) rfl ?_
    exact hQ _
  · refine j_ldc (v := (-1000002)) dL_areLots_247 cL_61 ?_
    refine j_goto dL_areLots_249 (tgt := 254) rfl ?_
    refine j_icmp_ne dL_areLots_254 (tgt := 261) rfl (fun c6 => absurd c6 (fun q => q (lUp_z (by decide) c4))) (fun _ => ?_)
    refine j_iconst (v := 1) dL_areLots_257 (by decide) ?_
    refine j_goto dL_areLots_258 (tgt := 262) rfl ?_
    refine j_istore dL_areLots_262 (by decide) ?_
    refine j_iinc (v := 1) dL_areLots_264 rfl (by decide) (by decide) ?_
    refine j_goto dL_areLots_267 (tgt := 110) rfl ?_
    exact hQ _
set_option maxRecDepth 4000 in
set_option maxHeartbeats 2000000 in
theorem s_al_21 {g : zH} {w pa tx : Nat → Int32} {n0 T nz : Nat} (hz : 6 ≤ nz) (hc : CH (gV g w) w pa n0 tx T) (hM : aM w) {y : Value} {X : Nat × (Nat → Int32)} {Q : zQt} (hQ : ∀ y, zJ X mL_areLots (215 + nz) 110 [.ref 0, .ref 217, .ref 218, .ref 219, .ref 220, .int 1, .int 2, y] [] (215 + nz) (gV g w) Q) : zJ X mL_areLots (215 + nz) 110 [.ref 0, .ref 217, .ref 218, .ref 219, .ref 220, .int 1, .int 1, y] [] (215 + nz) (gV g w) Q := by
  refine j_iload dL_areLots_110 rfl ?_
  refine j_bipush (v := 9) dL_areLots_112 (by decide) ?_
  refine j_icmp_ge dL_areLots_114 (tgt := 270) rfl (fun c1 => absurd c1 (by decide)) (fun _ => ?_)
  refine j_iload dL_areLots_117 rfl ?_
  refine j_iconst (v := 2) dL_areLots_119 (by decide) ?_
  refine j_icmp_ge dL_areLots_120 (tgt := 130) rfl (fun c2 => absurd c2 (by decide)) (fun _ => ?_)
  refine j_aload_n dL_areLots_123 rfl ?_
  refine j_iload dL_areLots_124 rfl ?_
  refine l_ld (a := 218) (i := 1) 150 dL_areLots_126 (by decide) rfl hz (rfl) (by decide) rfl rfl ?_
  refine j_goto dL_areLots_127 (tgt := 227) rfl ?_
  refine j_istore dL_areLots_227 (by decide) ?_
  refine j_iload dL_areLots_229 rfl ?_
  refine j_if_eq dL_areLots_231 (tgt := 261) rfl (fun c3 => absurd c3 (show ¬ (1 : Int32) = 0 by decide)) (fun _ => ?_)
  refine j_aload_n dL_areLots_234 rfl ?_
  refine j_iload dL_areLots_235 rfl ?_
  refine k_callV1i dL_areLots_237 vL_areLots_58 (o_up hc hM) rfl (by omega) rfl (Nat.le_of_ble_eq_true rfl) ⟨rfl, rfl⟩ rfl ?_
  rintro _ _ ⟨⟨⟩, rfl⟩
  skip
  refine j_aload_n dL_areLots_240 rfl ?_
  refine j_bipush (v := 9) dL_areLots_241 (by decide) ?_
  refine l_ld (a := 218) (i := 9) 148 dL_areLots_243 (by decide) rfl hz (rfl) (by decide) rfl rfl ?_
  refine j_if_ne dL_areLots_244 (tgt := 252) rfl (fun c4 => ?_) (fun c4 => ?_)
  · refine j_iload dL_areLots_252 rfl ?_
    refine j_icmp_ne dL_areLots_254 (tgt := 261) rfl (fun c5 => absurd c5 (fun q => q ((lUp_q (j := 1) (by decide) (by decide) c4)))) (fun _ => ?_)
    refine j_iconst (v := 1) dL_areLots_257 (by decide) ?_
    refine j_goto dL_areLots_258 (tgt := 262) rfl ?_
    refine j_istore dL_areLots_262 (by decide) ?_
    refine j_iinc (v := 2) dL_areLots_264 rfl (by decide) (by decide) ?_
    refine j_goto dL_areLots_267 (tgt := 110) rfl ?_
    exact hQ _
  · refine j_ldc (v := (-1000002)) dL_areLots_247 cL_61 ?_
    refine j_goto dL_areLots_249 (tgt := 254) rfl ?_
    refine j_icmp_ne dL_areLots_254 (tgt := 261) rfl (fun c6 => absurd c6 (fun q => q (lUp_z (by decide) c4))) (fun _ => ?_)
    refine j_iconst (v := 1) dL_areLots_257 (by decide) ?_
    refine j_goto dL_areLots_258 (tgt := 262) rfl ?_
    refine j_istore dL_areLots_262 (by decide) ?_
    refine j_iinc (v := 2) dL_areLots_264 rfl (by decide) (by decide) ?_
    refine j_goto dL_areLots_267 (tgt := 110) rfl ?_
    exact hQ _
set_option maxRecDepth 4000 in
set_option maxHeartbeats 2000000 in
theorem s_al_22 {g : zH} {w pa tx : Nat → Int32} {n0 T nz : Nat} (hz : 6 ≤ nz) (hc : CH (gV g w) w pa n0 tx T) (hM : aM w) {y : Value} {X : Nat × (Nat → Int32)} {Q : zQt} (hQ : ∀ y, zJ X mL_areLots (215 + nz) 110 [.ref 0, .ref 217, .ref 218, .ref 219, .ref 220, .int 1, .int 3, y] [] (215 + nz) (gV g w) Q) : zJ X mL_areLots (215 + nz) 110 [.ref 0, .ref 217, .ref 218, .ref 219, .ref 220, .int 1, .int 2, y] [] (215 + nz) (gV g w) Q := by
  refine j_iload dL_areLots_110 rfl ?_
  refine j_bipush (v := 9) dL_areLots_112 (by decide) ?_
  refine j_icmp_ge dL_areLots_114 (tgt := 270) rfl (fun c1 => absurd c1 (by decide)) (fun _ => ?_)
  refine j_iload dL_areLots_117 rfl ?_
  refine j_iconst (v := 2) dL_areLots_119 (by decide) ?_
  refine j_icmp_ge dL_areLots_120 (tgt := 130) rfl (fun _ => ?_) (fun c2 => absurd (by decide) c2)
  refine j_iload dL_areLots_130 rfl ?_
  refine j_iconst (v := 2) dL_areLots_132 (by decide) ?_
  refine j_icmp_ne dL_areLots_133 (tgt := 153) rfl (fun c3 => absurd c3 (fun q => q rfl)) (fun _ => ?_)
  refine j_aload_n dL_areLots_136 rfl ?_
  refine j_iconst (v := 3) dL_areLots_137 (by decide) ?_
  refine l_ld (a := 218) (i := 3) 152 dL_areLots_138 (by decide) rfl hz (rfl) (by decide) rfl rfl ?_
  refine j_if_le dL_areLots_139 (tgt := 148) rfl (fun c4 => ?_) (fun c4 => ?_)
  · refine j_ldc (v := (-1000004)) dL_areLots_148 cL_31 ?_
    refine j_goto dL_areLots_150 (tgt := 227) rfl ?_
    refine j_istore dL_areLots_227 (by decide) ?_
    refine j_iload dL_areLots_229 rfl ?_
    refine j_if_eq dL_areLots_231 (tgt := 261) rfl (fun c5 => absurd c5 (show ¬ (1 : Int32) = 0 by decide)) (fun _ => ?_)
    refine j_aload_n dL_areLots_234 rfl ?_
    refine j_iload dL_areLots_235 rfl ?_
    refine k_callV1i dL_areLots_237 vL_areLots_58 (o_up hc hM) rfl (by omega) rfl (Nat.le_of_ble_eq_true rfl) ⟨rfl, rfl⟩ rfl ?_
    rintro _ _ ⟨⟨⟩, rfl⟩
    skip
    refine j_aload_n dL_areLots_240 rfl ?_
    refine j_bipush (v := 9) dL_areLots_241 (by decide) ?_
    refine l_ld (a := 218) (i := 9) 148 dL_areLots_243 (by decide) rfl hz (rfl) (by decide) rfl rfl ?_
    refine j_if_ne dL_areLots_244 (tgt := 252) rfl (fun c6 => ?_) (fun c6 => ?_)
    · refine j_iload dL_areLots_252 rfl ?_
      refine j_icmp_ne dL_areLots_254 (tgt := 261) rfl (fun c7 => absurd c7 (fun q => q ((lUp_q (j := 2) (by decide) (by decide) c6).trans (if_pos c4)))) (fun _ => ?_)
      refine j_iconst (v := 1) dL_areLots_257 (by decide) ?_
      refine j_goto dL_areLots_258 (tgt := 262) rfl ?_
      refine j_istore dL_areLots_262 (by decide) ?_
      refine j_iinc (v := 3) dL_areLots_264 rfl (by decide) (by decide) ?_
      refine j_goto dL_areLots_267 (tgt := 110) rfl ?_
      exact hQ _
    · refine j_ldc (v := (-1000002)) dL_areLots_247 cL_61 ?_
      refine j_goto dL_areLots_249 (tgt := 254) rfl ?_
      refine j_icmp_ne dL_areLots_254 (tgt := 261) rfl (fun c8 => absurd c8 (fun q => q (lUp_z (by decide) c6))) (fun _ => ?_)
      refine j_iconst (v := 1) dL_areLots_257 (by decide) ?_
      refine j_goto dL_areLots_258 (tgt := 262) rfl ?_
      refine j_istore dL_areLots_262 (by decide) ?_
      refine j_iinc (v := 3) dL_areLots_264 rfl (by decide) (by decide) ?_
      refine j_goto dL_areLots_267 (tgt := 110) rfl ?_
      exact hQ _
  · refine j_aload_n dL_areLots_142 rfl ?_
    refine j_iconst (v := 2) dL_areLots_143 (by decide) ?_
    refine l_ld (a := 218) (i := 2) 151 dL_areLots_144 (by decide) rfl hz (rfl) (by decide) rfl rfl ?_
    refine j_goto dL_areLots_145 (tgt := 227) rfl ?_
    refine j_istore dL_areLots_227 (by decide) ?_
    refine j_iload dL_areLots_229 rfl ?_
    refine j_if_eq dL_areLots_231 (tgt := 261) rfl (fun c9 => absurd c9 (show ¬ (1 : Int32) = 0 by decide)) (fun _ => ?_)
    refine j_aload_n dL_areLots_234 rfl ?_
    refine j_iload dL_areLots_235 rfl ?_
    refine k_callV1i dL_areLots_237 vL_areLots_58 (o_up hc hM) rfl (by omega) rfl (Nat.le_of_ble_eq_true rfl) ⟨rfl, rfl⟩ rfl ?_
    rintro _ _ ⟨⟨⟩, rfl⟩
    skip
    refine j_aload_n dL_areLots_240 rfl ?_
    refine j_bipush (v := 9) dL_areLots_241 (by decide) ?_
    refine l_ld (a := 218) (i := 9) 148 dL_areLots_243 (by decide) rfl hz (rfl) (by decide) rfl rfl ?_
    refine j_if_ne dL_areLots_244 (tgt := 252) rfl (fun c10 => ?_) (fun c10 => ?_)
    · refine j_iload dL_areLots_252 rfl ?_
      refine j_icmp_ne dL_areLots_254 (tgt := 261) rfl (fun c11 => absurd c11 (fun q => q ((lUp_q (j := 2) (by decide) (by decide) c10).trans (if_neg c4)))) (fun _ => ?_)
      refine j_iconst (v := 1) dL_areLots_257 (by decide) ?_
      refine j_goto dL_areLots_258 (tgt := 262) rfl ?_
      refine j_istore dL_areLots_262 (by decide) ?_
      refine j_iinc (v := 3) dL_areLots_264 rfl (by decide) (by decide) ?_
      refine j_goto dL_areLots_267 (tgt := 110) rfl ?_
      exact hQ _
    · refine j_ldc (v := (-1000002)) dL_areLots_247 cL_61 ?_
      refine j_goto dL_areLots_249 (tgt := 254) rfl ?_
      refine j_icmp_ne dL_areLots_254 (tgt := 261) rfl (fun c12 => absurd c12 (fun q => q (lUp_z (by decide) c10))) (fun _ => ?_)
      refine j_iconst (v := 1) dL_areLots_257 (by decide) ?_
      refine j_goto dL_areLots_258 (tgt := 262) rfl ?_
      refine j_istore dL_areLots_262 (by decide) ?_
      refine j_iinc (v := 3) dL_areLots_264 rfl (by decide) (by decide) ?_
      refine j_goto dL_areLots_267 (tgt := 110) rfl ?_
      exact hQ _
set_option maxRecDepth 4000 in
set_option maxHeartbeats 2000000 in
theorem s_al_23 {g : zH} {w pa tx : Nat → Int32} {n0 T nz : Nat} (hz : 6 ≤ nz) (hc : CH (gV g w) w pa n0 tx T) (hM : aM w) {y : Value} {X : Nat × (Nat → Int32)} {Q : zQt} (hQ : ∀ y, zJ X mL_areLots (215 + nz) 110 [.ref 0, .ref 217, .ref 218, .ref 219, .ref 220, .int 1, .int 4, y] [] (215 + nz) (gV g w) Q) : zJ X mL_areLots (215 + nz) 110 [.ref 0, .ref 217, .ref 218, .ref 219, .ref 220, .int 1, .int 3, y] [] (215 + nz) (gV g w) Q := by
  refine j_iload dL_areLots_110 rfl ?_
  refine j_bipush (v := 9) dL_areLots_112 (by decide) ?_
  refine j_icmp_ge dL_areLots_114 (tgt := 270) rfl (fun c1 => absurd c1 (by decide)) (fun _ => ?_)
  refine j_iload dL_areLots_117 rfl ?_
  refine j_iconst (v := 2) dL_areLots_119 (by decide) ?_
  refine j_icmp_ge dL_areLots_120 (tgt := 130) rfl (fun _ => ?_) (fun c2 => absurd (by decide) c2)
  refine j_iload dL_areLots_130 rfl ?_
  refine j_iconst (v := 2) dL_areLots_132 (by decide) ?_
  refine j_icmp_ne dL_areLots_133 (tgt := 153) rfl (fun _ => ?_) (fun c3 => absurd c3 (by decide))
  refine j_iload dL_areLots_153 rfl ?_
  refine j_iconst (v := 3) dL_areLots_155 (by decide) ?_
  refine j_icmp_ne dL_areLots_156 (tgt := 178) rfl (fun c4 => absurd c4 (fun q => q rfl)) (fun _ => ?_)
  refine j_aload_n dL_areLots_159 rfl ?_
  refine j_iconst (v := 3) dL_areLots_160 (by decide) ?_
  refine l_ld (a := 218) (i := 3) 152 dL_areLots_161 (by decide) rfl hz (rfl) (by decide) rfl rfl ?_
  refine j_if_le dL_areLots_162 (tgt := 173) rfl (fun c5 => ?_) (fun c5 => ?_)
  · refine j_ldc (v := (-1000004)) dL_areLots_173 cL_31 ?_
    refine j_goto dL_areLots_175 (tgt := 227) rfl ?_
    refine j_istore dL_areLots_227 (by decide) ?_
    refine j_iload dL_areLots_229 rfl ?_
    refine j_if_eq dL_areLots_231 (tgt := 261) rfl (fun c6 => absurd c6 (show ¬ (1 : Int32) = 0 by decide)) (fun _ => ?_)
    refine j_aload_n dL_areLots_234 rfl ?_
    refine j_iload dL_areLots_235 rfl ?_
    refine k_callV1i dL_areLots_237 vL_areLots_58 (o_up hc hM) rfl (by omega) rfl (Nat.le_of_ble_eq_true rfl) ⟨rfl, rfl⟩ rfl ?_
    rintro _ _ ⟨⟨⟩, rfl⟩
    skip
    refine j_aload_n dL_areLots_240 rfl ?_
    refine j_bipush (v := 9) dL_areLots_241 (by decide) ?_
    refine l_ld (a := 218) (i := 9) 148 dL_areLots_243 (by decide) rfl hz (rfl) (by decide) rfl rfl ?_
    refine j_if_ne dL_areLots_244 (tgt := 252) rfl (fun c7 => ?_) (fun c7 => ?_)
    · refine j_iload dL_areLots_252 rfl ?_
      refine j_icmp_ne dL_areLots_254 (tgt := 261) rfl (fun c8 => absurd c8 (fun q => q ((lUp_q (j := 3) (by decide) (by decide) c7).trans (if_pos c5)))) (fun _ => ?_)
      refine j_iconst (v := 1) dL_areLots_257 (by decide) ?_
      refine j_goto dL_areLots_258 (tgt := 262) rfl ?_
      refine j_istore dL_areLots_262 (by decide) ?_
      refine j_iinc (v := 4) dL_areLots_264 rfl (by decide) (by decide) ?_
      refine j_goto dL_areLots_267 (tgt := 110) rfl ?_
      exact hQ _
    · refine j_ldc (v := (-1000002)) dL_areLots_247 cL_61 ?_
      refine j_goto dL_areLots_249 (tgt := 254) rfl ?_
      refine j_icmp_ne dL_areLots_254 (tgt := 261) rfl (fun c9 => absurd c9 (fun q => q (lUp_z (by decide) c7))) (fun _ => ?_)
      refine j_iconst (v := 1) dL_areLots_257 (by decide) ?_
      refine j_goto dL_areLots_258 (tgt := 262) rfl ?_
      refine j_istore dL_areLots_262 (by decide) ?_
      refine j_iinc (v := 4) dL_areLots_264 rfl (by decide) (by decide) ?_
      refine j_goto dL_areLots_267 (tgt := 110) rfl ?_
      exact hQ _
  · refine j_aload_n dL_areLots_165 rfl ?_
    refine j_iconst (v := 3) dL_areLots_166 (by decide) ?_
    refine l_ld (a := 218) (i := 3) 152 dL_areLots_167 (by decide) rfl hz (rfl) (by decide) rfl rfl ?_
    refine j_iconst (v := 1) dL_areLots_168 (by decide) ?_
    refine j_isub dL_areLots_169 ?_
    refine j_goto dL_areLots_170 (tgt := 227) rfl ?_
    refine j_istore dL_areLots_227 (by decide) ?_
    refine j_iload dL_areLots_229 rfl ?_
    refine j_if_eq dL_areLots_231 (tgt := 261) rfl (fun c10 => absurd c10 (show ¬ (1 : Int32) = 0 by decide)) (fun _ => ?_)
    refine j_aload_n dL_areLots_234 rfl ?_
    refine j_iload dL_areLots_235 rfl ?_
    refine k_callV1i dL_areLots_237 vL_areLots_58 (o_up hc hM) rfl (by omega) rfl (Nat.le_of_ble_eq_true rfl) ⟨rfl, rfl⟩ rfl ?_
    rintro _ _ ⟨⟨⟩, rfl⟩
    skip
    refine j_aload_n dL_areLots_240 rfl ?_
    refine j_bipush (v := 9) dL_areLots_241 (by decide) ?_
    refine l_ld (a := 218) (i := 9) 148 dL_areLots_243 (by decide) rfl hz (rfl) (by decide) rfl rfl ?_
    refine j_if_ne dL_areLots_244 (tgt := 252) rfl (fun c11 => ?_) (fun c11 => ?_)
    · refine j_iload dL_areLots_252 rfl ?_
      refine j_icmp_ne dL_areLots_254 (tgt := 261) rfl (fun c12 => absurd c12 (fun q => q ((lUp_q (j := 3) (by decide) (by decide) c11).trans (if_neg c5)))) (fun _ => ?_)
      refine j_iconst (v := 1) dL_areLots_257 (by decide) ?_
      refine j_goto dL_areLots_258 (tgt := 262) rfl ?_
      refine j_istore dL_areLots_262 (by decide) ?_
      refine j_iinc (v := 4) dL_areLots_264 rfl (by decide) (by decide) ?_
      refine j_goto dL_areLots_267 (tgt := 110) rfl ?_
      exact hQ _
    · refine j_ldc (v := (-1000002)) dL_areLots_247 cL_61 ?_
      refine j_goto dL_areLots_249 (tgt := 254) rfl ?_
      refine j_icmp_ne dL_areLots_254 (tgt := 261) rfl (fun c13 => absurd c13 (fun q => q (lUp_z (by decide) c11))) (fun _ => ?_)
      refine j_iconst (v := 1) dL_areLots_257 (by decide) ?_
      refine j_goto dL_areLots_258 (tgt := 262) rfl ?_
      refine j_istore dL_areLots_262 (by decide) ?_
      refine j_iinc (v := 4) dL_areLots_264 rfl (by decide) (by decide) ?_
      refine j_goto dL_areLots_267 (tgt := 110) rfl ?_
      exact hQ _
set_option maxRecDepth 4000 in
set_option maxHeartbeats 2000000 in
theorem s_al_24 {g : zH} {w pa tx : Nat → Int32} {n0 T nz : Nat} (hz : 6 ≤ nz) (hc : CH (gV g w) w pa n0 tx T) (hM : aM w) {y : Value} {X : Nat × (Nat → Int32)} {Q : zQt} (hQ : ∀ y, zJ X mL_areLots (215 + nz) 110 [.ref 0, .ref 217, .ref 218, .ref 219, .ref 220, .int 1, .int 5, y] [] (215 + nz) (gV g w) Q) : zJ X mL_areLots (215 + nz) 110 [.ref 0, .ref 217, .ref 218, .ref 219, .ref 220, .int 1, .int 4, y] [] (215 + nz) (gV g w) Q := by
  refine j_iload dL_areLots_110 rfl ?_
  refine j_bipush (v := 9) dL_areLots_112 (by decide) ?_
  refine j_icmp_ge dL_areLots_114 (tgt := 270) rfl (fun c1 => absurd c1 (by decide)) (fun _ => ?_)
  refine j_iload dL_areLots_117 rfl ?_
  refine j_iconst (v := 2) dL_areLots_119 (by decide) ?_
  refine j_icmp_ge dL_areLots_120 (tgt := 130) rfl (fun _ => ?_) (fun c2 => absurd (by decide) c2)
  refine j_iload dL_areLots_130 rfl ?_
  refine j_iconst (v := 2) dL_areLots_132 (by decide) ?_
  refine j_icmp_ne dL_areLots_133 (tgt := 153) rfl (fun _ => ?_) (fun c3 => absurd c3 (by decide))
  refine j_iload dL_areLots_153 rfl ?_
  refine j_iconst (v := 3) dL_areLots_155 (by decide) ?_
  refine j_icmp_ne dL_areLots_156 (tgt := 178) rfl (fun _ => ?_) (fun c4 => absurd c4 (by decide))
  refine j_iload dL_areLots_178 rfl ?_
  refine j_bipush (v := 6) dL_areLots_180 (by decide) ?_
  refine j_icmp_ge dL_areLots_182 (tgt := 192) rfl (fun c5 => absurd c5 (by decide)) (fun _ => ?_)
  refine j_aload_n dL_areLots_185 rfl ?_
  refine j_iload dL_areLots_186 rfl ?_
  refine l_ld (a := 218) (i := 4) 153 dL_areLots_188 (by decide) rfl hz (rfl) (by decide) rfl rfl ?_
  refine j_goto dL_areLots_189 (tgt := 227) rfl ?_
  refine j_istore dL_areLots_227 (by decide) ?_
  refine j_iload dL_areLots_229 rfl ?_
  refine j_if_eq dL_areLots_231 (tgt := 261) rfl (fun c6 => absurd c6 (show ¬ (1 : Int32) = 0 by decide)) (fun _ => ?_)
  refine j_aload_n dL_areLots_234 rfl ?_
  refine j_iload dL_areLots_235 rfl ?_
  refine k_callV1i dL_areLots_237 vL_areLots_58 (o_up hc hM) rfl (by omega) rfl (Nat.le_of_ble_eq_true rfl) ⟨rfl, rfl⟩ rfl ?_
  rintro _ _ ⟨⟨⟩, rfl⟩
  skip
  refine j_aload_n dL_areLots_240 rfl ?_
  refine j_bipush (v := 9) dL_areLots_241 (by decide) ?_
  refine l_ld (a := 218) (i := 9) 148 dL_areLots_243 (by decide) rfl hz (rfl) (by decide) rfl rfl ?_
  refine j_if_ne dL_areLots_244 (tgt := 252) rfl (fun c7 => ?_) (fun c7 => ?_)
  · refine j_iload dL_areLots_252 rfl ?_
    refine j_icmp_ne dL_areLots_254 (tgt := 261) rfl (fun c8 => absurd c8 (fun q => q ((lUp_q (j := 4) (by decide) (by decide) c7)))) (fun _ => ?_)
    refine j_iconst (v := 1) dL_areLots_257 (by decide) ?_
    refine j_goto dL_areLots_258 (tgt := 262) rfl ?_
    refine j_istore dL_areLots_262 (by decide) ?_
    refine j_iinc (v := 5) dL_areLots_264 rfl (by decide) (by decide) ?_
    refine j_goto dL_areLots_267 (tgt := 110) rfl ?_
    exact hQ _
  · refine j_ldc (v := (-1000002)) dL_areLots_247 cL_61 ?_
    refine j_goto dL_areLots_249 (tgt := 254) rfl ?_
    refine j_icmp_ne dL_areLots_254 (tgt := 261) rfl (fun c9 => absurd c9 (fun q => q (lUp_z (by decide) c7))) (fun _ => ?_)
    refine j_iconst (v := 1) dL_areLots_257 (by decide) ?_
    refine j_goto dL_areLots_258 (tgt := 262) rfl ?_
    refine j_istore dL_areLots_262 (by decide) ?_
    refine j_iinc (v := 5) dL_areLots_264 rfl (by decide) (by decide) ?_
    refine j_goto dL_areLots_267 (tgt := 110) rfl ?_
    exact hQ _
set_option maxRecDepth 4000 in
set_option maxHeartbeats 2000000 in
theorem s_al_25 {g : zH} {w pa tx : Nat → Int32} {n0 T nz : Nat} (hz : 6 ≤ nz) (hc : CH (gV g w) w pa n0 tx T) (hM : aM w) {y : Value} {X : Nat × (Nat → Int32)} {Q : zQt} (hQ : ∀ y, zJ X mL_areLots (215 + nz) 110 [.ref 0, .ref 217, .ref 218, .ref 219, .ref 220, .int 1, .int 6, y] [] (215 + nz) (gV g w) Q) : zJ X mL_areLots (215 + nz) 110 [.ref 0, .ref 217, .ref 218, .ref 219, .ref 220, .int 1, .int 5, y] [] (215 + nz) (gV g w) Q := by
  refine j_iload dL_areLots_110 rfl ?_
  refine j_bipush (v := 9) dL_areLots_112 (by decide) ?_
  refine j_icmp_ge dL_areLots_114 (tgt := 270) rfl (fun c1 => absurd c1 (by decide)) (fun _ => ?_)
  refine j_iload dL_areLots_117 rfl ?_
  refine j_iconst (v := 2) dL_areLots_119 (by decide) ?_
  refine j_icmp_ge dL_areLots_120 (tgt := 130) rfl (fun _ => ?_) (fun c2 => absurd (by decide) c2)
  refine j_iload dL_areLots_130 rfl ?_
  refine j_iconst (v := 2) dL_areLots_132 (by decide) ?_
  refine j_icmp_ne dL_areLots_133 (tgt := 153) rfl (fun _ => ?_) (fun c3 => absurd c3 (by decide))
  refine j_iload dL_areLots_153 rfl ?_
  refine j_iconst (v := 3) dL_areLots_155 (by decide) ?_
  refine j_icmp_ne dL_areLots_156 (tgt := 178) rfl (fun _ => ?_) (fun c4 => absurd c4 (by decide))
  refine j_iload dL_areLots_178 rfl ?_
  refine j_bipush (v := 6) dL_areLots_180 (by decide) ?_
  refine j_icmp_ge dL_areLots_182 (tgt := 192) rfl (fun c5 => absurd c5 (by decide)) (fun _ => ?_)
  refine j_aload_n dL_areLots_185 rfl ?_
  refine j_iload dL_areLots_186 rfl ?_
  refine l_ld (a := 218) (i := 5) 154 dL_areLots_188 (by decide) rfl hz (rfl) (by decide) rfl rfl ?_
  refine j_goto dL_areLots_189 (tgt := 227) rfl ?_
  refine j_istore dL_areLots_227 (by decide) ?_
  refine j_iload dL_areLots_229 rfl ?_
  refine j_if_eq dL_areLots_231 (tgt := 261) rfl (fun c6 => absurd c6 (show ¬ (1 : Int32) = 0 by decide)) (fun _ => ?_)
  refine j_aload_n dL_areLots_234 rfl ?_
  refine j_iload dL_areLots_235 rfl ?_
  refine k_callV1i dL_areLots_237 vL_areLots_58 (o_up hc hM) rfl (by omega) rfl (Nat.le_of_ble_eq_true rfl) ⟨rfl, rfl⟩ rfl ?_
  rintro _ _ ⟨⟨⟩, rfl⟩
  skip
  refine j_aload_n dL_areLots_240 rfl ?_
  refine j_bipush (v := 9) dL_areLots_241 (by decide) ?_
  refine l_ld (a := 218) (i := 9) 148 dL_areLots_243 (by decide) rfl hz (rfl) (by decide) rfl rfl ?_
  refine j_if_ne dL_areLots_244 (tgt := 252) rfl (fun c7 => ?_) (fun c7 => ?_)
  · refine j_iload dL_areLots_252 rfl ?_
    refine j_icmp_ne dL_areLots_254 (tgt := 261) rfl (fun c8 => absurd c8 (fun q => q ((lUp_q (j := 5) (by decide) (by decide) c7)))) (fun _ => ?_)
    refine j_iconst (v := 1) dL_areLots_257 (by decide) ?_
    refine j_goto dL_areLots_258 (tgt := 262) rfl ?_
    refine j_istore dL_areLots_262 (by decide) ?_
    refine j_iinc (v := 6) dL_areLots_264 rfl (by decide) (by decide) ?_
    refine j_goto dL_areLots_267 (tgt := 110) rfl ?_
    exact hQ _
  · refine j_ldc (v := (-1000002)) dL_areLots_247 cL_61 ?_
    refine j_goto dL_areLots_249 (tgt := 254) rfl ?_
    refine j_icmp_ne dL_areLots_254 (tgt := 261) rfl (fun c9 => absurd c9 (fun q => q (lUp_z (by decide) c7))) (fun _ => ?_)
    refine j_iconst (v := 1) dL_areLots_257 (by decide) ?_
    refine j_goto dL_areLots_258 (tgt := 262) rfl ?_
    refine j_istore dL_areLots_262 (by decide) ?_
    refine j_iinc (v := 6) dL_areLots_264 rfl (by decide) (by decide) ?_
    refine j_goto dL_areLots_267 (tgt := 110) rfl ?_
    exact hQ _
set_option maxRecDepth 4000 in
set_option maxHeartbeats 2000000 in
theorem s_al_26 {g : zH} {w pa tx : Nat → Int32} {n0 T nz : Nat} (hz : 6 ≤ nz) (hc : CH (gV g w) w pa n0 tx T) (hM : aM w) {y : Value} {X : Nat × (Nat → Int32)} {Q : zQt} (hQ : ∀ y, zJ X mL_areLots (215 + nz) 110 [.ref 0, .ref 217, .ref 218, .ref 219, .ref 220, .int 1, .int 7, y] [] (215 + nz) (gV g w) Q) : zJ X mL_areLots (215 + nz) 110 [.ref 0, .ref 217, .ref 218, .ref 219, .ref 220, .int 1, .int 6, y] [] (215 + nz) (gV g w) Q := by
  refine j_iload dL_areLots_110 rfl ?_
  refine j_bipush (v := 9) dL_areLots_112 (by decide) ?_
  refine j_icmp_ge dL_areLots_114 (tgt := 270) rfl (fun c1 => absurd c1 (by decide)) (fun _ => ?_)
  refine j_iload dL_areLots_117 rfl ?_
  refine j_iconst (v := 2) dL_areLots_119 (by decide) ?_
  refine j_icmp_ge dL_areLots_120 (tgt := 130) rfl (fun _ => ?_) (fun c2 => absurd (by decide) c2)
  refine j_iload dL_areLots_130 rfl ?_
  refine j_iconst (v := 2) dL_areLots_132 (by decide) ?_
  refine j_icmp_ne dL_areLots_133 (tgt := 153) rfl (fun _ => ?_) (fun c3 => absurd c3 (by decide))
  refine j_iload dL_areLots_153 rfl ?_
  refine j_iconst (v := 3) dL_areLots_155 (by decide) ?_
  refine j_icmp_ne dL_areLots_156 (tgt := 178) rfl (fun _ => ?_) (fun c4 => absurd c4 (by decide))
  refine j_iload dL_areLots_178 rfl ?_
  refine j_bipush (v := 6) dL_areLots_180 (by decide) ?_
  refine j_icmp_ge dL_areLots_182 (tgt := 192) rfl (fun _ => ?_) (fun c5 => absurd (by decide) c5)
  refine j_iload dL_areLots_192 rfl ?_
  refine j_bipush (v := 6) dL_areLots_194 (by decide) ?_
  refine j_icmp_ne dL_areLots_196 (tgt := 221) rfl (fun c6 => absurd c6 (fun q => q rfl)) (fun _ => ?_)
  refine j_aload_n dL_areLots_199 rfl ?_
  refine j_iconst (v := 3) dL_areLots_200 (by decide) ?_
  refine l_ld (a := 218) (i := 3) 152 dL_areLots_201 (by decide) rfl hz (rfl) (by decide) rfl rfl ?_
  refine j_if_le dL_areLots_202 (tgt := 215) rfl (fun c7 => ?_) (fun c7 => ?_)
  · refine j_aload_n dL_areLots_215 rfl ?_
    refine j_iconst (v := 0) dL_areLots_216 (by decide) ?_
    refine l_ld (a := 218) (i := 0) 149 dL_areLots_217 (by decide) rfl hz (rfl) (by decide) rfl rfl ?_
    refine j_goto dL_areLots_218 (tgt := 227) rfl ?_
    refine j_istore dL_areLots_227 (by decide) ?_
    refine j_iload dL_areLots_229 rfl ?_
    refine j_if_eq dL_areLots_231 (tgt := 261) rfl (fun c8 => absurd c8 (show ¬ (1 : Int32) = 0 by decide)) (fun _ => ?_)
    refine j_aload_n dL_areLots_234 rfl ?_
    refine j_iload dL_areLots_235 rfl ?_
    refine k_callV1i dL_areLots_237 vL_areLots_58 (o_up hc hM) rfl (by omega) rfl (Nat.le_of_ble_eq_true rfl) ⟨rfl, rfl⟩ rfl ?_
    rintro _ _ ⟨⟨⟩, rfl⟩
    skip
    refine j_aload_n dL_areLots_240 rfl ?_
    refine j_bipush (v := 9) dL_areLots_241 (by decide) ?_
    refine l_ld (a := 218) (i := 9) 148 dL_areLots_243 (by decide) rfl hz (rfl) (by decide) rfl rfl ?_
    refine j_if_ne dL_areLots_244 (tgt := 252) rfl (fun c9 => ?_) (fun c9 => ?_)
    · refine j_iload dL_areLots_252 rfl ?_
      refine j_icmp_ne dL_areLots_254 (tgt := 261) rfl (fun c10 => absurd c10 (fun q => q ((lUp_q (j := 6) (by decide) (by decide) c9).trans (if_pos c7)))) (fun _ => ?_)
      refine j_iconst (v := 1) dL_areLots_257 (by decide) ?_
      refine j_goto dL_areLots_258 (tgt := 262) rfl ?_
      refine j_istore dL_areLots_262 (by decide) ?_
      refine j_iinc (v := 7) dL_areLots_264 rfl (by decide) (by decide) ?_
      refine j_goto dL_areLots_267 (tgt := 110) rfl ?_
      exact hQ _
    · refine j_ldc (v := (-1000002)) dL_areLots_247 cL_61 ?_
      refine j_goto dL_areLots_249 (tgt := 254) rfl ?_
      refine j_icmp_ne dL_areLots_254 (tgt := 261) rfl (fun c11 => absurd c11 (fun q => q (lUp_z (by decide) c9))) (fun _ => ?_)
      refine j_iconst (v := 1) dL_areLots_257 (by decide) ?_
      refine j_goto dL_areLots_258 (tgt := 262) rfl ?_
      refine j_istore dL_areLots_262 (by decide) ?_
      refine j_iinc (v := 7) dL_areLots_264 rfl (by decide) (by decide) ?_
      refine j_goto dL_areLots_267 (tgt := 110) rfl ?_
      exact hQ _
  · refine j_aload_n dL_areLots_205 rfl ?_
    refine j_iconst (v := 2) dL_areLots_206 (by decide) ?_
    refine l_ld (a := 218) (i := 2) 151 dL_areLots_207 (by decide) rfl hz (rfl) (by decide) rfl rfl ?_
    refine j_aload_n dL_areLots_208 rfl ?_
    refine j_iconst (v := 1) dL_areLots_209 (by decide) ?_
    refine l_ld (a := 218) (i := 1) 150 dL_areLots_210 (by decide) rfl hz (rfl) (by decide) rfl rfl ?_
    refine j_iadd dL_areLots_211 ?_
    refine j_goto dL_areLots_212 (tgt := 227) rfl ?_
    refine j_istore dL_areLots_227 (by decide) ?_
    refine j_iload dL_areLots_229 rfl ?_
    refine j_if_eq dL_areLots_231 (tgt := 261) rfl (fun c12 => absurd c12 (show ¬ (1 : Int32) = 0 by decide)) (fun _ => ?_)
    refine j_aload_n dL_areLots_234 rfl ?_
    refine j_iload dL_areLots_235 rfl ?_
    refine k_callV1i dL_areLots_237 vL_areLots_58 (o_up hc hM) rfl (by omega) rfl (Nat.le_of_ble_eq_true rfl) ⟨rfl, rfl⟩ rfl ?_
    rintro _ _ ⟨⟨⟩, rfl⟩
    skip
    refine j_aload_n dL_areLots_240 rfl ?_
    refine j_bipush (v := 9) dL_areLots_241 (by decide) ?_
    refine l_ld (a := 218) (i := 9) 148 dL_areLots_243 (by decide) rfl hz (rfl) (by decide) rfl rfl ?_
    refine j_if_ne dL_areLots_244 (tgt := 252) rfl (fun c13 => ?_) (fun c13 => ?_)
    · refine j_iload dL_areLots_252 rfl ?_
      refine j_icmp_ne dL_areLots_254 (tgt := 261) rfl (fun c14 => absurd c14 (fun q => q ((lUp_q (j := 6) (by decide) (by decide) c13).trans (if_neg c7)))) (fun _ => ?_)
      refine j_iconst (v := 1) dL_areLots_257 (by decide) ?_
      refine j_goto dL_areLots_258 (tgt := 262) rfl ?_
      refine j_istore dL_areLots_262 (by decide) ?_
      refine j_iinc (v := 7) dL_areLots_264 rfl (by decide) (by decide) ?_
      refine j_goto dL_areLots_267 (tgt := 110) rfl ?_
      exact hQ _
    · refine j_ldc (v := (-1000002)) dL_areLots_247 cL_61 ?_
      refine j_goto dL_areLots_249 (tgt := 254) rfl ?_
      refine j_icmp_ne dL_areLots_254 (tgt := 261) rfl (fun c15 => absurd c15 (fun q => q (lUp_z (by decide) c13))) (fun _ => ?_)
      refine j_iconst (v := 1) dL_areLots_257 (by decide) ?_
      refine j_goto dL_areLots_258 (tgt := 262) rfl ?_
      refine j_istore dL_areLots_262 (by decide) ?_
      refine j_iinc (v := 7) dL_areLots_264 rfl (by decide) (by decide) ?_
      refine j_goto dL_areLots_267 (tgt := 110) rfl ?_
      exact hQ _
set_option maxRecDepth 4000 in
set_option maxHeartbeats 2000000 in
theorem s_al_27 {g : zH} {w pa tx : Nat → Int32} {n0 T nz : Nat} (hz : 6 ≤ nz) (hc : CH (gV g w) w pa n0 tx T) (hM : aM w) {y : Value} {X : Nat × (Nat → Int32)} {Q : zQt} (hQ : ∀ y, zJ X mL_areLots (215 + nz) 110 [.ref 0, .ref 217, .ref 218, .ref 219, .ref 220, .int 1, .int 8, y] [] (215 + nz) (gV g w) Q) : zJ X mL_areLots (215 + nz) 110 [.ref 0, .ref 217, .ref 218, .ref 219, .ref 220, .int 1, .int 7, y] [] (215 + nz) (gV g w) Q := by
  refine j_iload dL_areLots_110 rfl ?_
  refine j_bipush (v := 9) dL_areLots_112 (by decide) ?_
  refine j_icmp_ge dL_areLots_114 (tgt := 270) rfl (fun c1 => absurd c1 (by decide)) (fun _ => ?_)
  refine j_iload dL_areLots_117 rfl ?_
  refine j_iconst (v := 2) dL_areLots_119 (by decide) ?_
  refine j_icmp_ge dL_areLots_120 (tgt := 130) rfl (fun _ => ?_) (fun c2 => absurd (by decide) c2)
  refine j_iload dL_areLots_130 rfl ?_
  refine j_iconst (v := 2) dL_areLots_132 (by decide) ?_
  refine j_icmp_ne dL_areLots_133 (tgt := 153) rfl (fun _ => ?_) (fun c3 => absurd c3 (by decide))
  refine j_iload dL_areLots_153 rfl ?_
  refine j_iconst (v := 3) dL_areLots_155 (by decide) ?_
  refine j_icmp_ne dL_areLots_156 (tgt := 178) rfl (fun _ => ?_) (fun c4 => absurd c4 (by decide))
  refine j_iload dL_areLots_178 rfl ?_
  refine j_bipush (v := 6) dL_areLots_180 (by decide) ?_
  refine j_icmp_ge dL_areLots_182 (tgt := 192) rfl (fun _ => ?_) (fun c5 => absurd (by decide) c5)
  refine j_iload dL_areLots_192 rfl ?_
  refine j_bipush (v := 6) dL_areLots_194 (by decide) ?_
  refine j_icmp_ne dL_areLots_196 (tgt := 221) rfl (fun _ => ?_) (fun c6 => absurd c6 (by decide))
  refine j_aload_n dL_areLots_221 rfl ?_
  refine j_iload dL_areLots_222 rfl ?_
  refine j_iconst (v := 1) dL_areLots_224 (by decide) ?_
  skip
  refine j_isub dL_areLots_225 ?_
  refine l_ld (a := 218) (i := (7 - 1)) (149 + (7 - 1)) dL_areLots_226 (by decide) rfl hz (by first | rfl | (simp only [z_n, pk_mul, nI_add]; done) | (simp only [z_n, pk_mul, nI_add]; exact pk_sub (by omega)) | (simp only [z_n, pk_mul, nI_add, pk_sub, *]; done)) (show _ < 10 by omega) (jU (by omega)) rfl ?_
  refine j_istore dL_areLots_227 (by decide) ?_
  refine j_iload dL_areLots_229 rfl ?_
  refine j_if_eq dL_areLots_231 (tgt := 261) rfl (fun c7 => absurd c7 (show ¬ (1 : Int32) = 0 by decide)) (fun _ => ?_)
  refine j_aload_n dL_areLots_234 rfl ?_
  refine j_iload dL_areLots_235 rfl ?_
  refine k_callV1i dL_areLots_237 vL_areLots_58 (o_up hc hM) rfl (by omega) rfl (Nat.le_of_ble_eq_true rfl) ⟨rfl, rfl⟩ rfl ?_
  rintro _ _ ⟨⟨⟩, rfl⟩
  skip
  refine j_aload_n dL_areLots_240 rfl ?_
  refine j_bipush (v := 9) dL_areLots_241 (by decide) ?_
  refine l_ld (a := 218) (i := 9) 148 dL_areLots_243 (by decide) rfl hz (rfl) (by decide) rfl rfl ?_
  refine j_if_ne dL_areLots_244 (tgt := 252) rfl (fun c8 => ?_) (fun c8 => ?_)
  · refine j_iload dL_areLots_252 rfl ?_
    refine j_icmp_ne dL_areLots_254 (tgt := 261) rfl (fun c9 => absurd c9 (fun q => q ((lUp_q (j := 7) (by decide) (by decide) c8)))) (fun _ => ?_)
    refine j_iconst (v := 1) dL_areLots_257 (by decide) ?_
    refine j_goto dL_areLots_258 (tgt := 262) rfl ?_
    refine j_istore dL_areLots_262 (by decide) ?_
    refine j_iinc (v := 8) dL_areLots_264 rfl (by decide) (by decide) ?_
    refine j_goto dL_areLots_267 (tgt := 110) rfl ?_
    exact hQ _
  · refine j_ldc (v := (-1000002)) dL_areLots_247 cL_61 ?_
    refine j_goto dL_areLots_249 (tgt := 254) rfl ?_
    refine j_icmp_ne dL_areLots_254 (tgt := 261) rfl (fun c10 => absurd c10 (fun q => q (lUp_z (by decide) c8))) (fun _ => ?_)
    refine j_iconst (v := 1) dL_areLots_257 (by decide) ?_
    refine j_goto dL_areLots_258 (tgt := 262) rfl ?_
    refine j_istore dL_areLots_262 (by decide) ?_
    refine j_iinc (v := 8) dL_areLots_264 rfl (by decide) (by decide) ?_
    refine j_goto dL_areLots_267 (tgt := 110) rfl ?_
    exact hQ _
set_option maxRecDepth 4000 in
set_option maxHeartbeats 2000000 in
theorem s_al_28 {g : zH} {w pa tx : Nat → Int32} {n0 T nz : Nat} (hz : 6 ≤ nz) (hc : CH (gV g w) w pa n0 tx T) (hM : aM w) {y : Value} {X : Nat × (Nat → Int32)} {Q : zQt} (hQ : ∀ y, zJ X mL_areLots (215 + nz) 110 [.ref 0, .ref 217, .ref 218, .ref 219, .ref 220, .int 1, .int 9, y] [] (215 + nz) (gV g w) Q) : zJ X mL_areLots (215 + nz) 110 [.ref 0, .ref 217, .ref 218, .ref 219, .ref 220, .int 1, .int 8, y] [] (215 + nz) (gV g w) Q := by
  refine j_iload dL_areLots_110 rfl ?_
  refine j_bipush (v := 9) dL_areLots_112 (by decide) ?_
  refine j_icmp_ge dL_areLots_114 (tgt := 270) rfl (fun c1 => absurd c1 (by decide)) (fun _ => ?_)
  refine j_iload dL_areLots_117 rfl ?_
  refine j_iconst (v := 2) dL_areLots_119 (by decide) ?_
  refine j_icmp_ge dL_areLots_120 (tgt := 130) rfl (fun _ => ?_) (fun c2 => absurd (by decide) c2)
  refine j_iload dL_areLots_130 rfl ?_
  refine j_iconst (v := 2) dL_areLots_132 (by decide) ?_
  refine j_icmp_ne dL_areLots_133 (tgt := 153) rfl (fun _ => ?_) (fun c3 => absurd c3 (by decide))
  refine j_iload dL_areLots_153 rfl ?_
  refine j_iconst (v := 3) dL_areLots_155 (by decide) ?_
  refine j_icmp_ne dL_areLots_156 (tgt := 178) rfl (fun _ => ?_) (fun c4 => absurd c4 (by decide))
  refine j_iload dL_areLots_178 rfl ?_
  refine j_bipush (v := 6) dL_areLots_180 (by decide) ?_
  refine j_icmp_ge dL_areLots_182 (tgt := 192) rfl (fun _ => ?_) (fun c5 => absurd (by decide) c5)
  refine j_iload dL_areLots_192 rfl ?_
  refine j_bipush (v := 6) dL_areLots_194 (by decide) ?_
  refine j_icmp_ne dL_areLots_196 (tgt := 221) rfl (fun _ => ?_) (fun c6 => absurd c6 (by decide))
  refine j_aload_n dL_areLots_221 rfl ?_
  refine j_iload dL_areLots_222 rfl ?_
  refine j_iconst (v := 1) dL_areLots_224 (by decide) ?_
  skip
  refine j_isub dL_areLots_225 ?_
  refine l_ld (a := 218) (i := (8 - 1)) (149 + (8 - 1)) dL_areLots_226 (by decide) rfl hz (by first | rfl | (simp only [z_n, pk_mul, nI_add]; done) | (simp only [z_n, pk_mul, nI_add]; exact pk_sub (by omega)) | (simp only [z_n, pk_mul, nI_add, pk_sub, *]; done)) (show _ < 10 by omega) (jU (by omega)) rfl ?_
  refine j_istore dL_areLots_227 (by decide) ?_
  refine j_iload dL_areLots_229 rfl ?_
  refine j_if_eq dL_areLots_231 (tgt := 261) rfl (fun c7 => absurd c7 (show ¬ (1 : Int32) = 0 by decide)) (fun _ => ?_)
  refine j_aload_n dL_areLots_234 rfl ?_
  refine j_iload dL_areLots_235 rfl ?_
  refine k_callV1i dL_areLots_237 vL_areLots_58 (o_up hc hM) rfl (by omega) rfl (Nat.le_of_ble_eq_true rfl) ⟨rfl, rfl⟩ rfl ?_
  rintro _ _ ⟨⟨⟩, rfl⟩
  skip
  refine j_aload_n dL_areLots_240 rfl ?_
  refine j_bipush (v := 9) dL_areLots_241 (by decide) ?_
  refine l_ld (a := 218) (i := 9) 148 dL_areLots_243 (by decide) rfl hz (rfl) (by decide) rfl rfl ?_
  refine j_if_ne dL_areLots_244 (tgt := 252) rfl (fun c8 => ?_) (fun c8 => ?_)
  · refine j_iload dL_areLots_252 rfl ?_
    refine j_icmp_ne dL_areLots_254 (tgt := 261) rfl (fun c9 => absurd c9 (fun q => q ((lUp_q (j := 8) (by decide) (by decide) c8)))) (fun _ => ?_)
    refine j_iconst (v := 1) dL_areLots_257 (by decide) ?_
    refine j_goto dL_areLots_258 (tgt := 262) rfl ?_
    refine j_istore dL_areLots_262 (by decide) ?_
    refine j_iinc (v := 9) dL_areLots_264 rfl (by decide) (by decide) ?_
    refine j_goto dL_areLots_267 (tgt := 110) rfl ?_
    exact hQ _
  · refine j_ldc (v := (-1000002)) dL_areLots_247 cL_61 ?_
    refine j_goto dL_areLots_249 (tgt := 254) rfl ?_
    refine j_icmp_ne dL_areLots_254 (tgt := 261) rfl (fun c10 => absurd c10 (fun q => q (lUp_z (by decide) c8))) (fun _ => ?_)
    refine j_iconst (v := 1) dL_areLots_257 (by decide) ?_
    refine j_goto dL_areLots_258 (tgt := 262) rfl ?_
    refine j_istore dL_areLots_262 (by decide) ?_
    refine j_iinc (v := 9) dL_areLots_264 rfl (by decide) (by decide) ?_
    refine j_goto dL_areLots_267 (tgt := 110) rfl ?_
    exact hQ _
set_option maxRecDepth 4000 in
set_option maxHeartbeats 2000000 in
theorem s_al_3 {g : zH} {w pa tx : Nat → Int32} {n0 T nz : Nat} (hz : 6 ≤ nz) (hc : CH (gV g w) w pa n0 tx T) (hM : aM w) (hb : ∀ i, i < 8 → ¬ w (160 + 5 * i) < 0) {X : Nat × (Nat → Int32)} {Q : zQt} (hQ : ∀ k y, zJ X mL_areLots (215 + nz) 370 [.ref 0, .ref 217, .ref 218, .ref 219, .ref 220, .int 1, k, y] [] (215 + nz) (gV g w) Q) : ∀ (n k : Nat) (y : Value), k + n = 40 → zJ X mL_areLots (215 + nz) 273 [.ref 0, .ref 217, .ref 218, .ref 219, .ref 220, .int 1, .int (nI k), y] [] (215 + nz) (gV g w) Q := by
  have hI := hM.1.1
  have hn := hI.1.1
  have hN := hI.1.2
  have hw := hI.2.1.1
  have hW := hI.2.1.2
  obtain ⟨K, -, hK8, hK⟩ := hI.2.2.1
  intro n
  induction n with
  | zero =>
    intro k y hk
    refine j_iload dL_areLots_273 rfl ?_
    refine j_bipush (v := 40) dL_areLots_275 (by decide) ?_
    refine j_icmp_ge dL_areLots_277 (tgt := 370) rfl (fun _ => ?_) (fun c1 => absurd (show 40 ≤ nI k from nI_leI (a := 40) (by decide) (by omega) |>.mpr (by omega)) c1)
    exact hQ _ _
  | succ n ih =>
    intro k y hk
    refine j_iload dL_areLots_273 rfl ?_
    refine j_bipush (v := 40) dL_areLots_275 (by decide) ?_
    refine j_icmp_ge dL_areLots_277 (tgt := 370) rfl (fun c1 => absurd c1 (show ¬ 40 ≤ nI k from fun q => absurd (nI_leI (a := 40) (by decide) (by omega) |>.mp q) (by omega))) (fun _ => ?_)
    refine j_iload dL_areLots_280 rfl ?_
    refine j_iconst (v := 5) dL_areLots_282 (by decide) ?_
    refine j_idiv dL_areLots_283 (by decide) ?_
    rw [show nI k / 5 = nI (k / 5) from pk_div (d := 5) (by omega) (by decide) (by decide)]
    refine j_aload dL_areLots_284 rfl ?_
    refine j_bipush (v := 13) dL_areLots_286 (by decide) ?_
    refine l_ld (a := 220) (i := 13) (v := nI K) 210 dL_areLots_288 (by decide) rfl hz (rfl) (by decide) rfl (hK) ?_
    refine j_icmp_ge dL_areLots_289 (tgt := 307) rfl (fun c2 => ?_) (fun c2 => ?_)
    · refine j_ldc (v := (-1000004)) dL_areLots_307 cL_31 ?_
      refine j_goto dL_areLots_309 (tgt := 333) rfl ?_
      refine j_istore dL_areLots_333 (by decide) ?_
      refine j_iload dL_areLots_335 rfl ?_
      refine j_if_eq dL_areLots_337 (tgt := 361) rfl (fun c3 => absurd c3 (show ¬ (1 : Int32) = 0 by decide)) (fun _ => ?_)
      refine j_aload_n dL_areLots_340 rfl ?_
      refine j_iload dL_areLots_341 rfl ?_
      refine j_iconst (v := 5) dL_areLots_343 (by decide) ?_
      refine j_idiv dL_areLots_344 (by decide) ?_
      rw [show nI k / 5 = nI (k / 5) from pk_div (d := 5) (by omega) (by decide) (by decide)]
      refine j_iload dL_areLots_345 rfl ?_
      refine j_iconst (v := 5) dL_areLots_347 (by decide) ?_
      refine j_irem dL_areLots_348 (by decide) ?_
      rw [show nI k - nI k / 5 * 5 = nI (k % 5) from pk_rem (d := 5) (by omega) (by decide) (by decide)]
      refine k_callV2i dL_areLots_349 vL_areLots_62 (o_book hc hM) rfl (by omega) rfl rfl (Nat.le_of_ble_eq_true rfl) ⟨rfl, rfl⟩ rfl ?_
      rintro _ _ ⟨⟨⟩, rfl⟩
      skip
      refine j_iload dL_areLots_352 rfl ?_
      refine j_icmp_ne dL_areLots_354 (tgt := 361) rfl (fun c4 => absurd c4 (fun q => q (lBkA hK hK8 (by omega) c2))) (fun _ => ?_)
      refine j_iconst (v := 1) dL_areLots_357 (by decide) ?_
      refine j_goto dL_areLots_358 (tgt := 362) rfl ?_
      refine j_istore dL_areLots_362 (by decide) ?_
      refine j_iinc (v := nI (k + 1)) dL_areLots_364 rfl z_inc (by decide) ?_
      refine j_goto dL_areLots_367 (tgt := 273) rfl ?_
      exact ih (k + 1) _ (by omega)
    · refine j_iload dL_areLots_292 rfl ?_
      refine j_iconst (v := 5) dL_areLots_294 (by decide) ?_
      refine j_irem dL_areLots_295 (by decide) ?_
      rw [show nI k - nI k / 5 * 5 = nI (k % 5) from pk_rem (d := 5) (by omega) (by decide) (by decide)]
      refine j_iconst (v := 2) dL_areLots_296 (by decide) ?_
      refine j_icmp_ne dL_areLots_297 (tgt := 312) rfl (fun c5 => ?_) (fun c5 => ?_)
      · refine j_iload dL_areLots_312 rfl ?_
        refine j_iconst (v := 5) dL_areLots_314 (by decide) ?_
        refine j_irem dL_areLots_315 (by decide) ?_
        rw [show nI k - nI k / 5 * 5 = nI (k % 5) from pk_rem (d := 5) (by omega) (by decide) (by decide)]
        refine j_iconst (v := 2) dL_areLots_316 (by decide) ?_
        refine j_icmp_ne dL_areLots_317 (tgt := 329) rfl (fun _ => ?_) (fun c6 => absurd c6 c5)
        refine j_aload_n dL_areLots_329 rfl ?_
        refine j_iload dL_areLots_330 rfl ?_
        refine l_ld (a := 219) (i := k) (158 + k) dL_areLots_332 (by decide) rfl hz (by first | rfl | (simp only [z_n, pk_mul, nI_add]; done) | (simp only [z_n, pk_mul, nI_add]; exact pk_sub (by omega)) | (simp only [z_n, pk_mul, nI_add, pk_sub, *]; done)) (show _ < 40 by omega) rfl rfl ?_
        refine j_istore dL_areLots_333 (by decide) ?_
        refine j_iload dL_areLots_335 rfl ?_
        refine j_if_eq dL_areLots_337 (tgt := 361) rfl (fun c7 => absurd c7 (show ¬ (1 : Int32) = 0 by decide)) (fun _ => ?_)
        refine j_aload_n dL_areLots_340 rfl ?_
        refine j_iload dL_areLots_341 rfl ?_
        refine j_iconst (v := 5) dL_areLots_343 (by decide) ?_
        refine j_idiv dL_areLots_344 (by decide) ?_
        rw [show nI k / 5 = nI (k / 5) from pk_div (d := 5) (by omega) (by decide) (by decide)]
        refine j_iload dL_areLots_345 rfl ?_
        refine j_iconst (v := 5) dL_areLots_347 (by decide) ?_
        refine j_irem dL_areLots_348 (by decide) ?_
        rw [show nI k - nI k / 5 * 5 = nI (k % 5) from pk_rem (d := 5) (by omega) (by decide) (by decide)]
        refine k_callV2i dL_areLots_349 vL_areLots_62 (o_book hc hM) rfl (by omega) rfl rfl (Nat.le_of_ble_eq_true rfl) ⟨rfl, rfl⟩ rfl ?_
        rintro _ _ ⟨⟨⟩, rfl⟩
        skip
        refine j_iload dL_areLots_352 rfl ?_
        refine j_icmp_ne dL_areLots_354 (tgt := 361) rfl (fun c8 => absurd c8 (fun q => q ((lBkX hK hK8 (by omega) c2).trans (if_neg c5)))) (fun _ => ?_)
        refine j_iconst (v := 1) dL_areLots_357 (by decide) ?_
        refine j_goto dL_areLots_358 (tgt := 362) rfl ?_
        refine j_istore dL_areLots_362 (by decide) ?_
        refine j_iinc (v := nI (k + 1)) dL_areLots_364 rfl z_inc (by decide) ?_
        refine j_goto dL_areLots_367 (tgt := 273) rfl ?_
        exact ih (k + 1) _ (by omega)
      · refine j_aload_n dL_areLots_300 rfl ?_
        refine j_iload dL_areLots_301 rfl ?_
        refine l_ld (a := 219) (i := k) (158 + k) dL_areLots_303 (by decide) rfl hz (by first | rfl | (simp only [z_n, pk_mul, nI_add]; done) | (simp only [z_n, pk_mul, nI_add]; exact pk_sub (by omega)) | (simp only [z_n, pk_mul, nI_add, pk_sub, *]; done)) (show _ < 40 by omega) rfl rfl ?_
        refine j_if_ne dL_areLots_304 (tgt := 312) rfl (fun c9 => ?_) (fun c9 => ?_)
        · refine j_iload dL_areLots_312 rfl ?_
          refine j_iconst (v := 5) dL_areLots_314 (by decide) ?_
          refine j_irem dL_areLots_315 (by decide) ?_
          rw [show nI k - nI k / 5 * 5 = nI (k % 5) from pk_rem (d := 5) (by omega) (by decide) (by decide)]
          refine j_iconst (v := 2) dL_areLots_316 (by decide) ?_
          refine j_icmp_ne dL_areLots_317 (tgt := 329) rfl (fun c10 => absurd c10 (fun q => q c5)) (fun _ => ?_)
          refine j_aload_n dL_areLots_320 rfl ?_
          refine j_iload dL_areLots_321 rfl ?_
          refine l_ld (a := 219) (i := k) (158 + k) dL_areLots_323 (by decide) rfl hz (by first | rfl | (simp only [z_n, pk_mul, nI_add]; done) | (simp only [z_n, pk_mul, nI_add]; exact pk_sub (by omega)) | (simp only [z_n, pk_mul, nI_add, pk_sub, *]; done)) (show _ < 40 by omega) rfl rfl ?_
          refine j_iconst (v := 1) dL_areLots_324 (by decide) ?_
          refine j_isub dL_areLots_325 ?_
          refine j_goto dL_areLots_326 (tgt := 333) rfl ?_
          refine j_istore dL_areLots_333 (by decide) ?_
          refine j_iload dL_areLots_335 rfl ?_
          refine j_if_eq dL_areLots_337 (tgt := 361) rfl (fun c11 => absurd c11 (show ¬ (1 : Int32) = 0 by decide)) (fun _ => ?_)
          refine j_aload_n dL_areLots_340 rfl ?_
          refine j_iload dL_areLots_341 rfl ?_
          refine j_iconst (v := 5) dL_areLots_343 (by decide) ?_
          refine j_idiv dL_areLots_344 (by decide) ?_
          rw [show nI k / 5 = nI (k / 5) from pk_div (d := 5) (by omega) (by decide) (by decide)]
          refine j_iload dL_areLots_345 rfl ?_
          refine j_iconst (v := 5) dL_areLots_347 (by decide) ?_
          refine j_irem dL_areLots_348 (by decide) ?_
          rw [show nI k - nI k / 5 * 5 = nI (k % 5) from pk_rem (d := 5) (by omega) (by decide) (by decide)]
          refine k_callV2i dL_areLots_349 vL_areLots_62 (o_book hc hM) rfl (by omega) rfl rfl (Nat.le_of_ble_eq_true rfl) ⟨rfl, rfl⟩ rfl ?_
          rintro _ _ ⟨⟨⟩, rfl⟩
          skip
          refine j_iload dL_areLots_352 rfl ?_
          refine j_icmp_ne dL_areLots_354 (tgt := 361) rfl (fun c12 => absurd c12 (fun q => q ((lBkX hK hK8 (by omega) c2).trans ((if_pos c5).trans (if_neg (i_nle (lBk5 hb (by omega) c5) c9)))))) (fun _ => ?_)
          refine j_iconst (v := 1) dL_areLots_357 (by decide) ?_
          refine j_goto dL_areLots_358 (tgt := 362) rfl ?_
          refine j_istore dL_areLots_362 (by decide) ?_
          refine j_iinc (v := nI (k + 1)) dL_areLots_364 rfl z_inc (by decide) ?_
          refine j_goto dL_areLots_367 (tgt := 273) rfl ?_
          exact ih (k + 1) _ (by omega)
        · refine j_ldc (v := (-1000004)) dL_areLots_307 cL_31 ?_
          refine j_goto dL_areLots_309 (tgt := 333) rfl ?_
          refine j_istore dL_areLots_333 (by decide) ?_
          refine j_iload dL_areLots_335 rfl ?_
          refine j_if_eq dL_areLots_337 (tgt := 361) rfl (fun c13 => absurd c13 (show ¬ (1 : Int32) = 0 by decide)) (fun _ => ?_)
          refine j_aload_n dL_areLots_340 rfl ?_
          refine j_iload dL_areLots_341 rfl ?_
          refine j_iconst (v := 5) dL_areLots_343 (by decide) ?_
          refine j_idiv dL_areLots_344 (by decide) ?_
          rw [show nI k / 5 = nI (k / 5) from pk_div (d := 5) (by omega) (by decide) (by decide)]
          refine j_iload dL_areLots_345 rfl ?_
          refine j_iconst (v := 5) dL_areLots_347 (by decide) ?_
          refine j_irem dL_areLots_348 (by decide) ?_
          rw [show nI k - nI k / 5 * 5 = nI (k % 5) from pk_rem (d := 5) (by omega) (by decide) (by decide)]
          refine k_callV2i dL_areLots_349 vL_areLots_62 (o_book hc hM) rfl (by omega) rfl rfl (Nat.le_of_ble_eq_true rfl) ⟨rfl, rfl⟩ rfl ?_
          rintro _ _ ⟨⟨⟩, rfl⟩
          skip
          refine j_iload dL_areLots_352 rfl ?_
          refine j_icmp_ne dL_areLots_354 (tgt := 361) rfl (fun c14 => absurd c14 (fun q => q ((lBkX hK hK8 (by omega) c2).trans ((if_pos c5).trans (if_pos (by rw [c9]; decide)))))) (fun _ => ?_)
          refine j_iconst (v := 1) dL_areLots_357 (by decide) ?_
          refine j_goto dL_areLots_358 (tgt := 362) rfl ?_
          refine j_istore dL_areLots_362 (by decide) ?_
          refine j_iinc (v := nI (k + 1)) dL_areLots_364 rfl z_inc (by decide) ?_
          refine j_goto dL_areLots_367 (tgt := 273) rfl ?_
          exact ih (k + 1) _ (by omega)
set_option maxRecDepth 4000 in
set_option maxHeartbeats 2000000 in
theorem s_areLots {g : zH} {w pa tx : Nat → Int32} {n0 T nz : Nat} (hz : 6 ≤ nz) (hc : CH (gV g w) w pa n0 tx T) (hM : aM w) (hb : ∀ i, i < 8 → ¬ w (160 + 5 * i) < 0) : zCT mL_areLots [.ref 0, .ref 217, .ref 218, .ref 219, .ref 220] (215 + nz) (gV g w) (215 + nz) (fun r h' => r = some 1 ∧ h' = gV g w) := by
  intro X Q hQ
  show zJ X mL_areLots (215 + nz) 0 [.ref 0, .ref 217, .ref 218, .ref 219, .ref 220, .null, .null, .null] [] (215 + nz) (gV g w) Q
  have hI := hM.1.1
  have hn := hI.1.1
  have hN := hI.1.2
  have hw := hI.2.1.1
  have hW := hI.2.1.2
  refine j_aload_n dL_areLots_0 rfl ?_
  refine j_iconst (v := (-1)) dL_areLots_1 (by decide) ?_
  refine j_iconst (v := 0) dL_areLots_2 (by decide) ?_
  refine k_callV2i dL_areLots_3 vL_areLots_55 (o_waiting hc hM) rfl (by omega) rfl rfl (Nat.le_of_ble_eq_true rfl) ⟨rfl, rfl⟩ rfl ?_
  rintro _ _ ⟨⟨⟩, rfl⟩
  rw [lWai_m]
  refine j_ldc (v := (-1000001)) dL_areLots_6 cL_38 ?_
  refine j_icmp_ne dL_areLots_8 (tgt := 40) rfl (fun c1 => absurd c1 (fun q => q rfl)) (fun _ => ?_)
  refine j_aload_n dL_areLots_11 rfl ?_
  refine j_iconst (v := 0) dL_areLots_12 (by decide) ?_
  refine j_iconst (v := 2) dL_areLots_13 (by decide) ?_
  refine k_callV2i dL_areLots_14 vL_areLots_55 (o_waiting hc hM) rfl (by omega) rfl rfl (Nat.le_of_ble_eq_true rfl) ⟨rfl, rfl⟩ rfl ?_
  rintro _ _ ⟨⟨⟩, rfl⟩
  rw [lWai_2]
  refine j_ldc (v := (-1000001)) dL_areLots_17 cL_38 ?_
  refine j_icmp_ne dL_areLots_19 (tgt := 40) rfl (fun c2 => absurd c2 (fun q => q rfl)) (fun _ => ?_)
  refine j_aload_n dL_areLots_22 rfl ?_
  refine j_aload dL_areLots_23 rfl ?_
  refine j_iconst (v := 2) dL_areLots_25 (by decide) ?_
  refine l_ld (a := 220) (i := 2) (v := nI (aWn w)) 200 dL_areLots_26 (by decide) rfl hz (rfl) (by decide) rfl (hw) ?_
  refine j_iconst (v := 0) dL_areLots_27 (by decide) ?_
  refine k_callV2i dL_areLots_28 vL_areLots_55 (o_waiting hc hM) rfl (by omega) rfl rfl (Nat.le_of_ble_eq_true rfl) ⟨rfl, rfl⟩ rfl ?_
  rintro _ _ ⟨⟨⟩, rfl⟩
  rw [lWai_W hw hW]
  refine j_ldc (v := (-1000004)) dL_areLots_31 cL_31 ?_
  refine j_icmp_ne dL_areLots_33 (tgt := 40) rfl (fun c3 => absurd c3 (fun q => q rfl)) (fun _ => ?_)
  refine j_iconst (v := 1) dL_areLots_36 (by decide) ?_
  refine j_goto dL_areLots_37 (tgt := 41) rfl ?_
  refine j_istore dL_areLots_41 (by decide) ?_
  refine j_iconst (v := 0) dL_areLots_43 (by decide) ?_
  refine j_istore dL_areLots_44 (by decide) ?_
  refine s_al_1 hz hc hM (fun k => ?_) (aWn w) 0 (Nat.zero_add _)
  refine j_iconst (v := 0) dL_areLots_107 (by decide) ?_
  refine j_istore dL_areLots_108 (by decide) ?_
  skip
  refine s_al_20 hz hc hM (fun y => ?_)
  refine s_al_21 hz hc hM (fun y => ?_)
  refine s_al_22 hz hc hM (fun y => ?_)
  refine s_al_23 hz hc hM (fun y => ?_)
  refine s_al_24 hz hc hM (fun y => ?_)
  refine s_al_25 hz hc hM (fun y => ?_)
  refine s_al_26 hz hc hM (fun y => ?_)
  refine s_al_27 hz hc hM (fun y => ?_)
  refine s_al_28 hz hc hM (fun y => ?_)
  refine j_iload dL_areLots_110 rfl ?_
  refine j_bipush (v := 9) dL_areLots_112 (by decide) ?_
  refine j_icmp_ge dL_areLots_114 (tgt := 270) rfl (fun _ => ?_) (fun c1 => absurd (by decide) c1)
  skip
  refine j_iconst (v := 0) dL_areLots_270 (by decide) ?_
  refine j_istore dL_areLots_271 (by decide) ?_
  skip
  refine s_al_3 hz hc hM hb (fun k y => ?_) 40 0 _ rfl
  refine j_iload dL_areLots_370 rfl ?_
  refine j_if_eq dL_areLots_372 (tgt := 604) rfl (fun c1 => absurd c1 (show ¬ (1 : Int32) = 0 by decide)) (fun _ => ?_)
  refine j_aload_n dL_areLots_375 rfl ?_
  refine j_iconst (v := 0) dL_areLots_376 (by decide) ?_
  refine k_callV1i dL_areLots_377 vL_areLots_45 (o_count hc hM) rfl (by omega) rfl (Nat.le_of_ble_eq_true rfl) ⟨rfl, rfl⟩ rfl ?_
  rintro _ _ ⟨⟨⟩, rfl⟩
  rw [lCnt_0]
  refine j_aload dL_areLots_380 rfl ?_
  refine j_iconst (v := 0) dL_areLots_382 (by decide) ?_
  refine l_ld (a := 220) (i := 0) 198 dL_areLots_383 (by decide) rfl hz (rfl) (by decide) rfl rfl ?_
  refine j_icmp_ne dL_areLots_384 (tgt := 604) rfl (fun c2 => absurd c2 (fun q => q rfl)) (fun _ => ?_)
  refine j_aload_n dL_areLots_387 rfl ?_
  refine j_iconst (v := 1) dL_areLots_388 (by decide) ?_
  refine k_callV1i dL_areLots_389 vL_areLots_45 (o_count hc hM) rfl (by omega) rfl (Nat.le_of_ble_eq_true rfl) ⟨rfl, rfl⟩ rfl ?_
  rintro _ _ ⟨⟨⟩, rfl⟩
  rw [lCnt_1]
  refine j_aload dL_areLots_392 rfl ?_
  refine j_iconst (v := 1) dL_areLots_394 (by decide) ?_
  refine l_ld (a := 220) (i := 1) 199 dL_areLots_395 (by decide) rfl hz (rfl) (by decide) rfl rfl ?_
  refine j_icmp_ne dL_areLots_396 (tgt := 604) rfl (fun c3 => absurd c3 (fun q => q rfl)) (fun _ => ?_)
  refine j_aload_n dL_areLots_399 rfl ?_
  refine j_iconst (v := 2) dL_areLots_400 (by decide) ?_
  refine k_callV1i dL_areLots_401 vL_areLots_45 (o_count hc hM) rfl (by omega) rfl (Nat.le_of_ble_eq_true rfl) ⟨rfl, rfl⟩ rfl ?_
  rintro _ _ ⟨⟨⟩, rfl⟩
  rw [lCnt_2]
  refine j_aload dL_areLots_404 rfl ?_
  refine j_iconst (v := 2) dL_areLots_406 (by decide) ?_
  refine l_ld (a := 220) (i := 2) 200 dL_areLots_407 (by decide) rfl hz (rfl) (by decide) rfl rfl ?_
  refine j_icmp_ne dL_areLots_408 (tgt := 604) rfl (fun c4 => absurd c4 (fun q => q rfl)) (fun _ => ?_)
  refine j_aload_n dL_areLots_411 rfl ?_
  refine j_iconst (v := 3) dL_areLots_412 (by decide) ?_
  refine k_callV1i dL_areLots_413 vL_areLots_45 (o_count hc hM) rfl (by omega) rfl (Nat.le_of_ble_eq_true rfl) ⟨rfl, rfl⟩ rfl ?_
  rintro _ _ ⟨⟨⟩, rfl⟩
  rw [lCnt_3]
  refine j_aload_n dL_areLots_416 rfl ?_
  refine j_bipush (v := 9) dL_areLots_417 (by decide) ?_
  refine l_ld (a := 218) (i := 9) 148 dL_areLots_419 (by decide) rfl hz (rfl) (by decide) rfl rfl ?_
  refine j_icmp_ne dL_areLots_420 (tgt := 604) rfl (fun c5 => absurd c5 (fun q => q rfl)) (fun _ => ?_)
  refine j_aload_n dL_areLots_423 rfl ?_
  refine j_iconst (v := 4) dL_areLots_424 (by decide) ?_
  refine k_callV1i dL_areLots_425 vL_areLots_45 (o_count hc hM) rfl (by omega) rfl (Nat.le_of_ble_eq_true rfl) ⟨rfl, rfl⟩ rfl ?_
  rintro _ _ ⟨⟨⟩, rfl⟩
  rw [lCnt_4]
  refine j_aload dL_areLots_428 rfl ?_
  refine j_iconst (v := 3) dL_areLots_430 (by decide) ?_
  refine l_ld (a := 220) (i := 3) 201 dL_areLots_431 (by decide) rfl hz (rfl) (by decide) rfl rfl ?_
  refine j_icmp_ne dL_areLots_432 (tgt := 604) rfl (fun c6 => absurd c6 (fun q => q rfl)) (fun _ => ?_)
  refine j_aload_n dL_areLots_435 rfl ?_
  refine j_iconst (v := 5) dL_areLots_436 (by decide) ?_
  refine k_callV1i dL_areLots_437 vL_areLots_45 (o_count hc hM) rfl (by omega) rfl (Nat.le_of_ble_eq_true rfl) ⟨rfl, rfl⟩ rfl ?_
  rintro _ _ ⟨⟨⟩, rfl⟩
  rw [lCnt_5]
  refine j_aload dL_areLots_440 rfl ?_
  refine j_iconst (v := 4) dL_areLots_442 (by decide) ?_
  refine l_ld (a := 220) (i := 4) 202 dL_areLots_443 (by decide) rfl hz (rfl) (by decide) rfl rfl ?_
  refine j_icmp_ne dL_areLots_444 (tgt := 604) rfl (fun c7 => absurd c7 (fun q => q rfl)) (fun _ => ?_)
  refine j_aload_n dL_areLots_447 rfl ?_
  refine j_bipush (v := 6) dL_areLots_448 (by decide) ?_
  refine k_callV1i dL_areLots_450 vL_areLots_45 (o_count hc hM) rfl (by omega) rfl (Nat.le_of_ble_eq_true rfl) ⟨rfl, rfl⟩ rfl ?_
  rintro _ _ ⟨⟨⟩, rfl⟩
  rw [lCnt_6]
  refine j_aload dL_areLots_453 rfl ?_
  refine j_iconst (v := 5) dL_areLots_455 (by decide) ?_
  refine l_ld (a := 220) (i := 5) 203 dL_areLots_456 (by decide) rfl hz (rfl) (by decide) rfl rfl ?_
  refine j_icmp_ne dL_areLots_457 (tgt := 604) rfl (fun c8 => absurd c8 (fun q => q rfl)) (fun _ => ?_)
  refine j_aload_n dL_areLots_460 rfl ?_
  refine j_bipush (v := 7) dL_areLots_461 (by decide) ?_
  refine k_callV1i dL_areLots_463 vL_areLots_45 (o_count hc hM) rfl (by omega) rfl (Nat.le_of_ble_eq_true rfl) ⟨rfl, rfl⟩ rfl ?_
  rintro _ _ ⟨⟨⟩, rfl⟩
  rw [lCnt_7]
  refine j_aload dL_areLots_466 rfl ?_
  refine j_bipush (v := 6) dL_areLots_468 (by decide) ?_
  refine l_ld (a := 220) (i := 6) 204 dL_areLots_470 (by decide) rfl hz (rfl) (by decide) rfl rfl ?_
  refine j_icmp_ne dL_areLots_471 (tgt := 604) rfl (fun c9 => absurd c9 (fun q => q rfl)) (fun _ => ?_)
  refine j_aload_n dL_areLots_474 rfl ?_
  refine j_bipush (v := 18) dL_areLots_475 (by decide) ?_
  refine k_callV1i dL_areLots_477 vL_areLots_45 (o_count hc hM) rfl (by omega) rfl (Nat.le_of_ble_eq_true rfl) ⟨rfl, rfl⟩ rfl ?_
  rintro _ _ ⟨⟨⟩, rfl⟩
  rw [lCnt_18]
  refine j_aload dL_areLots_480 rfl ?_
  refine j_bipush (v := 7) dL_areLots_482 (by decide) ?_
  refine l_ld (a := 220) (i := 7) 211 dL_areLots_484 (by decide) rfl hz (rfl) (by decide) rfl rfl ?_
  refine j_icmp_ne dL_areLots_485 (tgt := 604) rfl (fun c10 => absurd c10 (fun q => q rfl)) (fun _ => ?_)
  refine j_aload_n dL_areLots_488 rfl ?_
  refine j_bipush (v := 10) dL_areLots_489 (by decide) ?_
  refine k_callV1i dL_areLots_491 vL_areLots_45 (o_count hc hM) rfl (by omega) rfl (Nat.le_of_ble_eq_true rfl) ⟨rfl, rfl⟩ rfl ?_
  rintro _ _ ⟨⟨⟩, rfl⟩
  rw [lCnt_10]
  refine j_aload dL_areLots_494 rfl ?_
  refine j_bipush (v := 9) dL_areLots_496 (by decide) ?_
  refine l_ld (a := 220) (i := 9) 206 dL_areLots_498 (by decide) rfl hz (rfl) (by decide) rfl rfl ?_
  refine j_icmp_ne dL_areLots_499 (tgt := 604) rfl (fun c11 => absurd c11 (fun q => q rfl)) (fun _ => ?_)
  refine j_aload_n dL_areLots_502 rfl ?_
  refine j_bipush (v := 11) dL_areLots_503 (by decide) ?_
  refine k_callV1i dL_areLots_505 vL_areLots_45 (o_count hc hM) rfl (by omega) rfl (Nat.le_of_ble_eq_true rfl) ⟨rfl, rfl⟩ rfl ?_
  rintro _ _ ⟨⟨⟩, rfl⟩
  rw [lCnt_11]
  refine j_aload dL_areLots_508 rfl ?_
  refine j_bipush (v := 10) dL_areLots_510 (by decide) ?_
  refine l_ld (a := 220) (i := 10) 207 dL_areLots_512 (by decide) rfl hz (rfl) (by decide) rfl rfl ?_
  refine j_icmp_ne dL_areLots_513 (tgt := 604) rfl (fun c12 => absurd c12 (fun q => q rfl)) (fun _ => ?_)
  refine j_aload_n dL_areLots_516 rfl ?_
  refine j_bipush (v := 12) dL_areLots_517 (by decide) ?_
  refine k_callV1i dL_areLots_519 vL_areLots_45 (o_count hc hM) rfl (by omega) rfl (Nat.le_of_ble_eq_true rfl) ⟨rfl, rfl⟩ rfl ?_
  rintro _ _ ⟨⟨⟩, rfl⟩
  rw [lCnt_12]
  refine j_aload dL_areLots_522 rfl ?_
  refine j_bipush (v := 11) dL_areLots_524 (by decide) ?_
  refine l_ld (a := 220) (i := 11) 208 dL_areLots_526 (by decide) rfl hz (rfl) (by decide) rfl rfl ?_
  refine j_icmp_ne dL_areLots_527 (tgt := 604) rfl (fun c13 => absurd c13 (fun q => q rfl)) (fun _ => ?_)
  refine j_aload_n dL_areLots_530 rfl ?_
  refine j_bipush (v := 14) dL_areLots_531 (by decide) ?_
  refine k_callV1i dL_areLots_533 vL_areLots_45 (o_count hc hM) rfl (by omega) rfl (Nat.le_of_ble_eq_true rfl) ⟨rfl, rfl⟩ rfl ?_
  rintro _ _ ⟨⟨⟩, rfl⟩
  rw [lCnt_14]
  refine j_aload dL_areLots_536 rfl ?_
  refine j_bipush (v := 12) dL_areLots_538 (by decide) ?_
  refine l_ld (a := 220) (i := 12) 209 dL_areLots_540 (by decide) rfl hz (rfl) (by decide) rfl rfl ?_
  refine j_icmp_ne dL_areLots_541 (tgt := 604) rfl (fun c14 => absurd c14 (fun q => q rfl)) (fun _ => ?_)
  refine j_aload_n dL_areLots_544 rfl ?_
  refine j_bipush (v := 15) dL_areLots_545 (by decide) ?_
  refine k_callV1i dL_areLots_547 vL_areLots_45 (o_count hc hM) rfl (by omega) rfl (Nat.le_of_ble_eq_true rfl) ⟨rfl, rfl⟩ rfl ?_
  rintro _ _ ⟨⟨⟩, rfl⟩
  rw [lCnt_15]
  refine j_aload dL_areLots_550 rfl ?_
  refine j_bipush (v := 13) dL_areLots_552 (by decide) ?_
  refine l_ld (a := 220) (i := 13) 210 dL_areLots_554 (by decide) rfl hz (rfl) (by decide) rfl rfl ?_
  refine j_icmp_ne dL_areLots_555 (tgt := 604) rfl (fun c15 => absurd c15 (fun q => q rfl)) (fun _ => ?_)
  refine j_aload_n dL_areLots_558 rfl ?_
  refine j_bipush (v := 20) dL_areLots_559 (by decide) ?_
  refine k_callV1i dL_areLots_561 vL_areLots_45 (o_count hc hM) rfl (by omega) rfl (Nat.le_of_ble_eq_true rfl) ⟨rfl, rfl⟩ rfl ?_
  rintro _ _ ⟨⟨⟩, rfl⟩
  rw [lCnt_20]
  refine j_aload dL_areLots_564 rfl ?_
  refine j_bipush (v := 15) dL_areLots_566 (by decide) ?_
  refine l_ld (a := 220) (i := 15) 212 dL_areLots_568 (by decide) rfl hz (rfl) (by decide) rfl rfl ?_
  refine j_icmp_ne dL_areLots_569 (tgt := 604) rfl (fun c16 => absurd c16 (fun q => q rfl)) (fun _ => ?_)
  refine j_aload_n dL_areLots_572 rfl ?_
  refine j_bipush (v := 21) dL_areLots_573 (by decide) ?_
  refine k_callV1i dL_areLots_575 vL_areLots_45 (o_count hc hM) rfl (by omega) rfl (Nat.le_of_ble_eq_true rfl) ⟨rfl, rfl⟩ rfl ?_
  rintro _ _ ⟨⟨⟩, rfl⟩
  rw [lCnt_21]
  refine j_aload dL_areLots_578 rfl ?_
  refine j_bipush (v := 16) dL_areLots_580 (by decide) ?_
  refine l_ld (a := 220) (i := 16) 213 dL_areLots_582 (by decide) rfl hz (rfl) (by decide) rfl rfl ?_
  refine j_icmp_ne dL_areLots_583 (tgt := 604) rfl (fun c17 => absurd c17 (fun q => q rfl)) (fun _ => ?_)
  refine j_aload_n dL_areLots_586 rfl ?_
  refine j_bipush (v := 22) dL_areLots_587 (by decide) ?_
  refine k_callV1i dL_areLots_589 vL_areLots_45 (o_count hc hM) rfl (by omega) rfl (Nat.le_of_ble_eq_true rfl) ⟨rfl, rfl⟩ rfl ?_
  rintro _ _ ⟨⟨⟩, rfl⟩
  rw [lCnt_22]
  refine j_aload dL_areLots_592 rfl ?_
  refine j_bipush (v := 17) dL_areLots_594 (by decide) ?_
  refine l_ld (a := 220) (i := 17) 214 dL_areLots_596 (by decide) rfl hz (rfl) (by decide) rfl rfl ?_
  refine j_icmp_ne dL_areLots_597 (tgt := 604) rfl (fun c18 => absurd c18 (fun q => q rfl)) (fun _ => ?_)
  refine j_iconst (v := 1) dL_areLots_600 (by decide) ?_
  refine j_goto dL_areLots_601 (tgt := 605) rfl ?_
  refine j_iret dL_areLots_605 rfl (rfl) ?_
  exact hQ _ _ ⟨rfl, rfl⟩
