section ST
/-- the law's cells at its start -/
def s0 (j : Nat) : Int32 := if 212 ≤ j ∧ j < 215 then 3 else 0
theorem s0_z {j : Nat} (h : j < 212) : s0 j = 0 := if_neg (fun q => by omega)
theorem s0_3 {j : Nat} (h : 212 ≤ j ∧ j < 215) : s0 j = 3 := if_pos h
theorem r_0 {x : Int32} {hi : Nat} (h : x = 0) : aR x 0 hi := ⟨0, Nat.le_refl _, Nat.zero_le _, h⟩
theorem s0_M : aM s0 := by
  have e152 : s0 152 = 0 := s0_z (by omega)
  have e148 : s0 148 = 0 := s0_z (by omega)
  have hI : aIa s0 0 0 := by
    refine ⟨⟨s0_z (by omega), by omega⟩, ⟨s0_z (by omega), by omega⟩, r_0 (s0_z (by omega)), fun k hk => ⟨r_0 (s0_z (by omega)), r_0 (s0_z (by omega)), r_0 (s0_z (by omega)), r_0 (s0_z (by omega))⟩, fun i j _ hj => absurd hj (Nat.not_lt_zero j), Or.inl e148, ⟨⟨?_, Or.inl e152⟩, Or.inl e152⟩, fun q => ?_, fun i hi => absurd hi (Nat.not_lt_zero i)⟩
    · unfold aWho
      rw [e152]
      decide
    · rw [e148] at q
      exact absurd q (by decide)
  have hJ : aJ s0 0 := ⟨fun k j _ h1 h2 h3 => s0_z (by omega), r_0 (s0_z (by omega)), ⟨0, 0, s0_z (by omega), s0_z (by omega), Nat.le_refl _, rfl⟩, fun k hk => absurd hk (Nat.not_lt_zero k)⟩
  exact ⟨aK_of hI hJ, fun k hk => r_0 (s0_z (by omega)), fun k hk => ⟨3, by omega, by omega, s0_3 (by omega)⟩⟩
theorem AP_0 : AP p0 := by
  refine ⟨fun i hi => ?_, fun i j hi hj e => ?_⟩
  · unfold p0 aL
    repeat' split
    all_goals omega
  · unfold p0 at e
    repeat' split at e
    all_goals omega
theorem AZ_0 : AZ v0 := fun o _ => ⟨Or.inl (if_neg (fun q => by omega)), Or.inl (if_neg (fun q => by omega))⟩
theorem AS_0 : AS v0 s0 := by
  intro o k h
  rcases h with ⟨rfl, h1, h2, h3⟩ | ⟨rfl, h1⟩ | ⟨rfl, h1⟩
  · have hj : sJ 0 k < 212 := by
      unfold sJ
      rw [if_pos rfl]
      repeat' split
      all_goals omega
    rw [s0_z hj]
    exact if_neg (fun q => by omega)
  · have hj : sJ 32 k < 212 := by
      unfold sJ
      rw [if_neg (by decide), if_pos rfl]
      repeat' split
      all_goals omega
    rw [s0_z hj]
    exact if_neg (fun q => by omega)
  · have hj : 212 ≤ sJ 33 k ∧ sJ 33 k < 215 := by
      unfold sJ
      rw [if_neg (by decide), if_neg (by decide)]
      omega
    rw [s0_3 hj]
    exact if_pos ⟨rfl, h1⟩
theorem AT_0 : AT v0 p0 s0 := by
  have e148 : s0 148 = 0 := s0_z (by omega)
  refine ⟨0, 0, 0, s0_z (by omega), s0_z (by omega), s0_z (by omega), ⟨by omega, by omega, by omega⟩, AP_0, AZ_0, AS_0, fun k j hk => absurd hk (Nat.not_lt_zero k), fun i hi => absurd hi (Nat.not_lt_zero i), fun i hi => absurd hi (Nat.not_lt_zero i), fun q => ?_⟩
  rw [e148] at q
  exact absurd q (by decide)
theorem GH_o {a : Nat} (h2 : 2 ≤ a) : GH a = FH a := gO_o h2
theorem GH_CH : CH GH s0 z0 0 z0 0 := by
  refine ⟨fun i => i, fun _ => v0, fun _ => p0, f0, z0, ⟨⟨fun _ h => h, fun _ _ _ _ e => e⟩, fun i hi => ⟨fun a ha => ?_, AP_0, AZ_0⟩, by omega, ?_, ?_, rfl, by omega, fun j hj => absurd hj (Nat.not_lt_zero j)⟩, AT_0, fun i hi => absurd hi (Nat.not_lt_zero i)⟩
  · have hB := bs_B i
    have hl : 2 ≤ bs i + a ∧ bs i + a < 215 := by
      unfold aB at hB
      omega
    rw [GH_o hl.1]
    exact FH_B hB ha
  · exact gO_gO
  · funext a
    unfold gX
    by_cases h1 : a = 142
    · subst h1
      rw [if_pos rfl, GH_o (by omega)]
      unfold FH
      rw [if_neg (by omega), if_pos rfl]
    · rw [if_neg h1]
      by_cases h2 : a = 143
      · subst h2
        rw [if_pos rfl, GH_o (by omega)]
        unfold FH
        rw [if_neg (by omega), if_neg (by omega), if_pos (by omega)]
      · rw [if_neg h2]
        by_cases h3 : a = 144
        · subst h3
          rw [if_pos rfl, GH_o (by omega)]
          unfold FH
          rw [if_neg (by omega), if_neg (by omega), if_pos (by omega)]
        · rw [if_neg h3]
theorem s0_LB : LB s0 := by
  have e9 : aNn s0 = 0 := by
    show (s0 199).toNatClampNeg = 0
    rw [s0_z (by omega)]
    decide
  refine ⟨Or.inl (s0_z (by omega)), fun i hi => ?_, ?_⟩
  · rw [s0_z (by omega)]
    decide
  · rw [e9]
    exact if_neg (by omega)
theorem LW_0 : LW (gV GH s0) 0 0 := LW_g GH_CH (fun _ _ => rfl) s0_M s0_LB (r_0 (s0_z (by omega))) (r_0 (s0_z (by omega)))
theorem s0_up : upd (upd (upd (fun _ => 0) 212 3) 213 3) 214 3 = s0 := by
  funext j
  unfold s0
  by_cases h1 : j = 214
  · subst h1
    rw [pk_us, if_pos (by omega)]
  · rw [pk_un h1]
    by_cases h2 : j = 213
    · subst h2
      rw [pk_us, if_pos (by omega)]
    · rw [pk_un h2]
      by_cases h3 : j = 212
      · subst h3
        rw [pk_us, if_pos (by omega)]
      · rw [pk_un h3, if_neg (by omega)]
theorem gV_new {h : zH} : va_up (va_up (va_up (va_up (va_up (va_up h 215 (fun _ => .int 0)) 216 (fun _ => .int 0)) 217 (fun _ => .int 0)) 218 (fun _ => .int 0)) 219 (fun _ => .int 0)) 220 (fun _ => .int 0) = gV h (fun _ => 0) := by
  funext a
  by_cases q : 215 ≤ a ∧ a < 221
  · have e : gV h (fun _ => 0) a = fun _ => .int 0 := by
      funext i
      by_cases hi : i < lV a
      · exact gV_at q hi
      · exact gV_z q hi
    rw [e]
    by_cases h0 : a = 220
    · subst h0
      exact va_s
    · rw [va_n h0]
      by_cases h1 : a = 219
      · subst h1
        exact va_s
      · rw [va_n h1]
        by_cases h2 : a = 218
        · subst h2
          exact va_s
        · rw [va_n h2]
          by_cases h3 : a = 217
          · subst h3
            exact va_s
          · rw [va_n h3]
            by_cases h4 : a = 216
            · subst h4
              exact va_s
            · rw [va_n h4]
              obtain rfl : a = 215 := by omega
              exact va_s
  · rw [gV_ot q, va_n (by omega), va_n (by omega), va_n (by omega), va_n (by omega), va_n (by omega), va_n (by omega)]
theorem zN_221 : zN 221 ≤ 3000 := by decide +kernel
theorem zN_s (n : Nat) : zN (n + 1) = zN n + zZ n := rfl
theorem zN_j (j : Nat) : zN (221 + j) = zN 221 + 12 * j := by
  induction j with
  | zero => rw [Nat.mul_zero, Nat.add_zero, Nat.add_zero]
  | succ j ih =>
    have e : zZ (221 + j) = 12 := by
      rw [show 221 + j = 215 + (6 + j) by omega]
      exact zZ_had (by omega)
    rw [show 221 + (j + 1) = (221 + j) + 1 by omega, zN_s, e, ih]
    omega
theorem zN_b {nz : Nat} (h1 : 6 ≤ nz) (h2 : nz ≤ 100) : zN (215 + nz) ≤ 5000 := by
  have h := zN_221
  rw [show 215 + nz = 221 + (nz - 6) by omega, zN_j]
  omega
theorem zN_0 : zN 0 = 0 := rfl
end ST
set_option maxRecDepth 4000 in
set_option maxHeartbeats 2000000 in
theorem s_law_120 {h : zH} {b m nz e : Nat} (hz : 6 ≤ nz) (hz2 : nz ≤ 100) (hL : LW h b m) {y : Value} {X : Nat × (Nat → Int32)} {Q : zQt} (kk : ∀ h', LW h' b m → zJ X mL_law 0 63 [.ref 1000, .ref 0, .ref 215, .ref 216, .ref 217, .ref 218, .ref 219, .ref 220, .int (nI (e + 1)), y] [] (215 + nz) h' Q) : zJ X mL_law 0 120 [.ref 1000, .ref 0, .ref 215, .ref 216, .ref 217, .ref 218, .ref 219, .ref 220, .int (nI e), y] [.int 1] (215 + nz) h Q := by
  obtain ⟨w, pa, tx, n, T, e0, hc, hM, hB, hb, hm⟩ := hL
  refine z_to e0 ?_
  have hc' : CH (gV h w) w pa n tx T := CH_lt (fun a ha => gV_ot (by omega)) hc
  have hL0 : LW (gV h w) b m := LW_g hc (fun _ _ => rfl) hM hB hb hm
  refine j_if_eq dL_law_120 (tgt := 151) rfl (fun c1 => absurd c1 (show ¬ (1 : Int32) = 0 by decide)) (fun _ => ?_)
  refine j_aload_n dL_law_123 rfl ?_
  refine j_aload_n dL_law_124 rfl ?_
  refine j_aload_n dL_law_125 rfl ?_
  refine j_aload dL_law_126 rfl ?_
  refine j_aload dL_law_128 rfl ?_
  refine j_callS5i dL_law_130 vL_law_129 (s_areBidders hz hc' hM hB.2.2) rfl rfl rfl rfl rfl (Nat.le_of_ble_eq_true rfl) (Nat.zero_le _) rfl rfl (show 215 + nz - 0 + 0 ≤ 600000 by omega) (show zN (215 + nz) - zN 0 + 0 ≤ 7302250 by have := zN_b hz hz2; omega) rfl ?_
  rintro _ _ ⟨⟨⟩, rfl⟩
  refine j_if_eq dL_law_133 (tgt := 151) rfl (fun c2 => absurd c2 (show ¬ (1 : Int32) = 0 by decide)) (fun _ => ?_)
  refine j_aload_n dL_law_136 rfl ?_
  refine j_aload dL_law_137 rfl ?_
  refine j_aload dL_law_139 rfl ?_
  refine j_aload dL_law_141 rfl ?_
  refine j_aload dL_law_143 rfl ?_
  refine j_callS5i dL_law_145 vL_law_133 (s_areLots hz hc' hM hB.2.1) rfl rfl rfl rfl rfl (Nat.le_of_ble_eq_true rfl) (Nat.zero_le _) rfl rfl (show 215 + nz - 0 + 0 ≤ 600000 by omega) (show zN (215 + nz) - zN 0 + 0 ≤ 7302250 by have := zN_b hz hz2; omega) rfl ?_
  rintro _ _ ⟨⟨⟩, rfl⟩
  refine j_if_ne dL_law_148 (tgt := 153) rfl (fun _ => ?_) (fun c3 => absurd c3 (show ¬ (1 : Int32) = 0 by decide))
  refine j_iinc (v := nI (e + 1)) dL_law_153 rfl z_inc (by decide) ?_
  refine j_goto dL_law_156 (tgt := 63) rfl ?_
  exact kk _ hL0
set_option maxRecDepth 4000 in
set_option maxHeartbeats 2000000 in
theorem s_law_lp {X : Nat × (Nat → Int32)} (hXL : X.1 ≤ 260) {Q : zQt} (hQ : ∀ nx h', nx ≤ 300 → Q (some 1) nx h') : ∀ (n e nz : Nat) (h : zH) (y : Value), e + n = 64 → 6 ≤ nz → nz ≤ 6 + e → LW h (12 * e) e → zJ X mL_law 0 63 [.ref 1000, .ref 0, .ref 215, .ref 216, .ref 217, .ref 218, .ref 219, .ref 220, .int (nI e), y] [] (215 + nz) h Q := by
  intro n
  induction n with
  | zero =>
    intro e nz h y he hz hze hL
    refine j_iload dL_law_63 rfl ?_
    refine j_bipush (v := 64) dL_law_65 (by decide) ?_
    refine j_icmp_ge dL_law_67 (tgt := 159) rfl (fun _ => ?_) (fun c1 => absurd (show 64 ≤ nI e from nI_le (a := 64) (by omega) (by omega)) c1)
    refine j_iconst (v := 1) dL_law_159 (by decide) ?_
    refine j_iret dL_law_160 rfl (rfl) ?_
    exact hQ _ _ (by omega)
  | succ n ih =>
    intro e nz h y he hz hze hL
    have hz2 : nz ≤ 100 := by omega
    refine j_iload dL_law_63 rfl ?_
    refine j_bipush (v := 64) dL_law_65 (by decide) ?_
    refine j_icmp_ge dL_law_67 (tgt := 159) rfl (fun c1 => absurd c1 (show ¬ 64 ≤ nI e from nI_ge (b := 64) (by omega) (by decide))) (fun _ => ?_)
    refine j_aload_n dL_law_70 rfl ?_
    refine j_iload dL_law_71 rfl ?_
    refine j_cell (M' := mL_cell) (r := lCell X e) dL_law_73 (Or.inl rfl) oL_cell (by decide +kernel) (by decide) vL_law_121l vL_law_121s ⟨rfl, rfl⟩ rfl (Nat.le_of_ble_eq_true rfl) (Nat.zero_le _) (show 215 + nz - 0 ≤ 600000 by omega) (show zN (215 + nz) - zN 0 ≤ 7302250 by have := zN_b hz (show nz ≤ 100 by omega); omega) (s_cell (by omega) hXL) ?_
    refine j_ldc (v := (2147483647)) dL_law_76 cL_8 ?_
    refine j_iand dL_law_78 ?_
    obtain ⟨zz, hz31, ez⟩ := pk_andE (lCell X e) (m := 2147483647) 31 (by decide)
    rw [ez]
    refine j_istore dL_law_79 (by decide) ?_
    refine j_aload_n dL_law_81 rfl ?_
    refine j_aload_n dL_law_82 rfl ?_
    refine j_aload_n dL_law_83 rfl ?_
    refine j_aload dL_law_84 rfl ?_
    refine j_aload dL_law_86 rfl ?_
    refine j_aload dL_law_88 rfl ?_
    refine j_aload dL_law_90 rfl ?_
    refine j_iload dL_law_92 rfl ?_
    refine j_bipush (v := 8) dL_law_94 (by decide) ?_
    refine j_icmp_ge dL_law_96 (tgt := 107) rfl (fun c2 => ?_) (fun c2 => ?_)
    · refine j_iload dL_law_107 rfl ?_
      refine j_bipush (v := 18) dL_law_109 (by decide) ?_
      refine j_irem dL_law_111 (by decide) ?_
      rw [show nI zz - nI zz / 18 * 18 = nI (zz % 18) from pk_rem (d := 18) (by omega) (by decide) (by decide)]
      refine j_iload dL_law_112 rfl ?_
      refine j_bipush (v := 18) dL_law_114 (by decide) ?_
      refine j_idiv dL_law_116 (by decide) ?_
      rw [show nI zz / 18 = nI (zz / 18) from pk_div (d := 18) (by omega) (by decide) (by decide)]
      obtain ⟨w, pa, tx, n0, T, e0, hc, hM, hB, hb, hm⟩ := hL
      refine z_to e0 ?_
      have hc' : CH (gV h w) w pa n0 tx T := CH_lt (fun a ha => gV_ot (by omega)) hc
      by_cases hni : (zz % 18) = 14 ∧ ¬ w 148 = 1
      · obtain ⟨h14, h148⟩ := hni
        rw [h14]
        refine j_callS9i (nx' := 215 + nz + 1) dL_law_117 vL_law_1251 (s_isActed1 hz hc' hM hB hb hm hz2 (by omega) (by omega) h148) rfl rfl rfl rfl rfl rfl rfl rfl rfl (Nat.le_of_ble_eq_true rfl) (Nat.zero_le _) rfl (show zN (215 + nz) + zZ (215 + nz) = zN (215 + nz) + 12 by rw [zZ_had hz]) (show 215 + nz - 0 + 1 ≤ 600000 by omega) (show zN (215 + nz) - zN 0 + 12 ≤ 7302250 by have := zN_b hz hz2; omega) rfl ?_
        rintro _ h1 ⟨⟨⟩, hL1⟩
        show zJ X mL_law 0 120 _ _ (215 + (nz + 1)) _ Q
        exact s_law_120 (show 6 ≤ nz + 1 by omega) (by omega) hL1 (fun h' hL' => ih (e + 1) (nz + 1) h' _ (by omega) (by omega) (by omega) (LW_mono (by omega) (by omega) hL'))
      · refine j_callS9i (nx' := 215 + nz) dL_law_117 vL_law_125 (s_isActed hz hc' hM hB hb hm (by omega) (by omega) (by omega) (fun q => Decidable.byContradiction (fun q2 => hni ⟨q, q2⟩))) rfl rfl rfl rfl rfl rfl rfl rfl rfl (Nat.le_of_ble_eq_true rfl) (Nat.zero_le _) rfl rfl (show 215 + nz - 0 + 0 ≤ 600000 by omega) (show zN (215 + nz) - zN 0 + 0 ≤ 7302250 by have := zN_b hz hz2; omega) rfl ?_
        rintro _ h1 ⟨⟨⟩, hL1⟩
        exact s_law_120 hz (by omega) hL1 (fun h' hL' => ih (e + 1) nz h' _ (by omega) (by omega) (by omega) (LW_mono (by omega) (by omega) hL'))
    · refine j_iload dL_law_99 rfl ?_
      refine j_bipush (v := 7) dL_law_101 (by decide) ?_
      refine j_irem dL_law_103 (by decide) ?_
      rw [show nI zz - nI zz / 7 * 7 = nI (zz % 7) from pk_rem (d := 7) (by omega) (by decide) (by decide)]
      refine j_goto dL_law_104 (tgt := 112) rfl ?_
      refine j_iload dL_law_112 rfl ?_
      refine j_bipush (v := 18) dL_law_114 (by decide) ?_
      refine j_idiv dL_law_116 (by decide) ?_
      rw [show nI zz / 18 = nI (zz / 18) from pk_div (d := 18) (by omega) (by decide) (by decide)]
      obtain ⟨w, pa, tx, n0, T, e0, hc, hM, hB, hb, hm⟩ := hL
      refine z_to e0 ?_
      have hc' : CH (gV h w) w pa n0 tx T := CH_lt (fun a ha => gV_ot (by omega)) hc
      by_cases hni : (zz % 7) = 14 ∧ ¬ w 148 = 1
      · obtain ⟨h14, h148⟩ := hni
        rw [h14]
        refine j_callS9i (nx' := 215 + nz + 1) dL_law_117 vL_law_1251 (s_isActed1 hz hc' hM hB hb hm hz2 (by omega) (by omega) h148) rfl rfl rfl rfl rfl rfl rfl rfl rfl (Nat.le_of_ble_eq_true rfl) (Nat.zero_le _) rfl (show zN (215 + nz) + zZ (215 + nz) = zN (215 + nz) + 12 by rw [zZ_had hz]) (show 215 + nz - 0 + 1 ≤ 600000 by omega) (show zN (215 + nz) - zN 0 + 12 ≤ 7302250 by have := zN_b hz hz2; omega) rfl ?_
        rintro _ h1 ⟨⟨⟩, hL1⟩
        show zJ X mL_law 0 120 _ _ (215 + (nz + 1)) _ Q
        exact s_law_120 (show 6 ≤ nz + 1 by omega) (by omega) hL1 (fun h' hL' => ih (e + 1) (nz + 1) h' _ (by omega) (by omega) (by omega) (LW_mono (by omega) (by omega) hL'))
      · refine j_callS9i (nx' := 215 + nz) dL_law_117 vL_law_125 (s_isActed hz hc' hM hB hb hm (by omega) (by omega) (by omega) (fun q => Decidable.byContradiction (fun q2 => hni ⟨q, q2⟩))) rfl rfl rfl rfl rfl rfl rfl rfl rfl (Nat.le_of_ble_eq_true rfl) (Nat.zero_le _) rfl rfl (show 215 + nz - 0 + 0 ≤ 600000 by omega) (show zN (215 + nz) - zN 0 + 0 ≤ 7302250 by have := zN_b hz hz2; omega) rfl ?_
        rintro _ h1 ⟨⟨⟩, hL1⟩
        exact s_law_120 hz (by omega) hL1 (fun h' hL' => ih (e + 1) nz h' _ (by omega) (by omega) (by omega) (LW_mono (by omega) (by omega) hL'))
set_option maxRecDepth 4000 in
set_option maxHeartbeats 2000000 in
theorem law_run {X : Nat × (Nat → Int32)} (hXL : X.1 ≤ 260) {Q : zQt} (hQ : ∀ nx h', nx ≤ 300 → Q (some 1) nx h') {h : zH} : zJ X mL_law 0 0 [.ref 1000, .null, .null, .null, .null, .null, .null, .null, .null, .null] [] 0 h Q := by
  refine j_new dL_law_0 kL_33 rfl (by decide) (by decide) (by decide) (by decide +kernel) ?_
  refine j_dup dL_law_3 rfl ?_
  refine j_callI (As := []) (n := 0) dL_law_4 vL_law_120 (i_X4 va_s) (by decide) rfl (fun v hv => by cases hv) (Nat.le_of_ble_eq_true rfl) (by decide) rfl (by decide +kernel) (by decide) (by decide +kernel) ?_
  rintro h1 ⟨-, g1⟩
  refine j_same (h' := GH) (fun a ha k hk => g1 a ha k hk) ?_
  refine j_astore_n dL_law_7 (by decide) ?_
  refine j_bipush (v := 60) dL_law_8 (by decide) ?_
  refine j_newa (t := 0) (n := 60) dL_law_10 (Or.inl ⟨rfl, rfl⟩) z_arI rfl (by decide) (by decide) (by decide) (by decide) (by decide) (by decide) (by decide +kernel) ?_
  refine j_astore_n dL_law_12 (by decide) ?_
  refine j_bipush (v := 60) dL_law_13 (by decide) ?_
  refine j_newa (t := 0) (n := 60) dL_law_15 (Or.inl ⟨rfl, rfl⟩) z_arI rfl (by decide) (by decide) (by decide) (by decide) (by decide) (by decide) (by decide +kernel) ?_
  refine j_astore_n dL_law_17 (by decide) ?_
  refine j_bipush (v := 16) dL_law_18 (by decide) ?_
  refine j_newa (t := 0) (n := 16) dL_law_20 (Or.inl ⟨rfl, rfl⟩) z_arI rfl (by decide) (by decide) (by decide) (by decide) (by decide) (by decide) (by decide +kernel) ?_
  refine j_astore dL_law_22 (by decide) ?_
  refine j_bipush (v := 10) dL_law_24 (by decide) ?_
  refine j_newa (t := 0) (n := 10) dL_law_26 (Or.inl ⟨rfl, rfl⟩) z_arI rfl (by decide) (by decide) (by decide) (by decide) (by decide) (by decide) (by decide +kernel) ?_
  refine j_astore dL_law_28 (by decide) ?_
  refine j_bipush (v := 40) dL_law_30 (by decide) ?_
  refine j_newa (t := 0) (n := 40) dL_law_32 (Or.inl ⟨rfl, rfl⟩) z_arI rfl (by decide) (by decide) (by decide) (by decide) (by decide) (by decide) (by decide +kernel) ?_
  refine j_astore dL_law_34 (by decide) ?_
  refine j_bipush (v := 18) dL_law_36 (by decide) ?_
  refine j_newa (t := 0) (n := 18) dL_law_38 (Or.inl ⟨rfl, rfl⟩) z_arI rfl (by decide) (by decide) (by decide) (by decide) (by decide) (by decide) (by decide +kernel) ?_
  refine j_astore dL_law_40 (by decide) ?_
  show zJ X mL_law 0 _ _ _ (215 + 6) _ Q
  refine z_to gV_new ?_
  have hz : 6 ≤ 6 := Nat.le_refl 6
  refine j_aload dL_law_42 rfl ?_
  refine j_bipush (v := 15) dL_law_44 (by decide) ?_
  refine j_iconst (v := 3) dL_law_46 (by decide) ?_
  refine l_st (a := 220) (i := 15) 212 dL_law_47 (by decide) rfl hz (rfl) (by decide) rfl ?_
  refine j_aload dL_law_48 rfl ?_
  refine j_bipush (v := 16) dL_law_50 (by decide) ?_
  refine j_iconst (v := 3) dL_law_52 (by decide) ?_
  refine l_st (a := 220) (i := 16) 213 dL_law_53 (by decide) rfl hz (rfl) (by decide) rfl ?_
  refine j_aload dL_law_54 rfl ?_
  refine j_bipush (v := 17) dL_law_56 (by decide) ?_
  refine j_iconst (v := 3) dL_law_58 (by decide) ?_
  refine l_st (a := 220) (i := 17) 214 dL_law_59 (by decide) rfl hz (rfl) (by decide) rfl ?_
  refine j_iconst (v := 0) dL_law_60 (by decide) ?_
  refine j_istore dL_law_61 (by decide) ?_
  refine z_to (congrArg (gV GH) s0_up) ?_
  exact s_law_lp hXL hQ 64 0 6 _ _ rfl (Nat.le_refl 6) (Nat.le_refl 6) LW_0
