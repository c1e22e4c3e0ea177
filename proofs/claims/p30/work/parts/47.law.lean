section L2
theorem z_vr {g : zH} {p : Int32 × (Nat → Int32)} {x : Int32} {t : Nat → Int32} (e : p = (x, t)) : some x = some p.1 ∧ gV g t = gV g p.2 := by
  subst e
  exact ⟨rfl, rfl⟩
theorem z_vn {g : zH} {p t : Nat → Int32} (e : p = t) : (none : Option Int32) = none ∧ gV g t = gV g p := by
  subst e
  exact ⟨rfl, rfl⟩
theorem l_ask {w : Nat → Int32} {N W k : Nat} (hI : aIa w N W) (hk : k < N) (hb : aBar w k ≤ 0) : ¬ aAsk w = 0 := by
  obtain ⟨-, a, h1, h2, h3⟩ := aIa_bid2 (c := 0) hI hk hb
  have hN := hI.1.2
  rw [aC2_151 (by omega), aAsk_c1 (by omega)] at h3
  rw [h3]
  exact nI_ne0 h1 (by omega)
theorem l_c151 {w : Nat → Int32} {k : Nat} {c : Int32} (hk : k < 12) : aC2 (aC1 w k) k c 151 = aAsk w := by
  rw [aC2_151 hk, aAsk_c1 hk]
theorem l_c2 {w : Nat → Int32} {k : Nat} {c : Int32} (hk : k < 12) (t1 t2 t3 t4 t5 t6 : Nat → Int32) (e1 : upd (aC1 w k) 151 (aAsk w) = t1) (e2 : upd t1 152 (nI k + 1) = t2) (e3 : upd t2 155 (t2 155 + 1) = t3) (e4 : upd t3 156 c = t4) (e5 : upd t4 157 1 = t5) (e6 : upd t5 (11 * k + 7) (t5 (11 * k + 7) + 1) = t6) : upd t6 207 (t6 207 + 1) = aC2 (aC1 w k) k c := by
  have f : ∀ {t : Nat → Int32} {a b : Nat} {x y : Int32}, a ≠ b → upd (upd t a x) b y = upd (upd t b y) a x := fun h => upd_sw h
  unfold aC2
  rw [aAsk_c1 hk, e1]
  show _ = (fun q => (fun r => upd r (11 * k + 7) (r (11 * k + 7) + 1)) (upd q 207 (q 207 + 1))) (upd (upd (upd (upd t1 152 (nI k + 1)) 156 c) 157 1) 155 (upd (upd (upd t1 152 (nI k + 1)) 156 c) 157 1 155 + 1))
  rw [e2]
  have g1 : upd (upd (upd t2 156 c) 157 1) 155 (upd (upd t2 156 c) 157 1 155 + 1) = t5 := by
    rw [pk_un (by omega), pk_un (by omega), f (by omega), f (t := t2) (by omega), e3, e4, e5]
  rw [g1]
  show _ = upd (upd t5 207 (t5 207 + 1)) (11 * k + 7) (upd t5 207 (t5 207 + 1) (11 * k + 7) + 1)
  rw [← e6, pk_un (k := 207) (j := 11 * k + 7) (by omega), pk_un (k := 11 * k + 7) (j := 207) (by omega)]
  exact f (by omega)
set_option maxRecDepth 4000 in
set_option maxHeartbeats 2000000 in
theorem s_cough {g : zH} {w : Nat → Int32} {nz : Nat} (hz : 6 ≤ nz) {N W : Nat} (hI : aIa w N W) {k : Nat} (hk : k < N) {c : Int32} : zCT mL_cough [.ref 215, .ref 216, .ref 218, .ref 219, .ref 220, .int (nI k), .int c] (215 + nz) (gV g w) (215 + nz) (fun r h' => r = some (aCgh w k c).1 ∧ h' = gV g (aCgh w k c).2) := by
  intro X Q hQ
  show zJ X mL_cough (215 + nz) 0 [.ref 215, .ref 216, .ref 218, .ref 219, .ref 220, .int (nI k), .int c, .null] [] (215 + nz) (gV g w) Q
  have hN := hI.1.2
  have hk12 : k < 12 := by omega
  refine j_aload_n dL_cough_0 rfl ?_
  refine j_aload_n dL_cough_1 rfl ?_
  refine j_aload_n dL_cough_2 rfl ?_
  refine j_aload dL_cough_3 rfl ?_
  refine j_iload dL_cough_5 rfl ?_
  refine k_callS5i dL_cough_7 vL_cough_15 (s_why hz (k := k) (by omega)) rfl rfl rfl rfl rfl (Nat.le_of_ble_eq_true rfl) ⟨rfl, rfl⟩ rfl ?_
  rintro _ _ ⟨⟨⟩, rfl⟩
  refine j_if_le dL_cough_10 (tgt := 17) rfl (fun c1 => ?_) (fun c1 => ?_)
  · refine j_aload_n dL_cough_17 rfl ?_
    refine j_iconst (v := 3) dL_cough_18 (by decide) ?_
    refine l_ld (a := 218) (i := 3) 152 dL_cough_19 (by decide) rfl hz (rfl) (by decide) rfl rfl ?_
    refine j_if_le dL_cough_20 (tgt := 33) rfl (fun c2 => ?_) (fun c2 => ?_)
    · refine j_aload_n dL_cough_33 rfl ?_
      refine j_iconst (v := 0) dL_cough_34 (by decide) ?_
      refine l_ld (a := 218) (i := 0) 149 dL_cough_35 (by decide) rfl hz (rfl) (by decide) rfl rfl ?_
      rw [show w 149 = aAsk w from (if_pos c2).symm]
      have hask := l_ask hI hk c1
      refine j_istore dL_cough_36 (by decide) ?_
      refine j_aload_n dL_cough_38 rfl ?_
      refine j_iconst (v := 5) dL_cough_39 (by decide) ?_
      refine j_iload dL_cough_40 rfl ?_
      refine j_imul dL_cough_42 ?_
      refine j_iconst (v := 1) dL_cough_43 (by decide) ?_
      refine j_iadd dL_cough_44 ?_
      refine j_dup2 dL_cough_45 rfl rfl ?_
      refine l_ld (a := 216) (i := ((5 * k) + 1)) (11 * k + 6) dL_cough_46 (by decide) rfl hz (by first | rfl | (simp only [z_n, pk_mul, nI_add]; done) | (simp only [z_n, pk_mul, nI_add]; exact pk_sub (by omega)) | (simp only [z_n, pk_mul, nI_add, pk_sub, *]; done)) (show _ < 60 by omega) (jD (by decide) rfl) rfl ?_
      refine j_iconst (v := 1) dL_cough_47 (by decide) ?_
      refine j_iadd dL_cough_48 ?_
      refine l_st (a := 216) (i := ((5 * k) + 1)) (11 * k + 6) dL_cough_49 (by decide) rfl hz (by first | rfl | (simp only [z_n, pk_mul, nI_add]; done) | (simp only [z_n, pk_mul, nI_add]; exact pk_sub (by omega)) | (simp only [z_n, pk_mul, nI_add, pk_sub, *]; done)) (show _ < 60 by omega) (jD (by decide) rfl) ?_
      refine j_aload dL_cough_50 rfl ?_
      refine j_bipush (v := 9) dL_cough_52 (by decide) ?_
      refine j_dup2 dL_cough_54 rfl rfl ?_
      refine l_ld (a := 220) (i := 9) 206 dL_cough_55 (by decide) rfl hz (rfl) (by decide) rfl rfl ?_
      refine j_iconst (v := 1) dL_cough_56 (by decide) ?_
      refine j_iadd dL_cough_57 ?_
      refine l_st (a := 220) (i := 9) 206 dL_cough_58 (by decide) rfl hz (rfl) (by decide) rfl ?_
      refine j_iload dL_cough_59 rfl ?_
      refine j_if_ne dL_cough_61 (tgt := 66) rfl (fun _ => ?_) (fun c3 => absurd c3 hask)
      refine j_aload_n dL_cough_66 rfl ?_
      refine j_iconst (v := 2) dL_cough_67 (by decide) ?_
      refine j_iload dL_cough_68 rfl ?_
      refine l_st (a := 218) (i := 2) 151 dL_cough_70 (by decide) rfl hz (rfl) (by decide) rfl ?_
      refine j_aload_n dL_cough_71 rfl ?_
      refine j_iconst (v := 3) dL_cough_72 (by decide) ?_
      refine j_iload dL_cough_73 rfl ?_
      refine j_iconst (v := 1) dL_cough_75 (by decide) ?_
      refine j_iadd dL_cough_76 ?_
      refine l_st (a := 218) (i := 3) 152 dL_cough_77 (by decide) rfl hz (rfl) (by decide) rfl ?_
      refine j_aload_n dL_cough_78 rfl ?_
      refine j_bipush (v := 6) dL_cough_79 (by decide) ?_
      refine j_dup2 dL_cough_81 rfl rfl ?_
      refine l_ld (a := 218) (i := 6) 155 dL_cough_82 (by decide) rfl hz (rfl) (by decide) rfl rfl ?_
      refine j_iconst (v := 1) dL_cough_83 (by decide) ?_
      refine j_iadd dL_cough_84 ?_
      refine l_st (a := 218) (i := 6) 155 dL_cough_85 (by decide) rfl hz (rfl) (by decide) rfl ?_
      refine j_aload_n dL_cough_86 rfl ?_
      refine j_bipush (v := 7) dL_cough_87 (by decide) ?_
      refine j_iload dL_cough_89 rfl ?_
      refine l_st (a := 218) (i := 7) 156 dL_cough_91 (by decide) rfl hz (rfl) (by decide) rfl ?_
      refine j_aload_n dL_cough_92 rfl ?_
      refine j_bipush (v := 8) dL_cough_93 (by decide) ?_
      refine j_iconst (v := 1) dL_cough_95 (by decide) ?_
      refine l_st (a := 218) (i := 8) 157 dL_cough_96 (by decide) rfl hz (rfl) (by decide) rfl ?_
      refine j_aload_n dL_cough_97 rfl ?_
      refine j_iconst (v := 5) dL_cough_98 (by decide) ?_
      refine j_iload dL_cough_99 rfl ?_
      refine j_imul dL_cough_101 ?_
      refine j_iconst (v := 2) dL_cough_102 (by decide) ?_
      refine j_iadd dL_cough_103 ?_
      refine j_dup2 dL_cough_104 rfl rfl ?_
      refine l_ld (a := 216) (i := ((5 * k) + 2)) (11 * k + 7) dL_cough_105 (by decide) rfl hz (by first | rfl | (simp only [z_n, pk_mul, nI_add]; done) | (simp only [z_n, pk_mul, nI_add]; exact pk_sub (by omega)) | (simp only [z_n, pk_mul, nI_add, pk_sub, *]; done)) (show _ < 60 by omega) (jD (by decide) rfl) rfl ?_
      refine j_iconst (v := 1) dL_cough_106 (by decide) ?_
      refine j_iadd dL_cough_107 ?_
      refine l_st (a := 216) (i := ((5 * k) + 2)) (11 * k + 7) dL_cough_108 (by decide) rfl hz (by first | rfl | (simp only [z_n, pk_mul, nI_add]; done) | (simp only [z_n, pk_mul, nI_add]; exact pk_sub (by omega)) | (simp only [z_n, pk_mul, nI_add, pk_sub, *]; done)) (show _ < 60 by omega) (jD (by decide) rfl) ?_
      refine j_aload dL_cough_109 rfl ?_
      refine j_bipush (v := 10) dL_cough_111 (by decide) ?_
      refine j_dup2 dL_cough_113 rfl rfl ?_
      refine l_ld (a := 220) (i := 10) 207 dL_cough_114 (by decide) rfl hz (rfl) (by decide) rfl rfl ?_
      refine j_iconst (v := 1) dL_cough_115 (by decide) ?_
      refine j_iadd dL_cough_116 ?_
      refine l_st (a := 220) (i := 10) 207 dL_cough_117 (by decide) rfl hz (rfl) (by decide) rfl ?_
      refine z_to (congrArg (gV g) (l_c2 hk12 _ _ _ _ _ _ rfl rfl rfl rfl rfl rfl)) ?_
      refine j_aload_n dL_cough_118 rfl ?_
      refine j_iconst (v := 5) dL_cough_119 (by decide) ?_
      refine j_iload dL_cough_120 rfl ?_
      refine j_imul dL_cough_122 ?_
      refine j_iconst (v := 4) dL_cough_123 (by decide) ?_
      refine j_iadd dL_cough_124 ?_
      refine l_ld (a := 215) (i := ((5 * k) + 4)) (11 * k + 4) dL_cough_125 (by decide) rfl hz (by first | rfl | (simp only [z_n, pk_mul, nI_add]; done) | (simp only [z_n, pk_mul, nI_add]; exact pk_sub (by omega)) | (simp only [z_n, pk_mul, nI_add, pk_sub, *]; done)) (show _ < 60 by omega) (jA (by omega)) rfl ?_
      refine j_aload_n dL_cough_126 rfl ?_
      refine j_iconst (v := 5) dL_cough_127 (by decide) ?_
      refine j_iload dL_cough_128 rfl ?_
      refine j_imul dL_cough_130 ?_
      refine j_iconst (v := 3) dL_cough_131 (by decide) ?_
      refine j_iadd dL_cough_132 ?_
      refine l_ld (a := 215) (i := ((5 * k) + 3)) (11 * k + 3) dL_cough_133 (by decide) rfl hz (by first | rfl | (simp only [z_n, pk_mul, nI_add]; done) | (simp only [z_n, pk_mul, nI_add]; exact pk_sub (by omega)) | (simp only [z_n, pk_mul, nI_add, pk_sub, *]; done)) (show _ < 60 by omega) (jA (by omega)) rfl ?_
      refine j_icmp_le dL_cough_134 (tgt := 172) rfl (fun c4 => ?_) (fun c4 => ?_)
      · refine j_iload dL_cough_172 rfl ?_
        refine j_iret dL_cough_174 rfl (rfl) ?_
        exact hQ _ _ (z_vr ((if_pos c1).trans ((if_pos c4).trans (Prod.ext (l_c151 hk12) rfl))))
      · refine j_aload_n dL_cough_137 rfl ?_
        refine j_iconst (v := 4) dL_cough_138 (by decide) ?_
        refine j_dup2 dL_cough_139 rfl rfl ?_
        refine l_ld (a := 218) (i := 4) 153 dL_cough_140 (by decide) rfl hz (rfl) (by decide) rfl rfl ?_
        refine j_iconst (v := 1) dL_cough_141 (by decide) ?_
        refine j_iadd dL_cough_142 ?_
        refine l_st (a := 218) (i := 4) 153 dL_cough_143 (by decide) rfl hz (rfl) (by decide) rfl ?_
        refine j_aload dL_cough_144 rfl ?_
        refine j_bipush (v := 11) dL_cough_146 (by decide) ?_
        refine j_dup2 dL_cough_148 rfl rfl ?_
        refine l_ld (a := 220) (i := 11) 208 dL_cough_149 (by decide) rfl hz (rfl) (by decide) rfl rfl ?_
        refine j_iconst (v := 1) dL_cough_150 (by decide) ?_
        refine j_iadd dL_cough_151 ?_
        refine l_st (a := 220) (i := 11) 208 dL_cough_152 (by decide) rfl hz (rfl) (by decide) rfl ?_
        refine j_aload_n dL_cough_153 rfl ?_
        refine j_iconst (v := 4) dL_cough_154 (by decide) ?_
        refine l_ld (a := 218) (i := 4) 153 dL_cough_155 (by decide) rfl hz (rfl) (by decide) rfl rfl ?_
        refine j_aload dL_cough_156 rfl ?_
        refine j_bipush (v := 16) dL_cough_158 (by decide) ?_
        refine l_ld (a := 220) (i := 16) 213 dL_cough_160 (by decide) rfl hz (rfl) (by decide) rfl rfl ?_
        refine j_icmp_lt dL_cough_161 (tgt := 172) rfl (fun c5 => ?_) (fun c5 => ?_)
        · refine j_iload dL_cough_172 rfl ?_
          refine j_iret dL_cough_174 rfl (rfl) ?_
          exact hQ _ _ (z_vr ((if_pos c1).trans ((if_neg c4).trans ((if_pos c5).trans (Prod.ext (((aC3_n (by omega) (by omega)).trans (l_c151 hk12))) rfl)))))
        · refine j_aload_n dL_cough_164 rfl ?_
          refine j_aload_n dL_cough_165 rfl ?_
          refine j_aload dL_cough_166 rfl ?_
          refine j_iconst (v := 1) dL_cough_168 (by decide) ?_
          refine k_callS4v dL_cough_169 vL_cough_19 (s_gone hz (how := 1) (by omega)) rfl rfl rfl rfl (Nat.le_of_ble_eq_true rfl) ⟨rfl, rfl⟩ rfl ?_
          rintro _ ⟨-, rfl⟩
          refine j_iload dL_cough_172 rfl ?_
          refine j_iret dL_cough_174 rfl (rfl) ?_
          exact hQ _ _ (z_vr ((if_pos c1).trans ((if_neg c4).trans ((if_neg c5).trans (Prod.ext ((aGo_n (by omega) (by omega) (by omega) (by omega) (by omega)).trans ((aC3_n (by omega) (by omega)).trans (l_c151 hk12))) rfl)))))
    · refine j_aload_n dL_cough_23 rfl ?_
      refine j_iconst (v := 2) dL_cough_24 (by decide) ?_
      refine l_ld (a := 218) (i := 2) 151 dL_cough_25 (by decide) rfl hz (rfl) (by decide) rfl rfl ?_
      refine j_aload_n dL_cough_26 rfl ?_
      refine j_iconst (v := 1) dL_cough_27 (by decide) ?_
      refine l_ld (a := 218) (i := 1) 150 dL_cough_28 (by decide) rfl hz (rfl) (by decide) rfl rfl ?_
      refine j_iadd dL_cough_29 ?_
      refine j_goto dL_cough_30 (tgt := 36) rfl ?_
      rw [show w 151 + w 150 = aAsk w from (if_neg c2).symm]
      have hask := l_ask hI hk c1
      refine j_istore dL_cough_36 (by decide) ?_
      refine j_aload_n dL_cough_38 rfl ?_
      refine j_iconst (v := 5) dL_cough_39 (by decide) ?_
      refine j_iload dL_cough_40 rfl ?_
      refine j_imul dL_cough_42 ?_
      refine j_iconst (v := 1) dL_cough_43 (by decide) ?_
      refine j_iadd dL_cough_44 ?_
      refine j_dup2 dL_cough_45 rfl rfl ?_
      refine l_ld (a := 216) (i := ((5 * k) + 1)) (11 * k + 6) dL_cough_46 (by decide) rfl hz (by first | rfl | (simp only [z_n, pk_mul, nI_add]; done) | (simp only [z_n, pk_mul, nI_add]; exact pk_sub (by omega)) | (simp only [z_n, pk_mul, nI_add, pk_sub, *]; done)) (show _ < 60 by omega) (jD (by decide) rfl) rfl ?_
      refine j_iconst (v := 1) dL_cough_47 (by decide) ?_
      refine j_iadd dL_cough_48 ?_
      refine l_st (a := 216) (i := ((5 * k) + 1)) (11 * k + 6) dL_cough_49 (by decide) rfl hz (by first | rfl | (simp only [z_n, pk_mul, nI_add]; done) | (simp only [z_n, pk_mul, nI_add]; exact pk_sub (by omega)) | (simp only [z_n, pk_mul, nI_add, pk_sub, *]; done)) (show _ < 60 by omega) (jD (by decide) rfl) ?_
      refine j_aload dL_cough_50 rfl ?_
      refine j_bipush (v := 9) dL_cough_52 (by decide) ?_
      refine j_dup2 dL_cough_54 rfl rfl ?_
      refine l_ld (a := 220) (i := 9) 206 dL_cough_55 (by decide) rfl hz (rfl) (by decide) rfl rfl ?_
      refine j_iconst (v := 1) dL_cough_56 (by decide) ?_
      refine j_iadd dL_cough_57 ?_
      refine l_st (a := 220) (i := 9) 206 dL_cough_58 (by decide) rfl hz (rfl) (by decide) rfl ?_
      refine j_iload dL_cough_59 rfl ?_
      refine j_if_ne dL_cough_61 (tgt := 66) rfl (fun _ => ?_) (fun c6 => absurd c6 hask)
      refine j_aload_n dL_cough_66 rfl ?_
      refine j_iconst (v := 2) dL_cough_67 (by decide) ?_
      refine j_iload dL_cough_68 rfl ?_
      refine l_st (a := 218) (i := 2) 151 dL_cough_70 (by decide) rfl hz (rfl) (by decide) rfl ?_
      refine j_aload_n dL_cough_71 rfl ?_
      refine j_iconst (v := 3) dL_cough_72 (by decide) ?_
      refine j_iload dL_cough_73 rfl ?_
      refine j_iconst (v := 1) dL_cough_75 (by decide) ?_
      refine j_iadd dL_cough_76 ?_
      refine l_st (a := 218) (i := 3) 152 dL_cough_77 (by decide) rfl hz (rfl) (by decide) rfl ?_
      refine j_aload_n dL_cough_78 rfl ?_
      refine j_bipush (v := 6) dL_cough_79 (by decide) ?_
      refine j_dup2 dL_cough_81 rfl rfl ?_
      refine l_ld (a := 218) (i := 6) 155 dL_cough_82 (by decide) rfl hz (rfl) (by decide) rfl rfl ?_
      refine j_iconst (v := 1) dL_cough_83 (by decide) ?_
      refine j_iadd dL_cough_84 ?_
      refine l_st (a := 218) (i := 6) 155 dL_cough_85 (by decide) rfl hz (rfl) (by decide) rfl ?_
      refine j_aload_n dL_cough_86 rfl ?_
      refine j_bipush (v := 7) dL_cough_87 (by decide) ?_
      refine j_iload dL_cough_89 rfl ?_
      refine l_st (a := 218) (i := 7) 156 dL_cough_91 (by decide) rfl hz (rfl) (by decide) rfl ?_
      refine j_aload_n dL_cough_92 rfl ?_
      refine j_bipush (v := 8) dL_cough_93 (by decide) ?_
      refine j_iconst (v := 1) dL_cough_95 (by decide) ?_
      refine l_st (a := 218) (i := 8) 157 dL_cough_96 (by decide) rfl hz (rfl) (by decide) rfl ?_
      refine j_aload_n dL_cough_97 rfl ?_
      refine j_iconst (v := 5) dL_cough_98 (by decide) ?_
      refine j_iload dL_cough_99 rfl ?_
      refine j_imul dL_cough_101 ?_
      refine j_iconst (v := 2) dL_cough_102 (by decide) ?_
      refine j_iadd dL_cough_103 ?_
      refine j_dup2 dL_cough_104 rfl rfl ?_
      refine l_ld (a := 216) (i := ((5 * k) + 2)) (11 * k + 7) dL_cough_105 (by decide) rfl hz (by first | rfl | (simp only [z_n, pk_mul, nI_add]; done) | (simp only [z_n, pk_mul, nI_add]; exact pk_sub (by omega)) | (simp only [z_n, pk_mul, nI_add, pk_sub, *]; done)) (show _ < 60 by omega) (jD (by decide) rfl) rfl ?_
      refine j_iconst (v := 1) dL_cough_106 (by decide) ?_
      refine j_iadd dL_cough_107 ?_
      refine l_st (a := 216) (i := ((5 * k) + 2)) (11 * k + 7) dL_cough_108 (by decide) rfl hz (by first | rfl | (simp only [z_n, pk_mul, nI_add]; done) | (simp only [z_n, pk_mul, nI_add]; exact pk_sub (by omega)) | (simp only [z_n, pk_mul, nI_add, pk_sub, *]; done)) (show _ < 60 by omega) (jD (by decide) rfl) ?_
      refine j_aload dL_cough_109 rfl ?_
      refine j_bipush (v := 10) dL_cough_111 (by decide) ?_
      refine j_dup2 dL_cough_113 rfl rfl ?_
      refine l_ld (a := 220) (i := 10) 207 dL_cough_114 (by decide) rfl hz (rfl) (by decide) rfl rfl ?_
      refine j_iconst (v := 1) dL_cough_115 (by decide) ?_
      refine j_iadd dL_cough_116 ?_
      refine l_st (a := 220) (i := 10) 207 dL_cough_117 (by decide) rfl hz (rfl) (by decide) rfl ?_
      refine z_to (congrArg (gV g) (l_c2 hk12 _ _ _ _ _ _ rfl rfl rfl rfl rfl rfl)) ?_
      refine j_aload_n dL_cough_118 rfl ?_
      refine j_iconst (v := 5) dL_cough_119 (by decide) ?_
      refine j_iload dL_cough_120 rfl ?_
      refine j_imul dL_cough_122 ?_
      refine j_iconst (v := 4) dL_cough_123 (by decide) ?_
      refine j_iadd dL_cough_124 ?_
      refine l_ld (a := 215) (i := ((5 * k) + 4)) (11 * k + 4) dL_cough_125 (by decide) rfl hz (by first | rfl | (simp only [z_n, pk_mul, nI_add]; done) | (simp only [z_n, pk_mul, nI_add]; exact pk_sub (by omega)) | (simp only [z_n, pk_mul, nI_add, pk_sub, *]; done)) (show _ < 60 by omega) (jA (by omega)) rfl ?_
      refine j_aload_n dL_cough_126 rfl ?_
      refine j_iconst (v := 5) dL_cough_127 (by decide) ?_
      refine j_iload dL_cough_128 rfl ?_
      refine j_imul dL_cough_130 ?_
      refine j_iconst (v := 3) dL_cough_131 (by decide) ?_
      refine j_iadd dL_cough_132 ?_
      refine l_ld (a := 215) (i := ((5 * k) + 3)) (11 * k + 3) dL_cough_133 (by decide) rfl hz (by first | rfl | (simp only [z_n, pk_mul, nI_add]; done) | (simp only [z_n, pk_mul, nI_add]; exact pk_sub (by omega)) | (simp only [z_n, pk_mul, nI_add, pk_sub, *]; done)) (show _ < 60 by omega) (jA (by omega)) rfl ?_
      refine j_icmp_le dL_cough_134 (tgt := 172) rfl (fun c7 => ?_) (fun c7 => ?_)
      · refine j_iload dL_cough_172 rfl ?_
        refine j_iret dL_cough_174 rfl (rfl) ?_
        exact hQ _ _ (z_vr ((if_pos c1).trans ((if_pos c7).trans (Prod.ext (l_c151 hk12) rfl))))
      · refine j_aload_n dL_cough_137 rfl ?_
        refine j_iconst (v := 4) dL_cough_138 (by decide) ?_
        refine j_dup2 dL_cough_139 rfl rfl ?_
        refine l_ld (a := 218) (i := 4) 153 dL_cough_140 (by decide) rfl hz (rfl) (by decide) rfl rfl ?_
        refine j_iconst (v := 1) dL_cough_141 (by decide) ?_
        refine j_iadd dL_cough_142 ?_
        refine l_st (a := 218) (i := 4) 153 dL_cough_143 (by decide) rfl hz (rfl) (by decide) rfl ?_
        refine j_aload dL_cough_144 rfl ?_
        refine j_bipush (v := 11) dL_cough_146 (by decide) ?_
        refine j_dup2 dL_cough_148 rfl rfl ?_
        refine l_ld (a := 220) (i := 11) 208 dL_cough_149 (by decide) rfl hz (rfl) (by decide) rfl rfl ?_
        refine j_iconst (v := 1) dL_cough_150 (by decide) ?_
        refine j_iadd dL_cough_151 ?_
        refine l_st (a := 220) (i := 11) 208 dL_cough_152 (by decide) rfl hz (rfl) (by decide) rfl ?_
        refine j_aload_n dL_cough_153 rfl ?_
        refine j_iconst (v := 4) dL_cough_154 (by decide) ?_
        refine l_ld (a := 218) (i := 4) 153 dL_cough_155 (by decide) rfl hz (rfl) (by decide) rfl rfl ?_
        refine j_aload dL_cough_156 rfl ?_
        refine j_bipush (v := 16) dL_cough_158 (by decide) ?_
        refine l_ld (a := 220) (i := 16) 213 dL_cough_160 (by decide) rfl hz (rfl) (by decide) rfl rfl ?_
        refine j_icmp_lt dL_cough_161 (tgt := 172) rfl (fun c8 => ?_) (fun c8 => ?_)
        · refine j_iload dL_cough_172 rfl ?_
          refine j_iret dL_cough_174 rfl (rfl) ?_
          exact hQ _ _ (z_vr ((if_pos c1).trans ((if_neg c7).trans ((if_pos c8).trans (Prod.ext (((aC3_n (by omega) (by omega)).trans (l_c151 hk12))) rfl)))))
        · refine j_aload_n dL_cough_164 rfl ?_
          refine j_aload_n dL_cough_165 rfl ?_
          refine j_aload dL_cough_166 rfl ?_
          refine j_iconst (v := 1) dL_cough_168 (by decide) ?_
          refine k_callS4v dL_cough_169 vL_cough_19 (s_gone hz (how := 1) (by omega)) rfl rfl rfl rfl (Nat.le_of_ble_eq_true rfl) ⟨rfl, rfl⟩ rfl ?_
          rintro _ ⟨-, rfl⟩
          refine j_iload dL_cough_172 rfl ?_
          refine j_iret dL_cough_174 rfl (rfl) ?_
          exact hQ _ _ (z_vr ((if_pos c1).trans ((if_neg c7).trans ((if_neg c8).trans (Prod.ext ((aGo_n (by omega) (by omega) (by omega) (by omega) (by omega)).trans ((aC3_n (by omega) (by omega)).trans (l_c151 hk12))) rfl)))))
  · refine j_iconst (v := 0) dL_cough_13 (by decide) ?_
    refine j_goto dL_cough_14 (tgt := 36) rfl ?_
    skip
    refine j_istore dL_cough_36 (by decide) ?_
    refine j_aload_n dL_cough_38 rfl ?_
    refine j_iconst (v := 5) dL_cough_39 (by decide) ?_
    refine j_iload dL_cough_40 rfl ?_
    refine j_imul dL_cough_42 ?_
    refine j_iconst (v := 1) dL_cough_43 (by decide) ?_
    refine j_iadd dL_cough_44 ?_
    refine j_dup2 dL_cough_45 rfl rfl ?_
    refine l_ld (a := 216) (i := ((5 * k) + 1)) (11 * k + 6) dL_cough_46 (by decide) rfl hz (by first | rfl | (simp only [z_n, pk_mul, nI_add]; done) | (simp only [z_n, pk_mul, nI_add]; exact pk_sub (by omega)) | (simp only [z_n, pk_mul, nI_add, pk_sub, *]; done)) (show _ < 60 by omega) (jD (by decide) rfl) rfl ?_
    refine j_iconst (v := 1) dL_cough_47 (by decide) ?_
    refine j_iadd dL_cough_48 ?_
    refine l_st (a := 216) (i := ((5 * k) + 1)) (11 * k + 6) dL_cough_49 (by decide) rfl hz (by first | rfl | (simp only [z_n, pk_mul, nI_add]; done) | (simp only [z_n, pk_mul, nI_add]; exact pk_sub (by omega)) | (simp only [z_n, pk_mul, nI_add, pk_sub, *]; done)) (show _ < 60 by omega) (jD (by decide) rfl) ?_
    refine j_aload dL_cough_50 rfl ?_
    refine j_bipush (v := 9) dL_cough_52 (by decide) ?_
    refine j_dup2 dL_cough_54 rfl rfl ?_
    refine l_ld (a := 220) (i := 9) 206 dL_cough_55 (by decide) rfl hz (rfl) (by decide) rfl rfl ?_
    refine j_iconst (v := 1) dL_cough_56 (by decide) ?_
    refine j_iadd dL_cough_57 ?_
    refine l_st (a := 220) (i := 9) 206 dL_cough_58 (by decide) rfl hz (rfl) (by decide) rfl ?_
    refine j_iload dL_cough_59 rfl ?_
    refine j_if_ne dL_cough_61 (tgt := 66) rfl (fun c9 => absurd c9 (fun q => q rfl)) (fun _ => ?_)
    refine j_iconst (v := 0) dL_cough_64 (by decide) ?_
    refine j_iret dL_cough_65 rfl (rfl) ?_
    exact hQ _ _ (z_vr (if_neg c1))
theorem l_h1 {T : Nat → Int32} {j : Nat} (hj : j < 12) (t1 t2 t3 : Nat → Int32) (e1 : upd T (11 * j + 2) (T (11 * j + 2) - T 151) = t1) (e2 : upd t1 (11 * j + 8) (t1 (11 * j + 8) + 1) = t2) (e3 : upd t2 (11 * j + 9) (t2 (11 * j + 9) + t2 151) = t3) : upd t3 205 (t3 205 + t3 151) = aH1 T j := by
  have e : ∀ a b : Int32, a - b = a + (0 - b) := fun a b => by rw [Int32.zero_sub, Int32.sub_eq_add_neg]
  rw [e] at e1
  have h : upd (upd t1 (11 * j + 9) (t1 (11 * j + 9) + t1 151)) (11 * j + 8) (upd t1 (11 * j + 9) (t1 (11 * j + 9) + t1 151) (11 * j + 8) + 1) = t3 := by
    rw [← e3, ← e2, pk_un (k := 11 * j + 9) (j := 11 * j + 8) (by omega), pk_un (k := 11 * j + 8) (j := 11 * j + 9) (by omega), pk_un (k := 11 * j + 8) (j := 151) (by omega)]
    exact upd_sw (by omega)
  unfold aH1
  rw [e1]
  show _ = upd (upd (upd t1 (11 * j + 9) (t1 (11 * j + 9) + t1 151)) (11 * j + 8) (upd t1 (11 * j + 9) (t1 (11 * j + 9) + t1 151) (11 * j + 8) + 1)) 205 (upd (upd t1 (11 * j + 9) (t1 (11 * j + 9) + t1 151)) (11 * j + 8) (upd t1 (11 * j + 9) (t1 (11 * j + 9) + t1 151) (11 * j + 8) + 1) 205 + upd (upd t1 (11 * j + 9) (t1 (11 * j + 9) + t1 151)) (11 * j + 8) (upd t1 (11 * j + 9) (t1 (11 * j + 9) + t1 151) (11 * j + 8) + 1) 151)
  rw [h]
theorem aH1_hi {T : Nat → Int32} {j i : Nat} (hj : j < 12) (h1 : 132 ≤ i) (h2 : i ≠ 205) : aH1 T j i = T i := by
  unfold aH1
  rw [pk_un h2, pk_un (by omega), pk_un (by omega), pk_un (by omega)]
set_option maxRecDepth 4000 in
set_option maxHeartbeats 2000000 in
theorem s_beat_h {g : zH} {T : Nat → Int32} {nz : Nat} (hz : 6 ≤ nz) (hW : aWk T) (h6 : T 156 = 0 ∨ T 156 = 1) {x : Nat} {y5 y7 : Value} {X : Nat × (Nat → Int32)} {Q : zQt} (hQ : ∀ r h', r = none ∧ h' = gV g (aHam T) → Q r (215 + nz) h') : zJ X mL_beat (215 + nz) 122 [.ref 215, .ref 216, .ref 218, .ref 219, .ref 220, y5, .int (nI x), y7] [] (215 + nz) (gV g T) Q := by
  obtain ⟨hj, e0 | e1⟩ := hW
  · skip
    refine j_aload_n dL_beat_122 rfl ?_
    refine j_iconst (v := 3) dL_beat_123 (by decide) ?_
    refine l_ld (a := 218) (i := 3) (v := 0) 152 dL_beat_124 (by decide) rfl hz (rfl) (by decide) rfl (e0) ?_
    refine j_iconst (v := 1) dL_beat_125 (by decide) ?_
    refine j_isub dL_beat_126 ?_
    refine j_istore dL_beat_127 (by decide) ?_
    refine j_iload dL_beat_129 rfl ?_
    refine j_if_lt dL_beat_131 (tgt := 192) rfl (fun _ => ?_) (fun c1 => absurd (show (0 : Int32) - 1 < 0 by decide) c1)
    refine j_aload_n dL_beat_192 rfl ?_
    refine j_aload_n dL_beat_193 rfl ?_
    refine j_aload dL_beat_194 rfl ?_
    refine j_iload dL_beat_196 rfl ?_
    refine j_if_ge dL_beat_198 (tgt := 205) rfl (fun c2 => absurd c2 (show ¬ (0 : Int32) ≤ 0 - 1 by decide)) (fun _ => ?_)
    refine j_iconst (v := 2) dL_beat_201 (by decide) ?_
    refine j_goto dL_beat_202 (tgt := 218) rfl ?_
    refine k_callS4v dL_beat_218 vL_beat_19 (s_gone hz (how := 2) (by omega)) rfl rfl rfl rfl (Nat.le_of_ble_eq_true rfl) ⟨rfl, rfl⟩ rfl ?_
    rintro _ ⟨-, rfl⟩
    refine j_vret dL_beat_221 rfl ?_
    exact hQ _ _ (z_vn (if_pos e0))
  · have hne : ¬ T 152 = 0 := by rw [e1]; exact nI_ne0 (by omega) (by omega)
    refine j_aload_n dL_beat_122 rfl ?_
    refine j_iconst (v := 3) dL_beat_123 (by decide) ?_
    refine l_ld (a := 218) (i := 3) (v := nI (aWho T + 1)) 152 dL_beat_124 (by decide) rfl hz (rfl) (by decide) rfl (e1) ?_
    refine j_iconst (v := 1) dL_beat_125 (by decide) ?_
    refine j_isub dL_beat_126 ?_
    rw [show nI (aWho T + 1) - 1 = nI (aWho T) from nI_pred _]
    refine j_istore dL_beat_127 (by decide) ?_
    refine j_iload dL_beat_129 rfl ?_
    refine j_if_lt dL_beat_131 (tgt := 192) rfl (fun c1 => absurd c1 (show ¬ nI (aWho T) < 0 from nI_pos (by omega))) (fun _ => ?_)
    refine j_aload_n dL_beat_134 rfl ?_
    refine j_bipush (v := 7) dL_beat_135 (by decide) ?_
    refine l_ld (a := 218) (i := 7) 156 dL_beat_137 (by decide) rfl hz (rfl) (by decide) rfl rfl ?_
    refine j_if_ne dL_beat_138 (tgt := 192) rfl (fun c2 => ?_) (fun c2 => ?_)
    · skip
      refine j_aload_n dL_beat_192 rfl ?_
      refine j_aload_n dL_beat_193 rfl ?_
      refine j_aload dL_beat_194 rfl ?_
      refine j_iload dL_beat_196 rfl ?_
      refine j_if_ge dL_beat_198 (tgt := 205) rfl (fun _ => ?_) (fun c3 => absurd (show 0 ≤ nI (aWho T) from nI_pos' (by omega)) c3)
      refine j_aload_n dL_beat_205 rfl ?_
      refine j_bipush (v := 7) dL_beat_206 (by decide) ?_
      refine l_ld (a := 218) (i := 7) (v := T 156) 156 dL_beat_208 (by decide) rfl hz (rfl) (by decide) rfl (rfl) ?_
      refine j_iconst (v := 1) dL_beat_209 (by decide) ?_
      refine j_icmp_ne dL_beat_210 (tgt := 217) rfl (fun c4 => absurd c4 (fun q => q (h6.resolve_left c2))) (fun _ => ?_)
      refine j_iconst (v := 3) dL_beat_213 (by decide) ?_
      refine j_goto dL_beat_214 (tgt := 218) rfl ?_
      refine k_callS4v dL_beat_218 vL_beat_19 (s_gone hz (how := 3) (by omega)) rfl rfl rfl rfl (Nat.le_of_ble_eq_true rfl) ⟨rfl, rfl⟩ rfl ?_
      rintro _ ⟨-, rfl⟩
      refine j_vret dL_beat_221 rfl ?_
      exact hQ _ _ (z_vn ((if_neg hne).trans (if_pos (h6.resolve_left c2))))
    · refine j_aload_n dL_beat_141 rfl ?_
      refine j_iconst (v := 5) dL_beat_142 (by decide) ?_
      refine j_iload dL_beat_143 rfl ?_
      refine j_imul dL_beat_145 ?_
      refine j_iconst (v := 2) dL_beat_146 (by decide) ?_
      refine j_iadd dL_beat_147 ?_
      refine j_dup2 dL_beat_148 rfl rfl ?_
      refine l_ld (a := 215) (i := ((5 * (aWho T)) + 2)) (11 * (aWho T) + 2) dL_beat_149 (by decide) rfl hz (by first | rfl | (simp only [z_n, pk_mul, nI_add]; done) | (simp only [z_n, pk_mul, nI_add]; exact pk_sub (by omega)) | (simp only [z_n, pk_mul, nI_add, pk_sub, *]; done)) (show _ < 60 by omega) (jA (by omega)) rfl ?_
      refine j_aload_n dL_beat_150 rfl ?_
      refine j_iconst (v := 2) dL_beat_151 (by decide) ?_
      refine l_ld (a := 218) (i := 2) 151 dL_beat_152 (by decide) rfl hz (rfl) (by decide) rfl rfl ?_
      refine j_isub dL_beat_153 ?_
      refine l_st (a := 215) (i := ((5 * (aWho T)) + 2)) (11 * (aWho T) + 2) dL_beat_154 (by decide) rfl hz (by first | rfl | (simp only [z_n, pk_mul, nI_add]; done) | (simp only [z_n, pk_mul, nI_add]; exact pk_sub (by omega)) | (simp only [z_n, pk_mul, nI_add, pk_sub, *]; done)) (show _ < 60 by omega) (jA (by omega)) ?_
      refine j_aload_n dL_beat_155 rfl ?_
      refine j_iconst (v := 5) dL_beat_156 (by decide) ?_
      refine j_iload dL_beat_157 rfl ?_
      refine j_imul dL_beat_159 ?_
      refine j_iconst (v := 3) dL_beat_160 (by decide) ?_
      refine j_iadd dL_beat_161 ?_
      refine j_dup2 dL_beat_162 rfl rfl ?_
      refine l_ld (a := 216) (i := ((5 * (aWho T)) + 3)) (11 * (aWho T) + 8) dL_beat_163 (by decide) rfl hz (by first | rfl | (simp only [z_n, pk_mul, nI_add]; done) | (simp only [z_n, pk_mul, nI_add]; exact pk_sub (by omega)) | (simp only [z_n, pk_mul, nI_add, pk_sub, *]; done)) (show _ < 60 by omega) (jD (by decide) rfl) rfl ?_
      refine j_iconst (v := 1) dL_beat_164 (by decide) ?_
      refine j_iadd dL_beat_165 ?_
      refine l_st (a := 216) (i := ((5 * (aWho T)) + 3)) (11 * (aWho T) + 8) dL_beat_166 (by decide) rfl hz (by first | rfl | (simp only [z_n, pk_mul, nI_add]; done) | (simp only [z_n, pk_mul, nI_add]; exact pk_sub (by omega)) | (simp only [z_n, pk_mul, nI_add, pk_sub, *]; done)) (show _ < 60 by omega) (jD (by decide) rfl) ?_
      refine j_aload_n dL_beat_167 rfl ?_
      refine j_iconst (v := 5) dL_beat_168 (by decide) ?_
      refine j_iload dL_beat_169 rfl ?_
      refine j_imul dL_beat_171 ?_
      refine j_iconst (v := 4) dL_beat_172 (by decide) ?_
      refine j_iadd dL_beat_173 ?_
      refine j_dup2 dL_beat_174 rfl rfl ?_
      refine l_ld (a := 216) (i := ((5 * (aWho T)) + 4)) (11 * (aWho T) + 9) dL_beat_175 (by decide) rfl hz (by first | rfl | (simp only [z_n, pk_mul, nI_add]; done) | (simp only [z_n, pk_mul, nI_add]; exact pk_sub (by omega)) | (simp only [z_n, pk_mul, nI_add, pk_sub, *]; done)) (show _ < 60 by omega) (jD (by decide) rfl) rfl ?_
      refine j_aload_n dL_beat_176 rfl ?_
      refine j_iconst (v := 2) dL_beat_177 (by decide) ?_
      refine l_ld (a := 218) (i := 2) 151 dL_beat_178 (by decide) rfl hz (rfl) (by decide) rfl rfl ?_
      refine j_iadd dL_beat_179 ?_
      refine l_st (a := 216) (i := ((5 * (aWho T)) + 4)) (11 * (aWho T) + 9) dL_beat_180 (by decide) rfl hz (by first | rfl | (simp only [z_n, pk_mul, nI_add]; done) | (simp only [z_n, pk_mul, nI_add]; exact pk_sub (by omega)) | (simp only [z_n, pk_mul, nI_add, pk_sub, *]; done)) (show _ < 60 by omega) (jD (by decide) rfl) ?_
      refine j_aload dL_beat_181 rfl ?_
      refine j_bipush (v := 8) dL_beat_183 (by decide) ?_
      refine j_dup2 dL_beat_185 rfl rfl ?_
      refine l_ld (a := 220) (i := 8) 205 dL_beat_186 (by decide) rfl hz (rfl) (by decide) rfl rfl ?_
      refine j_aload_n dL_beat_187 rfl ?_
      refine j_iconst (v := 2) dL_beat_188 (by decide) ?_
      refine l_ld (a := 218) (i := 2) 151 dL_beat_189 (by decide) rfl hz (rfl) (by decide) rfl rfl ?_
      refine j_iadd dL_beat_190 ?_
      refine l_st (a := 220) (i := 8) 205 dL_beat_191 (by decide) rfl hz (rfl) (by decide) rfl ?_
      refine z_to (congrArg (gV g) (l_h1 hj _ _ _ rfl rfl rfl)) ?_
      refine j_aload_n dL_beat_192 rfl ?_
      refine j_aload_n dL_beat_193 rfl ?_
      refine j_aload dL_beat_194 rfl ?_
      refine j_iload dL_beat_196 rfl ?_
      refine j_if_ge dL_beat_198 (tgt := 205) rfl (fun _ => ?_) (fun c5 => absurd (show 0 ≤ nI (aWho T) from nI_pos' (by omega)) c5)
      refine j_aload_n dL_beat_205 rfl ?_
      refine j_bipush (v := 7) dL_beat_206 (by decide) ?_
      refine l_ld (a := 218) (i := 7) (v := T 156) 156 dL_beat_208 (by decide) rfl hz (rfl) (by decide) rfl (aH1_hi hj (by omega) (by omega)) ?_
      refine j_iconst (v := 1) dL_beat_209 (by decide) ?_
      refine j_icmp_ne dL_beat_210 (tgt := 217) rfl (fun _ => ?_) (fun c6 => absurd c6 (show ¬ T 156 = 1 by rw [c2]; decide))
      refine j_iconst (v := 0) dL_beat_217 (by decide) ?_
      refine k_callS4v dL_beat_218 vL_beat_19 (s_gone hz (how := 0) (by omega)) rfl rfl rfl rfl (Nat.le_of_ble_eq_true rfl) ⟨rfl, rfl⟩ rfl ?_
      rintro _ ⟨-, rfl⟩
      refine j_vret dL_beat_221 rfl ?_
      exact hQ _ _ (z_vn ((if_neg hne).trans (if_neg (show ¬ T 156 = 1 by rw [c2]; decide))))
theorem aBe_h1 {T T1 T2 : Nat → Int32} (e1 : upd T 198 (T 198 + 1) = T1) (c1 : T1 148 = 1) (c2 : T1 157 = 1) (e2 : upd (upd T1 154 0) 157 0 = T2) (c3 : ¬ T2 154 < T2 214) : aBe T = aHam T2 := by
  subst e1
  subst e2
  exact (if_pos c1).trans ((if_pos c2).trans (if_neg c3))
theorem aBe_h2 {T T1 T2 : Nat → Int32} (e1 : upd T 198 (T 198 + 1) = T1) (c1 : T1 148 = 1) (c2 : ¬ T1 157 = 1) (e2 : upd (upd T1 154 (T1 154 + 1)) 157 0 = T2) (c3 : ¬ T2 154 < T2 214) : aBe T = aHam T2 := by
  subst e1
  subst e2
  exact (if_pos c1).trans ((if_neg c2).trans (if_neg c3))
theorem aBe_r1 {T T1 T2 : Nat → Int32} (e1 : upd T 198 (T 198 + 1) = T1) (c1 : T1 148 = 1) (c2 : T1 157 = 1) (e2 : upd (upd T1 154 0) 157 0 = T2) (c3 : T2 154 < T2 214) : aBe T = T2 := by
  subst e1
  subst e2
  exact (if_pos c1).trans ((if_pos c2).trans (if_pos c3))
theorem aBe_r2 {T T1 T2 : Nat → Int32} (e1 : upd T 198 (T 198 + 1) = T1) (c1 : T1 148 = 1) (c2 : ¬ T1 157 = 1) (e2 : upd (upd T1 154 (T1 154 + 1)) 157 0 = T2) (c3 : T2 154 < T2 214) : aBe T = T2 := by
  subst e1
  subst e2
  exact (if_pos c1).trans ((if_neg c2).trans (if_pos c3))
theorem l_wk {T t : Nat → Int32} (h : aWk T) (e : t 152 = T 152) : aWk t := by
  unfold aWk aWho at h ⊢
  rw [e]
  exact h
set_option maxRecDepth 4000 in
set_option maxHeartbeats 2000000 in
theorem s_beat_tl {g : zH} {T : Nat → Int32} {nz : Nat} (hz : 6 ≤ nz) (hW : aWk T) (h6 : T 156 = 0 ∨ T 156 = 1) {x : Nat} (hx : x ≤ 12000) {y5 y7 : Value} {X : Nat × (Nat → Int32)} {Q : zQt} (hQ : ∀ r h', r = none ∧ h' = gV g (aBe T) → Q r (215 + nz) h') : zJ X mL_beat (215 + nz) 65 [.ref 215, .ref 216, .ref 218, .ref 219, .ref 220, y5, .int (nI x), y7] [] (215 + nz) (gV g T) Q := by
  refine j_aload dL_beat_65 rfl ?_
  refine j_iconst (v := 0) dL_beat_67 (by decide) ?_
  refine j_dup2 dL_beat_68 rfl rfl ?_
  refine l_ld (a := 220) (i := 0) 198 dL_beat_69 (by decide) rfl hz (rfl) (by decide) rfl rfl ?_
  refine j_iconst (v := 1) dL_beat_70 (by decide) ?_
  refine j_iadd dL_beat_71 ?_
  refine l_st (a := 220) (i := 0) 198 dL_beat_72 (by decide) rfl hz (rfl) (by decide) rfl ?_
  refine j_aload_n dL_beat_73 rfl ?_
  refine j_bipush (v := 9) dL_beat_74 (by decide) ?_
  refine l_ld (a := 218) (i := 9) 148 dL_beat_76 (by decide) rfl hz (rfl) (by decide) rfl rfl ?_
  refine j_iconst (v := 1) dL_beat_77 (by decide) ?_
  refine j_icmp_ne dL_beat_78 (tgt := 221) rfl (fun c1 => ?_) (fun c1 => ?_)
  · refine j_vret dL_beat_221 rfl ?_
    exact hQ _ _ (z_vn (if_neg c1))
  · refine j_iload dL_beat_81 rfl ?_
    refine j_if_lt dL_beat_83 (tgt := 221) rfl (fun c2 => absurd c2 (show ¬ nI x < 0 from nI_pos (by omega))) (fun _ => ?_)
    refine j_aload_n dL_beat_86 rfl ?_
    refine j_iconst (v := 5) dL_beat_87 (by decide) ?_
    refine j_aload_n dL_beat_88 rfl ?_
    refine j_bipush (v := 8) dL_beat_89 (by decide) ?_
    refine l_ld (a := 218) (i := 8) 157 dL_beat_91 (by decide) rfl hz (rfl) (by decide) rfl rfl ?_
    refine j_iconst (v := 1) dL_beat_92 (by decide) ?_
    refine j_icmp_ne dL_beat_93 (tgt := 100) rfl (fun c3 => ?_) (fun c3 => ?_)
    · refine j_aload_n dL_beat_100 rfl ?_
      refine j_iconst (v := 5) dL_beat_101 (by decide) ?_
      refine l_ld (a := 218) (i := 5) 154 dL_beat_102 (by decide) rfl hz (rfl) (by decide) rfl rfl ?_
      refine j_iconst (v := 1) dL_beat_103 (by decide) ?_
      refine j_iadd dL_beat_104 ?_
      refine l_st (a := 218) (i := 5) 154 dL_beat_105 (by decide) rfl hz (rfl) (by decide) rfl ?_
      refine j_aload_n dL_beat_106 rfl ?_
      refine j_bipush (v := 8) dL_beat_107 (by decide) ?_
      refine j_iconst (v := 0) dL_beat_109 (by decide) ?_
      refine l_st (a := 218) (i := 8) 157 dL_beat_110 (by decide) rfl hz (rfl) (by decide) rfl ?_
      refine j_aload_n dL_beat_111 rfl ?_
      refine j_iconst (v := 5) dL_beat_112 (by decide) ?_
      refine l_ld (a := 218) (i := 5) 154 dL_beat_113 (by decide) rfl hz (rfl) (by decide) rfl rfl ?_
      refine j_aload dL_beat_114 rfl ?_
      refine j_bipush (v := 17) dL_beat_116 (by decide) ?_
      refine l_ld (a := 220) (i := 17) 214 dL_beat_118 (by decide) rfl hz (rfl) (by decide) rfl rfl ?_
      refine j_icmp_lt dL_beat_119 (tgt := 221) rfl (fun c4 => ?_) (fun c4 => ?_)
      · refine j_vret dL_beat_221 rfl ?_
        exact hQ _ _ (z_vn (aBe_r2 (T := T) rfl c1 c3 rfl c4))
      · exact s_beat_h hz (l_wk hW (by rw [pk_un (by decide), pk_un (by decide), pk_un (by decide)])) (by rw [pk_un (by decide), pk_un (by decide), pk_un (by decide)]; exact h6) (fun r h' q => hQ r h' ⟨q.1, q.2.trans (congrArg (gV g) (aBe_h2 (T := T) rfl c1 c3 rfl c4).symm)⟩)
    · refine j_iconst (v := 0) dL_beat_96 (by decide) ?_
      refine j_goto dL_beat_97 (tgt := 105) rfl ?_
      refine l_st (a := 218) (i := 5) 154 dL_beat_105 (by decide) rfl hz (rfl) (by decide) rfl ?_
      refine j_aload_n dL_beat_106 rfl ?_
      refine j_bipush (v := 8) dL_beat_107 (by decide) ?_
      refine j_iconst (v := 0) dL_beat_109 (by decide) ?_
      refine l_st (a := 218) (i := 8) 157 dL_beat_110 (by decide) rfl hz (rfl) (by decide) rfl ?_
      refine j_aload_n dL_beat_111 rfl ?_
      refine j_iconst (v := 5) dL_beat_112 (by decide) ?_
      refine l_ld (a := 218) (i := 5) 154 dL_beat_113 (by decide) rfl hz (rfl) (by decide) rfl rfl ?_
      refine j_aload dL_beat_114 rfl ?_
      refine j_bipush (v := 17) dL_beat_116 (by decide) ?_
      refine l_ld (a := 220) (i := 17) 214 dL_beat_118 (by decide) rfl hz (rfl) (by decide) rfl rfl ?_
      refine j_icmp_lt dL_beat_119 (tgt := 221) rfl (fun c5 => ?_) (fun c5 => ?_)
      · refine j_vret dL_beat_221 rfl ?_
        exact hQ _ _ (z_vn (aBe_r1 (T := T) rfl c1 c3 rfl c5))
      · exact s_beat_h hz (l_wk hW (by rw [pk_un (by decide), pk_un (by decide), pk_un (by decide)])) (by rw [pk_un (by decide), pk_un (by decide), pk_un (by decide)]; exact h6) (fun r h' q => hQ r h' ⟨q.1, q.2.trans (congrArg (gV g) (aBe_h1 (T := T) rfl c1 c3 rfl c5).symm)⟩)
theorem l_bt0 {s : Nat → Int32} {n k : Nat} (c : aNext s k = 0) : aBt (n + 1) k 1 s = aBt n (k + 1) 1 s := (if_neg (by decide)).trans (if_pos c)
theorem l_bt1 {s : Nat → Int32} {n k : Nat} (c : ¬ aNext s k = 0) (h : ¬ (aCgh s k 1).1 < 0) : aBt (n + 1) k 1 s = aBt n (k + 1) 1 (aCgh s k 1).2 := (if_neg (by decide)).trans ((if_neg c).trans (if_neg h))
theorem l_156 {s : Nat → Int32} {k : Nat} {c : Int32} (hk : k < 12) : (aCgh s k c).2 156 = c ∨ (aCgh s k c).2 156 = s 156 := by
  unfold aCgh
  split
  · left
    rw [aC5_n (by omega) (by omega) (by omega) (by omega) (by omega) (by omega)]
    show upd (upd (upd (upd (upd _ 156 c) 157 1) 155 _) 207 _) (11 * k + 7) _ 156 = c
    rw [pk_un (by omega), pk_un (by omega), pk_un (by omega), pk_un (by omega), pk_us]
  · right
    show aC1 s k 156 = s 156
    exact aC1_n (by omega) (by omega)
theorem l_156bt {N W : Nat} : ∀ (n k : Nat) (u : Int32) (s : Nat → Int32), k + n ≤ 12 → (s 156 = 0 ∨ s 156 = 1) → (aBt n k u s 156 = 0 ∨ aBt n k u s 156 = 1)
  | 0, _, _, _, _, h => h
  | n + 1, k, u, s, hk, h => by
    have h2 : (aCgh s k 1).2 156 = 0 ∨ (aCgh s k 1).2 156 = 1 := by
      rcases l_156 (s := s) (k := k) (c := 1) (by omega) with e | e
      · exact Or.inr e
      · rw [e]
        exact h
    unfold aBt
    split
    · exact h
    · split
      · exact l_156bt (N := N) (W := W) n (k + 1) u s (by omega) h
      · split
        · exact l_156bt (N := N) (W := W) n (k + 1) 0 _ (by omega) h2
        · exact l_156bt (N := N) (W := W) n (k + 1) 1 _ (by omega) h2
set_option maxRecDepth 4000 in
set_option maxHeartbeats 2000000 in
theorem s_beat_l1 {g : zH} {nz : Nat} (hz : 6 ≤ nz) {N W : Nat} {X : Nat × (Nat → Int32)} {Q : zQt} : ∀ (n k x : Nat) (s : Nat → Int32), k + n = N → aIa s N W → x ≤ 999 * k → (∀ x', x' ≤ 12000 → ∀ y, zJ X mL_beat (215 + nz) 65 [.ref 215, .ref 216, .ref 218, .ref 219, .ref 220, .int 1, .int (nI x'), .int (nI y)] [] (215 + nz) (gV g (aBt n k 1 s)) Q) → zJ X mL_beat (215 + nz) 12 [.ref 215, .ref 216, .ref 218, .ref 219, .ref 220, .int 1, .int (nI x), .int (nI k)] [] (215 + nz) (gV g s) Q := by
  intro n
  induction n with
  | zero =>
    intro k x s hk hI hx hQ
    have hN := hI.1.2
    refine j_iload dL_beat_12 rfl ?_
    refine j_aload dL_beat_14 rfl ?_
    refine j_iconst (v := 1) dL_beat_16 (by decide) ?_
    refine l_ld (a := 220) (i := 1) (v := nI N) 199 dL_beat_17 (by decide) rfl hz (rfl) (by decide) rfl (hI.1.1) ?_
    refine j_icmp_ge dL_beat_18 (tgt := 65) rfl (fun _ => ?_) (fun c1 => absurd (show nI N ≤ nI k from nI_le (by omega) (by omega)) c1)
    exact hQ x (by omega) k
  | succ n ih =>
    intro k x s hk hI hx hQ
    have hN := hI.1.2
    have hok := (aIa_ok hI).2.2.1
    obtain ⟨hI2, a, ha, ea⟩ := aIa_cgh (c := 1) hI (show k < N by omega)
    refine j_iload dL_beat_12 rfl ?_
    refine j_aload dL_beat_14 rfl ?_
    refine j_iconst (v := 1) dL_beat_16 (by decide) ?_
    refine l_ld (a := 220) (i := 1) (v := nI N) 199 dL_beat_17 (by decide) rfl hz (rfl) (by decide) rfl (hI.1.1) ?_
    refine j_icmp_ge dL_beat_18 (tgt := 65) rfl (fun c1 => absurd c1 (show ¬ nI N ≤ nI k from nI_ge (by omega) (by omega))) (fun _ => ?_)
    refine j_iload dL_beat_21 rfl ?_
    refine j_iload dL_beat_23 rfl ?_
    refine j_iconst (v := 1) dL_beat_25 (by decide) ?_
    refine j_icmp_ne dL_beat_26 (tgt := 55) rfl (fun c2 => absurd c2 (fun q => q rfl)) (fun _ => ?_)
    refine j_aload_n dL_beat_29 rfl ?_
    refine j_aload dL_beat_30 rfl ?_
    refine j_iload dL_beat_32 rfl ?_
    refine k_callS3i dL_beat_34 vL_beat_23 (s_next hz (k := k) (by omega) (hok k (by omega))) rfl rfl rfl (Nat.le_of_ble_eq_true rfl) ⟨rfl, rfl⟩ rfl ?_
    rintro _ _ ⟨⟨⟩, rfl⟩
    refine j_if_eq dL_beat_37 (tgt := 55) rfl (fun c3 => ?_) (fun c3 => ?_)
    · refine j_iconst (v := 0) dL_beat_55 (by decide) ?_
      skip
      refine j_iadd dL_beat_56 ?_
      rw [show nI x + 0 = nI (x + 0) from nI_add x 0]
      refine j_istore dL_beat_57 (by decide) ?_
      refine j_iinc (v := nI (k + 1)) dL_beat_59 rfl z_inc (by decide) ?_
      refine j_goto dL_beat_62 (tgt := 12) rfl ?_
      exact ih (k + 1) (x + 0) s (by omega) hI (by omega) (fun x' hx' y => z_to (congrArg (gV g) (l_bt0 c3).symm) (hQ x' hx' y))
    · refine j_aload_n dL_beat_40 rfl ?_
      refine j_aload_n dL_beat_41 rfl ?_
      refine j_aload_n dL_beat_42 rfl ?_
      refine j_aload_n dL_beat_43 rfl ?_
      refine j_aload dL_beat_44 rfl ?_
      refine j_iload dL_beat_46 rfl ?_
      refine j_iconst (v := 1) dL_beat_48 (by decide) ?_
      refine k_callS7i dL_beat_49 vL_beat_27 (s_cough hz hI (k := k) (by omega) (c := 1)) rfl rfl rfl rfl rfl rfl rfl (Nat.le_of_ble_eq_true rfl) ⟨rfl, rfl⟩ rfl ?_
      rintro _ _ ⟨⟨⟩, rfl⟩
      refine j_goto dL_beat_52 (tgt := 56) rfl ?_
      rw [ea]
      refine j_iadd dL_beat_56 ?_
      rw [nI_add]
      refine j_istore dL_beat_57 (by decide) ?_
      refine j_iinc (v := nI (k + 1)) dL_beat_59 rfl z_inc (by decide) ?_
      refine j_goto dL_beat_62 (tgt := 12) rfl ?_
      exact ih (k + 1) (x + a) _ (by omega) hI2 (by omega) (fun x' hx' y => z_to (congrArg (gV g) (l_bt1 c3 (by rw [ea]; exact nI_pos (by omega))).symm) (hQ x' hx' y))
set_option maxRecDepth 4000 in
set_option maxHeartbeats 2000000 in
theorem s_beat_l0 {g : zH} {nz : Nat} (hz : 6 ≤ nz) {N W : Nat} {s : Nat → Int32} (hI : aIa s N W) {u : Int32} (hu : ¬ u = 1) {X : Nat × (Nat → Int32)} {Q : zQt} (hQ : ∀ y, zJ X mL_beat (215 + nz) 65 [.ref 215, .ref 216, .ref 218, .ref 219, .ref 220, .int u, .int (nI 0), .int (nI y)] [] (215 + nz) (gV g s) Q) : ∀ (n k : Nat), k + n = N → zJ X mL_beat (215 + nz) 12 [.ref 215, .ref 216, .ref 218, .ref 219, .ref 220, .int u, .int (nI 0), .int (nI k)] [] (215 + nz) (gV g s) Q := by
  have hN := hI.1.2
  intro n
  induction n with
  | zero =>
    intro k hk
    refine j_iload dL_beat_12 rfl ?_
    refine j_aload dL_beat_14 rfl ?_
    refine j_iconst (v := 1) dL_beat_16 (by decide) ?_
    refine l_ld (a := 220) (i := 1) (v := nI N) 199 dL_beat_17 (by decide) rfl hz (rfl) (by decide) rfl (hI.1.1) ?_
    refine j_icmp_ge dL_beat_18 (tgt := 65) rfl (fun _ => ?_) (fun c1 => absurd (show nI N ≤ nI k from nI_le (by omega) (by omega)) c1)
    exact hQ k
  | succ n ih =>
    intro k hk
    refine j_iload dL_beat_12 rfl ?_
    refine j_aload dL_beat_14 rfl ?_
    refine j_iconst (v := 1) dL_beat_16 (by decide) ?_
    refine l_ld (a := 220) (i := 1) (v := nI N) 199 dL_beat_17 (by decide) rfl hz (rfl) (by decide) rfl (hI.1.1) ?_
    refine j_icmp_ge dL_beat_18 (tgt := 65) rfl (fun c1 => absurd c1 (show ¬ nI N ≤ nI k from nI_ge (by omega) (by omega))) (fun _ => ?_)
    refine j_iload dL_beat_21 rfl ?_
    refine j_iload dL_beat_23 rfl ?_
    refine j_iconst (v := 1) dL_beat_25 (by decide) ?_
    refine j_icmp_ne dL_beat_26 (tgt := 55) rfl (fun _ => ?_) (fun c2 => absurd c2 hu)
    refine j_iconst (v := 0) dL_beat_55 (by decide) ?_
    refine j_iadd dL_beat_56 ?_
    rw [show nI 0 + 0 = nI 0 by decide]
    refine j_istore dL_beat_57 (by decide) ?_
    refine j_iinc (v := nI (k + 1)) dL_beat_59 rfl z_inc (by decide) ?_
    refine j_goto dL_beat_62 (tgt := 12) rfl ?_
    exact ih (k + 1) (by omega)
set_option maxRecDepth 4000 in
set_option maxHeartbeats 2000000 in
theorem s_beat {g : zH} {w : Nat → Int32} {nz : Nat} (hz : 6 ≤ nz) {N W : Nat} (hI : aIa w N W) (h6 : w 156 = 0 ∨ w 156 = 1) : zCT mL_beat [.ref 215, .ref 216, .ref 218, .ref 219, .ref 220] (215 + nz) (gV g w) (215 + nz) (fun r h' => r = none ∧ h' = gV g (aBeat w N)) := by
  intro X Q hQ
  show zJ X mL_beat (215 + nz) 0 [.ref 215, .ref 216, .ref 218, .ref 219, .ref 220, .null, .null, .null] [] (215 + nz) (gV g w) Q
  have hN := hI.1.2
  refine j_aload_n dL_beat_0 rfl ?_
  refine j_bipush (v := 9) dL_beat_1 (by decide) ?_
  refine l_ld (a := 218) (i := 9) 148 dL_beat_3 (by decide) rfl hz (rfl) (by decide) rfl rfl ?_
  refine j_istore dL_beat_4 (by decide) ?_
  refine j_iconst (v := 0) dL_beat_6 (by decide) ?_
  refine j_istore dL_beat_7 (by decide) ?_
  refine j_iconst (v := 0) dL_beat_9 (by decide) ?_
  refine j_istore dL_beat_10 (by decide) ?_
  by_cases hu : w 148 = 1
  · rw [hu]
    refine s_beat_l1 hz N 0 0 w (Nat.zero_add N) hI (Nat.zero_le _) (fun x hx y => ?_)
    have h6' := l_156bt (N := N) (W := W) N 0 1 w (by omega) h6
    have hW' := (aIa_bt N 0 1 w (by omega) hI).2.2.2.2.2.2.1.1
    exact s_beat_tl hz hW' h6' hx (fun r h' q => hQ r h' ⟨q.1, q.2.trans (congrArg (gV g) (if_pos hu).symm)⟩)
  · refine s_beat_l0 hz hI hu (fun y => ?_) N 0 (Nat.zero_add N)
    exact s_beat_tl hz hI.2.2.2.2.2.2.1.1 h6 (Nat.zero_le _) (fun r h' q => hQ r h' ⟨q.1, q.2.trans (congrArg (gV g) ((if_neg hu).trans (congrArg aBe (aBt_0 N 0 w))).symm)⟩)
end L2
