section L4
variable {s w : Nat → Int32} {N W k : Nat}
/-- a sum over the bidders -/
def lS (s : Nat → Int32) (c : Nat) : Nat → Nat → Int32 → Int32
  | 0, _, x => x
  | n + 1, k, x => lS s c n (k + 1) (x + s (11 * k + c))
theorem i_sub4 (x y p q : Int32) : (x - y) + (p - q) = (x + p) - (y + q) := by grind
theorem aBp_lS : ∀ (n k : Nat) (x y : Int32), aBp s n k (x - y) = lS s 10 n k x - lS s 2 n k y
  | 0, _, _, _ => rfl
  | n + 1, k, x, y => by
    show aBp s n (k + 1) ((x - y) + (s (11 * k + 10) - s (11 * k + 2))) = lS s 10 n (k + 1) (x + s (11 * k + 10)) - lS s 2 n (k + 1) (y + s (11 * k + 2))
    rw [i_sub4]
    exact aBp_lS n (k + 1) _ _
theorem lS_nat {c : Nat} : ∀ (n k : Nat), (∀ i, i < k + n → aR (s (11 * i + c)) 0 999) → lS s c n k (nI (aSm s c k)) = nI (aSm s c (k + n))
  | 0, _, _ => rfl
  | n + 1, k, h => by
    obtain ⟨m, -, h1, h2⟩ := h k (by omega)
    have e : nI (aSm s c k) + s (11 * k + c) = nI (aSm s c (k + 1)) := by
      show _ = nI (aSm s c k + (s (11 * k + c)).toNatClampNeg)
      rw [h2, nI_clamp (by omega), nI_add]
    show lS s c n (k + 1) (nI (aSm s c k) + s (11 * k + c)) = _
    rw [e, show k + (n + 1) = k + 1 + n by omega]
    exact lS_nat n (k + 1) (fun i hi => h i (by omega))
theorem l_acc (hM : aM w) (h5 : w 215 = nI (aSm w 10 (aNn w))) : w 215 - lS w 2 (aNn w) 0 0 = w 205 ∧ aBp w (aNn w) 0 0 = w 205 := by
  obtain ⟨⟨hI, hD, -, ⟨a, b, h1, h2, h3, h4⟩, h10⟩, -⟩ := hM
  have hN := hI.1.2
  have e2 : lS w 2 (aNn w) 0 0 = nI (aSm w 2 (aNn w)) := by
    have := lS_nat (s := w) (c := 2) (aNn w) 0 (fun i hi => (hI.2.2.2.1 i (by omega)).2.2.1)
    rw [Nat.zero_add] at this
    exact this
  have e10 : lS w 10 (aNn w) 0 0 = nI (aSm w 10 (aNn w)) := by
    have := lS_nat (s := w) (c := 10) (aNn w) 0 (fun i hi => h10 i (by omega))
    rw [Nat.zero_add] at this
    exact this
  have e : nI (aSm w 10 (aNn w)) - nI (aSm w 2 (aNn w)) = w 205 := by
    rw [pk_sub (by omega), h2, show aSm w 10 (aNn w) - aSm w 2 (aNn w) = b by omega]
  refine ⟨by rw [h5, e2]; exact e, ?_⟩
  have e0 := aBp_lS (s := w) (aNn w) 0 0 0
  rw [show (0 : Int32) - 0 = 0 by decide, e10, e2] at e0
  rw [e0]
  exact e
theorem lIs_o : ∀ N, N < 13 → aIn (nI N) 0 (nI N - 1) = 0 := by decide +kernel
theorem lIs_m : ∀ N, N < 13 → aIn (-1) 0 (nI N - 1) = 0 := by decide +kernel
theorem lOut (hn : w 199 = nI N) (hN : N ≤ 12) : aIs w (nI N) = 0 := by
  unfold aIs
  rw [hn]
  exact lIs_o N (by omega)
theorem lOutm (hn : w 199 = nI N) (hN : N ≤ 12) : aIs w (-1) = 0 := by
  unfold aIs
  rw [hn]
  exact lIs_m N (by omega)
theorem lBof (hn : w 199 = nI N) (hN : N ≤ 12) (hk : k < N) (x : Int32) : aBof w (nI k) x = if aIn x 0 10 = 0 then -1000001 else if 6 ≤ x then (if x = 6 then 100 + aLoud w k else w (11 * k + (x.toNatClampNeg - 1))) else w (11 * k + x.toNatClampNeg) := by
  unfold aBof
  rw [if_neg (by rw [aIs_of hn hN hk]; decide), nI_clamp (by omega)]
theorem lBof_11 (hn : w 199 = nI N) (hN : N ≤ 12) (hk : k < N) : aBof w (nI k) 11 = -1000001 := (lBof hn hN hk 11).trans (if_pos (by decide))
theorem lBof_66 (hn : w 199 = nI N) (hN : N ≤ 12) (hk : k < N) : aBof w (nI k) 6 = 100 + aLoud w k := (lBof hn hN hk 6).trans ((if_neg (by decide)).trans ((if_pos (by decide)).trans (if_pos rfl)))
theorem lWhy (hn : w 199 = nI N) (hN : N ≤ 12) (hk : k < N) : aWhy w (nI k) = aBar w k := by
  unfold aWhy
  rw [if_neg (by rw [aIs_of hn hN hk]; decide), nI_clamp (by omega)]
theorem lSeat1 : ∀ p, p < 6 → ∀ q, q < 8 → aSeat (nI p) (nI q) = 1 := by decide +kernel
theorem lFind (hI : aIa w N W) (hk : k < N) : aFind w (w (11 * k + 0)) (w (11 * k + 1)) N 0 = nI k := by
  have hN := hI.1.2
  rcases aFind_hit (s := w) (r := w (11 * k + 0)) (c := w (11 * k + 1)) N 0 (by omega) with h | ⟨j, h1, h2, h3, h4, h5⟩
  · exact absurd ⟨rfl, rfl⟩ (aFind_neg N 0 (by omega) (by rw [h]; decide) k (Nat.zero_le k) (by omega))
  · have hu := hI.2.2.2.2.1
    rcases Nat.lt_trichotomy j k with q | q | q
    · exact absurd ⟨h4, h5⟩ (hu j k q hk)
    · rw [h3, q]
    · exact absurd ⟨h4.symm, h5.symm⟩ (hu k j q (by omega))
theorem lAt (hI : aIa w N W) (hk : k < N) : aAt w N (w (11 * k + 0)) (w (11 * k + 1)) = nI k := by
  have hN := hI.1.2
  obtain ⟨p, -, p2, p3⟩ := (hI.2.2.2.1 k (by omega)).1
  obtain ⟨q, -, q2, q3⟩ := (hI.2.2.2.1 k (by omega)).2.1
  unfold aAt
  rw [lFind hI hk, p3, q3, lSeat1 p (by omega) q (by omega)]
  exact if_neg (by decide)
theorem l_or0 {a : Nat} : nI a ||| 0 = nI a := by
  rw [show (0 : Int32) = nI 0 from rfl, z_or, Nat.or_zero]
theorem lBof_0 (hn : w 199 = nI N) (hN : N ≤ 12) (hk : k < N) : aBof w (nI k) 0 = w (11 * k + 0) := (lBof hn hN hk 0).trans ((if_neg (by decide)).trans (if_neg (by decide)))
theorem lBof_1 (hn : w 199 = nI N) (hN : N ≤ 12) (hk : k < N) : aBof w (nI k) 1 = w (11 * k + 1) := (lBof hn hN hk 1).trans ((if_neg (by decide)).trans (if_neg (by decide)))
theorem lBof_2 (hn : w 199 = nI N) (hN : N ≤ 12) (hk : k < N) : aBof w (nI k) 2 = w (11 * k + 2) := (lBof hn hN hk 2).trans ((if_neg (by decide)).trans (if_neg (by decide)))
theorem lBof_3 (hn : w 199 = nI N) (hN : N ≤ 12) (hk : k < N) : aBof w (nI k) 3 = w (11 * k + 3) := (lBof hn hN hk 3).trans ((if_neg (by decide)).trans (if_neg (by decide)))
theorem lBof_4 (hn : w 199 = nI N) (hN : N ≤ 12) (hk : k < N) : aBof w (nI k) 4 = w (11 * k + 4) := (lBof hn hN hk 4).trans ((if_neg (by decide)).trans (if_neg (by decide)))
theorem lBof_5 (hn : w 199 = nI N) (hN : N ≤ 12) (hk : k < N) : aBof w (nI k) 5 = w (11 * k + 5) := (lBof hn hN hk 5).trans ((if_neg (by decide)).trans (if_neg (by decide)))
theorem lBof_s1 (hn : w 199 = nI N) (hN : N ≤ 12) (hk : k < N) : aBof w (nI k) (6 + 1) = w (11 * k + 6) := (lBof hn hN hk (6 + 1)).trans ((if_neg (by decide)).trans ((if_pos (by decide)).trans (if_neg (by decide))))
theorem lBof_s2 (hn : w 199 = nI N) (hN : N ≤ 12) (hk : k < N) : aBof w (nI k) (6 + 2) = w (11 * k + 7) := (lBof hn hN hk (6 + 2)).trans ((if_neg (by decide)).trans ((if_pos (by decide)).trans (if_neg (by decide))))
theorem lBof_s3 (hn : w 199 = nI N) (hN : N ≤ 12) (hk : k < N) : aBof w (nI k) (6 + 3) = w (11 * k + 8) := (lBof hn hN hk (6 + 3)).trans ((if_neg (by decide)).trans ((if_pos (by decide)).trans (if_neg (by decide))))
theorem lBof_s4 (hn : w 199 = nI N) (hN : N ≤ 12) (hk : k < N) : aBof w (nI k) (6 + 4) = w (11 * k + 9) := (lBof hn hN hk (6 + 4)).trans ((if_neg (by decide)).trans ((if_pos (by decide)).trans (if_neg (by decide))))
theorem lCnt_0 {pa ty : Int32} : aCnt w N pa ty 0 = w 198 := if_neg (by decide)
theorem lCnt_1 {pa ty : Int32} : aCnt w N pa ty 1 = w 199 := if_neg (by decide)
theorem lCnt_2 {pa ty : Int32} : aCnt w N pa ty 2 = w 200 := if_neg (by decide)
theorem lCnt_3 {pa ty : Int32} : aCnt w N pa ty 3 = w 148 := if_neg (by decide)
theorem lCnt_4 {pa ty : Int32} : aCnt w N pa ty 4 = w 201 := if_neg (by decide)
theorem lCnt_5 {pa ty : Int32} : aCnt w N pa ty 5 = w 202 := if_neg (by decide)
theorem lCnt_6 {pa ty : Int32} : aCnt w N pa ty 6 = w 203 := if_neg (by decide)
theorem lCnt_7 {pa ty : Int32} : aCnt w N pa ty 7 = w 204 := if_neg (by decide)
theorem lCnt_8 {pa ty : Int32} : aCnt w N pa ty 8 = w 205 := if_neg (by decide)
theorem lCnt_9 {pa ty : Int32} : aCnt w N pa ty 9 = aBp w N 0 0 := if_neg (by decide)
theorem lCnt_10 {pa ty : Int32} : aCnt w N pa ty 10 = w 206 := if_neg (by decide)
theorem lCnt_11 {pa ty : Int32} : aCnt w N pa ty 11 = w 207 := if_neg (by decide)
theorem lCnt_12 {pa ty : Int32} : aCnt w N pa ty 12 = w 208 := if_neg (by decide)
theorem lCnt_13 {pa ty : Int32} : aCnt w N pa ty 13 = nI (aCo w N 0 0) := if_neg (by decide)
theorem lCnt_14 {pa ty : Int32} : aCnt w N pa ty 14 = w 209 := if_neg (by decide)
theorem lCnt_15 {pa ty : Int32} : aCnt w N pa ty 15 = w 210 := if_neg (by decide)
theorem lCnt_18 {pa ty : Int32} : aCnt w N pa ty 18 = w 211 := if_neg (by decide)
theorem lCnt_20 {pa ty : Int32} : aCnt w N pa ty 20 = w 212 := if_neg (by decide)
theorem lCnt_21 {pa ty : Int32} : aCnt w N pa ty 21 = w 213 := if_neg (by decide)
theorem lCnt_22 {pa ty : Int32} : aCnt w N pa ty 22 = w 214 := if_neg (by decide)
end L4
set_option maxRecDepth 4000 in
set_option maxHeartbeats 2000000 in
theorem s_ab_in {g : zH} {w pa tx : Nat → Int32} {n0 T nz : Nat} (hz : 6 ≤ nz) (hc : CH (gV g w) w pa n0 tx T) (hM : aM w) {k : Nat} (hk : k < (aNn w)) {x1 x2 : Nat} {c l : Int32} {y : Value} {X : Nat × (Nat → Int32)} {Q : zQt} (hQ : ∀ y, zJ X mL_areBidders (215 + nz) 60 [.ref 0, .ref 215, .ref 216, .ref 218, .ref 220, .int (nI x1), .int (nI x2), .int c, .int l, .int 1, .int (nI (k + 1)), y] [] (215 + nz) (gV g w) Q) : zJ X mL_areBidders (215 + nz) 166 [.ref 0, .ref 215, .ref 216, .ref 218, .ref 220, .int (nI x1), .int (nI x2), .int c, .int l, .int 1, .int (nI k), y] [] (215 + nz) (gV g w) Q := by
  have hI := hM.1.1
  have hn := hI.1.1
  have hN := hI.1.2
  refine j_iconst (v := 0) dL_areBidders_166 (by decide) ?_
  refine j_istore dL_areBidders_167 (by decide) ?_
  refine j_iload dL_areBidders_169 rfl ?_
  refine j_iconst (v := 5) dL_areBidders_171 (by decide) ?_
  refine j_icmp_ge dL_areBidders_172 (tgt := 241) rfl (fun c1 => absurd c1 (by decide)) (fun _ => ?_)
  refine j_iload dL_areBidders_175 rfl ?_
  refine j_if_eq dL_areBidders_177 (tgt := 232) rfl (fun c2 => absurd c2 (show ¬ (1 : Int32) = 0 by decide)) (fun _ => ?_)
  refine j_aload_n dL_areBidders_180 rfl ?_
  refine j_iload dL_areBidders_181 rfl ?_
  refine j_iload dL_areBidders_183 rfl ?_
  refine k_callV2i dL_areBidders_185 vL_areBidders_32 (o_bidderOf hc hM) rfl (by omega) rfl rfl (Nat.le_of_ble_eq_true rfl) ⟨rfl, rfl⟩ rfl ?_
  rintro _ _ ⟨⟨⟩, rfl⟩
  rw [lBof_0 hn hN hk]
  refine j_aload_n dL_areBidders_188 rfl ?_
  refine j_iconst (v := 5) dL_areBidders_189 (by decide) ?_
  refine j_iload dL_areBidders_190 rfl ?_
  refine j_imul dL_areBidders_192 ?_
  refine j_iload dL_areBidders_193 rfl ?_
  refine j_iadd dL_areBidders_195 ?_
  refine l_ld (a := 215) (i := ((5 * k) + 0)) (11 * k + 0) dL_areBidders_196 (by decide) rfl hz (by first | rfl | (simp only [z_n, pk_mul, nI_add]; done) | (simp only [z_n, pk_mul, nI_add]; exact pk_sub (by omega)) | (simp only [z_n, pk_mul, nI_add, pk_sub, *]; done)) (show _ < 60 by omega) (jA (by omega)) rfl ?_
  refine j_icmp_ne dL_areBidders_197 (tgt := 232) rfl (fun c3 => absurd c3 (fun q => q rfl)) (fun _ => ?_)
  refine j_iload dL_areBidders_200 rfl ?_
  refine j_if_eq dL_areBidders_202 (tgt := 228) rfl (fun _ => ?_) (fun c4 => absurd (by decide) c4)
  refine j_iconst (v := 1) dL_areBidders_228 (by decide) ?_
  refine j_goto dL_areBidders_229 (tgt := 233) rfl ?_
  refine j_istore dL_areBidders_233 (by decide) ?_
  refine j_iinc (v := 1) dL_areBidders_235 rfl (by decide) (by decide) ?_
  refine j_goto dL_areBidders_238 (tgt := 169) rfl ?_
  refine j_iload dL_areBidders_169 rfl ?_
  refine j_iconst (v := 5) dL_areBidders_171 (by decide) ?_
  refine j_icmp_ge dL_areBidders_172 (tgt := 241) rfl (fun c5 => absurd c5 (by decide)) (fun _ => ?_)
  refine j_iload dL_areBidders_175 rfl ?_
  refine j_if_eq dL_areBidders_177 (tgt := 232) rfl (fun c6 => absurd c6 (show ¬ (1 : Int32) = 0 by decide)) (fun _ => ?_)
  refine j_aload_n dL_areBidders_180 rfl ?_
  refine j_iload dL_areBidders_181 rfl ?_
  refine j_iload dL_areBidders_183 rfl ?_
  refine k_callV2i dL_areBidders_185 vL_areBidders_32 (o_bidderOf hc hM) rfl (by omega) rfl rfl (Nat.le_of_ble_eq_true rfl) ⟨rfl, rfl⟩ rfl ?_
  rintro _ _ ⟨⟨⟩, rfl⟩
  rw [lBof_1 hn hN hk]
  refine j_aload_n dL_areBidders_188 rfl ?_
  refine j_iconst (v := 5) dL_areBidders_189 (by decide) ?_
  refine j_iload dL_areBidders_190 rfl ?_
  refine j_imul dL_areBidders_192 ?_
  refine j_iload dL_areBidders_193 rfl ?_
  refine j_iadd dL_areBidders_195 ?_
  refine l_ld (a := 215) (i := ((5 * k) + 1)) (11 * k + 1) dL_areBidders_196 (by decide) rfl hz (by first | rfl | (simp only [z_n, pk_mul, nI_add]; done) | (simp only [z_n, pk_mul, nI_add]; exact pk_sub (by omega)) | (simp only [z_n, pk_mul, nI_add, pk_sub, *]; done)) (show _ < 60 by omega) (jA (by omega)) rfl ?_
  refine j_icmp_ne dL_areBidders_197 (tgt := 232) rfl (fun c7 => absurd c7 (fun q => q rfl)) (fun _ => ?_)
  refine j_iload dL_areBidders_200 rfl ?_
  refine j_if_eq dL_areBidders_202 (tgt := 228) rfl (fun c8 => absurd c8 (by decide)) (fun _ => ?_)
  refine j_aload_n dL_areBidders_205 rfl ?_
  refine j_iload dL_areBidders_206 rfl ?_
  refine j_bipush (v := 6) dL_areBidders_208 (by decide) ?_
  refine j_iload dL_areBidders_210 rfl ?_
  refine j_iadd dL_areBidders_212 ?_
  refine k_callV2i dL_areBidders_213 vL_areBidders_32 (o_bidderOf hc hM) rfl (by omega) rfl rfl (Nat.le_of_ble_eq_true rfl) ⟨rfl, rfl⟩ rfl ?_
  rintro _ _ ⟨⟨⟩, rfl⟩
  rw [lBof_s1 hn hN hk]
  refine j_aload_n dL_areBidders_216 rfl ?_
  refine j_iconst (v := 5) dL_areBidders_217 (by decide) ?_
  refine j_iload dL_areBidders_218 rfl ?_
  refine j_imul dL_areBidders_220 ?_
  refine j_iload dL_areBidders_221 rfl ?_
  refine j_iadd dL_areBidders_223 ?_
  refine l_ld (a := 216) (i := ((5 * k) + 1)) (11 * k + 6) dL_areBidders_224 (by decide) rfl hz (by first | rfl | (simp only [z_n, pk_mul, nI_add]; done) | (simp only [z_n, pk_mul, nI_add]; exact pk_sub (by omega)) | (simp only [z_n, pk_mul, nI_add, pk_sub, *]; done)) (show _ < 60 by omega) (jD (by decide) rfl) rfl ?_
  refine j_icmp_ne dL_areBidders_225 (tgt := 232) rfl (fun c9 => absurd c9 (fun q => q rfl)) (fun _ => ?_)
  refine j_iconst (v := 1) dL_areBidders_228 (by decide) ?_
  refine j_goto dL_areBidders_229 (tgt := 233) rfl ?_
  refine j_istore dL_areBidders_233 (by decide) ?_
  refine j_iinc (v := 2) dL_areBidders_235 rfl (by decide) (by decide) ?_
  refine j_goto dL_areBidders_238 (tgt := 169) rfl ?_
  refine j_iload dL_areBidders_169 rfl ?_
  refine j_iconst (v := 5) dL_areBidders_171 (by decide) ?_
  refine j_icmp_ge dL_areBidders_172 (tgt := 241) rfl (fun c10 => absurd c10 (by decide)) (fun _ => ?_)
  refine j_iload dL_areBidders_175 rfl ?_
  refine j_if_eq dL_areBidders_177 (tgt := 232) rfl (fun c11 => absurd c11 (show ¬ (1 : Int32) = 0 by decide)) (fun _ => ?_)
  refine j_aload_n dL_areBidders_180 rfl ?_
  refine j_iload dL_areBidders_181 rfl ?_
  refine j_iload dL_areBidders_183 rfl ?_
  refine k_callV2i dL_areBidders_185 vL_areBidders_32 (o_bidderOf hc hM) rfl (by omega) rfl rfl (Nat.le_of_ble_eq_true rfl) ⟨rfl, rfl⟩ rfl ?_
  rintro _ _ ⟨⟨⟩, rfl⟩
  rw [lBof_2 hn hN hk]
  refine j_aload_n dL_areBidders_188 rfl ?_
  refine j_iconst (v := 5) dL_areBidders_189 (by decide) ?_
  refine j_iload dL_areBidders_190 rfl ?_
  refine j_imul dL_areBidders_192 ?_
  refine j_iload dL_areBidders_193 rfl ?_
  refine j_iadd dL_areBidders_195 ?_
  refine l_ld (a := 215) (i := ((5 * k) + 2)) (11 * k + 2) dL_areBidders_196 (by decide) rfl hz (by first | rfl | (simp only [z_n, pk_mul, nI_add]; done) | (simp only [z_n, pk_mul, nI_add]; exact pk_sub (by omega)) | (simp only [z_n, pk_mul, nI_add, pk_sub, *]; done)) (show _ < 60 by omega) (jA (by omega)) rfl ?_
  refine j_icmp_ne dL_areBidders_197 (tgt := 232) rfl (fun c12 => absurd c12 (fun q => q rfl)) (fun _ => ?_)
  refine j_iload dL_areBidders_200 rfl ?_
  refine j_if_eq dL_areBidders_202 (tgt := 228) rfl (fun c13 => absurd c13 (by decide)) (fun _ => ?_)
  refine j_aload_n dL_areBidders_205 rfl ?_
  refine j_iload dL_areBidders_206 rfl ?_
  refine j_bipush (v := 6) dL_areBidders_208 (by decide) ?_
  refine j_iload dL_areBidders_210 rfl ?_
  refine j_iadd dL_areBidders_212 ?_
  refine k_callV2i dL_areBidders_213 vL_areBidders_32 (o_bidderOf hc hM) rfl (by omega) rfl rfl (Nat.le_of_ble_eq_true rfl) ⟨rfl, rfl⟩ rfl ?_
  rintro _ _ ⟨⟨⟩, rfl⟩
  rw [lBof_s2 hn hN hk]
  refine j_aload_n dL_areBidders_216 rfl ?_
  refine j_iconst (v := 5) dL_areBidders_217 (by decide) ?_
  refine j_iload dL_areBidders_218 rfl ?_
  refine j_imul dL_areBidders_220 ?_
  refine j_iload dL_areBidders_221 rfl ?_
  refine j_iadd dL_areBidders_223 ?_
  refine l_ld (a := 216) (i := ((5 * k) + 2)) (11 * k + 7) dL_areBidders_224 (by decide) rfl hz (by first | rfl | (simp only [z_n, pk_mul, nI_add]; done) | (simp only [z_n, pk_mul, nI_add]; exact pk_sub (by omega)) | (simp only [z_n, pk_mul, nI_add, pk_sub, *]; done)) (show _ < 60 by omega) (jD (by decide) rfl) rfl ?_
  refine j_icmp_ne dL_areBidders_225 (tgt := 232) rfl (fun c14 => absurd c14 (fun q => q rfl)) (fun _ => ?_)
  refine j_iconst (v := 1) dL_areBidders_228 (by decide) ?_
  refine j_goto dL_areBidders_229 (tgt := 233) rfl ?_
  refine j_istore dL_areBidders_233 (by decide) ?_
  refine j_iinc (v := 3) dL_areBidders_235 rfl (by decide) (by decide) ?_
  refine j_goto dL_areBidders_238 (tgt := 169) rfl ?_
  refine j_iload dL_areBidders_169 rfl ?_
  refine j_iconst (v := 5) dL_areBidders_171 (by decide) ?_
  refine j_icmp_ge dL_areBidders_172 (tgt := 241) rfl (fun c15 => absurd c15 (by decide)) (fun _ => ?_)
  refine j_iload dL_areBidders_175 rfl ?_
  refine j_if_eq dL_areBidders_177 (tgt := 232) rfl (fun c16 => absurd c16 (show ¬ (1 : Int32) = 0 by decide)) (fun _ => ?_)
  refine j_aload_n dL_areBidders_180 rfl ?_
  refine j_iload dL_areBidders_181 rfl ?_
  refine j_iload dL_areBidders_183 rfl ?_
  refine k_callV2i dL_areBidders_185 vL_areBidders_32 (o_bidderOf hc hM) rfl (by omega) rfl rfl (Nat.le_of_ble_eq_true rfl) ⟨rfl, rfl⟩ rfl ?_
  rintro _ _ ⟨⟨⟩, rfl⟩
  rw [lBof_3 hn hN hk]
  refine j_aload_n dL_areBidders_188 rfl ?_
  refine j_iconst (v := 5) dL_areBidders_189 (by decide) ?_
  refine j_iload dL_areBidders_190 rfl ?_
  refine j_imul dL_areBidders_192 ?_
  refine j_iload dL_areBidders_193 rfl ?_
  refine j_iadd dL_areBidders_195 ?_
  refine l_ld (a := 215) (i := ((5 * k) + 3)) (11 * k + 3) dL_areBidders_196 (by decide) rfl hz (by first | rfl | (simp only [z_n, pk_mul, nI_add]; done) | (simp only [z_n, pk_mul, nI_add]; exact pk_sub (by omega)) | (simp only [z_n, pk_mul, nI_add, pk_sub, *]; done)) (show _ < 60 by omega) (jA (by omega)) rfl ?_
  refine j_icmp_ne dL_areBidders_197 (tgt := 232) rfl (fun c17 => absurd c17 (fun q => q rfl)) (fun _ => ?_)
  refine j_iload dL_areBidders_200 rfl ?_
  refine j_if_eq dL_areBidders_202 (tgt := 228) rfl (fun c18 => absurd c18 (by decide)) (fun _ => ?_)
  refine j_aload_n dL_areBidders_205 rfl ?_
  refine j_iload dL_areBidders_206 rfl ?_
  refine j_bipush (v := 6) dL_areBidders_208 (by decide) ?_
  refine j_iload dL_areBidders_210 rfl ?_
  refine j_iadd dL_areBidders_212 ?_
  refine k_callV2i dL_areBidders_213 vL_areBidders_32 (o_bidderOf hc hM) rfl (by omega) rfl rfl (Nat.le_of_ble_eq_true rfl) ⟨rfl, rfl⟩ rfl ?_
  rintro _ _ ⟨⟨⟩, rfl⟩
  rw [lBof_s3 hn hN hk]
  refine j_aload_n dL_areBidders_216 rfl ?_
  refine j_iconst (v := 5) dL_areBidders_217 (by decide) ?_
  refine j_iload dL_areBidders_218 rfl ?_
  refine j_imul dL_areBidders_220 ?_
  refine j_iload dL_areBidders_221 rfl ?_
  refine j_iadd dL_areBidders_223 ?_
  refine l_ld (a := 216) (i := ((5 * k) + 3)) (11 * k + 8) dL_areBidders_224 (by decide) rfl hz (by first | rfl | (simp only [z_n, pk_mul, nI_add]; done) | (simp only [z_n, pk_mul, nI_add]; exact pk_sub (by omega)) | (simp only [z_n, pk_mul, nI_add, pk_sub, *]; done)) (show _ < 60 by omega) (jD (by decide) rfl) rfl ?_
  refine j_icmp_ne dL_areBidders_225 (tgt := 232) rfl (fun c19 => absurd c19 (fun q => q rfl)) (fun _ => ?_)
  refine j_iconst (v := 1) dL_areBidders_228 (by decide) ?_
  refine j_goto dL_areBidders_229 (tgt := 233) rfl ?_
  refine j_istore dL_areBidders_233 (by decide) ?_
  refine j_iinc (v := 4) dL_areBidders_235 rfl (by decide) (by decide) ?_
  refine j_goto dL_areBidders_238 (tgt := 169) rfl ?_
  refine j_iload dL_areBidders_169 rfl ?_
  refine j_iconst (v := 5) dL_areBidders_171 (by decide) ?_
  refine j_icmp_ge dL_areBidders_172 (tgt := 241) rfl (fun c20 => absurd c20 (by decide)) (fun _ => ?_)
  refine j_iload dL_areBidders_175 rfl ?_
  refine j_if_eq dL_areBidders_177 (tgt := 232) rfl (fun c21 => absurd c21 (show ¬ (1 : Int32) = 0 by decide)) (fun _ => ?_)
  refine j_aload_n dL_areBidders_180 rfl ?_
  refine j_iload dL_areBidders_181 rfl ?_
  refine j_iload dL_areBidders_183 rfl ?_
  refine k_callV2i dL_areBidders_185 vL_areBidders_32 (o_bidderOf hc hM) rfl (by omega) rfl rfl (Nat.le_of_ble_eq_true rfl) ⟨rfl, rfl⟩ rfl ?_
  rintro _ _ ⟨⟨⟩, rfl⟩
  rw [lBof_4 hn hN hk]
  refine j_aload_n dL_areBidders_188 rfl ?_
  refine j_iconst (v := 5) dL_areBidders_189 (by decide) ?_
  refine j_iload dL_areBidders_190 rfl ?_
  refine j_imul dL_areBidders_192 ?_
  refine j_iload dL_areBidders_193 rfl ?_
  refine j_iadd dL_areBidders_195 ?_
  refine l_ld (a := 215) (i := ((5 * k) + 4)) (11 * k + 4) dL_areBidders_196 (by decide) rfl hz (by first | rfl | (simp only [z_n, pk_mul, nI_add]; done) | (simp only [z_n, pk_mul, nI_add]; exact pk_sub (by omega)) | (simp only [z_n, pk_mul, nI_add, pk_sub, *]; done)) (show _ < 60 by omega) (jA (by omega)) rfl ?_
  refine j_icmp_ne dL_areBidders_197 (tgt := 232) rfl (fun c22 => absurd c22 (fun q => q rfl)) (fun _ => ?_)
  refine j_iload dL_areBidders_200 rfl ?_
  refine j_if_eq dL_areBidders_202 (tgt := 228) rfl (fun c23 => absurd c23 (by decide)) (fun _ => ?_)
  refine j_aload_n dL_areBidders_205 rfl ?_
  refine j_iload dL_areBidders_206 rfl ?_
  refine j_bipush (v := 6) dL_areBidders_208 (by decide) ?_
  refine j_iload dL_areBidders_210 rfl ?_
  refine j_iadd dL_areBidders_212 ?_
  refine k_callV2i dL_areBidders_213 vL_areBidders_32 (o_bidderOf hc hM) rfl (by omega) rfl rfl (Nat.le_of_ble_eq_true rfl) ⟨rfl, rfl⟩ rfl ?_
  rintro _ _ ⟨⟨⟩, rfl⟩
  rw [lBof_s4 hn hN hk]
  refine j_aload_n dL_areBidders_216 rfl ?_
  refine j_iconst (v := 5) dL_areBidders_217 (by decide) ?_
  refine j_iload dL_areBidders_218 rfl ?_
  refine j_imul dL_areBidders_220 ?_
  refine j_iload dL_areBidders_221 rfl ?_
  refine j_iadd dL_areBidders_223 ?_
  refine l_ld (a := 216) (i := ((5 * k) + 4)) (11 * k + 9) dL_areBidders_224 (by decide) rfl hz (by first | rfl | (simp only [z_n, pk_mul, nI_add]; done) | (simp only [z_n, pk_mul, nI_add]; exact pk_sub (by omega)) | (simp only [z_n, pk_mul, nI_add, pk_sub, *]; done)) (show _ < 60 by omega) (jD (by decide) rfl) rfl ?_
  refine j_icmp_ne dL_areBidders_225 (tgt := 232) rfl (fun c24 => absurd c24 (fun q => q rfl)) (fun _ => ?_)
  refine j_iconst (v := 1) dL_areBidders_228 (by decide) ?_
  refine j_goto dL_areBidders_229 (tgt := 233) rfl ?_
  refine j_istore dL_areBidders_233 (by decide) ?_
  refine j_iinc (v := 5) dL_areBidders_235 rfl (by decide) (by decide) ?_
  refine j_goto dL_areBidders_238 (tgt := 169) rfl ?_
  refine j_iload dL_areBidders_169 rfl ?_
  refine j_iconst (v := 5) dL_areBidders_171 (by decide) ?_
  refine j_icmp_ge dL_areBidders_172 (tgt := 241) rfl (fun _ => ?_) (fun c25 => absurd (by decide) c25)
  refine j_iload dL_areBidders_241 rfl ?_
  refine j_if_eq dL_areBidders_243 (tgt := 342) rfl (fun c26 => absurd c26 (show ¬ (1 : Int32) = 0 by decide)) (fun _ => ?_)
  refine j_aload_n dL_areBidders_246 rfl ?_
  refine j_iload dL_areBidders_247 rfl ?_
  refine j_iconst (v := 5) dL_areBidders_249 (by decide) ?_
  refine k_callV2i dL_areBidders_250 vL_areBidders_32 (o_bidderOf hc hM) rfl (by omega) rfl rfl (Nat.le_of_ble_eq_true rfl) ⟨rfl, rfl⟩ rfl ?_
  rintro _ _ ⟨⟨⟩, rfl⟩
  rw [lBof_5 hn hN hk]
  refine j_aload_n dL_areBidders_253 rfl ?_
  refine j_iconst (v := 5) dL_areBidders_254 (by decide) ?_
  refine j_iload dL_areBidders_255 rfl ?_
  refine j_imul dL_areBidders_257 ?_
  refine l_ld (a := 216) (i := (5 * k)) (11 * k + 5) dL_areBidders_258 (by decide) rfl hz (by first | rfl | (simp only [z_n, pk_mul, nI_add]; done) | (simp only [z_n, pk_mul, nI_add]; exact pk_sub (by omega)) | (simp only [z_n, pk_mul, nI_add, pk_sub, *]; done)) (show _ < 60 by omega) jD0 rfl ?_
  refine j_icmp_ne dL_areBidders_259 (tgt := 342) rfl (fun c27 => absurd c27 (fun q => q rfl)) (fun _ => ?_)
  refine j_aload_n dL_areBidders_262 rfl ?_
  refine j_iload dL_areBidders_263 rfl ?_
  refine j_bipush (v := 6) dL_areBidders_265 (by decide) ?_
  refine k_callV2i dL_areBidders_267 vL_areBidders_32 (o_bidderOf hc hM) rfl (by omega) rfl rfl (Nat.le_of_ble_eq_true rfl) ⟨rfl, rfl⟩ rfl ?_
  rintro _ _ ⟨⟨⟩, rfl⟩
  rw [lBof_66 hn hN hk]
  refine j_bipush (v := 100) dL_areBidders_270 (by decide) ?_
  refine j_aload_n dL_areBidders_272 rfl ?_
  refine j_aload_n dL_areBidders_273 rfl ?_
  refine j_iload dL_areBidders_274 rfl ?_
  refine k_callS3i dL_areBidders_276 vL_areBidders_9 (s_loud hz (k := k) (by omega)) rfl rfl rfl (Nat.le_of_ble_eq_true rfl) ⟨rfl, rfl⟩ rfl ?_
  rintro _ _ ⟨⟨⟩, rfl⟩
  refine j_iadd dL_areBidders_279 ?_
  refine j_icmp_ne dL_areBidders_280 (tgt := 342) rfl (fun c28 => absurd c28 (fun q => q rfl)) (fun _ => ?_)
  refine j_aload_n dL_areBidders_283 rfl ?_
  refine j_iload dL_areBidders_284 rfl ?_
  refine j_bipush (v := 11) dL_areBidders_286 (by decide) ?_
  refine k_callV2i dL_areBidders_288 vL_areBidders_32 (o_bidderOf hc hM) rfl (by omega) rfl rfl (Nat.le_of_ble_eq_true rfl) ⟨rfl, rfl⟩ rfl ?_
  rintro _ _ ⟨⟨⟩, rfl⟩
  rw [lBof_11 hn hN hk]
  refine j_ldc (v := (-1000001)) dL_areBidders_291 cL_38 ?_
  refine j_icmp_ne dL_areBidders_293 (tgt := 342) rfl (fun c29 => absurd c29 (fun q => q rfl)) (fun _ => ?_)
  refine j_aload_n dL_areBidders_296 rfl ?_
  refine j_iload dL_areBidders_297 rfl ?_
  refine k_callV1i dL_areBidders_299 vL_areBidders_39 (o_why hc hM) rfl (by omega) rfl (Nat.le_of_ble_eq_true rfl) ⟨rfl, rfl⟩ rfl ?_
  rintro _ _ ⟨⟨⟩, rfl⟩
  rw [lWhy hn hN hk]
  refine j_aload_n dL_areBidders_302 rfl ?_
  refine j_aload_n dL_areBidders_303 rfl ?_
  refine j_aload_n dL_areBidders_304 rfl ?_
  refine j_aload dL_areBidders_305 rfl ?_
  refine j_iload dL_areBidders_307 rfl ?_
  refine k_callS5i dL_areBidders_309 vL_areBidders_15 (s_why hz (k := k) (by omega)) rfl rfl rfl rfl rfl (Nat.le_of_ble_eq_true rfl) ⟨rfl, rfl⟩ rfl ?_
  rintro _ _ ⟨⟨⟩, rfl⟩
  refine j_icmp_ne dL_areBidders_312 (tgt := 342) rfl (fun c30 => absurd c30 (fun q => q rfl)) (fun _ => ?_)
  refine j_aload_n dL_areBidders_315 rfl ?_
  refine j_aload_n dL_areBidders_316 rfl ?_
  refine j_iconst (v := 5) dL_areBidders_317 (by decide) ?_
  refine j_iload dL_areBidders_318 rfl ?_
  refine j_imul dL_areBidders_320 ?_
  refine l_ld (a := 215) (i := (5 * k)) (11 * k + 0) dL_areBidders_321 (by decide) rfl hz (by first | rfl | (simp only [z_n, pk_mul, nI_add]; done) | (simp only [z_n, pk_mul, nI_add]; exact pk_sub (by omega)) | (simp only [z_n, pk_mul, nI_add, pk_sub, *]; done)) (show _ < 60 by omega) jA0 rfl ?_
  refine j_aload_n dL_areBidders_322 rfl ?_
  refine j_iconst (v := 5) dL_areBidders_323 (by decide) ?_
  refine j_iload dL_areBidders_324 rfl ?_
  refine j_imul dL_areBidders_326 ?_
  refine j_iconst (v := 1) dL_areBidders_327 (by decide) ?_
  refine j_iadd dL_areBidders_328 ?_
  refine l_ld (a := 215) (i := ((5 * k) + 1)) (11 * k + 1) dL_areBidders_329 (by decide) rfl hz (by first | rfl | (simp only [z_n, pk_mul, nI_add]; done) | (simp only [z_n, pk_mul, nI_add]; exact pk_sub (by omega)) | (simp only [z_n, pk_mul, nI_add, pk_sub, *]; done)) (show _ < 60 by omega) (jA (by omega)) rfl ?_
  refine k_callV2i dL_areBidders_330 vL_areBidders_42 (o_at hc hM) rfl (by omega) rfl rfl (Nat.le_of_ble_eq_true rfl) ⟨rfl, rfl⟩ rfl ?_
  rintro _ _ ⟨⟨⟩, rfl⟩
  rw [lAt hI hk]
  refine j_iload dL_areBidders_333 rfl ?_
  refine j_icmp_ne dL_areBidders_335 (tgt := 342) rfl (fun c31 => absurd c31 (fun q => q rfl)) (fun _ => ?_)
  refine j_iconst (v := 1) dL_areBidders_338 (by decide) ?_
  refine j_goto dL_areBidders_339 (tgt := 343) rfl ?_
  refine j_istore dL_areBidders_343 (by decide) ?_
  refine j_iinc (v := nI (k + 1)) dL_areBidders_345 rfl z_inc (by decide) ?_
  refine j_goto dL_areBidders_348 (tgt := 60) rfl ?_
  exact hQ _
set_option maxRecDepth 4000 in
set_option maxHeartbeats 2000000 in
theorem s_ab_lp {g : zH} {w pa tx : Nat → Int32} {n0 T nz : Nat} (hz : 6 ≤ nz) (hc : CH (gV g w) w pa n0 tx T) (hM : aM w) {X : Nat × (Nat → Int32)} {Q : zQt} : ∀ (n k x1 x2 : Nat) (c l : Int32) (y : Value), k + n = (aNn w) → (c < 0 ∨ ∃ j, j < 12 ∧ c = nI j) → (∀ y, zJ X mL_areBidders (215 + nz) 351 [.ref 0, .ref 215, .ref 216, .ref 218, .ref 220, .int (nI (aCo w n k x1)), .int (nI (aCs w n k x2)), .int (aLd w n k c), .int (lS w 2 n k l), .int 1, .int (nI (aNn w)), y] [] (215 + nz) (gV g w) Q) → zJ X mL_areBidders (215 + nz) 60 [.ref 0, .ref 215, .ref 216, .ref 218, .ref 220, .int (nI x1), .int (nI x2), .int c, .int l, .int 1, .int (nI k), y] [] (215 + nz) (gV g w) Q := by
  have hI := hM.1.1
  have hn := hI.1.1
  have hN := hI.1.2
  have hok := (aIa_ok hI).2.2.1
  intro n
  induction n with
  | zero =>
    intro k x1 x2 c l y hk hcc hQ
    refine j_iload dL_areBidders_60 rfl ?_
    refine j_aload dL_areBidders_62 rfl ?_
    refine j_iconst (v := 1) dL_areBidders_64 (by decide) ?_
    refine l_ld (a := 220) (i := 1) (v := nI (aNn w)) 199 dL_areBidders_65 (by decide) rfl hz (rfl) (by decide) rfl (hn) ?_
    refine j_icmp_ge dL_areBidders_66 (tgt := 351) rfl (fun _ => ?_) (fun c1 => absurd (show nI (aNn w) ≤ nI k from nI_le (by omega) (by omega)) c1)
    obtain rfl : k = (aNn w) := by omega
    exact hQ _
  | succ n ih =>
    intro k x1 x2 c l y hk hcc hQ
    refine j_iload dL_areBidders_60 rfl ?_
    refine j_aload dL_areBidders_62 rfl ?_
    refine j_iconst (v := 1) dL_areBidders_64 (by decide) ?_
    refine l_ld (a := 220) (i := 1) (v := nI (aNn w)) 199 dL_areBidders_65 (by decide) rfl hz (rfl) (by decide) rfl (hn) ?_
    refine j_icmp_ge dL_areBidders_66 (tgt := 351) rfl (fun c1 => absurd c1 (show ¬ nI (aNn w) ≤ nI k from nI_ge (by omega) (by omega))) (fun _ => ?_)
    refine j_iload dL_areBidders_69 rfl ?_
    refine j_if_eq dL_areBidders_71 (tgt := 351) rfl (fun c2 => absurd c2 (show ¬ (1 : Int32) = 0 by decide)) (fun _ => ?_)
    refine j_iload dL_areBidders_74 rfl ?_
    refine j_aload_n dL_areBidders_76 rfl ?_
    refine j_iconst (v := 5) dL_areBidders_77 (by decide) ?_
    refine j_iload dL_areBidders_78 rfl ?_
    refine j_imul dL_areBidders_80 ?_
    refine j_iconst (v := 4) dL_areBidders_81 (by decide) ?_
    refine j_iadd dL_areBidders_82 ?_
    refine l_ld (a := 215) (i := ((5 * k) + 4)) (11 * k + 4) dL_areBidders_83 (by decide) rfl hz (by first | rfl | (simp only [z_n, pk_mul, nI_add]; done) | (simp only [z_n, pk_mul, nI_add]; exact pk_sub (by omega)) | (simp only [z_n, pk_mul, nI_add, pk_sub, *]; done)) (show _ < 60 by omega) (jA (by omega)) rfl ?_
    refine j_if_le dL_areBidders_84 (tgt := 94) rfl (fun c3 => ?_) (fun c3 => ?_)
    · refine j_iconst (v := 0) dL_areBidders_94 (by decide) ?_
      refine j_ior dL_areBidders_95 ?_
      rw [l_or0]
      refine j_istore dL_areBidders_96 (by decide) ?_
      refine j_iload dL_areBidders_98 rfl ?_
      refine j_aload_n dL_areBidders_100 rfl ?_
      refine j_aload dL_areBidders_101 rfl ?_
      refine j_iload dL_areBidders_103 rfl ?_
      refine k_callS3i dL_areBidders_105 vL_areBidders_23 (s_next hz (k := k) (by omega) (hok k (by omega))) rfl rfl rfl (Nat.le_of_ble_eq_true rfl) ⟨rfl, rfl⟩ rfl ?_
      rintro _ _ ⟨⟨⟩, rfl⟩
      refine j_if_eq dL_areBidders_108 (tgt := 118) rfl (fun c4 => ?_) (fun c4 => ?_)
      · refine j_iconst (v := 0) dL_areBidders_118 (by decide) ?_
        refine j_ior dL_areBidders_119 ?_
        rw [l_or0]
        refine j_istore dL_areBidders_120 (by decide) ?_
        refine j_iload dL_areBidders_122 rfl ?_
        refine j_if_lt dL_areBidders_124 (tgt := 144) rfl (fun c5 => ?_) (fun c5 => ?_)
        · refine j_iload dL_areBidders_144 rfl ?_
          refine j_goto dL_areBidders_146 (tgt := 151) rfl ?_
          refine j_istore dL_areBidders_151 (by decide) ?_
          refine j_iload dL_areBidders_153 rfl ?_
          refine j_aload_n dL_areBidders_155 rfl ?_
          refine j_iconst (v := 5) dL_areBidders_156 (by decide) ?_
          refine j_iload dL_areBidders_157 rfl ?_
          refine j_imul dL_areBidders_159 ?_
          refine j_iconst (v := 2) dL_areBidders_160 (by decide) ?_
          refine j_iadd dL_areBidders_161 ?_
          refine l_ld (a := 215) (i := ((5 * k) + 2)) (11 * k + 2) dL_areBidders_162 (by decide) rfl hz (by first | rfl | (simp only [z_n, pk_mul, nI_add]; done) | (simp only [z_n, pk_mul, nI_add]; exact pk_sub (by omega)) | (simp only [z_n, pk_mul, nI_add, pk_sub, *]; done)) (show _ < 60 by omega) (jA (by omega)) rfl ?_
          refine j_iadd dL_areBidders_163 ?_
          refine j_istore dL_areBidders_164 (by decide) ?_
          refine s_ab_in hz hc hM (show k < (aNn w) by omega) (fun y => ?_)
          have e1 : aCo w (n + 1) k x1 = aCo w n (k + 1) x1 := if_pos c3
          have e2 : aCs w (n + 1) k x2 = aCs w n (k + 1) x2 := if_pos c4
          have e3 : aLd w (n + 1) k c = aLd w n (k + 1) (nI k) := (if_pos c5)
          rw [e1, e2, e3] at hQ
          exact ih (k + 1) x1 x2 (nI k) _ y (by omega) (Or.inr ⟨k, by omega, rfl⟩) hQ
        · obtain ⟨j, hj, rfl⟩ := hcc.resolve_left c5
          refine j_aload_n dL_areBidders_127 rfl ?_
          refine j_aload_n dL_areBidders_128 rfl ?_
          refine j_iload dL_areBidders_129 rfl ?_
          refine k_callS3i dL_areBidders_131 vL_areBidders_9 (s_loud hz (k := k) (by omega)) rfl rfl rfl (Nat.le_of_ble_eq_true rfl) ⟨rfl, rfl⟩ rfl ?_
          rintro _ _ ⟨⟨⟩, rfl⟩
          refine j_aload_n dL_areBidders_134 rfl ?_
          refine j_aload_n dL_areBidders_135 rfl ?_
          refine j_iload dL_areBidders_136 rfl ?_
          refine k_callS3i dL_areBidders_138 vL_areBidders_9 (s_loud hz (k := j) hj) rfl rfl rfl (Nat.le_of_ble_eq_true rfl) ⟨rfl, rfl⟩ rfl ?_
          rintro _ _ ⟨⟨⟩, rfl⟩
          refine j_icmp_le dL_areBidders_141 (tgt := 149) rfl (fun c6 => ?_) (fun c6 => ?_)
          · refine j_iload dL_areBidders_149 rfl ?_
            refine j_istore dL_areBidders_151 (by decide) ?_
            refine j_iload dL_areBidders_153 rfl ?_
            refine j_aload_n dL_areBidders_155 rfl ?_
            refine j_iconst (v := 5) dL_areBidders_156 (by decide) ?_
            refine j_iload dL_areBidders_157 rfl ?_
            refine j_imul dL_areBidders_159 ?_
            refine j_iconst (v := 2) dL_areBidders_160 (by decide) ?_
            refine j_iadd dL_areBidders_161 ?_
            refine l_ld (a := 215) (i := ((5 * k) + 2)) (11 * k + 2) dL_areBidders_162 (by decide) rfl hz (by first | rfl | (simp only [z_n, pk_mul, nI_add]; done) | (simp only [z_n, pk_mul, nI_add]; exact pk_sub (by omega)) | (simp only [z_n, pk_mul, nI_add, pk_sub, *]; done)) (show _ < 60 by omega) (jA (by omega)) rfl ?_
            refine j_iadd dL_areBidders_163 ?_
            refine j_istore dL_areBidders_164 (by decide) ?_
            refine s_ab_in hz hc hM (show k < (aNn w) by omega) (fun y => ?_)
            have e1 : aCo w (n + 1) k x1 = aCo w n (k + 1) x1 := if_pos c3
            have e2 : aCs w (n + 1) k x2 = aCs w n (k + 1) x2 := if_pos c4
            have e3 : aLd w (n + 1) k (nI j) = aLd w n (k + 1) (nI j) := ((if_neg c5).trans (by rw [nI_clamp (show j < 2 ^ 31 by omega)]; exact if_pos c6))
            rw [e1, e2, e3] at hQ
            exact ih (k + 1) x1 x2 (nI j) _ y (by omega) (Or.inr ⟨j, hj, rfl⟩) hQ
          · refine j_iload dL_areBidders_144 rfl ?_
            refine j_goto dL_areBidders_146 (tgt := 151) rfl ?_
            refine j_istore dL_areBidders_151 (by decide) ?_
            refine j_iload dL_areBidders_153 rfl ?_
            refine j_aload_n dL_areBidders_155 rfl ?_
            refine j_iconst (v := 5) dL_areBidders_156 (by decide) ?_
            refine j_iload dL_areBidders_157 rfl ?_
            refine j_imul dL_areBidders_159 ?_
            refine j_iconst (v := 2) dL_areBidders_160 (by decide) ?_
            refine j_iadd dL_areBidders_161 ?_
            refine l_ld (a := 215) (i := ((5 * k) + 2)) (11 * k + 2) dL_areBidders_162 (by decide) rfl hz (by first | rfl | (simp only [z_n, pk_mul, nI_add]; done) | (simp only [z_n, pk_mul, nI_add]; exact pk_sub (by omega)) | (simp only [z_n, pk_mul, nI_add, pk_sub, *]; done)) (show _ < 60 by omega) (jA (by omega)) rfl ?_
            refine j_iadd dL_areBidders_163 ?_
            refine j_istore dL_areBidders_164 (by decide) ?_
            refine s_ab_in hz hc hM (show k < (aNn w) by omega) (fun y => ?_)
            have e1 : aCo w (n + 1) k x1 = aCo w n (k + 1) x1 := if_pos c3
            have e2 : aCs w (n + 1) k x2 = aCs w n (k + 1) x2 := if_pos c4
            have e3 : aLd w (n + 1) k (nI j) = aLd w n (k + 1) (nI k) := ((if_neg c5).trans (by rw [nI_clamp (show j < 2 ^ 31 by omega)]; exact if_neg c6))
            rw [e1, e2, e3] at hQ
            exact ih (k + 1) x1 x2 (nI k) _ y (by omega) (Or.inr ⟨k, by omega, rfl⟩) hQ
      · refine j_iconst (v := 1) dL_areBidders_111 (by decide) ?_
        refine j_iload dL_areBidders_112 rfl ?_
        refine j_ishl dL_areBidders_114 ?_
        refine j_goto dL_areBidders_115 (tgt := 119) rfl ?_
        refine j_ior dL_areBidders_119 ?_
        rw [z_or1 (by omega)]
        refine j_istore dL_areBidders_120 (by decide) ?_
        refine j_iload dL_areBidders_122 rfl ?_
        refine j_if_lt dL_areBidders_124 (tgt := 144) rfl (fun c7 => ?_) (fun c7 => ?_)
        · refine j_iload dL_areBidders_144 rfl ?_
          refine j_goto dL_areBidders_146 (tgt := 151) rfl ?_
          refine j_istore dL_areBidders_151 (by decide) ?_
          refine j_iload dL_areBidders_153 rfl ?_
          refine j_aload_n dL_areBidders_155 rfl ?_
          refine j_iconst (v := 5) dL_areBidders_156 (by decide) ?_
          refine j_iload dL_areBidders_157 rfl ?_
          refine j_imul dL_areBidders_159 ?_
          refine j_iconst (v := 2) dL_areBidders_160 (by decide) ?_
          refine j_iadd dL_areBidders_161 ?_
          refine l_ld (a := 215) (i := ((5 * k) + 2)) (11 * k + 2) dL_areBidders_162 (by decide) rfl hz (by first | rfl | (simp only [z_n, pk_mul, nI_add]; done) | (simp only [z_n, pk_mul, nI_add]; exact pk_sub (by omega)) | (simp only [z_n, pk_mul, nI_add, pk_sub, *]; done)) (show _ < 60 by omega) (jA (by omega)) rfl ?_
          refine j_iadd dL_areBidders_163 ?_
          refine j_istore dL_areBidders_164 (by decide) ?_
          refine s_ab_in hz hc hM (show k < (aNn w) by omega) (fun y => ?_)
          have e1 : aCo w (n + 1) k x1 = aCo w n (k + 1) x1 := if_pos c3
          have e2 : aCs w (n + 1) k x2 = aCs w n (k + 1) (x2 ||| 2 ^ k) := if_neg c4
          have e3 : aLd w (n + 1) k c = aLd w n (k + 1) (nI k) := (if_pos c7)
          rw [e1, e2, e3] at hQ
          exact ih (k + 1) x1 (x2 ||| 2 ^ k) (nI k) _ y (by omega) (Or.inr ⟨k, by omega, rfl⟩) hQ
        · obtain ⟨j, hj, rfl⟩ := hcc.resolve_left c7
          refine j_aload_n dL_areBidders_127 rfl ?_
          refine j_aload_n dL_areBidders_128 rfl ?_
          refine j_iload dL_areBidders_129 rfl ?_
          refine k_callS3i dL_areBidders_131 vL_areBidders_9 (s_loud hz (k := k) (by omega)) rfl rfl rfl (Nat.le_of_ble_eq_true rfl) ⟨rfl, rfl⟩ rfl ?_
          rintro _ _ ⟨⟨⟩, rfl⟩
          refine j_aload_n dL_areBidders_134 rfl ?_
          refine j_aload_n dL_areBidders_135 rfl ?_
          refine j_iload dL_areBidders_136 rfl ?_
          refine k_callS3i dL_areBidders_138 vL_areBidders_9 (s_loud hz (k := j) hj) rfl rfl rfl (Nat.le_of_ble_eq_true rfl) ⟨rfl, rfl⟩ rfl ?_
          rintro _ _ ⟨⟨⟩, rfl⟩
          refine j_icmp_le dL_areBidders_141 (tgt := 149) rfl (fun c8 => ?_) (fun c8 => ?_)
          · refine j_iload dL_areBidders_149 rfl ?_
            refine j_istore dL_areBidders_151 (by decide) ?_
            refine j_iload dL_areBidders_153 rfl ?_
            refine j_aload_n dL_areBidders_155 rfl ?_
            refine j_iconst (v := 5) dL_areBidders_156 (by decide) ?_
            refine j_iload dL_areBidders_157 rfl ?_
            refine j_imul dL_areBidders_159 ?_
            refine j_iconst (v := 2) dL_areBidders_160 (by decide) ?_
            refine j_iadd dL_areBidders_161 ?_
            refine l_ld (a := 215) (i := ((5 * k) + 2)) (11 * k + 2) dL_areBidders_162 (by decide) rfl hz (by first | rfl | (simp only [z_n, pk_mul, nI_add]; done) | (simp only [z_n, pk_mul, nI_add]; exact pk_sub (by omega)) | (simp only [z_n, pk_mul, nI_add, pk_sub, *]; done)) (show _ < 60 by omega) (jA (by omega)) rfl ?_
            refine j_iadd dL_areBidders_163 ?_
            refine j_istore dL_areBidders_164 (by decide) ?_
            refine s_ab_in hz hc hM (show k < (aNn w) by omega) (fun y => ?_)
            have e1 : aCo w (n + 1) k x1 = aCo w n (k + 1) x1 := if_pos c3
            have e2 : aCs w (n + 1) k x2 = aCs w n (k + 1) (x2 ||| 2 ^ k) := if_neg c4
            have e3 : aLd w (n + 1) k (nI j) = aLd w n (k + 1) (nI j) := ((if_neg c7).trans (by rw [nI_clamp (show j < 2 ^ 31 by omega)]; exact if_pos c8))
            rw [e1, e2, e3] at hQ
            exact ih (k + 1) x1 (x2 ||| 2 ^ k) (nI j) _ y (by omega) (Or.inr ⟨j, hj, rfl⟩) hQ
          · refine j_iload dL_areBidders_144 rfl ?_
            refine j_goto dL_areBidders_146 (tgt := 151) rfl ?_
            refine j_istore dL_areBidders_151 (by decide) ?_
            refine j_iload dL_areBidders_153 rfl ?_
            refine j_aload_n dL_areBidders_155 rfl ?_
            refine j_iconst (v := 5) dL_areBidders_156 (by decide) ?_
            refine j_iload dL_areBidders_157 rfl ?_
            refine j_imul dL_areBidders_159 ?_
            refine j_iconst (v := 2) dL_areBidders_160 (by decide) ?_
            refine j_iadd dL_areBidders_161 ?_
            refine l_ld (a := 215) (i := ((5 * k) + 2)) (11 * k + 2) dL_areBidders_162 (by decide) rfl hz (by first | rfl | (simp only [z_n, pk_mul, nI_add]; done) | (simp only [z_n, pk_mul, nI_add]; exact pk_sub (by omega)) | (simp only [z_n, pk_mul, nI_add, pk_sub, *]; done)) (show _ < 60 by omega) (jA (by omega)) rfl ?_
            refine j_iadd dL_areBidders_163 ?_
            refine j_istore dL_areBidders_164 (by decide) ?_
            refine s_ab_in hz hc hM (show k < (aNn w) by omega) (fun y => ?_)
            have e1 : aCo w (n + 1) k x1 = aCo w n (k + 1) x1 := if_pos c3
            have e2 : aCs w (n + 1) k x2 = aCs w n (k + 1) (x2 ||| 2 ^ k) := if_neg c4
            have e3 : aLd w (n + 1) k (nI j) = aLd w n (k + 1) (nI k) := ((if_neg c7).trans (by rw [nI_clamp (show j < 2 ^ 31 by omega)]; exact if_neg c8))
            rw [e1, e2, e3] at hQ
            exact ih (k + 1) x1 (x2 ||| 2 ^ k) (nI k) _ y (by omega) (Or.inr ⟨k, by omega, rfl⟩) hQ
    · refine j_iconst (v := 1) dL_areBidders_87 (by decide) ?_
      refine j_iload dL_areBidders_88 rfl ?_
      refine j_ishl dL_areBidders_90 ?_
      refine j_goto dL_areBidders_91 (tgt := 95) rfl ?_
      refine j_ior dL_areBidders_95 ?_
      rw [z_or1 (by omega)]
      refine j_istore dL_areBidders_96 (by decide) ?_
      refine j_iload dL_areBidders_98 rfl ?_
      refine j_aload_n dL_areBidders_100 rfl ?_
      refine j_aload dL_areBidders_101 rfl ?_
      refine j_iload dL_areBidders_103 rfl ?_
      refine k_callS3i dL_areBidders_105 vL_areBidders_23 (s_next hz (k := k) (by omega) (hok k (by omega))) rfl rfl rfl (Nat.le_of_ble_eq_true rfl) ⟨rfl, rfl⟩ rfl ?_
      rintro _ _ ⟨⟨⟩, rfl⟩
      refine j_if_eq dL_areBidders_108 (tgt := 118) rfl (fun c9 => ?_) (fun c9 => ?_)
      · refine j_iconst (v := 0) dL_areBidders_118 (by decide) ?_
        refine j_ior dL_areBidders_119 ?_
        rw [l_or0]
        refine j_istore dL_areBidders_120 (by decide) ?_
        refine j_iload dL_areBidders_122 rfl ?_
        refine j_if_lt dL_areBidders_124 (tgt := 144) rfl (fun c10 => ?_) (fun c10 => ?_)
        · refine j_iload dL_areBidders_144 rfl ?_
          refine j_goto dL_areBidders_146 (tgt := 151) rfl ?_
          refine j_istore dL_areBidders_151 (by decide) ?_
          refine j_iload dL_areBidders_153 rfl ?_
          refine j_aload_n dL_areBidders_155 rfl ?_
          refine j_iconst (v := 5) dL_areBidders_156 (by decide) ?_
          refine j_iload dL_areBidders_157 rfl ?_
          refine j_imul dL_areBidders_159 ?_
          refine j_iconst (v := 2) dL_areBidders_160 (by decide) ?_
          refine j_iadd dL_areBidders_161 ?_
          refine l_ld (a := 215) (i := ((5 * k) + 2)) (11 * k + 2) dL_areBidders_162 (by decide) rfl hz (by first | rfl | (simp only [z_n, pk_mul, nI_add]; done) | (simp only [z_n, pk_mul, nI_add]; exact pk_sub (by omega)) | (simp only [z_n, pk_mul, nI_add, pk_sub, *]; done)) (show _ < 60 by omega) (jA (by omega)) rfl ?_
          refine j_iadd dL_areBidders_163 ?_
          refine j_istore dL_areBidders_164 (by decide) ?_
          refine s_ab_in hz hc hM (show k < (aNn w) by omega) (fun y => ?_)
          have e1 : aCo w (n + 1) k x1 = aCo w n (k + 1) (x1 ||| 2 ^ k) := if_neg c3
          have e2 : aCs w (n + 1) k x2 = aCs w n (k + 1) x2 := if_pos c9
          have e3 : aLd w (n + 1) k c = aLd w n (k + 1) (nI k) := (if_pos c10)
          rw [e1, e2, e3] at hQ
          exact ih (k + 1) (x1 ||| 2 ^ k) x2 (nI k) _ y (by omega) (Or.inr ⟨k, by omega, rfl⟩) hQ
        · obtain ⟨j, hj, rfl⟩ := hcc.resolve_left c10
          refine j_aload_n dL_areBidders_127 rfl ?_
          refine j_aload_n dL_areBidders_128 rfl ?_
          refine j_iload dL_areBidders_129 rfl ?_
          refine k_callS3i dL_areBidders_131 vL_areBidders_9 (s_loud hz (k := k) (by omega)) rfl rfl rfl (Nat.le_of_ble_eq_true rfl) ⟨rfl, rfl⟩ rfl ?_
          rintro _ _ ⟨⟨⟩, rfl⟩
          refine j_aload_n dL_areBidders_134 rfl ?_
          refine j_aload_n dL_areBidders_135 rfl ?_
          refine j_iload dL_areBidders_136 rfl ?_
          refine k_callS3i dL_areBidders_138 vL_areBidders_9 (s_loud hz (k := j) hj) rfl rfl rfl (Nat.le_of_ble_eq_true rfl) ⟨rfl, rfl⟩ rfl ?_
          rintro _ _ ⟨⟨⟩, rfl⟩
          refine j_icmp_le dL_areBidders_141 (tgt := 149) rfl (fun c11 => ?_) (fun c11 => ?_)
          · refine j_iload dL_areBidders_149 rfl ?_
            refine j_istore dL_areBidders_151 (by decide) ?_
            refine j_iload dL_areBidders_153 rfl ?_
            refine j_aload_n dL_areBidders_155 rfl ?_
            refine j_iconst (v := 5) dL_areBidders_156 (by decide) ?_
            refine j_iload dL_areBidders_157 rfl ?_
            refine j_imul dL_areBidders_159 ?_
            refine j_iconst (v := 2) dL_areBidders_160 (by decide) ?_
            refine j_iadd dL_areBidders_161 ?_
            refine l_ld (a := 215) (i := ((5 * k) + 2)) (11 * k + 2) dL_areBidders_162 (by decide) rfl hz (by first | rfl | (simp only [z_n, pk_mul, nI_add]; done) | (simp only [z_n, pk_mul, nI_add]; exact pk_sub (by omega)) | (simp only [z_n, pk_mul, nI_add, pk_sub, *]; done)) (show _ < 60 by omega) (jA (by omega)) rfl ?_
            refine j_iadd dL_areBidders_163 ?_
            refine j_istore dL_areBidders_164 (by decide) ?_
            refine s_ab_in hz hc hM (show k < (aNn w) by omega) (fun y => ?_)
            have e1 : aCo w (n + 1) k x1 = aCo w n (k + 1) (x1 ||| 2 ^ k) := if_neg c3
            have e2 : aCs w (n + 1) k x2 = aCs w n (k + 1) x2 := if_pos c9
            have e3 : aLd w (n + 1) k (nI j) = aLd w n (k + 1) (nI j) := ((if_neg c10).trans (by rw [nI_clamp (show j < 2 ^ 31 by omega)]; exact if_pos c11))
            rw [e1, e2, e3] at hQ
            exact ih (k + 1) (x1 ||| 2 ^ k) x2 (nI j) _ y (by omega) (Or.inr ⟨j, hj, rfl⟩) hQ
          · refine j_iload dL_areBidders_144 rfl ?_
            refine j_goto dL_areBidders_146 (tgt := 151) rfl ?_
            refine j_istore dL_areBidders_151 (by decide) ?_
            refine j_iload dL_areBidders_153 rfl ?_
            refine j_aload_n dL_areBidders_155 rfl ?_
            refine j_iconst (v := 5) dL_areBidders_156 (by decide) ?_
            refine j_iload dL_areBidders_157 rfl ?_
            refine j_imul dL_areBidders_159 ?_
            refine j_iconst (v := 2) dL_areBidders_160 (by decide) ?_
            refine j_iadd dL_areBidders_161 ?_
            refine l_ld (a := 215) (i := ((5 * k) + 2)) (11 * k + 2) dL_areBidders_162 (by decide) rfl hz (by first | rfl | (simp only [z_n, pk_mul, nI_add]; done) | (simp only [z_n, pk_mul, nI_add]; exact pk_sub (by omega)) | (simp only [z_n, pk_mul, nI_add, pk_sub, *]; done)) (show _ < 60 by omega) (jA (by omega)) rfl ?_
            refine j_iadd dL_areBidders_163 ?_
            refine j_istore dL_areBidders_164 (by decide) ?_
            refine s_ab_in hz hc hM (show k < (aNn w) by omega) (fun y => ?_)
            have e1 : aCo w (n + 1) k x1 = aCo w n (k + 1) (x1 ||| 2 ^ k) := if_neg c3
            have e2 : aCs w (n + 1) k x2 = aCs w n (k + 1) x2 := if_pos c9
            have e3 : aLd w (n + 1) k (nI j) = aLd w n (k + 1) (nI k) := ((if_neg c10).trans (by rw [nI_clamp (show j < 2 ^ 31 by omega)]; exact if_neg c11))
            rw [e1, e2, e3] at hQ
            exact ih (k + 1) (x1 ||| 2 ^ k) x2 (nI k) _ y (by omega) (Or.inr ⟨k, by omega, rfl⟩) hQ
      · refine j_iconst (v := 1) dL_areBidders_111 (by decide) ?_
        refine j_iload dL_areBidders_112 rfl ?_
        refine j_ishl dL_areBidders_114 ?_
        refine j_goto dL_areBidders_115 (tgt := 119) rfl ?_
        refine j_ior dL_areBidders_119 ?_
        rw [z_or1 (by omega)]
        refine j_istore dL_areBidders_120 (by decide) ?_
        refine j_iload dL_areBidders_122 rfl ?_
        refine j_if_lt dL_areBidders_124 (tgt := 144) rfl (fun c12 => ?_) (fun c12 => ?_)
        · refine j_iload dL_areBidders_144 rfl ?_
          refine j_goto dL_areBidders_146 (tgt := 151) rfl ?_
          refine j_istore dL_areBidders_151 (by decide) ?_
          refine j_iload dL_areBidders_153 rfl ?_
          refine j_aload_n dL_areBidders_155 rfl ?_
          refine j_iconst (v := 5) dL_areBidders_156 (by decide) ?_
          refine j_iload dL_areBidders_157 rfl ?_
          refine j_imul dL_areBidders_159 ?_
          refine j_iconst (v := 2) dL_areBidders_160 (by decide) ?_
          refine j_iadd dL_areBidders_161 ?_
          refine l_ld (a := 215) (i := ((5 * k) + 2)) (11 * k + 2) dL_areBidders_162 (by decide) rfl hz (by first | rfl | (simp only [z_n, pk_mul, nI_add]; done) | (simp only [z_n, pk_mul, nI_add]; exact pk_sub (by omega)) | (simp only [z_n, pk_mul, nI_add, pk_sub, *]; done)) (show _ < 60 by omega) (jA (by omega)) rfl ?_
          refine j_iadd dL_areBidders_163 ?_
          refine j_istore dL_areBidders_164 (by decide) ?_
          refine s_ab_in hz hc hM (show k < (aNn w) by omega) (fun y => ?_)
          have e1 : aCo w (n + 1) k x1 = aCo w n (k + 1) (x1 ||| 2 ^ k) := if_neg c3
          have e2 : aCs w (n + 1) k x2 = aCs w n (k + 1) (x2 ||| 2 ^ k) := if_neg c9
          have e3 : aLd w (n + 1) k c = aLd w n (k + 1) (nI k) := (if_pos c12)
          rw [e1, e2, e3] at hQ
          exact ih (k + 1) (x1 ||| 2 ^ k) (x2 ||| 2 ^ k) (nI k) _ y (by omega) (Or.inr ⟨k, by omega, rfl⟩) hQ
        · obtain ⟨j, hj, rfl⟩ := hcc.resolve_left c12
          refine j_aload_n dL_areBidders_127 rfl ?_
          refine j_aload_n dL_areBidders_128 rfl ?_
          refine j_iload dL_areBidders_129 rfl ?_
          refine k_callS3i dL_areBidders_131 vL_areBidders_9 (s_loud hz (k := k) (by omega)) rfl rfl rfl (Nat.le_of_ble_eq_true rfl) ⟨rfl, rfl⟩ rfl ?_
          rintro _ _ ⟨⟨⟩, rfl⟩
          refine j_aload_n dL_areBidders_134 rfl ?_
          refine j_aload_n dL_areBidders_135 rfl ?_
          refine j_iload dL_areBidders_136 rfl ?_
          refine k_callS3i dL_areBidders_138 vL_areBidders_9 (s_loud hz (k := j) hj) rfl rfl rfl (Nat.le_of_ble_eq_true rfl) ⟨rfl, rfl⟩ rfl ?_
          rintro _ _ ⟨⟨⟩, rfl⟩
          refine j_icmp_le dL_areBidders_141 (tgt := 149) rfl (fun c13 => ?_) (fun c13 => ?_)
          · refine j_iload dL_areBidders_149 rfl ?_
            refine j_istore dL_areBidders_151 (by decide) ?_
            refine j_iload dL_areBidders_153 rfl ?_
            refine j_aload_n dL_areBidders_155 rfl ?_
            refine j_iconst (v := 5) dL_areBidders_156 (by decide) ?_
            refine j_iload dL_areBidders_157 rfl ?_
            refine j_imul dL_areBidders_159 ?_
            refine j_iconst (v := 2) dL_areBidders_160 (by decide) ?_
            refine j_iadd dL_areBidders_161 ?_
            refine l_ld (a := 215) (i := ((5 * k) + 2)) (11 * k + 2) dL_areBidders_162 (by decide) rfl hz (by first | rfl | (simp only [z_n, pk_mul, nI_add]; done) | (simp only [z_n, pk_mul, nI_add]; exact pk_sub (by omega)) | (simp only [z_n, pk_mul, nI_add, pk_sub, *]; done)) (show _ < 60 by omega) (jA (by omega)) rfl ?_
            refine j_iadd dL_areBidders_163 ?_
            refine j_istore dL_areBidders_164 (by decide) ?_
            refine s_ab_in hz hc hM (show k < (aNn w) by omega) (fun y => ?_)
            have e1 : aCo w (n + 1) k x1 = aCo w n (k + 1) (x1 ||| 2 ^ k) := if_neg c3
            have e2 : aCs w (n + 1) k x2 = aCs w n (k + 1) (x2 ||| 2 ^ k) := if_neg c9
            have e3 : aLd w (n + 1) k (nI j) = aLd w n (k + 1) (nI j) := ((if_neg c12).trans (by rw [nI_clamp (show j < 2 ^ 31 by omega)]; exact if_pos c13))
            rw [e1, e2, e3] at hQ
            exact ih (k + 1) (x1 ||| 2 ^ k) (x2 ||| 2 ^ k) (nI j) _ y (by omega) (Or.inr ⟨j, hj, rfl⟩) hQ
          · refine j_iload dL_areBidders_144 rfl ?_
            refine j_goto dL_areBidders_146 (tgt := 151) rfl ?_
            refine j_istore dL_areBidders_151 (by decide) ?_
            refine j_iload dL_areBidders_153 rfl ?_
            refine j_aload_n dL_areBidders_155 rfl ?_
            refine j_iconst (v := 5) dL_areBidders_156 (by decide) ?_
            refine j_iload dL_areBidders_157 rfl ?_
            refine j_imul dL_areBidders_159 ?_
            refine j_iconst (v := 2) dL_areBidders_160 (by decide) ?_
            refine j_iadd dL_areBidders_161 ?_
            refine l_ld (a := 215) (i := ((5 * k) + 2)) (11 * k + 2) dL_areBidders_162 (by decide) rfl hz (by first | rfl | (simp only [z_n, pk_mul, nI_add]; done) | (simp only [z_n, pk_mul, nI_add]; exact pk_sub (by omega)) | (simp only [z_n, pk_mul, nI_add, pk_sub, *]; done)) (show _ < 60 by omega) (jA (by omega)) rfl ?_
            refine j_iadd dL_areBidders_163 ?_
            refine j_istore dL_areBidders_164 (by decide) ?_
            refine s_ab_in hz hc hM (show k < (aNn w) by omega) (fun y => ?_)
            have e1 : aCo w (n + 1) k x1 = aCo w n (k + 1) (x1 ||| 2 ^ k) := if_neg c3
            have e2 : aCs w (n + 1) k x2 = aCs w n (k + 1) (x2 ||| 2 ^ k) := if_neg c9
            have e3 : aLd w (n + 1) k (nI j) = aLd w n (k + 1) (nI k) := ((if_neg c12).trans (by rw [nI_clamp (show j < 2 ^ 31 by omega)]; exact if_neg c13))
            rw [e1, e2, e3] at hQ
            exact ih (k + 1) (x1 ||| 2 ^ k) (x2 ||| 2 ^ k) (nI k) _ y (by omega) (Or.inr ⟨k, by omega, rfl⟩) hQ
set_option maxRecDepth 4000 in
set_option maxHeartbeats 2000000 in
theorem s_areBidders {g : zH} {w pa tx : Nat → Int32} {n0 T nz : Nat} (hz : 6 ≤ nz) (hc : CH (gV g w) w pa n0 tx T) (hM : aM w) (h5 : w 215 = nI (aSm w 10 (aNn w))) : zCT mL_areBidders [.ref 0, .ref 215, .ref 216, .ref 218, .ref 220] (215 + nz) (gV g w) (215 + nz) (fun r h' => r = some 1 ∧ h' = gV g w) := by
  intro X Q hQ
  show zJ X mL_areBidders (215 + nz) 0 [.ref 0, .ref 215, .ref 216, .ref 218, .ref 220, .null, .null, .null, .null, .null, .null, .null] [] (215 + nz) (gV g w) Q
  have hI := hM.1.1
  have hn := hI.1.1
  have hN := hI.1.2
  refine j_iconst (v := 0) dL_areBidders_0 (by decide) ?_
  refine j_istore dL_areBidders_1 (by decide) ?_
  refine j_iconst (v := 0) dL_areBidders_3 (by decide) ?_
  refine j_istore dL_areBidders_4 (by decide) ?_
  refine j_ldc (v := (-1000004)) dL_areBidders_6 cL_31 ?_
  refine j_istore dL_areBidders_8 (by decide) ?_
  refine j_iconst (v := 0) dL_areBidders_10 (by decide) ?_
  refine j_istore dL_areBidders_11 (by decide) ?_
  refine j_aload_n dL_areBidders_13 rfl ?_
  refine j_aload dL_areBidders_14 rfl ?_
  refine j_iconst (v := 1) dL_areBidders_16 (by decide) ?_
  refine l_ld (a := 220) (i := 1) (v := nI (aNn w)) 199 dL_areBidders_17 (by decide) rfl hz (rfl) (by decide) rfl (hn) ?_
  refine j_iconst (v := 0) dL_areBidders_18 (by decide) ?_
  refine k_callV2i dL_areBidders_19 vL_areBidders_32 (o_bidderOf hc hM) rfl (by omega) rfl rfl (Nat.le_of_ble_eq_true rfl) ⟨rfl, rfl⟩ rfl ?_
  rintro _ _ ⟨⟨⟩, rfl⟩
  rw [show aBof w (nI (aNn w)) 0 = -1000001 from if_pos (lOut hn hN)]
  refine j_ldc (v := (-1000001)) dL_areBidders_22 cL_38 ?_
  refine j_icmp_ne dL_areBidders_24 (tgt := 54) rfl (fun c1 => absurd c1 (fun q => q rfl)) (fun _ => ?_)
  refine j_aload_n dL_areBidders_27 rfl ?_
  refine j_aload dL_areBidders_28 rfl ?_
  refine j_iconst (v := 1) dL_areBidders_30 (by decide) ?_
  refine l_ld (a := 220) (i := 1) (v := nI (aNn w)) 199 dL_areBidders_31 (by decide) rfl hz (rfl) (by decide) rfl (hn) ?_
  refine k_callV1i dL_areBidders_32 vL_areBidders_39 (o_why hc hM) rfl (by omega) rfl (Nat.le_of_ble_eq_true rfl) ⟨rfl, rfl⟩ rfl ?_
  rintro _ _ ⟨⟨⟩, rfl⟩
  rw [show aWhy w (nI (aNn w)) = -1000001 from if_pos (lOut hn hN)]
  refine j_ldc (v := (-1000001)) dL_areBidders_35 cL_38 ?_
  refine j_icmp_ne dL_areBidders_37 (tgt := 54) rfl (fun c2 => absurd c2 (fun q => q rfl)) (fun _ => ?_)
  refine j_aload_n dL_areBidders_40 rfl ?_
  refine j_iconst (v := (-1)) dL_areBidders_41 (by decide) ?_
  refine k_callV1i dL_areBidders_42 vL_areBidders_39 (o_why hc hM) rfl (by omega) rfl (Nat.le_of_ble_eq_true rfl) ⟨rfl, rfl⟩ rfl ?_
  rintro _ _ ⟨⟨⟩, rfl⟩
  rw [show aWhy w (-1) = -1000001 from if_pos (lOutm hn hN)]
  refine j_ldc (v := (-1000001)) dL_areBidders_45 cL_38 ?_
  refine j_icmp_ne dL_areBidders_47 (tgt := 54) rfl (fun c3 => absurd c3 (fun q => q rfl)) (fun _ => ?_)
  refine j_iconst (v := 1) dL_areBidders_50 (by decide) ?_
  refine j_goto dL_areBidders_51 (tgt := 55) rfl ?_
  refine j_istore dL_areBidders_55 (by decide) ?_
  refine j_iconst (v := 0) dL_areBidders_57 (by decide) ?_
  refine j_istore dL_areBidders_58 (by decide) ?_
  refine s_ab_lp hz hc hM (aNn w) 0 0 0 (-1000004) 0 _ (Nat.zero_add _) (Or.inl (by decide)) (fun y => ?_)
  refine j_iload dL_areBidders_351 rfl ?_
  refine j_if_eq dL_areBidders_353 (tgt := 436) rfl (fun c1 => absurd c1 (show ¬ (1 : Int32) = 0 by decide)) (fun _ => ?_)
  refine j_aload_n dL_areBidders_356 rfl ?_
  refine j_bipush (v := 13) dL_areBidders_357 (by decide) ?_
  refine k_callV1i dL_areBidders_359 vL_areBidders_45 (o_count hc hM) rfl (by omega) rfl (Nat.le_of_ble_eq_true rfl) ⟨rfl, rfl⟩ rfl ?_
  rintro _ _ ⟨⟨⟩, rfl⟩
  rw [lCnt_13]
  refine j_iload dL_areBidders_362 rfl ?_
  refine j_icmp_ne dL_areBidders_364 (tgt := 436) rfl (fun c2 => absurd c2 (fun q => q rfl)) (fun _ => ?_)
  refine j_aload_n dL_areBidders_367 rfl ?_
  refine k_callV0i dL_areBidders_368 vL_areBidders_48 (o_coughing hc hM) rfl (by omega)  (Nat.le_of_ble_eq_true rfl) ⟨rfl, rfl⟩ rfl ?_
  rintro _ _ ⟨⟨⟩, rfl⟩
  skip
  refine j_iload dL_areBidders_371 rfl ?_
  refine j_icmp_ne dL_areBidders_373 (tgt := 436) rfl (fun c3 => absurd c3 (fun q => q rfl)) (fun _ => ?_)
  refine j_aload_n dL_areBidders_376 rfl ?_
  refine k_callV0i dL_areBidders_377 vL_areBidders_52 (o_loudest hc hM) rfl (by omega)  (Nat.le_of_ble_eq_true rfl) ⟨rfl, rfl⟩ rfl ?_
  rintro _ _ ⟨⟨⟩, rfl⟩
  skip
  refine j_iload dL_areBidders_380 rfl ?_
  refine j_icmp_ne dL_areBidders_382 (tgt := 436) rfl (fun c4 => absurd c4 (fun q => q rfl)) (fun _ => ?_)
  refine j_aload_n dL_areBidders_385 rfl ?_
  refine j_bipush (v := 9) dL_areBidders_386 (by decide) ?_
  refine k_callV1i dL_areBidders_388 vL_areBidders_45 (o_count hc hM) rfl (by omega) rfl (Nat.le_of_ble_eq_true rfl) ⟨rfl, rfl⟩ rfl ?_
  rintro _ _ ⟨⟨⟩, rfl⟩
  rw [lCnt_9, (l_acc hM h5).2]
  refine j_aload dL_areBidders_391 rfl ?_
  refine j_bipush (v := 14) dL_areBidders_393 (by decide) ?_
  refine l_ld (a := 220) (i := 14) 215 dL_areBidders_395 (by decide) rfl hz (rfl) (by decide) rfl rfl ?_
  refine j_iload dL_areBidders_396 rfl ?_
  refine j_isub dL_areBidders_398 ?_
  rw [(l_acc hM h5).1]
  refine j_icmp_ne dL_areBidders_399 (tgt := 436) rfl (fun c5 => absurd c5 (fun q => q rfl)) (fun _ => ?_)
  refine j_aload_n dL_areBidders_402 rfl ?_
  refine j_bipush (v := 8) dL_areBidders_403 (by decide) ?_
  refine k_callV1i dL_areBidders_405 vL_areBidders_45 (o_count hc hM) rfl (by omega) rfl (Nat.le_of_ble_eq_true rfl) ⟨rfl, rfl⟩ rfl ?_
  rintro _ _ ⟨⟨⟩, rfl⟩
  rw [lCnt_8]
  refine j_aload dL_areBidders_408 rfl ?_
  refine j_bipush (v := 8) dL_areBidders_410 (by decide) ?_
  refine l_ld (a := 220) (i := 8) 205 dL_areBidders_412 (by decide) rfl hz (rfl) (by decide) rfl rfl ?_
  refine j_icmp_ne dL_areBidders_413 (tgt := 436) rfl (fun c6 => absurd c6 (fun q => q rfl)) (fun _ => ?_)
  refine j_aload dL_areBidders_416 rfl ?_
  refine j_bipush (v := 8) dL_areBidders_418 (by decide) ?_
  refine l_ld (a := 220) (i := 8) 205 dL_areBidders_420 (by decide) rfl hz (rfl) (by decide) rfl rfl ?_
  refine j_aload dL_areBidders_421 rfl ?_
  refine j_bipush (v := 14) dL_areBidders_423 (by decide) ?_
  refine l_ld (a := 220) (i := 14) 215 dL_areBidders_425 (by decide) rfl hz (rfl) (by decide) rfl rfl ?_
  refine j_iload dL_areBidders_426 rfl ?_
  refine j_isub dL_areBidders_428 ?_
  rw [(l_acc hM h5).1]
  refine j_icmp_ne dL_areBidders_429 (tgt := 436) rfl (fun c7 => absurd c7 (fun q => q rfl)) (fun _ => ?_)
  refine j_iconst (v := 1) dL_areBidders_432 (by decide) ?_
  refine j_goto dL_areBidders_433 (tgt := 437) rfl ?_
  refine j_iret dL_areBidders_437 rfl (rfl) ?_
  exact hQ _ _ ⟨rfl, rfl⟩
