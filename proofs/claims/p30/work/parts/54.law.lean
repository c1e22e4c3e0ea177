theorem lCgQ {w : Nat → Int32} {N k : Nat} (hn : w 199 = nI N) (hN : N ≤ 12) (hk : k < N) : aCough w (nI k) = ((aCgh w k 0).1, true, (aCgh w k 0).2) := by
  unfold aCough
  rw [if_neg (by rw [aIs_of hn hN hk]; decide), nI_clamp (by omega)]
theorem lBeQ {w : Nat → Int32} {N B n : Nat} (h8 : w 198 = nI B) (hB : B ≤ 9000) (h1 : 1 ≤ n) (h2 : n ≤ 12) : aBeats w N (nI n) = (aGone (aPass N n w) - aGone w, true, aPass N n w) := by
  unfold aBeats
  rw [if_neg (show ¬ aIn (nI n) 1 50 = 0 from lIn (a := 1) (b := 50) ⟨n, h1, by omega, rfl⟩ (by decide)), h8, nI_add, if_pos (show nI (B + n) ≤ 9999 from nI_le (b := 9999) (by omega) (by decide)), nI_clamp (by omega)]
theorem CH_vh {g : zH} {s t w pa tx : Nat → Int32} {n T nz : Nat} {F : Nat → Int32} (hc : CH (gV g w) s pa n tx T) : CH (gV (gH g nz F) t) s pa n tx T := CH_lt (fun a ha => by rw [gV_ot (by omega), gH_n (by omega), gV_ot (by omega)]) hc
set_option maxRecDepth 4000 in
set_option maxHeartbeats 2000000 in
theorem s_ia_bl {g : zH} {nz : Nat} (hz : 6 ≤ nz) {wa y many N W : Nat} (hmy : many ≤ 12) {y9 y10 y12 : Value} {X : Nat × (Nat → Int32)} {Q : zQt} : ∀ (n j : Nat) (s : Nat → Int32), j + n = many → aIa s N W → (s 156 = 0 ∨ s 156 = 1) → (∀ j : Int32, zJ X mL_isActed (215 + nz) 313 [.ref 0, .ref 215, .ref 216, .ref 217, .ref 218, .ref 219, .ref 220, .int (nI wa), .int (nI y), y9, y10, .int (nI many), y12, .int (j)] [] (215 + nz) (gV g (aPass N n s)) Q) → zJ X mL_isActed (215 + nz) 289 [.ref 0, .ref 215, .ref 216, .ref 217, .ref 218, .ref 219, .ref 220, .int (nI wa), .int (nI y), y9, y10, .int (nI many), y12, .int (nI j)] [] (215 + nz) (gV g s) Q := by
  intro n
  induction n with
  | zero =>
    intro j s hj hI h6 hQ
    refine j_iload dL_isActed_289 rfl ?_
    refine j_iload dL_isActed_291 rfl ?_
    refine j_icmp_ge dL_isActed_293 (tgt := 313) rfl (fun _ => ?_) (fun c1 => absurd (show nI many ≤ nI j from nI_le (by omega) (by omega)) c1)
    exact hQ _
  | succ n ih =>
    intro j s hj hI h6 hQ
    refine j_iload dL_isActed_289 rfl ?_
    refine j_iload dL_isActed_291 rfl ?_
    refine j_icmp_ge dL_isActed_293 (tgt := 313) rfl (fun c1 => absurd c1 (show ¬ nI many ≤ nI j from nI_ge (by omega) (by omega))) (fun _ => ?_)
    refine j_aload_n dL_isActed_296 rfl ?_
    refine j_aload_n dL_isActed_297 rfl ?_
    refine j_aload dL_isActed_298 rfl ?_
    refine j_aload dL_isActed_300 rfl ?_
    refine j_aload dL_isActed_302 rfl ?_
    refine k_callS5v dL_isActed_304 vL_isActed_113 (s_beat hz hI h6) rfl rfl rfl rfl rfl (Nat.le_of_ble_eq_true rfl) ⟨rfl, rfl⟩ rfl ?_
    rintro _ ⟨-, rfl⟩
    refine j_iinc (v := nI (j + 1)) dL_isActed_307 rfl z_inc (by decide) ?_
    refine j_goto dL_isActed_310 (tgt := 289) rfl ?_
    exact ih (j + 1) _ (by omega) (aIa_beat hI) (lBeat_156 hI h6) hQ
set_option maxRecDepth 4000 in
set_option maxHeartbeats 2000000 in
theorem s_ia_b {g : zH} {w pa tx : Nat → Int32} {n0 T nz b m : Nat} (hz : 6 ≤ nz) (hc : CH (gV g w) w pa n0 tx T) (hM : aM w) (hB : LB w) (hb : aR (w 198) 0 b) (hm : aR (w 209) 0 m) (hb9 : b ≤ 9000) {wa y : Nat} (hwa : wa < 18) (hy : y < 2 ^ 29) {many : Nat} (h1 : 1 ≤ many) (h2 : many ≤ 12) {y9 y10 : Value} {X : Nat × (Nat → Int32)} {Q : zQt} (hQ : ∀ r h', r = some 1 ∧ LW h' (b + 12) (m + 1) → Q r (215 + nz) h') : zJ X mL_isActed (215 + nz) 289 [.ref 0, .ref 215, .ref 216, .ref 217, .ref 218, .ref 219, .ref 220, .int (nI wa), .int (nI y), y9, y10, .int (nI many), .int (w 148), .int 0] [] (215 + nz) (gV g w) Q := by
  have hI := hM.1.1
  have hn := hI.1.1
  have hN := hI.1.2
  have hw := hI.2.1.1
  have hW := hI.2.1.2
  have hb' : aR (w 198) 0 (b + 12) := aR_up (by omega) hb
  have hm' : aR (w 209) 0 (m + 1) := aR_up (by omega) hm
  obtain ⟨p156, pbk, pD, pk, p198⟩ := lPass_all (N := (aNn w)) (W := (aWn w)) many w hI hB.1 hB.2.1
  have hG := lPass_G pD
  obtain ⟨B, -, hB2, h8⟩ := id hb
  have eB := lBeQ (w := w) (N := (aNn w)) h8 (by omega) h1 h2
  have hMq := lM_beats (x := nI many) hM
  rw [eB] at hMq
  have K := o_beats (nz := nz) (CH_v (t := aPass (aNn w) many w) hc) hM (a1 := nI many)
  rw [eB] at K
  refine s_ia_bl hz h2 many 0 w (Nat.zero_add _) hI hB.1 (fun j => ?_)
  refine j_aload_n dL_isActed_313 rfl ?_
  refine j_iload dL_isActed_314 rfl ?_
  refine k_callV1i dL_isActed_316 vL_isActed_117 (K) rfl (by omega) rfl (Nat.le_of_ble_eq_true rfl) ⟨rfl, rfl⟩ rfl ?_
  rintro _ h1 ⟨⟨⟩, e1, c1⟩
  refine z_to (gV_of e1) ?_
  refine j_iload dL_isActed_319 rfl ?_
  refine j_aload dL_isActed_321 rfl ?_
  refine j_bipush (v := 9) dL_isActed_323 (by decide) ?_
  refine l_ld (a := 218) (i := 9) 148 dL_isActed_325 (by decide) rfl hz (rfl) (by decide) rfl rfl ?_
  refine j_isub dL_isActed_326 ?_
  refine j_icmp_ne dL_isActed_327 (tgt := 334) rfl (fun c1 => absurd c1 (fun q => q hG)) (fun _ => ?_)
  refine j_iconst (v := 1) dL_isActed_330 (by decide) ?_
  refine j_goto dL_isActed_331 (tgt := 335) rfl ?_
  refine j_iret dL_isActed_335 rfl (rfl) ?_
  exact hQ _ _ ⟨rfl, LW_g c1 (fun _ _ => rfl) hMq (lPass_LB hI rfl many hB) (by rw [p198, h8, nI_add]; exact ⟨_, Nat.zero_le _, by omega, rfl⟩) (by rw [pk 209 (Or.inr (Or.inr (Or.inl rfl)))]; exact hm')⟩
set_option maxRecDepth 4000 in
set_option maxHeartbeats 2000000 in
theorem s_ia_27 {g : zH} {w pa tx : Nat → Int32} {n0 T nz b m : Nat} (hz : 6 ≤ nz) (hc : CH (gV g w) w pa n0 tx T) (hM : aM w) (hB : LB w) (hb : aR (w 198) 0 b) (hm : aR (w 209) 0 m) (hb9 : b ≤ 9000) {wa y : Nat} (hwa : wa < 18) (hy : y < 2 ^ 29) (hnn : wa = 14 → w 148 = 1) {kk zz : Nat} (hkk : (aNn w) ≠ 0 → kk < (aNn w)) (hzz : zz < 2 ^ 29) {X : Nat × (Nat → Int32)} {Q : zQt} (hQ : ∀ r h', r = some 1 ∧ LW h' (b + 12) (m + 1) → Q r (215 + nz) h') : zJ X mL_isActed (215 + nz) 27 [.ref 0, .ref 215, .ref 216, .ref 217, .ref 218, .ref 219, .ref 220, .int (nI wa), .int (nI y), .int (nI kk), .int (nI zz), .null, .null, .null] [] (215 + nz) (gV g w) Q := by
  have hI := hM.1.1
  have hn := hI.1.1
  have hN := hI.1.2
  have hw := hI.2.1.1
  have hW := hI.2.1.2
  have hb' : aR (w 198) 0 (b + 12) := aR_up (by omega) hb
  have hm' : aR (w 209) 0 (m + 1) := aR_up (by omega) hm
  refine j_iload dL_isActed_27 rfl ?_
  refine j_iconst (v := 5) dL_isActed_29 (by decide) ?_
  refine j_icmp_ge dL_isActed_30 (tgt := 56) rfl (fun c1 => ?_) (fun c1 => ?_)
  · refine j_iload dL_isActed_56 rfl ?_
    refine j_bipush (v := 7) dL_isActed_58 (by decide) ?_
    refine j_icmp_ge dL_isActed_60 (tgt := 73) rfl (fun c2 => ?_) (fun c2 => ?_)
    · refine j_aload dL_isActed_73 rfl ?_
      refine j_iconst (v := 1) dL_isActed_75 (by decide) ?_
      refine l_ld (a := 220) (i := 1) (v := nI (aNn w)) 199 dL_isActed_76 (by decide) rfl hz (rfl) (by decide) rfl (hn) ?_
      refine j_if_ne dL_isActed_77 (tgt := 125) rfl (fun c3 => ?_) (fun c3 => ?_)
      · have hk2 : kk < (aNn w) := hkk (fun q => c3 (by rw [q]; rfl))
        refine j_iload dL_isActed_125 rfl ?_
        refine j_bipush (v := 11) dL_isActed_127 (by decide) ?_
        refine j_icmp_ge dL_isActed_129 (tgt := 165) rfl (fun c4 => ?_) (fun c4 => ?_)
        · refine j_iload dL_isActed_165 rfl ?_
          refine j_bipush (v := 14) dL_isActed_167 (by decide) ?_
          refine j_icmp_ge dL_isActed_169 (tgt := 202) rfl (fun c5 => ?_) (fun c5 => ?_)
          · refine j_iload dL_isActed_202 rfl ?_
            refine j_bipush (v := 14) dL_isActed_204 (by decide) ?_
            refine j_icmp_ne dL_isActed_206 (tgt := 259) rfl (fun c6 => ?_) (fun c6 => ?_)
            · refine j_iconst (v := 1) dL_isActed_259 (by decide) ?_
              refine j_iload dL_isActed_260 rfl ?_
              refine j_iload dL_isActed_262 rfl ?_
              refine j_bipush (v := 15) dL_isActed_264 (by decide) ?_
              refine j_icmp_ne dL_isActed_266 (tgt := 274) rfl (fun c7 => ?_) (fun c7 => ?_)
              · refine j_iconst (v := 2) dL_isActed_274 (by decide) ?_
                refine j_irem dL_isActed_275 (by decide) ?_
                rw [show nI y - nI y / 2 * 2 = nI (y % 2) from pk_rem (d := 2) (by omega) (by decide) (by decide)]
                refine j_iadd dL_isActed_276 ?_
                rw [show 1 + nI (y % 2) = nI (1 + (y % 2)) from nI_add 1 _]
                refine j_istore dL_isActed_277 (by decide) ?_
                refine j_aload dL_isActed_279 rfl ?_
                refine j_bipush (v := 9) dL_isActed_281 (by decide) ?_
                refine l_ld (a := 218) (i := 9) 148 dL_isActed_283 (by decide) rfl hz (rfl) (by decide) rfl rfl ?_
                refine j_istore dL_isActed_284 (by decide) ?_
                refine j_iconst (v := 0) dL_isActed_286 (by decide) ?_
                refine j_istore dL_isActed_287 (by decide) ?_
                exact s_ia_b hz hc hM hB hb hm hb9 hwa hy (many := 1 + (y % 2)) (by omega) (by omega) hQ
              · refine j_bipush (v := 12) dL_isActed_269 (by decide) ?_
                refine j_goto dL_isActed_271 (tgt := 275) rfl ?_
                refine j_irem dL_isActed_275 (by decide) ?_
                rw [show nI y - nI y / 12 * 12 = nI (y % 12) from pk_rem (d := 12) (by omega) (by decide) (by decide)]
                refine j_iadd dL_isActed_276 ?_
                rw [show 1 + nI (y % 12) = nI (1 + (y % 12)) from nI_add 1 _]
                refine j_istore dL_isActed_277 (by decide) ?_
                refine j_aload dL_isActed_279 rfl ?_
                refine j_bipush (v := 9) dL_isActed_281 (by decide) ?_
                refine l_ld (a := 218) (i := 9) 148 dL_isActed_283 (by decide) rfl hz (rfl) (by decide) rfl rfl ?_
                refine j_istore dL_isActed_284 (by decide) ?_
                refine j_iconst (v := 0) dL_isActed_286 (by decide) ?_
                refine j_istore dL_isActed_287 (by decide) ?_
                exact s_ia_b hz hc hM hB hb hm hb9 hwa hy (many := 1 + (y % 12)) (by omega) (by omega) hQ
            · refine j_aload dL_isActed_209 rfl ?_
              refine j_bipush (v := 9) dL_isActed_211 (by decide) ?_
              refine l_ld (a := 218) (i := 9) 148 dL_isActed_213 (by decide) rfl hz (rfl) (by decide) rfl rfl ?_
              refine j_iconst (v := 1) dL_isActed_214 (by decide) ?_
              refine j_icmp_ne dL_isActed_215 (tgt := 233) rfl (fun c8 => absurd c8 (fun q => q (hnn ((nI_eq (b := 14) (by omega) (by decide)).mp c6)))) (fun _ => ?_)
              have h148 : w 148 = 1 := hnn ((nI_eq (b := 14) (by omega) (by decide)).mp c6)
              have K := o_night (nz := nz) hc hM (sp := w) (fun _ _ => rfl)
              rw [show aNgt w w (aNn w) = (-1000002, false, w) from if_pos h148] at K
              refine j_aload_n dL_isActed_218 rfl ?_
              refine k_callV0i dL_isActed_219 vL_isActed_103 (K) rfl (by omega)  (Nat.le_of_ble_eq_true rfl) ⟨rfl, rfl⟩ rfl ?_
              rintro _ h1 ⟨⟨⟩, e1, c1⟩
              refine z_to (gV_of e1) ?_
              refine j_ldc (v := (-1000002)) dL_isActed_222 cL_61 ?_
              refine j_icmp_ne dL_isActed_224 (tgt := 231) rfl (fun c9 => absurd c9 (fun q => q rfl)) (fun _ => ?_)
              refine j_iconst (v := 1) dL_isActed_227 (by decide) ?_
              refine j_goto dL_isActed_228 (tgt := 232) rfl ?_
              refine j_iret dL_isActed_232 rfl (rfl) ?_
              exact hQ _ _ ⟨rfl, LW_g c1 (fun _ _ => rfl) hM hB hb' hm'⟩
          · refine j_aload_n dL_isActed_172 rfl ?_
            refine j_aload_n dL_isActed_173 rfl ?_
            refine j_aload_n dL_isActed_174 rfl ?_
            refine j_aload dL_isActed_175 rfl ?_
            refine j_iload dL_isActed_177 rfl ?_
            refine j_bipush (v := 13) dL_isActed_179 (by decide) ?_
            refine j_icmp_ne dL_isActed_181 (tgt := 191) rfl (fun c10 => ?_) (fun c10 => ?_)
            · refine j_iconst (v := 0) dL_isActed_191 (by decide) ?_
              refine j_iload dL_isActed_192 rfl ?_
              refine j_iload dL_isActed_194 rfl ?_
              refine j_iconst (v := 3) dL_isActed_196 (by decide) ?_
              refine j_idiv dL_isActed_197 (by decide) ?_
              rw [show nI zz / 3 = nI (zz / 3) from pk_div (d := 3) (by omega) (by decide) (by decide)]
              refine k_callS7i dL_isActed_198 vL_isActed_99 (s_isChanged hz hc hM hB hb hm (k := kk) (z := (zz / 3)) hk2 (by omega)) rfl rfl rfl rfl rfl rfl rfl (Nat.le_of_ble_eq_true rfl) ⟨rfl, rfl⟩ rfl ?_
              rintro _ h1 ⟨⟨⟩, hL⟩
              refine j_iret dL_isActed_201 rfl (rfl) ?_
              exact hQ _ _ ⟨rfl, LW_mono (by omega) (by omega) hL⟩
            · refine j_iload dL_isActed_184 rfl ?_
              refine j_iconst (v := 3) dL_isActed_186 (by decide) ?_
              refine j_irem dL_isActed_187 (by decide) ?_
              rw [show nI zz - nI zz / 3 * 3 = nI (zz % 3) from pk_rem (d := 3) (by omega) (by decide) (by decide)]
              refine j_goto dL_isActed_188 (tgt := 192) rfl ?_
              refine j_iload dL_isActed_192 rfl ?_
              refine j_iload dL_isActed_194 rfl ?_
              refine j_iconst (v := 3) dL_isActed_196 (by decide) ?_
              refine j_idiv dL_isActed_197 (by decide) ?_
              rw [show nI zz / 3 = nI (zz / 3) from pk_div (d := 3) (by omega) (by decide) (by decide)]
              refine k_callS7i dL_isActed_198 vL_isActed_99 (s_isChanged hz hc hM hB hb hm (k := kk) (z := (zz / 3)) hk2 (by omega)) rfl rfl rfl rfl rfl rfl rfl (Nat.le_of_ble_eq_true rfl) ⟨rfl, rfl⟩ rfl ?_
              rintro _ h1 ⟨⟨⟩, hL⟩
              refine j_iret dL_isActed_201 rfl (rfl) ?_
              exact hQ _ _ ⟨rfl, LW_mono (by omega) (by omega) hL⟩
        · refine j_aload_n dL_isActed_132 rfl ?_
          refine j_aload_n dL_isActed_133 rfl ?_
          refine j_aload dL_isActed_134 rfl ?_
          refine j_aload dL_isActed_136 rfl ?_
          refine j_aload dL_isActed_138 rfl ?_
          refine j_iload dL_isActed_140 rfl ?_
          refine j_iconst (v := 0) dL_isActed_142 (by decide) ?_
          refine k_callS7i dL_isActed_143 vL_isActed_27 (s_cough hz hI (k := kk) hk2 (c := 0)) rfl rfl rfl rfl rfl rfl rfl (Nat.le_of_ble_eq_true rfl) ⟨rfl, rfl⟩ rfl ?_
          rintro _ _ ⟨⟨⟩, rfl⟩
          refine j_istore dL_isActed_146 (by decide) ?_
          have eC := lCgQ (w := w) hn hN hk2
          have hMq := lM_cough (x := nI kk) hM
          rw [eC] at hMq
          have K := o_cough (nz := nz) (CH_v (t := (aCgh w kk 0).2) hc) hM (a1 := nI kk)
          rw [eC] at K
          refine j_aload_n dL_isActed_148 rfl ?_
          refine j_iload dL_isActed_149 rfl ?_
          refine k_callV1i dL_isActed_151 vL_isActed_97 (K) rfl (by omega) rfl (Nat.le_of_ble_eq_true rfl) ⟨rfl, rfl⟩ rfl ?_
          rintro _ h1 ⟨⟨⟩, e1, c1⟩
          refine z_to (gV_of e1) ?_
          refine j_iload dL_isActed_154 rfl ?_
          refine j_icmp_ne dL_isActed_156 (tgt := 163) rfl (fun c11 => absurd c11 (fun q => q rfl)) (fun _ => ?_)
          refine j_iconst (v := 1) dL_isActed_159 (by decide) ?_
          refine j_goto dL_isActed_160 (tgt := 164) rfl ?_
          refine j_iret dL_isActed_164 rfl (rfl) ?_
          exact hQ _ _ ⟨rfl, LW_g c1 (fun _ _ => rfl) hMq (lCgh_LB hI rfl hk2 (Or.inl rfl) hB) (by rw [lCgh_k (by omega) (Or.inr rfl)]; exact hb') (by rw [lCgh_k (by omega) (Or.inl (Or.inr (Or.inr (Or.inl rfl))))]; exact hm')⟩
      · refine j_iload dL_isActed_80 rfl ?_
        refine j_bipush (v := 14) dL_isActed_82 (by decide) ?_
        refine j_icmp_ge dL_isActed_84 (tgt := 125) rfl (fun c12 => ?_) (fun c12 => ?_)
        · skip
          refine j_iload dL_isActed_125 rfl ?_
          refine j_bipush (v := 11) dL_isActed_127 (by decide) ?_
          refine j_icmp_ge dL_isActed_129 (tgt := 165) rfl (fun _ => ?_) (fun c13 => absurd (show (11 : Int32) ≤ nI wa from nI_le (a := 11) (by have := (nI_leI (a := 14) (b := wa) (by decide) (by omega)).mp c12; omega) (by omega)) c13)
          refine j_iload dL_isActed_165 rfl ?_
          refine j_bipush (v := 14) dL_isActed_167 (by decide) ?_
          refine j_icmp_ge dL_isActed_169 (tgt := 202) rfl (fun _ => ?_) (fun c14 => absurd (show (14 : Int32) ≤ nI wa from nI_le (a := 14) (by have := (nI_leI (a := 14) (b := wa) (by decide) (by omega)).mp c12; omega) (by omega)) c14)
          refine j_iload dL_isActed_202 rfl ?_
          refine j_bipush (v := 14) dL_isActed_204 (by decide) ?_
          refine j_icmp_ne dL_isActed_206 (tgt := 259) rfl (fun c15 => ?_) (fun c15 => ?_)
          · refine j_iconst (v := 1) dL_isActed_259 (by decide) ?_
            refine j_iload dL_isActed_260 rfl ?_
            refine j_iload dL_isActed_262 rfl ?_
            refine j_bipush (v := 15) dL_isActed_264 (by decide) ?_
            refine j_icmp_ne dL_isActed_266 (tgt := 274) rfl (fun c16 => ?_) (fun c16 => ?_)
            · refine j_iconst (v := 2) dL_isActed_274 (by decide) ?_
              refine j_irem dL_isActed_275 (by decide) ?_
              rw [show nI y - nI y / 2 * 2 = nI (y % 2) from pk_rem (d := 2) (by omega) (by decide) (by decide)]
              refine j_iadd dL_isActed_276 ?_
              rw [show 1 + nI (y % 2) = nI (1 + (y % 2)) from nI_add 1 _]
              refine j_istore dL_isActed_277 (by decide) ?_
              refine j_aload dL_isActed_279 rfl ?_
              refine j_bipush (v := 9) dL_isActed_281 (by decide) ?_
              refine l_ld (a := 218) (i := 9) 148 dL_isActed_283 (by decide) rfl hz (rfl) (by decide) rfl rfl ?_
              refine j_istore dL_isActed_284 (by decide) ?_
              refine j_iconst (v := 0) dL_isActed_286 (by decide) ?_
              refine j_istore dL_isActed_287 (by decide) ?_
              exact s_ia_b hz hc hM hB hb hm hb9 hwa hy (many := 1 + (y % 2)) (by omega) (by omega) hQ
            · refine j_bipush (v := 12) dL_isActed_269 (by decide) ?_
              refine j_goto dL_isActed_271 (tgt := 275) rfl ?_
              refine j_irem dL_isActed_275 (by decide) ?_
              rw [show nI y - nI y / 12 * 12 = nI (y % 12) from pk_rem (d := 12) (by omega) (by decide) (by decide)]
              refine j_iadd dL_isActed_276 ?_
              rw [show 1 + nI (y % 12) = nI (1 + (y % 12)) from nI_add 1 _]
              refine j_istore dL_isActed_277 (by decide) ?_
              refine j_aload dL_isActed_279 rfl ?_
              refine j_bipush (v := 9) dL_isActed_281 (by decide) ?_
              refine l_ld (a := 218) (i := 9) 148 dL_isActed_283 (by decide) rfl hz (rfl) (by decide) rfl rfl ?_
              refine j_istore dL_isActed_284 (by decide) ?_
              refine j_iconst (v := 0) dL_isActed_286 (by decide) ?_
              refine j_istore dL_isActed_287 (by decide) ?_
              exact s_ia_b hz hc hM hB hb hm hb9 hwa hy (many := 1 + (y % 12)) (by omega) (by omega) hQ
          · refine j_aload dL_isActed_209 rfl ?_
            refine j_bipush (v := 9) dL_isActed_211 (by decide) ?_
            refine l_ld (a := 218) (i := 9) 148 dL_isActed_213 (by decide) rfl hz (rfl) (by decide) rfl rfl ?_
            refine j_iconst (v := 1) dL_isActed_214 (by decide) ?_
            refine j_icmp_ne dL_isActed_215 (tgt := 233) rfl (fun c17 => absurd c17 (fun q => q (hnn ((nI_eq (b := 14) (by omega) (by decide)).mp c15)))) (fun _ => ?_)
            have h148 : w 148 = 1 := hnn ((nI_eq (b := 14) (by omega) (by decide)).mp c15)
            have K := o_night (nz := nz) hc hM (sp := w) (fun _ _ => rfl)
            rw [show aNgt w w (aNn w) = (-1000002, false, w) from if_pos h148] at K
            refine j_aload_n dL_isActed_218 rfl ?_
            refine k_callV0i dL_isActed_219 vL_isActed_103 (K) rfl (by omega)  (Nat.le_of_ble_eq_true rfl) ⟨rfl, rfl⟩ rfl ?_
            rintro _ h1 ⟨⟨⟩, e1, c1⟩
            refine z_to (gV_of e1) ?_
            refine j_ldc (v := (-1000002)) dL_isActed_222 cL_61 ?_
            refine j_icmp_ne dL_isActed_224 (tgt := 231) rfl (fun c18 => absurd c18 (fun q => q rfl)) (fun _ => ?_)
            refine j_iconst (v := 1) dL_isActed_227 (by decide) ?_
            refine j_goto dL_isActed_228 (tgt := 232) rfl ?_
            refine j_iret dL_isActed_232 rfl (rfl) ?_
            exact hQ _ _ ⟨rfl, LW_g c1 (fun _ _ => rfl) hM hB hb' hm'⟩
        · have h0 : aIs w 0 = 0 := by
            have q := lOut hn hN
            rw [show nI (aNn w) = 0 from c3] at q
            exact q
          have K := o_cough (nz := nz) hc hM (a1 := 0)
          rw [show aCough w 0 = (-1000001, false, w) from if_pos h0] at K
          refine j_aload_n dL_isActed_87 rfl ?_
          refine j_iconst (v := 0) dL_isActed_88 (by decide) ?_
          refine k_callV1i dL_isActed_89 vL_isActed_97 (K) rfl (by omega) rfl (Nat.le_of_ble_eq_true rfl) ⟨rfl, rfl⟩ rfl ?_
          rintro _ h1 ⟨⟨⟩, e1, c1⟩
          refine z_to (gV_of e1) ?_
          have d1 : CH (gV h1 w) w _ _ tx T := CH_lt (fun a ha => gV_ot (by omega)) c1
          have K2 := o_catches (nz := nz) d1 hM (a1 := 0) (a2 := 1)
          rw [show aSetB w 0 1 4 = (-1000001, false, w) from if_pos h0] at K2
          refine j_ldc (v := (-1000001)) dL_isActed_92 cL_38 ?_
          refine j_icmp_ne dL_isActed_94 (tgt := 123) rfl (fun c19 => absurd c19 (fun q => q rfl)) (fun _ => ?_)
          refine j_aload_n dL_isActed_97 rfl ?_
          refine j_iconst (v := 0) dL_isActed_98 (by decide) ?_
          refine j_iconst (v := 1) dL_isActed_99 (by decide) ?_
          refine k_callV2i dL_isActed_100 vL_isActed_80 (K2) rfl (by omega) rfl rfl (Nat.le_of_ble_eq_true rfl) ⟨rfl, rfl⟩ rfl ?_
          rintro _ h2 ⟨⟨⟩, e2, c2⟩
          refine z_to (gV_of e2) ?_
          have d2 : CH (gV h2 w) w _ _ tx T := CH_lt (fun a ha => gV_ot (by omega)) c2
          have K3 := o_muffle (nz := nz) d2 hM (a1 := 0) (a2 := 1)
          rw [show aSetB w 0 1 5 = (-1000001, false, w) from if_pos h0] at K3
          refine j_ldc (v := (-1000001)) dL_isActed_103 cL_38 ?_
          refine j_icmp_ne dL_isActed_105 (tgt := 123) rfl (fun c20 => absurd c20 (fun q => q rfl)) (fun _ => ?_)
          refine j_aload_n dL_isActed_108 rfl ?_
          refine j_iconst (v := 0) dL_isActed_109 (by decide) ?_
          refine j_iconst (v := 1) dL_isActed_110 (by decide) ?_
          refine k_callV2i dL_isActed_111 vL_isActed_83 (K3) rfl (by omega) rfl rfl (Nat.le_of_ble_eq_true rfl) ⟨rfl, rfl⟩ rfl ?_
          rintro _ h3 ⟨⟨⟩, e3, c3⟩
          refine z_to (gV_of e3) ?_
          have d3 : CH (gV h3 w) w _ _ tx T := CH_lt (fun a ha => gV_ot (by omega)) c3
          refine j_ldc (v := (-1000001)) dL_isActed_114 cL_38 ?_
          refine j_icmp_ne dL_isActed_116 (tgt := 123) rfl (fun c21 => absurd c21 (fun q => q rfl)) (fun _ => ?_)
          refine j_iconst (v := 1) dL_isActed_119 (by decide) ?_
          refine j_goto dL_isActed_120 (tgt := 124) rfl ?_
          refine j_iret dL_isActed_124 rfl (rfl) ?_
          exact hQ _ _ ⟨rfl, LW_g c3 (fun _ _ => rfl) hM hB hb' hm'⟩
    · refine j_aload_n dL_isActed_63 rfl ?_
      refine j_aload_n dL_isActed_64 rfl ?_
      refine j_aload dL_isActed_65 rfl ?_
      refine j_aload dL_isActed_67 rfl ?_
      refine k_callS4i dL_isActed_69 vL_isActed_93 (s_isUp hz hc hM hB hb hm) rfl rfl rfl rfl (Nat.le_of_ble_eq_true rfl) ⟨rfl, rfl⟩ rfl ?_
      rintro _ h1 ⟨⟨⟩, hL⟩
      refine j_iret dL_isActed_72 rfl (rfl) ?_
      exact hQ _ _ ⟨rfl, LW_mono (by omega) (by omega) hL⟩
  · refine j_aload_n dL_isActed_33 rfl ?_
    refine j_aload_n dL_isActed_34 rfl ?_
    refine j_aload_n dL_isActed_35 rfl ?_
    refine j_aload_n dL_isActed_36 rfl ?_
    refine j_aload dL_isActed_37 rfl ?_
    refine j_iload dL_isActed_39 rfl ?_
    refine j_iconst (v := 3) dL_isActed_41 (by decide) ?_
    refine j_icmp_ge dL_isActed_42 (tgt := 49) rfl (fun c22 => ?_) (fun c22 => ?_)
    · refine j_iconst (v := 1) dL_isActed_49 (by decide) ?_
      refine j_iload dL_isActed_50 rfl ?_
      refine k_callS7i dL_isActed_52 vL_isActed_89 (s_isComing hz hc hM hB hb hm (y := y) (by omega)) rfl rfl rfl rfl rfl rfl rfl (Nat.le_of_ble_eq_true rfl) ⟨rfl, rfl⟩ rfl ?_
      rintro _ h1 ⟨⟨⟩, hL⟩
      refine j_iret dL_isActed_55 rfl (rfl) ?_
      exact hQ _ _ ⟨rfl, LW_mono (by omega) (by omega) hL⟩
    · refine j_iconst (v := 0) dL_isActed_45 (by decide) ?_
      refine j_goto dL_isActed_46 (tgt := 50) rfl ?_
      refine j_iload dL_isActed_50 rfl ?_
      refine k_callS7i dL_isActed_52 vL_isActed_89 (s_isComing hz hc hM hB hb hm (y := y) (by omega)) rfl rfl rfl rfl rfl rfl rfl (Nat.le_of_ble_eq_true rfl) ⟨rfl, rfl⟩ rfl ?_
      rintro _ h1 ⟨⟨⟩, hL⟩
      refine j_iret dL_isActed_55 rfl (rfl) ?_
      exact hQ _ _ ⟨rfl, LW_mono (by omega) (by omega) hL⟩
set_option maxRecDepth 4000 in
set_option maxHeartbeats 2000000 in
theorem s_isActed {g : zH} {w pa tx : Nat → Int32} {n0 T nz b m : Nat} (hz : 6 ≤ nz) (hc : CH (gV g w) w pa n0 tx T) (hM : aM w) (hB : LB w) (hb : aR (w 198) 0 b) (hm : aR (w 209) 0 m) (hb9 : b ≤ 9000) {wa y : Nat} (hwa : wa < 18) (hy : y < 2 ^ 29) (hnn : wa = 14 → w 148 = 1) : zCT mL_isActed [.ref 0, .ref 215, .ref 216, .ref 217, .ref 218, .ref 219, .ref 220, .int (nI wa), .int (nI y)] (215 + nz) (gV g w) (215 + nz) (fun r h' => r = some 1 ∧ LW h' (b + 12) (m + 1)) := by
  intro X Q hQ
  show zJ X mL_isActed (215 + nz) 0 [.ref 0, .ref 215, .ref 216, .ref 217, .ref 218, .ref 219, .ref 220, .int (nI wa), .int (nI y), .null, .null, .null, .null, .null] [] (215 + nz) (gV g w) Q
  have hI := hM.1.1
  have hn := hI.1.1
  have hN := hI.1.2
  have hw := hI.2.1.1
  have hW := hI.2.1.2
  have hb' : aR (w 198) 0 (b + 12) := aR_up (by omega) hb
  have hm' : aR (w 209) 0 (m + 1) := aR_up (by omega) hm
  refine j_aload dL_isActed_0 rfl ?_
  refine j_iconst (v := 1) dL_isActed_2 (by decide) ?_
  refine l_ld (a := 220) (i := 1) (v := nI (aNn w)) 199 dL_isActed_3 (by decide) rfl hz (rfl) (by decide) rfl (hn) ?_
  refine j_if_ne dL_isActed_4 (tgt := 11) rfl (fun c1 => ?_) (fun c1 => ?_)
  · refine j_iload dL_isActed_11 rfl ?_
    refine j_aload dL_isActed_13 rfl ?_
    refine j_iconst (v := 1) dL_isActed_15 (by decide) ?_
    refine l_ld (a := 220) (i := 1) (v := nI (aNn w)) 199 dL_isActed_16 (by decide) rfl hz (rfl) (by decide) rfl (hn) ?_
    refine j_irem dL_isActed_17 (by assumption) ?_
    rw [pk_rem (a := y) (d := (aNn w)) (by omega) (Nat.pos_of_ne_zero (fun q => c1 (by rw [q]; rfl))) (by omega)]
    refine j_istore dL_isActed_18 (by decide) ?_
    refine j_iload dL_isActed_20 rfl ?_
    refine j_bipush (v := 12) dL_isActed_22 (by decide) ?_
    refine j_idiv dL_isActed_24 (by decide) ?_
    rw [show nI y / 12 = nI (y / 12) from pk_div (d := 12) (by omega) (by decide) (by decide)]
    refine j_istore dL_isActed_25 (by decide) ?_
    exact s_ia_27 hz hc hM hB hb hm hb9 hwa hy hnn (kk := y % (aNn w)) (zz := (y / 12)) (fun q => Nat.mod_lt _ (Nat.pos_of_ne_zero q)) (by omega) hQ
  · refine j_iconst (v := 0) dL_isActed_7 (by decide) ?_
    refine j_goto dL_isActed_8 (tgt := 18) rfl ?_
    skip
    refine j_istore dL_isActed_18 (by decide) ?_
    refine j_iload dL_isActed_20 rfl ?_
    refine j_bipush (v := 12) dL_isActed_22 (by decide) ?_
    refine j_idiv dL_isActed_24 (by decide) ?_
    rw [show nI y / 12 = nI (y / 12) from pk_div (d := 12) (by omega) (by decide) (by decide)]
    refine j_istore dL_isActed_25 (by decide) ?_
    exact s_ia_27 hz hc hM hB hb hm hb9 hwa hy hnn (kk := 0) (zz := (y / 12)) (fun q => Nat.pos_of_ne_zero q) (by omega) hQ
set_option maxRecDepth 4000 in
set_option maxHeartbeats 2000000 in
theorem s_isActed1 {g : zH} {w pa tx : Nat → Int32} {n0 T nz b m : Nat} (hz : 6 ≤ nz) (hc : CH (gV g w) w pa n0 tx T) (hM : aM w) (hB : LB w) (hb : aR (w 198) 0 b) (hm : aR (w 209) 0 m) (hz2 : nz ≤ 100) (hm9 : m ≤ 900) {y : Nat} (hy : y < 2 ^ 29) (h148 : ¬ w 148 = 1) : zCT mL_isActed1 [.ref 0, .ref 215, .ref 216, .ref 217, .ref 218, .ref 219, .ref 220, .int (nI 14), .int (nI y)] (215 + nz) (gV g w) (215 + nz + 1) (fun r h' => r = some 1 ∧ LW h' (b + 12) (m + 1)) := by
  intro X Q hQ
  show zJ X mL_isActed1 (215 + nz) 0 [.ref 0, .ref 215, .ref 216, .ref 217, .ref 218, .ref 219, .ref 220, .int (nI 14), .int (nI y), .null, .null, .null, .null, .null] [] (215 + nz) (gV g w) Q
  have hI := hM.1.1
  have hn := hI.1.1
  have hN := hI.1.2
  have hw := hI.2.1.1
  have hW := hI.2.1.2
  have hb' : aR (w 198) 0 (b + 12) := aR_up (by omega) hb
  have hm' : aR (w 209) 0 (m + 1) := aR_up (by omega) hm
  obtain ⟨m1, -, hm2, h9m⟩ := id hm
  have h209 : ¬ w 209 = 999 := by
    rw [h9m]
    exact fun q => absurd ((nI_eq (b := 999) (by omega) (by decide)).mp q) (by omega)
  refine j_aload dL_isActed_0 rfl ?_
  refine j_iconst (v := 1) dL_isActed_2 (by decide) ?_
  refine l_ld (a := 220) (i := 1) (v := nI (aNn w)) 199 dL_isActed_3 (by decide) rfl hz (rfl) (by decide) rfl (hn) ?_
  refine j_if_ne dL_isActed_4 (tgt := 11) rfl (fun c1 => ?_) (fun c1 => ?_)
  · refine j_iload dL_isActed_11 rfl ?_
    refine j_aload dL_isActed_13 rfl ?_
    refine j_iconst (v := 1) dL_isActed_15 (by decide) ?_
    refine l_ld (a := 220) (i := 1) (v := nI (aNn w)) 199 dL_isActed_16 (by decide) rfl hz (rfl) (by decide) rfl (hn) ?_
    refine j_irem dL_isActed_17 (by assumption) ?_
    rw [pk_rem (a := y) (d := (aNn w)) (by omega) (Nat.pos_of_ne_zero (fun q => c1 (by rw [q]; rfl))) (by omega)]
    refine j_istore dL_isActed_18 (by decide) ?_
    refine j_iload dL_isActed_20 rfl ?_
    refine j_bipush (v := 12) dL_isActed_22 (by decide) ?_
    refine j_idiv dL_isActed_24 (by decide) ?_
    rw [show nI y / 12 = nI (y / 12) from pk_div (d := 12) (by omega) (by decide) (by decide)]
    refine j_istore dL_isActed_25 (by decide) ?_
    refine j_iload dL_isActed_27 rfl ?_
    refine j_iconst (v := 5) dL_isActed_29 (by decide) ?_
    refine j_icmp_ge dL_isActed_30 (tgt := 56) rfl (fun _ => ?_) (fun c2 => absurd (show (5 : Int32) ≤ nI 14 by decide) c2)
    refine j_iload dL_isActed_56 rfl ?_
    refine j_bipush (v := 7) dL_isActed_58 (by decide) ?_
    refine j_icmp_ge dL_isActed_60 (tgt := 73) rfl (fun _ => ?_) (fun c3 => absurd (show (7 : Int32) ≤ nI 14 by decide) c3)
    refine j_aload dL_isActed_73 rfl ?_
    refine j_iconst (v := 1) dL_isActed_75 (by decide) ?_
    refine l_ld (a := 220) (i := 1) (v := nI (aNn w)) 199 dL_isActed_76 (by decide) rfl hz (rfl) (by decide) rfl (hn) ?_
    refine j_if_ne dL_isActed_77 (tgt := 125) rfl (fun c4 => ?_) (fun c4 => ?_)
    · refine j_iload dL_isActed_125 rfl ?_
      refine j_bipush (v := 11) dL_isActed_127 (by decide) ?_
      refine j_icmp_ge dL_isActed_129 (tgt := 165) rfl (fun _ => ?_) (fun c5 => absurd (show (11 : Int32) ≤ nI 14 by decide) c5)
      refine j_iload dL_isActed_165 rfl ?_
      refine j_bipush (v := 14) dL_isActed_167 (by decide) ?_
      refine j_icmp_ge dL_isActed_169 (tgt := 202) rfl (fun _ => ?_) (fun c6 => absurd (show (14 : Int32) ≤ nI 14 by decide) c6)
      refine j_iload dL_isActed_202 rfl ?_
      refine j_bipush (v := 14) dL_isActed_204 (by decide) ?_
      refine j_icmp_ne dL_isActed_206 (tgt := 259) rfl (fun c7 => absurd c7 (fun q => q rfl)) (fun _ => ?_)
      refine j_aload dL_isActed_209 rfl ?_
      refine j_bipush (v := 9) dL_isActed_211 (by decide) ?_
      refine l_ld (a := 218) (i := 9) 148 dL_isActed_213 (by decide) rfl hz (rfl) (by decide) rfl rfl ?_
      refine j_iconst (v := 1) dL_isActed_214 (by decide) ?_
      refine j_icmp_ne dL_isActed_215 (tgt := 233) rfl (fun _ => ?_) (fun c8 => absurd c8 h148)
      refine j_aload_n dL_isActed_233 rfl ?_
      refine j_aload_n dL_isActed_234 rfl ?_
      refine j_aload dL_isActed_235 rfl ?_
      refine j_callS3v (M' := mL_night) (nx' := 215 + nz + 1) dL_isActed_237 (show zSS mL_isActed1 106 mL_night 3 from vL_isActed_106) (s_night hz hz2 hI) rfl rfl rfl (Nat.le_of_ble_eq_true rfl) (Nat.le_refl _) rfl (show zN (215 + nz) + zZ (215 + nz) = zN (215 + nz) + 12 by rw [zZ_had hz]) (show 215 + nz - (215 + nz) + 1 ≤ 1 by omega) (show zN (215 + nz) - zN (215 + nz) + 12 ≤ 12 by omega) rfl ?_
      rintro _ ⟨-, F, rfl⟩
      show zJ X mL_isActed1 (215 + nz) _ _ _ (215 + (nz + 1)) _ Q
      have hcF := CH_vh (t := aNight w w (aNn w)) (F := F) (nz := nz) hc
      have K := o_night (nz := nz + 1) hcF hM (sp := w) (fun _ _ => rfl)
      have eN : aNgt w w (aNn w) = (nI (aPop 12 (aCo (aNight w w (aNn w)) (aNn w) 0 0)), true, aNight w w (aNn w)) := (if_neg h148).trans (if_neg h209)
      have hMq := lM_ngt (sp := w) hM
      rw [eN] at hMq K
      refine j_aload_n dL_isActed_240 rfl ?_
      refine j_callV0i dL_isActed_241 (show zSV mL_isActed1 103 mX4_night 0 4 from vL_isActed_103) K rfl (by omega) (Nat.le_of_ble_eq_true rfl) (by omega) rfl rfl (show 215 + (nz + 1) - (215 + nz) + 0 ≤ 1 by omega) (show zN (215 + nz) + zZ (215 + nz) - zN (215 + nz) + 0 ≤ 12 by rw [zZ_had hz]; omega) rfl ?_
      rintro _ h1 ⟨⟨⟩, e1, c1⟩
      refine z_to (gV_of e1) ?_
      refine j_aload_n dL_isActed_244 rfl ?_
      refine j_aload dL_isActed_245 rfl ?_
      refine j_callS2i dL_isActed_247 (show zSS mL_isActed1 109 mL_ill 2 from vL_isActed_109) (s_ill (show 6 ≤ nz + 1 by omega) (aIa_night (sp := w) hI).1.1 hN) rfl rfl (Nat.le_of_ble_eq_true rfl) (by omega) rfl rfl (show 215 + (nz + 1) - (215 + nz) + 0 ≤ 1 by omega) (show zN (215 + nz) + zZ (215 + nz) - zN (215 + nz) + 0 ≤ 12 by rw [zZ_had hz]; omega) rfl ?_
      rintro _ _ ⟨⟨⟩, rfl⟩
      refine j_icmp_ne dL_isActed_250 (tgt := 257) rfl (fun c9 => absurd c9 (fun q => q (lPop0 hN))) (fun _ => ?_)
      refine j_iconst (v := 1) dL_isActed_253 (by decide) ?_
      refine j_goto dL_isActed_254 (tgt := 258) rfl ?_
      refine j_iret dL_isActed_258 rfl (rfl) ?_
      exact hQ _ _ ⟨rfl, LW_g c1 (fun _ _ => rfl) hMq (lNight_LB hN hB) (by rw [aNight_n hN (by decide) (fun i hi => by omega)]; exact hb') (by rw [aNight_209 hN, h9m, nI_1]; exact ⟨_, Nat.zero_le _, by omega, rfl⟩)⟩
    · refine j_iload dL_isActed_80 rfl ?_
      refine j_bipush (v := 14) dL_isActed_82 (by decide) ?_
      refine j_icmp_ge dL_isActed_84 (tgt := 125) rfl (fun _ => ?_) (fun c10 => absurd (show (14 : Int32) ≤ nI 14 by decide) c10)
      refine j_iload dL_isActed_125 rfl ?_
      refine j_bipush (v := 11) dL_isActed_127 (by decide) ?_
      refine j_icmp_ge dL_isActed_129 (tgt := 165) rfl (fun _ => ?_) (fun c11 => absurd (show (11 : Int32) ≤ nI 14 by decide) c11)
      refine j_iload dL_isActed_165 rfl ?_
      refine j_bipush (v := 14) dL_isActed_167 (by decide) ?_
      refine j_icmp_ge dL_isActed_169 (tgt := 202) rfl (fun _ => ?_) (fun c12 => absurd (show (14 : Int32) ≤ nI 14 by decide) c12)
      refine j_iload dL_isActed_202 rfl ?_
      refine j_bipush (v := 14) dL_isActed_204 (by decide) ?_
      refine j_icmp_ne dL_isActed_206 (tgt := 259) rfl (fun c13 => absurd c13 (fun q => q rfl)) (fun _ => ?_)
      refine j_aload dL_isActed_209 rfl ?_
      refine j_bipush (v := 9) dL_isActed_211 (by decide) ?_
      refine l_ld (a := 218) (i := 9) 148 dL_isActed_213 (by decide) rfl hz (rfl) (by decide) rfl rfl ?_
      refine j_iconst (v := 1) dL_isActed_214 (by decide) ?_
      refine j_icmp_ne dL_isActed_215 (tgt := 233) rfl (fun _ => ?_) (fun c14 => absurd c14 h148)
      refine j_aload_n dL_isActed_233 rfl ?_
      refine j_aload_n dL_isActed_234 rfl ?_
      refine j_aload dL_isActed_235 rfl ?_
      refine j_callS3v (M' := mL_night) (nx' := 215 + nz + 1) dL_isActed_237 (show zSS mL_isActed1 106 mL_night 3 from vL_isActed_106) (s_night hz hz2 hI) rfl rfl rfl (Nat.le_of_ble_eq_true rfl) (Nat.le_refl _) rfl (show zN (215 + nz) + zZ (215 + nz) = zN (215 + nz) + 12 by rw [zZ_had hz]) (show 215 + nz - (215 + nz) + 1 ≤ 1 by omega) (show zN (215 + nz) - zN (215 + nz) + 12 ≤ 12 by omega) rfl ?_
      rintro _ ⟨-, F, rfl⟩
      show zJ X mL_isActed1 (215 + nz) _ _ _ (215 + (nz + 1)) _ Q
      have hcF := CH_vh (t := aNight w w (aNn w)) (F := F) (nz := nz) hc
      have K := o_night (nz := nz + 1) hcF hM (sp := w) (fun _ _ => rfl)
      have eN : aNgt w w (aNn w) = (nI (aPop 12 (aCo (aNight w w (aNn w)) (aNn w) 0 0)), true, aNight w w (aNn w)) := (if_neg h148).trans (if_neg h209)
      have hMq := lM_ngt (sp := w) hM
      rw [eN] at hMq K
      refine j_aload_n dL_isActed_240 rfl ?_
      refine j_callV0i dL_isActed_241 (show zSV mL_isActed1 103 mX4_night 0 4 from vL_isActed_103) K rfl (by omega) (Nat.le_of_ble_eq_true rfl) (by omega) rfl rfl (show 215 + (nz + 1) - (215 + nz) + 0 ≤ 1 by omega) (show zN (215 + nz) + zZ (215 + nz) - zN (215 + nz) + 0 ≤ 12 by rw [zZ_had hz]; omega) rfl ?_
      rintro _ h1 ⟨⟨⟩, e1, c1⟩
      refine z_to (gV_of e1) ?_
      refine j_aload_n dL_isActed_244 rfl ?_
      refine j_aload dL_isActed_245 rfl ?_
      refine j_callS2i dL_isActed_247 (show zSS mL_isActed1 109 mL_ill 2 from vL_isActed_109) (s_ill (show 6 ≤ nz + 1 by omega) (aIa_night (sp := w) hI).1.1 hN) rfl rfl (Nat.le_of_ble_eq_true rfl) (by omega) rfl rfl (show 215 + (nz + 1) - (215 + nz) + 0 ≤ 1 by omega) (show zN (215 + nz) + zZ (215 + nz) - zN (215 + nz) + 0 ≤ 12 by rw [zZ_had hz]; omega) rfl ?_
      rintro _ _ ⟨⟨⟩, rfl⟩
      refine j_icmp_ne dL_isActed_250 (tgt := 257) rfl (fun c15 => absurd c15 (fun q => q (lPop0 hN))) (fun _ => ?_)
      refine j_iconst (v := 1) dL_isActed_253 (by decide) ?_
      refine j_goto dL_isActed_254 (tgt := 258) rfl ?_
      refine j_iret dL_isActed_258 rfl (rfl) ?_
      exact hQ _ _ ⟨rfl, LW_g c1 (fun _ _ => rfl) hMq (lNight_LB hN hB) (by rw [aNight_n hN (by decide) (fun i hi => by omega)]; exact hb') (by rw [aNight_209 hN, h9m, nI_1]; exact ⟨_, Nat.zero_le _, by omega, rfl⟩)⟩
  · refine j_iconst (v := 0) dL_isActed_7 (by decide) ?_
    refine j_goto dL_isActed_8 (tgt := 18) rfl ?_
    skip
    refine j_istore dL_isActed_18 (by decide) ?_
    refine j_iload dL_isActed_20 rfl ?_
    refine j_bipush (v := 12) dL_isActed_22 (by decide) ?_
    refine j_idiv dL_isActed_24 (by decide) ?_
    rw [show nI y / 12 = nI (y / 12) from pk_div (d := 12) (by omega) (by decide) (by decide)]
    refine j_istore dL_isActed_25 (by decide) ?_
    refine j_iload dL_isActed_27 rfl ?_
    refine j_iconst (v := 5) dL_isActed_29 (by decide) ?_
    refine j_icmp_ge dL_isActed_30 (tgt := 56) rfl (fun _ => ?_) (fun c16 => absurd (show (5 : Int32) ≤ nI 14 by decide) c16)
    refine j_iload dL_isActed_56 rfl ?_
    refine j_bipush (v := 7) dL_isActed_58 (by decide) ?_
    refine j_icmp_ge dL_isActed_60 (tgt := 73) rfl (fun _ => ?_) (fun c17 => absurd (show (7 : Int32) ≤ nI 14 by decide) c17)
    refine j_aload dL_isActed_73 rfl ?_
    refine j_iconst (v := 1) dL_isActed_75 (by decide) ?_
    refine l_ld (a := 220) (i := 1) (v := nI (aNn w)) 199 dL_isActed_76 (by decide) rfl hz (rfl) (by decide) rfl (hn) ?_
    refine j_if_ne dL_isActed_77 (tgt := 125) rfl (fun c18 => ?_) (fun c18 => ?_)
    · refine j_iload dL_isActed_125 rfl ?_
      refine j_bipush (v := 11) dL_isActed_127 (by decide) ?_
      refine j_icmp_ge dL_isActed_129 (tgt := 165) rfl (fun _ => ?_) (fun c19 => absurd (show (11 : Int32) ≤ nI 14 by decide) c19)
      refine j_iload dL_isActed_165 rfl ?_
      refine j_bipush (v := 14) dL_isActed_167 (by decide) ?_
      refine j_icmp_ge dL_isActed_169 (tgt := 202) rfl (fun _ => ?_) (fun c20 => absurd (show (14 : Int32) ≤ nI 14 by decide) c20)
      refine j_iload dL_isActed_202 rfl ?_
      refine j_bipush (v := 14) dL_isActed_204 (by decide) ?_
      refine j_icmp_ne dL_isActed_206 (tgt := 259) rfl (fun c21 => absurd c21 (fun q => q rfl)) (fun _ => ?_)
      refine j_aload dL_isActed_209 rfl ?_
      refine j_bipush (v := 9) dL_isActed_211 (by decide) ?_
      refine l_ld (a := 218) (i := 9) 148 dL_isActed_213 (by decide) rfl hz (rfl) (by decide) rfl rfl ?_
      refine j_iconst (v := 1) dL_isActed_214 (by decide) ?_
      refine j_icmp_ne dL_isActed_215 (tgt := 233) rfl (fun _ => ?_) (fun c22 => absurd c22 h148)
      refine j_aload_n dL_isActed_233 rfl ?_
      refine j_aload_n dL_isActed_234 rfl ?_
      refine j_aload dL_isActed_235 rfl ?_
      refine j_callS3v (M' := mL_night) (nx' := 215 + nz + 1) dL_isActed_237 (show zSS mL_isActed1 106 mL_night 3 from vL_isActed_106) (s_night hz hz2 hI) rfl rfl rfl (Nat.le_of_ble_eq_true rfl) (Nat.le_refl _) rfl (show zN (215 + nz) + zZ (215 + nz) = zN (215 + nz) + 12 by rw [zZ_had hz]) (show 215 + nz - (215 + nz) + 1 ≤ 1 by omega) (show zN (215 + nz) - zN (215 + nz) + 12 ≤ 12 by omega) rfl ?_
      rintro _ ⟨-, F, rfl⟩
      show zJ X mL_isActed1 (215 + nz) _ _ _ (215 + (nz + 1)) _ Q
      have hcF := CH_vh (t := aNight w w (aNn w)) (F := F) (nz := nz) hc
      have K := o_night (nz := nz + 1) hcF hM (sp := w) (fun _ _ => rfl)
      have eN : aNgt w w (aNn w) = (nI (aPop 12 (aCo (aNight w w (aNn w)) (aNn w) 0 0)), true, aNight w w (aNn w)) := (if_neg h148).trans (if_neg h209)
      have hMq := lM_ngt (sp := w) hM
      rw [eN] at hMq K
      refine j_aload_n dL_isActed_240 rfl ?_
      refine j_callV0i dL_isActed_241 (show zSV mL_isActed1 103 mX4_night 0 4 from vL_isActed_103) K rfl (by omega) (Nat.le_of_ble_eq_true rfl) (by omega) rfl rfl (show 215 + (nz + 1) - (215 + nz) + 0 ≤ 1 by omega) (show zN (215 + nz) + zZ (215 + nz) - zN (215 + nz) + 0 ≤ 12 by rw [zZ_had hz]; omega) rfl ?_
      rintro _ h1 ⟨⟨⟩, e1, c1⟩
      refine z_to (gV_of e1) ?_
      refine j_aload_n dL_isActed_244 rfl ?_
      refine j_aload dL_isActed_245 rfl ?_
      refine j_callS2i dL_isActed_247 (show zSS mL_isActed1 109 mL_ill 2 from vL_isActed_109) (s_ill (show 6 ≤ nz + 1 by omega) (aIa_night (sp := w) hI).1.1 hN) rfl rfl (Nat.le_of_ble_eq_true rfl) (by omega) rfl rfl (show 215 + (nz + 1) - (215 + nz) + 0 ≤ 1 by omega) (show zN (215 + nz) + zZ (215 + nz) - zN (215 + nz) + 0 ≤ 12 by rw [zZ_had hz]; omega) rfl ?_
      rintro _ _ ⟨⟨⟩, rfl⟩
      refine j_icmp_ne dL_isActed_250 (tgt := 257) rfl (fun c23 => absurd c23 (fun q => q (lPop0 hN))) (fun _ => ?_)
      refine j_iconst (v := 1) dL_isActed_253 (by decide) ?_
      refine j_goto dL_isActed_254 (tgt := 258) rfl ?_
      refine j_iret dL_isActed_258 rfl (rfl) ?_
      exact hQ _ _ ⟨rfl, LW_g c1 (fun _ _ => rfl) hMq (lNight_LB hN hB) (by rw [aNight_n hN (by decide) (fun i hi => by omega)]; exact hb') (by rw [aNight_209 hN, h9m, nI_1]; exact ⟨_, Nat.zero_le _, by omega, rfl⟩)⟩
    · refine j_iload dL_isActed_80 rfl ?_
      refine j_bipush (v := 14) dL_isActed_82 (by decide) ?_
      refine j_icmp_ge dL_isActed_84 (tgt := 125) rfl (fun _ => ?_) (fun c24 => absurd (show (14 : Int32) ≤ nI 14 by decide) c24)
      refine j_iload dL_isActed_125 rfl ?_
      refine j_bipush (v := 11) dL_isActed_127 (by decide) ?_
      refine j_icmp_ge dL_isActed_129 (tgt := 165) rfl (fun _ => ?_) (fun c25 => absurd (show (11 : Int32) ≤ nI 14 by decide) c25)
      refine j_iload dL_isActed_165 rfl ?_
      refine j_bipush (v := 14) dL_isActed_167 (by decide) ?_
      refine j_icmp_ge dL_isActed_169 (tgt := 202) rfl (fun _ => ?_) (fun c26 => absurd (show (14 : Int32) ≤ nI 14 by decide) c26)
      refine j_iload dL_isActed_202 rfl ?_
      refine j_bipush (v := 14) dL_isActed_204 (by decide) ?_
      refine j_icmp_ne dL_isActed_206 (tgt := 259) rfl (fun c27 => absurd c27 (fun q => q rfl)) (fun _ => ?_)
      refine j_aload dL_isActed_209 rfl ?_
      refine j_bipush (v := 9) dL_isActed_211 (by decide) ?_
      refine l_ld (a := 218) (i := 9) 148 dL_isActed_213 (by decide) rfl hz (rfl) (by decide) rfl rfl ?_
      refine j_iconst (v := 1) dL_isActed_214 (by decide) ?_
      refine j_icmp_ne dL_isActed_215 (tgt := 233) rfl (fun _ => ?_) (fun c28 => absurd c28 h148)
      refine j_aload_n dL_isActed_233 rfl ?_
      refine j_aload_n dL_isActed_234 rfl ?_
      refine j_aload dL_isActed_235 rfl ?_
      refine j_callS3v (M' := mL_night) (nx' := 215 + nz + 1) dL_isActed_237 (show zSS mL_isActed1 106 mL_night 3 from vL_isActed_106) (s_night hz hz2 hI) rfl rfl rfl (Nat.le_of_ble_eq_true rfl) (Nat.le_refl _) rfl (show zN (215 + nz) + zZ (215 + nz) = zN (215 + nz) + 12 by rw [zZ_had hz]) (show 215 + nz - (215 + nz) + 1 ≤ 1 by omega) (show zN (215 + nz) - zN (215 + nz) + 12 ≤ 12 by omega) rfl ?_
      rintro _ ⟨-, F, rfl⟩
      show zJ X mL_isActed1 (215 + nz) _ _ _ (215 + (nz + 1)) _ Q
      have hcF := CH_vh (t := aNight w w (aNn w)) (F := F) (nz := nz) hc
      have K := o_night (nz := nz + 1) hcF hM (sp := w) (fun _ _ => rfl)
      have eN : aNgt w w (aNn w) = (nI (aPop 12 (aCo (aNight w w (aNn w)) (aNn w) 0 0)), true, aNight w w (aNn w)) := (if_neg h148).trans (if_neg h209)
      have hMq := lM_ngt (sp := w) hM
      rw [eN] at hMq K
      refine j_aload_n dL_isActed_240 rfl ?_
      refine j_callV0i dL_isActed_241 (show zSV mL_isActed1 103 mX4_night 0 4 from vL_isActed_103) K rfl (by omega) (Nat.le_of_ble_eq_true rfl) (by omega) rfl rfl (show 215 + (nz + 1) - (215 + nz) + 0 ≤ 1 by omega) (show zN (215 + nz) + zZ (215 + nz) - zN (215 + nz) + 0 ≤ 12 by rw [zZ_had hz]; omega) rfl ?_
      rintro _ h1 ⟨⟨⟩, e1, c1⟩
      refine z_to (gV_of e1) ?_
      refine j_aload_n dL_isActed_244 rfl ?_
      refine j_aload dL_isActed_245 rfl ?_
      refine j_callS2i dL_isActed_247 (show zSS mL_isActed1 109 mL_ill 2 from vL_isActed_109) (s_ill (show 6 ≤ nz + 1 by omega) (aIa_night (sp := w) hI).1.1 hN) rfl rfl (Nat.le_of_ble_eq_true rfl) (by omega) rfl rfl (show 215 + (nz + 1) - (215 + nz) + 0 ≤ 1 by omega) (show zN (215 + nz) + zZ (215 + nz) - zN (215 + nz) + 0 ≤ 12 by rw [zZ_had hz]; omega) rfl ?_
      rintro _ _ ⟨⟨⟩, rfl⟩
      refine j_icmp_ne dL_isActed_250 (tgt := 257) rfl (fun c29 => absurd c29 (fun q => q (lPop0 hN))) (fun _ => ?_)
      refine j_iconst (v := 1) dL_isActed_253 (by decide) ?_
      refine j_goto dL_isActed_254 (tgt := 258) rfl ?_
      refine j_iret dL_isActed_258 rfl (rfl) ?_
      exact hQ _ _ ⟨rfl, LW_g c1 (fun _ _ => rfl) hMq (lNight_LB hN hB) (by rw [aNight_n hN (by decide) (fun i hi => by omega)]; exact hb') (by rw [aNight_209 hN, h9m, nI_1]; exact ⟨_, Nat.zero_le _, by omega, rfl⟩)⟩
