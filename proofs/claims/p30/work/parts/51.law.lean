section L6
variable {h h1 g : zH} {s t w pa tx : Nat → Int32} {n T N W k b m : Nat}
/-- what the law keeps of its own -/
def LB (w : Nat → Int32) : Prop := (w 156 = 0 ∨ w 156 = 1) ∧ (∀ i, i < 8 → ¬ w (160 + 5 * i) < 0) ∧ w 215 = nI (aSm w 10 (aNn w))
def lRl (j : Nat) : Prop := j = 156 ∨ (j % 5 = 0 ∧ 160 ≤ j ∧ j < 198) ∨ j = 199 ∨ j = 215 ∨ (j < 132 ∧ j % 11 = 10)
theorem LB_of (hB : LB w) (hN : aNn w ≤ 12) (e : ∀ j, lRl j → t j = w j) : LB t := by
  have e9 : aNn t = aNn w := by
    show (t 199).toNatClampNeg = (w 199).toNatClampNeg
    rw [e 199 (by unfold lRl; omega)]
  refine ⟨by rw [e 156 (by unfold lRl; omega)]; exact hB.1, fun i hi => by rw [e _ (by unfold lRl; omega)]; exact hB.2.1 i hi, ?_⟩
  rw [e9, e 215 (by unfold lRl; omega), hB.2.2, aSm_c (s := w) (t := t) _ (fun k hk => e _ (by unfold lRl; omega))]
def LW (h : zH) (b m : Nat) : Prop := ∃ (w pa tx : Nat → Int32) (n T : Nat), h = gV h w ∧ CH h w pa n tx T ∧ aM w ∧ LB w ∧ aR (w 198) 0 b ∧ aR (w 209) 0 m
theorem CH_ext (hc : CH h s pa n tx T) (e : ∀ j, j < 215 → t j = s j) : CH h t pa n tx T := by
  obtain ⟨π, V, P, f, nm, h1, h2, h3⟩ := hc
  exact ⟨π, V, P, f, nm, h1, AT_ext h2 e, h3⟩
theorem CH_v (hc : CH (gV g w) s pa n tx T) : CH (gV g t) s pa n tx T := CH_lt (fun a ha => by rw [gV_ot (by omega), gV_ot (by omega)]) hc
theorem LW_g (hc : CH h1 s pa n tx T) (hs : ∀ j, j < 215 → t j = s j) (hM : aM s) (hB : LB t) (hb : aR (t 198) 0 b) (hm : aR (t 209) 0 m) : LW (gV h1 t) b m :=
  ⟨t, pa, tx, n, T, gV_of (fun x hx => by
    by_cases q : 215 ≤ x ∧ x < 221
    · unfold gV
      rw [if_pos q]
    · rw [gV_ot q]), CH_ext (CH_lt (fun a ha => gV_ot (by omega)) hc) hs, aM_ext hM hs, hB, hb, hm⟩
/-- cells that the law doesn't see -/
theorem jV_see {a i : Nat} (ha : 215 ≤ a ∧ a < 221) (hi : i < lV a) : 132 ≤ jV a i ∨ jV a i % 11 ≠ 10 := by
  rcases (show a = 215 ∨ a = 216 ∨ a = 217 ∨ a = 218 ∨ a = 219 ∨ a = 220 by omega) with rfl | rfl | rfl | rfl | rfl | rfl
  · rw [jV_a]
    omega
  · rw [jV_d]
    omega
  · rw [jV_q]
    omega
  · rw [jV_u]
    split <;> omega
  · rw [jV_b]
    omega
  · rw [jV_t]
    repeat' split
    all_goals omega
theorem gV_ext (e : ∀ j, (132 ≤ j ∨ j % 11 ≠ 10) → s j = t j) : gV g s = gV g t := by
  funext x
  by_cases q : 215 ≤ x ∧ x < 221
  · funext i
    by_cases hi : i < lV x
    · rw [gV_at q hi, gV_at q hi, e _ (jV_see q hi)]
    · rw [gV_z q hi, gV_z q hi]
  · rw [gV_ot q, gV_ot q]
theorem lIn {x : Int32} {a b : Nat} (h : aR x a b) (hb : b < 1000) : ¬ aIn x (nI a) (nI b) = 0 := by
  obtain ⟨j, h1, h2, rfl⟩ := h
  unfold aIn
  rw [if_neg (nI_nlt h1 (by omega)), if_neg (nI_nlt h2 (by omega))]
  decide
theorem lM_bidder {a1 a2 a3 a4 : Int32} (h : aM s) : aM (aBidder s (aNn s) a1 a2 a3 a4).2.2 := ⟨aK_bidder h.1, (aOk_bidder h).2.2⟩
theorem lM_setB {x y : Int32} {c : Nat} (hc : c = 4 ∨ c = 5) (h : aM s) : aM (aSetB s x y c).2.2 := ⟨aK_setB hc h.1, (aOk_setB hc h).2.2⟩
theorem lM_lot {x y : Int32} (h : aM s) : aM (aLot s (aWn s) x y).2.2 := ⟨aK_lot h.1, (aOk_lot h).2.2⟩
theorem lM_up (h : aM s) : aM (aUp s (aWn s)).2.2 := ⟨aK_up h.1, (aOk_up h).2.2⟩
theorem lM_cough {x : Int32} (h : aM s) : aM (aCough s x).2.2 := ⟨aK_cough h.1, (aOk_cough h).2.2⟩
theorem lM_beats {x : Int32} (h : aM s) : aM (aBeats s (aNn s) x).2.2 := ⟨aK_beats h.1, (aOk_beats h).2.2⟩
theorem lM_set {x y : Int32} (h : aM s) : aM (aSet s x y).2.2 := ⟨aK_set h.1, (aOk_set h).2.2⟩
theorem lM_ngt {sp : Nat → Int32} (h : aM s) : aM (aNgt s sp (aNn s)).2.2 := ⟨aK_ngt h.1, (aOk_ngt h).2.2⟩
theorem lFd_eq {r c : Int32} : ∀ n k : Nat, k + n ≤ 12 → (aFind s r c n k = -1000004 ∧ lFd s r c n k = -1) ∨ ∃ j, j < 12 ∧ aFind s r c n k = nI j ∧ lFd s r c n k = nI j
  | 0, _, _ => Or.inl ⟨rfl, rfl⟩
  | n + 1, k, hk => by
    unfold aFind lFd
    by_cases h1 : s (11 * k + 0) = r
    · rw [if_pos h1, if_pos h1]
      by_cases h2 : s (11 * k + 1) = c
      · rw [if_pos h2, if_pos h2]
        exact Or.inr ⟨k, by omega, rfl, rfl⟩
      · rw [if_neg h2, if_neg h2]
        exact lFd_eq n (k + 1) (by omega)
    · rw [if_neg h1, if_neg h1]
      exact lFd_eq n (k + 1) (by omega)
section BD
variable {R S P G : Int32} (hR : aR R 0 5) (hS : aR S 0 7) (hP : aR P 0 999) (hG : aR G 1 9)
theorem lBd_0 (hR : aR R 0 5) (hS : aR S 0 7) (hP : aR P 0 999) (hG : aR G 1 9) : aBidder w N R S P G = if aFind w R S N 0 < 0 then (if w 199 = 12 then (-1000003, false, w) else (nI N, true, aBid w N R S P G)) else (-1000002, false, w) := by
  have h1 : ¬ aSeat R S = 0 := by
    obtain ⟨p, -, p2, rfl⟩ := hR
    obtain ⟨q, -, q2, rfl⟩ := hS
    rw [lSeat1 p (by omega) q (by omega)]
    decide
  unfold aBidder
  rw [if_neg h1, if_neg (show ¬ aIn P 0 999 = 0 from lIn hP (by decide)), if_neg (show ¬ aIn G 1 9 = 0 from lIn hG (by decide))]
end BD
theorem lSm_bid {R S P G : Int32} {p : Nat} (hp : P = nI p) (hp2 : p ≤ 999) : aSm (aBid w N R S P G) 10 (N + 1) = aSm w 10 N + p := by
  show aSm (aBid w N R S P G) 10 N + (aBid w N R S P G (11 * N + 10)).toNatClampNeg = _
  have e1 : aBid w N R S P G (11 * N + 10) = nI p := by
    by_cases q : 11 * N + 10 = 199
    · omega
    · show upd (upd _ (11 * N + 10) P) 199 _ (11 * N + 10) = _
      rw [pk_un q, pk_us, hp]
  rw [e1, nI_clamp (by omega), aSm_c (s := w) (t := aBid w N R S P G) N (fun k hk => ?_)]
  by_cases q : 11 * k + 10 = 199
  · omega
  · show upd (upd (upd (upd (upd (upd _ (11 * N + 0) R) (11 * N + 1) S) (11 * N + 2) P) (11 * N + 3) G) (11 * N + 10) P) 199 _ (11 * k + 10) = _
    rw [pk_un q, pk_un (by omega), pk_un (by omega), pk_un (by omega), pk_un (by omega), pk_un (by omega)]
end L6
theorem lBd_w {w : Nat → Int32} {N : Nat} (hN : N < 12) {R S P G : Int32} (j : Nat) (hj : 132 ≤ j ∨ j % 11 ≠ 10) : upd (upd (upd (upd (upd (upd w (11 * N + 0) R) (11 * N + 1) S) (11 * N + 2) P) (11 * N + 3) G) 215 (upd (upd (upd (upd w (11 * N + 0) R) (11 * N + 1) S) (11 * N + 2) P) (11 * N + 3) G 215 + P)) 199 (upd (upd (upd (upd (upd w (11 * N + 0) R) (11 * N + 1) S) (11 * N + 2) P) (11 * N + 3) G) 215 (upd (upd (upd (upd w (11 * N + 0) R) (11 * N + 1) S) (11 * N + 2) P) (11 * N + 3) G 215 + P) 199 + 1) j = upd (aBid w N R S P G) 215 (w 215 + P) j := by
  show _ = upd (upd (upd (upd (upd (upd (upd w (11 * N + 0) R) (11 * N + 1) S) (11 * N + 2) P) (11 * N + 3) G) (11 * N + 10) P) 199 (upd (upd (upd (upd (upd w (11 * N + 0) R) (11 * N + 1) S) (11 * N + 2) P) (11 * N + 3) G) (11 * N + 10) P 199 + 1)) 215 (w 215 + P) j
  have e1 : upd (upd (upd (upd w (11 * N + 0) R) (11 * N + 1) S) (11 * N + 2) P) (11 * N + 3) G 215 = w 215 := by rw [pk_un (by omega), pk_un (by omega), pk_un (by omega), pk_un (by omega)]
  rw [e1]
  generalize upd (upd (upd (upd w (11 * N + 0) R) (11 * N + 1) S) (11 * N + 2) P) (11 * N + 3) G = t
  rw [pk_un (k := 215) (j := 199) (by decide), pk_un (k := 11 * N + 10) (j := 199) (by omega)]
  have hj2 : j ≠ 11 * N + 10 := by omega
  unfold upd
  by_cases q1 : j = 199
  · rw [if_pos q1, if_neg (by omega), if_pos q1]
  · rw [if_neg q1]
    by_cases q2 : j = 215
    · rw [if_pos q2, if_pos q2]
    · rw [if_neg q2, if_neg q2, if_neg q1, if_neg hj2]
set_option maxRecDepth 4000 in
set_option maxHeartbeats 2000000 in
theorem s_ic {g : zH} {w pa tx : Nat → Int32} {n0 T nz b m : Nat} (hz : 6 ≤ nz) (hc : CH (gV g w) w pa n0 tx T) (hM : aM w) (hB : LB w) (hb : aR (w 198) 0 b) (hm : aR (w 209) 0 m) {y : Nat} {wa R S P G : Int32} (hR : aR R 0 5) (hS : aR S 0 7) (hP : aR P 0 999) (hG : aR G 1 9) {X : Nat × (Nat → Int32)} {Q : zQt} (hQ : ∀ r h', r = some 1 ∧ LW h' b m → Q r (215 + nz) h') : zJ X mL_isComing (215 + nz) 59 [.ref 0, .ref 215, .ref 216, .ref 217, .ref 220, .int wa, .int (nI y), .int R, .int S, .int P, .int G, .null] [] (215 + nz) (gV g w) Q := by
  have hI := hM.1.1
  have hn := hI.1.1
  have hN := hI.1.2
  have hw := hI.2.1.1
  have hW := hI.2.1.2
  have K := o_bidder (nz := nz) hc hM (a1 := R) (a2 := S) (a3 := P) (a4 := G)
  have eB := lBd_0 (w := w) (N := (aNn w)) hR hS hP hG
  rcases lFd_eq (s := w) (r := R) (c := S) (aNn w) 0 (by omega) with ⟨f1, f2⟩ | ⟨j, hj, f1, f2⟩
  · rw [f1, if_pos (by decide)] at eB
    by_cases q12 : nI (aNn w) = 12
    · rw [if_pos (hn.trans q12)] at eB
      rw [eB] at K
      refine j_aload_n dL_isComing_59 rfl ?_
      refine j_aload dL_isComing_60 rfl ?_
      refine j_iload dL_isComing_62 rfl ?_
      refine j_iload dL_isComing_64 rfl ?_
      refine k_callS4i dL_isComing_66 vL_isComing_65 (s_seat hz hn hN) rfl rfl rfl rfl (Nat.le_of_ble_eq_true rfl) ⟨rfl, rfl⟩ rfl ?_
      rintro _ _ ⟨⟨⟩, rfl⟩
      rw [f2]
      refine j_if_lt dL_isComing_69 (tgt := 77) rfl (fun _ => ?_) (fun c1 => absurd (by decide) c1)
      refine j_aload dL_isComing_77 rfl ?_
      refine j_iconst (v := 1) dL_isComing_79 (by decide) ?_
      refine l_ld (a := 220) (i := 1) (v := nI (aNn w)) 199 dL_isComing_80 (by decide) rfl hz (rfl) (by decide) rfl (hn) ?_
      refine j_bipush (v := 12) dL_isComing_81 (by decide) ?_
      refine j_icmp_ne dL_isComing_83 (tgt := 91) rfl (fun c2 => absurd c2 (fun q => q q12)) (fun _ => ?_)
      refine j_ldc (v := (-1000003)) dL_isComing_86 cL_69 ?_
      refine j_goto dL_isComing_88 (tgt := 95) rfl ?_
      refine j_istore dL_isComing_95 (by decide) ?_
      refine j_iload dL_isComing_97 rfl ?_
      refine j_if_lt dL_isComing_99 (tgt := 158) rfl (fun _ => ?_) (fun c3 => absurd (by decide) c3)
      refine j_aload_n dL_isComing_158 rfl ?_
      refine j_iload dL_isComing_159 rfl ?_
      refine j_iload dL_isComing_161 rfl ?_
      refine j_iload dL_isComing_163 rfl ?_
      refine j_iload dL_isComing_165 rfl ?_
      refine k_callV4i dL_isComing_167 vL_isComing_70 (K) rfl (by omega) rfl rfl rfl rfl (Nat.le_of_ble_eq_true rfl) ⟨rfl, rfl⟩ rfl ?_
      rintro _ h1 ⟨⟨⟩, e1, c1⟩
      refine z_to (gV_of e1) ?_
      refine j_iload dL_isComing_170 rfl ?_
      refine j_icmp_ne dL_isComing_172 (tgt := 179) rfl (fun c4 => absurd c4 (fun q => q rfl)) (fun _ => ?_)
      refine j_iconst (v := 1) dL_isComing_175 (by decide) ?_
      refine j_goto dL_isComing_176 (tgt := 180) rfl ?_
      refine j_iret dL_isComing_180 rfl (rfl) ?_
      exact hQ _ _ ⟨rfl, LW_g c1 (fun _ _ => rfl) hM hB hb hm⟩
    · rw [if_neg (fun q => q12 (hn.symm.trans q))] at eB
      have hN12 : (aNn w) < 12 := by
        have : (aNn w) ≠ 12 := fun q => q12 (by rw [q]; rfl)
        omega
      obtain ⟨p, -, p2, hp⟩ := hP
      have hMq := lM_bidder (a1 := R) (a2 := S) (a3 := P) (a4 := G) hM
      rw [eB] at hMq
      have hlo : ∀ j, 132 ≤ j → j ≠ 199 → j ≠ 215 → upd (aBid w (aNn w) R S P G) 215 (w 215 + P) j = w j := fun j h1 h2 h3 => by
        rw [pk_un h3]
        show upd (upd (upd (upd (upd (upd w (11 * (aNn w) + 0) R) (11 * (aNn w) + 1) S) (11 * (aNn w) + 2) P) (11 * (aNn w) + 3) G) (11 * (aNn w) + 10) P) 199 _ j = _
        rw [pk_un h2, pk_un (by omega), pk_un (by omega), pk_un (by omega), pk_un (by omega), pk_un (by omega)]
      have e9 : aNn (upd (aBid w (aNn w) R S P G) 215 (w 215 + P)) = (aNn w) + 1 := by
        have e : upd (aBid w (aNn w) R S P G) 215 (w 215 + P) 199 = nI ((aNn w) + 1) := by
          rw [pk_un (by decide)]
          show upd _ 199 (upd (upd (upd (upd (upd w (11 * (aNn w) + 0) R) (11 * (aNn w) + 1) S) (11 * (aNn w) + 2) P) (11 * (aNn w) + 3) G) (11 * (aNn w) + 10) P 199 + 1) 199 = _
          rw [pk_us, pk_un (by omega), pk_un (by omega), pk_un (by omega), pk_un (by omega), pk_un (by omega), hn, nI_1]
        show (upd (aBid w (aNn w) R S P G) 215 (w 215 + P) 199).toNatClampNeg = _
        rw [e, nI_clamp (by omega)]
      have hBq : LB (upd (aBid w (aNn w) R S P G) 215 (w 215 + P)) := by
        refine ⟨by rw [hlo 156 (by decide) (by decide) (by decide)]; exact hB.1, fun i hi => by rw [hlo _ (by omega) (by omega) (by omega)]; exact hB.2.1 i hi, ?_⟩
        rw [e9, aSm_c (s := aBid w (aNn w) R S P G) (t := upd (aBid w (aNn w) R S P G) 215 (w 215 + P)) ((aNn w) + 1) (fun k hk => pk_un (by omega)), lSm_bid hp p2, pk_us, hB.2.2, hp, nI_add]
      replace K := o_bidder (nz := nz) (CH_v (t := upd (aBid w (aNn w) R S P G) 215 (w 215 + P)) hc) hM (a1 := R) (a2 := S) (a3 := P) (a4 := G)
      rw [eB] at K
      refine j_aload_n dL_isComing_59 rfl ?_
      refine j_aload dL_isComing_60 rfl ?_
      refine j_iload dL_isComing_62 rfl ?_
      refine j_iload dL_isComing_64 rfl ?_
      refine k_callS4i dL_isComing_66 vL_isComing_65 (s_seat hz hn hN) rfl rfl rfl rfl (Nat.le_of_ble_eq_true rfl) ⟨rfl, rfl⟩ rfl ?_
      rintro _ _ ⟨⟨⟩, rfl⟩
      rw [f2]
      refine j_if_lt dL_isComing_69 (tgt := 77) rfl (fun _ => ?_) (fun c1 => absurd (by decide) c1)
      refine j_aload dL_isComing_77 rfl ?_
      refine j_iconst (v := 1) dL_isComing_79 (by decide) ?_
      refine l_ld (a := 220) (i := 1) (v := nI (aNn w)) 199 dL_isComing_80 (by decide) rfl hz (rfl) (by decide) rfl (hn) ?_
      refine j_bipush (v := 12) dL_isComing_81 (by decide) ?_
      refine j_icmp_ne dL_isComing_83 (tgt := 91) rfl (fun _ => ?_) (fun c2 => absurd c2 q12)
      refine j_aload dL_isComing_91 rfl ?_
      refine j_iconst (v := 1) dL_isComing_93 (by decide) ?_
      refine l_ld (a := 220) (i := 1) (v := nI (aNn w)) 199 dL_isComing_94 (by decide) rfl hz (rfl) (by decide) rfl (hn) ?_
      refine j_istore dL_isComing_95 (by decide) ?_
      refine j_iload dL_isComing_97 rfl ?_
      refine j_if_lt dL_isComing_99 (tgt := 158) rfl (fun c3 => absurd c3 (show ¬ nI (aNn w) < 0 from nI_pos (by omega))) (fun _ => ?_)
      refine j_aload_n dL_isComing_102 rfl ?_
      refine j_iconst (v := 5) dL_isComing_103 (by decide) ?_
      refine j_iload dL_isComing_104 rfl ?_
      refine j_imul dL_isComing_106 ?_
      refine j_iload dL_isComing_107 rfl ?_
      refine l_st (a := 215) (i := (5 * (aNn w))) (11 * (aNn w) + 0) dL_isComing_109 (by decide) rfl hz (by first | rfl | (simp only [z_n, pk_mul, nI_add]; done) | (simp only [z_n, pk_mul, nI_add]; exact pk_sub (by omega)) | (simp only [z_n, pk_mul, nI_add, pk_sub, *]; done)) (show _ < 60 by omega) jA0 ?_
      refine j_aload_n dL_isComing_110 rfl ?_
      refine j_iconst (v := 5) dL_isComing_111 (by decide) ?_
      refine j_iload dL_isComing_112 rfl ?_
      refine j_imul dL_isComing_114 ?_
      refine j_iconst (v := 1) dL_isComing_115 (by decide) ?_
      refine j_iadd dL_isComing_116 ?_
      refine j_iload dL_isComing_117 rfl ?_
      refine l_st (a := 215) (i := ((5 * (aNn w)) + 1)) (11 * (aNn w) + 1) dL_isComing_119 (by decide) rfl hz (by first | rfl | (simp only [z_n, pk_mul, nI_add]; done) | (simp only [z_n, pk_mul, nI_add]; exact pk_sub (by omega)) | (simp only [z_n, pk_mul, nI_add, pk_sub, *]; done)) (show _ < 60 by omega) (jA (by omega)) ?_
      refine j_aload_n dL_isComing_120 rfl ?_
      refine j_iconst (v := 5) dL_isComing_121 (by decide) ?_
      refine j_iload dL_isComing_122 rfl ?_
      refine j_imul dL_isComing_124 ?_
      refine j_iconst (v := 2) dL_isComing_125 (by decide) ?_
      refine j_iadd dL_isComing_126 ?_
      refine j_iload dL_isComing_127 rfl ?_
      refine l_st (a := 215) (i := ((5 * (aNn w)) + 2)) (11 * (aNn w) + 2) dL_isComing_129 (by decide) rfl hz (by first | rfl | (simp only [z_n, pk_mul, nI_add]; done) | (simp only [z_n, pk_mul, nI_add]; exact pk_sub (by omega)) | (simp only [z_n, pk_mul, nI_add, pk_sub, *]; done)) (show _ < 60 by omega) (jA (by omega)) ?_
      refine j_aload_n dL_isComing_130 rfl ?_
      refine j_iconst (v := 5) dL_isComing_131 (by decide) ?_
      refine j_iload dL_isComing_132 rfl ?_
      refine j_imul dL_isComing_134 ?_
      refine j_iconst (v := 3) dL_isComing_135 (by decide) ?_
      refine j_iadd dL_isComing_136 ?_
      refine j_iload dL_isComing_137 rfl ?_
      refine l_st (a := 215) (i := ((5 * (aNn w)) + 3)) (11 * (aNn w) + 3) dL_isComing_139 (by decide) rfl hz (by first | rfl | (simp only [z_n, pk_mul, nI_add]; done) | (simp only [z_n, pk_mul, nI_add]; exact pk_sub (by omega)) | (simp only [z_n, pk_mul, nI_add, pk_sub, *]; done)) (show _ < 60 by omega) (jA (by omega)) ?_
      refine j_aload dL_isComing_140 rfl ?_
      refine j_bipush (v := 14) dL_isComing_142 (by decide) ?_
      refine j_dup2 dL_isComing_144 rfl rfl ?_
      refine l_ld (a := 220) (i := 14) 215 dL_isComing_145 (by decide) rfl hz (rfl) (by decide) rfl rfl ?_
      refine j_iload dL_isComing_146 rfl ?_
      refine j_iadd dL_isComing_148 ?_
      refine l_st (a := 220) (i := 14) 215 dL_isComing_149 (by decide) rfl hz (rfl) (by decide) rfl ?_
      refine j_aload dL_isComing_150 rfl ?_
      refine j_iconst (v := 1) dL_isComing_152 (by decide) ?_
      refine j_dup2 dL_isComing_153 rfl rfl ?_
      refine l_ld (a := 220) (i := 1) (v := _) 199 dL_isComing_154 (by decide) rfl hz (rfl) (by decide) rfl (rfl) ?_
      refine j_iconst (v := 1) dL_isComing_155 (by decide) ?_
      refine j_iadd dL_isComing_156 ?_
      refine l_st (a := 220) (i := 1) 199 dL_isComing_157 (by decide) rfl hz (rfl) (by decide) rfl ?_
      refine z_to (gV_ext (lBd_w (w := w) hN12)) ?_
      refine j_aload_n dL_isComing_158 rfl ?_
      refine j_iload dL_isComing_159 rfl ?_
      refine j_iload dL_isComing_161 rfl ?_
      refine j_iload dL_isComing_163 rfl ?_
      refine j_iload dL_isComing_165 rfl ?_
      refine k_callV4i dL_isComing_167 vL_isComing_70 (K) rfl (by omega) rfl rfl rfl rfl (Nat.le_of_ble_eq_true rfl) ⟨rfl, rfl⟩ rfl ?_
      rintro _ h1 ⟨⟨⟩, e1, c1⟩
      refine z_to (gV_of e1) ?_
      refine j_iload dL_isComing_170 rfl ?_
      refine j_icmp_ne dL_isComing_172 (tgt := 179) rfl (fun c4 => absurd c4 (fun q => q rfl)) (fun _ => ?_)
      refine j_iconst (v := 1) dL_isComing_175 (by decide) ?_
      refine j_goto dL_isComing_176 (tgt := 180) rfl ?_
      refine j_iret dL_isComing_180 rfl (rfl) ?_
      exact hQ _ _ ⟨rfl, LW_g c1 (fun j hj => pk_un (by omega)) hMq hBq (by rw [hlo 198 (by decide) (by decide) (by decide)]; exact hb) (by rw [hlo 209 (by decide) (by decide) (by decide)]; exact hm)⟩
  · rw [f1, if_neg (nI_pos (by omega))] at eB
    rw [eB] at K
    refine j_aload_n dL_isComing_59 rfl ?_
    refine j_aload dL_isComing_60 rfl ?_
    refine j_iload dL_isComing_62 rfl ?_
    refine j_iload dL_isComing_64 rfl ?_
    refine k_callS4i dL_isComing_66 vL_isComing_65 (s_seat hz hn hN) rfl rfl rfl rfl (Nat.le_of_ble_eq_true rfl) ⟨rfl, rfl⟩ rfl ?_
    rintro _ _ ⟨⟨⟩, rfl⟩
    rw [f2]
    refine j_if_lt dL_isComing_69 (tgt := 77) rfl (fun c1 => absurd c1 (show ¬ nI j < 0 from nI_pos (by omega))) (fun _ => ?_)
    refine j_ldc (v := (-1000002)) dL_isComing_72 cL_61 ?_
    refine j_goto dL_isComing_74 (tgt := 95) rfl ?_
    refine j_istore dL_isComing_95 (by decide) ?_
    refine j_iload dL_isComing_97 rfl ?_
    refine j_if_lt dL_isComing_99 (tgt := 158) rfl (fun _ => ?_) (fun c2 => absurd (by decide) c2)
    refine j_aload_n dL_isComing_158 rfl ?_
    refine j_iload dL_isComing_159 rfl ?_
    refine j_iload dL_isComing_161 rfl ?_
    refine j_iload dL_isComing_163 rfl ?_
    refine j_iload dL_isComing_165 rfl ?_
    refine k_callV4i dL_isComing_167 vL_isComing_70 (K) rfl (by omega) rfl rfl rfl rfl (Nat.le_of_ble_eq_true rfl) ⟨rfl, rfl⟩ rfl ?_
    rintro _ h1 ⟨⟨⟩, e1, c1⟩
    refine z_to (gV_of e1) ?_
    refine j_iload dL_isComing_170 rfl ?_
    refine j_icmp_ne dL_isComing_172 (tgt := 179) rfl (fun c3 => absurd c3 (fun q => q rfl)) (fun _ => ?_)
    refine j_iconst (v := 1) dL_isComing_175 (by decide) ?_
    refine j_goto dL_isComing_176 (tgt := 180) rfl ?_
    refine j_iret dL_isComing_180 rfl (rfl) ?_
    exact hQ _ _ ⟨rfl, LW_g c1 (fun _ _ => rfl) hM hB hb hm⟩
theorem lLot {w : Nat → Int32} {W : Nat} {R V : Int32} (hR : aR R 1 99) (hV : aR V 1 20) : aLot w W R V = if w 200 = 8 then (-1000003, false, w) else (aLotT w W R V 200, true, aLotT w W R V) := by
  unfold aLot
  rw [if_neg (show ¬ aIn R 1 99 = 0 from lIn hR (by decide)), if_neg (show ¬ aIn V 1 20 = 0 from lIn hV (by decide))]
set_option maxRecDepth 4000 in
set_option maxHeartbeats 2000000 in
theorem s_isComing {g : zH} {w pa tx : Nat → Int32} {n0 T nz b m : Nat} (hz : 6 ≤ nz) (hc : CH (gV g w) w pa n0 tx T) (hM : aM w) (hB : LB w) (hb : aR (w 198) 0 b) (hm : aR (w 209) 0 m) {wa : Int32} {y : Nat} (hy : y < 2 ^ 30) : zCT mL_isComing [.ref 0, .ref 215, .ref 216, .ref 217, .ref 220, .int wa, .int (nI y)] (215 + nz) (gV g w) (215 + nz) (fun r h' => r = some 1 ∧ LW h' b m) := by
  intro X Q hQ
  show zJ X mL_isComing (215 + nz) 0 [.ref 0, .ref 215, .ref 216, .ref 217, .ref 220, .int wa, .int (nI y), .null, .null, .null, .null, .null] [] (215 + nz) (gV g w) Q
  have hI := hM.1.1
  have hn := hI.1.1
  have hN := hI.1.2
  have hw := hI.2.1.1
  have hW := hI.2.1.2
  refine j_iload dL_isComing_0 rfl ?_
  skip
  refine j_if_ne dL_isComing_2 (tgt := 181) rfl (fun c1 => ?_) (fun c1 => ?_)
  · refine j_aload dL_isComing_181 rfl ?_
    refine j_iconst (v := 2) dL_isComing_183 (by decide) ?_
    refine l_ld (a := 220) (i := 2) (v := nI (aWn w)) 200 dL_isComing_184 (by decide) rfl hz (rfl) (by decide) rfl (hw) ?_
    refine j_bipush (v := 8) dL_isComing_185 (by decide) ?_
    refine j_icmp_ne dL_isComing_187 (tgt := 194) rfl (fun c2 => ?_) (fun c2 => ?_)
    · refine j_iconst (v := 0) dL_isComing_194 (by decide) ?_
      refine j_istore dL_isComing_195 (by decide) ?_
      refine j_iload dL_isComing_197 rfl ?_
      refine j_if_ne dL_isComing_199 (tgt := 253) rfl (fun c3 => absurd c3 (fun q => q rfl)) (fun _ => ?_)
      have hW8 : (aWn w) < 8 := by
        have : (aWn w) ≠ 8 := fun q => c2 (by rw [q]; rfl)
        omega
      refine j_aload_n dL_isComing_202 rfl ?_
      refine j_iconst (v := 2) dL_isComing_203 (by decide) ?_
      refine j_aload dL_isComing_204 rfl ?_
      refine j_iconst (v := 2) dL_isComing_206 (by decide) ?_
      refine l_ld (a := 220) (i := 2) (v := nI (aWn w)) 200 dL_isComing_207 (by decide) rfl hz (rfl) (by decide) rfl (hw) ?_
      refine j_imul dL_isComing_208 ?_
      refine j_iconst (v := 1) dL_isComing_209 (by decide) ?_
      refine j_iload dL_isComing_210 rfl ?_
      refine j_bipush (v := 60) dL_isComing_212 (by decide) ?_
      refine j_irem dL_isComing_214 (by decide) ?_
      rw [show nI y - nI y / 60 * 60 = nI (y % 60) from pk_rem (d := 60) (by omega) (by decide) (by decide)]
      refine j_iadd dL_isComing_215 ?_
      refine l_st (a := 217) (i := (2 * (aWn w))) (132 + (2 * (aWn w))) dL_isComing_216 (by decide) rfl hz (by first | rfl | (simp only [z_n, pk_mul, nI_add]; done) | (simp only [z_n, pk_mul, nI_add]; exact pk_sub (by omega)) | (simp only [z_n, pk_mul, nI_add, pk_sub, *]; done)) (show _ < 16 by omega) rfl ?_
      refine j_aload_n dL_isComing_217 rfl ?_
      refine j_iconst (v := 2) dL_isComing_218 (by decide) ?_
      refine j_aload dL_isComing_219 rfl ?_
      refine j_iconst (v := 2) dL_isComing_221 (by decide) ?_
      refine l_ld (a := 220) (i := 2) (v := nI (aWn w)) 200 dL_isComing_222 (by decide) rfl hz (rfl) (by decide) rfl ((by rw [pk_un (by omega)]; exact hw)) ?_
      refine j_imul dL_isComing_223 ?_
      refine j_iconst (v := 1) dL_isComing_224 (by decide) ?_
      refine j_iadd dL_isComing_225 ?_
      refine j_iconst (v := 1) dL_isComing_226 (by decide) ?_
      refine j_iload dL_isComing_227 rfl ?_
      refine j_bipush (v := 60) dL_isComing_229 (by decide) ?_
      refine j_idiv dL_isComing_231 (by decide) ?_
      rw [show nI y / 60 = nI (y / 60) from pk_div (d := 60) (by omega) (by decide) (by decide)]
      refine j_bipush (v := 20) dL_isComing_232 (by decide) ?_
      refine j_irem dL_isComing_234 (by decide) ?_
      rw [show nI (y / 60) - nI (y / 60) / 20 * 20 = nI ((y / 60) % 20) from pk_rem (d := 20) (by omega) (by decide) (by decide)]
      refine j_iadd dL_isComing_235 ?_
      refine l_st (a := 217) (i := ((2 * (aWn w)) + 1)) (132 + ((2 * (aWn w)) + 1)) dL_isComing_236 (by decide) rfl hz (by first | rfl | (simp only [z_n, pk_mul, nI_add]; done) | (simp only [z_n, pk_mul, nI_add]; exact pk_sub (by omega)) | (simp only [z_n, pk_mul, nI_add, pk_sub, *]; done)) (show _ < 16 by omega) rfl ?_
      refine j_aload dL_isComing_237 rfl ?_
      refine j_iconst (v := 2) dL_isComing_239 (by decide) ?_
      refine j_dup2 dL_isComing_240 rfl rfl ?_
      refine l_ld (a := 220) (i := 2) 200 dL_isComing_241 (by decide) rfl hz (rfl) (by decide) rfl rfl ?_
      refine j_iconst (v := 1) dL_isComing_242 (by decide) ?_
      refine j_iadd dL_isComing_243 ?_
      refine l_st (a := 220) (i := 2) 200 dL_isComing_244 (by decide) rfl hz (rfl) (by decide) rfl ?_
      refine j_aload dL_isComing_245 rfl ?_
      refine j_iconst (v := 3) dL_isComing_247 (by decide) ?_
      refine j_dup2 dL_isComing_248 rfl rfl ?_
      refine l_ld (a := 220) (i := 3) 201 dL_isComing_249 (by decide) rfl hz (rfl) (by decide) rfl rfl ?_
      refine j_iconst (v := 1) dL_isComing_250 (by decide) ?_
      refine j_iadd dL_isComing_251 ?_
      refine l_st (a := 220) (i := 3) 201 dL_isComing_252 (by decide) rfl hz (rfl) (by decide) rfl ?_
      refine z_to (congrArg (gV g) (show _ = aLotT w (aWn w) (1 + nI (y % 60)) (1 + nI (y / 60 % 20)) from rfl)) ?_
      have eL := lLot (w := w) (W := (aWn w)) (R := 1 + nI (y % 60)) (V := 1 + nI (y / 60 % 20)) ⟨1 + y % 60, by omega, by omega, nI_add 1 _⟩ ⟨1 + y / 60 % 20, by omega, by omega, nI_add 1 _⟩
      rw [if_neg (fun q => c2 (hw.symm.trans q))] at eL
      have hMq := lM_lot (x := 1 + nI (y % 60)) (y := 1 + nI (y / 60 % 20)) hM
      rw [eL] at hMq
      have hl2 : ∀ j, (j < 132 ∨ 148 ≤ j) → j ≠ 200 → j ≠ 201 → aLotT w (aWn w) (1 + nI (y % 60)) (1 + nI (y / 60 % 20)) j = w j := fun j h1 h2 h3 => by
        show upd (upd (upd (upd w (132 + 2 * (aWn w)) _) (132 + 2 * (aWn w) + 1) _) 200 _) 201 _ j = _
        rw [pk_un (by omega), pk_un (by omega), pk_un (by omega), pk_un (by omega)]
      have hlo : ∀ j, lRl j → aLotT w (aWn w) (1 + nI (y % 60)) (1 + nI (y / 60 % 20)) j = w j := fun j hj => by
        unfold lRl at hj
        exact hl2 j (by omega) (by omega) (by omega)
      have K := o_lot (nz := nz) (CH_v (t := aLotT w (aWn w) (1 + nI (y % 60)) (1 + nI (y / 60 % 20))) hc) hM (a1 := 1 + nI (y % 60)) (a2 := 1 + nI (y / 60 % 20))
      rw [eL] at K
      refine j_aload_n dL_isComing_253 rfl ?_
      refine j_iconst (v := 1) dL_isComing_254 (by decide) ?_
      refine j_iload dL_isComing_255 rfl ?_
      refine j_bipush (v := 60) dL_isComing_257 (by decide) ?_
      refine j_irem dL_isComing_259 (by decide) ?_
      rw [show nI y - nI y / 60 * 60 = nI (y % 60) from pk_rem (d := 60) (by omega) (by decide) (by decide)]
      refine j_iadd dL_isComing_260 ?_
      refine j_iconst (v := 1) dL_isComing_261 (by decide) ?_
      refine j_iload dL_isComing_262 rfl ?_
      refine j_bipush (v := 60) dL_isComing_264 (by decide) ?_
      refine j_idiv dL_isComing_266 (by decide) ?_
      rw [show nI y / 60 = nI (y / 60) from pk_div (d := 60) (by omega) (by decide) (by decide)]
      refine j_bipush (v := 20) dL_isComing_267 (by decide) ?_
      refine j_irem dL_isComing_269 (by decide) ?_
      rw [show nI (y / 60) - nI (y / 60) / 20 * 20 = nI ((y / 60) % 20) from pk_rem (d := 20) (by omega) (by decide) (by decide)]
      refine j_iadd dL_isComing_270 ?_
      refine k_callV2i dL_isComing_271 vL_isComing_74 (K) rfl (by omega) rfl rfl (Nat.le_of_ble_eq_true rfl) ⟨rfl, rfl⟩ rfl ?_
      rintro _ h1 ⟨⟨⟩, e1, c1⟩
      refine z_to (gV_of e1) ?_
      refine j_iload dL_isComing_274 rfl ?_
      refine j_if_eq dL_isComing_276 (tgt := 284) rfl (fun _ => ?_) (fun c4 => absurd rfl c4)
      refine j_aload dL_isComing_284 rfl ?_
      refine j_iconst (v := 2) dL_isComing_286 (by decide) ?_
      refine l_ld (a := 220) (i := 2) 200 dL_isComing_287 (by decide) rfl hz (rfl) (by decide) rfl rfl ?_
      refine j_icmp_ne dL_isComing_288 (tgt := 295) rfl (fun c5 => absurd c5 (fun q => q rfl)) (fun _ => ?_)
      refine j_iconst (v := 1) dL_isComing_291 (by decide) ?_
      refine j_goto dL_isComing_292 (tgt := 296) rfl ?_
      refine j_iret dL_isComing_296 rfl (rfl) ?_
      exact hQ _ _ ⟨rfl, LW_g c1 (fun _ _ => rfl) hMq (LB_of hB hN hlo) (by rw [hl2 198 (by decide) (by decide) (by decide)]; exact hb) (by rw [hl2 209 (by decide) (by decide) (by decide)]; exact hm)⟩
    · refine j_iconst (v := 1) dL_isComing_190 (by decide) ?_
      refine j_goto dL_isComing_191 (tgt := 195) rfl ?_
      refine j_istore dL_isComing_195 (by decide) ?_
      refine j_iload dL_isComing_197 rfl ?_
      refine j_if_ne dL_isComing_199 (tgt := 253) rfl (fun _ => ?_) (fun c6 => absurd c6 (by decide))
      have K := o_lot (nz := nz) hc hM (a1 := 1 + nI (y % 60)) (a2 := 1 + nI (y / 60 % 20))
      have eL := lLot (w := w) (W := (aWn w)) (R := 1 + nI (y % 60)) (V := 1 + nI (y / 60 % 20)) ⟨1 + y % 60, by omega, by omega, nI_add 1 _⟩ ⟨1 + y / 60 % 20, by omega, by omega, nI_add 1 _⟩
      rw [if_pos (hw.trans c2)] at eL
      rw [eL] at K
      refine j_aload_n dL_isComing_253 rfl ?_
      refine j_iconst (v := 1) dL_isComing_254 (by decide) ?_
      refine j_iload dL_isComing_255 rfl ?_
      refine j_bipush (v := 60) dL_isComing_257 (by decide) ?_
      refine j_irem dL_isComing_259 (by decide) ?_
      rw [show nI y - nI y / 60 * 60 = nI (y % 60) from pk_rem (d := 60) (by omega) (by decide) (by decide)]
      refine j_iadd dL_isComing_260 ?_
      refine j_iconst (v := 1) dL_isComing_261 (by decide) ?_
      refine j_iload dL_isComing_262 rfl ?_
      refine j_bipush (v := 60) dL_isComing_264 (by decide) ?_
      refine j_idiv dL_isComing_266 (by decide) ?_
      rw [show nI y / 60 = nI (y / 60) from pk_div (d := 60) (by omega) (by decide) (by decide)]
      refine j_bipush (v := 20) dL_isComing_267 (by decide) ?_
      refine j_irem dL_isComing_269 (by decide) ?_
      rw [show nI (y / 60) - nI (y / 60) / 20 * 20 = nI ((y / 60) % 20) from pk_rem (d := 20) (by omega) (by decide) (by decide)]
      refine j_iadd dL_isComing_270 ?_
      refine k_callV2i dL_isComing_271 vL_isComing_74 (K) rfl (by omega) rfl rfl (Nat.le_of_ble_eq_true rfl) ⟨rfl, rfl⟩ rfl ?_
      rintro _ h1 ⟨⟨⟩, e1, c1⟩
      refine z_to (gV_of e1) ?_
      refine j_iload dL_isComing_274 rfl ?_
      refine j_if_eq dL_isComing_276 (tgt := 284) rfl (fun c7 => absurd c7 (by decide)) (fun _ => ?_)
      refine j_ldc (v := (-1000003)) dL_isComing_279 cL_69 ?_
      refine j_goto dL_isComing_281 (tgt := 288) rfl ?_
      refine j_icmp_ne dL_isComing_288 (tgt := 295) rfl (fun c8 => absurd c8 (fun q => q rfl)) (fun _ => ?_)
      refine j_iconst (v := 1) dL_isComing_291 (by decide) ?_
      refine j_goto dL_isComing_292 (tgt := 296) rfl ?_
      refine j_iret dL_isComing_296 rfl (rfl) ?_
      exact hQ _ _ ⟨rfl, LW_g c1 (fun _ _ => rfl) hM hB hb hm⟩
  · refine j_iload dL_isComing_5 rfl ?_
    refine j_iconst (v := 4) dL_isComing_7 (by decide) ?_
    refine j_irem dL_isComing_8 (by decide) ?_
    rw [show nI y - nI y / 4 * 4 = nI (y % 4) from pk_rem (d := 4) (by omega) (by decide) (by decide)]
    refine j_if_ne dL_isComing_9 (tgt := 22) rfl (fun c9 => ?_) (fun c9 => ?_)
    · refine j_iconst (v := 0) dL_isComing_22 (by decide) ?_
      refine j_istore dL_isComing_23 (by decide) ?_
      refine j_iload dL_isComing_25 rfl ?_
      refine j_bipush (v := 24) dL_isComing_27 (by decide) ?_
      refine j_idiv dL_isComing_29 (by decide) ?_
      rw [show nI y / 24 = nI (y / 24) from pk_div (d := 24) (by omega) (by decide) (by decide)]
      refine j_bipush (v := 8) dL_isComing_30 (by decide) ?_
      refine j_irem dL_isComing_32 (by decide) ?_
      rw [show nI (y / 24) - nI (y / 24) / 8 * 8 = nI ((y / 24) % 8) from pk_rem (d := 8) (by omega) (by decide) (by decide)]
      refine j_istore dL_isComing_33 (by decide) ?_
      refine j_iload dL_isComing_35 rfl ?_
      refine j_sipush (v := 192) dL_isComing_37 (by decide) ?_
      refine j_idiv dL_isComing_40 (by decide) ?_
      rw [show nI y / 192 = nI (y / 192) from pk_div (d := 192) (by omega) (by decide) (by decide)]
      refine j_sipush (v := 1000) dL_isComing_41 (by decide) ?_
      refine j_irem dL_isComing_44 (by decide) ?_
      rw [show nI (y / 192) - nI (y / 192) / 1000 * 1000 = nI ((y / 192) % 1000) from pk_rem (d := 1000) (by omega) (by decide) (by decide)]
      refine j_istore dL_isComing_45 (by decide) ?_
      refine j_iconst (v := 1) dL_isComing_47 (by decide) ?_
      refine j_iload dL_isComing_48 rfl ?_
      refine j_bipush (v := 7) dL_isComing_50 (by decide) ?_
      refine j_idiv dL_isComing_52 (by decide) ?_
      rw [show nI y / 7 = nI (y / 7) from pk_div (d := 7) (by omega) (by decide) (by decide)]
      refine j_bipush (v := 9) dL_isComing_53 (by decide) ?_
      refine j_irem dL_isComing_55 (by decide) ?_
      rw [show nI (y / 7) - nI (y / 7) / 9 * 9 = nI ((y / 7) % 9) from pk_rem (d := 9) (by omega) (by decide) (by decide)]
      refine j_iadd dL_isComing_56 ?_
      refine j_istore dL_isComing_57 (by decide) ?_
      exact s_ic (G := 1 + nI ((y / 7) % 9)) hz hc hM hB hb hm (⟨0, by omega, by omega, rfl⟩) ⟨((y / 24) % 8), by omega, by omega, rfl⟩ ⟨((y / 192) % 1000), by omega, by omega, rfl⟩ ⟨1 + ((y / 7) % 9), by omega, by omega, nI_add 1 _⟩ hQ
    · refine j_iload dL_isComing_12 rfl ?_
      refine j_iconst (v := 4) dL_isComing_14 (by decide) ?_
      refine j_idiv dL_isComing_15 (by decide) ?_
      rw [show nI y / 4 = nI (y / 4) from pk_div (d := 4) (by omega) (by decide) (by decide)]
      refine j_bipush (v := 6) dL_isComing_16 (by decide) ?_
      refine j_irem dL_isComing_18 (by decide) ?_
      rw [show nI (y / 4) - nI (y / 4) / 6 * 6 = nI ((y / 4) % 6) from pk_rem (d := 6) (by omega) (by decide) (by decide)]
      refine j_goto dL_isComing_19 (tgt := 23) rfl ?_
      refine j_istore dL_isComing_23 (by decide) ?_
      refine j_iload dL_isComing_25 rfl ?_
      refine j_bipush (v := 24) dL_isComing_27 (by decide) ?_
      refine j_idiv dL_isComing_29 (by decide) ?_
      rw [show nI y / 24 = nI (y / 24) from pk_div (d := 24) (by omega) (by decide) (by decide)]
      refine j_bipush (v := 8) dL_isComing_30 (by decide) ?_
      refine j_irem dL_isComing_32 (by decide) ?_
      rw [show nI (y / 24) - nI (y / 24) / 8 * 8 = nI ((y / 24) % 8) from pk_rem (d := 8) (by omega) (by decide) (by decide)]
      refine j_istore dL_isComing_33 (by decide) ?_
      refine j_iload dL_isComing_35 rfl ?_
      refine j_sipush (v := 192) dL_isComing_37 (by decide) ?_
      refine j_idiv dL_isComing_40 (by decide) ?_
      rw [show nI y / 192 = nI (y / 192) from pk_div (d := 192) (by omega) (by decide) (by decide)]
      refine j_sipush (v := 1000) dL_isComing_41 (by decide) ?_
      refine j_irem dL_isComing_44 (by decide) ?_
      rw [show nI (y / 192) - nI (y / 192) / 1000 * 1000 = nI ((y / 192) % 1000) from pk_rem (d := 1000) (by omega) (by decide) (by decide)]
      refine j_istore dL_isComing_45 (by decide) ?_
      refine j_iconst (v := 1) dL_isComing_47 (by decide) ?_
      refine j_iload dL_isComing_48 rfl ?_
      refine j_bipush (v := 7) dL_isComing_50 (by decide) ?_
      refine j_idiv dL_isComing_52 (by decide) ?_
      rw [show nI y / 7 = nI (y / 7) from pk_div (d := 7) (by omega) (by decide) (by decide)]
      refine j_bipush (v := 9) dL_isComing_53 (by decide) ?_
      refine j_irem dL_isComing_55 (by decide) ?_
      rw [show nI (y / 7) - nI (y / 7) / 9 * 9 = nI ((y / 7) % 9) from pk_rem (d := 9) (by omega) (by decide) (by decide)]
      refine j_iadd dL_isComing_56 ?_
      refine j_istore dL_isComing_57 (by decide) ?_
      exact s_ic (G := 1 + nI ((y / 7) % 9)) hz hc hM hB hb hm (⟨((y / 4) % 6), by omega, by omega, rfl⟩) ⟨((y / 24) % 8), by omega, by omega, rfl⟩ ⟨((y / 192) % 1000), by omega, by omega, rfl⟩ ⟨1 + ((y / 7) % 9), by omega, by omega, nI_add 1 _⟩ hQ
