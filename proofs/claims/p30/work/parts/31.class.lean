variable {nz : Nat}
-- the hammer, beats
section CY
variable {v : Nat → Nat → Int32} {p : Nat → Nat} {s t u : Nat → Int32} {N W K k : Nat}
theorem z_subneg (x y : Int32) : x - y = x + (0 - y) := by
  rw [Int32.zero_sub, Int32.sub_eq_add_neg]
theorem ar_h1 (hA : AR v p s N W K) (hk : k < N) : AR (cPay (up2 v 0 13 (s 205 + s 151)) (2 + k) (s 151)) p (aH1 s k) N W K := by
  have hN := hA.1.1
  have h1 := ar_sc1 (o := 0) (k := 13) (x := s 205 + s 151) hA (by first | decide | omega) (by first | decide | omega)
  have h2 := ar_bd (j := 2) (x := s (11 * k + 2) + (0 - s 151)) h1 hk (by first | decide | omega)
  have h3 := ar_bd (j := 9) (x := s (11 * k + 9) + s 151) h2 hk (by first | decide | omega)
  have h4 := ar_bd (j := 8) (x := s (11 * k + 8) + 1) h3 hk (by first | decide | omega)
  have e1 : cPay (up2 v 0 13 (s 205 + s 151)) (2 + k) (s 151) = up2 (up2 (up2 (up2 v 0 13 (s 205 + s 151)) (2 + k) 2 (s (11 * k + 2) + (0 - s 151))) (2 + k) 10 (s (11 * k + 9) + s 151)) (2 + k) 9 (s (11 * k + 8) + 1) := by
    unfold cPay
    rw [up2_n (a := 2 + k) (b := 2) (fun e _ => by omega), up2_n (a := 2 + k) (b := 10) (fun e _ => by omega), up2_n (a := 2 + k) (b := 9) (fun e _ => by omega), ← z_subneg, show v (2 + k) 2 = s (11 * k + 2) from ar_b hA hk 2 (by first | decide | omega), show v (2 + k) 10 = s (11 * k + 9) from ar_b hA hk 9 (by first | decide | omega), show v (2 + k) 9 = s (11 * k + 8) from ar_b hA hk 8 (by first | decide | omega)]
  have e2 : aH1 s k = upd (upd (upd (upd s 205 (s 205 + s 151)) (11 * k + 2) (s (11 * k + 2) + (0 - s 151))) (11 * k + 9) (s (11 * k + 9) + s 151)) (11 * k + 8) (s (11 * k + 8) + 1) := by
    unfold aH1
    dsimp only
    rw [upd_n (j := 11 * k + 9) (by omega), upd_n (j := 151) (by omega), upd_n (j := 11 * k + 8) (by omega), upd_n (j := 11 * k + 8) (by omega), upd_n (j := 205) (by omega), upd_n (j := 205) (by omega), upd_n (j := 205) (by omega), upd_n (j := 151) (by omega), upd_n (j := 151) (by omega), upd_n (j := 151) (by omega)]
    rw [upd_sw (k := 205) (by omega), upd_sw (k := 205) (by omega), upd_sw (k := 205) (by omega)]
  rw [e1, e2]
  exact h4
theorem aH1_n {j : Nat} (h1 : 132 ≤ j) (hk : k < 12) (h2 : j ≠ 205) : aH1 s k j = s j := by
  unfold aH1
  rw [upd_n (by omega), upd_n (by omega), upd_n (by omega), upd_n (by omega)]
def dHam (s : Nat → Int32) : Nat → Int32 := if aHas s = 0 then aGo s 2 else if aIs s (s 152 - 1) = 0 then aGo s 2 else if s 156 = 0 then aGo (aH1 s (aWho s)) 0 else aGo s 3
theorem aWho_of (hI : aIa s N W) (h : ¬ s 152 = 0) : s 152 - 1 = nI (aWho s) ∧ aWho s < N := ⟨aWho_sub hI.2.2.2.2.2.2.1.1 h, hI.2.2.2.2.2.2.1.2.resolve_left h⟩
theorem aHas_0 (hI : aIa s N W) (hup : s 148 = 1) : aHas s = 0 ↔ s 152 = 0 := by
  have h := aHas_who hI hup
  rw [← h.2, ← h.1]
  unfold aHas
  by_cases q : s 155 ≤ 0
  · rw [if_pos q]
    exact ⟨fun _ => q, fun _ => rfl⟩
  · rw [if_neg q]
    exact ⟨fun e => absurd e (by first | decide | omega), fun e => absurd e q⟩
theorem dHam_eq (hI : aIa s N W) (hup : s 148 = 1) (hz : aZb (s 156)) : dHam s = aHam s := by
  have h := aHas_0 hI hup
  unfold dHam aHam
  by_cases h1 : s 152 = 0
  · rw [if_pos (h.mpr h1), if_pos h1]
  · obtain ⟨e1, e2⟩ := aWho_of hI h1
    rw [if_neg (fun q => h1 (h.mp q)), if_neg h1, e1, aIs_of hI.1.1 hI.1.2 e2, if_neg (show ¬ (1 : Int32) = 0 by decide)]
    rcases hz with q | q
    · rw [if_pos q, if_neg (show ¬ s 156 = 1 by rw [q]; decide)]
    · rw [if_neg (show ¬ s 156 = 0 by rw [q]; decide), if_pos q]
theorem ar_hush (hA : AR v p s N W K) (x : Int32) : AR (up2 (up2 v (p 16) 8 x) (p 16) 5 0) p (upd (upd s 154 x) 157 0) N W K := by
  have hp := hA.2.1.1 16 (by omega)
  refine ar_up hA (fun a b h => ?_) (fun j hj => ?_) ?_ (fun hup => ?_)
  · rw [up2_n (fun e _ => h e), up2_n (fun e _ => h e)]
  · rw [upd_n (by omega), upd_n (by omega)]
  · rw [up2_n (fun _ e => absurd e (by first | decide | omega)), up2_n (fun _ e => absurd e (by first | decide | omega)), up2_s]
    exact ⟨(ar_z hA hp).1, Or.inl rfl⟩
  · obtain ⟨g0, g1, g2, g3, g4, g5, g6, g7, g8⟩ := ar_u hA hup
    unfold AU
    refine ⟨?_, ?_, ?_, ?_, ?_, ?_, ?_, ?_, ?_⟩
    · rw [up2_n (fun _ e => absurd e (by first | decide | omega)), up2_n (fun _ e => absurd e (by first | decide | omega)), upd_n (by first | decide | omega), upd_n (by first | decide | omega)]
      exact g0
    · rw [up2_n (fun _ e => absurd e (by first | decide | omega)), up2_n (fun _ e => absurd e (by first | decide | omega)), upd_n (by first | decide | omega), upd_n (by first | decide | omega)]
      exact g1
    · rw [up2_n (fun _ e => absurd e (by first | decide | omega)), up2_n (fun _ e => absurd e (by first | decide | omega)), upd_n (by first | decide | omega), upd_n (by first | decide | omega)]
      exact g2
    · rw [up2_n (fun _ e => absurd e (by first | decide | omega)), up2_n (fun _ e => absurd e (by first | decide | omega)), upd_n (by first | decide | omega), upd_n (by first | decide | omega)]
      exact g3
    · rw [up2_n (fun _ e => absurd e (by first | decide | omega)), up2_n (fun _ e => absurd e (by first | decide | omega)), upd_n (by first | decide | omega), upd_n (by first | decide | omega)]
      exact g4
    · rw [up2_s, upd_s]
    · rw [up2_n (fun _ e => absurd e (by first | decide | omega)), up2_n (fun _ e => absurd e (by first | decide | omega)), upd_n (by first | decide | omega), upd_n (by first | decide | omega)]
      exact g6
    · rw [up2_n (fun _ e => absurd e (by first | decide | omega)), up2_n (fun _ e => absurd e (by first | decide | omega)), upd_n (by first | decide | omega), upd_n (by first | decide | omega)]
      exact g7
    · rw [up2_n (fun _ e => absurd e (by first | decide | omega)), up2_s, upd_n (by first | decide | omega), upd_s]
theorem ar_z57 (hA : AR v p s N W K) (hup : s 148 = 1) : aZb (s 156) ∧ aZb (s 157) := by
  have hU := ar_u hA hup
  have h := ar_z hA (hA.2.1.1 16 (by omega))
  rw [hU.2.2.2.2.1, hU.2.2.2.2.2.1] at h
  exact h
-- how a lot's going is counted
/-- from s to t: no lot went, or the one that was up went -/
def aGs (s t : Nat → Int32) : Prop := (t 148 = s 148 ∧ aGone t = aGone s) ∨ (s 148 = 1 ∧ t 148 = 0 ∧ aGone t = aGone s + 1)
theorem aGs_tr (h1 : aGs s t) (h2 : aGs t u) : aGs s u := by
  rcases h1 with ⟨a, b⟩ | ⟨a, b, c⟩
  · rcases h2 with ⟨d, e⟩ | ⟨d, e, f⟩
    · exact Or.inl ⟨d.trans a, e.trans b⟩
    · exact Or.inr ⟨a.symm.trans d, e, f.trans (by rw [b])⟩
  · rcases h2 with ⟨d, e⟩ | ⟨d, e, f⟩
    · exact Or.inr ⟨a, d.trans b, e.trans c⟩
    · rw [b] at d
      exact absurd d (by first | decide | omega)
theorem aGs_of (h : ∀ j, j = 148 ∨ j = 202 ∨ j = 203 ∨ j = 204 ∨ j = 211 → t j = s j) : aGs s t := by
  refine Or.inl ⟨h _ (by omega), ?_⟩
  unfold aGone
  rw [h 202 (by omega), h 203 (by omega), h 204 (by omega), h 211 (by omega)]
theorem aGs_go {how K : Nat} (hh : how ≤ 3) (hK : s 210 = nI K) (hK8 : K ≤ 8) (hup : s 148 = 1) : aGs s (aGo s how) := by
  have A := fun j => aGo_at (s := s) hh hK hK8 j
  refine Or.inr ⟨hup, by rw [A, if_pos rfl], ?_⟩
  have B : ∀ j, j = 202 ∨ j = 203 ∨ j = 204 ∨ j = 211 → aGo s how j = if j = aFc how then s j + 1 else s j := by
    intro j hj
    rw [A, if_neg (by omega), if_neg (show ¬ j = 210 by omega), if_neg (show ¬ j = 158 by omega), if_neg (show ¬ j = 159 by omega), if_neg (show ¬ j = 160 by omega), if_neg (show ¬ j = 161 by omega), if_neg (show ¬ j = 162 by omega), if_neg (show ¬ (162 < j ∧ j < 198) by omega)]
  unfold aGone
  rw [B 202 (by omega), B 203 (by omega), B 204 (by omega), B 211 (by omega)]
  have c : ∀ a b c d : Int32, a + 1 + b + c + d = a + b + c + d + 1 := fun a b c d => by
    rw [Int32.add_assoc a 1 b, Int32.add_comm 1 b, ← Int32.add_assoc a b 1, Int32.add_assoc (a + b) 1 c, Int32.add_comm 1 c, ← Int32.add_assoc (a + b) c 1, Int32.add_assoc (a + b + c) 1 d, Int32.add_comm 1 d, ← Int32.add_assoc]
  have c2 : ∀ a b c d : Int32, a + (b + 1) + c + d = a + b + c + d + 1 := fun a b c d => by
    rw [← Int32.add_assoc a b 1, Int32.add_assoc (a + b) 1 c, Int32.add_comm 1 c, ← Int32.add_assoc (a + b) c 1, Int32.add_assoc (a + b + c) 1 d, Int32.add_comm 1 d, ← Int32.add_assoc]
  have c3 : ∀ a b c d : Int32, a + b + (c + 1) + d = a + b + c + d + 1 := fun a b c d => by
    rw [← Int32.add_assoc (a + b) c 1, Int32.add_assoc (a + b + c) 1 d, Int32.add_comm 1 d, ← Int32.add_assoc]
  rcases (show how = 0 ∨ how = 1 ∨ how = 2 ∨ how = 3 by omega) with rfl | rfl | rfl | rfl
  · exact c _ _ _ _
  · exact c2 _ _ _ _
  · exact c3 _ _ _ _
  · exact (Int32.add_assoc _ _ _).symm
theorem aGs_cgh {c : Int32} (hI : aIa s N W) (hk : k < N) : aGs s (aCgh s k c).2 := by
  have hN := hI.1.2
  rw [← dCgh_eq (by omega)]
  have h1 : aGs s (aC1 s k) := aGs_of (fun j hj => aC1_n (by omega) (by omega))
  unfold dCgh
  split
  · rename_i hb
    refine aGs_tr h1 ?_
    have h2 : aGs (aC1 s k) (aC2 (aC1 s k) k c) := aGs_of (fun j hj => aC2_n (by omega) (by omega) (by omega) (by omega) (by omega))
    refine aGs_tr h2 ?_
    show aGs _ (dCgT _ k)
    unfold dCgT
    split
    · exact Or.inl ⟨rfl, rfl⟩
    · unfold dDb
      have h3 : aGs (aC2 (aC1 s k) k c) (aC3 (aC2 (aC1 s k) k c)) := aGs_of (fun j hj => aC3_n (by omega) (by omega))
      split
      · exact h3
      · refine aGs_tr h3 ?_
        obtain ⟨K, -, hK8, hK⟩ := hI.2.2.1
        have hup : s 148 = 1 := hI.2.2.2.2.2.1.resolve_left (aBar_le (aBar_0.mpr hb)).1
        refine aGs_go (K := K) (by first | decide | omega) ?_ hK8 ?_
        · rw [aC3_n (by omega) (by omega), aC2_n (by omega) (by omega) (by omega) (by omega) (by omega), aC1_n (by omega) (by omega)]
          exact hK
        · rw [aC3_n (by omega) (by omega), aC2_n (by omega) (by omega) (by omega) (by omega) (by omega), aC1_n (by omega) (by omega)]
          exact hup
  · exact h1
theorem aGs_bt : ∀ (n k : Nat) (u : Int32) (s : Nat → Int32), k + n ≤ N → aIa s N W → aGs s (aBt n k u s)
  | 0, _, _, _, _, _ => Or.inl ⟨rfl, rfl⟩
  | n + 1, k, u, s, hk, h => by
    unfold aBt
    split
    · exact Or.inl ⟨rfl, rfl⟩
    · split
      · exact aGs_bt n (k + 1) u s (by omega) h
      · split
        · exact aGs_tr (aGs_cgh h (by omega)) (aGs_bt n (k + 1) 0 _ (by omega) (aIa_cgh h (by omega)).1)
        · exact aGs_tr (aGs_cgh h (by omega)) (aGs_bt n (k + 1) 1 _ (by omega) (aIa_cgh h (by omega)).1)
theorem aGs_ham (hI : aIa s N W) (hup : s 148 = 1) : aGs s (aHam s) := by
  obtain ⟨K, -, hK8, hK⟩ := hI.2.2.1
  unfold aHam
  split
  · exact aGs_go (by first | decide | omega) hK hK8 hup
  · rename_i h1
    split
    · exact aGs_go (by first | decide | omega) hK hK8 hup
    · have hw := (aWho_of hI h1).2
      have hN := hI.1.2
      have h2 : aGs s (aH1 s (aWho s)) := aGs_of (fun j hj => aH1_n (by omega) (by omega) (by omega))
      exact aGs_tr h2 (aGs_go (by first | decide | omega) ((aH1_n (by omega) (by omega) (by omega)).trans hK) hK8 ((aH1_n (by omega) (by omega) (by omega)).trans hup))
theorem aGs_be (hI : aIa s N W) : aGs s (aBe s) := by
  have e : ∀ t : Nat → Int32, aIa t N W → t 148 = 1 → aGs t (aBf t) := by
    intro t ht h1
    have h2 : aIa (upd t 157 0) N W := aIa_of ht (fun j hj => by unfold aRel at hj; exact upd_n (by omega))
    have h3 : aGs t (upd t 157 0) := aGs_of (fun j hj => upd_n (by omega))
    unfold aBf
    split
    · exact h3
    · exact aGs_tr h3 (aGs_ham h2 (by rw [upd_n (by omega)]; exact h1))
  have h1 : aIa (upd s 198 (s 198 + 1)) N W := aIa_of hI (fun j hj => by unfold aRel at hj; exact upd_n (by omega))
  have h0 : aGs s (upd s 198 (s 198 + 1)) := aGs_of (fun j hj => upd_n (by omega))
  unfold aBe aBg
  refine aGs_tr h0 ?_
  generalize upd s 198 (s 198 + 1) = t at *
  split
  · rename_i q
    split
    · exact aGs_tr (aGs_of (t := upd t 154 0) (fun j hj => upd_n (by omega))) (e _ (aIa_of h1 (fun j hj => by unfold aRel at hj; exact upd_n (by omega))) (by rw [upd_n (by omega)]; exact q))
    · exact aGs_tr (aGs_of (t := upd t 154 (t 154 + 1)) (fun j hj => upd_n (by omega))) (e _ (aIa_of h1 (fun j hj => by unfold aRel at hj; exact upd_n (by omega))) (by rw [upd_n (by omega)]; exact q))
  · exact Or.inl ⟨rfl, rfl⟩
theorem aGs_beat (h : aIa s N W) : aGs s (aBeat s N) := by
  unfold aBeat
  split
  · exact aGs_tr (aGs_bt N 0 1 s (by omega) h) (aGs_be (aIa_bt N 0 1 s (by omega) h))
  · exact aGs_tr (aGs_bt N 0 0 s (by omega) h) (aGs_be (aIa_bt N 0 0 s (by omega) h))
theorem aGs_pass : ∀ (n : Nat) (s : Nat → Int32), aIa s N W → aGs s (aPass N n s)
  | 0, _, _ => Or.inl ⟨rfl, rfl⟩
  | n + 1, _, h => aGs_tr (aGs_beat h) (aGs_pass n _ (aIa_beat h))
def dEnd (s t : Nat → Int32) : Int32 := if s 148 = 0 then 0 else if t 148 = 0 then 1 else 0
theorem dEnd_eq (hI : aIa s N W) (h : aGs s t) : dEnd s t = aGone t - aGone s := by
  unfold dEnd
  rcases h with ⟨a, b⟩ | ⟨a, b, c⟩
  · rw [a, b, Int32.sub_self]
    split
    · rfl
    · rfl
  · rw [if_neg (show ¬ s 148 = 0 by rw [a]; decide), if_pos b, c, Int32.add_comm, Int32.add_sub_cancel]
theorem aBt_0 : ∀ (n k : Nat) (s : Nat → Int32), aBt n k 0 s = s
  | 0, _, _ => rfl
  | n + 1, k, s => by
    unfold aBt
    rw [if_pos rfl]
def dBeats (s : Nat → Int32) (N : Nat) (many : Int32) : Int32 × Bool × (Nat → Int32) :=
  if aIn many 1 50 = 0 then (-1000001, false, s) else if s 198 + many ≤ 9999 then (dEnd s (aPass N many.toNatClampNeg s), true, aPass N many.toNatClampNeg s) else (-1000003, false, s)
theorem dBeats_eq (hI : aIa s N W) {m : Int32} : dBeats s N m = aBeats s N m := by
  unfold dBeats aBeats
  rw [dEnd_eq hI (aGs_pass _ _ hI)]
end CY
set_option maxRecDepth 4000 in
set_option maxHeartbeats 2000000 in
theorem c_ham0 {g : zH} {B : Nat} (hB : aB B) {v : Nat → Nat → Int32} {p : Nat → Nat} {s : Nat → Int32} {N W K : Nat} (hA : AR v p s N W K) (hI : aIa s N W) (hK : s 210 = nI K) (hup : s 148 = 1) : zCT mX0_letHammerFall [.ref B] (215 + nz) (gAu g B v p) (215 + nz) (fun r h' => r = none ∧ ∃ v' p' K', h' = gAu g B v' p' ∧ (dHam s) 210 = nI K' ∧ AR v' p' (dHam s) N W K') := by
  intro X Q hQ
  show zJ X mX0_letHammerFall (215 + nz) 0 [.ref B] [] (215 + nz) (gAu g B v p) Q
  have hN := hA.1
  have hL := hA.2.1.1 16 (by omega)
  have hP := hA.2.1
  have hU := ar_u hA hup
  have hx := (aHas_who hI hup).1
  have hp0 : ∀ o, ¬ aL o → ¬ o = p 16 := fun o q e => q (e ▸ hL)
  refine j_aload_n dX0_letHammerFall_0 rfl ?_
  refine j_get dX0_letHammerFall_1 fX0_35 (aB_S0 hB) (aB_l0 hB) zb_p9 ?_
  refine k_callV0i dX0_letHammerFall_4 vX0_letHammerFall_137 (d_has hB hA hI hup) (aB_SL hB hL) (aB_lt hB (aL_lt hL))  (Nat.le_of_ble_eq_true rfl) ⟨rfl, rfl⟩ rfl ?_
  rintro _ _ ⟨⟨⟩, rfl⟩
  refine j_if_eq dX0_letHammerFall_7 (tgt := 24) rfl (fun c1 => ?_) (fun c1 => ?_)
  · refine j_aload_n dX0_letHammerFall_24 rfl ?_
    refine j_iconst (v := 2) dX0_letHammerFall_25 (by first | decide | omega) ?_
    refine k_callV1v dX0_letHammerFall_26 vX0_letHammerFall_167 (c_close (how := 2) hB hA hK (by first | decide | omega) ) (aB_S0 hB) (aB_l0 hB) rfl (Nat.le_of_ble_eq_true rfl) ⟨rfl, rfl⟩ rfl ?_
    rintro _ ⟨-, rfl⟩
    refine j_goto dX0_letHammerFall_29 (tgt := 93) rfl ?_
    refine j_vret dX0_letHammerFall_93 rfl ?_
    exact hQ _ _ (zb_d ((if_pos c1).trans (rfl)) (aGo_K (by first | decide | omega) hK hN.2.2) (ar_close hA hK hup hx (by first | decide | omega)))
  · refine j_aload_n dX0_letHammerFall_10 rfl ?_
    refine j_aload_n dX0_letHammerFall_11 rfl ?_
    refine j_get dX0_letHammerFall_12 fX0_35 (aB_S0 hB) (aB_l0 hB) zb_p9 ?_
    refine j_get (v := .int (s 152 - 1)) dX0_letHammerFall_15 fX0_141 (aB_SL hB hL) (aB_lt hB (aL_lt hL)) ((zb_int (tI_L hL)).trans (congrArg Value.int (hU.2.2.2.1))) ?_
    refine k_callV1i dX0_letHammerFall_18 vX0_letHammerFall_113 (c_has hB hA hI) (aB_S0 hB) (aB_l0 hB) rfl (Nat.le_of_ble_eq_true rfl) ⟨rfl, rfl⟩ rfl ?_
    rintro _ _ ⟨⟨⟩, rfl⟩
    refine j_if_ne dX0_letHammerFall_21 (tgt := 32) rfl (fun c2 => ?_) (fun c2 => ?_)
    · refine j_aload_n dX0_letHammerFall_32 rfl ?_
      refine j_get dX0_letHammerFall_33 fX0_35 (aB_S0 hB) (aB_l0 hB) zb_p9 ?_
      refine j_get (v := .int (s 156)) dX0_letHammerFall_36 fX0_193 (aB_SL hB hL) (aB_lt hB (aL_lt hL)) ((zb_int (tI_L hL)).trans (congrArg Value.int (hU.2.2.2.2.1))) ?_
      refine j_if_eq dX0_letHammerFall_39 (tgt := 50) rfl (fun c3 => ?_) (fun c3 => ?_)
      · have hw0 : ¬ s 152 = 0 := fun q => ‹¬ aHas s = 0› ((aHas_0 hI hup).mpr q)
        have hwN := (aWho_of hI hw0).2
        refine j_aload_n dX0_letHammerFall_50 rfl ?_
        refine j_dup dX0_letHammerFall_51 rfl ?_
        refine j_get (v := .int (s 205)) dX0_letHammerFall_52 fX0_75 (aB_S0 hB) (aB_l0 hB) ((zb_int0 (by unfold tI; decide)).trans (congrArg Value.int (ar_s hA 0 13 (by first | decide | omega)))) ?_
        refine j_aload_n dX0_letHammerFall_55 rfl ?_
        refine j_get dX0_letHammerFall_56 fX0_35 (aB_S0 hB) (aB_l0 hB) zb_p9 ?_
        refine j_get (v := .int (s 151)) dX0_letHammerFall_59 fX0_196 (aB_SL hB hL) (aB_lt hB (aL_lt hL)) ((zb_int (tI_L hL)).trans (congrArg Value.int (hU.2.2.1))) ?_
        refine j_iadd dX0_letHammerFall_62 ?_
        refine j_put dX0_letHammerFall_63 fX0_75 (aB_S0 hB) (aB_l0 hB) (rfl) ?_
        rw [zb_wr0 (k := 13) (by unfold tI; decide)]
        refine j_aload_n dX0_letHammerFall_66 rfl ?_
        refine j_get dX0_letHammerFall_67 fX0_13 (aB_S0 hB) (aB_l0 hB) zb_p0 ?_
        refine j_aload_n dX0_letHammerFall_70 rfl ?_
        refine j_get dX0_letHammerFall_71 fX0_35 (aB_S0 hB) (aB_l0 hB) zb_p9 ?_
        refine j_get (v := .int (nI (aWho s))) dX0_letHammerFall_74 fX0_141 (aB_SL hB hL) (aB_lt hB (aL_lt hL)) ((zb_int (tI_L hL)).trans (congrArg Value.int ((up2_n (fun e _ => hp0 0 (by unfold aL; omega) e.symm)).trans (hU.2.2.2.1.trans (aWho_of hI hw0).1)))) ?_
        refine k_aald (n := 12) (t := 1) (r := (B + (2 + (aWho s)))) (aWho s) dX0_letHammerFall_77 (aB_S hB (by first | decide | omega)) (by first | decide | omega) (aB_lt hB (by first | decide | omega)) (by first | rfl | (simp only [z_n, pk_mul, nI_add]; done) | (simp only [z_n, pk_mul, nI_add]; exact pk_sub (by omega)) | (simp only [z_n, pk_mul, nI_add, pk_sub, *]; done)) (by omega) (by first | decide | omega) (zb_bd) ?_
        refine j_aload_n dX0_letHammerFall_78 rfl ?_
        refine j_get dX0_letHammerFall_79 fX0_35 (aB_S0 hB) (aB_l0 hB) zb_p9 ?_
        refine j_get (v := .int (s 151)) dX0_letHammerFall_82 fX0_196 (aB_SL hB hL) (aB_lt hB (aL_lt hL)) ((zb_int (tI_L hL)).trans (congrArg Value.int ((up2_n (fun e _ => hp0 0 (by unfold aL; omega) e.symm)).trans hU.2.2.1))) ?_
        refine k_callV1v dX0_letHammerFall_85 vX0_letHammerFall_199 (c_pay hB (by omega)) (aB_Sb hB (by omega)) (aB_lt hB (by omega)) rfl (Nat.le_of_ble_eq_true rfl) ⟨rfl, rfl⟩ rfl ?_
        rintro _ ⟨-, rfl⟩
        have hA4 := ar_h1 hA hwN
        have hK4 : aH1 s (aWho s) 210 = nI K := (aH1_n (by omega) (by omega) (by omega)).trans hK
        have hup4 : aH1 s (aWho s) 148 = 1 := (aH1_n (by omega) (by omega) (by omega)).trans hup
        have hx4 : aH1 s (aWho s) 155 ≤ 0 ↔ aH1 s (aWho s) 152 ≤ 0 := by
          rw [aH1_n (j := 155) (by omega) (by omega) (by omega), aH1_n (j := 152) (by omega) (by omega) (by omega)]
          exact hx
        refine j_aload_n dX0_letHammerFall_88 rfl ?_
        refine j_iconst (v := 0) dX0_letHammerFall_89 (by first | decide | omega) ?_
        refine k_callV1v dX0_letHammerFall_90 vX0_letHammerFall_167 (c_close (how := 0) hB hA4 hK4 (by first | decide | omega) ) (aB_S0 hB) (aB_l0 hB) rfl (Nat.le_of_ble_eq_true rfl) ⟨rfl, rfl⟩ rfl ?_
        rintro _ ⟨-, rfl⟩
        refine j_vret dX0_letHammerFall_93 rfl ?_
        exact hQ _ _ (zb_d ((if_neg c1).trans ((if_neg c2).trans ((if_pos c3).trans (rfl)))) (aGo_K (by first | decide | omega) hK4 hN.2.2) (ar_close hA4 hK4 hup4 hx4 (by first | decide | omega)))
      · refine j_aload_n dX0_letHammerFall_42 rfl ?_
        refine j_iconst (v := 3) dX0_letHammerFall_43 (by first | decide | omega) ?_
        refine k_callV1v dX0_letHammerFall_44 vX0_letHammerFall_167 (c_close (how := 3) hB hA hK (by first | decide | omega) ) (aB_S0 hB) (aB_l0 hB) rfl (Nat.le_of_ble_eq_true rfl) ⟨rfl, rfl⟩ rfl ?_
        rintro _ ⟨-, rfl⟩
        refine j_goto dX0_letHammerFall_47 (tgt := 93) rfl ?_
        refine j_vret dX0_letHammerFall_93 rfl ?_
        exact hQ _ _ (zb_d ((if_neg c1).trans ((if_neg c2).trans ((if_neg c3).trans (rfl)))) (aGo_K (by first | decide | omega) hK hN.2.2) (ar_close hA hK hup hx (by first | decide | omega)))
    · refine j_aload_n dX0_letHammerFall_24 rfl ?_
      refine j_iconst (v := 2) dX0_letHammerFall_25 (by first | decide | omega) ?_
      refine k_callV1v dX0_letHammerFall_26 vX0_letHammerFall_167 (c_close (how := 2) hB hA hK (by first | decide | omega) ) (aB_S0 hB) (aB_l0 hB) rfl (Nat.le_of_ble_eq_true rfl) ⟨rfl, rfl⟩ rfl ?_
      rintro _ ⟨-, rfl⟩
      refine j_goto dX0_letHammerFall_29 (tgt := 93) rfl ?_
      refine j_vret dX0_letHammerFall_93 rfl ?_
      exact hQ _ _ (zb_d ((if_neg c1).trans ((if_pos c2).trans (rfl))) (aGo_K (by first | decide | omega) hK hN.2.2) (ar_close hA hK hup hx (by first | decide | omega)))
theorem c_ham {g : zH} {B : Nat} (hB : aB B) {v : Nat → Nat → Int32} {p : Nat → Nat} {s : Nat → Int32} {N W K : Nat} (hA : AR v p s N W K) (hI : aIa s N W) (hK : s 210 = nI K) (hup : s 148 = 1) : zCT mX0_letHammerFall [.ref B] (215 + nz) (gAu g B v p) (215 + nz) (fun r h' => r = none ∧ ∃ v' p' K', h' = gAu g B v' p' ∧ (aHam s) 210 = nI K' ∧ AR v' p' (aHam s) N W K') := by
  rw [← dHam_eq hI hup (ar_z57 hA hup).1]
  exact c_ham0 hB hA hI hK hup
set_option maxRecDepth 4000 in
set_option maxHeartbeats 2000000 in
theorem c_hush_tl {g : zH} {B : Nat} (hB : aB B) {v : Nat → Nat → Int32} {p : Nat → Nat} {s : Nat → Int32} {N W K : Nat} (hA : AR v p s N W K) (hI : aIa s N W) (hK : s 210 = nI K) (hup : s 148 = 1) {x : Int32} {X : Nat × (Nat → Int32)} {Q : zQt} (hQ : ∀ r h', (fun r h' => r = none ∧ ∃ v' p' K', h' = gAu g B v' p' ∧ (aBf (upd s 154 x)) 210 = nI K' ∧ AR v' p' (aBf (upd s 154 x)) N W K') r h' → Q r (215 + nz) h') : zJ X mX0_hushOrHammer (215 + nz) 27 [.ref B] [.int x, .ref (B + p 16)] (215 + nz) (gAu g B v p) Q := by
  have hN := hA.1
  have hL := hA.2.1.1 16 (by omega)
  have hP := hA.2.1
  have hU := ar_u hA hup
  have hx := (aHas_who hI hup).1
  have hp0 : ∀ o, ¬ aL o → ¬ o = p 16 := fun o q e => q (e ▸ hL)
  refine j_put dX0_hushOrHammer_27 fX0_187 (aB_SL hB hL) (aB_lt hB (aL_lt hL)) (rfl) ?_
  rw [zb_wr (tI_L hL)]
  refine j_aload_n dX0_hushOrHammer_30 rfl ?_
  refine j_get dX0_hushOrHammer_31 fX0_35 (aB_S0 hB) (aB_l0 hB) zb_p9 ?_
  refine j_iconst (v := 0) dX0_hushOrHammer_34 (by first | decide | omega) ?_
  refine j_put dX0_hushOrHammer_35 fX0_184 (aB_SL hB hL) (aB_lt hB (aL_lt hL)) (rfl) ?_
  rw [zb_wr (tI_L hL)]
  have hA5 := ar_hush hA x
  have hK5 : upd (upd s 154 x) 157 0 210 = nI K := by
    rw [upd_n (by omega), upd_n (by omega)]
    exact hK
  have hup5 : upd (upd s 154 x) 157 0 148 = 1 := by
    rw [upd_n (by omega), upd_n (by omega)]
    exact hup
  have hI5 : aIa (upd (upd s 154 x) 157 0) N W := aIa_of hI (fun j hj => by unfold aRel at hj; rw [upd_n (by omega), upd_n (by omega)])
  have hU5 := ar_u hA5 hup5
  refine j_aload_n dX0_hushOrHammer_38 rfl ?_
  refine j_get dX0_hushOrHammer_39 fX0_35 (aB_S0 hB) (aB_l0 hB) zb_p9 ?_
  refine j_get (v := .int ((upd (upd s 154 x) 157 0) 154)) dX0_hushOrHammer_42 fX0_187 (aB_SL hB hL) (aB_lt hB (aL_lt hL)) ((zb_int (tI_L hL)).trans (congrArg Value.int (hU5.2.2.2.2.2.2.2.2))) ?_
  refine j_aload_n dX0_hushOrHammer_45 rfl ?_
  refine j_get dX0_hushOrHammer_46 fX0_32 (aB_S0 hB) (aB_l0 hB) zb_p4 ?_
  refine j_iconst (v := 2) dX0_hushOrHammer_49 (by first | decide | omega) ?_
  refine k_iald (n := 3) 2 dX0_hushOrHammer_50 (aB_S hB (by first | decide | omega)) (aB_lt hB (by first | decide | omega)) (rfl) (by omega) (by first | decide | omega) ((zb_int (by unfold tI; omega)).trans (congrArg Value.int (show _ = (upd (upd s 154 x) 157 0) 214 from ar_s hA5 33 2 (by first | decide | omega)))) ?_
  refine j_icmp_lt dX0_hushOrHammer_51 (tgt := 58) rfl (fun c1 => ?_) (fun c1 => ?_)
  · refine j_vret dX0_hushOrHammer_58 rfl ?_
    exact hQ _ _ (zb_d (if_pos c1) hK5 hA5)
  · refine j_aload_n dX0_hushOrHammer_54 rfl ?_
    refine k_callV0v dX0_hushOrHammer_55 vX0_hushOrHammer_190 (c_ham hB hA5 hI5 hK5 hup5) (aB_S0 hB) (aB_l0 hB)  (Nat.le_of_ble_eq_true rfl) ⟨rfl, rfl⟩ rfl ?_
    rintro _ ⟨-, v9, p9, K9, rfl, hK9, hA9⟩
    refine j_vret dX0_hushOrHammer_58 rfl ?_
    exact hQ _ _ (zb_d (if_neg c1) hK9 hA9)
theorem aBg_h {s : Nat → Int32} (hup : s 148 = 1) (hz : aZb (s 157)) : aBg s = if s 157 = 0 then aBf (upd s 154 (s 154 + 1)) else aBf (upd s 154 0) := by
  unfold aBg
  rw [if_pos hup]
  rcases hz with q | q
  · rw [if_neg (show ¬ s 157 = 1 by rw [q]; decide), if_pos q]
  · rw [if_pos q, if_neg (show ¬ s 157 = 0 by rw [q]; decide)]
set_option maxRecDepth 4000 in
set_option maxHeartbeats 2000000 in
theorem c_hush {g : zH} {B : Nat} (hB : aB B) {v : Nat → Nat → Int32} {p : Nat → Nat} {s : Nat → Int32} {N W K : Nat} (hA : AR v p s N W K) (hI : aIa s N W) (hK : s 210 = nI K) (hup : s 148 = 1) : zCT mX0_hushOrHammer [.ref B] (215 + nz) (gAu g B v p) (215 + nz) (fun r h' => r = none ∧ ∃ v' p' K', h' = gAu g B v' p' ∧ (aBg s) 210 = nI K' ∧ AR v' p' (aBg s) N W K') := by
  intro X Q hQ
  show zJ X mX0_hushOrHammer (215 + nz) 0 [.ref B] [] (215 + nz) (gAu g B v p) Q
  have hN := hA.1
  have hL := hA.2.1.1 16 (by omega)
  have hP := hA.2.1
  have hU := ar_u hA hup
  have hx := (aHas_who hI hup).1
  have hp0 : ∀ o, ¬ aL o → ¬ o = p 16 := fun o q e => q (e ▸ hL)
  refine j_aload_n dX0_hushOrHammer_0 rfl ?_
  refine j_get dX0_hushOrHammer_1 fX0_35 (aB_S0 hB) (aB_l0 hB) zb_p9 ?_
  refine j_aload_n dX0_hushOrHammer_4 rfl ?_
  refine j_get dX0_hushOrHammer_5 fX0_35 (aB_S0 hB) (aB_l0 hB) zb_p9 ?_
  refine j_get (v := .int (s 157)) dX0_hushOrHammer_8 fX0_184 (aB_SL hB hL) (aB_lt hB (aL_lt hL)) ((zb_int (tI_L hL)).trans (congrArg Value.int (hU.2.2.2.2.2.1))) ?_
  refine j_if_eq dX0_hushOrHammer_11 (tgt := 18) rfl (fun c1 => ?_) (fun c1 => ?_)
  · refine j_aload_n dX0_hushOrHammer_18 rfl ?_
    refine j_get dX0_hushOrHammer_19 fX0_35 (aB_S0 hB) (aB_l0 hB) zb_p9 ?_
    refine j_get (v := .int (s 154)) dX0_hushOrHammer_22 fX0_187 (aB_SL hB hL) (aB_lt hB (aL_lt hL)) ((zb_int (tI_L hL)).trans (congrArg Value.int (hU.2.2.2.2.2.2.2.2))) ?_
    refine j_iconst (v := 1) dX0_hushOrHammer_25 (by first | decide | omega) ?_
    refine j_iadd dX0_hushOrHammer_26 ?_
    exact c_hush_tl hB hA hI hK hup (fun r h' q => hQ r h' (by rw [aBg_h hup (ar_z57 hA hup).2, if_pos c1]; exact q))
  · refine j_iconst (v := 0) dX0_hushOrHammer_14 (by first | decide | omega) ?_
    refine j_goto dX0_hushOrHammer_15 (tgt := 27) rfl ?_
    exact c_hush_tl hB hA hI hK hup (fun r h' q => hQ r h' (by rw [aBg_h hup (ar_z57 hA hup).2, if_neg c1]; exact q))
set_option maxRecDepth 4000 in
set_option maxHeartbeats 2000000 in
theorem c_be_tl {g : zH} {B : Nat} (hB : aB B) {v : Nat → Nat → Int32} {p : Nat → Nat} {s : Nat → Int32} {N W K : Nat} (hA : AR v p s N W K) (hI : aIa s N W) (hK : s 210 = nI K) {y : Value} {X : Nat × (Nat → Int32)} {Q : zQt} (hQ : ∀ r h', (fun r h' => r = none ∧ ∃ v' p' K', h' = gAu g B v' p' ∧ (aBe s) 210 = nI K' ∧ AR v' p' (aBe s) N W K') r h' → Q r (215 + nz) h') : zJ X mX0_passBeat (215 + nz) 38 [.ref B, y] [] (215 + nz) (gAu g B v p) Q := by
  have hN := hA.1
  have hL := hA.2.1.1 16 (by omega)
  have hP := hA.2.1
  refine j_aload_n dX0_passBeat_38 rfl ?_
  refine j_dup dX0_passBeat_39 rfl ?_
  refine j_get (v := .int (s 198)) dX0_passBeat_40 fX0_66 (aB_S0 hB) (aB_l0 hB) ((zb_int0 (by unfold tI; decide)).trans (congrArg Value.int (ar_s hA 0 10 (by first | decide | omega)))) ?_
  refine j_iconst (v := 1) dX0_passBeat_43 (by first | decide | omega) ?_
  refine j_iadd dX0_passBeat_44 ?_
  refine j_put dX0_passBeat_45 fX0_66 (aB_S0 hB) (aB_l0 hB) (rfl) ?_
  rw [zb_wr0 (k := 10) (by unfold tI; decide)]
  have hA7 := ar_sc1 (o := 0) (k := 10) (x := s 198 + 1) hA (by first | decide | omega) (by first | decide | omega)
  have hK7 : upd s 198 (s 198 + 1) 210 = nI K := by
    rw [upd_n (by omega)]
    exact hK
  have hI7 : aIa (upd s 198 (s 198 + 1)) N W := aIa_of hI (fun j hj => by unfold aRel at hj; rw [upd_n (by omega)])
  refine j_aload_n dX0_passBeat_48 rfl ?_
  refine j_get (v := .int ((upd s 198 (s 198 + 1)) 148)) dX0_passBeat_49 fX0_56 (aB_S0 hB) (aB_l0 hB) ((zb_int0 (by unfold tI; decide)).trans (congrArg Value.int (ar_s hA7 0 8 (by first | decide | omega)))) ?_
  refine j_if_eq dX0_passBeat_52 (tgt := 59) rfl (fun c1 => ?_) (fun c1 => ?_)
  · refine j_vret dX0_passBeat_59 rfl ?_
    exact hQ _ _ (zb_d (show aBg _ = _ from if_neg (show ¬ upd s 198 (s 198 + 1) 148 = 1 by rw [c1]; decide)) hK7 hA7)
  · refine j_aload_n dX0_passBeat_55 rfl ?_
    refine k_callV0v dX0_passBeat_56 vX0_passBeat_181 (c_hush hB hA7 hI7 hK7 (hI7.2.2.2.2.2.1.resolve_left ‹¬ upd s 198 (s 198 + 1) 148 = 0›)) (aB_S0 hB) (aB_l0 hB)  (Nat.le_of_ble_eq_true rfl) ⟨rfl, rfl⟩ rfl ?_
    rintro _ ⟨-, v9, p9, K9, rfl, hK9, hA9⟩
    refine j_vret dX0_passBeat_59 rfl ?_
    exact hQ _ _ ⟨rfl, v9, p9, K9, rfl, hK9, hA9⟩
set_option maxRecDepth 4000 in
set_option maxHeartbeats 2000000 in
theorem c_bt_lp {g : zH} {B : Nat} (hB : aB B) {N W : Nat} {X : Nat × (Nat → Int32)} {Q : zQt} : ∀ (n k : Nat) (v : Nat → Nat → Int32) (p : Nat → Nat) (s : Nat → Int32) (K : Nat), k + n = N → AR v p s N W K → aIa s N W → s 210 = nI K →
    (∀ (v' : Nat → Nat → Int32) (p' : Nat → Nat) (K' : Nat) (y : Value), AR v' p' (aBt n k 1 s) N W K' → (aBt n k 1 s) 210 = nI K' → zJ X mX0_passBeat (215 + nz) 38 [.ref B, y] [] (215 + nz) (gAu g B v' p') Q) → zJ X mX0_passBeat (215 + nz) 9 [.ref B, .int (nI k)] [] (215 + nz) (gAu g B v p) Q := by
  intro n
  induction n with
  | zero =>
    intro k v p s K hk hA hI hK kk
    have hN := hA.1
    refine j_iload_n dX0_passBeat_9 rfl ?_
    refine j_aload_n dX0_passBeat_10 rfl ?_
    refine j_get (v := .int (s 199)) dX0_passBeat_11 fX0_39 (aB_S0 hB) (aB_l0 hB) ((zb_int0 (by unfold tI; decide)).trans (congrArg Value.int (ar_s hA 0 5 (by first | decide | omega)))) ?_
    refine j_icmp_ge dX0_passBeat_14 (tgt := 38) rfl (fun _ => ?_) (fun c1 => absurd (show s 199 ≤ nI k by rw [hI.1.1]; exact nI_le (by omega) (by omega)) c1)
    exact kk v p K _ hA hK
  | succ n ih =>
    intro k v p s K hk hA hI hK kk
    have hN := hA.1
    refine j_iload_n dX0_passBeat_9 rfl ?_
    refine j_aload_n dX0_passBeat_10 rfl ?_
    refine j_get (v := .int (s 199)) dX0_passBeat_11 fX0_39 (aB_S0 hB) (aB_l0 hB) ((zb_int0 (by unfold tI; decide)).trans (congrArg Value.int (ar_s hA 0 5 (by first | decide | omega)))) ?_
    refine j_icmp_ge dX0_passBeat_14 (tgt := 38) rfl (fun c1 => absurd c1 (show ¬ s 199 ≤ nI k by rw [hI.1.1]; exact nI_ge (by omega) (by omega))) (fun _ => ?_)
    refine j_aload_n dX0_passBeat_17 rfl ?_
    refine j_iload_n dX0_passBeat_18 rfl ?_
    refine k_callV1i dX0_passBeat_19 vX0_passBeat_174 (c_next hB hA hI (k := k) (by omega)) (aB_S0 hB) (aB_l0 hB) rfl (Nat.le_of_ble_eq_true rfl) ⟨rfl, rfl⟩ rfl ?_
    rintro _ _ ⟨⟨⟩, rfl⟩
    refine j_if_eq dX0_passBeat_22 (tgt := 32) rfl (fun c2 => ?_) (fun c2 => ?_)
    · refine j_iinc (v := nI (k + 1)) dX0_passBeat_32 rfl z_inc (by first | decide | omega) ?_
      refine j_goto dX0_passBeat_35 (tgt := 9) rfl ?_
      have e : aBt (n + 1) k 1 s = aBt n (k + 1) 1 s := by
        rw [aBt, if_neg (show ¬ (1 : Int32) = 0 by decide), if_pos c2]
      rw [e] at kk
      exact ih (k + 1) v p s K (by omega) hA hI hK kk
    · refine j_aload_n dX0_passBeat_25 rfl ?_
      refine j_iload_n dX0_passBeat_26 rfl ?_
      refine j_iconst (v := 1) dX0_passBeat_27 (by first | decide | omega) ?_
      refine k_callV2i dX0_passBeat_28 vX0_passBeat_177 (c_cough1 hB hA hI hK (k := k) (by omega) (Or.inr rfl)) (aB_S0 hB) (aB_l0 hB) rfl rfl (Nat.le_of_ble_eq_true rfl) ⟨rfl, rfl⟩ rfl ?_
      rintro _ _ ⟨⟨⟩, v1, p1, K1, rfl, hK1, hA1⟩
      refine j_pop dX0_passBeat_31 rfl ?_
      refine j_iinc (v := nI (k + 1)) dX0_passBeat_32 rfl z_inc (by first | decide | omega) ?_
      refine j_goto dX0_passBeat_35 (tgt := 9) rfl ?_
      have hC := aIa_cgh (c := 1) hI (show k < N by omega)
      have e : aBt (n + 1) k 1 s = aBt n (k + 1) 1 (aCgh s k 1).2 := by
        obtain ⟨a, ha, hae⟩ := hC.2
        rw [aBt, if_neg (show ¬ (1 : Int32) = 0 by decide), if_neg c2, if_neg (show ¬ (aCgh s k 1).1 < 0 by rw [hae]; exact nI_nlt (a := a) (b := 0) (by omega) (by omega))]
      rw [e] at kk
      exact ih (k + 1) v1 p1 _ K1 (by omega) hA1 hC.1 hK1 kk
set_option maxRecDepth 4000 in
set_option maxHeartbeats 2000000 in
theorem c_beat {g : zH} {B : Nat} (hB : aB B) {v : Nat → Nat → Int32} {p : Nat → Nat} {s : Nat → Int32} {N W K : Nat} (hA : AR v p s N W K) (hI : aIa s N W) (hK : s 210 = nI K) : zCT mX0_passBeat [.ref B] (215 + nz) (gAu g B v p) (215 + nz) (fun r h' => r = none ∧ ∃ v' p' K', h' = gAu g B v' p' ∧ (aBeat s N) 210 = nI K' ∧ AR v' p' (aBeat s N) N W K') := by
  intro X Q hQ
  show zJ X mX0_passBeat (215 + nz) 0 [.ref B, .null] [] (215 + nz) (gAu g B v p) Q
  have hN := hA.1
  have hL := hA.2.1.1 16 (by omega)
  have hP := hA.2.1
  refine j_aload_n dX0_passBeat_0 rfl ?_
  refine j_get (v := .int (s 148)) dX0_passBeat_1 fX0_56 (aB_S0 hB) (aB_l0 hB) ((zb_int0 (by unfold tI; decide)).trans (congrArg Value.int (ar_s hA 0 8 (by first | decide | omega)))) ?_
  refine j_if_eq dX0_passBeat_4 (tgt := 38) rfl (fun c1 => ?_) (fun c1 => ?_)
  · refine c_be_tl hB hA hI hK (fun r h' q => hQ r h' ?_)
    rw [show aBeat s N = aBe s by rw [aBeat, if_neg (show ¬ s 148 = 1 by rw [c1]; decide), aBt_0]]
    exact q
  · refine j_iconst (v := 0) dX0_passBeat_7 (by first | decide | omega) ?_
    refine j_istore_n dX0_passBeat_8 (by first | decide | omega) ?_
    refine c_bt_lp hB N 0 v p s K (by omega) hA hI hK (fun v' p' K' y h1 h2 => c_be_tl hB h1 (aIa_bt N 0 1 s (by omega) hI) h2 (fun r h' q => hQ r h' ?_))
    rw [show aBeat s N = aBe (aBt N 0 1 s) by rw [aBeat, if_pos (hI.2.2.2.2.2.1.resolve_left c1)]]
    exact q
set_option maxRecDepth 4000 in
set_option maxHeartbeats 2000000 in
theorem c_pass_lp {g : zH} {B : Nat} (hB : aB B) {N W m : Nat} (hm : m ≤ 50) {y : Int32} {X : Nat × (Nat → Int32)} {Q : zQt} : ∀ (n k : Nat) (v : Nat → Nat → Int32) (p : Nat → Nat) (s : Nat → Int32) (K : Nat), k + n = m → AR v p s N W K → aIa s N W → s 210 = nI K →
    (∀ (v' : Nat → Nat → Int32) (p' : Nat → Nat) (K' : Nat), AR v' p' (aPass N n s) N W K' → (aPass N n s) 210 = nI K' → zJ X mX0_passBeats (215 + nz) 50 [.ref B, .int (nI m), .int y, .int (nI m)] [] (215 + nz) (gAu g B v' p') Q) → zJ X mX0_passBeats (215 + nz) 35 [.ref B, .int (nI m), .int y, .int (nI k)] [] (215 + nz) (gAu g B v p) Q := by
  intro n
  induction n with
  | zero =>
    intro k v p s K hk hA hI hK kk
    obtain rfl : k = m := by omega
    have hN := hA.1
    refine j_iload_n dX0_passBeats_35 rfl ?_
    refine j_iload_n dX0_passBeats_36 rfl ?_
    refine j_icmp_ge dX0_passBeats_37 (tgt := 50) rfl (fun _ => ?_) (fun c1 => absurd (show nI k ≤ nI k from nI_le (by omega) (by omega)) c1)
    exact kk v p K hA hK
  | succ n ih =>
    intro k v p s K hk hA hI hK kk
    have hN := hA.1
    refine j_iload_n dX0_passBeats_35 rfl ?_
    refine j_iload_n dX0_passBeats_36 rfl ?_
    refine j_icmp_ge dX0_passBeats_37 (tgt := 50) rfl (fun c1 => absurd c1 (show ¬ nI m ≤ nI k from nI_ge (by omega) (by omega))) (fun _ => ?_)
    refine j_aload_n dX0_passBeats_40 rfl ?_
    refine k_callV0v dX0_passBeats_41 vX0_passBeats_171 (c_beat hB hA hI hK) (aB_S0 hB) (aB_l0 hB)  (Nat.le_of_ble_eq_true rfl) ⟨rfl, rfl⟩ rfl ?_
    rintro _ ⟨-, v1, p1, K1, rfl, hK1, hA1⟩
    refine j_iinc (v := nI (k + 1)) dX0_passBeats_44 rfl z_inc (by first | decide | omega) ?_
    refine j_goto dX0_passBeats_47 (tgt := 35) rfl ?_
    exact ih (k + 1) v1 p1 _ K1 (by omega) hA1 (aIa_beat hI) hK1 kk
set_option maxRecDepth 4000 in
set_option maxHeartbeats 2000000 in
theorem c_pass_end {g : zH} {B : Nat} (hB : aB B) {N W K8 : Nat} {v8 : Nat → Nat → Int32} {p8 : Nat → Nat} {s t : Nat → Int32} (hA8 : AR v8 p8 t N W K8) (hI8 : aIa t N W) (hK8 : t 210 = nI K8) {y z : Value} {X : Nat × (Nat → Int32)} {Q : zQt} (hQ : ∀ r h', (∃ v' p', r = some (dEnd s t) ∧ h' = gAu g B v' p' ∧ AT v' p' t) → Q r (215 + nz) h') : zJ X mX0_passBeats (215 + nz) 50 [.ref B, y, .int (s 148), z] [] (215 + nz) (gAu g B v8 p8) Q := by
  refine j_iload_n dX0_passBeats_50 rfl ?_
  refine j_if_eq dX0_passBeats_51 (tgt := 65) rfl (fun c1 => ?_) (fun c1 => ?_)
  · refine j_iconst (v := 0) dX0_passBeats_65 (by first | decide | omega) ?_
    refine j_iret dX0_passBeats_66 rfl (rfl) ?_
    exact hQ _ _ ⟨v8, p8, congrArg some ((if_pos c1).trans (rfl) : dEnd s t = _).symm, rfl, N, W, K8, hI8.1.1, hI8.2.1.1, hK8, hA8⟩
  · refine j_aload_n dX0_passBeats_54 rfl ?_
    refine j_get (v := .int (t 148)) dX0_passBeats_55 fX0_56 (aB_S0 hB) (aB_l0 hB) ((zb_int0 (by unfold tI; decide)).trans (congrArg Value.int (ar_s hA8 0 8 (by first | decide | omega)))) ?_
    refine j_if_ne dX0_passBeats_58 (tgt := 65) rfl (fun c2 => ?_) (fun c2 => ?_)
    · refine j_iconst (v := 0) dX0_passBeats_65 (by first | decide | omega) ?_
      refine j_iret dX0_passBeats_66 rfl (rfl) ?_
      exact hQ _ _ ⟨v8, p8, congrArg some ((if_neg c1).trans ((if_neg c2).trans (rfl)) : dEnd s t = _).symm, rfl, N, W, K8, hI8.1.1, hI8.2.1.1, hK8, hA8⟩
    · refine j_iconst (v := 1) dX0_passBeats_61 (by first | decide | omega) ?_
      refine j_goto dX0_passBeats_62 (tgt := 66) rfl ?_
      refine j_iret dX0_passBeats_66 rfl (rfl) ?_
      exact hQ _ _ ⟨v8, p8, congrArg some ((if_neg c1).trans ((if_pos c2).trans (rfl)) : dEnd s t = _).symm, rfl, N, W, K8, hI8.1.1, hI8.2.1.1, hK8, hA8⟩
set_option maxRecDepth 4000 in
set_option maxHeartbeats 2000000 in
theorem c_beats {g : zH} {B : Nat} (hB : aB B) {v : Nat → Nat → Int32} {p : Nat → Nat} {s : Nat → Int32} {N W K : Nat} (hA : AR v p s N W K) (hI : aIa s N W) (hK : s 210 = nI K) {m : Int32} : zCT mX0_passBeats [.ref B, .int m] (215 + nz) (gAu g B v p) (215 + nz) (fun r h' => ∃ v' p', r = some ((aBeats s N m).1) ∧ h' = gAu g B v' p' ∧ AT v' p' ((aBeats s N m).2.2)) := by
  intro X Q hQ
  show zJ X mX0_passBeats (215 + nz) 0 [.ref B, .int m, .null, .null] [] (215 + nz) (gAu g B v p) Q
  have hN := hA.1
  have hL := hA.2.1.1 16 (by omega)
  have hP := hA.2.1
  have hT := AT_mk hA hI hK
  refine j_iload_n dX0_passBeats_0 rfl ?_
  refine j_iconst (v := 1) dX0_passBeats_1 (by first | decide | omega) ?_
  refine j_bipush (v := 50) dX0_passBeats_2 (by first | decide | omega) ?_
  refine k_callS3i dX0_passBeats_4 vX0_passBeats_98 (c_in) rfl rfl rfl (Nat.le_of_ble_eq_true rfl) ⟨rfl, rfl⟩ rfl ?_
  rintro _ _ ⟨⟨⟩, rfl⟩
  refine j_if_ne dX0_passBeats_7 (tgt := 13) rfl (fun c1 => ?_) (fun c1 => ?_)
  · refine j_aload_n dX0_passBeats_13 rfl ?_
    refine j_get (v := .int (s 198)) dX0_passBeats_14 fX0_66 (aB_S0 hB) (aB_l0 hB) ((zb_int0 (by unfold tI; decide)).trans (congrArg Value.int (ar_s hA 0 10 (by first | decide | omega)))) ?_
    refine j_iload_n dX0_passBeats_17 rfl ?_
    refine j_iadd dX0_passBeats_18 ?_
    refine j_sipush (v := 9999) dX0_passBeats_19 (by first | decide | omega) ?_
    refine j_icmp_le dX0_passBeats_22 (tgt := 28) rfl (fun c2 => ?_) (fun c2 => ?_)
    · obtain ⟨j, hj1, hj2, rfl, hb2⟩ := aIn_nat (a := 1) (b := 50) (by omega) (by omega) ‹¬ aIn m 1 50 = 0›
      refine j_aload_n dX0_passBeats_28 rfl ?_
      refine j_get (v := .int (s 148)) dX0_passBeats_29 fX0_56 (aB_S0 hB) (aB_l0 hB) ((zb_int0 (by unfold tI; decide)).trans (congrArg Value.int (ar_s hA 0 8 (by first | decide | omega)))) ?_
      refine j_istore_n dX0_passBeats_32 (by first | decide | omega) ?_
      refine j_iconst (v := 0) dX0_passBeats_33 (by first | decide | omega) ?_
      refine j_istore_n dX0_passBeats_34 (by first | decide | omega) ?_
      refine c_pass_lp hB hj2 j 0 v p s K (by omega) hA hI hK (fun v' p' K' h1 h2 => c_pass_end hB (s := s) h1 (aIa_pass j s hI) h2 (fun r h' q => hQ r h' ?_))
      have e : aBeats s N (nI j) = (dEnd s (aPass N j s), true, aPass N j s) := (dBeats_eq hI).symm.trans ((if_neg c1).trans ((if_pos c2).trans ((by rw [hb2]))))
      rw [e]
      exact q
    · refine j_ldc (v := (-1000003)) dX0_passBeats_25 cX0_108 ?_
      refine j_iret dX0_passBeats_27 rfl (rfl) ?_
      exact hQ _ _ (zb_w ((dBeats_eq hI).symm.trans ((if_neg c1).trans ((if_neg c2).trans (rfl)))) (hT))
  · refine j_ldc (v := (-1000001)) dX0_passBeats_10 cX0_102 ?_
    refine j_iret dX0_passBeats_12 rfl (rfl) ?_
    exact hQ _ _ (zb_w ((dBeats_eq hI).symm.trans ((if_pos c1).trans (rfl))) (hT))
