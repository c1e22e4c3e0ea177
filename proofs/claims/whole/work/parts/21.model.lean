abbrev aNn (s : Nat → Int32) : Nat := (s 199).toNatClampNeg
abbrev aWn (s : Nat → Int32) : Nat := (s 200).toNatClampNeg
/-- the array as it always is -/
def aI (s : Nat → Int32) : Prop := aIa s (aNn s) (aWn s)
theorem aI_of {s : Nat → Int32} {N W : Nat} (h : aIa s N W) : aI s := by
  have e1 : aNn s = N := by
    show (s 199).toNatClampNeg = N
    rw [h.1.1, nI_clamp (by have := h.1.2; omega)]
  have e2 : aWn s = W := by
    show (s 200).toNatClampNeg = W
    rw [h.2.1.1, nI_clamp (by have := h.2.1.2; omega)]
  unfold aI
  rw [e1, e2]
  exact h
theorem aIa_bidder {s : Nat → Int32} {N W : Nat} {r c p v : Int32} (h : aIa s N W) : aI (aBidder s N r c p v).2.2 := by
  unfold aBidder
  by_cases q1 : aSeat r c = 0
  · rw [if_pos q1]; exact aI_of h
  · rw [if_neg q1]
    by_cases q2 : aIn p 0 999 = 0
    · rw [if_pos q2]; exact aI_of h
    · rw [if_neg q2]
      by_cases q3 : aIn v 1 9 = 0
      · rw [if_pos q3]; exact aI_of h
      · rw [if_neg q3]
        by_cases q4 : aFind s r c N 0 < 0
        · rw [if_pos q4]
          by_cases q5 : s 199 = 12
          · rw [if_pos q5]; exact aI_of h
          · rw [if_neg q5]
            have hN : N < 12 := by
              rcases Nat.lt_or_ge N 12 with q | q
              · exact q
              · exact absurd (by rw [h.1.1, show N = 12 by have := h.1.2; omega]; rfl) q5
            exact aI_of (aIa_bid h hN (aSeat_R q1).1 (aSeat_R q1).2 (aIn_R (a := 0) (b := 999) (by omega) (by omega) q2) q4)
        · rw [if_neg q4]; exact aI_of h
theorem aIa_setB {s : Nat → Int32} {N W cell : Nat} {b v : Int32} (h : aIa s N W) (hc : cell = 4 ∨ cell = 5) : aI (aSetB s b v cell).2.2 := by
  unfold aSetB
  by_cases q1 : aIs s b = 0
  · rw [if_pos q1]; exact aI_of h
  · rw [if_neg q1]
    by_cases q2 : aIn v 0 5 = 0
    · rw [if_pos q2]; exact aI_of h
    · rw [if_neg q2]
      obtain ⟨k, hk, -, hb⟩ := aIs_nat h.1.1 h.1.2 q1
      have hN := h.1.2
      rw [hb]
      rcases hc with rfl | rfl
      · exact aI_of (aIa_cold h (by omega) (aIn_R (a := 0) (b := 5) (by omega) (by omega) q2))
      · exact aI_of (aIa_irr (j := 11 * k + 5) (v := v) h (by unfold aRel; omega))
theorem aIa_lotQ {s : Nat → Int32} {N W : Nat} {r v : Int32} (h : aIa s N W) : aI (aLot s W r v).2.2 := by
  unfold aLot
  by_cases q1 : aIn r 1 99 = 0
  · rw [if_pos q1]; exact aI_of h
  · rw [if_neg q1]
    by_cases q2 : aIn v 1 20 = 0
    · rw [if_pos q2]; exact aI_of h
    · rw [if_neg q2]
      by_cases q3 : s 200 = 8
      · rw [if_pos q3]; exact aI_of h
      · rw [if_neg q3]
        have hW : W < 8 := by
          rcases Nat.lt_or_ge W 8 with q | q
          · exact q
          · exact absurd (by rw [h.2.1.1, show W = 8 by have := h.2.1.2; omega]; rfl) q3
        exact aI_of (aIa_lot h hW (aIn_R (a := 1) (b := 99) (by omega) (by omega) q1) (aIn_R (a := 1) (b := 20) (by omega) (by omega) q2))
theorem aIa_coughQ {s : Nat → Int32} {N W : Nat} {b : Int32} (h : aIa s N W) : aI (aCough s b).2.2 := by
  unfold aCough
  by_cases q1 : aIs s b = 0
  · rw [if_pos q1]; exact aI_of h
  · rw [if_neg q1]
    obtain ⟨k, hk, -, hb⟩ := aIs_nat h.1.1 h.1.2 q1
    rw [hb]
    exact aI_of (aIa_cgh h hk).1
theorem aIa_beatsQ {s : Nat → Int32} {N W : Nat} {m : Int32} (h : aIa s N W) : aI (aBeats s N m).2.2 := by
  unfold aBeats
  by_cases q1 : aIn m 1 50 = 0
  · rw [if_pos q1]; exact aI_of h
  · rw [if_neg q1]
    by_cases q2 : s 198 + m ≤ 9999
    · rw [if_pos q2]; exact aI_of (aIa_pass _ _ h)
    · rw [if_neg q2]; exact aI_of h
theorem aIa_upQ {s : Nat → Int32} {N W : Nat} (h : aIa s N W) : aI (aUp s W).2.2 := by
  unfold aUp
  by_cases q1 : s 148 = 1
  · rw [if_pos q1]; exact aI_of h
  · rw [if_neg q1]
    by_cases q2 : s 200 = 0
    · rw [if_pos q2]; exact aI_of h
    · rw [if_neg q2]
      have hW0 : 0 < W := by
        rcases Nat.eq_zero_or_pos W with q | q
        · exact absurd (by rw [h.2.1.1, q]; rfl) q2
        · exact q
      exact aI_of (aIa_up h hW0)
theorem aIa_ngtQ {s sp : Nat → Int32} {N W : Nat} (h : aIa s N W) : aI (aNgt s sp N).2.2 := by
  unfold aNgt
  by_cases q1 : s 148 = 1
  · rw [if_pos q1]; exact aI_of h
  · rw [if_neg q1]
    by_cases q2 : s 209 = 999
    · rw [if_pos q2]; exact aI_of h
    · rw [if_neg q2]; exact aI_of (aIa_night h)
theorem aIa_setQ {s : Nat → Int32} {N W : Nat} {k v : Int32} (h : aIa s N W) : aI (aSet s k v).2.2 := by
  unfold aSet
  by_cases q1 : aIn k 0 2 = 0
  · rw [if_pos q1]; exact aI_of h
  · rw [if_neg q1]
    by_cases q2 : aIn v 1 9 = 0
    · rw [if_pos q2]; exact aI_of h
    · rw [if_neg q2]
      obtain ⟨j, -, j2, -, j4⟩ := aIn_nat (a := 0) (b := 2) (by omega) (by omega) q1
      rw [j4]
      exact aI_of (aIa_irr (j := 212 + j) (v := v) h (by unfold aRel; omega))
abbrev aTr (q : Int32 × Bool × (Nat → Int32)) (sp : Nat → Int32) : Int32 × (Nat → Int32) × (Nat → Int32) := (q.1, q.2.2, sp)
/-- an order is done: its answer, the array, what the spare one holds -/
def aDo (s sp nm : Nat → Int32) (c : Int32) : Int32 × (Nat → Int32) × (Nat → Int32) :=
  if c = 112 then aTr (aBidder s (aNn s) (nm 0) (nm 1) (nm 2) (nm 3)) sp
  else if c = 108 then aTr (aLot s (aWn s) (nm 0) (nm 1)) sp
  else if c = 109 then aTr (aSetB s (nm 0) (nm 1) 5) sp
  else if c = 99 then aTr (aCough s (nm 0)) sp
  else if c = 98 then aTr (aBeats s (aNn s) (nm 0)) sp
  else if c = 117 then aTr (aUp s (aWn s)) sp
  else aTr (aNgt s (aMix s sp (11 * aNn s)) (aNn s)) (cond (aNgt s (aMix s sp (11 * aNn s)) (aNn s)).2.1 (aMix s sp (11 * aNn s)) sp)
theorem aI_do {s sp nm : Nat → Int32} {c : Int32} (h : aI s) : aI (aDo s sp nm c).2.1 := by
  unfold aDo
  split
  · exact aIa_bidder h
  · split
    · exact aIa_lotQ h
    · split
      · exact aIa_setB h (Or.inr rfl)
      · split
        · exact aIa_coughQ h
        · split
          · exact aIa_beatsQ h
          · split
            · exact aIa_upQ h
            · exact aIa_ngtQ h
theorem aNof_7 {c : Int32} (h : 0 ≤ aNof c) : c = nI 112 ∨ c = nI 108 ∨ c = nI 109 ∨ c = nI 99 ∨ c = nI 98 ∨ c = nI 117 ∨ c = nI 110 := by
  unfold aNof at h
  by_cases h1 : c = 112
  · exact Or.inl h1
  · by_cases h2 : c = 108
    · exact Or.inr (Or.inl h2)
    · by_cases h3 : c = 109
      · exact Or.inr (Or.inr (Or.inl h3))
      · by_cases h4 : c = 99
        · exact Or.inr (Or.inr (Or.inr (Or.inl h4)))
        · by_cases h5 : c = 98
          · exact Or.inr (Or.inr (Or.inr (Or.inr (Or.inl h5))))
          · by_cases h6 : c = 117
            · exact Or.inr (Or.inr (Or.inr (Or.inr (Or.inr (Or.inl h6)))))
            · by_cases h7 : c = 110
              · exact Or.inr (Or.inr (Or.inr (Or.inr (Or.inr (Or.inr h7)))))
              · rw [if_neg h1, if_neg h2, if_neg h3, if_neg h4, if_neg h5, if_neg h6, if_neg h7] at h
                exact absurd h (by decide)
theorem z_same {g : zH} {b : Bool} {t : Nat → Int32} : gS (cond b g g) t = gS g t := by cases b <;> rfl
theorem z_sameN {g : zH} {o tx nm sp sq t : Nat → Int32} {b : Bool} : gS (cond b (gW (gT (gW g sp) o tx nm) sq) (gT (gW g sp) o tx nm)) t = gS (gT (gW g (cond b sq sp)) o tx nm) t := by
  cases b
  · rfl
  · show gS (gW (gT (gW g sp) o tx nm) sq) t = gS (gT (gW g sq) o tx nm) t
    rw [gT_gW, gW_W]
theorem gT_run {g : zH} {o tx nm : Nat → Int32} : gT g o tx nm 215 5 = .int (o 5) := by
  unfold gT
  rw [va_up_self]
  rfl
theorem gT_sp {g : zH} {o tx nm sp : Nat → Int32} : gT (gW g sp) o tx nm 219 = iA sp := by
  rw [gT_ne (by decide)]
  exact va_up_self _ _ _
theorem aDo_112 {s sp nm : Nat → Int32} : aDo s sp nm (nI 112) = aTr (aBidder s (aNn s) (nm 0) (nm 1) (nm 2) (nm 3)) sp := by
  unfold aDo
  rw [if_pos (by decide)]
theorem aDo_108 {s sp nm : Nat → Int32} : aDo s sp nm (nI 108) = aTr (aLot s (aWn s) (nm 0) (nm 1)) sp := by
  unfold aDo
  rw [if_neg (by decide), if_pos (by decide)]
theorem aDo_109 {s sp nm : Nat → Int32} : aDo s sp nm (nI 109) = aTr (aSetB s (nm 0) (nm 1) 5) sp := by
  unfold aDo
  rw [if_neg (by decide), if_neg (by decide), if_pos (by decide)]
theorem aDo_99 {s sp nm : Nat → Int32} : aDo s sp nm (nI 99) = aTr (aCough s (nm 0)) sp := by
  unfold aDo
  rw [if_neg (by decide), if_neg (by decide), if_neg (by decide), if_pos (by decide)]
theorem aDo_98 {s sp nm : Nat → Int32} : aDo s sp nm (nI 98) = aTr (aBeats s (aNn s) (nm 0)) sp := by
  unfold aDo
  rw [if_neg (by decide), if_neg (by decide), if_neg (by decide), if_neg (by decide), if_pos (by decide)]
theorem aDo_117 {s sp nm : Nat → Int32} : aDo s sp nm (nI 117) = aTr (aUp s (aWn s)) sp := by
  unfold aDo
  rw [if_neg (by decide), if_neg (by decide), if_neg (by decide), if_neg (by decide), if_neg (by decide), if_pos (by decide)]
theorem aDo_110 {s sp nm : Nat → Int32} : aDo s sp nm (nI 110) = aTr (aNgt s (aMix s sp (11 * aNn s)) (aNn s)) (cond (aNgt s (aMix s sp (11 * aNn s)) (aNn s)).2.1 (aMix s sp (11 * aNn s)) sp) := by
  unfold aDo
  rw [if_neg (by decide), if_neg (by decide), if_neg (by decide), if_neg (by decide), if_neg (by decide), if_neg (by decide)]
set_option maxRecDepth 4000 in
set_option maxHeartbeats 2000000 in
theorem s_does {g : zH} (hg : gP g) {o tx nm s sp : Nat → Int32} (h5 : o 5 = 1) {c : Int32} (h13 : o 13 = c) (hc : 0 ≤ aNof c) (hI : aI s) : zCT mX5_does [.ref 215] 222 (gS (gT (gW g sp) o tx nm) s) 222 (fun r h' => r = some (aDo s sp nm c).1 ∧ h' = gS (gT (gW g (aDo s sp nm c).2.2) o tx nm) (aDo s sp nm c).2.1) := by
  intro X Q hQ
  show zJ X mX5_does 222 0 [.ref 215] [] 222 (gS (gT (gW g sp) o tx nm) s) Q
  refine j_aload_n dX5_does_0 rfl ?_
  refine t_get (v := c) 13 (by decide) dX5_does_1 fX5_136 (h13) ?_
  rcases aNof_7 hc with rfl | rfl | rfl | rfl | rfl | rfl | rfl
  · have e := aDo_112 (s := s) (sp := sp) (nm := nm)
    refine j_tableIn dX5_does_4 (off := 96) (tgt := 100) (by decide) (by decide) rfl rfl ?_
    refine j_aload_n dX5_does_100 rfl ?_
    refine j_aload_n dX5_does_101 rfl ?_
    refine j_get (v := .ref 221) dX5_does_102 fX5_25 rfl (by decide) (gS_p14 (gP_gT (gP_gW hg))) ?_
    refine j_iconst (v := 0) dX5_does_105 (by decide) ?_
    refine t_ald1 (0) dX5_does_106 (rfl) (by first | decide | omega) ?_
    refine j_aload_n dX5_does_107 rfl ?_
    refine j_get (v := .ref 221) dX5_does_108 fX5_25 rfl (by decide) (gS_p14 (gP_gT (gP_gW hg))) ?_
    refine j_iconst (v := 1) dX5_does_111 (by decide) ?_
    refine t_ald1 (1) dX5_does_112 (rfl) (by first | decide | omega) ?_
    refine j_aload_n dX5_does_113 rfl ?_
    refine j_get (v := .ref 221) dX5_does_114 fX5_25 rfl (by decide) (gS_p14 (gP_gT (gP_gW hg))) ?_
    refine j_iconst (v := 2) dX5_does_117 (by decide) ?_
    refine t_ald1 (2) dX5_does_118 (rfl) (by first | decide | omega) ?_
    refine j_aload_n dX5_does_119 rfl ?_
    refine j_get (v := .ref 221) dX5_does_120 fX5_25 rfl (by decide) (gS_p14 (gP_gT (gP_gW hg))) ?_
    refine j_iconst (v := 3) dX5_does_123 (by decide) ?_
    refine t_ald1 (3) dX5_does_124 (rfl) (by first | decide | omega) ?_
    refine k_callV4i dX5_does_125 vX5_does_148 (s_bidder (gP_gT (gP_gW hg)) (gP_gT (gP_gW hg)) (s_changes_run (by rw [gT_run]; exact congrArg Value.int h5)) hI.1.1 hI.1.2) rfl (by decide) rfl rfl rfl rfl (Nat.le_of_ble_eq_true rfl) ⟨rfl, rfl⟩ rfl ?_
    rintro _ _ ⟨⟨⟩, rfl⟩
    refine j_iret dX5_does_128 rfl (rfl) ?_
    exact hQ _ _ ⟨by rw [e], by rw [e]; exact z_same⟩
  · have e := aDo_108 (s := s) (sp := sp) (nm := nm)
    refine j_tableIn dX5_does_4 (off := 125) (tgt := 129) (by decide) (by decide) rfl rfl ?_
    refine j_aload_n dX5_does_129 rfl ?_
    refine j_aload_n dX5_does_130 rfl ?_
    refine j_get (v := .ref 221) dX5_does_131 fX5_25 rfl (by decide) (gS_p14 (gP_gT (gP_gW hg))) ?_
    refine j_iconst (v := 0) dX5_does_134 (by decide) ?_
    refine t_ald1 (0) dX5_does_135 (rfl) (by first | decide | omega) ?_
    refine j_aload_n dX5_does_136 rfl ?_
    refine j_get (v := .ref 221) dX5_does_137 fX5_25 rfl (by decide) (gS_p14 (gP_gT (gP_gW hg))) ?_
    refine j_iconst (v := 1) dX5_does_140 (by decide) ?_
    refine t_ald1 (1) dX5_does_141 (rfl) (by first | decide | omega) ?_
    refine k_callV2i dX5_does_142 vX5_does_152 (s_lot (gP_gT (gP_gW hg)) (gP_gT (gP_gW hg)) (s_changes_run (by rw [gT_run]; exact congrArg Value.int h5)) hI.2.1.1 hI.2.1.2) rfl (by decide) rfl rfl (Nat.le_of_ble_eq_true rfl) ⟨rfl, rfl⟩ rfl ?_
    rintro _ _ ⟨⟨⟩, rfl⟩
    refine j_iret dX5_does_145 rfl (rfl) ?_
    exact hQ _ _ ⟨by rw [e], by rw [e]; exact z_same⟩
  · have e := aDo_109 (s := s) (sp := sp) (nm := nm)
    refine j_tableIn dX5_does_4 (off := 142) (tgt := 146) (by decide) (by decide) rfl rfl ?_
    refine j_aload_n dX5_does_146 rfl ?_
    refine j_aload_n dX5_does_147 rfl ?_
    refine j_get (v := .ref 221) dX5_does_148 fX5_25 rfl (by decide) (gS_p14 (gP_gT (gP_gW hg))) ?_
    refine j_iconst (v := 0) dX5_does_151 (by decide) ?_
    refine t_ald1 (0) dX5_does_152 (rfl) (by first | decide | omega) ?_
    refine j_aload_n dX5_does_153 rfl ?_
    refine j_get (v := .ref 221) dX5_does_154 fX5_25 rfl (by decide) (gS_p14 (gP_gT (gP_gW hg))) ?_
    refine j_iconst (v := 1) dX5_does_157 (by decide) ?_
    refine t_ald1 (1) dX5_does_158 (rfl) (by first | decide | omega) ?_
    refine k_callV2i dX5_does_159 vX5_does_155 (s_muffle (gP_gT (gP_gW hg)) (gP_gT (gP_gW hg)) (s_changes_run (by rw [gT_run]; exact congrArg Value.int h5)) hI.1.1 hI.1.2) rfl (by decide) rfl rfl (Nat.le_of_ble_eq_true rfl) ⟨rfl, rfl⟩ rfl ?_
    rintro _ _ ⟨⟨⟩, rfl⟩
    refine j_iret dX5_does_162 rfl (rfl) ?_
    exact hQ _ _ ⟨by rw [e], by rw [e]; exact z_same⟩
  · have e := aDo_99 (s := s) (sp := sp) (nm := nm)
    refine j_tableIn dX5_does_4 (off := 159) (tgt := 163) (by decide) (by decide) rfl rfl ?_
    refine j_aload_n dX5_does_163 rfl ?_
    refine j_aload_n dX5_does_164 rfl ?_
    refine j_get (v := .ref 221) dX5_does_165 fX5_25 rfl (by decide) (gS_p14 (gP_gT (gP_gW hg))) ?_
    refine j_iconst (v := 0) dX5_does_168 (by decide) ?_
    refine t_ald1 (0) dX5_does_169 (rfl) (by first | decide | omega) ?_
    refine k_callV1i dX5_does_170 vX5_does_158 (s_cough (gP_gT (gP_gW hg)) (gP_gT (gP_gW hg)) (s_changes_run (by rw [gT_run]; exact congrArg Value.int h5)) hI.1.1 hI.1.2) rfl (by decide) rfl (Nat.le_of_ble_eq_true rfl) ⟨rfl, rfl⟩ rfl ?_
    rintro _ _ ⟨⟨⟩, rfl⟩
    refine j_iret dX5_does_173 rfl (rfl) ?_
    exact hQ _ _ ⟨by rw [e], by rw [e]; exact z_same⟩
  · have e := aDo_98 (s := s) (sp := sp) (nm := nm)
    refine j_tableIn dX5_does_4 (off := 170) (tgt := 174) (by decide) (by decide) rfl rfl ?_
    refine j_aload_n dX5_does_174 rfl ?_
    refine j_aload_n dX5_does_175 rfl ?_
    refine j_get (v := .ref 221) dX5_does_176 fX5_25 rfl (by decide) (gS_p14 (gP_gT (gP_gW hg))) ?_
    refine j_iconst (v := 0) dX5_does_179 (by decide) ?_
    refine t_ald1 (0) dX5_does_180 (rfl) (by first | decide | omega) ?_
    refine k_callV1i dX5_does_181 vX5_does_161 (s_beats (gP_gT (gP_gW hg)) (gP_gT (gP_gW hg)) (s_changes_run (by rw [gT_run]; exact congrArg Value.int h5)) (aIa_ok hI)) rfl (by decide) rfl (Nat.le_of_ble_eq_true rfl) ⟨rfl, rfl⟩ rfl ?_
    rintro _ _ ⟨⟨⟩, rfl⟩
    refine j_iret dX5_does_184 rfl (rfl) ?_
    exact hQ _ _ ⟨by rw [e], by rw [e]; exact z_same⟩
  · have e := aDo_117 (s := s) (sp := sp) (nm := nm)
    refine j_tableIn dX5_does_4 (off := 181) (tgt := 185) (by decide) (by decide) rfl rfl ?_
    refine j_aload_n dX5_does_185 rfl ?_
    refine k_callV0i dX5_does_186 vX5_does_164 (s_putUp (gP_gT (gP_gW hg)) (gP_gT (gP_gW hg)) (s_changes_run (by rw [gT_run]; exact congrArg Value.int h5)) hI.2.1.1 hI.2.1.2) rfl (by decide)  (Nat.le_of_ble_eq_true rfl) ⟨rfl, rfl⟩ rfl ?_
    rintro _ _ ⟨⟨⟩, rfl⟩
    refine j_iret dX5_does_189 rfl (rfl) ?_
    exact hQ _ _ ⟨by rw [e], by rw [e]; exact z_same⟩
  · have e := aDo_110 (s := s) (sp := sp) (nm := nm)
    refine j_tableIn dX5_does_4 (off := 186) (tgt := 190) (by decide) (by decide) rfl rfl ?_
    refine j_aload_n dX5_does_190 rfl ?_
    refine k_callV0i dX5_does_191 vX5_does_167 (s_night (gP_gT (gP_gW hg)) (gP_gT (gP_gW hg)) (s_changes_run (by rw [gT_run]; exact congrArg Value.int h5)) hI.1.1 hI.1.2 (sp := sp) gT_sp) rfl (by decide)  (Nat.le_of_ble_eq_true rfl) ⟨rfl, rfl⟩ rfl ?_
    rintro _ _ ⟨⟨⟩, rfl⟩
    refine j_iret dX5_does_194 rfl (rfl) ?_
    exact hQ _ _ ⟨by rw [e], by rw [e]; exact z_sameN⟩
