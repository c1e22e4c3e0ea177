theorem upd_s {f : Nat → Int32} {k : Nat} {x : Int32} : upd f k x k = x := by simp [upd]
theorem upd_n {f : Nat → Int32} {k j : Nat} {x : Int32} (h : j ≠ k) : upd f k x j = f j := by simp [upd, h]
/-- whose the latest bid is -/
def aWho (s : Nat → Int32) : Nat := (s 152).toNatClampNeg - 1
def aWk (s : Nat → Int32) : Prop := aWho s < 12 ∧ (s 152 = 0 ∨ s 152 = nI (aWho s + 1))
theorem aWho_sub {s : Nat → Int32} (hw : aWk s) (h : ¬ s 152 = 0) : s 152 - 1 = nI (aWho s) := by
  rcases hw.2 with q | q
  · exact absurd q h
  · rw [q]
    exact nI_pred _
def aH1 (s : Nat → Int32) (j : Nat) : Nat → Int32 :=
  let t := upd s (11 * j + 2) (s (11 * j + 2) + (0 - s 151))
  let t := upd t (11 * j + 9) (t (11 * j + 9) + t 151)
  let t := upd t (11 * j + 8) (t (11 * j + 8) + 1)
  upd t 205 (t 205 + t 151)
def aHam (s : Nat → Int32) : Nat → Int32 := if s 152 = 0 then aGo s 2 else if s 156 = 1 then aGo s 3 else aGo (aH1 s (aWho s)) 0
set_option maxRecDepth 4000 in
set_option maxHeartbeats 1000000 in
theorem s_hammers {g : zH} {s : Nat → Int32} (hg : gP g) (hw : aWk s) : zCT mX5_hammers [.ref 215] 222 (gS g s) 222 (fun r h' => r = none ∧ h' = gS g (aHam s)) := by
  intro X Q hQ
  show zJ X mX5_hammers 222 0 [.ref 215, .null] [] 222 (gS g s) Q
  have hw1 := hw.1
  refine j_aload_n dX5_hammers_0 rfl ?_
  refine j_get (v := .ref 216) dX5_hammers_1 fX5_7 rfl (by decide) (gS_p0 hg) ?_
  refine j_sipush (v := 152) dX5_hammers_4 (by decide) ?_
  refine s_ald 152 dX5_hammers_7 (rfl) (by first | decide | omega) ?_
  refine j_if_ne dX5_hammers_8 (tgt := 19) rfl (fun c1 => ?_) (fun c1 => ?_)
  · refine j_aload_n dX5_hammers_19 rfl ?_
    refine j_get (v := .ref 216) dX5_hammers_20 fX5_7 rfl (by decide) (gS_p0 hg) ?_
    refine j_sipush (v := 156) dX5_hammers_23 (by decide) ?_
    refine s_ald 156 dX5_hammers_26 (rfl) (by first | decide | omega) ?_
    refine j_iconst (v := 1) dX5_hammers_27 (by decide) ?_
    refine j_icmp_ne dX5_hammers_28 (tgt := 39) rfl (fun c2 => ?_) (fun c2 => ?_)
    · refine j_aload_n dX5_hammers_39 rfl ?_
      refine j_get (v := .ref 216) dX5_hammers_40 fX5_7 rfl (by decide) (gS_p0 hg) ?_
      refine j_sipush (v := 152) dX5_hammers_43 (by decide) ?_
      refine s_ald 152 dX5_hammers_46 (rfl) (by first | decide | omega) ?_
      refine j_iconst (v := 1) dX5_hammers_47 (by decide) ?_
      refine j_isub dX5_hammers_48 ?_
      rw [aWho_sub hw c1]
      refine j_istore_n dX5_hammers_49 (by decide) ?_
      refine j_aload_n dX5_hammers_50 rfl ?_
      refine j_iload_n dX5_hammers_51 rfl ?_
      refine j_iconst (v := 2) dX5_hammers_52 (by decide) ?_
      refine j_aload_n dX5_hammers_53 rfl ?_
      refine j_get (v := .ref 216) dX5_hammers_54 fX5_7 rfl (by decide) (gS_p0 hg) ?_
      refine j_sipush (v := 151) dX5_hammers_57 (by decide) ?_
      refine s_ald 151 dX5_hammers_60 (rfl) (by first | decide | omega) ?_
      refine j_ineg dX5_hammers_61 ?_
      refine k_callV3v dX5_hammers_62 vX5_hammers_56 (s_adds hg (aWho s) 2 (by omega) (by omega)) rfl (by decide) rfl rfl rfl (Nat.le_of_ble_eq_true rfl) ⟨rfl, rfl⟩ rfl ?_
      rintro _ ⟨-, rfl⟩
      refine j_aload_n dX5_hammers_65 rfl ?_
      refine j_iload_n dX5_hammers_66 rfl ?_
      refine j_bipush (v := 9) dX5_hammers_67 (by decide) ?_
      refine j_aload_n dX5_hammers_69 rfl ?_
      refine j_get (v := .ref 216) dX5_hammers_70 fX5_7 rfl (by decide) (gS_p0 hg) ?_
      refine j_sipush (v := 151) dX5_hammers_73 (by decide) ?_
      refine s_ald 151 dX5_hammers_76 (rfl) (by first | decide | omega) ?_
      refine k_callV3v dX5_hammers_77 vX5_hammers_56 (s_adds hg (aWho s) 9 (by omega) (by omega)) rfl (by decide) rfl rfl rfl (Nat.le_of_ble_eq_true rfl) ⟨rfl, rfl⟩ rfl ?_
      rintro _ ⟨-, rfl⟩
      refine j_aload_n dX5_hammers_80 rfl ?_
      refine j_iload_n dX5_hammers_81 rfl ?_
      refine j_bipush (v := 8) dX5_hammers_82 (by decide) ?_
      refine j_iconst (v := 1) dX5_hammers_84 (by decide) ?_
      refine k_callV3v dX5_hammers_85 vX5_hammers_56 (s_adds hg (aWho s) 8 (by omega) (by omega)) rfl (by decide) rfl rfl rfl (Nat.le_of_ble_eq_true rfl) ⟨rfl, rfl⟩ rfl ?_
      rintro _ ⟨-, rfl⟩
      refine j_aload_n dX5_hammers_88 rfl ?_
      refine j_get (v := .ref 216) dX5_hammers_89 fX5_7 rfl (by decide) (gS_p0 hg) ?_
      refine j_sipush (v := 205) dX5_hammers_92 (by decide) ?_
      refine j_dup2 dX5_hammers_95 rfl rfl ?_
      refine s_ald 205 dX5_hammers_96 (rfl) (by first | decide | omega) ?_
      refine j_aload_n dX5_hammers_97 rfl ?_
      refine j_get (v := .ref 216) dX5_hammers_98 fX5_7 rfl (by decide) (gS_p0 hg) ?_
      refine j_sipush (v := 151) dX5_hammers_101 (by decide) ?_
      refine s_ald 151 dX5_hammers_104 (rfl) (by first | decide | omega) ?_
      refine j_iadd dX5_hammers_105 ?_
      refine s_ast 205 dX5_hammers_106 (rfl) (by first | decide | omega) ?_
      refine j_aload_n dX5_hammers_107 rfl ?_
      refine j_iconst (v := 0) dX5_hammers_108 (by decide) ?_
      refine k_callV1v dX5_hammers_109 vX5_hammers_60 (s_goes hg 0 (by omega)) rfl (by decide) rfl (Nat.le_of_ble_eq_true rfl) ⟨rfl, rfl⟩ rfl ?_
      rintro _ ⟨-, rfl⟩
      refine j_vret dX5_hammers_112 rfl ?_
      exact hQ _ _ (z_pn ((if_neg c1).trans ((if_neg c2).trans (rfl))))
    · refine j_aload_n dX5_hammers_31 rfl ?_
      refine j_iconst (v := 3) dX5_hammers_32 (by decide) ?_
      refine k_callV1v dX5_hammers_33 vX5_hammers_60 (s_goes hg 3 (by omega)) rfl (by decide) rfl (Nat.le_of_ble_eq_true rfl) ⟨rfl, rfl⟩ rfl ?_
      rintro _ ⟨-, rfl⟩
      refine j_goto dX5_hammers_36 (tgt := 112) rfl ?_
      refine j_vret dX5_hammers_112 rfl ?_
      exact hQ _ _ (z_pn ((if_neg c1).trans ((if_pos c2).trans (rfl))))
  · refine j_aload_n dX5_hammers_11 rfl ?_
    refine j_iconst (v := 2) dX5_hammers_12 (by decide) ?_
    refine k_callV1v dX5_hammers_13 vX5_hammers_60 (s_goes hg 2 (by omega)) rfl (by decide) rfl (Nat.le_of_ble_eq_true rfl) ⟨rfl, rfl⟩ rfl ?_
    rintro _ ⟨-, rfl⟩
    refine j_goto dX5_hammers_16 (tgt := 112) rfl ?_
    refine j_vret dX5_hammers_112 rfl ?_
    exact hQ _ _ (z_pn ((if_pos c1).trans (rfl)))
def aBf (t : Nat → Int32) : Nat → Int32 := if upd t 157 0 154 < upd t 157 0 214 then upd t 157 0 else aHam (upd t 157 0)
def aBg (t : Nat → Int32) : Nat → Int32 := if t 148 = 1 then (if t 157 = 1 then aBf (upd t 154 0) else aBf (upd t 154 (t 154 + 1))) else t
/-- a beat's end: it is counted, the hush, the hammer -/
def aBe (s : Nat → Int32) : Nat → Int32 := aBg (upd s 198 (s 198 + 1))
/-- coughs for a cold, of n bidders from k on -/
def aBt : Nat → Nat → Int32 → (Nat → Int32) → (Nat → Int32)
  | 0, _, _, s => s
  | n + 1, k, u, s => if u = 0 then s else if aNext s k = 0 then aBt n (k + 1) u s else if (aCgh s k 1).1 < 0 then aBt n (k + 1) 0 (aCgh s k 1).2 else aBt n (k + 1) 1 (aCgh s k 1).2
def aBeat (s : Nat → Int32) (N : Nat) : Nat → Int32 := if s 148 = 1 then aBe (aBt N 0 1 s) else aBe (aBt N 0 0 s)
/-- what the beats need of the array: how many bidders, no cold of 7, whose the latest bid is -/
def aOk (s : Nat → Int32) (N : Nat) : Prop := s 199 = nI N ∧ N ≤ 12 ∧ (∀ k, k < 12 → ¬ 7 - s (11 * k + 4) = 0) ∧ aWk s
theorem aShf_lo {s : Nat → Int32} {k j : Nat} (h : j ≤ 158 ∨ 198 ≤ j) : aShf s k j = s j := by
  unfold aShf
  rw [if_neg (by omega)]
theorem aGo_n {s : Nat → Int32} {how j : Nat} (hh : how ≤ 3) (h1 : j < 158 ∨ 198 ≤ j) (h2 : j ≠ 148) (h3 : j < 202 ∨ 205 < j) (h4 : j ≠ 210 ∧ j ≠ 211) : aGo s how j = s j := by
  have e1 : aGo1 (aShf s 4) how j = s j := by
    unfold aGo1
    rw [upd_n (by omega), upd_n (by omega), upd_n (by omega), upd_n (by omega), upd_n (by omega), aShf_lo (by omega)]
  have e3 : ∀ t : Nat → Int32, aGo3 t how j = t j := by
    intro t
    unfold aGo3
    split
    · rw [upd_n (by omega), upd_n (by omega)]
    · rw [upd_n (by omega), upd_n (by omega)]
  unfold aGo aGo2
  split
  · rw [e3, upd_n (by omega), e1]
  · rw [e3, upd_n (by omega), e1]
theorem aC1_n {s : Nat → Int32} {k j : Nat} (h : j ≠ 11 * k + 6) (h2 : j ≠ 206) : aC1 s k j = s j := by
  unfold aC1
  rw [upd_n (by omega), upd_n (by omega)]
theorem aC2_n {s : Nat → Int32} {k j : Nat} {c : Int32} (h : j ≠ 11 * k + 7) (h1 : j ≠ 151) (h2 : j < 155 ∨ 157 < j) (h3 : j ≠ 207) (h4 : j ≠ 152) : aC2 s k c j = s j := by
  unfold aC2
  rw [upd_n (by omega), upd_n (by omega), upd_n (by omega), upd_n (by omega), upd_n (by omega), upd_n (by omega), upd_n (by omega)]
theorem aC2_152 {s : Nat → Int32} {k : Nat} {c : Int32} (hk : k < 12) : aC2 s k c 152 = nI k + 1 := by
  unfold aC2
  rw [upd_n (by omega), upd_n (by omega), upd_n (by omega), upd_n (by omega), upd_n (by omega), upd_s]
theorem aC3_n {s : Nat → Int32} {j : Nat} (h : j ≠ 153) (h2 : j ≠ 208) : aC3 s j = s j := by
  unfold aC3
  rw [upd_n (by omega), upd_n (by omega)]
theorem aC4_n {s : Nat → Int32} {j : Nat} (h1 : j < 158 ∨ 198 ≤ j) (h2 : j ≠ 148) (h3 : j < 202 ∨ 205 < j) (h4 : j ≠ 210 ∧ j ≠ 211) : (aC4 s).2 j = s j := by
  unfold aC4
  split
  · rfl
  · exact aGo_n (by omega) h1 h2 h3 h4
theorem aC5_n {s : Nat → Int32} {k j : Nat} (h1 : j < 158 ∨ 198 ≤ j) (h2 : j ≠ 148) (h3 : j < 202 ∨ 205 < j) (h4 : j ≠ 210 ∧ j ≠ 211) (h5 : j ≠ 153) (h6 : j ≠ 208) : (aC5 s k).2 j = s j := by
  unfold aC5
  split
  · rfl
  · rw [aC4_n h1 h2 h3 h4, aC3_n h5 h6]
theorem aCgh_n {s : Nat → Int32} {k j : Nat} {c : Int32} (h1 : j < 148 ∨ 198 ≤ j) (h3 : j < 202 ∨ 208 < j) (h4 : j ≠ 210 ∧ j ≠ 211) (h5 : j ≠ 11 * k + 6) (h6 : j ≠ 11 * k + 7) : (aCgh s k c).2 j = s j := by
  unfold aCgh
  split
  · rw [aC5_n (by omega) (by omega) (by omega) h4 (by omega) (by omega), aC2_n h6 (by omega) (by omega) (by omega) (by omega), aC1_n h5 (by omega)]
  · exact aC1_n h5 (by omega)
theorem aCgh_152 {s : Nat → Int32} {k : Nat} {c : Int32} (hk : k < 12) : (aCgh s k c).2 152 = nI (k + 1) ∨ (aCgh s k c).2 152 = s 152 := by
  unfold aCgh
  split
  · left
    rw [aC5_n (by omega) (by omega) (by omega) (by omega) (by omega) (by omega), aC2_152 hk]
    exact nI_1 k
  · right
    exact aC1_n (j := 152) (k := k) (by omega) (by omega)
theorem aWk_of {s t : Nat → Int32} (hw : aWk s) (h : t 152 = s 152) : aWk t := by
  unfold aWk aWho at hw ⊢
  rw [h]
  exact hw
theorem aWk_k {t : Nat → Int32} {k : Nat} (hk : k < 12) (h : t 152 = nI (k + 1)) : aWk t := by
  unfold aWk aWho
  rw [h, nI_clamp (by omega)]
  exact ⟨by omega, Or.inr rfl⟩
theorem aOk_cgh {s : Nat → Int32} {N k : Nat} {c : Int32} (h : aOk s N) (hk : k < 12) : aOk (aCgh s k c).2 N := by
  refine ⟨?_, h.2.1, fun j hj => ?_, ?_⟩
  · rw [aCgh_n (by omega) (by omega) (by omega) (by omega) (by omega)]
    exact h.1
  · rw [aCgh_n (by omega) (by omega) (by omega) (by omega) (by omega)]
    exact h.2.2.1 j hj
  · rcases aCgh_152 (s := s) (c := c) hk with q | q
    · exact aWk_k hk q
    · exact aWk_of h.2.2.2 q
theorem aOk_bt : ∀ (n k : Nat) (u : Int32) (s : Nat → Int32) (N : Nat), k + n ≤ 12 → aOk s N → aOk (aBt n k u s) N
  | 0, _, _, _, _, _, h => h
  | n + 1, k, u, s, N, hk, h => by
    unfold aBt
    split
    · exact h
    · split
      · exact aOk_bt n (k + 1) u s N (by omega) h
      · split
        · exact aOk_bt n (k + 1) 0 _ N (by omega) (aOk_cgh h (by omega))
        · exact aOk_bt n (k + 1) 1 _ N (by omega) (aOk_cgh h (by omega))
theorem aHam_n {s : Nat → Int32} {j : Nat} (hw : aWk s) (h1 : j < 158 ∨ 198 ≤ j) (h2 : j ≠ 148) (h3 : j < 202 ∨ 205 < j) (h4 : j ≠ 210 ∧ j ≠ 211) (h5 : j ≠ 11 * aWho s + 2 ∧ j ≠ 11 * aWho s + 9 ∧ j ≠ 11 * aWho s + 8) : aHam s j = s j := by
  unfold aHam
  split
  · exact aGo_n (by omega) h1 h2 h3 h4
  · split
    · exact aGo_n (by omega) h1 h2 h3 h4
    · rw [aGo_n (by omega) h1 h2 h3 h4]
      unfold aH1
      rw [upd_n (by omega), upd_n (by omega), upd_n (by omega), upd_n (by omega)]
theorem aBe_n {s : Nat → Int32} {j : Nat} (hw : aWk s) (h1 : j < 148 ∨ 199 ≤ j ∨ j = 152) (h3 : j < 202 ∨ 205 < j) (h4 : j ≠ 210 ∧ j ≠ 211) (h5 : j ≠ 11 * aWho s + 2 ∧ j ≠ 11 * aWho s + 9 ∧ j ≠ 11 * aWho s + 8) : aBe s j = s j := by
  have e : ∀ t : Nat → Int32, t j = s j → t 152 = s 152 → aBf t j = s j := by
    intro t h6 h7
    have h8 : upd t 157 0 152 = s 152 := by rw [upd_n (by omega), h7]
    have h9 : aWho (upd t 157 0) = aWho s := by unfold aWho; rw [h8]
    unfold aBf
    split
    · rw [upd_n (by omega), h6]
    · rw [aHam_n (aWk_of hw h8) (by omega) (by omega) h3 h4 (by rw [h9]; exact h5), upd_n (by omega), h6]
  unfold aBe aBg
  split
  · split
    · exact e _ (by rw [upd_n (by omega), upd_n (by omega)]) (by rw [upd_n (by omega), upd_n (by omega)])
    · exact e _ (by rw [upd_n (by omega), upd_n (by omega)]) (by rw [upd_n (by omega), upd_n (by omega)])
  · rw [upd_n (by omega)]
theorem aOk_be {s : Nat → Int32} {N : Nat} (h : aOk s N) : aOk (aBe s) N := by
  have hw := h.2.2.2
  refine ⟨?_, h.2.1, fun j hj => ?_, aWk_of hw (aBe_n (j := 152) hw (by decide) (by decide) (by decide) (by have := hw.1; omega))⟩
  · rw [aBe_n hw (by omega) (by omega) (by omega) (by have := hw.1; omega)]
    exact h.1
  · rw [aBe_n hw (by omega) (by omega) (by omega) (by omega)]
    exact h.2.2.1 j hj
theorem aOk_beat {s : Nat → Int32} {N : Nat} (h : aOk s N) : aOk (aBeat s N) N := by
  have := h.2.1
  unfold aBeat
  split
  · exact aOk_be (aOk_bt N 0 1 s N (by omega) h)
  · exact aOk_be (aOk_bt N 0 0 s N (by omega) h)
set_option maxRecDepth 4000 in
set_option maxHeartbeats 2000000 in
theorem s_beat_end {g : zH} {s : Nat → Int32} (hg : gP g) (hw : aWk s) {v1 v2 v3 : Value} {X : Nat × (Nat → Int32)} {Q : zQt} (hQ : ∀ r h', r = none ∧ h' = gS g (aBe s) → Q r 222 h') : zJ X mX5_beat 222 67 [.ref 215, v1, v2, v3] [] 222 (gS g s) Q := by
  refine j_aload_n dX5_beat_67 rfl ?_
  refine j_get (v := .ref 216) dX5_beat_68 fX5_7 rfl (by decide) (gS_p0 hg) ?_
  refine j_sipush (v := 198) dX5_beat_71 (by decide) ?_
  refine j_dup2 dX5_beat_74 rfl rfl ?_
  refine s_ald 198 dX5_beat_75 (rfl) (by first | decide | omega) ?_
  refine j_iconst (v := 1) dX5_beat_76 (by decide) ?_
  refine j_iadd dX5_beat_77 ?_
  refine s_ast 198 dX5_beat_78 (rfl) (by first | decide | omega) ?_
  refine j_aload_n dX5_beat_79 rfl ?_
  refine j_get (v := .ref 216) dX5_beat_80 fX5_7 rfl (by decide) (gS_p0 hg) ?_
  refine j_sipush (v := 148) dX5_beat_83 (by decide) ?_
  refine s_ald 148 dX5_beat_86 (rfl) (by first | decide | omega) ?_
  refine j_iconst (v := 1) dX5_beat_87 (by decide) ?_
  refine j_icmp_ne dX5_beat_88 (tgt := 157) rfl (fun c1 => ?_) (fun c1 => ?_)
  · refine j_vret dX5_beat_157 rfl ?_
    exact hQ _ _ (z_pn ((if_neg c1).trans (rfl)))
  · refine j_aload_n dX5_beat_91 rfl ?_
    refine j_get (v := .ref 216) dX5_beat_92 fX5_7 rfl (by decide) (gS_p0 hg) ?_
    refine j_sipush (v := 154) dX5_beat_95 (by decide) ?_
    refine j_aload_n dX5_beat_98 rfl ?_
    refine j_get (v := .ref 216) dX5_beat_99 fX5_7 rfl (by decide) (gS_p0 hg) ?_
    refine j_sipush (v := 157) dX5_beat_102 (by decide) ?_
    refine s_ald 157 dX5_beat_105 (rfl) (by first | decide | omega) ?_
    refine j_iconst (v := 1) dX5_beat_106 (by decide) ?_
    refine j_icmp_ne dX5_beat_107 (tgt := 114) rfl (fun c2 => ?_) (fun c2 => ?_)
    · refine j_aload_n dX5_beat_114 rfl ?_
      refine j_get (v := .ref 216) dX5_beat_115 fX5_7 rfl (by decide) (gS_p0 hg) ?_
      refine j_sipush (v := 154) dX5_beat_118 (by decide) ?_
      refine s_ald 154 dX5_beat_121 (rfl) (by first | decide | omega) ?_
      refine j_iconst (v := 1) dX5_beat_122 (by decide) ?_
      refine j_iadd dX5_beat_123 ?_
      refine s_ast 154 dX5_beat_124 (rfl) (by first | decide | omega) ?_
      refine j_aload_n dX5_beat_125 rfl ?_
      refine j_get (v := .ref 216) dX5_beat_126 fX5_7 rfl (by decide) (gS_p0 hg) ?_
      refine j_sipush (v := 157) dX5_beat_129 (by decide) ?_
      refine j_iconst (v := 0) dX5_beat_132 (by decide) ?_
      refine s_ast 157 dX5_beat_133 (rfl) (by first | decide | omega) ?_
      refine j_aload_n dX5_beat_134 rfl ?_
      refine j_get (v := .ref 216) dX5_beat_135 fX5_7 rfl (by decide) (gS_p0 hg) ?_
      refine j_sipush (v := 154) dX5_beat_138 (by decide) ?_
      refine s_ald 154 dX5_beat_141 (rfl) (by first | decide | omega) ?_
      refine j_aload_n dX5_beat_142 rfl ?_
      refine j_get (v := .ref 216) dX5_beat_143 fX5_7 rfl (by decide) (gS_p0 hg) ?_
      refine j_sipush (v := 214) dX5_beat_146 (by decide) ?_
      refine s_ald 214 dX5_beat_149 (rfl) (by first | decide | omega) ?_
      refine j_icmp_lt dX5_beat_150 (tgt := 157) rfl (fun c3 => ?_) (fun c3 => ?_)
      · refine j_vret dX5_beat_157 rfl ?_
        exact hQ _ _ (z_pn ((if_pos c1).trans ((if_neg c2).trans ((if_pos c3).trans (rfl)))))
      · refine j_aload_n dX5_beat_153 rfl ?_
        refine k_callV0v dX5_beat_154 vX5_beat_71 (s_hammers hg hw) rfl (by decide)  (Nat.le_of_ble_eq_true rfl) ⟨rfl, rfl⟩ rfl ?_
        rintro _ ⟨-, rfl⟩
        refine j_vret dX5_beat_157 rfl ?_
        exact hQ _ _ (z_pn ((if_pos c1).trans ((if_neg c2).trans ((if_neg c3).trans (rfl)))))
    · refine j_iconst (v := 0) dX5_beat_110 (by decide) ?_
      refine j_goto dX5_beat_111 (tgt := 124) rfl ?_
      refine s_ast 154 dX5_beat_124 (rfl) (by first | decide | omega) ?_
      refine j_aload_n dX5_beat_125 rfl ?_
      refine j_get (v := .ref 216) dX5_beat_126 fX5_7 rfl (by decide) (gS_p0 hg) ?_
      refine j_sipush (v := 157) dX5_beat_129 (by decide) ?_
      refine j_iconst (v := 0) dX5_beat_132 (by decide) ?_
      refine s_ast 157 dX5_beat_133 (rfl) (by first | decide | omega) ?_
      refine j_aload_n dX5_beat_134 rfl ?_
      refine j_get (v := .ref 216) dX5_beat_135 fX5_7 rfl (by decide) (gS_p0 hg) ?_
      refine j_sipush (v := 154) dX5_beat_138 (by decide) ?_
      refine s_ald 154 dX5_beat_141 (rfl) (by first | decide | omega) ?_
      refine j_aload_n dX5_beat_142 rfl ?_
      refine j_get (v := .ref 216) dX5_beat_143 fX5_7 rfl (by decide) (gS_p0 hg) ?_
      refine j_sipush (v := 214) dX5_beat_146 (by decide) ?_
      refine s_ald 214 dX5_beat_149 (rfl) (by first | decide | omega) ?_
      refine j_icmp_lt dX5_beat_150 (tgt := 157) rfl (fun c4 => ?_) (fun c4 => ?_)
      · refine j_vret dX5_beat_157 rfl ?_
        exact hQ _ _ (z_pn ((if_pos c1).trans ((if_pos c2).trans ((if_pos c4).trans (rfl)))))
      · refine j_aload_n dX5_beat_153 rfl ?_
        refine k_callV0v dX5_beat_154 vX5_beat_71 (s_hammers hg hw) rfl (by decide)  (Nat.le_of_ble_eq_true rfl) ⟨rfl, rfl⟩ rfl ?_
        rintro _ ⟨-, rfl⟩
        refine j_vret dX5_beat_157 rfl ?_
        exact hQ _ _ (z_pn ((if_pos c1).trans ((if_pos c2).trans ((if_neg c4).trans (rfl)))))
set_option maxRecDepth 4000 in
set_option maxHeartbeats 2000000 in
theorem s_beat_lp {g : zH} (hg : gP g) {N : Nat} (hN : N ≤ 12) {X : Nat × (Nat → Int32)} {Q : zQt} : ∀ (n k : Nat) (u : Int32) (s : Nat → Int32) (v3 : Value), k + n = N → aOk s N → (∀ r h', r = none ∧ h' = gS g (aBe (aBt n k u s)) → Q r 222 h') → zJ X mX5_beat 222 20 [.ref 215, .int u, .int (nI k), v3] [] 222 (gS g s) Q := by
  intro n
  induction n with
  | zero =>
    intro k u s v3 hk hok hQ
    refine j_iload_n dX5_beat_20 rfl ?_
    refine j_aload_n dX5_beat_21 rfl ?_
    refine j_get (v := .ref 216) dX5_beat_22 fX5_7 rfl (by decide) (gS_p0 hg) ?_
    refine j_sipush (v := 199) dX5_beat_25 (by decide) ?_
    refine s_ald 199 dX5_beat_28 (rfl) (by first | decide | omega) ?_
    refine j_icmp_ge dX5_beat_29 (tgt := 67) rfl (fun _ => ?_) (fun c1 => absurd (show s 199 ≤ nI k by rw [hok.1]; exact nI_le (by omega) (by have := hok.2.1; omega)) c1)
    exact s_beat_end hg hok.2.2.2 hQ
  | succ n ih =>
    intro k u s v3 hk hok hQ
    have hc := hok.2.2.1
    refine j_iload_n dX5_beat_20 rfl ?_
    refine j_aload_n dX5_beat_21 rfl ?_
    refine j_get (v := .ref 216) dX5_beat_22 fX5_7 rfl (by decide) (gS_p0 hg) ?_
    refine j_sipush (v := 199) dX5_beat_25 (by decide) ?_
    refine s_ald 199 dX5_beat_28 (rfl) (by first | decide | omega) ?_
    refine j_icmp_ge dX5_beat_29 (tgt := 67) rfl (fun c1 => absurd c1 (show ¬ s 199 ≤ nI k by rw [hok.1]; exact nI_ge (by omega) (by have := hok.2.1; omega))) (fun _ => ?_)
    refine j_iload_n dX5_beat_32 rfl ?_
    refine j_if_eq dX5_beat_33 (tgt := 67) rfl (fun c2 => ?_) (fun c2 => ?_)
    · exact s_beat_end hg hok.2.2.2 (fun r h' h => hQ r h' ⟨h.1, h.2.trans (congrArg (fun t => gS g (aBe t)) (((if_pos c2).trans (rfl) : aBt (n + 1) k u s = s).symm))⟩)
    · refine j_aload_n dX5_beat_36 rfl ?_
      refine j_iload_n dX5_beat_37 rfl ?_
      refine k_callV1i dX5_beat_38 vX5_beat_64 (s_coughsNext hg k (by omega) (hc _ (by omega))) rfl (by decide) rfl (Nat.le_of_ble_eq_true rfl) ⟨rfl, rfl⟩ rfl ?_
      rintro _ _ ⟨⟨⟩, rfl⟩
      refine j_if_eq dX5_beat_41 (tgt := 61) rfl (fun c3 => ?_) (fun c3 => ?_)
      · refine j_iinc (v := nI (k + 1)) dX5_beat_61 rfl z_inc (by decide) ?_
        refine j_goto dX5_beat_64 (tgt := 20) rfl ?_
        exact ih (k + 1) _ _ _ (by omega) (hok) (fun r h' h => hQ r h' ⟨h.1, h.2.trans (congrArg (fun t => gS g (aBe t)) (((if_neg c2).trans ((if_pos c3).trans (rfl)) : aBt (n + 1) k u s = aBt n (k + 1) _ _).symm))⟩)
      · refine j_aload_n dX5_beat_44 rfl ?_
        refine j_iload_n dX5_beat_45 rfl ?_
        refine j_iconst (v := 1) dX5_beat_46 (by decide) ?_
        refine k_callV2i dX5_beat_47 vX5_beat_68 (s_coughs hg k (by omega)) rfl (by decide) rfl rfl (Nat.le_of_ble_eq_true rfl) ⟨rfl, rfl⟩ rfl ?_
        rintro _ _ ⟨⟨⟩, rfl⟩
        refine j_istore_n dX5_beat_50 (by decide) ?_
        refine j_iload_n dX5_beat_51 rfl ?_
        refine j_if_lt dX5_beat_52 (tgt := 59) rfl (fun c4 => ?_) (fun c4 => ?_)
        · refine j_iconst (v := 0) dX5_beat_59 (by decide) ?_
          refine j_istore_n dX5_beat_60 (by decide) ?_
          refine j_iinc (v := nI (k + 1)) dX5_beat_61 rfl z_inc (by decide) ?_
          refine j_goto dX5_beat_64 (tgt := 20) rfl ?_
          exact ih (k + 1) _ _ _ (by omega) (aOk_cgh hok (by omega)) (fun r h' h => hQ r h' ⟨h.1, h.2.trans (congrArg (fun t => gS g (aBe t)) (((if_neg c2).trans ((if_neg c3).trans ((if_pos c4).trans (rfl))) : aBt (n + 1) k u s = aBt n (k + 1) _ _).symm))⟩)
        · refine j_iconst (v := 1) dX5_beat_55 (by decide) ?_
          refine j_goto dX5_beat_56 (tgt := 60) rfl ?_
          refine j_istore_n dX5_beat_60 (by decide) ?_
          refine j_iinc (v := nI (k + 1)) dX5_beat_61 rfl z_inc (by decide) ?_
          refine j_goto dX5_beat_64 (tgt := 20) rfl ?_
          exact ih (k + 1) _ _ _ (by omega) (aOk_cgh hok (by omega)) (fun r h' h => hQ r h' ⟨h.1, h.2.trans (congrArg (fun t => gS g (aBe t)) (((if_neg c2).trans ((if_neg c3).trans ((if_neg c4).trans (rfl))) : aBt (n + 1) k u s = aBt n (k + 1) _ _).symm))⟩)
set_option maxRecDepth 4000 in
set_option maxHeartbeats 1000000 in
theorem s_beat {g : zH} {s : Nat → Int32} (hg : gP g) {N : Nat} (hok : aOk s N) : zCT mX5_beat [.ref 215] 222 (gS g s) 222 (fun r h' => r = none ∧ h' = gS g (aBeat s N)) := by
  intro X Q hQ
  show zJ X mX5_beat 222 0 [.ref 215, .null, .null, .null] [] 222 (gS g s) Q
  refine j_aload_n dX5_beat_0 rfl ?_
  refine j_get (v := .ref 216) dX5_beat_1 fX5_7 rfl (by decide) (gS_p0 hg) ?_
  refine j_sipush (v := 148) dX5_beat_4 (by decide) ?_
  refine s_ald 148 dX5_beat_7 (rfl) (by first | decide | omega) ?_
  refine j_iconst (v := 1) dX5_beat_8 (by decide) ?_
  refine j_icmp_ne dX5_beat_9 (tgt := 16) rfl (fun c1 => ?_) (fun c1 => ?_)
  · refine j_iconst (v := 0) dX5_beat_16 (by decide) ?_
    refine j_istore_n dX5_beat_17 (by decide) ?_
    refine j_iconst (v := 0) dX5_beat_18 (by decide) ?_
    refine j_istore_n dX5_beat_19 (by decide) ?_
    exact s_beat_lp hg hok.2.1 N 0 _ s _ (by omega) hok (fun r h' h => hQ r h' ⟨h.1, h.2.trans (congrArg (gS g) (((if_neg c1).trans (rfl) : aBeat s N = aBe (aBt N 0 _ s)).symm))⟩)
  · refine j_iconst (v := 1) dX5_beat_12 (by decide) ?_
    refine j_goto dX5_beat_13 (tgt := 17) rfl ?_
    refine j_istore_n dX5_beat_17 (by decide) ?_
    refine j_iconst (v := 0) dX5_beat_18 (by decide) ?_
    refine j_istore_n dX5_beat_19 (by decide) ?_
    exact s_beat_lp hg hok.2.1 N 0 _ s _ (by omega) hok (fun r h' h => hQ r h' ⟨h.1, h.2.trans (congrArg (gS g) (((if_pos c1).trans (rfl) : aBeat s N = aBe (aBt N 0 _ s)).symm))⟩)
def aPass (N : Nat) : Nat → (Nat → Int32) → (Nat → Int32)
  | 0, s => s
  | n + 1, s => aPass N n (aBeat s N)
theorem aOk_pass {N : Nat} : ∀ (n : Nat) (s : Nat → Int32), aOk s N → aOk (aPass N n s) N
  | 0, _, h => h
  | n + 1, s, h => aOk_pass n _ (aOk_beat h)
def aGone (s : Nat → Int32) : Int32 := s 202 + s 203 + s 204 + s 211
set_option maxRecDepth 4000 in
set_option maxHeartbeats 2000000 in
theorem s_pass_lp {g : zH} (hg : gP g) {N m : Nat} (hm : m < 1000) {X : Nat × (Nat → Int32)} {Q : zQt} : ∀ (n k : Nat) (s : Nat → Int32), k + n = m → aOk s N → (∀ r h', r = none ∧ h' = gS g (aPass N n s) → Q r 222 h') → zJ X mX5_pass 222 2 [.ref 215, .int (nI m), .int (nI k)] [] 222 (gS g s) Q := by
  intro n
  induction n with
  | zero =>
    intro k s hk hok hQ
    refine j_iload_n dX5_pass_2 rfl ?_
    refine j_iload_n dX5_pass_3 rfl ?_
    refine j_icmp_ge dX5_pass_4 (tgt := 17) rfl (fun _ => ?_) (fun c1 => absurd (show nI m ≤ nI k from nI_le (by omega) (by omega)) c1)
    refine j_vret dX5_pass_17 rfl ?_
    exact hQ _ _ ⟨rfl, rfl⟩
  | succ n ih =>
    intro k s hk hok hQ
    refine j_iload_n dX5_pass_2 rfl ?_
    refine j_iload_n dX5_pass_3 rfl ?_
    refine j_icmp_ge dX5_pass_4 (tgt := 17) rfl (fun c1 => absurd c1 (show ¬ nI m ≤ nI k from nI_ge (by omega) (by omega))) (fun _ => ?_)
    refine j_aload_n dX5_pass_7 rfl ?_
    refine k_callV0v dX5_pass_8 vX5_pass_93 (s_beat hg hok) rfl (by decide)  (Nat.le_of_ble_eq_true rfl) ⟨rfl, rfl⟩ rfl ?_
    rintro _ ⟨-, rfl⟩
    refine j_iinc (v := nI (k + 1)) dX5_pass_11 rfl z_inc (by decide) ?_
    refine j_goto dX5_pass_14 (tgt := 2) rfl ?_
    exact ih (k + 1) _ (by omega) (aOk_beat hok) hQ
set_option maxRecDepth 4000 in
set_option maxHeartbeats 1000000 in
theorem s_pass {g : zH} {s : Nat → Int32} (hg : gP g) {N : Nat} (hok : aOk s N) (m : Nat) (hm : m < 1000) : zCT mX5_pass [.ref 215, .int (nI m)] 222 (gS g s) 222 (fun r h' => r = none ∧ h' = gS g (aPass N m s)) := by
  intro X Q hQ
  show zJ X mX5_pass 222 0 [.ref 215, .int (nI m), .null] [] 222 (gS g s) Q
  refine j_iconst (v := 0) dX5_pass_0 (by decide) ?_
  refine j_istore_n dX5_pass_1 (by decide) ?_
  exact s_pass_lp hg hm m 0 s (by omega) hok hQ
set_option maxRecDepth 4000 in
set_option maxHeartbeats 1000000 in
theorem s_gone {g : zH} {s : Nat → Int32} (hg : gP g) : zCT mX5_gone [.ref 215] 222 (gS g s) 222 (fun r h' => r = some (aGone s) ∧ h' = gS g s) := by
  intro X Q hQ
  show zJ X mX5_gone 222 0 [.ref 215] [] 222 (gS g s) Q
  refine j_aload_n dX5_gone_0 rfl ?_
  refine j_get (v := .ref 216) dX5_gone_1 fX5_7 rfl (by decide) (gS_p0 hg) ?_
  refine j_sipush (v := 202) dX5_gone_4 (by decide) ?_
  refine s_ald 202 dX5_gone_7 (rfl) (by first | decide | omega) ?_
  refine j_aload_n dX5_gone_8 rfl ?_
  refine j_get (v := .ref 216) dX5_gone_9 fX5_7 rfl (by decide) (gS_p0 hg) ?_
  refine j_sipush (v := 203) dX5_gone_12 (by decide) ?_
  refine s_ald 203 dX5_gone_15 (rfl) (by first | decide | omega) ?_
  refine j_iadd dX5_gone_16 ?_
  refine j_aload_n dX5_gone_17 rfl ?_
  refine j_get (v := .ref 216) dX5_gone_18 fX5_7 rfl (by decide) (gS_p0 hg) ?_
  refine j_sipush (v := 204) dX5_gone_21 (by decide) ?_
  refine s_ald 204 dX5_gone_24 (rfl) (by first | decide | omega) ?_
  refine j_iadd dX5_gone_25 ?_
  refine j_aload_n dX5_gone_26 rfl ?_
  refine j_get (v := .ref 216) dX5_gone_27 fX5_7 rfl (by decide) (gS_p0 hg) ?_
  refine j_sipush (v := 211) dX5_gone_30 (by decide) ?_
  refine s_ald 211 dX5_gone_33 (rfl) (by first | decide | omega) ?_
  refine j_iadd dX5_gone_34 ?_
  refine j_iret dX5_gone_35 rfl (rfl) ?_
  exact hQ _ _ ⟨rfl, rfl⟩
