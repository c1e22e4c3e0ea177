theorem z_inc {k : Nat} : nI k + Int32.ofInt 1 = nI (k + 1) := nI_1 k
theorem z_dec {k : Nat} (h : 0 < k) : nI k + Int32.ofInt (-1) = nI (k - 1) := by
  obtain ⟨j, rfl⟩ : ∃ j, k = j + 1 := ⟨k - 1, by omega⟩
  exact pk_m1 j
theorem z_pr {g : zH} {p : Int32 × (Nat → Int32)} {x : Int32} {t : Nat → Int32} (e : p = (x, t)) : some x = some p.1 ∧ gS g t = gS g p.2 := by
  subst e
  exact ⟨rfl, rfl⟩
theorem z_pn {g : zH} {p t : Nat → Int32} (e : p = t) : (none : Option Int32) = none ∧ gS g t = gS g p := by
  subst e
  exact ⟨rfl, rfl⟩
theorem z_ps {g : zH} {s : Nat → Int32} {p x : Int32} (e : p = x) : some x = some p ∧ gS g s = gS g s := by
  subst e
  exact ⟨rfl, rfl⟩
/-- the first of n bidders from k on who sits there -/
def aFind (s : Nat → Int32) (row seat : Int32) : Nat → Nat → Int32
  | 0, _ => -1000004
  | n + 1, k => if s (11 * k + 0) = row then (if s (11 * k + 1) = seat then nI k else aFind s row seat n (k + 1)) else aFind s row seat n (k + 1)
set_option maxRecDepth 4000 in
set_option maxHeartbeats 2000000 in
theorem s_seated_lp {g : zH} {s : Nat → Int32} (hg : gP g) {row seat : Int32} {N : Nat} (hn : s 199 = nI N) (hN : N ≤ 12) {X : Nat × (Nat → Int32)} {Q : zQt} : ∀ (n k : Nat), k + n = N → (∀ r h', r = some (aFind s row seat n k) ∧ h' = gS g s → Q r 222 h') → zJ X mX5_seated 222 2 [.ref 215, .int row, .int seat, .int (nI k)] [] 222 (gS g s) Q := by
  intro n
  induction n with
  | zero =>
    intro k hk hQ
    refine j_iload_n dX5_seated_2 rfl ?_
    refine j_aload_n dX5_seated_3 rfl ?_
    refine j_get (v := .ref 216) dX5_seated_4 fX5_7 rfl (by decide) (gS_p0 hg) ?_
    refine j_sipush (v := 199) dX5_seated_7 (by decide) ?_
    refine s_ald 199 dX5_seated_10 (rfl) (by first | decide | omega) ?_
    refine j_icmp_ge dX5_seated_11 (tgt := 42) rfl (fun _ => ?_) (fun c1 => absurd (show s 199 ≤ nI k by rw [hn]; exact nI_le (by omega) (by omega)) c1)
    refine j_ldc (v := (-1000004)) dX5_seated_42 cX5_44 ?_
    refine j_iret dX5_seated_44 rfl (rfl) ?_
    exact hQ _ _ ⟨rfl, rfl⟩
  | succ n ih =>
    intro k hk hQ
    refine j_iload_n dX5_seated_2 rfl ?_
    refine j_aload_n dX5_seated_3 rfl ?_
    refine j_get (v := .ref 216) dX5_seated_4 fX5_7 rfl (by decide) (gS_p0 hg) ?_
    refine j_sipush (v := 199) dX5_seated_7 (by decide) ?_
    refine s_ald 199 dX5_seated_10 (rfl) (by first | decide | omega) ?_
    refine j_icmp_ge dX5_seated_11 (tgt := 42) rfl (fun c1 => absurd c1 (show ¬ s 199 ≤ nI k by rw [hn]; exact nI_ge (by omega) (by omega))) (fun _ => ?_)
    refine j_aload_n dX5_seated_14 rfl ?_
    refine j_iload_n dX5_seated_15 rfl ?_
    refine j_iconst (v := 0) dX5_seated_16 (by decide) ?_
    refine k_callV2i dX5_seated_17 vX5_seated_40 (s_of hg k 0 (by omega) (by omega)) rfl (by decide) rfl rfl (Nat.le_of_ble_eq_true rfl) ⟨rfl, rfl⟩ rfl ?_
    rintro _ _ ⟨⟨⟩, rfl⟩
    refine j_iload_n dX5_seated_20 rfl ?_
    refine j_icmp_ne dX5_seated_21 (tgt := 36) rfl (fun c2 => ?_) (fun c2 => ?_)
    · refine j_iinc (v := nI (k + 1)) dX5_seated_36 rfl z_inc (by decide) ?_
      refine j_goto dX5_seated_39 (tgt := 2) rfl ?_
      exact ih (k + 1) (by omega) (fun r h' h => hQ r h' ⟨h.1.trans (congrArg some (((if_neg c2).trans (rfl) : aFind s row seat (n + 1) k = aFind s row seat n (k + 1)).symm)), h.2⟩)
    · refine j_aload_n dX5_seated_24 rfl ?_
      refine j_iload_n dX5_seated_25 rfl ?_
      refine j_iconst (v := 1) dX5_seated_26 (by decide) ?_
      refine k_callV2i dX5_seated_27 vX5_seated_40 (s_of hg k 1 (by omega) (by omega)) rfl (by decide) rfl rfl (Nat.le_of_ble_eq_true rfl) ⟨rfl, rfl⟩ rfl ?_
      rintro _ _ ⟨⟨⟩, rfl⟩
      refine j_iload_n dX5_seated_30 rfl ?_
      refine j_icmp_ne dX5_seated_31 (tgt := 36) rfl (fun c3 => ?_) (fun c3 => ?_)
      · refine j_iinc (v := nI (k + 1)) dX5_seated_36 rfl z_inc (by decide) ?_
        refine j_goto dX5_seated_39 (tgt := 2) rfl ?_
        exact ih (k + 1) (by omega) (fun r h' h => hQ r h' ⟨h.1.trans (congrArg some (((if_pos c2).trans ((if_neg c3).trans (rfl)) : aFind s row seat (n + 1) k = aFind s row seat n (k + 1)).symm)), h.2⟩)
      · refine j_iload_n dX5_seated_34 rfl ?_
        refine j_iret dX5_seated_35 rfl (rfl) ?_
        exact hQ _ _ (z_ps ((if_pos c2).trans ((if_pos c3).trans (rfl))))
set_option maxRecDepth 4000 in
set_option maxHeartbeats 1000000 in
theorem s_seated {g : zH} {s : Nat → Int32} (hg : gP g) {row seat : Int32} {N : Nat} (hn : s 199 = nI N) (hN : N ≤ 12) : zCT mX5_seated [.ref 215, .int row, .int seat] 222 (gS g s) 222 (fun r h' => r = some (aFind s row seat N 0) ∧ h' = gS g s) := by
  intro X Q hQ
  show zJ X mX5_seated 222 0 [.ref 215, .int row, .int seat, .null] [] 222 (gS g s) Q
  refine j_iconst (v := 0) dX5_seated_0 (by decide) ?_
  refine j_istore_n dX5_seated_1 (by decide) ?_
  exact s_seated_lp hg hn hN N 0 (by omega) hQ
/-- the book makes room -/
def aShf (s : Nat → Int32) (k : Nat) : Nat → Int32 := fun j => if 158 + k < j ∧ j < 198 then s (j - 5) else s j
theorem aShf_39 {s : Nat → Int32} : aShf s 39 = s := by
  funext j
  unfold aShf
  rw [if_neg (by omega)]
theorem aShf_up {s : Nat → Int32} {k : Nat} (h1 : 5 ≤ k) (h2 : k ≤ 39) : upd (aShf s k) (158 + k) (aShf s k (158 + k - 5)) = aShf s (k - 1) := by
  funext j
  unfold upd aShf
  by_cases h : j = 158 + k
  · subst h
    rw [if_pos rfl, if_neg (by omega), if_pos (by omega)]
  · rw [if_neg h]
    by_cases h3 : 158 + k < j ∧ j < 198
    · rw [if_pos h3, if_pos (by omega)]
    · rw [if_neg h3, if_neg (by omega)]
def aGo1 (t : Nat → Int32) (how : Nat) : Nat → Int32 :=
  let t := upd t 158 (nI how)
  let t := upd t 159 (t 151)
  let t := upd t 160 (t 152)
  let t := upd t 161 (t 153)
  upd t 162 (t 155)
def aGo3 (t : Nat → Int32) (how : Nat) : Nat → Int32 := if nI how = 3 then upd (upd t 211 (t 211 + 1)) 148 0 else upd (upd t (202 + how) (t (202 + how) + 1)) 148 0
def aGo2 (t : Nat → Int32) (how : Nat) : Nat → Int32 := if 8 ≤ t 210 then aGo3 (upd t 210 (t 210 + 0)) how else aGo3 (upd t 210 (t 210 + 1)) how
/-- the lot that is up goes: 0 sold, 1 withdrawn, 2 without a bid, 3 for a cold -/
def aGo (s : Nat → Int32) (how : Nat) : Nat → Int32 := aGo2 (aGo1 (aShf s 4) how) how
set_option maxRecDepth 4000 in
set_option maxHeartbeats 2000000 in
theorem s_goes_lp {g : zH} {s : Nat → Int32} (hg : gP g) (how : Nat) (hh : how ≤ 3) {X : Nat × (Nat → Int32)} {Q : zQt} : ∀ (n k : Nat), k = 4 + n → n ≤ 35 → (∀ r h', r = none ∧ h' = gS g (aGo s how) → Q r 222 h') → zJ X mX5_goes 222 3 [.ref 215, .int (nI how), .int (nI k)] [] 222 (gS g (aShf s k)) Q := by
  intro n
  induction n with
  | zero =>
    intro k hk hn hQ
    obtain rfl : k = 4 := by omega
    refine j_iload_n dX5_goes_3 rfl ?_
    refine j_iconst (v := 5) dX5_goes_4 (by decide) ?_
    refine j_icmp_lt dX5_goes_5 (tgt := 36) rfl (fun _ => ?_) (fun c1 => absurd (show nI 4 < 5 by decide) c1)
    refine j_aload_n dX5_goes_36 rfl ?_
    refine j_get (v := .ref 216) dX5_goes_37 fX5_7 rfl (by decide) (gS_p0 hg) ?_
    refine j_sipush (v := 158) dX5_goes_40 (by decide) ?_
    refine j_iload_n dX5_goes_43 rfl ?_
    refine s_ast 158 dX5_goes_44 (rfl) (by first | decide | omega) ?_
    refine j_aload_n dX5_goes_45 rfl ?_
    refine j_get (v := .ref 216) dX5_goes_46 fX5_7 rfl (by decide) (gS_p0 hg) ?_
    refine j_sipush (v := 159) dX5_goes_49 (by decide) ?_
    refine j_aload_n dX5_goes_52 rfl ?_
    refine j_get (v := .ref 216) dX5_goes_53 fX5_7 rfl (by decide) (gS_p0 hg) ?_
    refine j_sipush (v := 151) dX5_goes_56 (by decide) ?_
    refine s_ald 151 dX5_goes_59 (rfl) (by first | decide | omega) ?_
    refine s_ast 159 dX5_goes_60 (rfl) (by first | decide | omega) ?_
    refine j_aload_n dX5_goes_61 rfl ?_
    refine j_get (v := .ref 216) dX5_goes_62 fX5_7 rfl (by decide) (gS_p0 hg) ?_
    refine j_sipush (v := 160) dX5_goes_65 (by decide) ?_
    refine j_aload_n dX5_goes_68 rfl ?_
    refine j_get (v := .ref 216) dX5_goes_69 fX5_7 rfl (by decide) (gS_p0 hg) ?_
    refine j_sipush (v := 152) dX5_goes_72 (by decide) ?_
    refine s_ald 152 dX5_goes_75 (rfl) (by first | decide | omega) ?_
    refine s_ast 160 dX5_goes_76 (rfl) (by first | decide | omega) ?_
    refine j_aload_n dX5_goes_77 rfl ?_
    refine j_get (v := .ref 216) dX5_goes_78 fX5_7 rfl (by decide) (gS_p0 hg) ?_
    refine j_sipush (v := 161) dX5_goes_81 (by decide) ?_
    refine j_aload_n dX5_goes_84 rfl ?_
    refine j_get (v := .ref 216) dX5_goes_85 fX5_7 rfl (by decide) (gS_p0 hg) ?_
    refine j_sipush (v := 153) dX5_goes_88 (by decide) ?_
    refine s_ald 153 dX5_goes_91 (rfl) (by first | decide | omega) ?_
    refine s_ast 161 dX5_goes_92 (rfl) (by first | decide | omega) ?_
    refine j_aload_n dX5_goes_93 rfl ?_
    refine j_get (v := .ref 216) dX5_goes_94 fX5_7 rfl (by decide) (gS_p0 hg) ?_
    refine j_sipush (v := 162) dX5_goes_97 (by decide) ?_
    refine j_aload_n dX5_goes_100 rfl ?_
    refine j_get (v := .ref 216) dX5_goes_101 fX5_7 rfl (by decide) (gS_p0 hg) ?_
    refine j_sipush (v := 155) dX5_goes_104 (by decide) ?_
    refine s_ald 155 dX5_goes_107 (rfl) (by first | decide | omega) ?_
    refine s_ast 162 dX5_goes_108 (rfl) (by first | decide | omega) ?_
    refine j_aload_n dX5_goes_109 rfl ?_
    refine j_get (v := .ref 216) dX5_goes_110 fX5_7 rfl (by decide) (gS_p0 hg) ?_
    refine j_sipush (v := 210) dX5_goes_113 (by decide) ?_
    refine j_dup2 dX5_goes_116 rfl rfl ?_
    refine s_ald 210 dX5_goes_117 (rfl) (by first | decide | omega) ?_
    refine j_aload_n dX5_goes_118 rfl ?_
    refine j_get (v := .ref 216) dX5_goes_119 fX5_7 rfl (by decide) (gS_p0 hg) ?_
    refine j_sipush (v := 210) dX5_goes_122 (by decide) ?_
    refine s_ald 210 dX5_goes_125 (rfl) (by first | decide | omega) ?_
    refine j_bipush (v := 8) dX5_goes_126 (by decide) ?_
    refine j_icmp_ge dX5_goes_128 (tgt := 135) rfl (fun c2 => ?_) (fun c2 => ?_)
    · refine j_iconst (v := 0) dX5_goes_135 (by decide) ?_
      refine j_iadd dX5_goes_136 ?_
      refine s_ast 210 dX5_goes_137 (rfl) (by first | decide | omega) ?_
      refine j_aload_n dX5_goes_138 rfl ?_
      refine j_get (v := .ref 216) dX5_goes_139 fX5_7 rfl (by decide) (gS_p0 hg) ?_
      refine j_iload_n dX5_goes_142 rfl ?_
      refine j_iconst (v := 3) dX5_goes_143 (by decide) ?_
      refine j_icmp_ne dX5_goes_144 (tgt := 153) rfl (fun c3 => ?_) (fun c3 => ?_)
      · refine j_sipush (v := 202) dX5_goes_153 (by decide) ?_
        refine j_iload_n dX5_goes_156 rfl ?_
        refine j_iadd dX5_goes_157 ?_
        refine j_dup2 dX5_goes_158 rfl rfl ?_
        refine s_ald (202 + how) dX5_goes_159 (by first | rfl | (simp only [z_n, pk_mul, nI_add]; done) | (simp only [z_n, pk_mul, nI_add]; exact pk_sub (by omega)) | (simp only [z_n, pk_mul, nI_add, pk_sub, *]; done)) (by first | decide | omega) ?_
        refine j_iconst (v := 1) dX5_goes_160 (by decide) ?_
        refine j_iadd dX5_goes_161 ?_
        refine s_ast (202 + how) dX5_goes_162 (by first | rfl | (simp only [z_n, pk_mul, nI_add]; done) | (simp only [z_n, pk_mul, nI_add]; exact pk_sub (by omega)) | (simp only [z_n, pk_mul, nI_add, pk_sub, *]; done)) (by first | decide | omega) ?_
        refine j_aload_n dX5_goes_163 rfl ?_
        refine j_get (v := .ref 216) dX5_goes_164 fX5_7 rfl (by decide) (gS_p0 hg) ?_
        refine j_sipush (v := 148) dX5_goes_167 (by decide) ?_
        refine j_iconst (v := 0) dX5_goes_170 (by decide) ?_
        refine s_ast 148 dX5_goes_171 (rfl) (by first | decide | omega) ?_
        refine j_vret dX5_goes_172 rfl ?_
        exact hQ _ _ (z_pn ((if_pos c2).trans ((if_neg c3).trans (rfl))))
      · refine j_sipush (v := 211) dX5_goes_147 (by decide) ?_
        refine j_goto dX5_goes_150 (tgt := 158) rfl ?_
        refine j_dup2 dX5_goes_158 rfl rfl ?_
        refine s_ald 211 dX5_goes_159 (rfl) (by first | decide | omega) ?_
        refine j_iconst (v := 1) dX5_goes_160 (by decide) ?_
        refine j_iadd dX5_goes_161 ?_
        refine s_ast 211 dX5_goes_162 (rfl) (by first | decide | omega) ?_
        refine j_aload_n dX5_goes_163 rfl ?_
        refine j_get (v := .ref 216) dX5_goes_164 fX5_7 rfl (by decide) (gS_p0 hg) ?_
        refine j_sipush (v := 148) dX5_goes_167 (by decide) ?_
        refine j_iconst (v := 0) dX5_goes_170 (by decide) ?_
        refine s_ast 148 dX5_goes_171 (rfl) (by first | decide | omega) ?_
        refine j_vret dX5_goes_172 rfl ?_
        exact hQ _ _ (z_pn ((if_pos c2).trans ((if_pos c3).trans (rfl))))
    · refine j_iconst (v := 1) dX5_goes_131 (by decide) ?_
      refine j_goto dX5_goes_132 (tgt := 136) rfl ?_
      refine j_iadd dX5_goes_136 ?_
      refine s_ast 210 dX5_goes_137 (rfl) (by first | decide | omega) ?_
      refine j_aload_n dX5_goes_138 rfl ?_
      refine j_get (v := .ref 216) dX5_goes_139 fX5_7 rfl (by decide) (gS_p0 hg) ?_
      refine j_iload_n dX5_goes_142 rfl ?_
      refine j_iconst (v := 3) dX5_goes_143 (by decide) ?_
      refine j_icmp_ne dX5_goes_144 (tgt := 153) rfl (fun c4 => ?_) (fun c4 => ?_)
      · refine j_sipush (v := 202) dX5_goes_153 (by decide) ?_
        refine j_iload_n dX5_goes_156 rfl ?_
        refine j_iadd dX5_goes_157 ?_
        refine j_dup2 dX5_goes_158 rfl rfl ?_
        refine s_ald (202 + how) dX5_goes_159 (by first | rfl | (simp only [z_n, pk_mul, nI_add]; done) | (simp only [z_n, pk_mul, nI_add]; exact pk_sub (by omega)) | (simp only [z_n, pk_mul, nI_add, pk_sub, *]; done)) (by first | decide | omega) ?_
        refine j_iconst (v := 1) dX5_goes_160 (by decide) ?_
        refine j_iadd dX5_goes_161 ?_
        refine s_ast (202 + how) dX5_goes_162 (by first | rfl | (simp only [z_n, pk_mul, nI_add]; done) | (simp only [z_n, pk_mul, nI_add]; exact pk_sub (by omega)) | (simp only [z_n, pk_mul, nI_add, pk_sub, *]; done)) (by first | decide | omega) ?_
        refine j_aload_n dX5_goes_163 rfl ?_
        refine j_get (v := .ref 216) dX5_goes_164 fX5_7 rfl (by decide) (gS_p0 hg) ?_
        refine j_sipush (v := 148) dX5_goes_167 (by decide) ?_
        refine j_iconst (v := 0) dX5_goes_170 (by decide) ?_
        refine s_ast 148 dX5_goes_171 (rfl) (by first | decide | omega) ?_
        refine j_vret dX5_goes_172 rfl ?_
        exact hQ _ _ (z_pn ((if_neg c2).trans ((if_neg c4).trans (rfl))))
      · refine j_sipush (v := 211) dX5_goes_147 (by decide) ?_
        refine j_goto dX5_goes_150 (tgt := 158) rfl ?_
        refine j_dup2 dX5_goes_158 rfl rfl ?_
        refine s_ald 211 dX5_goes_159 (rfl) (by first | decide | omega) ?_
        refine j_iconst (v := 1) dX5_goes_160 (by decide) ?_
        refine j_iadd dX5_goes_161 ?_
        refine s_ast 211 dX5_goes_162 (rfl) (by first | decide | omega) ?_
        refine j_aload_n dX5_goes_163 rfl ?_
        refine j_get (v := .ref 216) dX5_goes_164 fX5_7 rfl (by decide) (gS_p0 hg) ?_
        refine j_sipush (v := 148) dX5_goes_167 (by decide) ?_
        refine j_iconst (v := 0) dX5_goes_170 (by decide) ?_
        refine s_ast 148 dX5_goes_171 (rfl) (by first | decide | omega) ?_
        refine j_vret dX5_goes_172 rfl ?_
        exact hQ _ _ (z_pn ((if_neg c2).trans ((if_pos c4).trans (rfl))))
  | succ n ih =>
    intro k hk hn hQ
    refine j_iload_n dX5_goes_3 rfl ?_
    refine j_iconst (v := 5) dX5_goes_4 (by decide) ?_
    refine j_icmp_lt dX5_goes_5 (tgt := 36) rfl (fun c1 => absurd c1 (show ¬ nI k < nI 5 from nI_nlt (by omega) (by omega))) (fun _ => ?_)
    refine j_aload_n dX5_goes_8 rfl ?_
    refine j_get (v := .ref 216) dX5_goes_9 fX5_7 rfl (by decide) (gS_p0 hg) ?_
    refine j_sipush (v := 158) dX5_goes_12 (by decide) ?_
    refine j_iload_n dX5_goes_15 rfl ?_
    refine j_iadd dX5_goes_16 ?_
    refine j_aload_n dX5_goes_17 rfl ?_
    refine j_get (v := .ref 216) dX5_goes_18 fX5_7 rfl (by decide) (gS_p0 hg) ?_
    refine j_sipush (v := 158) dX5_goes_21 (by decide) ?_
    refine j_iload_n dX5_goes_24 rfl ?_
    refine j_iadd dX5_goes_25 ?_
    refine j_iconst (v := 5) dX5_goes_26 (by decide) ?_
    refine j_isub dX5_goes_27 ?_
    refine s_ald ((158 + k) - 5) dX5_goes_28 (by first | rfl | (simp only [z_n, pk_mul, nI_add]; done) | (simp only [z_n, pk_mul, nI_add]; exact pk_sub (by omega)) | (simp only [z_n, pk_mul, nI_add, pk_sub, *]; done)) (by first | decide | omega) ?_
    refine s_ast (158 + k) dX5_goes_29 (by first | rfl | (simp only [z_n, pk_mul, nI_add]; done) | (simp only [z_n, pk_mul, nI_add]; exact pk_sub (by omega)) | (simp only [z_n, pk_mul, nI_add, pk_sub, *]; done)) (by first | decide | omega) ?_
    refine j_iinc (v := nI (k - 1)) dX5_goes_30 rfl (z_dec (by omega)) (by decide) ?_
    refine j_goto dX5_goes_33 (tgt := 3) rfl ?_
    rw [aShf_up (by omega) (by omega)]
    exact ih (k - 1) (by omega) (by omega) hQ
set_option maxRecDepth 4000 in
set_option maxHeartbeats 1000000 in
theorem s_goes {g : zH} {s : Nat → Int32} (hg : gP g) (how : Nat) (hh : how ≤ 3) : zCT mX5_goes [.ref 215, .int (nI how)] 222 (gS g s) 222 (fun r h' => r = none ∧ h' = gS g (aGo s how)) := by
  intro X Q hQ
  show zJ X mX5_goes 222 0 [.ref 215, .int (nI how), .null] [] 222 (gS g s) Q
  refine j_bipush (v := 39) dX5_goes_0 (by decide) ?_
  refine j_istore_n dX5_goes_2 (by decide) ?_
  rw [← aShf_39 (s := s)]
  exact s_goes_lp hg how hh 35 39 (by omega) (by omega) hQ
def aC1 (s : Nat → Int32) (k : Nat) : Nat → Int32 :=
  let t := upd s (11 * k + 6) (s (11 * k + 6) + 1)
  upd t 206 (t 206 + 1)
def aC2 (t : Nat → Int32) (k : Nat) (c : Int32) : Nat → Int32 :=
  let t := upd t 151 (aAsk t)
  let t := upd t 152 (nI k + 1)
  let t := upd t 156 c
  let t := upd t 157 1
  let t := upd t 155 (t 155 + 1)
  let t := upd t 207 (t 207 + 1)
  upd t (11 * k + 7) (t (11 * k + 7) + 1)
def aC3 (t : Nat → Int32) : Nat → Int32 :=
  let t := upd t 153 (t 153 + 1)
  upd t 208 (t 208 + 1)
def aC4 (t : Nat → Int32) : Int32 × (Nat → Int32) := if t 153 < t 213 then (t 151, t) else (aGo t 1 151, aGo t 1)
def aC5 (t : Nat → Int32) (k : Nat) : Int32 × (Nat → Int32) := if t (11 * k + 4) ≤ t (11 * k + 3) then (t 151, t) else aC4 (aC3 t)
/-- a cough: the bid, 0 if it is none, and what is then -/
def aCgh (s : Nat → Int32) (k : Nat) (c : Int32) : Int32 × (Nat → Int32) := if aBar s k ≤ 0 then aC5 (aC2 (aC1 s k) k c) k else (0, aC1 s k)
set_option maxRecDepth 4000 in
set_option maxHeartbeats 1000000 in
theorem s_coughs {g : zH} {s : Nat → Int32} (hg : gP g) (k : Nat) (hk : k < 12) {c : Int32} : zCT mX5_coughs [.ref 215, .int (nI k), .int c] 222 (gS g s) 222 (fun r h' => r = some (aCgh s k c).1 ∧ h' = gS g (aCgh s k c).2) := by
  intro X Q hQ
  show zJ X mX5_coughs 222 0 [.ref 215, .int (nI k), .int c, .null] [] 222 (gS g s) Q
  refine j_aload_n dX5_coughs_0 rfl ?_
  refine j_iload_n dX5_coughs_1 rfl ?_
  refine k_callV1i dX5_coughs_2 vX5_coughs_53 (s_barred hg k (by omega)) rfl (by decide) rfl (Nat.le_of_ble_eq_true rfl) ⟨rfl, rfl⟩ rfl ?_
  rintro _ _ ⟨⟨⟩, rfl⟩
  refine j_istore_n dX5_coughs_5 (by decide) ?_
  refine j_aload_n dX5_coughs_6 rfl ?_
  refine j_iload_n dX5_coughs_7 rfl ?_
  refine j_bipush (v := 6) dX5_coughs_8 (by decide) ?_
  refine j_iconst (v := 1) dX5_coughs_10 (by decide) ?_
  refine k_callV3v dX5_coughs_11 vX5_coughs_56 (s_adds hg k 6 (by omega) (by omega)) rfl (by decide) rfl rfl rfl (Nat.le_of_ble_eq_true rfl) ⟨rfl, rfl⟩ rfl ?_
  rintro _ ⟨-, rfl⟩
  refine j_aload_n dX5_coughs_14 rfl ?_
  refine j_get (v := .ref 216) dX5_coughs_15 fX5_7 rfl (by decide) (gS_p0 hg) ?_
  refine j_sipush (v := 206) dX5_coughs_18 (by decide) ?_
  refine j_dup2 dX5_coughs_21 rfl rfl ?_
  refine s_ald 206 dX5_coughs_22 (rfl) (by first | decide | omega) ?_
  refine j_iconst (v := 1) dX5_coughs_23 (by decide) ?_
  refine j_iadd dX5_coughs_24 ?_
  refine s_ast 206 dX5_coughs_25 (rfl) (by first | decide | omega) ?_
  refine j_iload_n dX5_coughs_26 rfl ?_
  refine j_if_le dX5_coughs_27 (tgt := 32) rfl (fun c1 => ?_) (fun c1 => ?_)
  · refine j_aload_n dX5_coughs_32 rfl ?_
    refine j_get (v := .ref 216) dX5_coughs_33 fX5_7 rfl (by decide) (gS_p0 hg) ?_
    refine j_sipush (v := 151) dX5_coughs_36 (by decide) ?_
    refine j_aload_n dX5_coughs_39 rfl ?_
    refine k_callV0i dX5_coughs_40 vX5_coughs_49 (s_asked hg) rfl (by decide)  (Nat.le_of_ble_eq_true rfl) ⟨rfl, rfl⟩ rfl ?_
    rintro _ _ ⟨⟨⟩, rfl⟩
    refine s_ast 151 dX5_coughs_43 (rfl) (by first | decide | omega) ?_
    refine j_aload_n dX5_coughs_44 rfl ?_
    refine j_get (v := .ref 216) dX5_coughs_45 fX5_7 rfl (by decide) (gS_p0 hg) ?_
    refine j_sipush (v := 152) dX5_coughs_48 (by decide) ?_
    refine j_iload_n dX5_coughs_51 rfl ?_
    refine j_iconst (v := 1) dX5_coughs_52 (by decide) ?_
    refine j_iadd dX5_coughs_53 ?_
    refine s_ast 152 dX5_coughs_54 (rfl) (by first | decide | omega) ?_
    refine j_aload_n dX5_coughs_55 rfl ?_
    refine j_get (v := .ref 216) dX5_coughs_56 fX5_7 rfl (by decide) (gS_p0 hg) ?_
    refine j_sipush (v := 156) dX5_coughs_59 (by decide) ?_
    refine j_iload_n dX5_coughs_62 rfl ?_
    refine s_ast 156 dX5_coughs_63 (rfl) (by first | decide | omega) ?_
    refine j_aload_n dX5_coughs_64 rfl ?_
    refine j_get (v := .ref 216) dX5_coughs_65 fX5_7 rfl (by decide) (gS_p0 hg) ?_
    refine j_sipush (v := 157) dX5_coughs_68 (by decide) ?_
    refine j_iconst (v := 1) dX5_coughs_71 (by decide) ?_
    refine s_ast 157 dX5_coughs_72 (rfl) (by first | decide | omega) ?_
    refine j_aload_n dX5_coughs_73 rfl ?_
    refine j_get (v := .ref 216) dX5_coughs_74 fX5_7 rfl (by decide) (gS_p0 hg) ?_
    refine j_sipush (v := 155) dX5_coughs_77 (by decide) ?_
    refine j_dup2 dX5_coughs_80 rfl rfl ?_
    refine s_ald 155 dX5_coughs_81 (rfl) (by first | decide | omega) ?_
    refine j_iconst (v := 1) dX5_coughs_82 (by decide) ?_
    refine j_iadd dX5_coughs_83 ?_
    refine s_ast 155 dX5_coughs_84 (rfl) (by first | decide | omega) ?_
    refine j_aload_n dX5_coughs_85 rfl ?_
    refine j_get (v := .ref 216) dX5_coughs_86 fX5_7 rfl (by decide) (gS_p0 hg) ?_
    refine j_sipush (v := 207) dX5_coughs_89 (by decide) ?_
    refine j_dup2 dX5_coughs_92 rfl rfl ?_
    refine s_ald 207 dX5_coughs_93 (rfl) (by first | decide | omega) ?_
    refine j_iconst (v := 1) dX5_coughs_94 (by decide) ?_
    refine j_iadd dX5_coughs_95 ?_
    refine s_ast 207 dX5_coughs_96 (rfl) (by first | decide | omega) ?_
    refine j_aload_n dX5_coughs_97 rfl ?_
    refine j_iload_n dX5_coughs_98 rfl ?_
    refine j_bipush (v := 7) dX5_coughs_99 (by decide) ?_
    refine j_iconst (v := 1) dX5_coughs_101 (by decide) ?_
    refine k_callV3v dX5_coughs_102 vX5_coughs_56 (s_adds hg k 7 (by omega) (by omega)) rfl (by decide) rfl rfl rfl (Nat.le_of_ble_eq_true rfl) ⟨rfl, rfl⟩ rfl ?_
    rintro _ ⟨-, rfl⟩
    refine j_aload_n dX5_coughs_105 rfl ?_
    refine j_iload_n dX5_coughs_106 rfl ?_
    refine j_iconst (v := 4) dX5_coughs_107 (by decide) ?_
    refine k_callV2i dX5_coughs_108 vX5_coughs_40 (s_of hg k 4 (by omega) (by omega)) rfl (by decide) rfl rfl (Nat.le_of_ble_eq_true rfl) ⟨rfl, rfl⟩ rfl ?_
    rintro _ _ ⟨⟨⟩, rfl⟩
    refine j_aload_n dX5_coughs_111 rfl ?_
    refine j_iload_n dX5_coughs_112 rfl ?_
    refine j_iconst (v := 3) dX5_coughs_113 (by decide) ?_
    refine k_callV2i dX5_coughs_114 vX5_coughs_40 (s_of hg k 3 (by omega) (by omega)) rfl (by decide) rfl rfl (Nat.le_of_ble_eq_true rfl) ⟨rfl, rfl⟩ rfl ?_
    rintro _ _ ⟨⟨⟩, rfl⟩
    refine j_icmp_le dX5_coughs_117 (tgt := 168) rfl (fun c2 => ?_) (fun c2 => ?_)
    · refine j_aload_n dX5_coughs_168 rfl ?_
      refine j_get (v := .ref 216) dX5_coughs_169 fX5_7 rfl (by decide) (gS_p0 hg) ?_
      refine j_sipush (v := 151) dX5_coughs_172 (by decide) ?_
      refine s_ald 151 dX5_coughs_175 (rfl) (by first | decide | omega) ?_
      refine j_iret dX5_coughs_176 rfl (rfl) ?_
      exact hQ _ _ (z_pr ((if_pos c1).trans ((if_pos c2).trans (rfl))))
    · refine j_aload_n dX5_coughs_120 rfl ?_
      refine j_get (v := .ref 216) dX5_coughs_121 fX5_7 rfl (by decide) (gS_p0 hg) ?_
      refine j_sipush (v := 153) dX5_coughs_124 (by decide) ?_
      refine j_dup2 dX5_coughs_127 rfl rfl ?_
      refine s_ald 153 dX5_coughs_128 (rfl) (by first | decide | omega) ?_
      refine j_iconst (v := 1) dX5_coughs_129 (by decide) ?_
      refine j_iadd dX5_coughs_130 ?_
      refine s_ast 153 dX5_coughs_131 (rfl) (by first | decide | omega) ?_
      refine j_aload_n dX5_coughs_132 rfl ?_
      refine j_get (v := .ref 216) dX5_coughs_133 fX5_7 rfl (by decide) (gS_p0 hg) ?_
      refine j_sipush (v := 208) dX5_coughs_136 (by decide) ?_
      refine j_dup2 dX5_coughs_139 rfl rfl ?_
      refine s_ald 208 dX5_coughs_140 (rfl) (by first | decide | omega) ?_
      refine j_iconst (v := 1) dX5_coughs_141 (by decide) ?_
      refine j_iadd dX5_coughs_142 ?_
      refine s_ast 208 dX5_coughs_143 (rfl) (by first | decide | omega) ?_
      refine j_aload_n dX5_coughs_144 rfl ?_
      refine j_get (v := .ref 216) dX5_coughs_145 fX5_7 rfl (by decide) (gS_p0 hg) ?_
      refine j_sipush (v := 153) dX5_coughs_148 (by decide) ?_
      refine s_ald 153 dX5_coughs_151 (rfl) (by first | decide | omega) ?_
      refine j_aload_n dX5_coughs_152 rfl ?_
      refine j_get (v := .ref 216) dX5_coughs_153 fX5_7 rfl (by decide) (gS_p0 hg) ?_
      refine j_sipush (v := 213) dX5_coughs_156 (by decide) ?_
      refine s_ald 213 dX5_coughs_159 (rfl) (by first | decide | omega) ?_
      refine j_icmp_lt dX5_coughs_160 (tgt := 168) rfl (fun c3 => ?_) (fun c3 => ?_)
      · refine j_aload_n dX5_coughs_168 rfl ?_
        refine j_get (v := .ref 216) dX5_coughs_169 fX5_7 rfl (by decide) (gS_p0 hg) ?_
        refine j_sipush (v := 151) dX5_coughs_172 (by decide) ?_
        refine s_ald 151 dX5_coughs_175 (rfl) (by first | decide | omega) ?_
        refine j_iret dX5_coughs_176 rfl (rfl) ?_
        exact hQ _ _ (z_pr ((if_pos c1).trans ((if_neg c2).trans ((if_pos c3).trans (rfl)))))
      · refine j_aload_n dX5_coughs_163 rfl ?_
        refine j_iconst (v := 1) dX5_coughs_164 (by decide) ?_
        refine k_callV1v dX5_coughs_165 vX5_coughs_60 (s_goes hg 1 (by omega)) rfl (by decide) rfl (Nat.le_of_ble_eq_true rfl) ⟨rfl, rfl⟩ rfl ?_
        rintro _ ⟨-, rfl⟩
        refine j_aload_n dX5_coughs_168 rfl ?_
        refine j_get (v := .ref 216) dX5_coughs_169 fX5_7 rfl (by decide) (gS_p0 hg) ?_
        refine j_sipush (v := 151) dX5_coughs_172 (by decide) ?_
        refine s_ald 151 dX5_coughs_175 (rfl) (by first | decide | omega) ?_
        refine j_iret dX5_coughs_176 rfl (rfl) ?_
        exact hQ _ _ (z_pr ((if_pos c1).trans ((if_neg c2).trans ((if_neg c3).trans (rfl)))))
  · refine j_iconst (v := 0) dX5_coughs_30 (by decide) ?_
    refine j_iret dX5_coughs_31 rfl (rfl) ?_
    exact hQ _ _ (z_pr ((if_neg c1).trans (rfl)))
/-- does a bidder cough for a cold in the next beat -/
def aNext (s : Nat → Int32) (k : Nat) : Int32 := if s (11 * k + 4) ≤ 0 then 0 else if s 198 + nI k - (s 198 + nI k) / (7 - s (11 * k + 4)) * (7 - s (11 * k + 4)) = 0 then 1 else 0
set_option maxRecDepth 4000 in
set_option maxHeartbeats 1000000 in
theorem s_coughsNext {g : zH} {s : Nat → Int32} (hg : gP g) (k : Nat) (hk : k < 12) (hc : ¬ 7 - s (11 * k + 4) = 0) : zCT mX5_coughsNext [.ref 215, .int (nI k)] 222 (gS g s) 222 (fun r h' => r = some (aNext s k) ∧ h' = gS g s) := by
  intro X Q hQ
  show zJ X mX5_coughsNext 222 0 [.ref 215, .int (nI k), .null] [] 222 (gS g s) Q
  refine j_aload_n dX5_coughsNext_0 rfl ?_
  refine j_iload_n dX5_coughsNext_1 rfl ?_
  refine j_iconst (v := 4) dX5_coughsNext_2 (by decide) ?_
  refine k_callV2i dX5_coughsNext_3 vX5_coughsNext_40 (s_of hg k 4 (by omega) (by omega)) rfl (by decide) rfl rfl (Nat.le_of_ble_eq_true rfl) ⟨rfl, rfl⟩ rfl ?_
  rintro _ _ ⟨⟨⟩, rfl⟩
  refine j_istore_n dX5_coughsNext_6 (by decide) ?_
  refine j_iload_n dX5_coughsNext_7 rfl ?_
  refine j_if_le dX5_coughsNext_8 (tgt := 33) rfl (fun c1 => ?_) (fun c1 => ?_)
  · refine j_iconst (v := 0) dX5_coughsNext_33 (by decide) ?_
    refine j_iret dX5_coughsNext_34 rfl (rfl) ?_
    exact hQ _ _ (z_ps ((if_pos c1).trans (rfl)))
  · refine j_aload_n dX5_coughsNext_11 rfl ?_
    refine j_get (v := .ref 216) dX5_coughsNext_12 fX5_7 rfl (by decide) (gS_p0 hg) ?_
    refine j_sipush (v := 198) dX5_coughsNext_15 (by decide) ?_
    refine s_ald 198 dX5_coughsNext_18 (rfl) (by first | decide | omega) ?_
    refine j_iload_n dX5_coughsNext_19 rfl ?_
    refine j_iadd dX5_coughsNext_20 ?_
    refine j_bipush (v := 7) dX5_coughsNext_21 (by decide) ?_
    refine j_iload_n dX5_coughsNext_23 rfl ?_
    refine j_isub dX5_coughsNext_24 ?_
    refine j_irem dX5_coughsNext_25 (hc) ?_
    refine j_if_ne dX5_coughsNext_26 (tgt := 33) rfl (fun c2 => ?_) (fun c2 => ?_)
    · refine j_iconst (v := 0) dX5_coughsNext_33 (by decide) ?_
      refine j_iret dX5_coughsNext_34 rfl (rfl) ?_
      exact hQ _ _ (z_ps ((if_neg c1).trans ((if_neg c2).trans (rfl))))
    · refine j_iconst (v := 1) dX5_coughsNext_29 (by decide) ?_
      refine j_goto dX5_coughsNext_30 (tgt := 34) rfl ?_
      refine j_iret dX5_coughsNext_34 rfl (rfl) ?_
      exact hQ _ _ (z_ps ((if_neg c1).trans ((if_pos c2).trans (rfl))))
