/-- the check's spare array -/
def gW (g : zH) (sp : Nat → Int32) : zH := va_up g 219 (iA sp)
theorem gP_gW {g : zH} {sp : Nat → Int32} (hg : gP g) : gP (gW g sp) := by
  unfold gP gW
  rw [va_up_ne _ _ (by decide)]
  exact hg
theorem gW_219 {g : zH} {sp s : Nat → Int32} : gS (gW g sp) s 219 = iA sp := by
  rw [gS_ne (by decide)]
  exact va_up_self _ _ _
theorem gW_self {g : zH} {sp : Nat → Int32} (h : g 219 = iA sp) : gW g sp = g := by
  funext a
  by_cases q : a = 219
  · subst q
    unfold gW
    rw [va_up_self, h]
  · exact va_up_ne _ _ q
theorem gW_W {g : zH} {sp sq : Nat → Int32} : gW (gW g sp) sq = gW g sq := up_up
section ZM
variable {X : Nat × (Nat → Int32)} {M : zM} {pc : Nat} {ls st : List Value} {h : zH} {Q : zQt}
theorem w_ald {g : zH} {sp s : Nat → Int32} {i : Int32} (j : Nat) (hd : decode (zMb M) pc = .ok (.iaload, 1)) (hi : i = nI j) (hj : j < 215) (kk : zJ X M 222 (pc + 1) ls (.int (sp j) :: st) 222 (gS (gW g sp) s) Q) : zJ X M 222 pc ls (.int i :: .ref 219 :: st) 222 (gS (gW g sp) s) Q :=
  j_iald (x := sp j) hd (n := 215) rfl (by decide) (z_vin hi hj (by omega)) (by rw [hi, z_cl (by omega), gW_219]; rfl) kk
theorem w_ast {g : zH} {sp s : Nat → Int32} {i x : Int32} (j : Nat) (hd : decode (zMb M) pc = .ok (.iastore, 1)) (hi : i = nI j) (hj : j < 215) (kk : zJ X M 222 (pc + 1) ls st 222 (gS (gW g (upd sp j x)) s) Q) : zJ X M 222 pc ls (.int x :: .int i :: .ref 219 :: st) 222 (gS (gW g sp) s) Q :=
  j_iast hd (n := 215) rfl (by decide) (z_vin hi hj (by omega)) (by
    rw [hi, z_cl (by omega), gW_219, iA_up, gS_upn (by decide)]
    unfold gW at kk ⊢
    rw [up_up]
    exact kk)
end ZM
theorem aFind_nat {s : Nat → Int32} {row seat : Int32} : ∀ n k : Nat, k + n ≤ 12 → aFind s row seat n k < 0 ∨ ∃ j, j < k + n ∧ aFind s row seat n k = nI j
  | 0, _, _ => Or.inl (by unfold aFind; decide)
  | n + 1, k, h => by
    unfold aFind
    have ih := aFind_nat (s := s) (row := row) (seat := seat) n (k + 1) (by omega)
    have ih2 : aFind s row seat n (k + 1) < 0 ∨ ∃ j, j < k + (n + 1) ∧ aFind s row seat n (k + 1) = nI j := by
      rcases ih with q | ⟨j, h1, h2⟩
      · exact Or.inl q
      · exact Or.inr ⟨j, by omega, h2⟩
    split
    · split
      · exact Or.inr ⟨k, by omega, rfl⟩
      · exact ih2
    · exact ih2
def aCf2 (s sp : Nat → Int32) (o : Int32) : Int32 := if o < 0 then 0 else if sp (11 * o.toNatClampNeg + 4) - s (11 * o.toNatClampNeg + 5) < 2 then 0 else 1
/-- does somebody on that seat give a cold; sp: what the colds were -/
def aCf (s sp : Nat → Int32) (N : Nat) (row seat : Int32) : Int32 := if aIn seat 0 7 = 0 then aCf2 s sp (-1000004) else aCf2 s sp (aFind s row seat N 0)
theorem aCf2_b {s sp : Nat → Int32} {o : Int32} : narrow .boolean (.int (aCf2 s sp o)) = .int (aCf2 s sp o) := by
  unfold aCf2
  split
  · rfl
  · split <;> rfl
set_option maxRecDepth 4000 in
set_option maxHeartbeats 2000000 in
theorem s_cf2 {g : zH} (hg : gP g) {s sp : Nat → Int32} {row seat o : Int32} (ho : o < 0 ∨ ∃ j, j < 12 ∧ o = nI j) {X : Nat × (Nat → Int32)} {Q : zQt} (hQ : ∀ r h', r = some (aCf2 s sp o) ∧ h' = gS (gW g sp) s → Q r 222 h') : zJ X mX5_catchesFrom 222 22 [.ref 215, .int row, .int seat, .int o] [] 222 (gS (gW g sp) s) Q := by
  rcases ho with ho | ⟨j, hj, rfl⟩
  · skip
    refine j_iload_n dX5_catchesFrom_22 rfl ?_
    refine j_if_lt dX5_catchesFrom_23 (tgt := 52) rfl (fun _ => ?_) (fun c1 => absurd ho c1)
    refine j_iconst (v := 0) dX5_catchesFrom_52 (by decide) ?_
    refine j_iret dX5_catchesFrom_53 rfl (rfl) ?_
    exact hQ _ _ (z_ps (if_pos ho))
  · skip
    refine j_iload_n dX5_catchesFrom_22 rfl ?_
    refine j_if_lt dX5_catchesFrom_23 (tgt := 52) rfl (fun c1 => absurd c1 (nI_pos (by omega))) (fun _ => ?_)
    refine j_aload_n dX5_catchesFrom_26 rfl ?_
    refine j_get (v := .ref 219) dX5_catchesFrom_27 fX5_19 rfl (by decide) (gS_p3 (gP_gW hg)) ?_
    refine j_bipush (v := 11) dX5_catchesFrom_30 (by decide) ?_
    refine j_iload_n dX5_catchesFrom_32 rfl ?_
    refine j_imul dX5_catchesFrom_33 ?_
    refine j_iconst (v := 4) dX5_catchesFrom_34 (by decide) ?_
    refine j_iadd dX5_catchesFrom_35 ?_
    refine w_ald (((11 * j) + 4)) dX5_catchesFrom_36 (by first | rfl | (simp only [z_n, pk_mul, nI_add]; done) | (simp only [z_n, pk_mul, nI_add]; exact pk_sub (by omega)) | (simp only [z_n, pk_mul, nI_add, pk_sub, *]; done)) (by first | decide | omega) ?_
    refine j_aload_n dX5_catchesFrom_37 rfl ?_
    refine j_iload_n dX5_catchesFrom_38 rfl ?_
    refine j_iconst (v := 5) dX5_catchesFrom_39 (by decide) ?_
    refine k_callV2i dX5_catchesFrom_40 vX5_catchesFrom_40 (s_of (gP_gW hg) j 5 (by omega) (by omega)) rfl (by decide) rfl rfl (Nat.le_of_ble_eq_true rfl) ⟨rfl, rfl⟩ rfl ?_
    rintro _ _ ⟨⟨⟩, rfl⟩
    refine j_isub dX5_catchesFrom_43 ?_
    refine j_iconst (v := 2) dX5_catchesFrom_44 (by decide) ?_
    refine j_icmp_lt dX5_catchesFrom_45 (tgt := 52) rfl (fun c2 => ?_) (fun c2 => ?_)
    · refine j_iconst (v := 0) dX5_catchesFrom_52 (by decide) ?_
      refine j_iret dX5_catchesFrom_53 rfl (rfl) ?_
      exact hQ _ _ (z_ps ((if_neg (nI_pos (by omega))).trans (by rw [nI_clamp (by omega)]; exact ((if_pos c2).trans (rfl)))))
    · refine j_iconst (v := 1) dX5_catchesFrom_48 (by decide) ?_
      refine j_goto dX5_catchesFrom_49 (tgt := 53) rfl ?_
      refine j_iret dX5_catchesFrom_53 rfl (rfl) ?_
      exact hQ _ _ (z_ps ((if_neg (nI_pos (by omega))).trans (by rw [nI_clamp (by omega)]; exact ((if_neg c2).trans (rfl)))))
set_option maxRecDepth 4000 in
set_option maxHeartbeats 2000000 in
theorem s_catchesFrom0 {g : zH} (hg : gP g) {s sp : Nat → Int32} {N : Nat} (hn : s 199 = nI N) (hN : N ≤ 12) {row seat : Int32} : zCT mX5_catchesFrom [.ref 215, .int row, .int seat] 222 (gS (gW g sp) s) 222 (fun r h' => r = some (aCf s sp N row seat) ∧ h' = gS (gW g sp) s) := by
  intro X Q hQ
  show zJ X mX5_catchesFrom 222 0 [.ref 215, .int row, .int seat, .null] [] 222 (gS (gW g sp) s) Q
  refine j_iload_n dX5_catchesFrom_0 rfl ?_
  refine j_iconst (v := 0) dX5_catchesFrom_1 (by decide) ?_
  refine j_bipush (v := 7) dX5_catchesFrom_2 (by decide) ?_
  refine k_callS3i dX5_catchesFrom_4 vX5_catchesFrom_36 (s_in) rfl rfl rfl (Nat.le_of_ble_eq_true rfl) ⟨rfl, rfl⟩ rfl ?_
  rintro _ _ ⟨⟨⟩, rfl⟩
  refine j_if_eq dX5_catchesFrom_7 (tgt := 19) rfl (fun c1 => ?_) (fun c1 => ?_)
  · refine j_ldc (v := (-1000004)) dX5_catchesFrom_19 cX5_44 ?_
    refine j_istore_n dX5_catchesFrom_21 (by decide) ?_
    exact s_cf2 hg (Or.inl (by decide)) (fun r h' h => hQ r h' ⟨h.1.trans (congrArg some ((if_pos c1).trans (rfl) : aCf s sp N row seat = _).symm), h.2⟩)
  · refine j_aload_n dX5_catchesFrom_10 rfl ?_
    refine j_iload_n dX5_catchesFrom_11 rfl ?_
    refine j_iload_n dX5_catchesFrom_12 rfl ?_
    refine k_callV2i dX5_catchesFrom_13 vX5_catchesFrom_79 (s_seated (gP_gW hg) hn hN) rfl (by decide) rfl rfl (Nat.le_of_ble_eq_true rfl) ⟨rfl, rfl⟩ rfl ?_
    rintro _ _ ⟨⟨⟩, rfl⟩
    refine j_goto dX5_catchesFrom_16 (tgt := 21) rfl ?_
    refine j_istore_n dX5_catchesFrom_21 (by decide) ?_
    exact s_cf2 hg (by rcases aFind_nat (s := s) (row := row) (seat := seat) N 0 (by omega) with q | ⟨j, q1, q2⟩; exact Or.inl q; exact Or.inr ⟨j, by omega, q2⟩) (fun r h' h => hQ r h' ⟨h.1.trans (congrArg some ((if_neg c1).trans (rfl) : aCf s sp N row seat = _).symm), h.2⟩)
def aCl (c : Int32) : Int32 := if c ≤ 5 then (if 0 ≤ c then c else 0) else 5
def aNv (s sp : Nat → Int32) (N k : Nat) : Int32 :=
  if aCf s sp N (s (11 * k + 0)) (s (11 * k + 1) - 1) = 0 then (if aCf s sp N (s (11 * k + 0)) (s (11 * k + 1) + 1) = 0 then aCl (s (11 * k + 4) + (-1)) else aCl (s (11 * k + 4) + 1)) else aCl (s (11 * k + 4) + 1)
def aNl (sp : Nat → Int32) (N : Nat) : Nat → Nat → (Nat → Int32) → (Nat → Int32)
  | 0, _, s => s
  | n + 1, k, s => aNl sp N n (k + 1) (upd s (11 * k + 4) (aNv s sp N k))
def aNe (t : Nat → Int32) : Nat → Int32 := upd t 209 (t 209 + 1)
def aNight (s sp : Nat → Int32) (N : Nat) : Nat → Int32 := aNe (aNl sp N N 0 s)
set_option maxRecDepth 4000 in
set_option maxHeartbeats 2000000 in
theorem s_night_l2 {g : zH} (hg : gP g) {sp : Nat → Int32} {N : Nat} (hN : N ≤ 12) {X : Nat × (Nat → Int32)} {Q : zQt} : ∀ (n k : Nat) (s : Nat → Int32) (v2 v3 v4 : Value), k + n = N → s 199 = nI N → (∀ r h', r = none ∧ h' = gS (gW g sp) (aNe (aNl sp N n k s)) → Q r 222 h') → zJ X mX5_nightPasses 222 37 [.ref 215, .int (nI k), v2, v3, v4] [] 222 (gS (gW g sp) s) Q := by
  intro n
  induction n with
  | zero =>
    intro k s v2 v3 v4 hk hn hQ
    refine j_iload_n dX5_nightPasses_37 rfl ?_
    refine j_aload_n dX5_nightPasses_38 rfl ?_
    refine j_get (v := .ref 216) dX5_nightPasses_39 fX5_7 rfl (by decide) (gS_p0 (gP_gW hg)) ?_
    refine j_sipush (v := 199) dX5_nightPasses_42 (by decide) ?_
    refine s_ald 199 dX5_nightPasses_45 (rfl) (by first | decide | omega) ?_
    refine j_icmp_ge dX5_nightPasses_46 (tgt := 132) rfl (fun _ => ?_) (fun c1 => absurd (show s 199 ≤ nI k by rw [hn]; exact nI_le (by omega) (by omega)) c1)
    refine j_aload_n dX5_nightPasses_132 rfl ?_
    refine j_get (v := .ref 216) dX5_nightPasses_133 fX5_7 rfl (by decide) (gS_p0 (gP_gW hg)) ?_
    refine j_sipush (v := 209) dX5_nightPasses_136 (by decide) ?_
    refine j_dup2 dX5_nightPasses_139 rfl rfl ?_
    refine s_ald 209 dX5_nightPasses_140 (rfl) (by first | decide | omega) ?_
    refine j_iconst (v := 1) dX5_nightPasses_141 (by decide) ?_
    refine j_iadd dX5_nightPasses_142 ?_
    refine s_ast 209 dX5_nightPasses_143 (rfl) (by first | decide | omega) ?_
    refine j_vret dX5_nightPasses_144 rfl ?_
    exact hQ _ _ ⟨rfl, rfl⟩
  | succ n ih =>
    intro k s v2 v3 v4 hk hn hQ
    refine j_iload_n dX5_nightPasses_37 rfl ?_
    refine j_aload_n dX5_nightPasses_38 rfl ?_
    refine j_get (v := .ref 216) dX5_nightPasses_39 fX5_7 rfl (by decide) (gS_p0 (gP_gW hg)) ?_
    refine j_sipush (v := 199) dX5_nightPasses_42 (by decide) ?_
    refine s_ald 199 dX5_nightPasses_45 (rfl) (by first | decide | omega) ?_
    refine j_icmp_ge dX5_nightPasses_46 (tgt := 132) rfl (fun c1 => absurd c1 (show ¬ s 199 ≤ nI k by rw [hn]; exact nI_ge (by omega) (by omega))) (fun _ => ?_)
    refine j_aload_n dX5_nightPasses_49 rfl ?_
    refine j_iload_n dX5_nightPasses_50 rfl ?_
    refine j_iconst (v := 0) dX5_nightPasses_51 (by decide) ?_
    refine k_callV2i dX5_nightPasses_52 vX5_nightPasses_40 (s_of (gP_gW hg) k 0 (by omega) (by omega)) rfl (by decide) rfl rfl (Nat.le_of_ble_eq_true rfl) ⟨rfl, rfl⟩ rfl ?_
    rintro _ _ ⟨⟨⟩, rfl⟩
    refine j_istore_n dX5_nightPasses_55 (by decide) ?_
    refine j_aload_n dX5_nightPasses_56 rfl ?_
    refine j_iload_n dX5_nightPasses_57 rfl ?_
    refine j_iconst (v := 1) dX5_nightPasses_58 (by decide) ?_
    refine k_callV2i dX5_nightPasses_59 vX5_nightPasses_40 (s_of (gP_gW hg) k 1 (by omega) (by omega)) rfl (by decide) rfl rfl (Nat.le_of_ble_eq_true rfl) ⟨rfl, rfl⟩ rfl ?_
    rintro _ _ ⟨⟨⟩, rfl⟩
    refine j_istore_n dX5_nightPasses_62 (by decide) ?_
    refine j_aload_n dX5_nightPasses_63 rfl ?_
    refine j_iload_n dX5_nightPasses_64 rfl ?_
    refine j_iconst (v := 4) dX5_nightPasses_65 (by decide) ?_
    refine k_callV2i dX5_nightPasses_66 vX5_nightPasses_40 (s_of (gP_gW hg) k 4 (by omega) (by omega)) rfl (by decide) rfl rfl (Nat.le_of_ble_eq_true rfl) ⟨rfl, rfl⟩ rfl ?_
    rintro _ _ ⟨⟨⟩, rfl⟩
    refine j_aload_n dX5_nightPasses_69 rfl ?_
    refine j_iload_n dX5_nightPasses_70 rfl ?_
    refine j_iload_n dX5_nightPasses_71 rfl ?_
    refine j_iconst (v := 1) dX5_nightPasses_72 (by decide) ?_
    refine j_isub dX5_nightPasses_73 ?_
    refine k_callV2i dX5_nightPasses_74 vX5_nightPasses_102 (s_catchesFrom0 hg hn hN) rfl (by decide) rfl rfl (Nat.le_of_ble_eq_true rfl) ⟨rfl, rfl⟩ rfl ?_
    rintro _ _ ⟨⟨⟩, rfl⟩
    refine j_if_ne dX5_nightPasses_77 (tgt := 91) rfl (fun c2 => ?_) (fun c2 => ?_)
    · refine j_iconst (v := 1) dX5_nightPasses_91 (by decide) ?_
      refine j_goto dX5_nightPasses_92 (tgt := 96) rfl ?_
      refine j_iadd dX5_nightPasses_96 ?_
      refine j_istore dX5_nightPasses_97 (by decide) ?_
      refine j_aload_n dX5_nightPasses_99 rfl ?_
      refine j_iload_n dX5_nightPasses_100 rfl ?_
      refine j_iconst (v := 4) dX5_nightPasses_101 (by decide) ?_
      refine j_iload dX5_nightPasses_102 rfl ?_
      refine j_iconst (v := 5) dX5_nightPasses_104 (by decide) ?_
      refine j_icmp_le dX5_nightPasses_105 (tgt := 112) rfl (fun c3 => ?_) (fun c3 => ?_)
      · refine j_iload dX5_nightPasses_112 rfl ?_
        refine j_if_ge dX5_nightPasses_114 (tgt := 121) rfl (fun c4 => ?_) (fun c4 => ?_)
        · refine j_iload dX5_nightPasses_121 rfl ?_
          refine k_callV3v dX5_nightPasses_123 vX5_nightPasses_87 (s_lay (gP_gW hg) k 4 (by omega) (by omega)) rfl (by decide) rfl rfl rfl (Nat.le_of_ble_eq_true rfl) ⟨rfl, rfl⟩ rfl ?_
          rintro _ ⟨-, rfl⟩
          refine j_iinc (v := nI (k + 1)) dX5_nightPasses_126 rfl z_inc (by decide) ?_
          refine j_goto dX5_nightPasses_129 (tgt := 37) rfl ?_
          exact ih (k + 1) _ _ _ _ (by omega) (by rw [upd_n (by omega)]; exact hn) (fun r h' h => hQ r h' ⟨h.1, h.2.trans (congrArg (fun v => gS (gW g sp) (aNe (aNl sp N n (k + 1) (upd s (11 * k + 4) v)))) ((if_neg c2).trans ((if_pos c3).trans ((if_pos c4).trans (rfl))) : aNv s sp N k = _).symm)⟩)
        · refine j_iconst (v := 0) dX5_nightPasses_117 (by decide) ?_
          refine j_goto dX5_nightPasses_118 (tgt := 123) rfl ?_
          refine k_callV3v dX5_nightPasses_123 vX5_nightPasses_87 (s_lay (gP_gW hg) k 4 (by omega) (by omega)) rfl (by decide) rfl rfl rfl (Nat.le_of_ble_eq_true rfl) ⟨rfl, rfl⟩ rfl ?_
          rintro _ ⟨-, rfl⟩
          refine j_iinc (v := nI (k + 1)) dX5_nightPasses_126 rfl z_inc (by decide) ?_
          refine j_goto dX5_nightPasses_129 (tgt := 37) rfl ?_
          exact ih (k + 1) _ _ _ _ (by omega) (by rw [upd_n (by omega)]; exact hn) (fun r h' h => hQ r h' ⟨h.1, h.2.trans (congrArg (fun v => gS (gW g sp) (aNe (aNl sp N n (k + 1) (upd s (11 * k + 4) v)))) ((if_neg c2).trans ((if_pos c3).trans ((if_neg c4).trans (rfl))) : aNv s sp N k = _).symm)⟩)
      · refine j_iconst (v := 5) dX5_nightPasses_108 (by decide) ?_
        refine j_goto dX5_nightPasses_109 (tgt := 123) rfl ?_
        refine k_callV3v dX5_nightPasses_123 vX5_nightPasses_87 (s_lay (gP_gW hg) k 4 (by omega) (by omega)) rfl (by decide) rfl rfl rfl (Nat.le_of_ble_eq_true rfl) ⟨rfl, rfl⟩ rfl ?_
        rintro _ ⟨-, rfl⟩
        refine j_iinc (v := nI (k + 1)) dX5_nightPasses_126 rfl z_inc (by decide) ?_
        refine j_goto dX5_nightPasses_129 (tgt := 37) rfl ?_
        exact ih (k + 1) _ _ _ _ (by omega) (by rw [upd_n (by omega)]; exact hn) (fun r h' h => hQ r h' ⟨h.1, h.2.trans (congrArg (fun v => gS (gW g sp) (aNe (aNl sp N n (k + 1) (upd s (11 * k + 4) v)))) ((if_neg c2).trans ((if_neg c3).trans (rfl)) : aNv s sp N k = _).symm)⟩)
    · refine j_aload_n dX5_nightPasses_80 rfl ?_
      refine j_iload_n dX5_nightPasses_81 rfl ?_
      refine j_iload_n dX5_nightPasses_82 rfl ?_
      refine j_iconst (v := 1) dX5_nightPasses_83 (by decide) ?_
      refine j_iadd dX5_nightPasses_84 ?_
      refine k_callV2i dX5_nightPasses_85 vX5_nightPasses_102 (s_catchesFrom0 hg hn hN) rfl (by decide) rfl rfl (Nat.le_of_ble_eq_true rfl) ⟨rfl, rfl⟩ rfl ?_
      rintro _ _ ⟨⟨⟩, rfl⟩
      refine j_if_eq dX5_nightPasses_88 (tgt := 95) rfl (fun c5 => ?_) (fun c5 => ?_)
      · refine j_iconst (v := (-1)) dX5_nightPasses_95 (by decide) ?_
        refine j_iadd dX5_nightPasses_96 ?_
        refine j_istore dX5_nightPasses_97 (by decide) ?_
        refine j_aload_n dX5_nightPasses_99 rfl ?_
        refine j_iload_n dX5_nightPasses_100 rfl ?_
        refine j_iconst (v := 4) dX5_nightPasses_101 (by decide) ?_
        refine j_iload dX5_nightPasses_102 rfl ?_
        refine j_iconst (v := 5) dX5_nightPasses_104 (by decide) ?_
        refine j_icmp_le dX5_nightPasses_105 (tgt := 112) rfl (fun c6 => ?_) (fun c6 => ?_)
        · refine j_iload dX5_nightPasses_112 rfl ?_
          refine j_if_ge dX5_nightPasses_114 (tgt := 121) rfl (fun c7 => ?_) (fun c7 => ?_)
          · refine j_iload dX5_nightPasses_121 rfl ?_
            refine k_callV3v dX5_nightPasses_123 vX5_nightPasses_87 (s_lay (gP_gW hg) k 4 (by omega) (by omega)) rfl (by decide) rfl rfl rfl (Nat.le_of_ble_eq_true rfl) ⟨rfl, rfl⟩ rfl ?_
            rintro _ ⟨-, rfl⟩
            refine j_iinc (v := nI (k + 1)) dX5_nightPasses_126 rfl z_inc (by decide) ?_
            refine j_goto dX5_nightPasses_129 (tgt := 37) rfl ?_
            exact ih (k + 1) _ _ _ _ (by omega) (by rw [upd_n (by omega)]; exact hn) (fun r h' h => hQ r h' ⟨h.1, h.2.trans (congrArg (fun v => gS (gW g sp) (aNe (aNl sp N n (k + 1) (upd s (11 * k + 4) v)))) ((if_pos c2).trans ((if_pos c5).trans ((if_pos c6).trans ((if_pos c7).trans (rfl)))) : aNv s sp N k = _).symm)⟩)
          · refine j_iconst (v := 0) dX5_nightPasses_117 (by decide) ?_
            refine j_goto dX5_nightPasses_118 (tgt := 123) rfl ?_
            refine k_callV3v dX5_nightPasses_123 vX5_nightPasses_87 (s_lay (gP_gW hg) k 4 (by omega) (by omega)) rfl (by decide) rfl rfl rfl (Nat.le_of_ble_eq_true rfl) ⟨rfl, rfl⟩ rfl ?_
            rintro _ ⟨-, rfl⟩
            refine j_iinc (v := nI (k + 1)) dX5_nightPasses_126 rfl z_inc (by decide) ?_
            refine j_goto dX5_nightPasses_129 (tgt := 37) rfl ?_
            exact ih (k + 1) _ _ _ _ (by omega) (by rw [upd_n (by omega)]; exact hn) (fun r h' h => hQ r h' ⟨h.1, h.2.trans (congrArg (fun v => gS (gW g sp) (aNe (aNl sp N n (k + 1) (upd s (11 * k + 4) v)))) ((if_pos c2).trans ((if_pos c5).trans ((if_pos c6).trans ((if_neg c7).trans (rfl)))) : aNv s sp N k = _).symm)⟩)
        · refine j_iconst (v := 5) dX5_nightPasses_108 (by decide) ?_
          refine j_goto dX5_nightPasses_109 (tgt := 123) rfl ?_
          refine k_callV3v dX5_nightPasses_123 vX5_nightPasses_87 (s_lay (gP_gW hg) k 4 (by omega) (by omega)) rfl (by decide) rfl rfl rfl (Nat.le_of_ble_eq_true rfl) ⟨rfl, rfl⟩ rfl ?_
          rintro _ ⟨-, rfl⟩
          refine j_iinc (v := nI (k + 1)) dX5_nightPasses_126 rfl z_inc (by decide) ?_
          refine j_goto dX5_nightPasses_129 (tgt := 37) rfl ?_
          exact ih (k + 1) _ _ _ _ (by omega) (by rw [upd_n (by omega)]; exact hn) (fun r h' h => hQ r h' ⟨h.1, h.2.trans (congrArg (fun v => gS (gW g sp) (aNe (aNl sp N n (k + 1) (upd s (11 * k + 4) v)))) ((if_pos c2).trans ((if_pos c5).trans ((if_neg c6).trans (rfl))) : aNv s sp N k = _).symm)⟩)
      · refine j_iconst (v := 1) dX5_nightPasses_91 (by decide) ?_
        refine j_goto dX5_nightPasses_92 (tgt := 96) rfl ?_
        refine j_iadd dX5_nightPasses_96 ?_
        refine j_istore dX5_nightPasses_97 (by decide) ?_
        refine j_aload_n dX5_nightPasses_99 rfl ?_
        refine j_iload_n dX5_nightPasses_100 rfl ?_
        refine j_iconst (v := 4) dX5_nightPasses_101 (by decide) ?_
        refine j_iload dX5_nightPasses_102 rfl ?_
        refine j_iconst (v := 5) dX5_nightPasses_104 (by decide) ?_
        refine j_icmp_le dX5_nightPasses_105 (tgt := 112) rfl (fun c8 => ?_) (fun c8 => ?_)
        · refine j_iload dX5_nightPasses_112 rfl ?_
          refine j_if_ge dX5_nightPasses_114 (tgt := 121) rfl (fun c9 => ?_) (fun c9 => ?_)
          · refine j_iload dX5_nightPasses_121 rfl ?_
            refine k_callV3v dX5_nightPasses_123 vX5_nightPasses_87 (s_lay (gP_gW hg) k 4 (by omega) (by omega)) rfl (by decide) rfl rfl rfl (Nat.le_of_ble_eq_true rfl) ⟨rfl, rfl⟩ rfl ?_
            rintro _ ⟨-, rfl⟩
            refine j_iinc (v := nI (k + 1)) dX5_nightPasses_126 rfl z_inc (by decide) ?_
            refine j_goto dX5_nightPasses_129 (tgt := 37) rfl ?_
            exact ih (k + 1) _ _ _ _ (by omega) (by rw [upd_n (by omega)]; exact hn) (fun r h' h => hQ r h' ⟨h.1, h.2.trans (congrArg (fun v => gS (gW g sp) (aNe (aNl sp N n (k + 1) (upd s (11 * k + 4) v)))) ((if_pos c2).trans ((if_neg c5).trans ((if_pos c8).trans ((if_pos c9).trans (rfl)))) : aNv s sp N k = _).symm)⟩)
          · refine j_iconst (v := 0) dX5_nightPasses_117 (by decide) ?_
            refine j_goto dX5_nightPasses_118 (tgt := 123) rfl ?_
            refine k_callV3v dX5_nightPasses_123 vX5_nightPasses_87 (s_lay (gP_gW hg) k 4 (by omega) (by omega)) rfl (by decide) rfl rfl rfl (Nat.le_of_ble_eq_true rfl) ⟨rfl, rfl⟩ rfl ?_
            rintro _ ⟨-, rfl⟩
            refine j_iinc (v := nI (k + 1)) dX5_nightPasses_126 rfl z_inc (by decide) ?_
            refine j_goto dX5_nightPasses_129 (tgt := 37) rfl ?_
            exact ih (k + 1) _ _ _ _ (by omega) (by rw [upd_n (by omega)]; exact hn) (fun r h' h => hQ r h' ⟨h.1, h.2.trans (congrArg (fun v => gS (gW g sp) (aNe (aNl sp N n (k + 1) (upd s (11 * k + 4) v)))) ((if_pos c2).trans ((if_neg c5).trans ((if_pos c8).trans ((if_neg c9).trans (rfl)))) : aNv s sp N k = _).symm)⟩)
        · refine j_iconst (v := 5) dX5_nightPasses_108 (by decide) ?_
          refine j_goto dX5_nightPasses_109 (tgt := 123) rfl ?_
          refine k_callV3v dX5_nightPasses_123 vX5_nightPasses_87 (s_lay (gP_gW hg) k 4 (by omega) (by omega)) rfl (by decide) rfl rfl rfl (Nat.le_of_ble_eq_true rfl) ⟨rfl, rfl⟩ rfl ?_
          rintro _ ⟨-, rfl⟩
          refine j_iinc (v := nI (k + 1)) dX5_nightPasses_126 rfl z_inc (by decide) ?_
          refine j_goto dX5_nightPasses_129 (tgt := 37) rfl ?_
          exact ih (k + 1) _ _ _ _ (by omega) (by rw [upd_n (by omega)]; exact hn) (fun r h' h => hQ r h' ⟨h.1, h.2.trans (congrArg (fun v => gS (gW g sp) (aNe (aNl sp N n (k + 1) (upd s (11 * k + 4) v)))) ((if_pos c2).trans ((if_neg c5).trans ((if_neg c8).trans (rfl))) : aNv s sp N k = _).symm)⟩)
set_option maxRecDepth 4000 in
set_option maxHeartbeats 2000000 in
theorem s_night_l1 {g : zH} (hg : gP g) {s sp : Nat → Int32} {N : Nat} (hn : s 199 = nI N) (hN : N ≤ 12) {X : Nat × (Nat → Int32)} {Q : zQt} (hQ : ∀ r h', r = none ∧ h' = gS (gW g (aMix s sp (11 * N))) (aNight s (aMix s sp (11 * N)) N) → Q r 222 h') : ∀ (n k : Nat), k + n = 11 * N → zJ X mX5_nightPasses 222 2 [.ref 215, .int (nI k), .null, .null, .null] [] 222 (gS (gW g (aMix s sp k)) s) Q := by
  intro n
  induction n with
  | zero =>
    intro k hk
    obtain rfl : k = 11 * N := by omega
    refine j_iload_n dX5_nightPasses_2 rfl ?_
    refine j_bipush (v := 11) dX5_nightPasses_3 (by decide) ?_
    refine j_aload_n dX5_nightPasses_5 rfl ?_
    refine j_get (v := .ref 216) dX5_nightPasses_6 fX5_7 rfl (by decide) (gS_p0 (gP_gW hg)) ?_
    refine j_sipush (v := 199) dX5_nightPasses_9 (by decide) ?_
    refine s_aldv (v := nI N) 199 dX5_nightPasses_12 (rfl) (by first | decide | omega) (hn) ?_
    refine j_imul dX5_nightPasses_13 ?_
    refine j_icmp_ge dX5_nightPasses_14 (tgt := 35) rfl (fun _ => ?_) (fun c1 => absurd (show 11 * nI N ≤ nI (11 * N) by rw [show (11 : Int32) = nI 11 from rfl, pk_mul]; exact Int32.le_refl _) c1)
    refine j_iconst (v := 0) dX5_nightPasses_35 (by decide) ?_
    refine j_istore_n dX5_nightPasses_36 (by decide) ?_
    exact s_night_l2 hg hN N 0 s _ _ _ (by omega) hn hQ
  | succ n ih =>
    intro k hk
    refine j_iload_n dX5_nightPasses_2 rfl ?_
    refine j_bipush (v := 11) dX5_nightPasses_3 (by decide) ?_
    refine j_aload_n dX5_nightPasses_5 rfl ?_
    refine j_get (v := .ref 216) dX5_nightPasses_6 fX5_7 rfl (by decide) (gS_p0 (gP_gW hg)) ?_
    refine j_sipush (v := 199) dX5_nightPasses_9 (by decide) ?_
    refine s_aldv (v := nI N) 199 dX5_nightPasses_12 (rfl) (by first | decide | omega) (hn) ?_
    refine j_imul dX5_nightPasses_13 ?_
    refine j_icmp_ge dX5_nightPasses_14 (tgt := 35) rfl (fun c1 => absurd c1 (show ¬ 11 * nI N ≤ nI k by rw [show (11 : Int32) = nI 11 from rfl, pk_mul]; exact nI_ge (by omega) (by omega))) (fun _ => ?_)
    refine j_aload_n dX5_nightPasses_17 rfl ?_
    refine j_get (v := .ref 219) dX5_nightPasses_18 fX5_19 rfl (by decide) (gS_p3 (gP_gW hg)) ?_
    refine j_iload_n dX5_nightPasses_21 rfl ?_
    refine j_aload_n dX5_nightPasses_22 rfl ?_
    refine j_get (v := .ref 216) dX5_nightPasses_23 fX5_7 rfl (by decide) (gS_p0 (gP_gW hg)) ?_
    refine j_iload_n dX5_nightPasses_26 rfl ?_
    refine s_ald k dX5_nightPasses_27 (by first | rfl | (simp only [z_n, pk_mul, nI_add]; done) | (simp only [z_n, pk_mul, nI_add]; exact pk_sub (by omega)) | (simp only [z_n, pk_mul, nI_add, pk_sub, *]; done)) (by first | decide | omega) ?_
    refine w_ast (k) dX5_nightPasses_28 (by first | rfl | (simp only [z_n, pk_mul, nI_add]; done) | (simp only [z_n, pk_mul, nI_add]; exact pk_sub (by omega)) | (simp only [z_n, pk_mul, nI_add, pk_sub, *]; done)) (by first | decide | omega) ?_
    refine j_iinc (v := nI (k + 1)) dX5_nightPasses_29 rfl z_inc (by decide) ?_
    refine j_goto dX5_nightPasses_32 (tgt := 2) rfl ?_
    rw [aMix_up]
    exact ih (k + 1) (by omega)
theorem aMix_0 {f g : Nat → Int32} : aMix f g 0 = g := by
  funext j
  simp [aMix]
theorem s_nightPasses {g : zH} (hg : gP g) {s sp : Nat → Int32} (h9 : g 219 = iA sp) {N : Nat} (hn : s 199 = nI N) (hN : N ≤ 12) : zCT mX5_nightPasses [.ref 215] 222 (gS g s) 222 (fun r h' => r = none ∧ h' = gS (gW g (aMix s sp (11 * N))) (aNight s (aMix s sp (11 * N)) N)) := by
  intro X Q hQ
  show zJ X mX5_nightPasses 222 0 [.ref 215, .null, .null, .null, .null] [] 222 (gS g s) Q
  refine j_iconst (v := 0) dX5_nightPasses_0 (by decide) ?_
  refine j_istore_n dX5_nightPasses_1 (by decide) ?_
  have := s_night_l1 (X := X) hg (s := s) (sp := sp) hn hN hQ (11 * N) 0 (by omega)
  rw [aMix_0, gW_self h9] at this
  exact this
/-- the bidders with a cold, as a set -/
def aCo (s : Nat → Int32) : Nat → Nat → Nat → Nat
  | 0, _, a => a
  | n + 1, k, a => if s (11 * k + 4) ≤ 0 then aCo s n (k + 1) a else aCo s n (k + 1) (a ||| 2 ^ k)
theorem z_or (a b : Nat) : nI a ||| nI b = nI (a ||| b) := by
  apply Int32.toBitVec_inj.mp
  show BitVec.ofNat 32 a ||| BitVec.ofNat 32 b = BitVec.ofNat 32 (a ||| b)
  simp [BitVec.ofNat_or]
theorem z_or0 {a : Nat} : nI a ||| 0 = nI a := by
  have := z_or a 0
  rw [Nat.or_zero] at this
  exact this
theorem z_shl : ∀ k : Nat, k < 12 → (1 : Int32) <<< (nI k &&& 31) = nI (2 ^ k) := by decide +kernel
theorem z_or1 {a k : Nat} (hk : k < 12) : nI a ||| ((1 : Int32) <<< (nI k &&& 31)) = nI (a ||| 2 ^ k) := by rw [z_shl k hk, z_or]
set_option maxRecDepth 4000 in
set_option maxHeartbeats 2000000 in
theorem s_colds_lp {g : zH} (hg : gP g) {s : Nat → Int32} {N : Nat} (hn : s 199 = nI N) (hN : N ≤ 12) {X : Nat × (Nat → Int32)} {Q : zQt} : ∀ (n k a : Nat), k + n = N → (∀ r h', r = some (nI (aCo s n k a)) ∧ h' = gS g s → Q r 222 h') → zJ X mX5_colds 222 4 [.ref 215, .int (nI a), .int (nI k)] [] 222 (gS g s) Q := by
  intro n
  induction n with
  | zero =>
    intro k a hk hQ
    refine j_iload_n dX5_colds_4 rfl ?_
    refine j_aload_n dX5_colds_5 rfl ?_
    refine j_get (v := .ref 216) dX5_colds_6 fX5_7 rfl (by decide) (gS_p0 hg) ?_
    refine j_sipush (v := 199) dX5_colds_9 (by decide) ?_
    refine s_ald 199 dX5_colds_12 (rfl) (by first | decide | omega) ?_
    refine j_icmp_ge dX5_colds_13 (tgt := 41) rfl (fun _ => ?_) (fun c1 => absurd (show s 199 ≤ nI k by rw [hn]; exact nI_le (by omega) (by omega)) c1)
    refine j_iload_n dX5_colds_41 rfl ?_
    refine j_iret dX5_colds_42 rfl (rfl) ?_
    exact hQ _ _ ⟨rfl, rfl⟩
  | succ n ih =>
    intro k a hk hQ
    refine j_iload_n dX5_colds_4 rfl ?_
    refine j_aload_n dX5_colds_5 rfl ?_
    refine j_get (v := .ref 216) dX5_colds_6 fX5_7 rfl (by decide) (gS_p0 hg) ?_
    refine j_sipush (v := 199) dX5_colds_9 (by decide) ?_
    refine s_ald 199 dX5_colds_12 (rfl) (by first | decide | omega) ?_
    refine j_icmp_ge dX5_colds_13 (tgt := 41) rfl (fun c1 => absurd c1 (show ¬ s 199 ≤ nI k by rw [hn]; exact nI_ge (by omega) (by omega))) (fun _ => ?_)
    refine j_iload_n dX5_colds_16 rfl ?_
    refine j_aload_n dX5_colds_17 rfl ?_
    refine j_iload_n dX5_colds_18 rfl ?_
    refine j_iconst (v := 4) dX5_colds_19 (by decide) ?_
    refine k_callV2i dX5_colds_20 vX5_colds_40 (s_of hg k 4 (by omega) (by omega)) rfl (by decide) rfl rfl (Nat.le_of_ble_eq_true rfl) ⟨rfl, rfl⟩ rfl ?_
    rintro _ _ ⟨⟨⟩, rfl⟩
    refine j_if_le dX5_colds_23 (tgt := 32) rfl (fun c2 => ?_) (fun c2 => ?_)
    · refine j_iconst (v := 0) dX5_colds_32 (by decide) ?_
      refine j_ior dX5_colds_33 ?_
      first | rw [z_or0] | rw [z_or1 (by omega)]
      refine j_istore_n dX5_colds_34 (by decide) ?_
      refine j_iinc (v := nI (k + 1)) dX5_colds_35 rfl z_inc (by decide) ?_
      refine j_goto dX5_colds_38 (tgt := 4) rfl ?_
      exact ih (k + 1) _ (by omega) (fun r h' h => hQ r h' ⟨h.1.trans (congrArg (fun v => some (nI v)) ((if_pos c2).trans (rfl) : aCo s (n + 1) k a = _).symm), h.2⟩)
    · refine j_iconst (v := 1) dX5_colds_26 (by decide) ?_
      refine j_iload_n dX5_colds_27 rfl ?_
      refine j_ishl dX5_colds_28 ?_
      refine j_goto dX5_colds_29 (tgt := 33) rfl ?_
      refine j_ior dX5_colds_33 ?_
      first | rw [z_or0] | rw [z_or1 (by omega)]
      refine j_istore_n dX5_colds_34 (by decide) ?_
      refine j_iinc (v := nI (k + 1)) dX5_colds_35 rfl z_inc (by decide) ?_
      refine j_goto dX5_colds_38 (tgt := 4) rfl ?_
      exact ih (k + 1) _ (by omega) (fun r h' h => hQ r h' ⟨h.1.trans (congrArg (fun v => some (nI v)) ((if_neg c2).trans (rfl) : aCo s (n + 1) k a = _).symm), h.2⟩)
set_option maxRecDepth 4000 in
set_option maxHeartbeats 1000000 in
theorem s_colds {g : zH} (hg : gP g) {s : Nat → Int32} {N : Nat} (hn : s 199 = nI N) (hN : N ≤ 12) : zCT mX5_colds [.ref 215] 222 (gS g s) 222 (fun r h' => r = some (nI (aCo s N 0 0)) ∧ h' = gS g s) := by
  intro X Q hQ
  show zJ X mX5_colds 222 0 [.ref 215, .null, .null] [] 222 (gS g s) Q
  refine j_iconst (v := 0) dX5_colds_0 (by decide) ?_
  refine j_istore_n dX5_colds_1 (by decide) ?_
  refine j_iconst (v := 0) dX5_colds_2 (by decide) ?_
  refine j_istore_n dX5_colds_3 (by decide) ?_
  exact s_colds_lp hg hn hN N 0 0 (by omega) hQ
def aPop : Nat → Nat → Nat
  | 0, _ => 0
  | f + 1, v => v % 2 + aPop f (v / 2)
theorem aPop_0 : ∀ f, aPop f 0 = 0
  | 0 => rfl
  | f + 1 => by
    unfold aPop
    rw [Nat.zero_div, aPop_0 f]
set_option maxRecDepth 4000 in
set_option maxHeartbeats 2000000 in
theorem s_bits_lp {h : zH} {v0 : Int32} {X : Nat × (Nat → Int32)} {Q : zQt} : ∀ (f v a : Nat), v < 2 ^ f → v < 65536 → (∀ r h', r = some (nI (a + aPop f v)) ∧ h' = h → Q r 222 h') → zJ X mX5_bits 222 4 [.int v0, .int (nI a), .int (nI v)] [] 222 h Q := by
  intro f
  induction f with
  | zero =>
    intro v a hv hv2 hQ
    have hv0 : v = 0 := by omega
    refine j_iload_n dX5_bits_4 rfl ?_
    refine j_if_le dX5_bits_5 (tgt := 21) rfl (fun _ => ?_) (fun c1 => absurd (show nI v ≤ 0 by rw [hv0]; decide) c1)
    refine j_iload_n dX5_bits_21 rfl ?_
    refine j_iret dX5_bits_22 rfl (rfl) ?_
    exact hQ _ _ ⟨rfl, rfl⟩
  | succ f ih =>
    intro v a hv hv2 hQ
    by_cases hv0 : v = 0
    · have hQ : ∀ r h', r = some (nI (a + 0)) ∧ h' = h → Q r 222 h' := by
        have := hQ
        rw [hv0, aPop_0] at this
        exact this
      refine j_iload_n dX5_bits_4 rfl ?_
      refine j_if_le dX5_bits_5 (tgt := 21) rfl (fun _ => ?_) (fun c1 => absurd (show nI v ≤ 0 by rw [hv0]; decide) c1)
      refine j_iload_n dX5_bits_21 rfl ?_
      refine j_iret dX5_bits_22 rfl (rfl) ?_
      exact hQ _ _ ⟨by rw [Nat.add_zero], rfl⟩
    · have hv : v < 2 * 2 ^ f := by rw [← Nat.pow_succ']; exact hv
      refine j_iload_n dX5_bits_4 rfl ?_
      refine j_if_le dX5_bits_5 (tgt := 21) rfl (fun c1 => absurd c1 (nI_nle (by omega) (by omega))) (fun _ => ?_)
      refine j_iload_n dX5_bits_8 rfl ?_
      refine j_iload_n dX5_bits_9 rfl ?_
      refine j_iconst (v := 2) dX5_bits_10 (by decide) ?_
      refine j_irem dX5_bits_11 (by decide) ?_
      refine j_iadd dX5_bits_12 ?_
      rw [show nI v - nI v / 2 * 2 = nI (v % 2) from pk_rem (a := v) (d := 2) (by omega) (by decide) (by decide), nI_add]
      refine j_istore_n dX5_bits_13 (by decide) ?_
      refine j_iload_n dX5_bits_14 rfl ?_
      refine j_iconst (v := 2) dX5_bits_15 (by decide) ?_
      refine j_idiv dX5_bits_16 (by decide) ?_
      rw [show nI v / 2 = nI (v / 2) from pk_div (a := v) (d := 2) (by omega) (by decide) (by decide)]
      refine j_istore_n dX5_bits_17 (by decide) ?_
      refine j_goto dX5_bits_18 (tgt := 4) rfl ?_
      refine ih (v / 2) (a + v % 2) (by omega) (by omega) (fun r h' q => hQ r h' ⟨?_, q.2⟩)
      rw [q.1, Nat.add_assoc]
      rfl
set_option maxRecDepth 4000 in
set_option maxHeartbeats 1000000 in
theorem s_bits {h : zH} (v : Nat) (hv : v < 4096) : zCT mX5_bits [.int (nI v)] 222 (h) 222 (fun r h' => r = some (nI (aPop 12 v)) ∧ h' = h) := by
  intro X Q hQ
  show zJ X mX5_bits 222 0 [.int (nI v), .null, .null] [] 222 (h) Q
  refine j_iconst (v := 0) dX5_bits_0 (by decide) ?_
  refine j_istore_n dX5_bits_1 (by decide) ?_
  refine j_iload_n dX5_bits_2 rfl ?_
  refine j_istore_n dX5_bits_3 (by decide) ?_
  exact s_bits_lp 12 v 0 hv (by omega) (fun r h' q => hQ r h' ⟨by rw [q.1, Nat.zero_add], q.2⟩)
theorem aCo_lt {s : Nat → Int32} : ∀ n k a : Nat, k + n ≤ 12 → a < 4096 → aCo s n k a < 4096
  | 0, _, _, _, h => h
  | n + 1, k, a, hk, h => by
    unfold aCo
    split
    · exact aCo_lt n (k + 1) a (by omega) h
    · refine aCo_lt n (k + 1) _ (by omega) ?_
      exact Nat.or_lt_two_pow (n := 12) h (Nat.pow_lt_pow_right (by decide) (by omega))
def aNgt (s sp : Nat → Int32) (N : Nat) : Int32 × Bool × (Nat → Int32) := if s 148 = 1 then (-1000002, false, s) else if s 209 = 999 then (-1000003, false, s) else (nI (aPop 12 (aCo (aNight s sp N) N 0 0)), true, aNight s sp N)
theorem aNl_n {sp : Nat → Int32} {N : Nat} {j : Nat} : ∀ (n k : Nat) (s : Nat → Int32), (∀ i, k ≤ i → i < k + n → j ≠ 11 * i + 4) → aNl sp N n k s j = s j
  | 0, _, _, _ => rfl
  | n + 1, k, s, h => by
    unfold aNl
    rw [aNl_n n (k + 1) _ (fun i h1 h2 => h i (by omega) (by omega)), upd_n (h k (by omega) (by omega))]
theorem aNight_199 {s sp : Nat → Int32} {N : Nat} (hN : N ≤ 12) : aNight s sp N 199 = s 199 := by
  unfold aNight aNe
  rw [upd_n (by omega), aNl_n N 0 s (fun i _ _ => by omega)]
set_option maxRecDepth 4000 in
set_option maxHeartbeats 1000000 in
theorem s_night {g g' : zH} {s : Nat → Int32} (hg : gP g) (hg2 : gP g') (hch : zCh g g' s) {N : Nat} (hn : s 199 = nI N) (hN : N ≤ 12) {sp : Nat → Int32} (h9 : g' 219 = iA sp) : zCT mX5_night [.ref 215] 222 (gS g s) 222 (fun r h' => r = some (aNgt s (aMix s sp (11 * N)) N).1 ∧ h' = gS (cond (aNgt s (aMix s sp (11 * N)) N).2.1 (gW g' (aMix s sp (11 * N))) g) (aNgt s (aMix s sp (11 * N)) N).2.2) := by
  intro X Q hQ
  show zJ X mX5_night 222 0 [.ref 215] [] 222 (gS g s) Q
  refine j_aload_n dX5_night_0 rfl ?_
  refine j_get (v := .ref 216) dX5_night_1 fX5_7 rfl (by decide) (gS_p0 hg) ?_
  refine j_sipush (v := 148) dX5_night_4 (by decide) ?_
  refine s_ald 148 dX5_night_7 (rfl) (by first | decide | omega) ?_
  refine j_iconst (v := 1) dX5_night_8 (by decide) ?_
  refine j_icmp_ne dX5_night_9 (tgt := 15) rfl (fun c1 => ?_) (fun c1 => ?_)
  · refine j_aload_n dX5_night_15 rfl ?_
    refine j_get (v := .ref 216) dX5_night_16 fX5_7 rfl (by decide) (gS_p0 hg) ?_
    refine j_sipush (v := 209) dX5_night_19 (by decide) ?_
    refine s_ald 209 dX5_night_22 (rfl) (by first | decide | omega) ?_
    refine j_sipush (v := 999) dX5_night_23 (by decide) ?_
    refine j_icmp_ne dX5_night_26 (tgt := 32) rfl (fun c2 => ?_) (fun c2 => ?_)
    · refine j_aload_n dX5_night_32 rfl ?_
      refine k_callV0v dX5_night_33 vX5_night_84 (hch) rfl (by decide)  (Nat.le_of_ble_eq_true rfl) ⟨rfl, rfl⟩ rfl ?_
      rintro _ ⟨-, rfl⟩
      refine j_aload_n dX5_night_36 rfl ?_
      refine k_callV0v dX5_night_37 vX5_night_105 (s_nightPasses hg2 h9 hn hN) rfl (by decide)  (Nat.le_of_ble_eq_true rfl) ⟨rfl, rfl⟩ rfl ?_
      rintro _ ⟨-, rfl⟩
      refine j_aload_n dX5_night_40 rfl ?_
      refine k_callV0i dX5_night_41 vX5_night_108 (s_colds (gP_gW hg2) ((aNight_199 hN).trans hn) hN) rfl (by decide)  (Nat.le_of_ble_eq_true rfl) ⟨rfl, rfl⟩ rfl ?_
      rintro _ _ ⟨⟨⟩, rfl⟩
      refine k_callS1i dX5_night_44 vX5_night_111 (s_bits (aCo (aNight s (aMix s sp (11 * N)) N) N 0 0) (aCo_lt _ _ _ (by omega) (by omega))) rfl (Nat.le_of_ble_eq_true rfl) ⟨rfl, rfl⟩ rfl ?_
      rintro _ _ ⟨⟨⟩, rfl⟩
      refine j_iret dX5_night_47 rfl (rfl) ?_
      exact hQ _ _ (z_pc (g := g) (g' := gW g' (aMix s sp (11 * N))) (b := true) ((if_neg c1).trans ((if_neg c2).trans (rfl))))
    · refine j_ldc (v := (-1000003)) dX5_night_29 cX5_83 ?_
      refine j_iret dX5_night_31 rfl (rfl) ?_
      exact hQ _ _ (z_pc (g := g) (g' := gW g' (aMix s sp (11 * N))) (b := false) ((if_neg c1).trans ((if_pos c2).trans (rfl))))
  · refine j_ldc (v := (-1000002)) dX5_night_12 cX5_82 ?_
    refine j_iret dX5_night_14 rfl (rfl) ?_
    exact hQ _ _ (z_pc (g := g) (g' := gW g' (aMix s sp (11 * N))) (b := false) ((if_pos c1).trans (rfl)))
