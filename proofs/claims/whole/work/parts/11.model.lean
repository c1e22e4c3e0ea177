abbrev iA (f : Nat → Int32) : Nat → Value := fun k => .int (f k)
theorem arrV_congr {cA : ClassId} {n : Nat} {f g : Nat → Value} (h : ∀ k, k < n → f k = g k) : arrV cA n f = arrV cA n g := by
  unfold arrV
  congr 2
  funext j
  exact h j.val j.isLt
/-- what lies outside an array says nothing -/
theorem j_same {X : Nat × (Nat → Int32)} {M : zM} {n0 pc : Nat} {ls st : List Value} {nx : Nat} {h h' : zH} {Q : zQt} (he : ∀ a, a < nx → ∀ k, k < zZ a → h a k = h' a k) (kk : zJ X M n0 pc ls st nx h' Q) : zJ X M n0 pc ls st nx h Q := by
  intro p l e R s m args below meth c D cA b z H locs Qm la C hX hll hw hS hend
  refine kk p l e R s m args below meth c D cA b z H locs Qm la C hX hll ⟨hw.1, hw.2.1, fun k q hq => ?_⟩ hS hend
  obtain ⟨hk, rfl⟩ := zW_of hq
  have h1 := hw.2.2 k _ (zW_get (h := h) hk)
  have h2 := he k hk
  unfold zZ at h2
  by_cases hc : (zS k).1 < 10
  · rw [if_pos hc] at h2
    have e : zE cA b z k (h' k) = zE cA b z k (h k) := by
      rw [zE_obj rfl hc, zE_obj rfl hc]
      congr 2
      apply List.map_congr_left
      intro i hi
      rw [h2 i (List.mem_range.mp hi)]
    rw [e]
    exact h1
  · rw [if_neg hc] at h2
    by_cases hc2 : (zS k).1 < 12
    · have e0 : zS k = (10 + ((zS k).1 - 10), (zS k).2) := by
        apply Prod.ext
        · show (zS k).1 = 10 + ((zS k).1 - 10)
          omega
        · rfl
      rw [zE_num e0 (by omega)] at h1 ⊢
      show H[z + k]? = some (vp_cell _ _)
      have h3 : H[z + k]? = some (vp_cell _ _) := h1
      rw [h3, vp_cell_i, vp_cell_i]
      exact congrArg some (arrV_congr (fun i hi => by rw [h2 i hi]))
    · have e0 : zS k = (12 + ((zS k).1 - 12), (zS k).2) := by
        apply Prod.ext
        · show (zS k).1 = 12 + ((zS k).1 - 12)
          omega
        · rfl
      rw [zE_arr e0] at h1 ⊢
      show H[z + k]? = some (vp_cell _ _)
      have h3 : H[z + k]? = some (vp_cell _ _) := h1
      rw [h3, vp_cell_q, vp_cell_q]
      exact congrArg some (arrV_congr (fun i hi => by rw [h2 i hi]))
/-- the first k of f, the rest of g -/
def aMix (f g : Nat → Int32) (k : Nat) : Nat → Int32 := fun j => if j < k then f j else g j
theorem aMix_up {f g : Nat → Int32} {k : Nat} : upd (aMix f g k) k (f k) = aMix f g (k + 1) := by
  funext j
  unfold upd aMix
  by_cases h : j = k
  · subst h
    rw [if_pos rfl, if_pos (by omega)]
  · rw [if_neg h]
    by_cases h2 : j < k
    · rw [if_pos h2, if_pos (by omega)]
    · rw [if_neg h2, if_neg (by omega)]
theorem iA_up {f : Nat → Int32} {j : Nat} {x : Int32} : va_up (iA f) j (.int x) = iA (upd f j x) := by
  funext k
  by_cases hk : k = j <;> simp [va_up, upd, hk]
theorem up_up {α : Type} {h : Nat → α} {a : Nat} {f g : α} : va_up (va_up h a f) a g = va_up h a g := by
  funext b
  by_cases hb : b = a <;> simp [va_up, hb]
theorem up_sw {h : zH} {a b : Nat} {f g : Nat → Value} (hn : a ≠ b) : va_up (va_up h a f) b g = va_up (va_up h b g) a f := by
  funext c
  by_cases h1 : c = a
  · subst h1
    simp [va_up, hn]
  · by_cases h2 : c = b
    · subst h2
      simp [va_up, Ne.symm hn]
    · simp [va_up, h1, h2]
theorem gS_upn {g : zH} {s : Nat → Int32} {a : Nat} {F : Nat → Value} (hn : a ≠ 216) : va_up (gS g s) a F = gS (va_up g a F) s := up_sw (Ne.symm hn)
theorem gS_s {g : zH} {s t : Nat → Int32} : va_up (gS g s) 216 (iA t) = gS g t := up_up
theorem s_copies_lp {h : zH} {a0 a1 : Nat} {f f1 : Nat → Int32} (h0 : h a0 = iA f) (hn : a0 ≠ a1) (hs0 : zS a0 = (10, 215)) (hs1 : zS a1 = (10, 215)) (ha0 : a0 < 222) (ha1 : a1 < 222) {X : Nat × (Nat → Int32)} {Q : zQt} (hQ : Q none 222 (va_up h a1 (iA f))) : ∀ (n k : Nat), k + n = 215 → zJ X mX5_copies 222 2 [.ref a0, .ref a1, .int (nI k)] [] 222 (va_up h a1 (iA (aMix f f1 k))) Q := by
  intro n
  induction n with
  | zero =>
    intro k hk
    obtain rfl : k = 215 := by omega
    refine j_same (h' := va_up h a1 (iA f)) (fun a ha k hk => ?_) ?_
    · by_cases q : a = a1
      · subst q
        rw [va_up_self, va_up_self]
        unfold zZ at hk
        rw [hs1, if_neg (by decide)] at hk
        have hk : k < 215 := hk
        simp [aMix, hk]
      · rw [va_up_ne _ _ q, va_up_ne _ _ q]
    refine j_iload_n dX5_copies_2 rfl ?_
    refine j_sipush (v := nI 215) dX5_copies_3 (by decide) ?_
    refine j_icmp_ge dX5_copies_6 (tgt := 21) rfl (fun _ => ?_) (fun c => absurd (Int32.le_refl _) c)
    exact j_vret dX5_copies_21 rfl hQ
  | succ n ih =>
    intro k hk
    refine j_iload_n dX5_copies_2 rfl ?_
    refine j_sipush (v := nI 215) dX5_copies_3 (by decide) ?_
    refine j_icmp_ge dX5_copies_6 (tgt := 21) rfl (fun c => absurd c (nI_ge (by omega) (by omega))) (fun _ => ?_)
    refine j_aload_n dX5_copies_9 rfl ?_
    refine j_iload_n dX5_copies_10 rfl ?_
    refine j_aload_n dX5_copies_11 rfl ?_
    refine j_iload_n dX5_copies_12 rfl ?_
    refine j_iald (x := f k) dX5_copies_13 hs0 ha0 (z_vin rfl (by omega) (by omega)) (by rw [va_up_ne _ _ hn, h0, z_cl (by omega)]; rfl) ?_
    refine j_iast dX5_copies_14 hs1 ha1 (z_vin rfl (by omega) (by omega)) ?_
    rw [va_up_self, z_cl (by omega), iA_up, up_up, aMix_up]
    refine j_iinc (v := nI (k + 1)) dX5_copies_15 rfl z_inc (by decide) ?_
    refine j_goto dX5_copies_18 (tgt := 2) rfl ?_
    exact ih (k + 1) (by omega)
theorem s_copies {h : zH} {a0 a1 : Nat} {f f1 : Nat → Int32} (h0 : h a0 = iA f) (h1 : h a1 = iA f1) (hn : a0 ≠ a1) (hs0 : zS a0 = (10, 215)) (hs1 : zS a1 = (10, 215)) (ha0 : a0 < 222) (ha1 : a1 < 222) : zCT mX5_copies [.ref a0, .ref a1] 222 h 222 (fun r h' => r = none ∧ h' = va_up h a1 (iA f)) := by
  intro X Q hQ
  show zJ X mX5_copies 222 0 [.ref a0, .ref a1, .null] [] 222 h Q
  refine j_iconst (v := 0) dX5_copies_0 (by decide) ?_
  refine j_istore_n dX5_copies_1 (by decide) ?_
  have e : h = va_up h a1 (iA (aMix f f1 0)) := by
    funext a
    by_cases q : a = a1
    · subst q
      rw [va_up_self, h1]
      funext k
      simp [aMix]
    · rw [va_up_ne _ _ q]
  have := s_copies_lp (X := X) (f1 := f1) h0 hn hs0 hs1 ha0 ha1 (hQ none _ ⟨rfl, rfl⟩) 215 0 (by omega)
  rw [← e] at this
  exact this
/-- the check's history: pa its array, p how many -/
def gH (g : zH) (pa : Nat → Int32) (p : Nat) : zH := va_up (va_up g 217 (iA pa)) 215 (va_up (g 215) 4 (.int (nI p)))
theorem gP_gH {g : zH} {pa : Nat → Int32} {p : Nat} (hg : gP g) : gP (gH g pa p) := by
  unfold gP gH
  rw [va_up_self]
  exact hg
theorem gH_4 {g : zH} {pa s : Nat → Int32} {p : Nat} : gS (gH g pa p) s 215 4 = .int (nI p) := by
  rw [gS_ne (by decide)]
  unfold gH
  rw [va_up_self, va_up_self]
theorem gH_k {g : zH} {pa s : Nat → Int32} {p k : Nat} (hk : k ≠ 4) : gS (gH g pa p) s 215 k = g 215 k := by
  rw [gS_ne (by decide)]
  unfold gH
  rw [va_up_self, va_up_ne _ _ hk]
theorem gH_217 {g : zH} {pa s : Nat → Int32} {p : Nat} : gS (gH g pa p) s 217 = iA pa := by
  rw [gS_ne (by decide)]
  unfold gH
  rw [va_up_ne _ _ (by decide), va_up_self]
theorem gH_put4 {g : zH} {pa s : Nat → Int32} {p q : Nat} : va_up (gS (gH g pa p) s) 215 (va_up (gS (gH g pa p) s 215) 4 (.int (nI q))) = gS (gH g pa q) s := by
  rw [gS_upn (by decide), gS_ne (by decide)]
  congr 1
  unfold gH
  rw [va_up_self, up_up, up_up]
theorem gH_put217 {g : zH} {pa s : Nat → Int32} {p j : Nat} {x : Int32} : va_up (gS (gH g pa p) s) 217 (va_up (gS (gH g pa p) s 217) j (.int x)) = gS (gH g (upd pa j x) p) s := by
  rw [gH_217, iA_up, gS_upn (by decide)]
  congr 1
  unfold gH
  rw [up_sw (a := 215) (b := 217) (by decide), up_up]
section ZH
variable {X : Nat × (Nat → Int32)} {M : zM} {pc : Nat} {ls st : List Value} {h : zH} {Q : zQt}
theorem h_ald {g : zH} {pa s : Nat → Int32} {p : Nat} {i : Int32} (j : Nat) (hd : decode (zMb M) pc = .ok (.iaload, 1)) (hi : i = nI j) (hj : j < 860) (kk : zJ X M 222 (pc + 1) ls (.int (pa j) :: st) 222 (gS (gH g pa p) s) Q) : zJ X M 222 pc ls (.int i :: .ref 217 :: st) 222 (gS (gH g pa p) s) Q :=
  j_iald (x := pa j) hd (n := 860) rfl (by decide) (z_vin hi hj (by omega)) (by rw [hi, z_cl (by omega), gH_217]; rfl) kk
theorem h_ast {g : zH} {pa s : Nat → Int32} {p : Nat} {i x : Int32} (j : Nat) (hd : decode (zMb M) pc = .ok (.iastore, 1)) (hi : i = nI j) (hj : j < 860) (kk : zJ X M 222 (pc + 1) ls st 222 (gS (gH g (upd pa j x) p) s) Q) : zJ X M 222 pc ls (.int x :: .int i :: .ref 217 :: st) 222 (gS (gH g pa p) s) Q :=
  j_iast hd (n := 860) rfl (by decide) (z_vin hi hj (by omega)) (by rw [hi, z_cl (by omega), gH_put217]; exact kk)
theorem h_put4 {g : zH} {pa s : Nat → Int32} {p : Nat} {x : Int32} (q idx : Nat) (hd : decode (zMb M) pc = .ok (.putfield idx, 3)) (hl : zLF (zMo M) idx 5 4 .int false) (hx : x = nI q) (kk : zJ X M 222 (pc + 3) ls st 222 (gS (gH g pa q) s) Q) : zJ X M 222 pc ls (.int x :: .ref 215 :: st) 222 (gS (gH g pa p) s) Q :=
  j_put hd hl rfl (by decide) rfl (by rw [hx, gH_put4]; exact kk)
end ZH
/-- s put at place q of the history, its first k cells -/
def aPut (pa : Nat → Int32) (q : Nat) (s : Nat → Int32) (k : Nat) : Nat → Int32 := fun j => if 215 * q ≤ j ∧ j < 215 * q + k then s (j - 215 * q) else pa j
theorem aPut_0 {pa s : Nat → Int32} {q : Nat} : aPut pa q s 0 = pa := by
  funext j
  unfold aPut
  rw [if_neg (by omega)]
theorem aPut_up {pa s : Nat → Int32} {q k : Nat} : upd (aPut pa q s k) (215 * q + k) (s k) = aPut pa q s (k + 1) := by
  funext j
  unfold upd aPut
  by_cases h : j = 215 * q + k
  · subst h
    rw [if_pos rfl, if_pos (by omega)]
    congr 1
    omega
  · rw [if_neg h]
    by_cases h2 : 215 * q ≤ j ∧ j < 215 * q + k
    · rw [if_pos h2, if_pos (by omega)]
    · rw [if_neg h2, if_neg (by omega)]
/-- the history's oldest goes -/
def aSh (pa : Nat → Int32) (k : Nat) : Nat → Int32 := fun j => if j < k then pa (j + 215) else pa j
theorem aSh_0 {pa : Nat → Int32} : aSh pa 0 = pa := by
  funext j
  simp [aSh]
theorem aSh_up {pa : Nat → Int32} {k : Nat} : upd (aSh pa k) k (aSh pa k (k + 215)) = aSh pa (k + 1) := by
  funext j
  unfold upd aSh
  by_cases h : j = k
  · subst h
    rw [if_pos rfl, if_neg (by omega), if_pos (by omega)]
  · rw [if_neg h]
    by_cases h2 : j < k
    · rw [if_pos h2, if_pos (by omega)]
    · rw [if_neg h2, if_neg (by omega)]
def aPa (pa : Nat → Int32) (p : Nat) (s : Nat → Int32) : Nat → Int32 := if p = 4 then aPut (aSh pa 645) 3 s 215 else aPut pa p s 215
def aPn (p : Nat) : Nat := if p = 4 then 4 else p + 1
set_option maxRecDepth 4000 in
set_option maxHeartbeats 2000000 in
theorem s_changes_lp {g : zH} (hg : gP g) (hr : g 215 5 = .int 0) {pa s : Nat → Int32} {q : Nat} (hq : q < 4) {X : Nat × (Nat → Int32)} {Q : zQt} (hQ : Q none 222 (gS (gH g (aPut pa q s 215) (q + 1)) s)) : ∀ (n k : Nat), k + n = 215 → zJ X mX5_changes 222 59 [.ref 215, .int (nI k)] [] 222 (gS (gH g (aPut pa q s k) q) s) Q := by
  intro n
  induction n with
  | zero =>
    intro k hk
    obtain rfl : k = 215 := by omega
    refine j_iload_n dX5_changes_59 rfl ?_
    refine j_sipush (v := 215) dX5_changes_60 (by decide) ?_
    refine j_icmp_ge dX5_changes_63 (tgt := 93) rfl (fun _ => ?_) (fun c1 => absurd (show nI 215 ≤ 215 by decide) c1)
    refine j_aload_n dX5_changes_93 rfl ?_
    refine j_dup dX5_changes_94 rfl ?_
    refine j_get (v := .int (nI q)) dX5_changes_95 fX5_32 rfl (by decide) gH_4 ?_
    refine j_iconst (v := 1) dX5_changes_98 (by decide) ?_
    refine j_iadd dX5_changes_99 ?_
    refine h_put4 ((q + 1)) 32 dX5_changes_100 fX5_32 (by first | rfl | (simp only [z_n, pk_mul, nI_add]; done) | (simp only [z_n, pk_mul, nI_add]; exact pk_sub (by omega)) | (simp only [z_n, pk_mul, nI_add, pk_sub, *]; done)) ?_
    refine j_vret dX5_changes_103 rfl ?_
    exact hQ
  | succ n ih =>
    intro k hk
    refine j_iload_n dX5_changes_59 rfl ?_
    refine j_sipush (v := 215) dX5_changes_60 (by decide) ?_
    refine j_icmp_ge dX5_changes_63 (tgt := 93) rfl (fun c1 => absurd c1 (show ¬ nI 215 ≤ nI k from nI_ge (by omega) (by omega))) (fun _ => ?_)
    refine j_aload_n dX5_changes_66 rfl ?_
    refine j_get (v := .ref 217) dX5_changes_67 fX5_13 rfl (by decide) (gS_p1 (gP_gH hg)) ?_
    refine j_sipush (v := 215) dX5_changes_70 (by decide) ?_
    refine j_aload_n dX5_changes_73 rfl ?_
    refine j_get (v := .int (nI q)) dX5_changes_74 fX5_32 rfl (by decide) gH_4 ?_
    refine j_imul dX5_changes_77 ?_
    refine j_iload_n dX5_changes_78 rfl ?_
    refine j_iadd dX5_changes_79 ?_
    refine j_aload_n dX5_changes_80 rfl ?_
    refine j_get (v := .ref 216) dX5_changes_81 fX5_7 rfl (by decide) (gS_p0 (gP_gH hg)) ?_
    refine j_iload_n dX5_changes_84 rfl ?_
    refine s_ald k dX5_changes_85 (by first | rfl | (simp only [z_n, pk_mul, nI_add]; done) | (simp only [z_n, pk_mul, nI_add]; exact pk_sub (by omega)) | (simp only [z_n, pk_mul, nI_add, pk_sub, *]; done)) (by first | decide | omega) ?_
    refine h_ast (((215 * q) + k)) dX5_changes_86 (by first | rfl | (simp only [z_n, pk_mul, nI_add]; done) | (simp only [z_n, pk_mul, nI_add]; exact pk_sub (by omega)) | (simp only [z_n, pk_mul, nI_add, pk_sub, *]; done)) (by first | decide | omega) ?_
    refine j_iinc (v := nI (k + 1)) dX5_changes_87 rfl z_inc (by decide) ?_
    refine j_goto dX5_changes_90 (tgt := 59) rfl ?_
    rw [aPut_up]
    exact ih (k + 1) (by omega)
set_option maxRecDepth 4000 in
set_option maxHeartbeats 2000000 in
theorem s_changes_l4 {g : zH} (hg : gP g) (hr : g 215 5 = .int 0) {pa s : Nat → Int32} {X : Nat × (Nat → Int32)} {Q : zQt} (hQ : Q none 222 (gS (gH g (aPut (aSh pa 645) 3 s 215) 4) s)) : ∀ (n k : Nat), k + n = 645 → zJ X mX5_changes 222 18 [.ref 215, .int (nI k)] [] 222 (gS (gH g (aSh pa k) 4) s) Q := by
  intro n
  induction n with
  | zero =>
    intro k hk
    obtain rfl : k = 645 := by omega
    refine j_iload_n dX5_changes_18 rfl ?_
    refine j_sipush (v := 645) dX5_changes_19 (by decide) ?_
    refine j_icmp_ge dX5_changes_22 (tgt := 47) rfl (fun _ => ?_) (fun c1 => absurd (show nI 645 ≤ 645 by decide) c1)
    refine j_aload_n dX5_changes_47 rfl ?_
    refine j_dup dX5_changes_48 rfl ?_
    refine j_get (v := .int (nI 4)) dX5_changes_49 fX5_32 rfl (by decide) gH_4 ?_
    refine j_iconst (v := 1) dX5_changes_52 (by decide) ?_
    refine j_isub dX5_changes_53 ?_
    refine h_put4 ((4 - 1)) 32 dX5_changes_54 fX5_32 (by first | rfl | (simp only [z_n, pk_mul, nI_add]; done) | (simp only [z_n, pk_mul, nI_add]; exact pk_sub (by omega)) | (simp only [z_n, pk_mul, nI_add, pk_sub, *]; done)) ?_
    refine j_iconst (v := 0) dX5_changes_57 (by decide) ?_
    refine j_istore_n dX5_changes_58 (by decide) ?_
    rw [← aPut_0 (pa := aSh pa 645) (q := 3) (s := s)]
    exact s_changes_lp hg hr (by omega) hQ 215 0 (by omega)
  | succ n ih =>
    intro k hk
    refine j_iload_n dX5_changes_18 rfl ?_
    refine j_sipush (v := 645) dX5_changes_19 (by decide) ?_
    refine j_icmp_ge dX5_changes_22 (tgt := 47) rfl (fun c1 => absurd c1 (show ¬ nI 645 ≤ nI k from nI_ge (by omega) (by omega))) (fun _ => ?_)
    refine j_aload_n dX5_changes_25 rfl ?_
    refine j_get (v := .ref 217) dX5_changes_26 fX5_13 rfl (by decide) (gS_p1 (gP_gH hg)) ?_
    refine j_iload_n dX5_changes_29 rfl ?_
    refine j_aload_n dX5_changes_30 rfl ?_
    refine j_get (v := .ref 217) dX5_changes_31 fX5_13 rfl (by decide) (gS_p1 (gP_gH hg)) ?_
    refine j_iload_n dX5_changes_34 rfl ?_
    refine j_sipush (v := 215) dX5_changes_35 (by decide) ?_
    refine j_iadd dX5_changes_38 ?_
    refine h_ald ((k + 215)) dX5_changes_39 (by first | rfl | (simp only [z_n, pk_mul, nI_add]; done) | (simp only [z_n, pk_mul, nI_add]; exact pk_sub (by omega)) | (simp only [z_n, pk_mul, nI_add, pk_sub, *]; done)) (by first | decide | omega) ?_
    refine h_ast (k) dX5_changes_40 (by first | rfl | (simp only [z_n, pk_mul, nI_add]; done) | (simp only [z_n, pk_mul, nI_add]; exact pk_sub (by omega)) | (simp only [z_n, pk_mul, nI_add, pk_sub, *]; done)) (by first | decide | omega) ?_
    refine j_iinc (v := nI (k + 1)) dX5_changes_41 rfl z_inc (by decide) ?_
    refine j_goto dX5_changes_44 (tgt := 18) rfl ?_
    rw [aSh_up]
    exact ih (k + 1) (by omega)
set_option maxRecDepth 4000 in
set_option maxHeartbeats 2000000 in
theorem s_changes {g : zH} (hg : gP g) (hr : g 215 5 = .int 0) {pa s : Nat → Int32} {p : Nat} (hp : p ≤ 4) : zCT mX5_changes [.ref 215] 222 (gS (gH g pa p) s) 222 (fun r h' => r = none ∧ h' = gS (gH g (aPa pa p s) (aPn p)) s) := by
  intro X Q hQ
  show zJ X mX5_changes 222 0 [.ref 215, .null] [] 222 (gS (gH g pa p) s) Q
  refine j_aload_n dX5_changes_0 rfl ?_
  refine j_get (v := .int 0) dX5_changes_1 fX5_28 rfl (by decide) ((gH_k (by decide)).trans hr) ?_
  refine j_if_eq dX5_changes_4 (tgt := 8) rfl (fun _ => ?_) (fun c1 => absurd (rfl : (0 : Int32) = 0) c1)
  refine j_aload_n dX5_changes_8 rfl ?_
  refine j_get (v := .int (nI p)) dX5_changes_9 fX5_32 rfl (by decide) gH_4 ?_
  refine j_iconst (v := 4) dX5_changes_12 (by decide) ?_
  refine j_icmp_ne dX5_changes_13 (tgt := 57) rfl (fun c2 => ?_) (fun c2 => ?_)
  · refine j_iconst (v := 0) dX5_changes_57 (by decide) ?_
    refine j_istore_n dX5_changes_58 (by decide) ?_
    have hp4 : p ≠ 4 := fun q => ‹¬ nI p = 4› (by rw [q]; rfl)
    rw [← aPut_0 (pa := pa) (q := p) (s := s)]
    exact s_changes_lp hg hr (by omega) (by have := hQ none _ ⟨rfl, rfl⟩; unfold aPa aPn at this; rw [if_neg hp4, if_neg hp4] at this; exact this) 215 0 (by omega)
  · obtain rfl : p = 4 := ((nI_eq (by omega) (by omega)).mp ‹nI p = 4›)
    refine j_iconst (v := 0) dX5_changes_16 (by decide) ?_
    refine j_istore_n dX5_changes_17 (by decide) ?_
    rw [← aSh_0 (pa := pa)]
    exact s_changes_l4 hg hr (hQ none _ ⟨rfl, rfl⟩) 645 0 (by omega)
/-- while orders are done nothing is recorded -/
theorem s_changes_run {g : zH} {s : Nat → Int32} (hr : g 215 5 = .int 1) : zCT mX5_changes [.ref 215] 222 (gS g s) 222 (fun r h' => r = none ∧ h' = gS g s) := by
  intro X Q hQ
  show zJ X mX5_changes 222 0 [.ref 215, .null] [] 222 (gS g s) Q
  refine j_aload_n dX5_changes_0 rfl ?_
  refine j_get (v := .int 1) dX5_changes_1 fX5_28 rfl (by decide) (by rw [gS_ne (by decide)]; exact hr) ?_
  refine j_if_eq dX5_changes_4 (tgt := 8) rfl (fun c => absurd c (by decide)) (fun _ => ?_)
  exact j_vret dX5_changes_7 rfl (hQ _ _ ⟨rfl, rfl⟩)
