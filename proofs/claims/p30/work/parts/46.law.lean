section L1
/-- what the law reads of the script -/
def lCell (X : Nat × (Nat → Int32)) (e : Nat) : Int32 := if e < X.1 then X.2 e else 40503 * (nI e + 3)
set_option maxRecDepth 4000 in
theorem s_cell {X : Nat × (Nat → Int32)} {e nx : Nat} {h : zH} (he : e < 64) (hL : X.1 ≤ 260) : ∀ Q : zQt, Q (some (lCell X e)) nx h → zJ X mL_cell nx 0 ([.ref 1000, .int (nI e)] ++ List.replicate (zMl mL_cell - 2) .null) [] nx h Q := by
  intro Q hQ
  show zJ X mL_cell nx 0 [.ref 1000, .int (nI e)] [] nx h Q
  refine j_iload_n dL_cell_0 rfl ?_
  refine j_aload_n dL_cell_1 rfl ?_
  refine j_slen dL_cell_2 (Or.inr rfl) ?_
  refine j_icmp_ge dL_cell_3 (tgt := 12) rfl (fun c1 => ?_) (fun c1 => ?_)
  · have h1 : ¬ e < X.1 := fun q => nI_ge q (by omega) c1
    refine j_ldc (v := (40503)) dL_cell_12 cL_7 ?_
    refine j_iload_n dL_cell_14 rfl ?_
    refine j_iconst (v := 3) dL_cell_15 (by decide) ?_
    refine j_iadd dL_cell_16 ?_
    refine j_imul dL_cell_17 ?_
    refine j_iret dL_cell_18 rfl rfl ?_
    have e1 : lCell X e = 40503 * (nI e + 3) := if_neg h1
    rw [e1] at hQ
    exact hQ
  · have h1 : e < X.1 := Nat.lt_of_not_le (fun q => c1 (nI_le q (by omega)))
    refine j_aload_n dL_cell_6 rfl ?_
    refine j_iload_n dL_cell_7 rfl ?_
    refine j_sld (x := X.2 e) dL_cell_8 (Or.inr rfl) (z_vin rfl h1 (by omega)) (by rw [z_cl (by omega)]) ?_
    refine j_goto dL_cell_9 (tgt := 18) rfl ?_
    refine j_iret dL_cell_18 rfl rfl ?_
    have e1 : lCell X e = X.2 e := if_pos h1
    rw [e1] at hQ
    exact hQ
set_option maxRecDepth 4000 in
set_option maxHeartbeats 2000000 in
theorem s_loud {g : zH} {w : Nat → Int32} {nz : Nat} (hz : 6 ≤ nz) {k : Nat} (hk : k < 12) : zCT mL_loud [.ref 215, .ref 216, .int (nI k)] (215 + nz) (gV g w) (215 + nz) (fun r h' => r = some (aLoud w k) ∧ h' = gV g w) := by
  intro X Q hQ
  show zJ X mL_loud (215 + nz) 0 [.ref 215, .ref 216, .int (nI k)] [] (215 + nz) (gV g w) Q
  refine j_aload_n dL_loud_0 rfl ?_
  refine j_iconst (v := 5) dL_loud_1 (by decide) ?_
  refine j_iload_n dL_loud_2 rfl ?_
  refine j_imul dL_loud_3 ?_
  refine j_iconst (v := 3) dL_loud_4 (by decide) ?_
  refine j_iadd dL_loud_5 ?_
  refine l_ld (a := 215) (i := ((5 * k) + 3)) (11 * k + 3) dL_loud_6 (by decide) rfl hz (by first | rfl | (simp only [z_n, pk_mul, nI_add]; done) | (simp only [z_n, pk_mul, nI_add]; exact pk_sub (by omega)) | (simp only [z_n, pk_mul, nI_add, pk_sub, *]; done)) (show _ < 60 by omega) (jA (by omega)) rfl ?_
  refine j_aload_n dL_loud_7 rfl ?_
  refine j_iconst (v := 5) dL_loud_8 (by decide) ?_
  refine j_iload_n dL_loud_9 rfl ?_
  refine j_imul dL_loud_10 ?_
  refine j_iconst (v := 4) dL_loud_11 (by decide) ?_
  refine j_iadd dL_loud_12 ?_
  refine l_ld (a := 215) (i := ((5 * k) + 4)) (11 * k + 4) dL_loud_13 (by decide) rfl hz (by first | rfl | (simp only [z_n, pk_mul, nI_add]; done) | (simp only [z_n, pk_mul, nI_add]; exact pk_sub (by omega)) | (simp only [z_n, pk_mul, nI_add, pk_sub, *]; done)) (show _ < 60 by omega) (jA (by omega)) rfl ?_
  refine j_iadd dL_loud_14 ?_
  refine j_aload_n dL_loud_15 rfl ?_
  refine j_iconst (v := 5) dL_loud_16 (by decide) ?_
  refine j_iload_n dL_loud_17 rfl ?_
  refine j_imul dL_loud_18 ?_
  refine l_ld (a := 216) (i := (5 * k)) (11 * k + 5) dL_loud_19 (by decide) rfl hz (by first | rfl | (simp only [z_n, pk_mul, nI_add]; done) | (simp only [z_n, pk_mul, nI_add]; exact pk_sub (by omega)) | (simp only [z_n, pk_mul, nI_add, pk_sub, *]; done)) (show _ < 60 by omega) jD0 rfl ?_
  refine j_isub dL_loud_20 ?_
  refine j_aload_n dL_loud_21 rfl ?_
  refine j_iconst (v := 5) dL_loud_22 (by decide) ?_
  refine j_iload_n dL_loud_23 rfl ?_
  refine j_imul dL_loud_24 ?_
  refine l_ld (a := 215) (i := (5 * k)) (11 * k + 0) dL_loud_25 (by decide) rfl hz (by first | rfl | (simp only [z_n, pk_mul, nI_add]; done) | (simp only [z_n, pk_mul, nI_add]; exact pk_sub (by omega)) | (simp only [z_n, pk_mul, nI_add, pk_sub, *]; done)) (show _ < 60 by omega) jA0 rfl ?_
  refine j_isub dL_loud_26 ?_
  refine j_iret dL_loud_27 rfl (rfl) ?_
  exact hQ _ _ ⟨rfl, rfl⟩
theorem lBar_eq {w : Nat → Int32} {k : Nat} : aBar w k = if w 148 = 0 then 1 else if ¬ w 212 ≤ aLoud w k then 2 else if w 152 - 1 = nI k then 3 else if ¬ aAsk w ≤ w (11 * k + 2) then 4 else 0 := by
  have e : (w 152 = nI k + 1) = (w 152 - 1 = nI k) := propext ⟨fun q => by rw [q, nI_1]; exact nI_pred k, fun q => by rw [← q, Int32.sub_add_cancel]⟩
  unfold aBar
  simp only [e]
set_option maxRecDepth 4000 in
set_option maxHeartbeats 2000000 in
theorem s_why {g : zH} {w : Nat → Int32} {nz : Nat} (hz : 6 ≤ nz) {k : Nat} (hk : k < 12) : zCT mL_why [.ref 215, .ref 216, .ref 218, .ref 220, .int (nI k)] (215 + nz) (gV g w) (215 + nz) (fun r h' => r = some (aBar w k) ∧ h' = gV g w) := by
  intro X Q hQ
  show zJ X mL_why (215 + nz) 0 [.ref 215, .ref 216, .ref 218, .ref 220, .int (nI k), .null] [] (215 + nz) (gV g w) Q
  refine j_aload_n dL_why_0 rfl ?_
  refine j_iconst (v := 3) dL_why_1 (by decide) ?_
  refine l_ld (a := 218) (i := 3) 152 dL_why_2 (by decide) rfl hz (rfl) (by decide) rfl rfl ?_
  refine j_if_le dL_why_3 (tgt := 16) rfl (fun c1 => ?_) (fun c1 => ?_)
  · refine j_aload_n dL_why_16 rfl ?_
    refine j_iconst (v := 0) dL_why_17 (by decide) ?_
    refine l_ld (a := 218) (i := 0) 149 dL_why_18 (by decide) rfl hz (rfl) (by decide) rfl rfl ?_
    refine j_istore dL_why_19 (by decide) ?_
    refine j_aload_n dL_why_21 rfl ?_
    refine j_bipush (v := 9) dL_why_22 (by decide) ?_
    refine l_ld (a := 218) (i := 9) 148 dL_why_24 (by decide) rfl hz (rfl) (by decide) rfl rfl ?_
    refine j_if_ne dL_why_25 (tgt := 30) rfl (fun c2 => ?_) (fun c2 => ?_)
    · refine j_aload_n dL_why_30 rfl ?_
      refine j_aload_n dL_why_31 rfl ?_
      refine j_iload dL_why_32 rfl ?_
      refine k_callS3i dL_why_34 vL_why_9 (s_loud hz (k := k) (by omega)) rfl rfl rfl (Nat.le_of_ble_eq_true rfl) ⟨rfl, rfl⟩ rfl ?_
      rintro _ _ ⟨⟨⟩, rfl⟩
      refine j_aload_n dL_why_37 rfl ?_
      refine j_bipush (v := 15) dL_why_38 (by decide) ?_
      refine l_ld (a := 220) (i := 15) 212 dL_why_40 (by decide) rfl hz (rfl) (by decide) rfl rfl ?_
      refine j_icmp_ge dL_why_41 (tgt := 48) rfl (fun c3 => ?_) (fun c3 => ?_)
      · refine j_aload_n dL_why_48 rfl ?_
        refine j_iconst (v := 3) dL_why_49 (by decide) ?_
        refine l_ld (a := 218) (i := 3) 152 dL_why_50 (by decide) rfl hz (rfl) (by decide) rfl rfl ?_
        refine j_iconst (v := 1) dL_why_51 (by decide) ?_
        refine j_isub dL_why_52 ?_
        refine j_iload dL_why_53 rfl ?_
        refine j_icmp_ne dL_why_55 (tgt := 62) rfl (fun c4 => ?_) (fun c4 => ?_)
        · refine j_aload_n dL_why_62 rfl ?_
          refine j_iconst (v := 5) dL_why_63 (by decide) ?_
          refine j_iload dL_why_64 rfl ?_
          refine j_imul dL_why_66 ?_
          refine j_iconst (v := 2) dL_why_67 (by decide) ?_
          refine j_iadd dL_why_68 ?_
          refine l_ld (a := 215) (i := ((5 * k) + 2)) (11 * k + 2) dL_why_69 (by decide) rfl hz (by first | rfl | (simp only [z_n, pk_mul, nI_add]; done) | (simp only [z_n, pk_mul, nI_add]; exact pk_sub (by omega)) | (simp only [z_n, pk_mul, nI_add, pk_sub, *]; done)) (show _ < 60 by omega) (jA (by omega)) rfl ?_
          refine j_iload dL_why_70 rfl ?_
          refine j_icmp_ge dL_why_72 (tgt := 79) rfl (fun c5 => ?_) (fun c5 => ?_)
          · refine j_iconst (v := 0) dL_why_79 (by decide) ?_
            refine j_iret dL_why_80 rfl (rfl) ?_
            exact hQ _ _ ⟨congrArg some (by rw [lBar_eq]; simp [aAsk, *]), rfl⟩
          · refine j_iconst (v := 4) dL_why_75 (by decide) ?_
            refine j_goto dL_why_76 (tgt := 80) rfl ?_
            refine j_iret dL_why_80 rfl (rfl) ?_
            exact hQ _ _ ⟨congrArg some (by rw [lBar_eq]; simp [aAsk, *]), rfl⟩
        · refine j_iconst (v := 3) dL_why_58 (by decide) ?_
          refine j_goto dL_why_59 (tgt := 80) rfl ?_
          refine j_iret dL_why_80 rfl (rfl) ?_
          exact hQ _ _ ⟨congrArg some (by rw [lBar_eq]; simp [aAsk, *]), rfl⟩
      · refine j_iconst (v := 2) dL_why_44 (by decide) ?_
        refine j_goto dL_why_45 (tgt := 80) rfl ?_
        refine j_iret dL_why_80 rfl (rfl) ?_
        exact hQ _ _ ⟨congrArg some (by rw [lBar_eq]; simp [aAsk, *]), rfl⟩
    · refine j_iconst (v := 1) dL_why_28 (by decide) ?_
      refine j_iret dL_why_29 rfl (rfl) ?_
      exact hQ _ _ ⟨congrArg some (by rw [lBar_eq]; simp [aAsk, *]), rfl⟩
  · refine j_aload_n dL_why_6 rfl ?_
    refine j_iconst (v := 2) dL_why_7 (by decide) ?_
    refine l_ld (a := 218) (i := 2) 151 dL_why_8 (by decide) rfl hz (rfl) (by decide) rfl rfl ?_
    refine j_aload_n dL_why_9 rfl ?_
    refine j_iconst (v := 1) dL_why_10 (by decide) ?_
    refine l_ld (a := 218) (i := 1) 150 dL_why_11 (by decide) rfl hz (rfl) (by decide) rfl rfl ?_
    refine j_iadd dL_why_12 ?_
    refine j_goto dL_why_13 (tgt := 19) rfl ?_
    refine j_istore dL_why_19 (by decide) ?_
    refine j_aload_n dL_why_21 rfl ?_
    refine j_bipush (v := 9) dL_why_22 (by decide) ?_
    refine l_ld (a := 218) (i := 9) 148 dL_why_24 (by decide) rfl hz (rfl) (by decide) rfl rfl ?_
    refine j_if_ne dL_why_25 (tgt := 30) rfl (fun c6 => ?_) (fun c6 => ?_)
    · refine j_aload_n dL_why_30 rfl ?_
      refine j_aload_n dL_why_31 rfl ?_
      refine j_iload dL_why_32 rfl ?_
      refine k_callS3i dL_why_34 vL_why_9 (s_loud hz (k := k) (by omega)) rfl rfl rfl (Nat.le_of_ble_eq_true rfl) ⟨rfl, rfl⟩ rfl ?_
      rintro _ _ ⟨⟨⟩, rfl⟩
      refine j_aload_n dL_why_37 rfl ?_
      refine j_bipush (v := 15) dL_why_38 (by decide) ?_
      refine l_ld (a := 220) (i := 15) 212 dL_why_40 (by decide) rfl hz (rfl) (by decide) rfl rfl ?_
      refine j_icmp_ge dL_why_41 (tgt := 48) rfl (fun c7 => ?_) (fun c7 => ?_)
      · refine j_aload_n dL_why_48 rfl ?_
        refine j_iconst (v := 3) dL_why_49 (by decide) ?_
        refine l_ld (a := 218) (i := 3) 152 dL_why_50 (by decide) rfl hz (rfl) (by decide) rfl rfl ?_
        refine j_iconst (v := 1) dL_why_51 (by decide) ?_
        refine j_isub dL_why_52 ?_
        refine j_iload dL_why_53 rfl ?_
        refine j_icmp_ne dL_why_55 (tgt := 62) rfl (fun c8 => ?_) (fun c8 => ?_)
        · refine j_aload_n dL_why_62 rfl ?_
          refine j_iconst (v := 5) dL_why_63 (by decide) ?_
          refine j_iload dL_why_64 rfl ?_
          refine j_imul dL_why_66 ?_
          refine j_iconst (v := 2) dL_why_67 (by decide) ?_
          refine j_iadd dL_why_68 ?_
          refine l_ld (a := 215) (i := ((5 * k) + 2)) (11 * k + 2) dL_why_69 (by decide) rfl hz (by first | rfl | (simp only [z_n, pk_mul, nI_add]; done) | (simp only [z_n, pk_mul, nI_add]; exact pk_sub (by omega)) | (simp only [z_n, pk_mul, nI_add, pk_sub, *]; done)) (show _ < 60 by omega) (jA (by omega)) rfl ?_
          refine j_iload dL_why_70 rfl ?_
          refine j_icmp_ge dL_why_72 (tgt := 79) rfl (fun c9 => ?_) (fun c9 => ?_)
          · refine j_iconst (v := 0) dL_why_79 (by decide) ?_
            refine j_iret dL_why_80 rfl (rfl) ?_
            exact hQ _ _ ⟨congrArg some (by rw [lBar_eq]; simp [aAsk, *]), rfl⟩
          · refine j_iconst (v := 4) dL_why_75 (by decide) ?_
            refine j_goto dL_why_76 (tgt := 80) rfl ?_
            refine j_iret dL_why_80 rfl (rfl) ?_
            exact hQ _ _ ⟨congrArg some (by rw [lBar_eq]; simp [aAsk, *]), rfl⟩
        · refine j_iconst (v := 3) dL_why_58 (by decide) ?_
          refine j_goto dL_why_59 (tgt := 80) rfl ?_
          refine j_iret dL_why_80 rfl (rfl) ?_
          exact hQ _ _ ⟨congrArg some (by rw [lBar_eq]; simp [aAsk, *]), rfl⟩
      · refine j_iconst (v := 2) dL_why_44 (by decide) ?_
        refine j_goto dL_why_45 (tgt := 80) rfl ?_
        refine j_iret dL_why_80 rfl (rfl) ?_
        exact hQ _ _ ⟨congrArg some (by rw [lBar_eq]; simp [aAsk, *]), rfl⟩
    · refine j_iconst (v := 1) dL_why_28 (by decide) ?_
      refine j_iret dL_why_29 rfl (rfl) ?_
      exact hQ _ _ ⟨congrArg some (by rw [lBar_eq]; simp [aAsk, *]), rfl⟩
theorem l_shf {w : Nat → Int32} {k : Nat} (h1 : 5 ≤ k) (h2 : k ≤ 39) : upd (aShf w k) (158 + k) (aShf w k (158 + (k - 5))) = aShf w (k - 1) := by
  rw [← aShf_up h1 h2, show 158 + (k - 5) = 158 + k - 5 by omega]
theorem aGo3_f {t : Nat → Int32} {how : Nat} (hh : how ≤ 3) : aGo3 t how = upd (upd t (aFc how) (t (aFc how) + 1)) 148 0 := by
  rcases (show how = 0 ∨ how = 1 ∨ how = 2 ∨ how = 3 by omega) with rfl | rfl | rfl | rfl <;> rfl
theorem l_go1 {t : Nat → Int32} {f : Nat} {x : Int32} (h1 : f ≠ 148) (h2 : f ≠ 210) : upd (upd (upd t 148 0) f (upd t 148 0 f + 1)) 210 (upd (upd t 148 0) f (upd t 148 0 f + 1) 210 + x) = upd (upd (upd t 210 (t 210 + x)) f (upd t 210 (t 210 + x) f + 1)) 148 0 := by
  funext j
  rw [pk_un h1, pk_un h2, pk_un (Ne.symm h2), pk_un (by decide : (210 : Nat) ≠ 148)]
  unfold upd
  by_cases e1 : j = 210
  · subst e1
    rw [if_pos rfl, if_neg (by omega), if_neg (Ne.symm h2), if_pos rfl]
  · rw [if_neg e1]
    by_cases e2 : j = f
    · subst e2
      rw [if_pos rfl, if_neg h1, if_pos rfl]
    · rw [if_neg e2]
      by_cases e3 : j = 148
      · rw [if_pos e3, if_pos e3]
      · rw [if_neg e3, if_neg e3, if_neg e2, if_neg e1]
theorem l_go {t W : Nat → Int32} {how : Nat} (hh : how ≤ 3) (e : W = upd (upd t 148 0) (aFc how) (upd t 148 0 (aFc how) + 1)) : (8 ≤ W 210 → upd W 210 (W 210 + 0) = aGo2 t how) ∧ (¬ 8 ≤ W 210 → upd W 210 (W 210 + 1) = aGo2 t how) := by
  have hf : aFc how ≠ 148 ∧ aFc how ≠ 210 := by have := aFc_r hh; omega
  have e1 : W 210 = t 210 := by rw [e, pk_un (Ne.symm hf.2), pk_un (by decide)]
  unfold aGo2
  refine ⟨fun c => ?_, fun c => ?_⟩
  · rw [e1] at c
    rw [if_pos c, aGo3_f hh, e, l_go1 hf.1 hf.2]
  · rw [e1] at c
    rw [if_neg c, aGo3_f hh, e, l_go1 hf.1 hf.2]
set_option maxRecDepth 4000 in
set_option maxHeartbeats 2000000 in
theorem s_gone_lp {g : zH} {w : Nat → Int32} {nz : Nat} (hz : 6 ≤ nz) {how : Nat} (hh : how ≤ 3) {X : Nat × (Nat → Int32)} {Q : zQt} (hQ : ∀ r h', r = none ∧ h' = gV g (aGo w how) → Q r (215 + nz) h') : ∀ (n k : Nat), k = 4 + n → n ≤ 35 → zJ X mL_gone (215 + nz) 4 [.ref 218, .ref 219, .ref 220, .int (nI how), .int (nI k)] [] (215 + nz) (gV g (aShf w k)) Q := by
  intro n
  induction n with
  | zero =>
    intro k hk hn
    obtain rfl : k = 4 := by omega
    refine j_iload dL_gone_4 rfl ?_
    refine j_iconst (v := 4) dL_gone_6 (by decide) ?_
    refine j_icmp_le dL_gone_7 (tgt := 26) rfl (fun _ => ?_) (fun c1 => absurd (show nI 4 ≤ 4 by decide) c1)
    refine j_aload_n dL_gone_26 rfl ?_
    refine j_iconst (v := 0) dL_gone_27 (by decide) ?_
    refine j_iload_n dL_gone_28 rfl ?_
    refine l_st (a := 219) (i := 0) 158 dL_gone_29 (by decide) rfl hz (rfl) (by decide) rfl ?_
    refine j_aload_n dL_gone_30 rfl ?_
    refine j_iconst (v := 1) dL_gone_31 (by decide) ?_
    refine j_aload_n dL_gone_32 rfl ?_
    refine j_iconst (v := 2) dL_gone_33 (by decide) ?_
    refine l_ld (a := 218) (i := 2) 151 dL_gone_34 (by decide) rfl hz (rfl) (by decide) rfl rfl ?_
    refine l_st (a := 219) (i := 1) 159 dL_gone_35 (by decide) rfl hz (rfl) (by decide) rfl ?_
    refine j_aload_n dL_gone_36 rfl ?_
    refine j_iconst (v := 2) dL_gone_37 (by decide) ?_
    refine j_aload_n dL_gone_38 rfl ?_
    refine j_iconst (v := 3) dL_gone_39 (by decide) ?_
    refine l_ld (a := 218) (i := 3) 152 dL_gone_40 (by decide) rfl hz (rfl) (by decide) rfl rfl ?_
    refine l_st (a := 219) (i := 2) 160 dL_gone_41 (by decide) rfl hz (rfl) (by decide) rfl ?_
    refine j_aload_n dL_gone_42 rfl ?_
    refine j_iconst (v := 3) dL_gone_43 (by decide) ?_
    refine j_aload_n dL_gone_44 rfl ?_
    refine j_iconst (v := 4) dL_gone_45 (by decide) ?_
    refine l_ld (a := 218) (i := 4) 153 dL_gone_46 (by decide) rfl hz (rfl) (by decide) rfl rfl ?_
    refine l_st (a := 219) (i := 3) 161 dL_gone_47 (by decide) rfl hz (rfl) (by decide) rfl ?_
    refine j_aload_n dL_gone_48 rfl ?_
    refine j_iconst (v := 4) dL_gone_49 (by decide) ?_
    refine j_aload_n dL_gone_50 rfl ?_
    refine j_bipush (v := 6) dL_gone_51 (by decide) ?_
    refine l_ld (a := 218) (i := 6) 155 dL_gone_53 (by decide) rfl hz (rfl) (by decide) rfl rfl ?_
    refine l_st (a := 219) (i := 4) 162 dL_gone_54 (by decide) rfl hz (rfl) (by decide) rfl ?_
    refine j_aload_n dL_gone_55 rfl ?_
    refine j_bipush (v := 9) dL_gone_56 (by decide) ?_
    refine j_iconst (v := 0) dL_gone_58 (by decide) ?_
    refine l_st (a := 218) (i := 9) 148 dL_gone_59 (by decide) rfl hz (rfl) (by decide) rfl ?_
    refine j_aload_n dL_gone_60 rfl ?_
    refine j_iconst (v := 4) dL_gone_61 (by decide) ?_
    refine j_iload_n dL_gone_62 rfl ?_
    refine j_iadd dL_gone_63 ?_
    refine j_dup2 dL_gone_64 rfl rfl ?_
    refine l_ld (a := 220) (i := (4 + how)) (aFc how) dL_gone_65 (by decide) rfl hz (by first | rfl | (simp only [z_n, pk_mul, nI_add]; done) | (simp only [z_n, pk_mul, nI_add]; exact pk_sub (by omega)) | (simp only [z_n, pk_mul, nI_add, pk_sub, *]; done)) (show _ < 18 by omega) (jF hh) rfl ?_
    refine j_iconst (v := 1) dL_gone_66 (by decide) ?_
    refine j_iadd dL_gone_67 ?_
    refine l_st (a := 220) (i := (4 + how)) (aFc how) dL_gone_68 (by decide) rfl hz (by first | rfl | (simp only [z_n, pk_mul, nI_add]; done) | (simp only [z_n, pk_mul, nI_add]; exact pk_sub (by omega)) | (simp only [z_n, pk_mul, nI_add, pk_sub, *]; done)) (show _ < 18 by omega) (jF hh) ?_
    refine j_aload_n dL_gone_69 rfl ?_
    refine j_bipush (v := 13) dL_gone_70 (by decide) ?_
    refine j_dup2 dL_gone_72 rfl rfl ?_
    refine l_ld (a := 220) (i := 13) 210 dL_gone_73 (by decide) rfl hz (rfl) (by decide) rfl rfl ?_
    refine j_aload_n dL_gone_74 rfl ?_
    refine j_bipush (v := 13) dL_gone_75 (by decide) ?_
    refine l_ld (a := 220) (i := 13) 210 dL_gone_77 (by decide) rfl hz (rfl) (by decide) rfl rfl ?_
    refine j_bipush (v := 8) dL_gone_78 (by decide) ?_
    refine j_icmp_ge dL_gone_80 (tgt := 87) rfl (fun c2 => ?_) (fun c2 => ?_)
    · refine j_iconst (v := 0) dL_gone_87 (by decide) ?_
      refine j_iadd dL_gone_88 ?_
      refine l_st (a := 220) (i := 13) 210 dL_gone_89 (by decide) rfl hz (rfl) (by decide) rfl ?_
      refine j_vret dL_gone_90 rfl ?_
      exact hQ _ _ ⟨rfl, congrArg (gV g) ((l_go hh rfl).1 c2)⟩
    · refine j_iconst (v := 1) dL_gone_83 (by decide) ?_
      refine j_goto dL_gone_84 (tgt := 88) rfl ?_
      refine j_iadd dL_gone_88 ?_
      refine l_st (a := 220) (i := 13) 210 dL_gone_89 (by decide) rfl hz (rfl) (by decide) rfl ?_
      refine j_vret dL_gone_90 rfl ?_
      exact hQ _ _ ⟨rfl, congrArg (gV g) ((l_go hh rfl).2 c2)⟩
  | succ n ih =>
    intro k hk hn
    refine j_iload dL_gone_4 rfl ?_
    refine j_iconst (v := 4) dL_gone_6 (by decide) ?_
    refine j_icmp_le dL_gone_7 (tgt := 26) rfl (fun c1 => absurd c1 (show ¬ nI k ≤ 4 from nI_ge (show 4 < k by omega) (by omega))) (fun _ => ?_)
    refine j_aload_n dL_gone_10 rfl ?_
    refine j_iload dL_gone_11 rfl ?_
    refine j_aload_n dL_gone_13 rfl ?_
    refine j_iload dL_gone_14 rfl ?_
    refine j_iconst (v := 5) dL_gone_16 (by decide) ?_
    refine j_isub dL_gone_17 ?_
    refine l_ld (a := 219) (i := (k - 5)) (158 + (k - 5)) dL_gone_18 (by decide) rfl hz (by first | rfl | (simp only [z_n, pk_mul, nI_add]; done) | (simp only [z_n, pk_mul, nI_add]; exact pk_sub (by omega)) | (simp only [z_n, pk_mul, nI_add, pk_sub, *]; done)) (show _ < 40 by omega) rfl rfl ?_
    refine l_st (a := 219) (i := k) (158 + k) dL_gone_19 (by decide) rfl hz (by first | rfl | (simp only [z_n, pk_mul, nI_add]; done) | (simp only [z_n, pk_mul, nI_add]; exact pk_sub (by omega)) | (simp only [z_n, pk_mul, nI_add, pk_sub, *]; done)) (show _ < 40 by omega) rfl ?_
    rw [l_shf (by omega) (by omega)]
    refine j_iinc (v := nI (k - 1)) dL_gone_20 rfl (z_dec (by omega)) (by decide) ?_
    refine j_goto dL_gone_23 (tgt := 4) rfl ?_
    exact ih (k - 1) (by omega) (by omega)
set_option maxRecDepth 4000 in
set_option maxHeartbeats 2000000 in
theorem s_gone {g : zH} {w : Nat → Int32} {nz : Nat} (hz : 6 ≤ nz) {how : Nat} (hh : how ≤ 3) : zCT mL_gone [.ref 218, .ref 219, .ref 220, .int (nI how)] (215 + nz) (gV g w) (215 + nz) (fun r h' => r = none ∧ h' = gV g (aGo w how)) := by
  intro X Q hQ
  show zJ X mL_gone (215 + nz) 0 [.ref 218, .ref 219, .ref 220, .int (nI how), .null] [] (215 + nz) (gV g w) Q
  rw [← aShf_39 (s := w)]
  refine j_bipush (v := 39) dL_gone_0 (by decide) ?_
  refine j_istore dL_gone_2 (by decide) ?_
  rw [aShf_39]
  have K := s_gone_lp (X := X) (g := g) (w := w) hz hh hQ 35 39 rfl (by omega)
  rw [aShf_39] at K
  exact K
set_option maxRecDepth 4000 in
set_option maxHeartbeats 2000000 in
theorem s_next {g : zH} {w : Nat → Int32} {nz : Nat} (hz : 6 ≤ nz) {k : Nat} (hk : k < 12) (h7 : ¬ 7 - w (11 * k + 4) = 0) : zCT mL_next [.ref 215, .ref 220, .int (nI k)] (215 + nz) (gV g w) (215 + nz) (fun r h' => r = some (aNext w k) ∧ h' = gV g w) := by
  intro X Q hQ
  show zJ X mL_next (215 + nz) 0 [.ref 215, .ref 220, .int (nI k), .null] [] (215 + nz) (gV g w) Q
  refine j_aload_n dL_next_0 rfl ?_
  refine j_iconst (v := 5) dL_next_1 (by decide) ?_
  refine j_iload_n dL_next_2 rfl ?_
  refine j_imul dL_next_3 ?_
  refine j_iconst (v := 4) dL_next_4 (by decide) ?_
  refine j_iadd dL_next_5 ?_
  refine l_ld (a := 215) (i := ((5 * k) + 4)) (11 * k + 4) dL_next_6 (by decide) rfl hz (by first | rfl | (simp only [z_n, pk_mul, nI_add]; done) | (simp only [z_n, pk_mul, nI_add]; exact pk_sub (by omega)) | (simp only [z_n, pk_mul, nI_add, pk_sub, *]; done)) (show _ < 60 by omega) (jA (by omega)) rfl ?_
  refine j_istore_n dL_next_7 (by decide) ?_
  refine j_iload_n dL_next_8 rfl ?_
  refine j_if_le dL_next_9 (tgt := 29) rfl (fun c1 => ?_) (fun c1 => ?_)
  · refine j_iconst (v := 0) dL_next_29 (by decide) ?_
    refine j_iret dL_next_30 rfl (rfl) ?_
    exact hQ _ _ ⟨congrArg some (by simp [aNext, *]), rfl⟩
  · refine j_aload_n dL_next_12 rfl ?_
    refine j_iconst (v := 0) dL_next_13 (by decide) ?_
    refine l_ld (a := 220) (i := 0) 198 dL_next_14 (by decide) rfl hz (rfl) (by decide) rfl rfl ?_
    refine j_iload_n dL_next_15 rfl ?_
    refine j_iadd dL_next_16 ?_
    refine j_bipush (v := 7) dL_next_17 (by decide) ?_
    refine j_iload_n dL_next_19 rfl ?_
    refine j_isub dL_next_20 ?_
    refine j_irem dL_next_21 (h7) ?_
    refine j_if_ne dL_next_22 (tgt := 29) rfl (fun c2 => ?_) (fun c2 => ?_)
    · refine j_iconst (v := 0) dL_next_29 (by decide) ?_
      refine j_iret dL_next_30 rfl (rfl) ?_
      exact hQ _ _ ⟨congrArg some (by simp [aNext, *]), rfl⟩
    · refine j_iconst (v := 1) dL_next_25 (by decide) ?_
      refine j_goto dL_next_26 (tgt := 30) rfl ?_
      refine j_iret dL_next_30 rfl (rfl) ?_
      exact hQ _ _ ⟨congrArg some (by simp [aNext, *]), rfl⟩
/-- the law's own search -/
def lFd (s : Nat → Int32) (row seat : Int32) : Nat → Nat → Int32
  | 0, _ => -1
  | n + 1, k => if s (11 * k + 0) = row then (if s (11 * k + 1) = seat then nI k else lFd s row seat n (k + 1)) else lFd s row seat n (k + 1)
set_option maxRecDepth 4000 in
set_option maxHeartbeats 2000000 in
theorem s_seat_lp {g : zH} {w : Nat → Int32} {nz : Nat} (hz : 6 ≤ nz) {row seat : Int32} {N : Nat} (hn : w 199 = nI N) (hN : N ≤ 12) {X : Nat × (Nat → Int32)} {Q : zQt} : ∀ (n k : Nat), k + n = N → (∀ r h', r = some (lFd w row seat n k) ∧ h' = gV g w → Q r (215 + nz) h') → zJ X mL_seat (215 + nz) 3 [.ref 215, .ref 220, .int row, .int seat, .int (nI k)] [] (215 + nz) (gV g w) Q := by
  intro n
  induction n with
  | zero =>
    intro k hk hQ
    refine j_iload dL_seat_3 rfl ?_
    refine j_aload_n dL_seat_5 rfl ?_
    refine j_iconst (v := 1) dL_seat_6 (by decide) ?_
    refine l_ld (a := 220) (i := 1) (v := nI N) 199 dL_seat_7 (by decide) rfl hz (rfl) (by decide) rfl (hn) ?_
    refine j_icmp_ge dL_seat_8 (tgt := 42) rfl (fun _ => ?_) (fun c1 => absurd (show nI N ≤ nI k from nI_le (by omega) (by omega)) c1)
    refine j_iconst (v := (-1)) dL_seat_42 (by decide) ?_
    refine j_iret dL_seat_43 rfl (rfl) ?_
    exact hQ _ _ ⟨rfl, rfl⟩
  | succ n ih =>
    intro k hk hQ
    refine j_iload dL_seat_3 rfl ?_
    refine j_aload_n dL_seat_5 rfl ?_
    refine j_iconst (v := 1) dL_seat_6 (by decide) ?_
    refine l_ld (a := 220) (i := 1) (v := nI N) 199 dL_seat_7 (by decide) rfl hz (rfl) (by decide) rfl (hn) ?_
    refine j_icmp_ge dL_seat_8 (tgt := 42) rfl (fun c1 => absurd c1 (show ¬ nI N ≤ nI k from nI_ge (by omega) (by omega))) (fun _ => ?_)
    refine j_aload_n dL_seat_11 rfl ?_
    refine j_iconst (v := 5) dL_seat_12 (by decide) ?_
    refine j_iload dL_seat_13 rfl ?_
    refine j_imul dL_seat_15 ?_
    refine l_ld (a := 215) (i := (5 * k)) (11 * k + 0) dL_seat_16 (by decide) rfl hz (by first | rfl | (simp only [z_n, pk_mul, nI_add]; done) | (simp only [z_n, pk_mul, nI_add]; exact pk_sub (by omega)) | (simp only [z_n, pk_mul, nI_add, pk_sub, *]; done)) (show _ < 60 by omega) jA0 rfl ?_
    refine j_iload_n dL_seat_17 rfl ?_
    refine j_icmp_ne dL_seat_18 (tgt := 36) rfl (fun c2 => ?_) (fun c2 => ?_)
    · refine j_iinc (v := nI (k + 1)) dL_seat_36 rfl z_inc (by decide) ?_
      refine j_goto dL_seat_39 (tgt := 3) rfl ?_
      exact ih (k + 1) (by omega) (fun r h' q => hQ r h' ⟨q.1.trans (congrArg some ((if_neg c2).trans (rfl)).symm), q.2⟩)
    · refine j_aload_n dL_seat_21 rfl ?_
      refine j_iconst (v := 5) dL_seat_22 (by decide) ?_
      refine j_iload dL_seat_23 rfl ?_
      refine j_imul dL_seat_25 ?_
      refine j_iconst (v := 1) dL_seat_26 (by decide) ?_
      refine j_iadd dL_seat_27 ?_
      refine l_ld (a := 215) (i := ((5 * k) + 1)) (11 * k + 1) dL_seat_28 (by decide) rfl hz (by first | rfl | (simp only [z_n, pk_mul, nI_add]; done) | (simp only [z_n, pk_mul, nI_add]; exact pk_sub (by omega)) | (simp only [z_n, pk_mul, nI_add, pk_sub, *]; done)) (show _ < 60 by omega) (jA (by omega)) rfl ?_
      refine j_iload_n dL_seat_29 rfl ?_
      refine j_icmp_ne dL_seat_30 (tgt := 36) rfl (fun c3 => ?_) (fun c3 => ?_)
      · refine j_iinc (v := nI (k + 1)) dL_seat_36 rfl z_inc (by decide) ?_
        refine j_goto dL_seat_39 (tgt := 3) rfl ?_
        exact ih (k + 1) (by omega) (fun r h' q => hQ r h' ⟨q.1.trans (congrArg some ((if_pos c2).trans ((if_neg c3).trans (rfl))).symm), q.2⟩)
      · refine j_iload dL_seat_33 rfl ?_
        refine j_iret dL_seat_35 rfl (rfl) ?_
        exact hQ _ _ ⟨congrArg some ((if_pos c2).trans ((if_pos c3).trans (rfl))).symm, rfl⟩
set_option maxRecDepth 4000 in
set_option maxHeartbeats 2000000 in
theorem s_seat {g : zH} {w : Nat → Int32} {nz : Nat} (hz : 6 ≤ nz) {row seat : Int32} {N : Nat} (hn : w 199 = nI N) (hN : N ≤ 12) : zCT mL_seat [.ref 215, .ref 220, .int row, .int seat] (215 + nz) (gV g w) (215 + nz) (fun r h' => r = some (lFd w row seat N 0) ∧ h' = gV g w) := by
  intro X Q hQ
  show zJ X mL_seat (215 + nz) 0 [.ref 215, .ref 220, .int row, .int seat, .null] [] (215 + nz) (gV g w) Q
  refine j_iconst (v := 0) dL_seat_0 (by decide) ?_
  refine j_istore dL_seat_1 (by decide) ?_
  exact s_seat_lp hz hn hN N 0 (Nat.zero_add N) hQ
/-- how many have a cold -/
def lIl (s : Nat → Int32) : Nat → Nat → Nat → Nat
  | 0, _, a => a
  | n + 1, k, a => if s (11 * k + 4) ≤ 0 then lIl s n (k + 1) a else lIl s n (k + 1) (a + 1)
set_option maxRecDepth 4000 in
set_option maxHeartbeats 2000000 in
theorem s_ill_lp {g : zH} {w : Nat → Int32} {nz : Nat} (hz : 6 ≤ nz) {N : Nat} (hn : w 199 = nI N) (hN : N ≤ 12) {X : Nat × (Nat → Int32)} {Q : zQt} : ∀ (n k x : Nat), k + n = N → (∀ r h', r = some (nI (lIl w n k x)) ∧ h' = gV g w → Q r (215 + nz) h') → zJ X mL_ill (215 + nz) 4 [.ref 215, .ref 220, .int (nI x), .int (nI k)] [] (215 + nz) (gV g w) Q := by
  intro n
  induction n with
  | zero =>
    intro k x hk hQ
    refine j_iload_n dL_ill_4 rfl ?_
    refine j_aload_n dL_ill_5 rfl ?_
    refine j_iconst (v := 1) dL_ill_6 (by decide) ?_
    refine l_ld (a := 220) (i := 1) (v := nI N) 199 dL_ill_7 (by decide) rfl hz (rfl) (by decide) rfl (hn) ?_
    refine j_icmp_ge dL_ill_8 (tgt := 35) rfl (fun _ => ?_) (fun c1 => absurd (show nI N ≤ nI k from nI_le (by omega) (by omega)) c1)
    refine j_iload_n dL_ill_35 rfl ?_
    refine j_iret dL_ill_36 rfl (rfl) ?_
    exact hQ _ _ ⟨rfl, rfl⟩
  | succ n ih =>
    intro k x hk hQ
    refine j_iload_n dL_ill_4 rfl ?_
    refine j_aload_n dL_ill_5 rfl ?_
    refine j_iconst (v := 1) dL_ill_6 (by decide) ?_
    refine l_ld (a := 220) (i := 1) (v := nI N) 199 dL_ill_7 (by decide) rfl hz (rfl) (by decide) rfl (hn) ?_
    refine j_icmp_ge dL_ill_8 (tgt := 35) rfl (fun c1 => absurd c1 (show ¬ nI N ≤ nI k from nI_ge (by omega) (by omega))) (fun _ => ?_)
    refine j_iload_n dL_ill_11 rfl ?_
    refine j_aload_n dL_ill_12 rfl ?_
    refine j_iconst (v := 5) dL_ill_13 (by decide) ?_
    refine j_iload_n dL_ill_14 rfl ?_
    refine j_imul dL_ill_15 ?_
    refine j_iconst (v := 4) dL_ill_16 (by decide) ?_
    refine j_iadd dL_ill_17 ?_
    refine l_ld (a := 215) (i := ((5 * k) + 4)) (11 * k + 4) dL_ill_18 (by decide) rfl hz (by first | rfl | (simp only [z_n, pk_mul, nI_add]; done) | (simp only [z_n, pk_mul, nI_add]; exact pk_sub (by omega)) | (simp only [z_n, pk_mul, nI_add, pk_sub, *]; done)) (show _ < 60 by omega) (jA (by omega)) rfl ?_
    refine j_if_le dL_ill_19 (tgt := 26) rfl (fun c2 => ?_) (fun c2 => ?_)
    · refine j_iconst (v := 0) dL_ill_26 (by decide) ?_
      refine j_iadd dL_ill_27 ?_
      simp only [z_n, nI_add]
      show zJ _ _ _ _ _ [.int (nI x)] _ _ _
      refine j_istore_n dL_ill_28 (by decide) ?_
      refine j_iinc (v := nI (k + 1)) dL_ill_29 rfl z_inc (by decide) ?_
      refine j_goto dL_ill_32 (tgt := 4) rfl ?_
      exact ih (k + 1) x (by omega) (fun r h' q => hQ r h' ⟨q.1.trans (congrArg (fun z => some (nI z)) ((if_pos c2).trans (rfl)).symm), q.2⟩)
    · refine j_iconst (v := 1) dL_ill_22 (by decide) ?_
      refine j_goto dL_ill_23 (tgt := 27) rfl ?_
      refine j_iadd dL_ill_27 ?_
      simp only [z_n, nI_add]
      refine j_istore_n dL_ill_28 (by decide) ?_
      refine j_iinc (v := nI (k + 1)) dL_ill_29 rfl z_inc (by decide) ?_
      refine j_goto dL_ill_32 (tgt := 4) rfl ?_
      exact ih (k + 1) (x + 1) (by omega) (fun r h' q => hQ r h' ⟨q.1.trans (congrArg (fun z => some (nI z)) ((if_neg c2).trans (rfl)).symm), q.2⟩)
set_option maxRecDepth 4000 in
set_option maxHeartbeats 2000000 in
theorem s_ill {g : zH} {w : Nat → Int32} {nz : Nat} (hz : 6 ≤ nz) {N : Nat} (hn : w 199 = nI N) (hN : N ≤ 12) : zCT mL_ill [.ref 215, .ref 220] (215 + nz) (gV g w) (215 + nz) (fun r h' => r = some (nI (lIl w N 0 0)) ∧ h' = gV g w) := by
  intro X Q hQ
  show zJ X mL_ill (215 + nz) 0 [.ref 215, .ref 220, .null, .null] [] (215 + nz) (gV g w) Q
  refine j_iconst (v := 0) dL_ill_0 (by decide) ?_
  refine j_istore_n dL_ill_1 (by decide) ?_
  refine j_iconst (v := 0) dL_ill_2 (by decide) ?_
  refine j_istore_n dL_ill_3 (by decide) ?_
  exact s_ill_lp hz hn hN N 0 0 (Nat.zero_add N) hQ
end L1
