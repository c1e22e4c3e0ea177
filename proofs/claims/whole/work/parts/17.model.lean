theorem upd_id {f : Nat → Int32} {k : Nat} {x : Int32} (h : f k = x) : upd f k x = f := by
  funext j
  by_cases hj : j = k
  · subst hj
    rw [upd_s, h]
  · rw [upd_n hj]
theorem upd_upd {f : Nat → Int32} {k : Nat} {x y : Int32} : upd (upd f k x) k y = upd f k y := by
  funext j
  by_cases hj : j = k
  · subst hj
    rw [upd_s, upd_s]
  · rw [upd_n hj, upd_n hj, upd_n hj]
/-- up to f digits from p on: where they end, and the number, begun with v -/
def aNm (tx : Nat → Int32) (T : Nat) : Nat → Nat → Int32 → Nat × Int32
  | 0, p, v => (p, v)
  | f + 1, p, v => if aAtC tx T p 48 57 = 0 then (p, v) else aNm tx T f (p + 1) (10 * v + tx p - 48)
def aNd (b : Nat) (q : Nat × Int32) : Int32 := if q.1 ≤ b then 0 else 1
theorem aNd_b {b : Nat} {q : Nat × Int32} : narrow .boolean (.int (aNd b q)) = .int (aNd b q) := by
  unfold aNd
  split <;> rfl
set_option maxRecDepth 4000 in
set_option maxHeartbeats 2000000 in
theorem s_num_end {g : zH} (hg : gP g) {o tx nm s : Nat → Int32} {p b v : Nat} (h8 : o 8 = nI p) (hp : p ≤ 60) (hb : b ≤ 60) {y : Int32} {X : Nat × (Nat → Int32)} {Q : zQt} (hQ : ∀ x, aNd b (p, y) = x → Q (some x) 222 (gS (gT g o tx nm) s)) : zJ X mX5_numbered 222 74 [.ref 215, .int (nI v), .int (nI b)] [] 222 (gS (gT g o tx nm) s) Q := by
  refine j_aload_n dX5_numbered_74 rfl ?_
  refine t_get (v := nI p) 8 (by decide) dX5_numbered_75 fX5_130 (h8) ?_
  refine j_iload_n dX5_numbered_78 rfl ?_
  refine j_icmp_le dX5_numbered_79 (tgt := 86) rfl (fun c1 => ?_) (fun c1 => ?_)
  · refine j_iconst (v := 0) dX5_numbered_86 (by decide) ?_
    refine j_iret dX5_numbered_87 rfl (rfl) ?_
    exact hQ _ (if_pos ((nI_leI (by omega) (by omega)).mp c1))
  · refine j_iconst (v := 1) dX5_numbered_82 (by decide) ?_
    refine j_goto dX5_numbered_83 (tgt := 87) rfl ?_
    refine j_iret dX5_numbered_87 rfl (rfl) ?_
    exact hQ _ (if_neg (fun q => c1 ((nI_leI (by omega) (by omega)).mpr q)))
set_option maxRecDepth 4000 in
set_option maxHeartbeats 2000000 in
theorem s_num_lp {g : zH} (hg : gP g) {tx s : Nat → Int32} {T b v : Nat} (hT : T ≤ 60) (hv : v < 4) (hb : b ≤ 60) {X : Nat × (Nat → Int32)} {Q : zQt} : ∀ (f p : Nat) (o nm : Nat → Int32), f ≤ 3 → p + f = b + 3 → o 8 = nI p → p ≤ 60 → o 7 = nI T → (∀ r h', r = some (aNd b (aNm tx T f p (nm v))) ∧ h' = gS (gT g (upd o 8 (nI (aNm tx T f p (nm v)).1)) tx (upd nm v (aNm tx T f p (nm v)).2)) s → Q r 222 h') → zJ X mX5_numbered 222 12 [.ref 215, .int (nI v), .int (nI b)] [] 222 (gS (gT g o tx nm) s) Q := by
  intro f
  induction f with
  | zero =>
    intro p o nm hf3 hf h8 hp h7 hQ
    refine j_aload_n dX5_numbered_12 rfl ?_
    refine j_bipush (v := 48) dX5_numbered_13 (by decide) ?_
    refine j_bipush (v := 57) dX5_numbered_15 (by decide) ?_
    refine k_callV2i dX5_numbered_17 vX5_numbered_133 (s_isAt hg (h7) hT (h8) (by omega)) rfl (by decide) rfl rfl (Nat.le_of_ble_eq_true rfl) ⟨rfl, rfl⟩ rfl ?_
    rintro _ _ ⟨⟨⟩, rfl⟩
    refine j_if_eq dX5_numbered_20 (tgt := 74) rfl (fun c1 => ?_) (fun c1 => ?_)
    · exact s_num_end hg h8 hp hb (fun x h => hQ _ _ ⟨congrArg some (h.symm.trans rfl), by show _ = gS (gT g (upd o 8 (nI p)) tx (upd nm v (nm v))) s; rw [upd_id h8, upd_id rfl]⟩)
    · refine j_aload_n dX5_numbered_23 rfl ?_
      refine t_get (v := nI p) 8 (by decide) dX5_numbered_24 fX5_130 (h8) ?_
      refine j_iload_n dX5_numbered_27 rfl ?_
      refine j_isub dX5_numbered_28 ?_
      rw [show nI p - nI b = nI (p - b) from pk_sub (by omega), show p - b = 3 by omega]
      refine j_iconst (v := 3) dX5_numbered_29 (by decide) ?_
      refine j_icmp_ge dX5_numbered_30 (tgt := 74) rfl (fun _ => ?_) (fun c2 => absurd (show 3 ≤ nI 3 by decide) c2)
      exact s_num_end hg h8 hp hb (fun x h => hQ _ _ ⟨congrArg some (h.symm.trans rfl), by show _ = gS (gT g (upd o 8 (nI p)) tx (upd nm v (nm v))) s; rw [upd_id h8, upd_id rfl]⟩)
  | succ f ih =>
    intro p o nm hf3 hf h8 hp h7 hQ
    refine j_aload_n dX5_numbered_12 rfl ?_
    refine j_bipush (v := 48) dX5_numbered_13 (by decide) ?_
    refine j_bipush (v := 57) dX5_numbered_15 (by decide) ?_
    refine k_callV2i dX5_numbered_17 vX5_numbered_133 (s_isAt hg (h7) hT (h8) (by omega)) rfl (by decide) rfl rfl (Nat.le_of_ble_eq_true rfl) ⟨rfl, rfl⟩ rfl ?_
    rintro _ _ ⟨⟨⟩, rfl⟩
    refine j_if_eq dX5_numbered_20 (tgt := 74) rfl (fun c1 => ?_) (fun c1 => ?_)
    · have e : aNm tx T (f + 1) p (nm v) = (p, nm v) := (if_pos c1).trans (rfl)
      exact s_num_end hg h8 hp hb (fun x h => hQ _ _ ⟨congrArg some (by rw [e]; exact h.symm), by rw [e, upd_id h8, upd_id rfl]⟩)
    · refine j_aload_n dX5_numbered_23 rfl ?_
      refine t_get (v := nI p) 8 (by decide) dX5_numbered_24 fX5_130 (h8) ?_
      refine j_iload_n dX5_numbered_27 rfl ?_
      refine j_isub dX5_numbered_28 ?_
      have hpT : p < T := aAtC_lt ‹¬ aAtC tx T p 48 57 = 0›
      rw [show nI p - nI b = nI (p - b) from pk_sub (by omega)]
      refine j_iconst (v := 3) dX5_numbered_29 (by decide) ?_
      refine j_icmp_ge dX5_numbered_30 (tgt := 74) rfl (fun c2 => absurd c2 (show ¬ 3 ≤ nI (p - b) from nI_ge (b := 3) (by omega) (by omega))) (fun _ => ?_)
      refine j_aload_n dX5_numbered_33 rfl ?_
      refine j_get (v := .ref 221) dX5_numbered_34 fX5_25 rfl (by decide) (gS_p14 (gP_gT hg)) ?_
      refine j_iload_n dX5_numbered_37 rfl ?_
      refine j_bipush (v := 10) dX5_numbered_38 (by decide) ?_
      refine j_aload_n dX5_numbered_40 rfl ?_
      refine j_get (v := .ref 221) dX5_numbered_41 fX5_25 rfl (by decide) (gS_p14 (gP_gT hg)) ?_
      refine j_iload_n dX5_numbered_44 rfl ?_
      refine t_ald1 (v) dX5_numbered_45 (by first | rfl | (simp only [z_n, pk_mul, nI_add]; done) | (simp only [z_n, pk_mul, nI_add]; exact pk_sub (by omega)) | (simp only [z_n, pk_mul, nI_add, pk_sub, *]; done)) (by first | decide | omega) ?_
      refine j_imul dX5_numbered_46 ?_
      refine j_aload_n dX5_numbered_47 rfl ?_
      refine j_get (v := .ref 220) dX5_numbered_48 fX5_22 rfl (by decide) (gS_p6 (gP_gT hg)) ?_
      refine j_aload_n dX5_numbered_51 rfl ?_
      refine t_get (v := nI p) 8 (by decide) dX5_numbered_52 fX5_130 (h8) ?_
      refine t_ald0 (p) dX5_numbered_55 (by first | rfl | (simp only [z_n, pk_mul, nI_add]; done) | (simp only [z_n, pk_mul, nI_add]; exact pk_sub (by omega)) | (simp only [z_n, pk_mul, nI_add, pk_sub, *]; done)) (by first | decide | omega) ?_
      refine j_iadd dX5_numbered_56 ?_
      refine j_bipush (v := 48) dX5_numbered_57 (by decide) ?_
      refine j_isub dX5_numbered_59 ?_
      refine t_ast1 (v) dX5_numbered_60 (by first | rfl | (simp only [z_n, pk_mul, nI_add]; done) | (simp only [z_n, pk_mul, nI_add]; exact pk_sub (by omega)) | (simp only [z_n, pk_mul, nI_add, pk_sub, *]; done)) (by first | decide | omega) ?_
      refine j_aload_n dX5_numbered_61 rfl ?_
      refine j_dup dX5_numbered_62 rfl ?_
      refine t_get (v := nI p) 8 (by decide) dX5_numbered_63 fX5_130 (h8) ?_
      refine j_iconst (v := 1) dX5_numbered_66 (by decide) ?_
      refine j_iadd dX5_numbered_67 ?_
      rw [nI_1]
      refine t_put 8 (by decide) dX5_numbered_68 fX5_130 (rfl) ?_
      refine j_goto dX5_numbered_71 (tgt := 12) rfl ?_
      have e : aNm tx T (f + 1) p (nm v) = aNm tx T f (p + 1) (10 * nm v + tx p - 48) := (if_neg c1).trans (rfl)
      refine ih (p + 1) _ _ (by omega) (by omega) upd_s (by omega) ((upd_n (by decide)).trans h7) ?_
      rw [upd_s, upd_upd, upd_upd, ← e]
      exact hQ
set_option maxRecDepth 4000 in
set_option maxHeartbeats 1000000 in
theorem s_numbered {g : zH} (hg : gP g) {o tx nm s : Nat → Int32} {T p : Nat} (h7 : o 7 = nI T) (hT : T ≤ 60) (h8 : o 8 = nI p) (hp : p ≤ 60) (v : Nat) (hv : v < 4) : zCT mX5_numbered [.ref 215, .int (nI v)] 222 (gS (gT g o tx nm) s) 222 (fun r h' => r = some (aNd p (aNm tx T 3 p 0)) ∧ h' = gS (gT g (upd o 8 (nI (aNm tx T 3 p 0).1)) tx (upd nm v (aNm tx T 3 p 0).2)) s) := by
  intro X Q hQ
  show zJ X mX5_numbered 222 0 [.ref 215, .int (nI v), .null] [] 222 (gS (gT g o tx nm) s) Q
  refine j_aload_n dX5_numbered_0 rfl ?_
  refine t_get (v := nI p) 8 (by decide) dX5_numbered_1 fX5_130 (h8) ?_
  refine j_istore_n dX5_numbered_4 (by decide) ?_
  refine j_aload_n dX5_numbered_5 rfl ?_
  refine j_get (v := .ref 221) dX5_numbered_6 fX5_25 rfl (by decide) (gS_p14 (gP_gT hg)) ?_
  refine j_iload_n dX5_numbered_9 rfl ?_
  refine j_iconst (v := 0) dX5_numbered_10 (by decide) ?_
  refine t_ast1 (v) dX5_numbered_11 (by first | rfl | (simp only [z_n, pk_mul, nI_add]; done) | (simp only [z_n, pk_mul, nI_add]; exact pk_sub (by omega)) | (simp only [z_n, pk_mul, nI_add, pk_sub, *]; done)) (by first | decide | omega) ?_
  refine s_num_lp hg hT hv hp 3 p o _ (by omega) (by omega) h8 hp h7 ?_
  rw [upd_s, upd_upd]
  exact hQ
def aNof (c : Int32) : Int32 := if c = 112 then 4 else if c = 108 then 2 else if c = 109 then 2 else if c = 99 then 1 else if c = 98 then 1 else if c = 117 then 0 else if c = 110 then 0 else -1000004
theorem aNof_out {c : Int32} (h : c.toInt < 98 ∨ (117 : Int) < c.toInt) : aNof c = -1000004 := by
  have e : ∀ n : Nat, 98 ≤ n → n ≤ 117 → ¬ c = nI n := by
    intro n h1 h2 q
    rw [q, nI_toInt (by omega)] at h
    omega
  exact (if_neg (e 112 (by decide) (by decide))).trans ((if_neg (e 108 (by decide) (by decide))).trans ((if_neg (e 109 (by decide) (by decide))).trans ((if_neg (e 99 (by decide) (by decide))).trans ((if_neg (e 98 (by decide) (by decide))).trans ((if_neg (e 117 (by decide) (by decide))).trans (if_neg (e 110 (by decide) (by decide))))))))
theorem z_sw2 {v : Int32} {m n : Nat} (hn : n < 1000) (h : ¬ (v.toInt < (m : Int) ∨ (n : Int) < v.toInt)) : ∃ j, m ≤ j ∧ j ≤ n ∧ v = nI j := by
  have h0 : ¬ v < 0 := by
    rw [Int32.lt_iff_toInt_lt]
    have : (0 : Int32).toInt = 0 := by decide
    omega
  obtain ⟨j, hj, rfl⟩ := nI_of h0
  rw [nI_toInt hj] at h
  exact ⟨j, by omega, by omega, rfl⟩
set_option maxRecDepth 4000 in
set_option maxHeartbeats 1000000 in
theorem s_numbersOf {h : zH} {c : Int32} : zCT mX5_numbersOf [.int c] 222 (h) 222 (fun r h' => r = some (aNof c) ∧ h' = h) := by
  intro X Q hQ
  show zJ X mX5_numbersOf 222 0 [.int c] [] 222 (h) Q
  refine j_iload_n dX5_numbersOf_0 rfl ?_
  by_cases hv : c.toInt < 98 ∨ (117 : Int) < c.toInt
  rotate_left
  obtain ⟨j, hj1, hj2, rfl⟩ := z_sw2 (m := 98) (n := 117) (by omega) hv
  rcases (show j = 98 ∨ j = 99 ∨ j = 100 ∨ j = 101 ∨ j = 102 ∨ j = 103 ∨ j = 104 ∨ j = 105 ∨ j = 106 ∨ j = 107 ∨ j = 108 ∨ j = 109 ∨ j = 110 ∨ j = 111 ∨ j = 112 ∨ j = 113 ∨ j = 114 ∨ j = 115 ∨ j = 116 ∨ j = 117 by omega) with rfl | rfl | rfl | rfl | rfl | rfl | rfl | rfl | rfl | rfl | rfl | rfl | rfl | rfl | rfl | rfl | rfl | rfl | rfl | rfl
  · refine j_tableIn dX5_numbersOf_1 (off := 99) (tgt := 100) (by decide) (by decide) rfl rfl ?_
    refine j_iconst (v := 1) dX5_numbersOf_100 (by decide) ?_
    refine j_iret dX5_numbersOf_101 rfl (rfl) ?_
    exact hQ _ _ (z_psT ((by first | rfl | decide)))
  · refine j_tableIn dX5_numbersOf_1 (off := 99) (tgt := 100) (by decide) (by decide) rfl rfl ?_
    refine j_iconst (v := 1) dX5_numbersOf_100 (by decide) ?_
    refine j_iret dX5_numbersOf_101 rfl (rfl) ?_
    exact hQ _ _ (z_psT ((by first | rfl | decide)))
  · refine j_tableIn dX5_numbersOf_1 (off := 103) (tgt := 104) (by decide) (by decide) rfl rfl ?_
    refine j_ldc (v := (-1000004)) dX5_numbersOf_104 cX5_44 ?_
    refine j_iret dX5_numbersOf_106 rfl (rfl) ?_
    exact hQ _ _ (z_psT ((by first | rfl | decide)))
  · refine j_tableIn dX5_numbersOf_1 (off := 103) (tgt := 104) (by decide) (by decide) rfl rfl ?_
    refine j_ldc (v := (-1000004)) dX5_numbersOf_104 cX5_44 ?_
    refine j_iret dX5_numbersOf_106 rfl (rfl) ?_
    exact hQ _ _ (z_psT ((by first | rfl | decide)))
  · refine j_tableIn dX5_numbersOf_1 (off := 103) (tgt := 104) (by decide) (by decide) rfl rfl ?_
    refine j_ldc (v := (-1000004)) dX5_numbersOf_104 cX5_44 ?_
    refine j_iret dX5_numbersOf_106 rfl (rfl) ?_
    exact hQ _ _ (z_psT ((by first | rfl | decide)))
  · refine j_tableIn dX5_numbersOf_1 (off := 103) (tgt := 104) (by decide) (by decide) rfl rfl ?_
    refine j_ldc (v := (-1000004)) dX5_numbersOf_104 cX5_44 ?_
    refine j_iret dX5_numbersOf_106 rfl (rfl) ?_
    exact hQ _ _ (z_psT ((by first | rfl | decide)))
  · refine j_tableIn dX5_numbersOf_1 (off := 103) (tgt := 104) (by decide) (by decide) rfl rfl ?_
    refine j_ldc (v := (-1000004)) dX5_numbersOf_104 cX5_44 ?_
    refine j_iret dX5_numbersOf_106 rfl (rfl) ?_
    exact hQ _ _ (z_psT ((by first | rfl | decide)))
  · refine j_tableIn dX5_numbersOf_1 (off := 103) (tgt := 104) (by decide) (by decide) rfl rfl ?_
    refine j_ldc (v := (-1000004)) dX5_numbersOf_104 cX5_44 ?_
    refine j_iret dX5_numbersOf_106 rfl (rfl) ?_
    exact hQ _ _ (z_psT ((by first | rfl | decide)))
  · refine j_tableIn dX5_numbersOf_1 (off := 103) (tgt := 104) (by decide) (by decide) rfl rfl ?_
    refine j_ldc (v := (-1000004)) dX5_numbersOf_104 cX5_44 ?_
    refine j_iret dX5_numbersOf_106 rfl (rfl) ?_
    exact hQ _ _ (z_psT ((by first | rfl | decide)))
  · refine j_tableIn dX5_numbersOf_1 (off := 103) (tgt := 104) (by decide) (by decide) rfl rfl ?_
    refine j_ldc (v := (-1000004)) dX5_numbersOf_104 cX5_44 ?_
    refine j_iret dX5_numbersOf_106 rfl (rfl) ?_
    exact hQ _ _ (z_psT ((by first | rfl | decide)))
  · refine j_tableIn dX5_numbersOf_1 (off := 97) (tgt := 98) (by decide) (by decide) rfl rfl ?_
    refine j_iconst (v := 2) dX5_numbersOf_98 (by decide) ?_
    refine j_iret dX5_numbersOf_99 rfl (rfl) ?_
    exact hQ _ _ (z_psT ((by first | rfl | decide)))
  · refine j_tableIn dX5_numbersOf_1 (off := 97) (tgt := 98) (by decide) (by decide) rfl rfl ?_
    refine j_iconst (v := 2) dX5_numbersOf_98 (by decide) ?_
    refine j_iret dX5_numbersOf_99 rfl (rfl) ?_
    exact hQ _ _ (z_psT ((by first | rfl | decide)))
  · refine j_tableIn dX5_numbersOf_1 (off := 101) (tgt := 102) (by decide) (by decide) rfl rfl ?_
    refine j_iconst (v := 0) dX5_numbersOf_102 (by decide) ?_
    refine j_iret dX5_numbersOf_103 rfl (rfl) ?_
    exact hQ _ _ (z_psT ((by first | rfl | decide)))
  · refine j_tableIn dX5_numbersOf_1 (off := 103) (tgt := 104) (by decide) (by decide) rfl rfl ?_
    refine j_ldc (v := (-1000004)) dX5_numbersOf_104 cX5_44 ?_
    refine j_iret dX5_numbersOf_106 rfl (rfl) ?_
    exact hQ _ _ (z_psT ((by first | rfl | decide)))
  · refine j_tableIn dX5_numbersOf_1 (off := 95) (tgt := 96) (by decide) (by decide) rfl rfl ?_
    refine j_iconst (v := 4) dX5_numbersOf_96 (by decide) ?_
    refine j_iret dX5_numbersOf_97 rfl (rfl) ?_
    exact hQ _ _ (z_psT ((by first | rfl | decide)))
  · refine j_tableIn dX5_numbersOf_1 (off := 103) (tgt := 104) (by decide) (by decide) rfl rfl ?_
    refine j_ldc (v := (-1000004)) dX5_numbersOf_104 cX5_44 ?_
    refine j_iret dX5_numbersOf_106 rfl (rfl) ?_
    exact hQ _ _ (z_psT ((by first | rfl | decide)))
  · refine j_tableIn dX5_numbersOf_1 (off := 103) (tgt := 104) (by decide) (by decide) rfl rfl ?_
    refine j_ldc (v := (-1000004)) dX5_numbersOf_104 cX5_44 ?_
    refine j_iret dX5_numbersOf_106 rfl (rfl) ?_
    exact hQ _ _ (z_psT ((by first | rfl | decide)))
  · refine j_tableIn dX5_numbersOf_1 (off := 103) (tgt := 104) (by decide) (by decide) rfl rfl ?_
    refine j_ldc (v := (-1000004)) dX5_numbersOf_104 cX5_44 ?_
    refine j_iret dX5_numbersOf_106 rfl (rfl) ?_
    exact hQ _ _ (z_psT ((by first | rfl | decide)))
  · refine j_tableIn dX5_numbersOf_1 (off := 103) (tgt := 104) (by decide) (by decide) rfl rfl ?_
    refine j_ldc (v := (-1000004)) dX5_numbersOf_104 cX5_44 ?_
    refine j_iret dX5_numbersOf_106 rfl (rfl) ?_
    exact hQ _ _ (z_psT ((by first | rfl | decide)))
  · refine j_tableIn dX5_numbersOf_1 (off := 101) (tgt := 102) (by decide) (by decide) rfl rfl ?_
    refine j_iconst (v := 0) dX5_numbersOf_102 (by decide) ?_
    refine j_iret dX5_numbersOf_103 rfl (rfl) ?_
    exact hQ _ _ (z_psT ((by first | rfl | decide)))
  · refine j_tableOut dX5_numbersOf_1 (tgt := 104) (hv) rfl ?_
    refine j_ldc (v := (-1000004)) dX5_numbersOf_104 cX5_44 ?_
    refine j_iret dX5_numbersOf_106 rfl (rfl) ?_
    exact hQ _ _ (z_psT ((aNof_out hv)))
