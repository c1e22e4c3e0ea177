-- the mean
section MN
theorem nn32 {x : UInt32} (h : FP.Core.val32 x ≠ .nan) : vf_n32 x := by
  unfold vf_n32
  rw [UInt32.le_iff_toNat_le, UInt32.toNat_and]
  have e1 : (0x7fffffff : UInt32).toNat = 2 ^ 31 - 1 := by decide
  have e2 : (0x7f800000 : UInt32).toNat = 2139095040 := by decide
  rw [e1, e2, Nat.and_two_pow_sub_one_eq_mod]
  have hE : FP.Core.fieldE FP.Core.b32 x.toNat = x.toNat / 8388608 % 256 := rfl
  have hT : FP.Core.fieldT FP.Core.b32 x.toNat = x.toNat % 8388608 := rfl
  have hx : FP.Core.Fmt.exps FP.Core.b32 = 256 := by decide
  have key : ¬ (x.toNat / 8388608 % 256 = 255 ∧ ¬ x.toNat % 8388608 = 0) := by
    rintro ⟨a, b⟩
    refine h ?_
    unfold FP.Core.val32 FP.Core.decode
    rw [if_pos (by rw [hE, hx, a]), if_neg (by rw [hT]; exact b)]
  have hlt := x.toNat_lt
  omega
theorem cmp_self {x : UInt32} {s : Bool} {c : Nat} {q : Int} (h : FP.Core.val32 x = .fin s c q) : Op.cmpValue (FP.fcmp x x) .l = 0 := by
  have e : FP.fcmp x x = FP.Core.order (.fin s c q) (.fin s c q) := by
    show FP.Core.order (FP.Core.val32 x) (FP.Core.val32 x) = _
    rw [h]
  rw [e]
  have h2 : ∀ i : Int, Op.cmpValue (some (compare i i)) .l = 0 := fun i => by
    have : compare i i = Ordering.eq := by simp [compare, compareOfLessAndEq]
    rw [this]
    rfl
  exact h2 _
/-- the mean's bits, as both have it -/
def mn (s : Nat → Int32) : Int32 := if s 202 = 0 then -1000004 else (FP.fdiv (FP.i2f (s 205)) (FP.i2f (s 202))).toInt32
theorem mn_ok {s : Nat → Int32} (hM : aM s) (h0 : ¬ s 202 = 0) : ∃ m E : Nat, E ≤ 14 ∧ m < 8388608 ∧ FP.Core.val32 (FP.fdiv (FP.i2f (s 205)) (FP.i2f (s 202))) = .fin false (m + 8388608) ((E : Int) - 23) := by
  have hN := hM.1.1.1.2
  obtain ⟨a, b, e1, e2, e3, e4⟩ := hM.1.2.2.2.1
  have hc := aSm_le (c := 10) (aNn s) hM.1.2.2.2.2
  have ha : 0 < a := Nat.pos_of_ne_zero (fun q => h0 (by rw [e1, q]; rfl))
  obtain ⟨c, E, h1, h2, h3, h4⟩ := div_n (a := b) (b := a) ha e3 (by omega)
  refine ⟨c - 8388608, E, h1, by omega, ?_⟩
  rw [e1, e2, h4, Nat.sub_add_cancel h2]
end MN
set_option maxRecDepth 4000 in
set_option maxHeartbeats 2000000 in
theorem o_bits_tl {h : zH} {x r : UInt32} {i m : Nat} (hi : i ≤ 127) (hm : m < 8388608) (hr : FP.Core.val32 r = .fin false (m + 8388608) (-23)) {y : Value} {X : Nat × (Nat → Int32)} {Q : zQt} (hQ : ∀ r' h', (r' = some (nI ((127 + i) * 8388608) + nI m) ∧ h' = h) → Q r' 222 h') : zJ X mX4_bitsOf 222 26 [.float x, .float r, .int (nI i), y] [] 222 h Q := by
  obtain ⟨hf1, hf2, hf3⟩ := frac_n hm hr
  refine j_fload_n dX4_bitsOf_26 rfl ?_
  refine j_fconst1 dX4_bitsOf_27 ?_
  refine j_fsub dX4_bitsOf_28 (nn32 hf1) ?_
  refine j_ldcf (v := 1258291200) dX4_bitsOf_29 cX4_209 ?_
  refine j_fmul dX4_bitsOf_31 (nn32 hf2) ?_
  refine j_f2i dX4_bitsOf_32 ?_
  refine j_istore_n dX4_bitsOf_33 (by decide) ?_
  refine j_bipush (v := 127) dX4_bitsOf_34 (by decide) ?_
  refine j_iload_n dX4_bitsOf_36 rfl ?_
  refine j_iadd dX4_bitsOf_37 ?_
  refine j_bipush (v := 23) dX4_bitsOf_38 (by decide) ?_
  refine j_ishl dX4_bitsOf_40 ?_
  refine j_iload_n dX4_bitsOf_41 rfl ?_
  refine j_iadd dX4_bitsOf_42 ?_
  refine j_iret dX4_bitsOf_43 rfl (rfl) ?_
  refine hQ _ _ ⟨?_, rfl⟩
  rw [hf3, show (127 : Int32) + nI i = nI (127 + i) from nI_add 127 i, shl23 _ (by omega)]
set_option maxRecDepth 4000 in
set_option maxHeartbeats 2000000 in
theorem o_bits_lp {h : zH} {x : UInt32} {m : Nat} (hm : m < 8388608) {y : Value} {X : Nat × (Nat → Int32)} {Q : zQt} : ∀ (E i : Nat) (r : UInt32), i + E ≤ 14 → FP.Core.val32 r = .fin false (m + 8388608) ((E : Int) - 23) → (∀ r' h', (r' = some (nI ((127 + (i + E)) * 8388608) + nI m) ∧ h' = h) → Q r' 222 h') → zJ X mX4_bitsOf 222 4 [.float x, .float r, .int (nI i), y] [] 222 h Q := by
  intro E
  induction E with
  | zero =>
    intro i r hiE hr hQ
    refine j_iload_n dX4_bitsOf_4 rfl ?_
    refine j_bipush (v := 127) dX4_bitsOf_5 (by decide) ?_
    refine j_icmp_ge dX4_bitsOf_7 (tgt := 26) rfl (fun c1 => absurd c1 (show ¬ (127 : Int32) ≤ nI i from nI_ge (a := i) (b := 127) (by omega) (by omega))) (fun _ => ?_)
    refine j_fload_n dX4_bitsOf_10 rfl ?_
    refine j_fconst2 dX4_bitsOf_11 ?_
    refine j_fcmp dX4_bitsOf_12 ?_
    refine j_if_lt dX4_bitsOf_13 (tgt := 26) rfl (fun _ => ?_) (fun c2 => absurd ((cmp_n (E := 0) (by omega) (by omega) (by omega) hr).mpr rfl) c2)
    exact o_bits_tl (by omega) hm (by rw [hr]; rfl) (by rw [Nat.add_zero] at hQ; exact hQ)
  | succ E ih =>
    intro i r hiE hr hQ
    refine j_iload_n dX4_bitsOf_4 rfl ?_
    refine j_bipush (v := 127) dX4_bitsOf_5 (by decide) ?_
    refine j_icmp_ge dX4_bitsOf_7 (tgt := 26) rfl (fun c1 => absurd c1 (show ¬ (127 : Int32) ≤ nI i from nI_ge (a := i) (b := 127) (by omega) (by omega))) (fun _ => ?_)
    refine j_fload_n dX4_bitsOf_10 rfl ?_
    refine j_fconst2 dX4_bitsOf_11 ?_
    refine j_fcmp dX4_bitsOf_12 ?_
    refine j_if_lt dX4_bitsOf_13 (tgt := 26) rfl (fun c2 => absurd c2 (fun q => by have := (cmp_n (E := E + 1) (by omega) (by omega) (by omega) hr).mp q; omega)) (fun _ => ?_)
    refine j_fload_n dX4_bitsOf_16 rfl ?_
    refine j_fconst2 dX4_bitsOf_17 ?_
    refine j_fdiv dX4_bitsOf_18 (nn32 (by rw [half_n (c := m + 8388608) (E := E) (by omega) (by omega) (by omega) (by rw [hr]; congr 1)]; exact fin_nn)) ?_
    refine j_fstore_n dX4_bitsOf_19 (by decide) ?_
    refine j_iinc (v := nI (i + 1)) dX4_bitsOf_20 rfl z_inc (by decide) ?_
    refine j_goto dX4_bitsOf_23 (tgt := 4) rfl ?_
    refine ih (i + 1) _ (by omega) (half_n (c := m + 8388608) (E := E) (by omega) (by omega) (by omega) (by rw [hr]; congr 1)) ?_
    rw [show i + 1 + E = i + (E + 1) by omega]
    exact hQ
set_option maxRecDepth 4000 in
set_option maxHeartbeats 2000000 in
theorem o_bits {h : zH} {x : UInt32} {m E : Nat} (hE : E ≤ 14) (hm : m < 8388608) (hr : FP.Core.val32 x = .fin false (m + 8388608) ((E : Int) - 23)) : zCT mX4_bitsOf [.float x] 222 h 222 (fun r h' => r = some x.toInt32 ∧ h' = h) := by
  intro X Q hQ
  show zJ X mX4_bitsOf 222 0 [.float x, .null, .null, .null] [] 222 h Q
  refine j_fload_n dX4_bitsOf_0 rfl ?_
  refine j_fstore_n dX4_bitsOf_1 (by decide) ?_
  refine j_iconst (v := 0) dX4_bitsOf_2 (by decide) ?_
  refine j_istore_n dX4_bitsOf_3 (by decide) ?_
  refine o_bits_lp hm E 0 x (by omega) hr (fun r' h' q => hQ r' h' ?_)
  rw [Nat.zero_add] at q
  rw [bits_n (r := x) (c := m + 8388608) (E := E) (by omega) (by omega) (by omega) hr, Nat.add_sub_cancel]
  exact q
set_option maxRecDepth 4000 in
set_option maxHeartbeats 2000000 in
theorem o_mean {h : zH} {s pa tx : Nat → Int32} {n T : Nat} (hc : CH h s pa n tx T) (hM : aM s)  : zCT mX4_mean [.ref 0] 222 h 222 (fun r h' => r = some (mn s) ∧ h' = h) := by
  obtain ⟨π, V, P, f, nm, hq, hS, hH⟩ := hc
  have hI : aIa s (aNn s) (aWn s) := hM.1.1
  obtain ⟨Kn, hKn, hA⟩ := AT_of hS hI
  have hN := hA.1
  have hb4 := CQ_bk hq (i := 4) (by omega)
  have hb5 := CQ_bk hq (i := 5) (by omega)
  have hne : ¬ bs (π 5) = bs (π 4) := CQ_ne hq (by omega) (by omega) (by omega)
  have h45 : π 4 ≠ π 5 := fun e => hne (by rw [e])
  have hh5 : ∀ i, i < n → π i ≠ π 5 := fun i hi e => by
    have := hq.1.2 i 5 (by have := CQ_n4 hq; omega) (by omega) e
    have := CQ_n4 hq
    omega
  have hB := bs_B (π 4)
  have hL := hA.2.1.1 16 (by omega)
  have hP := hA.2.1
  intro X Q hQ
  show zJ X mX4_mean 222 0 [.ref 0, .null] [] 222 h Q
  refine z_to (zBk_self hb4.1).symm ?_
  refine j_aload_n dX4_mean_0 rfl ?_
  refine j_get (v := .ref (bs (π 4))) dX4_mean_1 fX4_27 rfl (by decide) ((congrFun (zb_lo hB (by omega)) _).trans ((CQ_rd hq 0 3).trans gO_now)) ?_
  refine j_get dX4_mean_4 fX4_147 (aB_S0 hB) (aB_l0 hB) zb_p3 ?_
  refine j_iconst (v := 0) dX4_mean_7 (by decide) ?_
  refine k_iald (n := 4) 0 dX4_mean_8 (aB_S hB (by decide)) (aB_lt hB (by decide)) (rfl) (by omega) (by decide) ((zb_int (by unfold tI; omega)).trans (congrArg Value.int (show _ = s 202 from ar_s hA 32 0 (by decide)))) ?_
  refine j_istore_n dX4_mean_9 (by decide) ?_
  refine j_iload_n dX4_mean_10 rfl ?_
  refine j_if_ne dX4_mean_11 (tgt := 17) rfl (fun c1 => ?_) (fun c1 => ?_)
  · obtain ⟨m, E, hE, hm, hr⟩ := mn_ok hM ‹¬ s 202 = 0›
    refine j_aload_n dX4_mean_17 rfl ?_
    refine j_get (v := .ref (bs (π 4))) dX4_mean_18 fX4_27 rfl (by decide) ((congrFun (zb_lo hB (by omega)) _).trans ((CQ_rd hq 0 3).trans gO_now)) ?_
    refine j_get (v := .int (s 205)) dX4_mean_21 fX4_151 (aB_S0 hB) (aB_l0 hB) ((zb_int0 (by unfold tI; decide)).trans (congrArg Value.int (ar_s hA 0 13 (by decide)))) ?_
    refine j_i2f dX4_mean_24 ?_
    refine j_iload_n dX4_mean_25 rfl ?_
    refine j_i2f dX4_mean_26 ?_
    refine j_fdiv dX4_mean_27 (nn32 (by rw [hr]; exact fin_nn)) ?_
    refine k_callS1i dX4_mean_28 vX4_mean_174 (o_bits hE hm hr) rfl (Nat.le_of_ble_eq_true rfl) ⟨rfl, rfl⟩ rfl ?_
    rintro _ _ ⟨⟨⟩, rfl⟩
    refine j_iret dX4_mean_31 rfl (rfl) ?_
    exact hQ _ _ ⟨congrArg some ((if_neg c1).trans (rfl)).symm, zBk_self hb4.1⟩
  · refine j_ldc (v := (-1000004)) dX4_mean_14 cX4_115 ?_
    refine j_iret dX4_mean_16 rfl (rfl) ?_
    exact hQ _ _ ⟨congrArg some ((if_pos c1).trans (rfl)).symm, zBk_self hb4.1⟩
set_option maxRecDepth 4000 in
set_option maxHeartbeats 2000000 in
theorem s_isNaN {h : zH} {x : UInt32} (hc : Op.cmpValue (FP.fcmp x x) .l = 0) : zCT mJxf58ca_isNaN_12338 [.float x] 222 h 222 (fun r h' => r = some 0 ∧ h' = h) := by
  intro X Q hQ
  show zJ X mJxf58ca_isNaN_12338 222 0 [.float x] [] 222 h Q
  refine j_fload_n dJxf58ca_isNaN_12338_0 rfl ?_
  refine j_fload_n dJxf58ca_isNaN_12338_1 rfl ?_
  refine j_fcmp dJxf58ca_isNaN_12338_2 ?_
  refine j_if_eq dJxf58ca_isNaN_12338_3 (tgt := 10) rfl (fun _ => ?_) (fun c1 => absurd hc c1)
  refine j_iconst (v := 0) dJxf58ca_isNaN_12338_10 (by decide) ?_
  refine j_iret dJxf58ca_isNaN_12338_11 rfl (rfl) ?_
  exact hQ _ _ ⟨rfl, rfl⟩
set_option maxRecDepth 4000 in
set_option maxHeartbeats 2000000 in
theorem s_f2b {h : zH} {x : UInt32} (hc : Op.cmpValue (FP.fcmp x x) .l = 0) : zCT mJxf58ca_floatToIntBits_5c35a [.float x] 222 h 222 (fun r h' => r = some x.toInt32 ∧ h' = h) := by
  intro X Q hQ
  show zJ X mJxf58ca_floatToIntBits_5c35a 222 0 [.float x] [] 222 h Q
  refine j_fload_n dJxf58ca_floatToIntBits_5c35a_0 rfl ?_
  refine k_callS1i dJxf58ca_floatToIntBits_5c35a_1 vJxf58ca_floatToIntBits_5c35a_59 (s_isNaN hc) rfl (Nat.le_of_ble_eq_true rfl) ⟨rfl, rfl⟩ rfl ?_
  rintro _ _ ⟨⟨⟩, rfl⟩
  refine j_if_ne dJxf58ca_floatToIntBits_5c35a_4 (tgt := 12) rfl (fun c1 => absurd c1 (fun h => h rfl)) (fun _ => ?_)
  refine j_fload_n dJxf58ca_floatToIntBits_5c35a_7 rfl ?_
  refine j_f2bits dJxf58ca_floatToIntBits_5c35a_8 nJxf58ca_74 z_fN z_fS z_fI (by decide) (Nat.le_of_ble_eq_true rfl) ?_
  refine j_iret dJxf58ca_floatToIntBits_5c35a_11 rfl (rfl) ?_
  exact hQ _ _ ⟨rfl, rfl⟩
set_option maxRecDepth 4000 in
set_option maxHeartbeats 2000000 in
theorem s_mean {g : zH} (hg : gP g) {s : Nat → Int32} (hM : aM s) : zCT mX5_mean [.ref 215] 222 (gS g s) 222 (fun r h' => r = some (mn s) ∧ h' = gS g s) := by
  intro X Q hQ
  show zJ X mX5_mean 222 0 [.ref 215, .null, .null] [] 222 (gS g s) Q
  refine j_aload_n dX5_mean_0 rfl ?_
  refine j_get (v := .ref 216) dX5_mean_1 fX5_7 rfl (by decide) (gS_p0 hg) ?_
  refine j_sipush (v := 205) dX5_mean_4 (by decide) ?_
  refine s_ald 205 dX5_mean_7 (rfl) (by decide) ?_
  refine j_i2f dX5_mean_8 ?_
  refine j_fstore_n dX5_mean_9 (by decide) ?_
  refine j_aload_n dX5_mean_10 rfl ?_
  refine j_get (v := .ref 216) dX5_mean_11 fX5_7 rfl (by decide) (gS_p0 hg) ?_
  refine j_sipush (v := 202) dX5_mean_14 (by decide) ?_
  refine s_ald 202 dX5_mean_17 (rfl) (by decide) ?_
  refine j_i2f dX5_mean_18 ?_
  refine j_fstore_n dX5_mean_19 (by decide) ?_
  refine j_aload_n dX5_mean_20 rfl ?_
  refine j_get (v := .ref 216) dX5_mean_21 fX5_7 rfl (by decide) (gS_p0 hg) ?_
  refine j_sipush (v := 202) dX5_mean_24 (by decide) ?_
  refine s_ald 202 dX5_mean_27 (rfl) (by decide) ?_
  refine j_if_ne dX5_mean_28 (tgt := 36) rfl (fun c1 => ?_) (fun c1 => ?_)
  · obtain ⟨m, E, hE, hm, hr⟩ := mn_ok hM ‹¬ s 202 = 0›
    refine j_fload_n dX5_mean_36 rfl ?_
    refine j_fload_n dX5_mean_37 rfl ?_
    refine j_fdiv dX5_mean_38 (nn32 (by rw [hr]; exact fin_nn)) ?_
    refine k_callS1i dX5_mean_39 vX5_mean_118 (s_f2b (cmp_self hr)) rfl (Nat.le_of_ble_eq_true rfl) ⟨rfl, rfl⟩ rfl ?_
    rintro _ _ ⟨⟨⟩, rfl⟩
    refine j_iret dX5_mean_42 rfl (rfl) ?_
    exact hQ _ _ (zb_r ((if_neg c1).trans (rfl)))
  · refine j_ldc (v := (-1000004)) dX5_mean_31 cX5_44 ?_
    refine j_goto dX5_mean_33 (tgt := 42) rfl ?_
    refine j_iret dX5_mean_42 rfl (rfl) ?_
    exact hQ _ _ (zb_r ((if_pos c1).trans (rfl)))
theorem law_all {X : Nat × (Nat → Int32)} (hL : X.1 ≤ 2560) {Q : zQt} (hQ : ∀ h', Q (some 1) 222 h') {h : zH} (hLI : LI h) : zJ X mL_law 0 18 [.ref 1000, .ref 0, .ref 215, .int (nI 0)] [] 222 h Q :=
  law_lp hL (mn := mn) (fun hC hM => o_mean hC hM) (fun _ _ hg hM => s_mean hg hM) hQ 2561 0 h (by omega) (by omega) hLI
