-- the objects are made
section CK
def v0 (o k : Nat) : Int32 := if o = 33 ∧ k < 3 then 3 else 0
def p0 (i : Nat) : Nat := if i < 8 then 15 + i else if i < 16 then 16 + i else 34
def f0 (k : Nat) : Int32 := if k = 6 then -1 else 0
abbrev z0 : Nat → Int32 := fun _ => 0
/-- what lies at first in the auctions and in the script -/
def FH (a : Nat) : Nat → Value := if a < 142 then tB (2 + 35 * ((a - 2) / 35)) v0 p0 ((a - 2) % 35) else if a = 142 then (fun k => if k = 0 then .ref 143 else if k = 1 then .ref 144 else .int (f0 k)) else if a < 145 then iA z0 else tB (145 + 35 * ((a - 145) / 35)) v0 p0 ((a - 145) % 35)
def gE (s0 a0 : Nat → Value) : zH := fun a => if a = 0 then s0 else if a = 1 then a0 else FH a
variable {s0 a0 : Nat → Value} {B o k : Nat}
theorem FH_B (hB : aB B) (ho : o < 35) : FH (B + o) = tB B v0 p0 o := by
  unfold aB at hB
  unfold FH
  rcases hB with rfl | rfl | rfl | rfl | rfl | rfl
  · rw [if_pos (by omega), show 2 + 35 * ((2 + o - 2) / 35) = 2 by omega, show (2 + o - 2) % 35 = o by omega]
  · rw [if_pos (by omega), show 2 + 35 * ((37 + o - 2) / 35) = 37 by omega, show (37 + o - 2) % 35 = o by omega]
  · rw [if_pos (by omega), show 2 + 35 * ((72 + o - 2) / 35) = 72 by omega, show (72 + o - 2) % 35 = o by omega]
  · rw [if_pos (by omega), show 2 + 35 * ((107 + o - 2) / 35) = 107 by omega, show (107 + o - 2) % 35 = o by omega]
  · rw [if_neg (by omega), if_neg (by omega), if_neg (by omega), show 145 + 35 * ((145 + o - 145) / 35) = 145 by omega, show (145 + o - 145) % 35 = o by omega]
  · rw [if_neg (by omega), if_neg (by omega), if_neg (by omega), show 145 + 35 * ((180 + o - 145) / 35) = 180 by omega, show (180 + o - 145) % 35 = o by omega]
theorem tP_tB (ho : o < 35) (hk : k < zF 0 ∧ o = 0 ∨ (o = 1 ∧ k < 12) ∨ ((o = 14 ∨ o = 23) ∧ k < 8) ∨ (o ≠ 0 ∧ o ≠ 1 ∧ o ≠ 14 ∧ o ≠ 23)) : tP B 35 o k = tB B v0 p0 o k := by
  have e : ∀ t r, t ≤ 35 → pz t 35 r = .ref r := fun t r h => if_pos h
  unfold tP tB
  by_cases h0 : o = 0
  · rw [if_pos h0, if_pos h0, e _ _ (by omega), e _ _ (by omega), e _ _ (by omega), e _ _ (by omega), e _ _ (by omega), e _ _ (by omega)]
    by_cases k9 : k = 9
    · subst k9
      rfl
    · rw [if_neg k9, if_neg k9]
      by_cases k4 : 4 < k
      · rw [if_pos k4, if_neg (by omega), if_neg (by omega), if_neg (by omega), if_neg (by omega), if_neg (by omega)]
        unfold v0
        rw [if_neg (by omega)]
      · rw [if_neg k4]
        rcases (show k = 0 ∨ k = 1 ∨ k = 2 ∨ k = 3 ∨ k = 4 by omega) with rfl | rfl | rfl | rfl | rfl <;> rfl
  · rw [if_neg h0, if_neg h0]
    by_cases h1 : o = 1
    · rw [if_pos h1, if_pos h1, if_pos (by omega), e _ _ (by omega)]
    · rw [if_neg h1, if_neg h1]
      by_cases h14 : o = 14
      · rw [if_pos h14, if_pos h14, if_pos (by omega), if_pos (by omega), e _ _ (by omega)]
        unfold p0
        rw [if_pos (by omega)]
      · rw [if_neg h14, if_neg h14]
        by_cases h23 : o = 23
        · rw [if_pos h23, if_pos h23, if_pos (by omega), if_pos (by omega), e _ _ (by omega)]
          unfold p0
          rw [if_neg (by omega), if_pos (by omega), show 16 + (8 + k) = 24 + k by omega]
        · rw [if_neg h23, if_neg h23]
          unfold v0
          by_cases h33 : o = 33
          · rw [if_pos h33]
            by_cases k3 : k < 3
            · rw [if_pos k3, if_pos (show 34 ≤ 35 by omega), if_pos ⟨h33, k3⟩]
            · rw [if_neg k3, if_neg (fun q => k3 q.2)]
          · rw [if_neg h33, if_neg (fun q => h33 q.1)]
theorem zZ_blk (hB : aB B) (ho : o < 35) (hk : k < zZ (B + o)) : k < zF 0 ∧ o = 0 ∨ (o = 1 ∧ k < 12) ∨ ((o = 14 ∨ o = 23) ∧ k < 8) ∨ (o ≠ 0 ∧ o ≠ 1 ∧ o ≠ 14 ∧ o ≠ 23) := by
  unfold zZ at hk
  rw [aB_S hB ho] at hk
  by_cases h0 : o = 0
  · subst h0
    exact Or.inl ⟨hk, rfl⟩
  · by_cases h1 : o = 1
    · subst h1
      exact Or.inr (Or.inl ⟨rfl, hk⟩)
    · by_cases h14 : o = 14
      · subst h14
        exact Or.inr (Or.inr (Or.inl ⟨Or.inl rfl, hk⟩))
      · by_cases h23 : o = 23
        · subst h23
          exact Or.inr (Or.inr (Or.inl ⟨Or.inr rfl, hk⟩))
        · exact Or.inr (Or.inr (Or.inr ⟨h0, h1, h14, h23⟩))
theorem gE_o {a : Nat} (h : 2 ≤ a) : gE s0 a0 a = FH a := by
  unfold gE
  rw [if_neg (by omega), if_neg (by omega)]
theorem gE_w0 {f : Nat → Value} : va_up (gE s0 a0) 0 f = gE f a0 := by
  funext a
  by_cases h : a = 0
  · subst h
    rw [va_s]
    rfl
  · rw [va_n h]
    unfold gE
    rw [if_neg h, if_neg h]
theorem gE_w1 {f : Nat → Value} : va_up (gE s0 a0) 1 f = gE s0 f := by
  funext a
  by_cases h : a = 1
  · subst h
    rw [va_s]
    rfl
  · rw [va_n h]
    unfold gE
    by_cases h0 : a = 0
    · rw [if_pos h0, if_pos h0]
    · rw [if_neg h0, if_neg h0, if_neg h, if_neg h]
theorem tP_zB : tP B 1 0 = zB 0 := by
  funext k
  rcases (show k = 0 ∨ k = 1 ∨ k = 2 ∨ k = 3 ∨ k = 4 ∨ k = 9 ∨ (4 < k ∧ k ≠ 9) by omega) with rfl | rfl | rfl | rfl | rfl | rfl | h
  · rfl
  · rfl
  · rfl
  · rfl
  · rfl
  · rfl
  · unfold tP zB
    rw [if_pos rfl, if_neg (by omega), if_neg (by omega), if_neg (by omega), if_neg (by omega), if_neg (by omega), if_neg (by omega), if_neg (by omega)]
/-- an auction more -/
theorem i_new0 {X : Nat × (Nat → Int32)} {pc : Nat} {ls st : List Value} {Q : zQt} (hB : aB B) (hd1 : decode (zMb mX4_init) pc = .ok (.new 9, 3)) (hd2 : decode (zMb mX4_init) (pc + 3) = .ok (.dup, 1)) (hd3 : decode (zMb mX4_init) (pc + 4) = .ok (.invokespecial 15, 3)) (hst : (st.map fun v => v.category).sum ≤ 7) (hf : zN (B + 35) - zN 1 ≤ 2201 ∧ zN (B + 35) = zN (B + 1) + 337) (kk : zJ X mX4_init 1 (pc + 7) ls (.ref B :: st) (B + 35) (gE s0 a0) Q) : zJ X mX4_init 1 pc ls st B (gE s0 a0) Q := by
  have hBl : 2 ≤ B ∧ B ≤ 180 := by unfold aB at hB; omega
  have hm := zN_mono (show B + 1 ≤ B + 35 by omega)
  have hm1 := zN_mono (show 1 ≤ B + 1 by omega)
  refine j_new hd1 kX4_9 (aB_S0 hB) (by omega) (by omega) (by show _ ≤ 214; omega) (by show _ ≤ 2201; omega) ?_
  refine j_dup hd2 rfl ?_
  refine j_same (h' := gB (gE s0 a0) B 1) (fun a ha k hk => ?_) ?_
  · by_cases e : a = B
    · subst e
      rw [va_s, gB_a0, tP_zB]
    · rw [va_n e]
      unfold gB
      rw [if_neg (by omega)]
  · refine j_callI (As := []) (n := 0) hd3 vX4_init_15 (i_X0 hB) (by omega) rfl (fun v hv => by cases hv) ?_ (by omega) rfl hf.2 (by show _ + 34 ≤ 214; omega) (by show _ + 337 ≤ 2201; omega) ?_
    · show 1 + (st.map fun v => v.category).sum ≤ 8
      omega
    · rintro _ ⟨-, rfl⟩
      refine j_same (h' := gE s0 a0) (fun a ha k hk => ?_) kk
      by_cases e : B ≤ a
      · obtain ⟨o, rfl⟩ : ∃ o, a = B + o := ⟨a - B, by omega⟩
        have ho : o < 35 := by omega
        rw [gB_at ho, gE_o (by omega), FH_B hB ho, tP_tB ho (zZ_blk hB ho hk)]
      · unfold gB
        rw [if_neg (by omega)]
end CK
set_option maxRecDepth 4000 in
set_option maxHeartbeats 2000000 in
theorem i_X3 {h : zH} (h142 : h 142 = zB 3) : zCT mX3_init [.ref 142] 143 h 145 (fun r h' => r = none ∧ (∀ a, a < 142 → h' a = h a) ∧ h' 142 = (fun k => if k = 0 then .ref 143 else if k = 1 then .ref 144 else .int (f0 k)) ∧ h' 143 = (fun _ => .int 0) ∧ h' 144 = fun _ => .int 0) := by
  intro X Q hQ
  show zJ X mX3_init 143 0 [.ref 142] [] 143 h Q
  refine j_aload_n dX3_init_0 rfl ?_
  refine j_objInit dX3_init_1 nX3_3 z_oiI z_oiC (by decide) (Nat.le_of_ble_eq_true rfl) ?_
  refine j_aload_n dX3_init_4 rfl ?_
  refine j_bipush (v := 60) dX3_init_5 (by decide) ?_
  refine j_newa (t := 1) (n := 60) dX3_init_7 (Or.inr ⟨rfl, rfl⟩) z_arC rfl (by decide) (by decide) (by decide) (by decide) (by decide) (by decide) (by decide +kernel) ?_
  refine j_putF dX3_init_9 fX3_11 fX3_11F rfl rfl (by decide) rfl ?_
  refine j_aload_n dX3_init_12 rfl ?_
  refine j_iconst (v := 4) dX3_init_13 (by decide) ?_
  refine j_newa (t := 0) (n := 4) dX3_init_14 (Or.inl ⟨rfl, rfl⟩) z_arI rfl (by decide) (by decide) (by decide) (by decide) (by decide) (by decide) (by decide +kernel) ?_
  refine j_putF dX3_init_16 fX3_15 fX3_15F rfl rfl (by decide) rfl ?_
  refine j_aload_n dX3_init_19 rfl ?_
  refine j_iconst (v := (-1)) dX3_init_20 (by decide) ?_
  refine j_put dX3_init_21 fX3_19 rfl (by decide) rfl ?_
  refine j_vret dX3_init_24 rfl ?_
  refine hQ _ _ ⟨rfl, fun a ha => ?_, ?_, ?_, ?_⟩
  · have e2 : a ≠ 142 := by omega
    have e3 : a ≠ 143 := by omega
    have e4 : a ≠ 144 := by omega
    simp [va_up, e2, e3, e4]
  · have q : ∀ k, zB 3 k = if k < 2 then Value.null else .int 0 := fun k => by
      unfold zB
      by_cases z : k < 2
      · rw [if_pos z, if_pos (by omega)]
      · rw [if_neg z, if_neg (by omega)]
    funext k
    rcases (show k = 0 ∨ k = 1 ∨ k = 6 ∨ (2 ≤ k ∧ k ≠ 6) by omega) with rfl | rfl | rfl | e
    · simp [va_up, h142]
    · simp [va_up, h142]
    · simp [va_up, h142, f0]
    · have e0 : k ≠ 0 := by omega
      have e1 : k ≠ 1 := by omega
      have e6 : ¬ k < 2 := by omega
      simp [va_up, h142, f0, e0, e1, e6, e.2, q]
  · funext k
    simp [va_up]
  · funext k
    simp [va_up]
set_option maxRecDepth 4000 in
set_option maxHeartbeats 2000000 in
/-- the class's state at first -/
def GH : zH := gO FH (fun i => i) 0
theorem i_X4 {h : zH} (h0 : h 0 = zB 4) : zCT mX4_init [.ref 0] 1 h 215 (fun r h' => r = none ∧ ∀ a, a < 215 → ∀ k, k < zZ a → h' a k = GH a k) := by
  intro X Q hQ
  show zJ X mX4_init 1 0 [.ref 0, .null] [] 1 h Q
  refine j_same (h' := gE (zB 4) (fun _ => .null)) (fun a ha k hk => ?_) ?_
  · obtain rfl : a = 0 := by omega
    rw [h0]
    rfl
  refine j_aload_n dX4_init_0 rfl ?_
  refine j_objInit dX4_init_1 nX4_1 z_oiI z_oiC (by decide) (Nat.le_of_ble_eq_true rfl) ?_
  refine j_aload_n dX4_init_4 rfl ?_
  refine j_iconst (v := 4) dX4_init_5 (by decide) ?_
  refine j_anew (t := 0) (n := 4) dX4_init_6 (by decide) (fun r hr => by cases hr; exact aX4_9) rfl (by decide) (by decide) (by decide) (by decide) (by decide) (by decide) (by decide +kernel) ?_
  rw [gE_w1]
  refine j_putF dX4_init_9 fX4_11 fX4_11F rfl rfl (by decide) rfl ?_
  rw [gE_w0]
  refine j_iconst (v := 0) dX4_init_12 (by decide) ?_
  refine j_istore_n dX4_init_13 (by decide) ?_
  refine j_iload_n dX4_init_14 rfl ?_
  refine j_aload_n dX4_init_15 rfl ?_
  refine j_get (v := .ref 1) dX4_init_16 fX4_11 rfl (by decide) rfl ?_
  refine j_alen (n := 4) (t := 2) (v := 4) dX4_init_19 rfl (by decide) (by decide) rfl ?_
  refine j_icmp_ge dX4_init_20 (tgt := 42) rfl (fun c => absurd c (show ¬ (4 : Int32) ≤ nI 0 by decide)) (fun _ => ?_)
  refine j_aload_n dX4_init_23 rfl ?_
  refine j_get (v := .ref 1) dX4_init_24 fX4_11 rfl (by decide) rfl ?_
  refine j_iload_n dX4_init_27 rfl ?_
  refine i_new0 (B := 2) (by unfold aB; omega) dX4_init_28 dX4_init_31 dX4_init_32 (Nat.le_of_ble_eq_true rfl) ⟨by decide +kernel, by decide +kernel⟩ ?_
  refine kn_aast (n := 4) (t := 0) 0 dX4_init_35 rfl (by decide) (by decide) rfl (by decide) (by decide) rfl (by decide) ?_
  rw [gE_w1]
  refine j_iinc (v := nI 1) dX4_init_36 rfl (by decide) (by decide) ?_
  refine j_goto dX4_init_39 (tgt := 14) rfl ?_
  refine j_iload_n dX4_init_14 rfl ?_
  refine j_aload_n dX4_init_15 rfl ?_
  refine j_get (v := .ref 1) dX4_init_16 fX4_11 rfl (by decide) rfl ?_
  refine j_alen (n := 4) (t := 2) (v := 4) dX4_init_19 rfl (by decide) (by decide) rfl ?_
  refine j_icmp_ge dX4_init_20 (tgt := 42) rfl (fun c => absurd c (show ¬ (4 : Int32) ≤ nI 1 by decide)) (fun _ => ?_)
  refine j_aload_n dX4_init_23 rfl ?_
  refine j_get (v := .ref 1) dX4_init_24 fX4_11 rfl (by decide) rfl ?_
  refine j_iload_n dX4_init_27 rfl ?_
  refine i_new0 (B := 37) (by unfold aB; omega) dX4_init_28 dX4_init_31 dX4_init_32 (Nat.le_of_ble_eq_true rfl) ⟨by decide +kernel, by decide +kernel⟩ ?_
  refine kn_aast (n := 4) (t := 0) 1 dX4_init_35 rfl (by decide) (by decide) rfl (by decide) (by decide) rfl (by decide) ?_
  rw [gE_w1]
  refine j_iinc (v := nI 2) dX4_init_36 rfl (by decide) (by decide) ?_
  refine j_goto dX4_init_39 (tgt := 14) rfl ?_
  refine j_iload_n dX4_init_14 rfl ?_
  refine j_aload_n dX4_init_15 rfl ?_
  refine j_get (v := .ref 1) dX4_init_16 fX4_11 rfl (by decide) rfl ?_
  refine j_alen (n := 4) (t := 2) (v := 4) dX4_init_19 rfl (by decide) (by decide) rfl ?_
  refine j_icmp_ge dX4_init_20 (tgt := 42) rfl (fun c => absurd c (show ¬ (4 : Int32) ≤ nI 2 by decide)) (fun _ => ?_)
  refine j_aload_n dX4_init_23 rfl ?_
  refine j_get (v := .ref 1) dX4_init_24 fX4_11 rfl (by decide) rfl ?_
  refine j_iload_n dX4_init_27 rfl ?_
  refine i_new0 (B := 72) (by unfold aB; omega) dX4_init_28 dX4_init_31 dX4_init_32 (Nat.le_of_ble_eq_true rfl) ⟨by decide +kernel, by decide +kernel⟩ ?_
  refine kn_aast (n := 4) (t := 0) 2 dX4_init_35 rfl (by decide) (by decide) rfl (by decide) (by decide) rfl (by decide) ?_
  rw [gE_w1]
  refine j_iinc (v := nI 3) dX4_init_36 rfl (by decide) (by decide) ?_
  refine j_goto dX4_init_39 (tgt := 14) rfl ?_
  refine j_iload_n dX4_init_14 rfl ?_
  refine j_aload_n dX4_init_15 rfl ?_
  refine j_get (v := .ref 1) dX4_init_16 fX4_11 rfl (by decide) rfl ?_
  refine j_alen (n := 4) (t := 2) (v := 4) dX4_init_19 rfl (by decide) (by decide) rfl ?_
  refine j_icmp_ge dX4_init_20 (tgt := 42) rfl (fun c => absurd c (show ¬ (4 : Int32) ≤ nI 3 by decide)) (fun _ => ?_)
  refine j_aload_n dX4_init_23 rfl ?_
  refine j_get (v := .ref 1) dX4_init_24 fX4_11 rfl (by decide) rfl ?_
  refine j_iload_n dX4_init_27 rfl ?_
  refine i_new0 (B := 107) (by unfold aB; omega) dX4_init_28 dX4_init_31 dX4_init_32 (Nat.le_of_ble_eq_true rfl) ⟨by decide +kernel, by decide +kernel⟩ ?_
  refine kn_aast (n := 4) (t := 0) 3 dX4_init_35 rfl (by decide) (by decide) rfl (by decide) (by decide) rfl (by decide) ?_
  rw [gE_w1]
  refine j_iinc (v := nI 4) dX4_init_36 rfl (by decide) (by decide) ?_
  refine j_goto dX4_init_39 (tgt := 14) rfl ?_
  refine j_iload_n dX4_init_14 rfl ?_
  refine j_aload_n dX4_init_15 rfl ?_
  refine j_get (v := .ref 1) dX4_init_16 fX4_11 rfl (by decide) rfl ?_
  refine j_alen (n := 4) (t := 2) (v := 4) dX4_init_19 rfl (by decide) (by decide) rfl ?_
  refine j_icmp_ge dX4_init_20 (tgt := 42) rfl (fun _ => ?_) (fun c => absurd (show (4 : Int32) ≤ nI 4 by decide) c)
  refine j_aload_n dX4_init_42 rfl ?_
  refine j_new dX4_init_43 kX4_16 rfl (by decide) (by decide) (by decide) (by decide +kernel) ?_
  refine j_dup dX4_init_46 rfl ?_
  refine j_callI (As := []) (n := 0) dX4_init_47 vX4_init_18 (i_X3 va_s) (by decide) rfl (fun v hv => by cases hv) (Nat.le_of_ble_eq_true rfl) (by decide) rfl (by decide +kernel) (by decide) (by decide +kernel) ?_
  rintro h3 ⟨-, g1, g2, g3, g4⟩
  refine j_same (h' := gE (va_up (zB 4) 0 (.ref 1)) (va_up (va_up (va_up (va_up (fun _ => .null) 0 (.ref 2)) 1 (.ref 37)) 2 (.ref 72)) 3 (.ref 107))) (fun a ha k hk => ?_) ?_
  · by_cases e : a < 142
    · rw [g1 a e, va_n (by omega)]
      rfl
    · rw [gE_o (by omega)]
      rcases (show a = 142 ∨ a = 143 ∨ a = 144 by omega) with rfl | rfl | rfl
      · rw [g2]
        rfl
      · rw [g3]
        rfl
      · rw [g4]
        rfl
  refine j_putF dX4_init_50 fX4_19 fX4_19F rfl rfl (by decide) rfl ?_
  rw [gE_w0]
  refine j_aload_n dX4_init_53 rfl ?_
  refine j_iconst (v := 0) dX4_init_54 (by decide) ?_
  refine j_put dX4_init_55 fX4_23 rfl (by decide) rfl ?_
  rw [gE_w0]
  refine j_aload_n dX4_init_58 rfl ?_
  refine i_new0 (B := 145) (by unfold aB; omega) dX4_init_59 dX4_init_62 dX4_init_63 (Nat.le_of_ble_eq_true rfl) ⟨by decide +kernel, by decide +kernel⟩ ?_
  refine j_put dX4_init_66 fX4_27 rfl (by decide) rfl ?_
  rw [gE_w0]
  refine j_aload_n dX4_init_69 rfl ?_
  refine i_new0 (B := 180) (by unfold aB; omega) dX4_init_70 dX4_init_73 dX4_init_74 (Nat.le_of_ble_eq_true rfl) ⟨by decide +kernel, by decide +kernel⟩ ?_
  refine j_put dX4_init_77 fX4_31 rfl (by decide) rfl ?_
  rw [gE_w0]
  refine j_vret dX4_init_80 rfl ?_
  refine hQ _ _ ⟨rfl, fun a ha k hk => ?_⟩
  by_cases a0 : a = 0
  · subst a0
    have hk5 : k < 5 := hk
    rcases (show k = 0 ∨ k = 1 ∨ k = 2 ∨ k = 3 ∨ k = 4 by omega) with rfl | rfl | rfl | rfl | rfl <;> rfl
  · by_cases a1 : a = 1
    · subst a1
      have hk4 : k < 4 := hk
      rcases (show k = 0 ∨ k = 1 ∨ k = 2 ∨ k = 3 by omega) with rfl | rfl | rfl | rfl <;> rfl
    · rw [gE_o (by omega)]
      show FH a k = gO FH (fun i => i) 0 a k
      rw [gO_o (by omega)]
