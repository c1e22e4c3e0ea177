-- an auction is made
section CI
/-- where a cell gets what it holds in the end -/
def th (o k : Nat) : Nat := if o = 0 then (if k = 0 then 2 else if k = 1 then 15 else if k = 2 then 24 else if k = 3 then 33 else if k = 4 then 34 else if k = 9 then 35 else 0) else if o = 1 then (if k < 12 then k + 3 else 0) else if o = 14 then (if k < 8 then k + 16 else 0) else if o = 23 then (if k < 8 then k + 25 else 0) else if o = 33 then (if k < 3 then 34 else 0) else 0
def pz (t m r : Nat) : Value := if t ≤ m then .ref r else .null
def tP (B m o : Nat) : Nat → Value := fun k => if o = 0 then (if k = 0 then pz 2 m (B + 1) else if k = 1 then pz 15 m (B + 14) else if k = 2 then pz 24 m (B + 23) else if k = 3 then pz 33 m (B + 32) else if k = 4 then pz 34 m (B + 33) else if k = 9 then pz 35 m (B + 34) else .int 0)
  else if o = 1 then (if k < 12 then pz (k + 3) m (B + (2 + k)) else .null) else if o = 14 then (if k < 8 then pz (k + 16) m (B + (15 + k)) else .null) else if o = 23 then (if k < 8 then pz (k + 25) m (B + (24 + k)) else .null) else if o = 33 then (if k < 3 then .int (if 34 ≤ m then 3 else 0) else .int 0) else .int 0
def gB (h : zH) (B m : Nat) : zH := fun a => if B ≤ a ∧ a < B + 35 then tP B m (a - B) else h a
variable {h : zH} {B m o k : Nat}
theorem pz_c {t r : Nat} (ht : t ≠ m + 1) : pz t m r = pz t (m + 1) r := by
  unfold pz
  by_cases q : t ≤ m
  · rw [if_pos q, if_pos (by omega)]
  · rw [if_neg q, if_neg (by omega)]
theorem tP_c (ht : th o k ≠ m + 1) : tP B m o k = tP B (m + 1) o k := by
  unfold th at ht
  unfold tP
  by_cases h0 : o = 0
  · rw [if_pos h0] at ht ⊢
    rw [if_pos h0]
    by_cases k0 : k = 0
    · rw [if_pos k0] at ht ⊢
      rw [if_pos k0]
      exact pz_c ht
    · rw [if_neg k0] at ht ⊢
      rw [if_neg k0]
      by_cases k1 : k = 1
      · rw [if_pos k1] at ht ⊢
        rw [if_pos k1]
        exact pz_c ht
      · rw [if_neg k1] at ht ⊢
        rw [if_neg k1]
        by_cases k2 : k = 2
        · rw [if_pos k2] at ht ⊢
          rw [if_pos k2]
          exact pz_c ht
        · rw [if_neg k2] at ht ⊢
          rw [if_neg k2]
          by_cases k3 : k = 3
          · rw [if_pos k3] at ht ⊢
            rw [if_pos k3]
            exact pz_c ht
          · rw [if_neg k3] at ht ⊢
            rw [if_neg k3]
            by_cases k4 : k = 4
            · rw [if_pos k4] at ht ⊢
              rw [if_pos k4]
              exact pz_c ht
            · rw [if_neg k4] at ht ⊢
              rw [if_neg k4]
              by_cases k9 : k = 9
              · rw [if_pos k9] at ht ⊢
                rw [if_pos k9]
                exact pz_c ht
              · rw [if_neg k9, if_neg k9]
  · rw [if_neg h0] at ht ⊢
    rw [if_neg h0]
    by_cases h1 : o = 1
    · rw [if_pos h1] at ht ⊢
      rw [if_pos h1]
      by_cases q : k < 12
      · rw [if_pos q] at ht ⊢
        rw [if_pos q]
        exact pz_c ht
      · rw [if_neg q, if_neg q]
    · rw [if_neg h1] at ht ⊢
      rw [if_neg h1]
      by_cases h14 : o = 14
      · rw [if_pos h14] at ht ⊢
        rw [if_pos h14]
        by_cases q : k < 8
        · rw [if_pos q] at ht ⊢
          rw [if_pos q]
          exact pz_c ht
        · rw [if_neg q, if_neg q]
      · rw [if_neg h14] at ht ⊢
        rw [if_neg h14]
        by_cases h23 : o = 23
        · rw [if_pos h23] at ht ⊢
          rw [if_pos h23]
          by_cases q : k < 8
          · rw [if_pos q] at ht ⊢
            rw [if_pos q]
            exact pz_c ht
          · rw [if_neg q, if_neg q]
        · rw [if_neg h23] at ht ⊢
          rw [if_neg h23]
          by_cases h33 : o = 33
          · rw [if_pos h33] at ht ⊢
            rw [if_pos h33]
            by_cases q : k < 3
            · rw [if_pos q] at ht ⊢
              rw [if_pos q]
              by_cases z : 34 ≤ m
              · rw [if_pos z, if_pos (by omega)]
              · rw [if_neg z, if_neg (by omega)]
            · rw [if_neg q, if_neg q]
          · rw [if_neg h33, if_neg h33]
theorem gB_at (ho : o < 35) : gB h B m (B + o) = tP B m o := by
  unfold gB
  rw [if_pos (by omega), Nat.add_sub_cancel_left]
theorem gB_a0 : gB h B m B = tP B m 0 := gB_at (o := 0) (by omega)
/-- a cell gets what it holds in the end -/
theorem gB_st {r : Value} (ho : o < 35) (hr : tP B (m + 1) o k = r) (hc : ∀ o' k', th o' k' = m + 1 → o' = o ∧ k' = k) : va_up (gB h B m) (B + o) (va_up (gB h B m (B + o)) k r) = gB h B (m + 1) := by
  funext a
  by_cases ha : a = B + o
  · subst ha
    rw [va_s, gB_at ho]
    funext b
    by_cases hb : b = k
    · subst hb
      rw [va_s, gB_at ho, hr]
    · rw [va_n hb, gB_at ho]
      exact tP_c (fun e => hb (hc _ _ e).2)
  · rw [va_n ha]
    unfold gB
    by_cases hb : B ≤ a ∧ a < B + 35
    · rw [if_pos hb, if_pos hb]
      funext b
      exact tP_c (fun e => ha (by have := (hc _ _ e).1; omega))
    · rw [if_neg hb, if_neg hb]
/-- a cell comes -/
theorem gB_al {f : Nat → Value} (ho : o < 35) (hf : f = tP B m o) : va_up (gB h B m) (B + o) f = gB h B m := by
  funext a
  by_cases ha : a = B + o
  · subst ha
    rw [va_s, gB_at ho, hf]
  · rw [va_n ha]
theorem th_inj {o k o' k' t : Nat} (ht : 2 ≤ t) (h34 : t ≠ 34) (h1 : th o k = t) (h2 : th o' k' = t) : o' = o ∧ k' = k := by
  unfold th at h1 h2
  repeat' split at h1
  all_goals (repeat' split at h2)
  all_goals omega
theorem gB_s {r : Value} (ho : o < 35) (ht : th o k = m + 1) (hm : 1 ≤ m) (h33 : m ≠ 33) (hr : tP B (m + 1) o k = r) : va_up (gB h B m) (B + o) (va_up (gB h B m (B + o)) k r) = gB h B (m + 1) :=
  gB_st ho hr (fun _ _ e => th_inj (by omega) (by omega) ht e)
theorem gB_s0 {r : Value} (ht : th 0 k = m + 1) (hm : 1 ≤ m) (h33 : m ≠ 33) (hr : tP B (m + 1) 0 k = r) : va_up (gB h B m) B (va_up (gB h B m B) k r) = gB h B (m + 1) := gB_s (o := 0) (by omega) ht hm h33 hr
theorem gB_33 : va_up (va_up (va_up (va_up (gB h B 33) (B + 33) (va_up (gB h B 33 (B + 33)) 0 (.int 3))) (B + 33) (va_up (va_up (gB h B 33 (B + 33)) 0 (.int 3)) 1 (.int 3))) (B + 33) (va_up (va_up (va_up (gB h B 33 (B + 33)) 0 (.int 3)) 1 (.int 3)) 2 (.int 3))) B (va_up (gB h B 33 B) 4 (.ref (B + 33))) = gB h B 34 := by
  rw [up_up, up_up]
  funext a
  by_cases h0 : a = B
  · subst h0
    rw [va_s, gB_a0, gB_a0]
    funext b
    by_cases hb : b = 4
    · subst hb
      rw [va_s]
      rfl
    · rw [va_n hb]
      exact tP_c (fun e => by
        unfold th at e
        repeat' split at e
        all_goals omega)
  · rw [va_n h0]
    by_cases h1 : a = B + 33
    · subst h1
      rw [va_s, gB_at (by omega), gB_at (by omega)]
      funext b
      by_cases b2 : b = 2
      · subst b2
        rw [va_s]
        rfl
      · rw [va_n b2]
        by_cases b1 : b = 1
        · subst b1
          rw [va_s]
          rfl
        · rw [va_n b1]
          by_cases b0 : b = 0
          · subst b0
            rw [va_s]
            rfl
          · rw [va_n b0]
            exact tP_c (fun e => by
              unfold th at e
              repeat' split at e
              all_goals omega)
    · rw [va_n h1]
      unfold gB
      by_cases hb : B ≤ a ∧ a < B + 35
      · rw [if_pos hb, if_pos hb]
        funext b
        exact tP_c (fun e => by
          unfold th at e
          repeat' split at e
          all_goals omega)
      · rw [if_neg hb, if_neg hb]
theorem gB_r0 (hm : 2 ≤ m) : gB h B m B 0 = .ref (B + 1) := by
  rw [gB_a0]
  show pz 2 m (B + 1) = _
  unfold pz
  rw [if_pos hm]
theorem gB_r1 (hm : 15 ≤ m) : gB h B m B 1 = .ref (B + 14) := by
  rw [gB_a0]
  show pz 15 m (B + 14) = _
  unfold pz
  rw [if_pos hm]
theorem gB_r2 (hm : 24 ≤ m) : gB h B m B 2 = .ref (B + 23) := by
  rw [gB_a0]
  show pz 24 m (B + 23) = _
  unfold pz
  rw [if_pos hm]
theorem zN_35 (hB : aB B) : zN (B + 35) - zN (B + 1) = 337 := by
  rcases hB with rfl | rfl | rfl | rfl | rfl | rfl <;> decide +kernel
theorem zN_le {nx : Nat} (hB : aB B) (hx : nx ≤ B + 35) : zN nx - zN (B + 1) ≤ 337 := by
  have := zN_mono hx
  have := zN_35 hB
  omega
theorem zA_q {k : Nat} (h : k < 8) : zA (15 + k) = (2, 0) ∧ zA (24 + k) = (2, 0) := ⟨zA_L (by unfold aL; omega), zA_L (by unfold aL; omega)⟩
theorem zB_i (ci : Nat) (h : ci = 1 ∨ ci = 2) : zB ci = fun _ => .int 0 := by
  funext k
  unfold zB
  rw [if_neg (by omega)]
theorem tP_i {B m o : Nat} (h : o ≠ 0 ∧ o ≠ 1 ∧ o ≠ 14 ∧ o ≠ 23 ∧ (o = 33 → m < 34)) : tP B m o = fun _ => .int 0 := by
  funext k
  unfold tP
  rw [if_neg h.1, if_neg h.2.1, if_neg h.2.2.1, if_neg h.2.2.2.1]
  by_cases q : o = 33
  · rw [if_pos q]
    have := h.2.2.2.2 q
    by_cases z : k < 3
    · rw [if_pos z, if_neg (by omega)]
    · rw [if_neg z]
  · rw [if_neg q]
theorem tP_nul {B m o : Nat} (h : (o = 1 ∧ m < 3) ∨ (o = 14 ∧ m < 16) ∨ (o = 23 ∧ m < 25)) : tP B m o = fun _ => .null := by
  funext k
  unfold tP
  have e : ∀ t r, m < t → pz t m r = .null := fun t r q => if_neg (by omega)
  rcases h with ⟨rfl, h⟩ | ⟨rfl, h⟩ | ⟨rfl, h⟩
  · rw [if_neg (by decide), if_pos rfl, e _ _ (by omega)]
    split <;> rfl
  · rw [if_neg (by decide), if_neg (by decide), if_pos rfl, e _ _ (by omega)]
    split <;> rfl
  · rw [if_neg (by decide), if_neg (by decide), if_neg (by decide), if_pos rfl, e _ _ (by omega)]
    split <;> rfl
end CI
section CJ2
variable {X : Nat × (Nat → Int32)} {M : zM} {n0 pc : Nat} {ls st : List Value} {nx : Nat} {h : zH} {Q : zQt}
theorem kn_aast {a n t v : Nat} {i : Int32} (j : Nat) (hd : decode (zMb M) pc = .ok (.aastore, 1)) (hs : zS a = (12 + t, n)) (ht : t < 3) (ha : a < nx) (hi : i = nI j) (hj : j < n) (hn : n ≤ 1000) (hvs : (zS v).1 = t) (hvn : v < nx) (kk : zJ X M n0 (pc + 1) ls st nx (va_up h a (va_up (h a) j (.ref v))) Q) : zJ X M n0 pc ls (.ref v :: .int i :: .ref a :: st) nx h Q :=
  j_aast hd hs ht ha (z_vin hi hj hn) hvs hvn (by rw [hi, z_cl (by omega)]; exact kk)
theorem kn_iast {a n : Nat} {i x : Int32} (j : Nat) (hd : decode (zMb M) pc = .ok (.iastore, 1)) (hs : zS a = (10, n)) (ha : a < nx) (hi : i = nI j) (hj : j < n) (hn : n ≤ 1000) (kk : zJ X M n0 (pc + 1) ls st nx (va_up h a (va_up (h a) j (.int x))) Q) : zJ X M n0 pc ls (.int x :: .int i :: .ref a :: st) nx h Q :=
  j_iast hd hs ha (z_vin hi hj hn) (by rw [hi, z_cl (by omega)]; exact kk)
end CJ2
set_option maxRecDepth 4000 in
set_option maxHeartbeats 2000000 in
theorem i_X1 {nx a : Nat} {h : zH} : zCT mX1_init [.ref a] nx h nx (fun r h' => r = none ∧ h' = h) := by
  intro X Q hQ
  show zJ X mX1_init nx 0 [.ref a] [] nx h Q
  refine j_aload_n dX1_init_0 rfl ?_
  refine j_objInit dX1_init_1 nX1_3 z_oiI z_oiC (by decide) (Nat.le_of_ble_eq_true rfl) ?_
  refine j_vret dX1_init_4 rfl ?_
  exact hQ _ _ ⟨rfl, rfl⟩
set_option maxRecDepth 4000 in
set_option maxHeartbeats 2000000 in
theorem i_X2 {nx a : Nat} {h : zH} : zCT mX2_init [.ref a] nx h nx (fun r h' => r = none ∧ h' = h) := by
  intro X Q hQ
  show zJ X mX2_init nx 0 [.ref a] [] nx h Q
  refine j_aload_n dX2_init_0 rfl ?_
  refine j_objInit dX2_init_1 nX2_3 z_oiI z_oiC (by decide) (Nat.le_of_ble_eq_true rfl) ?_
  refine j_vret dX2_init_4 rfl ?_
  exact hQ _ _ ⟨rfl, rfl⟩
set_option maxRecDepth 4000 in
set_option maxHeartbeats 2000000 in
theorem i_l1 {h : zH} {B : Nat} (hB : aB B) {X : Nat × (Nat → Int32)} {Q : zQt} : ∀ (n k : Nat), k + n = 12 → (k ≤ 12) → (∀ y, zJ X mX0_init (B + 1) 43 [.ref B, y] [] (B + (2 + 12)) (gB h B (2 + 12)) Q) → zJ X mX0_init (B + 1) 15 [.ref B, .int (nI k)] [] (B + (2 + k)) (gB h B (2 + k)) Q := by
  have hBl : 2 ≤ B ∧ B ≤ 180 := by unfold aB at hB; omega
  intro n
  induction n with
  | zero =>
    intro k hk hk2 kk
    obtain rfl : k = 12 := by omega
    refine j_iload_n dX0_init_15 rfl ?_
    refine j_aload_n dX0_init_16 rfl ?_
    refine j_get (v := .ref (B + 1)) dX0_init_17 fX0_13 (aB_S0 hB) (by omega) (gB_r0 (by omega)) ?_
    refine j_alen (n := 12) (t := 3) (v := 12) dX0_init_20 (aB_S hB (o := 1) (by decide)) (by decide) (by omega) rfl ?_
    refine j_icmp_ge dX0_init_21 (tgt := 43) rfl (fun _ => ?_) (fun c1 => absurd (show (12 : Int32) ≤ nI 12 by decide) c1)
    exact kk _
  | succ n ih =>
    intro k hk hk2 kk
    refine j_iload_n dX0_init_15 rfl ?_
    refine j_aload_n dX0_init_16 rfl ?_
    refine j_get (v := .ref (B + 1)) dX0_init_17 fX0_13 (aB_S0 hB) (by omega) (gB_r0 (by omega)) ?_
    refine j_alen (n := 12) (t := 3) (v := 12) dX0_init_20 (aB_S hB (o := 1) (by decide)) (by decide) (by omega) rfl ?_
    refine j_icmp_ge dX0_init_21 (tgt := 43) rfl (fun c1 => absurd c1 (show ¬ (12 : Int32) ≤ nI k from nI_ge (a := k) (b := 12) (by omega) (by omega))) (fun _ => ?_)
    refine j_aload_n dX0_init_24 rfl ?_
    refine j_get (v := .ref (B + 1)) dX0_init_25 fX0_13 (aB_S0 hB) (by omega) (gB_r0 (by omega)) ?_
    refine j_iload_n dX0_init_28 rfl ?_
    refine j_new dX0_init_29 kX0_11 (congrArg Prod.fst ((aB_S (o := (2 + k)) hB (by omega)).trans (zA_b (by omega)))) (by omega) (by omega) (by show _ ≤ 34; omega) (zN_le hB (by omega)) ?_
    rw [gB_al (o := (2 + k)) (by omega) ((zB_i _ (by decide)).trans (tP_i (by omega)).symm)]
    refine j_dup dX0_init_32 rfl ?_
    refine j_callI (As := []) (n := 0) dX0_init_33 vX0_init_17 i_X1 (by omega) rfl (fun v hv => by cases hv) (Nat.le_of_ble_eq_true rfl) (by omega) (Nat.add_zero _).symm (Nat.add_zero _).symm (by show _ ≤ 34; show _ + 0 ≤ 34; omega) (by show _ + 0 ≤ 337; exact (zN_le hB (by omega))) ?_
    rintro _ ⟨-, rfl⟩
    refine kn_aast (n := 12) (t := 1) k dX0_init_36 (aB_S hB (o := 1) (by decide)) (by decide) (by omega) rfl (by omega) (by decide) (by rw [aB_S hB (by omega)]; exact congrArg Prod.fst (zA_b (by omega))) (by omega) ?_
    rw [gB_s (o := 1) (m := (2 + k)) (by omega) (by unfold th; rw [if_neg (by decide), if_pos rfl, if_pos (by omega)]; omega) (by omega) (by omega) (by unfold tP; rw [if_neg (by decide), if_pos rfl, if_pos (by omega)]; exact if_pos (by omega))]
    refine j_iinc (v := nI (k + 1)) dX0_init_37 rfl z_inc (by decide) ?_
    refine j_goto dX0_init_40 (tgt := 15) rfl ?_
    rw [show B + (2 + k) + 1 = B + (2 + (k + 1)) by omega, show 2 + k + 1 = 2 + (k + 1) by omega]
    exact ih (k + 1) (by omega) (by omega) kk
set_option maxRecDepth 4000 in
set_option maxHeartbeats 2000000 in
theorem i_l2 {h : zH} {B : Nat} (hB : aB B) {X : Nat × (Nat → Int32)} {Q : zQt} : ∀ (n k : Nat), k + n = 8 → (k ≤ 8) → (∀ y, zJ X mX0_init (B + 1) 82 [.ref B, y] [] (B + (15 + 8)) (gB h B (15 + 8)) Q) → zJ X mX0_init (B + 1) 54 [.ref B, .int (nI k)] [] (B + (15 + k)) (gB h B (15 + k)) Q := by
  have hBl : 2 ≤ B ∧ B ≤ 180 := by unfold aB at hB; omega
  intro n
  induction n with
  | zero =>
    intro k hk hk2 kk
    obtain rfl : k = 8 := by omega
    refine j_iload_n dX0_init_54 rfl ?_
    refine j_aload_n dX0_init_55 rfl ?_
    refine j_get (v := .ref (B + 14)) dX0_init_56 fX0_20 (aB_S0 hB) (by omega) (gB_r1 (by omega)) ?_
    refine j_alen (n := 8) (t := 4) (v := 8) dX0_init_59 (aB_S hB (o := 14) (by decide)) (by decide) (by omega) rfl ?_
    refine j_icmp_ge dX0_init_60 (tgt := 82) rfl (fun _ => ?_) (fun c1 => absurd (show (8 : Int32) ≤ nI 8 by decide) c1)
    exact kk _
  | succ n ih =>
    intro k hk hk2 kk
    refine j_iload_n dX0_init_54 rfl ?_
    refine j_aload_n dX0_init_55 rfl ?_
    refine j_get (v := .ref (B + 14)) dX0_init_56 fX0_20 (aB_S0 hB) (by omega) (gB_r1 (by omega)) ?_
    refine j_alen (n := 8) (t := 4) (v := 8) dX0_init_59 (aB_S hB (o := 14) (by decide)) (by decide) (by omega) rfl ?_
    refine j_icmp_ge dX0_init_60 (tgt := 82) rfl (fun c1 => absurd c1 (show ¬ (8 : Int32) ≤ nI k from nI_ge (a := k) (b := 8) (by omega) (by omega))) (fun _ => ?_)
    refine j_aload_n dX0_init_63 rfl ?_
    refine j_get (v := .ref (B + 14)) dX0_init_64 fX0_20 (aB_S0 hB) (by omega) (gB_r1 (by omega)) ?_
    refine j_iload_n dX0_init_67 rfl ?_
    refine j_new dX0_init_68 kX0_18 (congrArg Prod.fst ((aB_S (o := (15 + k)) hB (by omega)).trans ((zA_q (by omega)).1))) (by omega) (by omega) (by show _ ≤ 34; omega) (zN_le hB (by omega)) ?_
    rw [gB_al (o := (15 + k)) (by omega) ((zB_i _ (by decide)).trans (tP_i (by omega)).symm)]
    refine j_dup dX0_init_71 rfl ?_
    refine j_callI (As := []) (n := 0) dX0_init_72 vX0_init_24 i_X2 (by omega) rfl (fun v hv => by cases hv) (Nat.le_of_ble_eq_true rfl) (by omega) (Nat.add_zero _).symm (Nat.add_zero _).symm (by show _ ≤ 34; show _ + 0 ≤ 34; omega) (by show _ + 0 ≤ 337; exact (zN_le hB (by omega))) ?_
    rintro _ ⟨-, rfl⟩
    refine kn_aast (n := 8) (t := 2) k dX0_init_75 (aB_S hB (o := 14) (by decide)) (by decide) (by omega) rfl (by omega) (by decide) (by rw [aB_S hB (by omega)]; exact congrArg Prod.fst ((zA_q (by omega)).1)) (by omega) ?_
    rw [gB_s (o := 14) (m := (15 + k)) (by omega) (by unfold th; rw [if_neg (by decide), if_neg (by decide), if_pos rfl, if_pos (by omega)]; omega) (by omega) (by omega) (by unfold tP; rw [if_neg (by decide), if_neg (by decide), if_pos rfl, if_pos (by omega)]; exact if_pos (by omega))]
    refine j_iinc (v := nI (k + 1)) dX0_init_76 rfl z_inc (by decide) ?_
    refine j_goto dX0_init_79 (tgt := 54) rfl ?_
    rw [show B + (15 + k) + 1 = B + (15 + (k + 1)) by omega, show 15 + k + 1 = 15 + (k + 1) by omega]
    exact ih (k + 1) (by omega) (by omega) kk
set_option maxRecDepth 4000 in
set_option maxHeartbeats 2000000 in
theorem i_l3 {h : zH} {B : Nat} (hB : aB B) {X : Nat × (Nat → Int32)} {Q : zQt} : ∀ (n k : Nat), k + n = 8 → (k ≤ 8) → (∀ y, zJ X mX0_init (B + 1) 121 [.ref B, y] [] (B + (24 + 8)) (gB h B (24 + 8)) Q) → zJ X mX0_init (B + 1) 93 [.ref B, .int (nI k)] [] (B + (24 + k)) (gB h B (24 + k)) Q := by
  have hBl : 2 ≤ B ∧ B ≤ 180 := by unfold aB at hB; omega
  intro n
  induction n with
  | zero =>
    intro k hk hk2 kk
    obtain rfl : k = 8 := by omega
    refine j_iload_n dX0_init_93 rfl ?_
    refine j_aload_n dX0_init_94 rfl ?_
    refine j_get (v := .ref (B + 23)) dX0_init_95 fX0_25 (aB_S0 hB) (by omega) (gB_r2 (by omega)) ?_
    refine j_alen (n := 8) (t := 4) (v := 8) dX0_init_98 (aB_S hB (o := 23) (by decide)) (by decide) (by omega) rfl ?_
    refine j_icmp_ge dX0_init_99 (tgt := 121) rfl (fun _ => ?_) (fun c1 => absurd (show (8 : Int32) ≤ nI 8 by decide) c1)
    exact kk _
  | succ n ih =>
    intro k hk hk2 kk
    refine j_iload_n dX0_init_93 rfl ?_
    refine j_aload_n dX0_init_94 rfl ?_
    refine j_get (v := .ref (B + 23)) dX0_init_95 fX0_25 (aB_S0 hB) (by omega) (gB_r2 (by omega)) ?_
    refine j_alen (n := 8) (t := 4) (v := 8) dX0_init_98 (aB_S hB (o := 23) (by decide)) (by decide) (by omega) rfl ?_
    refine j_icmp_ge dX0_init_99 (tgt := 121) rfl (fun c1 => absurd c1 (show ¬ (8 : Int32) ≤ nI k from nI_ge (a := k) (b := 8) (by omega) (by omega))) (fun _ => ?_)
    refine j_aload_n dX0_init_102 rfl ?_
    refine j_get (v := .ref (B + 23)) dX0_init_103 fX0_25 (aB_S0 hB) (by omega) (gB_r2 (by omega)) ?_
    refine j_iload_n dX0_init_106 rfl ?_
    refine j_new dX0_init_107 kX0_18 (congrArg Prod.fst ((aB_S (o := (24 + k)) hB (by omega)).trans ((zA_q (by omega)).2))) (by omega) (by omega) (by show _ ≤ 34; omega) (zN_le hB (by omega)) ?_
    rw [gB_al (o := (24 + k)) (by omega) ((zB_i _ (by decide)).trans (tP_i (by omega)).symm)]
    refine j_dup dX0_init_110 rfl ?_
    refine j_callI (As := []) (n := 0) dX0_init_111 vX0_init_24 i_X2 (by omega) rfl (fun v hv => by cases hv) (Nat.le_of_ble_eq_true rfl) (by omega) (Nat.add_zero _).symm (Nat.add_zero _).symm (by show _ ≤ 34; show _ + 0 ≤ 34; omega) (by show _ + 0 ≤ 337; exact (zN_le hB (by omega))) ?_
    rintro _ ⟨-, rfl⟩
    refine kn_aast (n := 8) (t := 2) k dX0_init_114 (aB_S hB (o := 23) (by decide)) (by decide) (by omega) rfl (by omega) (by decide) (by rw [aB_S hB (by omega)]; exact congrArg Prod.fst ((zA_q (by omega)).2)) (by omega) ?_
    rw [gB_s (o := 23) (m := (24 + k)) (by omega) (by unfold th; rw [if_neg (by decide), if_neg (by decide), if_neg (by decide), if_pos rfl, if_pos (by omega)]; omega) (by omega) (by omega) (by unfold tP; rw [if_neg (by decide), if_neg (by decide), if_neg (by decide), if_pos rfl, if_pos (by omega)]; exact if_pos (by omega))]
    refine j_iinc (v := nI (k + 1)) dX0_init_115 rfl z_inc (by decide) ?_
    refine j_goto dX0_init_118 (tgt := 93) rfl ?_
    rw [show B + (24 + k) + 1 = B + (24 + (k + 1)) by omega, show 24 + k + 1 = 24 + (k + 1) by omega]
    exact ih (k + 1) (by omega) (by omega) kk
set_option maxRecDepth 4000 in
set_option maxHeartbeats 2000000 in
theorem i_X0 {h : zH} {B : Nat} (hB : aB B) : zCT mX0_init [.ref B] (B + 1) (gB h B 1) (B + 35) (fun r h' => r = none ∧ h' = gB h B 35) := by
  have hBl : 2 ≤ B ∧ B ≤ 180 := by unfold aB at hB; omega
  intro X Q hQ
  show zJ X mX0_init (B + 1) 0 [.ref B, .null] [] (B + 1) (gB h B 1) Q
  refine j_aload_n dX0_init_0 rfl ?_
  refine j_objInit dX0_init_1 nX0_3 z_oiI z_oiC (by decide) (Nat.le_of_ble_eq_true rfl) ?_
  refine j_aload_n dX0_init_4 rfl ?_
  refine j_bipush (v := 12) dX0_init_5 (by decide) ?_
  refine j_anew (t := 1) (n := 12) dX0_init_7 (by decide) (fun r hr => by cases hr; exact aX0_11) (aB_S hB (o := 1) (by decide)) (by decide) (by decide) (by decide) (by omega) (by omega) (by show _ ≤ 34; omega) (zN_le hB (by omega)) ?_
  rw [gB_al (o := 1) (by omega) (tP_nul (by omega)).symm]
  refine j_putF dX0_init_10 fX0_13 fX0_13F rfl (aB_S0 hB) (by omega) rfl ?_
  rw [gB_s0 (m := 1) (k := 0) (r := .ref (B + 1)) rfl (by omega) (by omega) rfl]
  refine j_iconst (v := 0) dX0_init_13 (by decide) ?_
  refine j_istore_n dX0_init_14 (by decide) ?_
  refine i_l1 hB 12 0 (by omega) (by omega) (fun y => ?_)
  show zJ X mX0_init (B + 1) 43 [.ref B, y] [] (B + 14) (gB h B 14) Q
  refine j_aload_n dX0_init_43 rfl ?_
  refine j_bipush (v := 8) dX0_init_44 (by decide) ?_
  refine j_anew (t := 2) (n := 8) dX0_init_46 (by decide) (fun r hr => by cases hr; exact aX0_18) (aB_S hB (o := 14) (by decide)) (by decide) (by decide) (by decide) (by omega) (by omega) (by show _ ≤ 34; omega) (zN_le hB (by omega)) ?_
  rw [gB_al (o := 14) (by omega) (tP_nul (by omega)).symm]
  refine j_putF dX0_init_49 fX0_20 fX0_20F rfl (aB_S0 hB) (by omega) rfl ?_
  rw [gB_s0 (m := 14) (k := 1) (r := .ref (B + 14)) rfl (by omega) (by omega) rfl]
  refine j_iconst (v := 0) dX0_init_52 (by decide) ?_
  refine j_istore_n dX0_init_53 (by decide) ?_
  refine i_l2 hB 8 0 (by omega) (by omega) (fun y => ?_)
  show zJ X mX0_init (B + 1) 82 [.ref B, y] [] (B + 23) (gB h B 23) Q
  refine j_aload_n dX0_init_82 rfl ?_
  refine j_bipush (v := 8) dX0_init_83 (by decide) ?_
  refine j_anew (t := 2) (n := 8) dX0_init_85 (by decide) (fun r hr => by cases hr; exact aX0_18) (aB_S hB (o := 23) (by decide)) (by decide) (by decide) (by decide) (by omega) (by omega) (by show _ ≤ 34; omega) (zN_le hB (by omega)) ?_
  rw [gB_al (o := 23) (by omega) (tP_nul (by omega)).symm]
  refine j_putF dX0_init_88 fX0_25 fX0_25F rfl (aB_S0 hB) (by omega) rfl ?_
  rw [gB_s0 (m := 23) (k := 2) (r := .ref (B + 23)) rfl (by omega) (by omega) rfl]
  refine j_iconst (v := 0) dX0_init_91 (by decide) ?_
  refine j_istore_n dX0_init_92 (by decide) ?_
  refine i_l3 hB 8 0 (by omega) (by omega) (fun y => ?_)
  show zJ X mX0_init (B + 1) 121 [.ref B, y] [] (B + 32) (gB h B 32) Q
  refine j_aload_n dX0_init_121 rfl ?_
  refine j_iconst (v := 4) dX0_init_122 (by decide) ?_
  refine j_newa (t := 0) (n := 4) dX0_init_123 (Or.inl ⟨rfl, rfl⟩) z_arI (aB_S hB (o := 32) (by decide)) (by decide) (by decide) (by decide) (by omega) (by omega) (by show _ ≤ 34; omega) (zN_le hB (by omega)) ?_
  rw [gB_al (o := 32) (by omega) (tP_i (by omega)).symm]
  refine j_putF dX0_init_125 fX0_28 fX0_28F rfl (aB_S0 hB) (by omega) rfl ?_
  rw [gB_s0 (m := 32) (k := 3) (r := .ref (B + 32)) rfl (by omega) (by omega) rfl]
  refine j_aload_n dX0_init_128 rfl ?_
  refine j_iconst (v := 3) dX0_init_129 (by decide) ?_
  refine j_newa (t := 0) (n := 3) dX0_init_130 (Or.inl ⟨rfl, rfl⟩) z_arI (aB_S hB (o := 33) (by decide)) (by decide) (by decide) (by decide) (by omega) (by omega) (by show _ ≤ 34; omega) (zN_le hB (by omega)) ?_
  rw [gB_al (o := 33) (by omega) (tP_i (by omega)).symm]
  refine j_dup dX0_init_132 rfl ?_
  refine j_iconst (v := 0) dX0_init_133 (by decide) ?_
  refine j_iconst (v := 3) dX0_init_134 (by decide) ?_
  refine kn_iast (n := 3) 0 dX0_init_135 (aB_S hB (o := 33) (by decide)) (by omega) rfl (by decide) (by decide) ?_
  try rw [va_s]
  refine j_dup dX0_init_136 rfl ?_
  refine j_iconst (v := 1) dX0_init_137 (by decide) ?_
  refine j_iconst (v := 3) dX0_init_138 (by decide) ?_
  refine kn_iast (n := 3) 1 dX0_init_139 (aB_S hB (o := 33) (by decide)) (by omega) rfl (by decide) (by decide) ?_
  try rw [va_s]
  refine j_dup dX0_init_140 rfl ?_
  refine j_iconst (v := 2) dX0_init_141 (by decide) ?_
  refine j_iconst (v := 3) dX0_init_142 (by decide) ?_
  refine kn_iast (n := 3) 2 dX0_init_143 (aB_S hB (o := 33) (by decide)) (by omega) rfl (by decide) (by decide) ?_
  try rw [va_s]
  refine j_putF dX0_init_144 fX0_32 fX0_32F rfl (aB_S0 hB) (by omega) rfl ?_
  rw [va_n (show B ≠ B + 33 by omega), va_n (show B ≠ B + 33 by omega), va_n (show B ≠ B + 33 by omega), gB_33]
  refine j_aload_n dX0_init_147 rfl ?_
  refine j_new dX0_init_148 kX0_18 (congrArg Prod.fst ((aB_S (o := 34) hB (by omega)).trans (zA_L (by unfold aL; omega)))) (by omega) (by omega) (by show _ ≤ 34; omega) (zN_le hB (by omega)) ?_
  rw [gB_al (o := 34) (by omega) ((zB_i _ (by decide)).trans (tP_i (by omega)).symm)]
  refine j_dup dX0_init_151 rfl ?_
  refine j_callI (As := []) (n := 0) dX0_init_152 vX0_init_24 i_X2 (by omega) rfl (fun v hv => by cases hv) (Nat.le_of_ble_eq_true rfl) (by omega) (Nat.add_zero _).symm (Nat.add_zero _).symm (by show _ ≤ 34; show _ + 0 ≤ 34; omega) (by show _ + 0 ≤ 337; exact (zN_le hB (by omega))) ?_
  rintro _ ⟨-, rfl⟩
  refine j_put dX0_init_155 fX0_35 (aB_S0 hB) (by omega) rfl ?_
  rw [gB_s0 (m := 34) (k := 9) (r := .ref (B + 34)) rfl (by omega) (by omega) rfl]
  refine j_vret dX0_init_158 rfl ?_
  exact hQ _ _ ⟨rfl, rfl⟩
