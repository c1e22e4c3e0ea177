/-- the check's numbers of its text: o its whole fields (runs, typed, spot, from, reason, cause, orders, order), tx its text, nm its numbers -/
def gT (g : zH) (o tx nm : Nat → Int32) : zH := va_up (va_up (va_up g 220 (iA tx)) 221 (iA nm)) 215 (fun k => if k = 5 ∨ (7 ≤ k ∧ k ≤ 13) then .int (o k) else g 215 k)
theorem gT_get {g : zH} {o tx nm s : Nat → Int32} (k : Nat) (hk : k = 5 ∨ (7 ≤ k ∧ k ≤ 13)) : gS (gT g o tx nm) s 215 k = .int (o k) := by
  rw [gS_ne (by decide)]
  unfold gT
  rw [va_up_self]
  exact if_pos hk
theorem gT_oth {g : zH} {o tx nm s : Nat → Int32} {k : Nat} (hk : ¬ (k = 5 ∨ (7 ≤ k ∧ k ≤ 13))) : gT g o tx nm 215 k = g 215 k := by
  unfold gT
  rw [va_up_self]
  exact if_neg hk
theorem gP_gT {g : zH} {o tx nm : Nat → Int32} (hg : gP g) : gP (gT g o tx nm) := by
  obtain ⟨h1, h2, h3, h4, h5, h6⟩ := hg
  refine ⟨?_, ?_, ?_, ?_, ?_, ?_⟩ <;> rw [gT_oth (s := o) (by decide)] <;> assumption
theorem gT_220 {g : zH} {o tx nm s : Nat → Int32} : gS (gT g o tx nm) s 220 = iA tx := by
  rw [gS_ne (by decide)]
  unfold gT
  rw [va_up_ne _ _ (by decide), va_up_ne _ _ (by decide), va_up_self]
theorem gT_221 {g : zH} {o tx nm s : Nat → Int32} : gS (gT g o tx nm) s 221 = iA nm := by
  rw [gS_ne (by decide)]
  unfold gT
  rw [va_up_ne _ _ (by decide), va_up_self]
theorem gT_ne {g : zH} {o tx nm : Nat → Int32} {a : Nat} (h : a ≠ 215 ∧ a ≠ 220 ∧ a ≠ 221) : gT g o tx nm a = g a := by
  unfold gT
  rw [va_up_ne _ _ h.1, va_up_ne _ _ h.2.2, va_up_ne _ _ h.2.1]
theorem gT_put {g : zH} {o tx nm s : Nat → Int32} {k : Nat} {x : Int32} (hk : k = 5 ∨ (7 ≤ k ∧ k ≤ 13)) : va_up (gS (gT g o tx nm) s) 215 (va_up (gS (gT g o tx nm) s 215) k (.int x)) = gS (gT g (upd o k x) tx nm) s := by
  rw [gS_upn (by decide), gS_ne (by decide)]
  congr 1
  unfold gT
  rw [va_up_self, up_up]
  congr 1
  funext j
  by_cases hj : j = k
  · subst hj
    simp [va_up, upd, hk]
  · simp [va_up, upd, hj]
theorem gT_p220 {g : zH} {o tx nm s : Nat → Int32} {j : Nat} {x : Int32} : va_up (gS (gT g o tx nm) s) 220 (va_up (gS (gT g o tx nm) s 220) j (.int x)) = gS (gT g o (upd tx j x) nm) s := by
  rw [gT_220, iA_up, gS_upn (by decide)]
  congr 1
  unfold gT
  rw [up_sw (a := 215) (b := 220) (by decide), up_sw (a := 221) (b := 220) (by decide), up_up]
theorem gT_p221 {g : zH} {o tx nm s : Nat → Int32} {j : Nat} {x : Int32} : va_up (gS (gT g o tx nm) s) 221 (va_up (gS (gT g o tx nm) s 221) j (.int x)) = gS (gT g o tx (upd nm j x)) s := by
  rw [gT_221, iA_up, gS_upn (by decide)]
  congr 1
  unfold gT
  rw [up_sw (a := 215) (b := 221) (by decide), up_up]
theorem gT_gW {g : zH} {o tx nm sp : Nat → Int32} : gW (gT g o tx nm) sp = gT (gW g sp) o tx nm := by
  unfold gW gT
  rw [up_sw (a := 215) (b := 219) (by decide), up_sw (a := 221) (b := 219) (by decide), up_sw (a := 220) (b := 219) (by decide), va_up_ne (j := 215) _ _ (by decide)]
theorem gT_gD {g : zH} {o tx nm sp : Nat → Int32} : gD (gT g o tx nm) sp = gT (gD g sp) o tx nm := by
  unfold gD gT
  rw [up_sw (a := 215) (b := 218) (by decide), up_sw (a := 221) (b := 218) (by decide), up_sw (a := 220) (b := 218) (by decide), va_up_ne (j := 215) _ _ (by decide)]
section ZT
variable {X : Nat × (Nat → Int32)} {M : zM} {pc : Nat} {ls st : List Value} {h : zH} {Q : zQt}
theorem t_get {g : zH} {o tx nm s : Nat → Int32} {idx : Nat} {ty : FieldType} {v : Int32} (k : Nat) (hk : k = 5 ∨ (7 ≤ k ∧ k ≤ 13)) (hd : decode (zMb M) pc = .ok (.getfield idx, 3)) (hl : zLF (zMo M) idx 5 k ty false) (hv : o k = v) (kk : zJ X M 222 (pc + 3) ls (.int v :: st) 222 (gS (gT g o tx nm) s) Q) : zJ X M 222 pc ls (.ref 215 :: st) 222 (gS (gT g o tx nm) s) Q :=
  j_get hd hl rfl (by decide) (gT_get k hk) (by rw [hv]; exact kk)
theorem t_put {g : zH} {o tx nm s : Nat → Int32} {idx : Nat} {ty : FieldType} {v : Int32} (k : Nat) (hk : k = 5 ∨ (7 ≤ k ∧ k ≤ 13)) (hd : decode (zMb M) pc = .ok (.putfield idx, 3)) (hl : zLF (zMo M) idx 5 k ty false) (ho : zOk ty (.int v) = true) (kk : zJ X M 222 (pc + 3) ls st 222 (gS (gT g (upd o k v) tx nm) s) Q) : zJ X M 222 pc ls (.int v :: .ref 215 :: st) 222 (gS (gT g o tx nm) s) Q :=
  j_put hd hl rfl (by decide) ho (by rw [gT_put hk]; exact kk)
theorem t_ald0 {g : zH} {o tx nm s : Nat → Int32} {i : Int32} (j : Nat) (hd : decode (zMb M) pc = .ok (.iaload, 1)) (hi : i = nI j) (hj : j < 60) (kk : zJ X M 222 (pc + 1) ls (.int (tx j) :: st) 222 (gS (gT g o tx nm) s) Q) : zJ X M 222 pc ls (.int i :: .ref 220 :: st) 222 (gS (gT g o tx nm) s) Q :=
  j_iald (x := tx j) hd (n := 60) rfl (by decide) (z_vin hi hj (by omega)) (by rw [hi, z_cl (by omega), gT_220]; rfl) kk
theorem t_ald1 {g : zH} {o tx nm s : Nat → Int32} {i : Int32} (j : Nat) (hd : decode (zMb M) pc = .ok (.iaload, 1)) (hi : i = nI j) (hj : j < 4) (kk : zJ X M 222 (pc + 1) ls (.int (nm j) :: st) 222 (gS (gT g o tx nm) s) Q) : zJ X M 222 pc ls (.int i :: .ref 221 :: st) 222 (gS (gT g o tx nm) s) Q :=
  j_iald (x := nm j) hd (n := 4) rfl (by decide) (z_vin hi hj (by omega)) (by rw [hi, z_cl (by omega), gT_221]; rfl) kk
theorem t_ast0 {g : zH} {o tx nm s : Nat → Int32} {i x : Int32} (j : Nat) (hd : decode (zMb M) pc = .ok (.iastore, 1)) (hi : i = nI j) (hj : j < 60) (kk : zJ X M 222 (pc + 1) ls st 222 (gS (gT g o (upd tx j x) nm) s) Q) : zJ X M 222 pc ls (.int x :: .int i :: .ref 220 :: st) 222 (gS (gT g o tx nm) s) Q :=
  j_iast hd (n := 60) rfl (by decide) (z_vin hi hj (by omega)) (by rw [hi, z_cl (by omega), gT_p220]; exact kk)
theorem t_ast1 {g : zH} {o tx nm s : Nat → Int32} {i x : Int32} (j : Nat) (hd : decode (zMb M) pc = .ok (.iastore, 1)) (hi : i = nI j) (hj : j < 4) (kk : zJ X M 222 (pc + 1) ls st 222 (gS (gT g o tx (upd nm j x)) s) Q) : zJ X M 222 pc ls (.int x :: .int i :: .ref 221 :: st) 222 (gS (gT g o tx nm) s) Q :=
  j_iast hd (n := 4) rfl (by decide) (z_vin hi hj (by omega)) (by rw [hi, z_cl (by omega), gT_p221]; exact kk)
end ZT
/-- is the text's character at p from l to m -/
def aAtC (tx : Nat → Int32) (T p : Nat) (l m : Int32) : Int32 := if T ≤ p then 0 else if aIn (tx p) l m = 0 then 0 else 1
theorem z_leT {T p : Nat} (hT : T ≤ 60) (hp : p ≤ 60) : nI T ≤ nI p ↔ T ≤ p := nI_leI (by omega) (by omega)
theorem aAtC_b {tx : Nat → Int32} {T p : Nat} {l m : Int32} : narrow .boolean (.int (aAtC tx T p l m)) = .int (aAtC tx T p l m) := by
  unfold aAtC
  split
  · rfl
  · split <;> rfl
theorem z_psT {h : zH} {p x : Int32} (e : p = x) : some x = some p ∧ h = h := by
  subst e
  exact ⟨rfl, rfl⟩
set_option maxRecDepth 4000 in
set_option maxHeartbeats 1000000 in
theorem s_isAt {g : zH} (hg : gP g) {o tx nm s : Nat → Int32} {T p : Nat} (h7 : o 7 = nI T) (hT : T ≤ 60) (h8 : o 8 = nI p) (hp : p ≤ 60) {l m : Int32} : zCT mX5_isAt [.ref 215, .int l, .int m] 222 (gS (gT g o tx nm) s) 222 (fun r h' => r = some (aAtC tx T p l m) ∧ h' = gS (gT g o tx nm) s) := by
  intro X Q hQ
  show zJ X mX5_isAt 222 0 [.ref 215, .int l, .int m] [] 222 (gS (gT g o tx nm) s) Q
  refine j_aload_n dX5_isAt_0 rfl ?_
  refine t_get (v := nI p) 8 (by decide) dX5_isAt_1 fX5_130 (h8) ?_
  refine j_aload_n dX5_isAt_4 rfl ?_
  refine t_get (v := nI T) 7 (by decide) dX5_isAt_5 fX5_127 (h7) ?_
  refine j_icmp_ge dX5_isAt_8 (tgt := 32) rfl (fun c1 => ?_) (fun c1 => ?_)
  · refine j_iconst (v := 0) dX5_isAt_32 (by decide) ?_
    refine j_iret dX5_isAt_33 rfl (rfl) ?_
    exact hQ _ _ (z_psT (if_pos ((z_leT hT hp).mp c1)))
  · have hpT : p < T := Nat.lt_of_not_le (fun q => c1 ((z_leT hT hp).mpr q))
    refine j_aload_n dX5_isAt_11 rfl ?_
    refine j_get (v := .ref 220) dX5_isAt_12 fX5_22 rfl (by decide) (gS_p6 (gP_gT hg)) ?_
    refine j_aload_n dX5_isAt_15 rfl ?_
    refine t_get (v := nI p) 8 (by decide) dX5_isAt_16 fX5_130 (h8) ?_
    refine t_ald0 (p) dX5_isAt_19 (by first | rfl | (simp only [z_n, pk_mul, nI_add]; done) | (simp only [z_n, pk_mul, nI_add]; exact pk_sub (by omega)) | (simp only [z_n, pk_mul, nI_add, pk_sub, *]; done)) (by first | decide | omega) ?_
    refine j_iload_n dX5_isAt_20 rfl ?_
    refine j_iload_n dX5_isAt_21 rfl ?_
    refine k_callS3i dX5_isAt_22 vX5_isAt_36 (s_in) rfl rfl rfl (Nat.le_of_ble_eq_true rfl) ⟨rfl, rfl⟩ rfl ?_
    rintro _ _ ⟨⟨⟩, rfl⟩
    refine j_if_eq dX5_isAt_25 (tgt := 32) rfl (fun c2 => ?_) (fun c2 => ?_)
    · refine j_iconst (v := 0) dX5_isAt_32 (by decide) ?_
      refine j_iret dX5_isAt_33 rfl (rfl) ?_
      exact hQ _ _ (z_psT ((if_neg (fun q => c1 ((z_leT hT hp).mpr q))).trans ((if_pos c2).trans rfl)))
    · refine j_iconst (v := 1) dX5_isAt_28 (by decide) ?_
      refine j_goto dX5_isAt_29 (tgt := 33) rfl ?_
      refine j_iret dX5_isAt_33 rfl (rfl) ?_
      exact hQ _ _ (z_psT ((if_neg (fun q => c1 ((z_leT hT hp).mpr q))).trans ((if_neg c2).trans rfl)))
def aTypQ (tx : Nat → Int32) (T : Nat) (c : Int32) : Int32 := if aIn c 32 126 = 0 then -1000001 else if T = 60 then -1000003 else nI (T + 1)
def aTypO (o : Nat → Int32) (T : Nat) (c : Int32) : Nat → Int32 := if aIn c 32 126 = 0 then o else if T = 60 then o else upd o 7 (nI (T + 1))
def aTypX (tx : Nat → Int32) (T : Nat) (c : Int32) : Nat → Int32 := if aIn c 32 126 = 0 then tx else if T = 60 then tx else upd tx T c
set_option maxRecDepth 4000 in
set_option maxHeartbeats 1000000 in
theorem s_type {g : zH} (hg : gP g) {o tx nm s : Nat → Int32} {T : Nat} (h7 : o 7 = nI T) (hT : T ≤ 60) {c : Int32} : zCT mX5_type [.ref 215, .int c] 222 (gS (gT g o tx nm) s) 222 (fun r h' => r = some (aTypQ tx T c) ∧ h' = gS (gT g (aTypO o T c) (aTypX tx T c) nm) s) := by
  intro X Q hQ
  show zJ X mX5_type 222 0 [.ref 215, .int c] [] 222 (gS (gT g o tx nm) s) Q
  refine j_iload_n dX5_type_0 rfl ?_
  refine j_bipush (v := 32) dX5_type_1 (by decide) ?_
  refine j_bipush (v := 126) dX5_type_3 (by decide) ?_
  refine k_callS3i dX5_type_5 vX5_type_36 (s_in) rfl rfl rfl (Nat.le_of_ble_eq_true rfl) ⟨rfl, rfl⟩ rfl ?_
  rintro _ _ ⟨⟨⟩, rfl⟩
  refine j_if_ne dX5_type_8 (tgt := 14) rfl (fun c1 => ?_) (fun c1 => ?_)
  · refine j_aload_n dX5_type_14 rfl ?_
    refine t_get (v := nI T) 7 (by decide) dX5_type_15 fX5_127 (h7) ?_
    refine j_bipush (v := 60) dX5_type_18 (by decide) ?_
    refine j_icmp_ne dX5_type_20 (tgt := 26) rfl (fun c2 => ?_) (fun c2 => ?_)
    · have hT60 : T ≠ 60 := fun q => ‹¬ nI T = 60› (by rw [q]; rfl)
      have hTl : T < 60 := by omega
      refine j_aload_n dX5_type_26 rfl ?_
      refine j_get (v := .ref 220) dX5_type_27 fX5_22 rfl (by decide) (gS_p6 (gP_gT hg)) ?_
      refine j_aload_n dX5_type_30 rfl ?_
      refine t_get (v := nI T) 7 (by decide) dX5_type_31 fX5_127 (h7) ?_
      refine j_iload_n dX5_type_34 rfl ?_
      refine t_ast0 (T) dX5_type_35 (by first | rfl | (simp only [z_n, pk_mul, nI_add]; done) | (simp only [z_n, pk_mul, nI_add]; exact pk_sub (by omega)) | (simp only [z_n, pk_mul, nI_add, pk_sub, *]; done)) (by first | decide | omega) ?_
      refine j_aload_n dX5_type_36 rfl ?_
      refine j_dup dX5_type_37 rfl ?_
      refine t_get (v := nI T) 7 (by decide) dX5_type_38 fX5_127 (h7) ?_
      refine j_iconst (v := 1) dX5_type_41 (by decide) ?_
      refine j_iadd dX5_type_42 ?_
      rw [nI_1]
      refine t_put 7 (by decide) dX5_type_43 fX5_127 (rfl) ?_
      refine j_aload_n dX5_type_46 rfl ?_
      refine t_get (v := nI (T + 1)) 7 (by decide) dX5_type_47 fX5_127 (upd_s) ?_
      refine j_iret dX5_type_50 rfl (rfl) ?_
      exact hQ _ _ ⟨by unfold aTypQ; simp [*], by unfold aTypO aTypX; simp [*]⟩
    · have hT60 : T = 60 := (nI_eq (b := 60) (by omega) (by omega)).mp ‹nI T = 60›
      refine j_ldc (v := (-1000003)) dX5_type_23 cX5_83 ?_
      refine j_iret dX5_type_25 rfl (rfl) ?_
      exact hQ _ _ ⟨by unfold aTypQ; simp [*], by unfold aTypO aTypX; simp [*]⟩
  · refine j_ldc (v := (-1000001)) dX5_type_11 cX5_78 ?_
    refine j_iret dX5_type_13 rfl (rfl) ?_
    exact hQ _ _ ⟨by unfold aTypQ; simp [*], by unfold aTypO aTypX; simp [*]⟩
set_option maxRecDepth 4000 in
set_option maxHeartbeats 1000000 in
theorem s_clearText {g : zH} (hg : gP g) {o tx nm s : Nat → Int32} {T : Nat} (h7 : o 7 = nI T) (hT : T ≤ 60) : zCT mX5_clearText [.ref 215] 222 (gS (gT g o tx nm) s) 222 (fun r h' => r = some (nI T) ∧ h' = gS (gT g (upd o 7 0) tx nm) s) := by
  intro X Q hQ
  show zJ X mX5_clearText 222 0 [.ref 215, .null] [] 222 (gS (gT g o tx nm) s) Q
  refine j_aload_n dX5_clearText_0 rfl ?_
  refine t_get (v := nI T) 7 (by decide) dX5_clearText_1 fX5_127 (h7) ?_
  refine j_istore_n dX5_clearText_4 (by decide) ?_
  refine j_aload_n dX5_clearText_5 rfl ?_
  refine j_iconst (v := 0) dX5_clearText_6 (by decide) ?_
  refine t_put 7 (by decide) dX5_clearText_7 fX5_127 (rfl) ?_
  refine j_iload_n dX5_clearText_10 rfl ?_
  refine j_iret dX5_clearText_11 rfl (rfl) ?_
  exact hQ _ _ ⟨rfl, rfl⟩
def aSg (tx : Nat → Int32) (T p : Nat) (c : Int32) : Nat := if aAtC tx T p c c = 0 then 0 else 1
theorem aAtC_01 {tx : Nat → Int32} {T p : Nat} {l m : Int32} (h : ¬ aAtC tx T p l m = 0) : aAtC tx T p l m = 1 := by
  unfold aAtC at h ⊢
  split at h
  · exact absurd rfl h
  · rename_i h1
    split at h
    · exact absurd rfl h
    · rename_i h2
      rw [if_neg h1, if_neg h2]
theorem aAtC_lt {tx : Nat → Int32} {T p : Nat} {l m : Int32} (h : ¬ aAtC tx T p l m = 0) : p < T := by
  unfold aAtC at h
  split at h
  · exact absurd rfl h
  · omega
set_option maxRecDepth 4000 in
set_option maxHeartbeats 1000000 in
theorem s_sign {g : zH} (hg : gP g) {o tx nm s : Nat → Int32} {T p : Nat} (h7 : o 7 = nI T) (hT : T ≤ 60) (h8 : o 8 = nI p) (hp : p ≤ 60) {c : Int32} : zCT mX5_sign [.ref 215, .int c] 222 (gS (gT g o tx nm) s) 222 (fun r h' => r = some (nI (aSg tx T p c)) ∧ h' = gS (gT g (upd o 8 (nI (p + aSg tx T p c))) tx nm) s) := by
  intro X Q hQ
  show zJ X mX5_sign 222 0 [.ref 215, .int c, .null] [] 222 (gS (gT g o tx nm) s) Q
  refine j_aload_n dX5_sign_0 rfl ?_
  refine j_iload_n dX5_sign_1 rfl ?_
  refine j_iload_n dX5_sign_2 rfl ?_
  refine k_callV2i dX5_sign_3 vX5_sign_133 (s_isAt hg (h7) hT (h8) (by omega)) rfl (by decide) rfl rfl (Nat.le_of_ble_eq_true rfl) ⟨rfl, rfl⟩ rfl ?_
  rintro _ _ ⟨⟨⟩, rfl⟩
  refine j_istore_n dX5_sign_6 (by decide) ?_
  refine j_aload_n dX5_sign_7 rfl ?_
  refine j_dup dX5_sign_8 rfl ?_
  refine t_get (v := nI p) 8 (by decide) dX5_sign_9 fX5_130 (h8) ?_
  refine j_iload_n dX5_sign_12 rfl ?_
  refine j_if_eq dX5_sign_13 (tgt := 20) rfl (fun c1 => ?_) (fun c1 => ?_)
  · refine j_iconst (v := 0) dX5_sign_20 (by decide) ?_
    refine j_iadd dX5_sign_21 ?_
    first | rw [show nI p + 0 = nI (p + 0) from nI_add p 0] | rw [nI_1]
    refine t_put 8 (by decide) dX5_sign_22 fX5_130 (rfl) ?_
    refine j_iload_n dX5_sign_25 rfl ?_
    refine j_iret dX5_sign_26 rfl (aAtC_b) ?_
    exact hQ _ _ ⟨by unfold aSg; rw [if_pos c1, c1]; rfl, by unfold aSg; rw [if_pos c1]⟩
  · refine j_iconst (v := 1) dX5_sign_16 (by decide) ?_
    refine j_goto dX5_sign_17 (tgt := 21) rfl ?_
    refine j_iadd dX5_sign_21 ?_
    first | rw [show nI p + 0 = nI (p + 0) from nI_add p 0] | rw [nI_1]
    refine t_put 8 (by decide) dX5_sign_22 fX5_130 (rfl) ?_
    refine j_iload_n dX5_sign_25 rfl ?_
    refine j_iret dX5_sign_26 rfl (aAtC_b) ?_
    exact hQ _ _ ⟨by unfold aSg; rw [if_neg c1, aAtC_01 c1]; rfl, by unfold aSg; rw [if_neg c1]⟩
