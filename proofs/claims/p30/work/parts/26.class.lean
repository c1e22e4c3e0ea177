variable {nz : Nat}
-- bidders and lots
section KI
variable {X : Nat × (Nat → Int32)} {M : zM} {pc : Nat} {ls st : List Value} {h : zH} {Q : zQt}
/-- a place of an array by its number -/
theorem k_iald {a n : Nat} {i x : Int32} (j : Nat) (hd : decode (zMb M) pc = .ok (.iaload, 1)) (hs : zS a = (10, n)) (ha : a < (215 + nz)) (hi : i = nI j) (hj : j < n) (hn : n ≤ 1000) (hv : h a j = .int x) (kk : zJ X M (215 + nz) (pc + 1) ls (.int x :: st) (215 + nz) h Q) : zJ X M (215 + nz) pc ls (.int i :: .ref a :: st) (215 + nz) h Q :=
  j_iald hd hs ha (z_vin hi hj hn) (by rw [hi, z_cl (by omega), hv]; rfl) kk
theorem k_aald {a n t : Nat} {i : Int32} {r : Nat} (j : Nat) (hd : decode (zMb M) pc = .ok (.aaload, 1)) (hs : zS a = (12 + t, n)) (ht : t < 3) (ha : a < (215 + nz)) (hi : i = nI j) (hj : j < n) (hn : n ≤ 1000) (hv : h a j = .ref r) (kk : zJ X M (215 + nz) (pc + 1) ls (.ref r :: st) (215 + nz) h Q) : zJ X M (215 + nz) pc ls (.int i :: .ref a :: st) (215 + nz) h Q :=
  j_aald (r := some r) hd hs ht ha (z_vin hi hj hn) (by rw [hi, z_cl (by omega), hv]; rfl) kk
theorem k_iast {a n : Nat} {i x : Int32} (j : Nat) (hd : decode (zMb M) pc = .ok (.iastore, 1)) (hs : zS a = (10, n)) (ha : a < (215 + nz)) (hi : i = nI j) (hj : j < n) (hn : n ≤ 1000) (kk : zJ X M (215 + nz) (pc + 1) ls st (215 + nz) (va_up h a (va_up (h a) j (.int x))) Q) : zJ X M (215 + nz) pc ls (.int x :: .int i :: .ref a :: st) (215 + nz) h Q :=
  j_iast hd hs ha (z_vin hi hj hn) (by rw [hi, z_cl (by omega)]; exact kk)
theorem k_aast {a n t v : Nat} {i : Int32} (j : Nat) (hd : decode (zMb M) pc = .ok (.aastore, 1)) (hs : zS a = (12 + t, n)) (ht : t < 3) (ha : a < (215 + nz)) (hi : i = nI j) (hj : j < n) (hn : n ≤ 1000) (hvs : (zS v).1 = t) (hvn : v < (215 + nz)) (kk : zJ X M (215 + nz) (pc + 1) ls st (215 + nz) (va_up h a (va_up (h a) j (.ref v))) Q) : zJ X M (215 + nz) pc ls (.ref v :: .int i :: .ref a :: st) (215 + nz) h Q :=
  j_aast hd hs ht ha (z_vin hi hj hn) hvs hvn (by rw [hi, z_cl (by omega)]; exact kk)
end KI
/-- the block at C in a heap -/
def zBk (g : zH) (C : Nat) (u : Nat → Nat → Int32) (q : Nat → Nat) : Prop := ∀ a, a < 35 → g (C + a) = tB C u q a
theorem zb_k {g : zH} {B C : Nat} {v u : Nat → Nat → Int32} {p q : Nat → Nat} {a k : Nat} (hB : aB B) (hC : aB C) (hne : ¬ B = C) (hu : zBk g C u q) (h : tI a k) : gAu g B v p (C + a) k = .int (u a k) := by
  have h1 := h.1
  rw [zb_out (by unfold aB at hB hC; omega), hu a h1, tB_int h]
/-- n cells copied -/
def cCp (v : Nat → Nat → Int32) (a : Nat) (f : Nat → Int32) : Nat → (Nat → Nat → Int32)
  | 0 => v
  | n + 1 => up2 (cCp v a f n) a n (f n)
theorem cCp_at {v : Nat → Nat → Int32} {a : Nat} {f : Nat → Int32} : ∀ (n b k : Nat), cCp v a f n b k = if b = a ∧ k < n then f k else v b k := by
  intro n
  induction n with
  | zero =>
    intro b k
    rw [if_neg (fun q => absurd q.2 (Nat.not_lt_zero k))]
    rfl
  | succ n ih =>
    intro b k
    show up2 (cCp v a f n) a n (f n) b k = _
    by_cases h : b = a ∧ k = n
    · obtain ⟨rfl, rfl⟩ := h
      rw [up2_s, if_pos ⟨rfl, Nat.lt_succ_self k⟩]
    · rw [up2_n (fun q1 q2 => h ⟨q1, q2⟩), ih]
      by_cases h2 : b = a ∧ k < n
      · rw [if_pos h2, if_pos ⟨h2.1, by omega⟩]
      · rw [if_neg h2, if_neg (fun q => h2 ⟨q.1, by have := q.2; have := h ; by_cases e : k = n; exact absurd ⟨q.1, e⟩ h; omega⟩)]
theorem aZb_ok {x : Int32} (h : aZb x) : zOk .boolean (.int x) = true := by
  rcases h with rfl | rfl <;> rfl
abbrev cLoud (v : Nat → Nat → Int32) (a : Nat) : Int32 := v a 4 + v a 5 - v a 6 - v a 0
def cSit (r c pu st : Int32) : Nat → Int32
  | 0 => r
  | 1 => c
  | 2 => pu
  | 3 => pu
  | 4 => st
  | _ => 0
def cBes (v : Nat → Nat → Int32) (a b : Nat) : Int32 := if v a 0 = v b 0 then (if v a 1 = v b 1 - 1 then 1 else if v a 1 = v b 1 + 1 then 1 else 0) else 0
def cTellQ (v : Nat → Nat → Int32) (a : Nat) : Nat → Int32
  | 0 => v a 0
  | 1 => v a 1
  | 2 => v a 2
  | 3 => v a 4
  | 4 => v a 5
  | 5 => v a 6
  | 6 => 100 + cLoud v a
  | 7 => v a 7
  | 8 => v a 8
  | 9 => v a 9
  | 10 => v a 10
  | _ => -1000001
def cTell (v : Nat → Nat → Int32) (a : Nat) (w : Int32) : Int32 := if w.toInt < 0 ∨ 10 < w.toInt then -1000001 else cTellQ v a w.toNatClampNeg
def cHas (v : Nat → Nat → Int32) (a : Nat) : Int32 := if v a 6 ≤ 0 then 0 else 1
def cAsk (v : Nat → Nat → Int32) (a : Nat) : Int32 := if v a 6 ≤ 0 then v a 0 else v a 2 + v a 1
def cCome (r st : Int32) : Nat → Int32
  | 0 => r
  | 1 => st
  | 3 => -1
  | _ => 0
def cTuQ (v : Nat → Nat → Int32) (a : Nat) : Nat → Int32
  | 0 => v a 0
  | 1 => v a 1
  | 2 => if cHas v a = 0 then -1000004 else v a 2
  | 3 => if cHas v a = 0 then -1000004 else v a 3
  | 4 => v a 7
  | 5 => v a 8
  | 6 => cAsk v a
  | 7 => v a 6
  | 8 => if v a 4 = 0 then 0 else 1
  | _ => -1000001
def cTgQ (v : Nat → Nat → Int32) (a : Nat) : Nat → Int32
  | 0 => v a 9
  | 1 => v a 2
  | 2 => if cHas v a = 0 then -1000004 else v a 3
  | 3 => v a 7
  | 4 => v a 6
  | _ => -1000001
def cTb (v : Nat → Nat → Int32) (a : Nat) (bid who c : Int32) : Nat → Nat → Int32 := up2 (up2 (up2 (up2 (up2 v a 2 bid) a 3 who) a 4 c) a 5 1) a 6 (v a 6 + 1)
def cPay (v : Nat → Nat → Int32) (a : Nat) (c : Int32) : Nat → Nat → Int32 := up2 (up2 (up2 v a 2 (v a 2 - c)) a 10 (v a 10 + c)) a 9 (v a 9 + 1)
theorem zb_r {h : zH} {a x : Int32} (e : a = x) : some x = some a ∧ h = h := by
  subst e
  exact ⟨rfl, rfl⟩
set_option maxRecDepth 4000 in
set_option maxHeartbeats 2000000 in
theorem c_loudness {g : zH} {B : Nat} (hB : aB B) {v : Nat → Nat → Int32} {p : Nat → Nat} {k : Nat} (hk : k < 12) : zCT mX1_loudness [.ref (B + (2 + k))] (215 + nz) (gAu g B v p) (215 + nz) (fun r h' => r = some (cLoud v (2 + k)) ∧ h' = gAu g B v p) := by
  intro X Q hQ
  show zJ X mX1_loudness (215 + nz) 0 [.ref (B + (2 + k))] [] (215 + nz) (gAu g B v p) Q
  refine j_aload_n dX1_loudness_0 rfl ?_
  refine j_get dX1_loudness_1 fX1_24 (aB_Sb hB hk) (aB_lt hB (by omega)) (zb_int (tI_b hk)) ?_
  refine j_aload_n dX1_loudness_4 rfl ?_
  refine j_get dX1_loudness_5 fX1_27 (aB_Sb hB hk) (aB_lt hB (by omega)) (zb_int (tI_b hk)) ?_
  refine j_iadd dX1_loudness_8 ?_
  refine j_aload_n dX1_loudness_9 rfl ?_
  refine j_get dX1_loudness_10 fX1_30 (aB_Sb hB hk) (aB_lt hB (by omega)) (zb_int (tI_b hk)) ?_
  refine j_isub dX1_loudness_13 ?_
  refine j_aload_n dX1_loudness_14 rfl ?_
  refine j_get dX1_loudness_15 fX1_9 (aB_Sb hB hk) (aB_lt hB (by omega)) (zb_int (tI_b hk)) ?_
  refine j_isub dX1_loudness_18 ?_
  refine j_iret dX1_loudness_19 rfl (rfl) ?_
  exact hQ _ _ ⟨rfl, rfl⟩
set_option maxRecDepth 4000 in
set_option maxHeartbeats 2000000 in
theorem c_sitDown {g : zH} {B : Nat} (hB : aB B) {v : Nat → Nat → Int32} {p : Nat → Nat} {k : Nat} (hk : k < 12) {a1 a2 a3 a4 : Int32} : zCT mX1_sitDown [.ref (B + (2 + k)), .int a1, .int a2, .int a3, .int a4] (215 + nz) (gAu g B v p) (215 + nz) (fun r h' => r = none ∧ h' = gAu g B (cCp v (2 + k) (cSit a1 a2 a3 a4) 11) p) := by
  intro X Q hQ
  show zJ X mX1_sitDown (215 + nz) 0 [.ref (B + (2 + k)), .int a1, .int a2, .int a3, .int a4] [] (215 + nz) (gAu g B v p) Q
  refine j_aload_n dX1_sitDown_0 rfl ?_
  refine j_iload_n dX1_sitDown_1 rfl ?_
  refine j_put dX1_sitDown_2 fX1_9 (aB_Sb hB hk) (aB_lt hB (by omega)) (rfl) ?_
  rw [zb_wr (tI_b hk)]
  refine j_aload_n dX1_sitDown_5 rfl ?_
  refine j_iload_n dX1_sitDown_6 rfl ?_
  refine j_put dX1_sitDown_7 fX1_15 (aB_Sb hB hk) (aB_lt hB (by omega)) (rfl) ?_
  rw [zb_wr (tI_b hk)]
  refine j_aload_n dX1_sitDown_10 rfl ?_
  refine j_iload_n dX1_sitDown_11 rfl ?_
  refine j_put dX1_sitDown_12 fX1_18 (aB_Sb hB hk) (aB_lt hB (by omega)) (rfl) ?_
  rw [zb_wr (tI_b hk)]
  refine j_aload_n dX1_sitDown_15 rfl ?_
  refine j_iload_n dX1_sitDown_16 rfl ?_
  refine j_put dX1_sitDown_17 fX1_21 (aB_Sb hB hk) (aB_lt hB (by omega)) (rfl) ?_
  rw [zb_wr (tI_b hk)]
  refine j_aload_n dX1_sitDown_20 rfl ?_
  refine j_iload dX1_sitDown_21 rfl ?_
  refine j_put dX1_sitDown_23 fX1_24 (aB_Sb hB hk) (aB_lt hB (by omega)) (rfl) ?_
  rw [zb_wr (tI_b hk)]
  refine j_aload_n dX1_sitDown_26 rfl ?_
  refine j_iconst (v := 0) dX1_sitDown_27 (by first | decide | omega) ?_
  refine j_put dX1_sitDown_28 fX1_27 (aB_Sb hB hk) (aB_lt hB (by omega)) (rfl) ?_
  rw [zb_wr (tI_b hk)]
  refine j_aload_n dX1_sitDown_31 rfl ?_
  refine j_iconst (v := 0) dX1_sitDown_32 (by first | decide | omega) ?_
  refine j_put dX1_sitDown_33 fX1_30 (aB_Sb hB hk) (aB_lt hB (by omega)) (rfl) ?_
  rw [zb_wr (tI_b hk)]
  refine j_aload_n dX1_sitDown_36 rfl ?_
  refine j_iconst (v := 0) dX1_sitDown_37 (by first | decide | omega) ?_
  refine j_put dX1_sitDown_38 fX1_33 (aB_Sb hB hk) (aB_lt hB (by omega)) (rfl) ?_
  rw [zb_wr (tI_b hk)]
  refine j_aload_n dX1_sitDown_41 rfl ?_
  refine j_iconst (v := 0) dX1_sitDown_42 (by first | decide | omega) ?_
  refine j_put dX1_sitDown_43 fX1_36 (aB_Sb hB hk) (aB_lt hB (by omega)) (rfl) ?_
  rw [zb_wr (tI_b hk)]
  refine j_aload_n dX1_sitDown_46 rfl ?_
  refine j_iconst (v := 0) dX1_sitDown_47 (by first | decide | omega) ?_
  refine j_put dX1_sitDown_48 fX1_39 (aB_Sb hB hk) (aB_lt hB (by omega)) (rfl) ?_
  rw [zb_wr (tI_b hk)]
  refine j_aload_n dX1_sitDown_51 rfl ?_
  refine j_iconst (v := 0) dX1_sitDown_52 (by first | decide | omega) ?_
  refine j_put dX1_sitDown_53 fX1_42 (aB_Sb hB hk) (aB_lt hB (by omega)) (rfl) ?_
  rw [zb_wr (tI_b hk)]
  refine j_vret dX1_sitDown_56 rfl ?_
  exact hQ _ _ ⟨rfl, rfl⟩
set_option maxRecDepth 4000 in
set_option maxHeartbeats 2000000 in
theorem c_bcopy {g : zH} {B : Nat} (hB : aB B) {v : Nat → Nat → Int32} {p : Nat → Nat} {C : Nat} (hC : aB C) (hne : ¬ B = C) {u : Nat → Nat → Int32} {q : Nat → Nat} (hu : zBk g C u q) {k j : Nat} (hk : k < 12) (hj : j < 12) : zCT mX1_copyFrom [.ref (B + (2 + k)), .ref (C + (2 + j))] (215 + nz) (gAu g B v p) (215 + nz) (fun r h' => r = none ∧ h' = gAu g B (cCp v (2 + k) (u (2 + j)) 11) p) := by
  intro X Q hQ
  show zJ X mX1_copyFrom (215 + nz) 0 [.ref (B + (2 + k)), .ref (C + (2 + j))] [] (215 + nz) (gAu g B v p) Q
  refine j_aload_n dX1_copyFrom_0 rfl ?_
  refine j_aload_n dX1_copyFrom_1 rfl ?_
  refine j_get dX1_copyFrom_2 fX1_9 (aB_Sb hC hj) (aB_lt hC (by omega)) (zb_k hB hC hne hu (tI_b hj)) ?_
  refine j_put dX1_copyFrom_5 fX1_9 (aB_Sb hB hk) (aB_lt hB (by omega)) (rfl) ?_
  rw [zb_wr (tI_b hk)]
  refine j_aload_n dX1_copyFrom_8 rfl ?_
  refine j_aload_n dX1_copyFrom_9 rfl ?_
  refine j_get dX1_copyFrom_10 fX1_15 (aB_Sb hC hj) (aB_lt hC (by omega)) (zb_k hB hC hne hu (tI_b hj)) ?_
  refine j_put dX1_copyFrom_13 fX1_15 (aB_Sb hB hk) (aB_lt hB (by omega)) (rfl) ?_
  rw [zb_wr (tI_b hk)]
  refine j_aload_n dX1_copyFrom_16 rfl ?_
  refine j_aload_n dX1_copyFrom_17 rfl ?_
  refine j_get dX1_copyFrom_18 fX1_18 (aB_Sb hC hj) (aB_lt hC (by omega)) (zb_k hB hC hne hu (tI_b hj)) ?_
  refine j_put dX1_copyFrom_21 fX1_18 (aB_Sb hB hk) (aB_lt hB (by omega)) (rfl) ?_
  rw [zb_wr (tI_b hk)]
  refine j_aload_n dX1_copyFrom_24 rfl ?_
  refine j_aload_n dX1_copyFrom_25 rfl ?_
  refine j_get dX1_copyFrom_26 fX1_21 (aB_Sb hC hj) (aB_lt hC (by omega)) (zb_k hB hC hne hu (tI_b hj)) ?_
  refine j_put dX1_copyFrom_29 fX1_21 (aB_Sb hB hk) (aB_lt hB (by omega)) (rfl) ?_
  rw [zb_wr (tI_b hk)]
  refine j_aload_n dX1_copyFrom_32 rfl ?_
  refine j_aload_n dX1_copyFrom_33 rfl ?_
  refine j_get dX1_copyFrom_34 fX1_24 (aB_Sb hC hj) (aB_lt hC (by omega)) (zb_k hB hC hne hu (tI_b hj)) ?_
  refine j_put dX1_copyFrom_37 fX1_24 (aB_Sb hB hk) (aB_lt hB (by omega)) (rfl) ?_
  rw [zb_wr (tI_b hk)]
  refine j_aload_n dX1_copyFrom_40 rfl ?_
  refine j_aload_n dX1_copyFrom_41 rfl ?_
  refine j_get dX1_copyFrom_42 fX1_27 (aB_Sb hC hj) (aB_lt hC (by omega)) (zb_k hB hC hne hu (tI_b hj)) ?_
  refine j_put dX1_copyFrom_45 fX1_27 (aB_Sb hB hk) (aB_lt hB (by omega)) (rfl) ?_
  rw [zb_wr (tI_b hk)]
  refine j_aload_n dX1_copyFrom_48 rfl ?_
  refine j_aload_n dX1_copyFrom_49 rfl ?_
  refine j_get dX1_copyFrom_50 fX1_30 (aB_Sb hC hj) (aB_lt hC (by omega)) (zb_k hB hC hne hu (tI_b hj)) ?_
  refine j_put dX1_copyFrom_53 fX1_30 (aB_Sb hB hk) (aB_lt hB (by omega)) (rfl) ?_
  rw [zb_wr (tI_b hk)]
  refine j_aload_n dX1_copyFrom_56 rfl ?_
  refine j_aload_n dX1_copyFrom_57 rfl ?_
  refine j_get dX1_copyFrom_58 fX1_33 (aB_Sb hC hj) (aB_lt hC (by omega)) (zb_k hB hC hne hu (tI_b hj)) ?_
  refine j_put dX1_copyFrom_61 fX1_33 (aB_Sb hB hk) (aB_lt hB (by omega)) (rfl) ?_
  rw [zb_wr (tI_b hk)]
  refine j_aload_n dX1_copyFrom_64 rfl ?_
  refine j_aload_n dX1_copyFrom_65 rfl ?_
  refine j_get dX1_copyFrom_66 fX1_36 (aB_Sb hC hj) (aB_lt hC (by omega)) (zb_k hB hC hne hu (tI_b hj)) ?_
  refine j_put dX1_copyFrom_69 fX1_36 (aB_Sb hB hk) (aB_lt hB (by omega)) (rfl) ?_
  rw [zb_wr (tI_b hk)]
  refine j_aload_n dX1_copyFrom_72 rfl ?_
  refine j_aload_n dX1_copyFrom_73 rfl ?_
  refine j_get dX1_copyFrom_74 fX1_39 (aB_Sb hC hj) (aB_lt hC (by omega)) (zb_k hB hC hne hu (tI_b hj)) ?_
  refine j_put dX1_copyFrom_77 fX1_39 (aB_Sb hB hk) (aB_lt hB (by omega)) (rfl) ?_
  rw [zb_wr (tI_b hk)]
  refine j_aload_n dX1_copyFrom_80 rfl ?_
  refine j_aload_n dX1_copyFrom_81 rfl ?_
  refine j_get dX1_copyFrom_82 fX1_42 (aB_Sb hC hj) (aB_lt hC (by omega)) (zb_k hB hC hne hu (tI_b hj)) ?_
  refine j_put dX1_copyFrom_85 fX1_42 (aB_Sb hB hk) (aB_lt hB (by omega)) (rfl) ?_
  rw [zb_wr (tI_b hk)]
  refine j_vret dX1_copyFrom_88 rfl ?_
  exact hQ _ _ ⟨rfl, rfl⟩
set_option maxRecDepth 4000 in
set_option maxHeartbeats 2000000 in
theorem c_beside {g : zH} {B : Nat} (hB : aB B) {v : Nat → Nat → Int32} {p : Nat → Nat} {k : Nat} (hk : k < 12) {j : Nat} (hj : j < 12) : zCT mX1_isBeside [.ref (B + (2 + k)), .ref (B + (2 + j))] (215 + nz) (gAu g B v p) (215 + nz) (fun r h' => r = some (cBes v (2 + k) (2 + j)) ∧ h' = gAu g B v p) := by
  intro X Q hQ
  show zJ X mX1_isBeside (215 + nz) 0 [.ref (B + (2 + k)), .ref (B + (2 + j))] [] (215 + nz) (gAu g B v p) Q
  refine j_aload_n dX1_isBeside_0 rfl ?_
  refine j_get dX1_isBeside_1 fX1_9 (aB_Sb hB hk) (aB_lt hB (by omega)) (zb_int (tI_b hk)) ?_
  refine j_aload_n dX1_isBeside_4 rfl ?_
  refine j_get dX1_isBeside_5 fX1_9 (aB_Sb hB hj) (aB_lt hB (by omega)) (zb_int (tI_b hj)) ?_
  refine j_icmp_ne dX1_isBeside_8 (tgt := 41) rfl (fun c1 => ?_) (fun c1 => ?_)
  · refine j_iconst (v := 0) dX1_isBeside_41 (by first | decide | omega) ?_
    refine j_iret dX1_isBeside_42 rfl (rfl) ?_
    exact hQ _ _ (zb_r ((if_neg c1).trans (rfl)))
  · refine j_aload_n dX1_isBeside_11 rfl ?_
    refine j_get dX1_isBeside_12 fX1_15 (aB_Sb hB hk) (aB_lt hB (by omega)) (zb_int (tI_b hk)) ?_
    refine j_aload_n dX1_isBeside_15 rfl ?_
    refine j_get dX1_isBeside_16 fX1_15 (aB_Sb hB hj) (aB_lt hB (by omega)) (zb_int (tI_b hj)) ?_
    refine j_iconst (v := 1) dX1_isBeside_19 (by first | decide | omega) ?_
    refine j_isub dX1_isBeside_20 ?_
    refine j_icmp_eq dX1_isBeside_21 (tgt := 37) rfl (fun c2 => ?_) (fun c2 => ?_)
    · refine j_iconst (v := 1) dX1_isBeside_37 (by first | decide | omega) ?_
      refine j_goto dX1_isBeside_38 (tgt := 42) rfl ?_
      refine j_iret dX1_isBeside_42 rfl (rfl) ?_
      exact hQ _ _ (zb_r ((if_pos c1).trans ((if_pos c2).trans (rfl))))
    · refine j_aload_n dX1_isBeside_24 rfl ?_
      refine j_get dX1_isBeside_25 fX1_15 (aB_Sb hB hk) (aB_lt hB (by omega)) (zb_int (tI_b hk)) ?_
      refine j_aload_n dX1_isBeside_28 rfl ?_
      refine j_get dX1_isBeside_29 fX1_15 (aB_Sb hB hj) (aB_lt hB (by omega)) (zb_int (tI_b hj)) ?_
      refine j_iconst (v := 1) dX1_isBeside_32 (by first | decide | omega) ?_
      refine j_iadd dX1_isBeside_33 ?_
      refine j_icmp_ne dX1_isBeside_34 (tgt := 41) rfl (fun c3 => ?_) (fun c3 => ?_)
      · refine j_iconst (v := 0) dX1_isBeside_41 (by first | decide | omega) ?_
        refine j_iret dX1_isBeside_42 rfl (rfl) ?_
        exact hQ _ _ (zb_r ((if_pos c1).trans ((if_neg c2).trans ((if_neg c3).trans (rfl)))))
      · refine j_iconst (v := 1) dX1_isBeside_37 (by first | decide | omega) ?_
        refine j_goto dX1_isBeside_38 (tgt := 42) rfl ?_
        refine j_iret dX1_isBeside_42 rfl (rfl) ?_
        exact hQ _ _ (zb_r ((if_pos c1).trans ((if_neg c2).trans ((if_pos c3).trans (rfl)))))
set_option maxRecDepth 4000 in
set_option maxHeartbeats 2000000 in
theorem c_pay {g : zH} {B : Nat} (hB : aB B) {v : Nat → Nat → Int32} {p : Nat → Nat} {k : Nat} (hk : k < 12) {c : Int32} : zCT mX1_pay [.ref (B + (2 + k)), .int c] (215 + nz) (gAu g B v p) (215 + nz) (fun r h' => r = none ∧ h' = gAu g B (cPay v (2 + k) c) p) := by
  intro X Q hQ
  show zJ X mX1_pay (215 + nz) 0 [.ref (B + (2 + k)), .int c] [] (215 + nz) (gAu g B v p) Q
  refine j_aload_n dX1_pay_0 rfl ?_
  refine j_dup dX1_pay_1 rfl ?_
  refine j_get dX1_pay_2 fX1_18 (aB_Sb hB hk) (aB_lt hB (by omega)) (zb_int (tI_b hk)) ?_
  refine j_iload_n dX1_pay_5 rfl ?_
  refine j_isub dX1_pay_6 ?_
  refine j_put dX1_pay_7 fX1_18 (aB_Sb hB hk) (aB_lt hB (by omega)) (rfl) ?_
  rw [zb_wr (tI_b hk)]
  refine j_aload_n dX1_pay_10 rfl ?_
  refine j_dup dX1_pay_11 rfl ?_
  refine j_get dX1_pay_12 fX1_42 (aB_Sb hB hk) (aB_lt hB (by omega)) (zb_int (tI_b hk)) ?_
  refine j_iload_n dX1_pay_15 rfl ?_
  refine j_iadd dX1_pay_16 ?_
  refine j_put dX1_pay_17 fX1_42 (aB_Sb hB hk) (aB_lt hB (by omega)) (rfl) ?_
  rw [zb_wr (tI_b hk)]
  refine j_aload_n dX1_pay_20 rfl ?_
  refine j_dup dX1_pay_21 rfl ?_
  refine j_get dX1_pay_22 fX1_39 (aB_Sb hB hk) (aB_lt hB (by omega)) (zb_int (tI_b hk)) ?_
  refine j_iconst (v := 1) dX1_pay_25 (by first | decide | omega) ?_
  refine j_iadd dX1_pay_26 ?_
  refine j_put dX1_pay_27 fX1_39 (aB_Sb hB hk) (aB_lt hB (by omega)) (rfl) ?_
  rw [zb_wr (tI_b hk)]
  refine j_vret dX1_pay_30 rfl ?_
  refine hQ _ _ ⟨rfl, ?_⟩
  unfold cPay
  rw [up2_n (a := 2 + k) (b := 10) (by omega), up2_n (a := 2 + k) (b := 9) (by omega), up2_n (a := 2 + k) (b := 9) (by omega)]
set_option maxRecDepth 4000 in
set_option maxHeartbeats 2000000 in
theorem c_tell {g : zH} {B : Nat} (hB : aB B) {v : Nat → Nat → Int32} {p : Nat → Nat} {k : Nat} (hk : k < 12) {w : Int32} : zCT mX1_tell [.ref (B + (2 + k)), .int w] (215 + nz) (gAu g B v p) (215 + nz) (fun r h' => r = some (cTell v (2 + k) w) ∧ h' = gAu g B v p) := by
  intro X Q hQ
  show zJ X mX1_tell (215 + nz) 0 [.ref (B + (2 + k)), .int w] [] (215 + nz) (gAu g B v p) Q
  refine j_iload_n dX1_tell_0 rfl ?_
  by_cases hv : w.toInt < 0 ∨ (10 : Int) < w.toInt
  rotate_left
  obtain ⟨j, hj2, rfl, hv2⟩ := z_sw (n := 10) (by omega) hv
  rcases (show j = 0 ∨ j = 1 ∨ j = 2 ∨ j = 3 ∨ j = 4 ∨ j = 5 ∨ j = 6 ∨ j = 7 ∨ j = 8 ∨ j = 9 ∨ j = 10 by omega) with rfl | rfl | rfl | rfl | rfl | rfl | rfl | rfl | rfl | rfl | rfl
  · refine j_tableIn dX1_tell_1 (off := 59) (tgt := 60) (by first | decide | omega) (by first | decide | omega) rfl rfl ?_
    refine j_aload_n dX1_tell_60 rfl ?_
    refine j_get dX1_tell_61 fX1_9 (aB_Sb hB hk) (aB_lt hB (by omega)) (zb_int (tI_b hk)) ?_
    refine j_iret dX1_tell_64 rfl (rfl) ?_
    exact hQ _ _ (zb_r ((if_neg hv).trans (by rw [hv2]; exact (rfl))))
  · refine j_tableIn dX1_tell_1 (off := 64) (tgt := 65) (by first | decide | omega) (by first | decide | omega) rfl rfl ?_
    refine j_aload_n dX1_tell_65 rfl ?_
    refine j_get dX1_tell_66 fX1_15 (aB_Sb hB hk) (aB_lt hB (by omega)) (zb_int (tI_b hk)) ?_
    refine j_iret dX1_tell_69 rfl (rfl) ?_
    exact hQ _ _ (zb_r ((if_neg hv).trans (by rw [hv2]; exact (rfl))))
  · refine j_tableIn dX1_tell_1 (off := 69) (tgt := 70) (by first | decide | omega) (by first | decide | omega) rfl rfl ?_
    refine j_aload_n dX1_tell_70 rfl ?_
    refine j_get dX1_tell_71 fX1_18 (aB_Sb hB hk) (aB_lt hB (by omega)) (zb_int (tI_b hk)) ?_
    refine j_iret dX1_tell_74 rfl (rfl) ?_
    exact hQ _ _ (zb_r ((if_neg hv).trans (by rw [hv2]; exact (rfl))))
  · refine j_tableIn dX1_tell_1 (off := 74) (tgt := 75) (by first | decide | omega) (by first | decide | omega) rfl rfl ?_
    refine j_aload_n dX1_tell_75 rfl ?_
    refine j_get dX1_tell_76 fX1_24 (aB_Sb hB hk) (aB_lt hB (by omega)) (zb_int (tI_b hk)) ?_
    refine j_iret dX1_tell_79 rfl (rfl) ?_
    exact hQ _ _ (zb_r ((if_neg hv).trans (by rw [hv2]; exact (rfl))))
  · refine j_tableIn dX1_tell_1 (off := 79) (tgt := 80) (by first | decide | omega) (by first | decide | omega) rfl rfl ?_
    refine j_aload_n dX1_tell_80 rfl ?_
    refine j_get dX1_tell_81 fX1_27 (aB_Sb hB hk) (aB_lt hB (by omega)) (zb_int (tI_b hk)) ?_
    refine j_iret dX1_tell_84 rfl (rfl) ?_
    exact hQ _ _ (zb_r ((if_neg hv).trans (by rw [hv2]; exact (rfl))))
  · refine j_tableIn dX1_tell_1 (off := 84) (tgt := 85) (by first | decide | omega) (by first | decide | omega) rfl rfl ?_
    refine j_aload_n dX1_tell_85 rfl ?_
    refine j_get dX1_tell_86 fX1_30 (aB_Sb hB hk) (aB_lt hB (by omega)) (zb_int (tI_b hk)) ?_
    refine j_iret dX1_tell_89 rfl (rfl) ?_
    exact hQ _ _ (zb_r ((if_neg hv).trans (by rw [hv2]; exact (rfl))))
  · refine j_tableIn dX1_tell_1 (off := 89) (tgt := 90) (by first | decide | omega) (by first | decide | omega) rfl rfl ?_
    refine j_bipush (v := 100) dX1_tell_90 (by first | decide | omega) ?_
    refine j_aload_n dX1_tell_92 rfl ?_
    refine k_callV0i dX1_tell_93 vX1_tell_45 (c_loudness hB hk) (aB_Sb hB hk) (aB_lt hB (by omega))  (Nat.le_of_ble_eq_true rfl) ⟨rfl, rfl⟩ rfl ?_
    rintro _ _ ⟨⟨⟩, rfl⟩
    refine j_iadd dX1_tell_96 ?_
    refine j_iret dX1_tell_97 rfl (rfl) ?_
    exact hQ _ _ (zb_r ((if_neg hv).trans (by rw [hv2]; exact (rfl))))
  · refine j_tableIn dX1_tell_1 (off := 97) (tgt := 98) (by first | decide | omega) (by first | decide | omega) rfl rfl ?_
    refine j_aload_n dX1_tell_98 rfl ?_
    refine j_get dX1_tell_99 fX1_33 (aB_Sb hB hk) (aB_lt hB (by omega)) (zb_int (tI_b hk)) ?_
    refine j_iret dX1_tell_102 rfl (rfl) ?_
    exact hQ _ _ (zb_r ((if_neg hv).trans (by rw [hv2]; exact (rfl))))
  · refine j_tableIn dX1_tell_1 (off := 102) (tgt := 103) (by first | decide | omega) (by first | decide | omega) rfl rfl ?_
    refine j_aload_n dX1_tell_103 rfl ?_
    refine j_get dX1_tell_104 fX1_36 (aB_Sb hB hk) (aB_lt hB (by omega)) (zb_int (tI_b hk)) ?_
    refine j_iret dX1_tell_107 rfl (rfl) ?_
    exact hQ _ _ (zb_r ((if_neg hv).trans (by rw [hv2]; exact (rfl))))
  · refine j_tableIn dX1_tell_1 (off := 107) (tgt := 108) (by first | decide | omega) (by first | decide | omega) rfl rfl ?_
    refine j_aload_n dX1_tell_108 rfl ?_
    refine j_get dX1_tell_109 fX1_39 (aB_Sb hB hk) (aB_lt hB (by omega)) (zb_int (tI_b hk)) ?_
    refine j_iret dX1_tell_112 rfl (rfl) ?_
    exact hQ _ _ (zb_r ((if_neg hv).trans (by rw [hv2]; exact (rfl))))
  · refine j_tableIn dX1_tell_1 (off := 112) (tgt := 113) (by first | decide | omega) (by first | decide | omega) rfl rfl ?_
    refine j_aload_n dX1_tell_113 rfl ?_
    refine j_get dX1_tell_114 fX1_42 (aB_Sb hB hk) (aB_lt hB (by omega)) (zb_int (tI_b hk)) ?_
    refine j_iret dX1_tell_117 rfl (rfl) ?_
    exact hQ _ _ (zb_r ((if_neg hv).trans (by rw [hv2]; exact (rfl))))
  · refine j_tableOut dX1_tell_1 (tgt := 118) (hv) rfl ?_
    refine j_ldc (v := (-1000001)) dX1_tell_118 cX1_49 ?_
    refine j_iret dX1_tell_120 rfl (rfl) ?_
    exact hQ _ _ (zb_r ((if_pos hv).trans (rfl)))
set_option maxRecDepth 4000 in
set_option maxHeartbeats 2000000 in
theorem c_hasBid {g : zH} {B : Nat} (hB : aB B) {v : Nat → Nat → Int32} {p : Nat → Nat} {a : Nat} (hL : aL a) : zCT mX2_hasBid [.ref (B + a)] (215 + nz) (gAu g B v p) (215 + nz) (fun r h' => r = some (cHas v a) ∧ h' = gAu g B v p) := by
  intro X Q hQ
  show zJ X mX2_hasBid (215 + nz) 0 [.ref (B + a)] [] (215 + nz) (gAu g B v p) Q
  refine j_aload_n dX2_hasBid_0 rfl ?_
  refine j_get dX2_hasBid_1 fX2_31 (aB_SL hB hL) (aB_lt hB (aL_lt hL)) (zb_int (tI_L hL)) ?_
  refine j_if_le dX2_hasBid_4 (tgt := 11) rfl (fun c1 => ?_) (fun c1 => ?_)
  · refine j_iconst (v := 0) dX2_hasBid_11 (by first | decide | omega) ?_
    refine j_iret dX2_hasBid_12 rfl (rfl) ?_
    exact hQ _ _ (zb_r ((if_pos c1).trans (rfl)))
  · refine j_iconst (v := 1) dX2_hasBid_7 (by first | decide | omega) ?_
    refine j_goto dX2_hasBid_8 (tgt := 12) rfl ?_
    refine j_iret dX2_hasBid_12 rfl (rfl) ?_
    exact hQ _ _ (zb_r ((if_neg c1).trans (rfl)))
set_option maxRecDepth 4000 in
set_option maxHeartbeats 2000000 in
theorem c_asked {g : zH} {B : Nat} (hB : aB B) {v : Nat → Nat → Int32} {p : Nat → Nat} {a : Nat} (hL : aL a) : zCT mX2_asked [.ref (B + a)] (215 + nz) (gAu g B v p) (215 + nz) (fun r h' => r = some (cAsk v a) ∧ h' = gAu g B v p) := by
  intro X Q hQ
  show zJ X mX2_asked (215 + nz) 0 [.ref (B + a)] [] (215 + nz) (gAu g B v p) Q
  refine j_aload_n dX2_asked_0 rfl ?_
  refine j_get dX2_asked_1 fX2_31 (aB_SL hB hL) (aB_lt hB (aL_lt hL)) (zb_int (tI_L hL)) ?_
  refine j_if_le dX2_asked_4 (tgt := 19) rfl (fun c1 => ?_) (fun c1 => ?_)
  · refine j_aload_n dX2_asked_19 rfl ?_
    refine j_get dX2_asked_20 fX2_9 (aB_SL hB hL) (aB_lt hB (aL_lt hL)) (zb_int (tI_L hL)) ?_
    refine j_iret dX2_asked_23 rfl (rfl) ?_
    exact hQ _ _ (zb_r ((if_pos c1).trans (rfl)))
  · refine j_aload_n dX2_asked_7 rfl ?_
    refine j_get dX2_asked_8 fX2_18 (aB_SL hB hL) (aB_lt hB (aL_lt hL)) (zb_int (tI_L hL)) ?_
    refine j_aload_n dX2_asked_11 rfl ?_
    refine j_get dX2_asked_12 fX2_15 (aB_SL hB hL) (aB_lt hB (aL_lt hL)) (zb_int (tI_L hL)) ?_
    refine j_iadd dX2_asked_15 ?_
    refine j_goto dX2_asked_16 (tgt := 23) rfl ?_
    refine j_iret dX2_asked_23 rfl (rfl) ?_
    exact hQ _ _ (zb_r ((if_neg c1).trans (rfl)))
set_option maxRecDepth 4000 in
set_option maxHeartbeats 2000000 in
theorem c_come {g : zH} {B : Nat} (hB : aB B) {v : Nat → Nat → Int32} {p : Nat → Nat} {a : Nat} (hL : aL a) {a1 a2 : Int32} : zCT mX2_come [.ref (B + a), .int a1, .int a2] (215 + nz) (gAu g B v p) (215 + nz) (fun r h' => r = none ∧ h' = gAu g B (cCp v a (cCome a1 a2) 10) p) := by
  intro X Q hQ
  show zJ X mX2_come (215 + nz) 0 [.ref (B + a), .int a1, .int a2] [] (215 + nz) (gAu g B v p) Q
  refine j_aload_n dX2_come_0 rfl ?_
  refine j_iload_n dX2_come_1 rfl ?_
  refine j_put dX2_come_2 fX2_9 (aB_SL hB hL) (aB_lt hB (aL_lt hL)) (rfl) ?_
  rw [zb_wr (tI_L hL)]
  refine j_aload_n dX2_come_5 rfl ?_
  refine j_iload_n dX2_come_6 rfl ?_
  refine j_put dX2_come_7 fX2_15 (aB_SL hB hL) (aB_lt hB (aL_lt hL)) (rfl) ?_
  rw [zb_wr (tI_L hL)]
  refine j_aload_n dX2_come_10 rfl ?_
  refine j_iconst (v := 0) dX2_come_11 (by first | decide | omega) ?_
  refine j_put dX2_come_12 fX2_18 (aB_SL hB hL) (aB_lt hB (aL_lt hL)) (rfl) ?_
  rw [zb_wr (tI_L hL)]
  refine j_aload_n dX2_come_15 rfl ?_
  refine j_iconst (v := (-1)) dX2_come_16 (by first | decide | omega) ?_
  refine j_put dX2_come_17 fX2_21 (aB_SL hB hL) (aB_lt hB (aL_lt hL)) (rfl) ?_
  rw [zb_wr (tI_L hL)]
  refine j_aload_n dX2_come_20 rfl ?_
  refine j_iconst (v := 0) dX2_come_21 (by first | decide | omega) ?_
  refine j_put dX2_come_22 fX2_24 (aB_SL hB hL) (aB_lt hB (aL_lt hL)) (rfl) ?_
  rw [zb_wr (tI_L hL)]
  refine j_aload_n dX2_come_25 rfl ?_
  refine j_iconst (v := 0) dX2_come_26 (by first | decide | omega) ?_
  refine j_put dX2_come_27 fX2_28 (aB_SL hB hL) (aB_lt hB (aL_lt hL)) (rfl) ?_
  rw [zb_wr (tI_L hL)]
  refine j_aload_n dX2_come_30 rfl ?_
  refine j_iconst (v := 0) dX2_come_31 (by first | decide | omega) ?_
  refine j_put dX2_come_32 fX2_31 (aB_SL hB hL) (aB_lt hB (aL_lt hL)) (rfl) ?_
  rw [zb_wr (tI_L hL)]
  refine j_aload_n dX2_come_35 rfl ?_
  refine j_iconst (v := 0) dX2_come_36 (by first | decide | omega) ?_
  refine j_put dX2_come_37 fX2_34 (aB_SL hB hL) (aB_lt hB (aL_lt hL)) (rfl) ?_
  rw [zb_wr (tI_L hL)]
  refine j_aload_n dX2_come_40 rfl ?_
  refine j_iconst (v := 0) dX2_come_41 (by first | decide | omega) ?_
  refine j_put dX2_come_42 fX2_37 (aB_SL hB hL) (aB_lt hB (aL_lt hL)) (rfl) ?_
  rw [zb_wr (tI_L hL)]
  refine j_aload_n dX2_come_45 rfl ?_
  refine j_iconst (v := 0) dX2_come_46 (by first | decide | omega) ?_
  refine j_put dX2_come_47 fX2_40 (aB_SL hB hL) (aB_lt hB (aL_lt hL)) (rfl) ?_
  rw [zb_wr (tI_L hL)]
  refine j_vret dX2_come_50 rfl ?_
  exact hQ _ _ ⟨rfl, rfl⟩
set_option maxRecDepth 4000 in
set_option maxHeartbeats 2000000 in
theorem c_lcopy {g : zH} {B : Nat} (hB : aB B) {v : Nat → Nat → Int32} {p : Nat → Nat} {C : Nat} (hC : aB C) (hne : ¬ B = C) {u : Nat → Nat → Int32} {q : Nat → Nat} (hu : zBk g C u q) {a b : Nat} (hL : aL a) (hM : aL b) (hz : aZb (u b 4) ∧ aZb (u b 5)) : zCT mX2_copyFrom [.ref (B + a), .ref (C + b)] (215 + nz) (gAu g B v p) (215 + nz) (fun r h' => r = none ∧ h' = gAu g B (cCp v a (u b) 10) p) := by
  intro X Q hQ
  show zJ X mX2_copyFrom (215 + nz) 0 [.ref (B + a), .ref (C + b)] [] (215 + nz) (gAu g B v p) Q
  refine j_aload_n dX2_copyFrom_0 rfl ?_
  refine j_aload_n dX2_copyFrom_1 rfl ?_
  refine j_get dX2_copyFrom_2 fX2_9 (aB_SL hC hM) (aB_lt hC (aL_lt hM)) (zb_k hB hC hne hu (tI_L hM)) ?_
  refine j_put dX2_copyFrom_5 fX2_9 (aB_SL hB hL) (aB_lt hB (aL_lt hL)) (rfl) ?_
  rw [zb_wr (tI_L hL)]
  refine j_aload_n dX2_copyFrom_8 rfl ?_
  refine j_aload_n dX2_copyFrom_9 rfl ?_
  refine j_get dX2_copyFrom_10 fX2_15 (aB_SL hC hM) (aB_lt hC (aL_lt hM)) (zb_k hB hC hne hu (tI_L hM)) ?_
  refine j_put dX2_copyFrom_13 fX2_15 (aB_SL hB hL) (aB_lt hB (aL_lt hL)) (rfl) ?_
  rw [zb_wr (tI_L hL)]
  refine j_aload_n dX2_copyFrom_16 rfl ?_
  refine j_aload_n dX2_copyFrom_17 rfl ?_
  refine j_get dX2_copyFrom_18 fX2_18 (aB_SL hC hM) (aB_lt hC (aL_lt hM)) (zb_k hB hC hne hu (tI_L hM)) ?_
  refine j_put dX2_copyFrom_21 fX2_18 (aB_SL hB hL) (aB_lt hB (aL_lt hL)) (rfl) ?_
  rw [zb_wr (tI_L hL)]
  refine j_aload_n dX2_copyFrom_24 rfl ?_
  refine j_aload_n dX2_copyFrom_25 rfl ?_
  refine j_get dX2_copyFrom_26 fX2_21 (aB_SL hC hM) (aB_lt hC (aL_lt hM)) (zb_k hB hC hne hu (tI_L hM)) ?_
  refine j_put dX2_copyFrom_29 fX2_21 (aB_SL hB hL) (aB_lt hB (aL_lt hL)) (rfl) ?_
  rw [zb_wr (tI_L hL)]
  refine j_aload_n dX2_copyFrom_32 rfl ?_
  refine j_aload_n dX2_copyFrom_33 rfl ?_
  refine j_get dX2_copyFrom_34 fX2_24 (aB_SL hC hM) (aB_lt hC (aL_lt hM)) (zb_k hB hC hne hu (tI_L hM)) ?_
  refine j_put dX2_copyFrom_37 fX2_24 (aB_SL hB hL) (aB_lt hB (aL_lt hL)) (aZb_ok hz.1) ?_
  rw [zb_wr (tI_L hL)]
  refine j_aload_n dX2_copyFrom_40 rfl ?_
  refine j_aload_n dX2_copyFrom_41 rfl ?_
  refine j_get dX2_copyFrom_42 fX2_28 (aB_SL hC hM) (aB_lt hC (aL_lt hM)) (zb_k hB hC hne hu (tI_L hM)) ?_
  refine j_put dX2_copyFrom_45 fX2_28 (aB_SL hB hL) (aB_lt hB (aL_lt hL)) (aZb_ok hz.2) ?_
  rw [zb_wr (tI_L hL)]
  refine j_aload_n dX2_copyFrom_48 rfl ?_
  refine j_aload_n dX2_copyFrom_49 rfl ?_
  refine j_get dX2_copyFrom_50 fX2_31 (aB_SL hC hM) (aB_lt hC (aL_lt hM)) (zb_k hB hC hne hu (tI_L hM)) ?_
  refine j_put dX2_copyFrom_53 fX2_31 (aB_SL hB hL) (aB_lt hB (aL_lt hL)) (rfl) ?_
  rw [zb_wr (tI_L hL)]
  refine j_aload_n dX2_copyFrom_56 rfl ?_
  refine j_aload_n dX2_copyFrom_57 rfl ?_
  refine j_get dX2_copyFrom_58 fX2_34 (aB_SL hC hM) (aB_lt hC (aL_lt hM)) (zb_k hB hC hne hu (tI_L hM)) ?_
  refine j_put dX2_copyFrom_61 fX2_34 (aB_SL hB hL) (aB_lt hB (aL_lt hL)) (rfl) ?_
  rw [zb_wr (tI_L hL)]
  refine j_aload_n dX2_copyFrom_64 rfl ?_
  refine j_aload_n dX2_copyFrom_65 rfl ?_
  refine j_get dX2_copyFrom_66 fX2_37 (aB_SL hC hM) (aB_lt hC (aL_lt hM)) (zb_k hB hC hne hu (tI_L hM)) ?_
  refine j_put dX2_copyFrom_69 fX2_37 (aB_SL hB hL) (aB_lt hB (aL_lt hL)) (rfl) ?_
  rw [zb_wr (tI_L hL)]
  refine j_aload_n dX2_copyFrom_72 rfl ?_
  refine j_aload_n dX2_copyFrom_73 rfl ?_
  refine j_get dX2_copyFrom_74 fX2_40 (aB_SL hC hM) (aB_lt hC (aL_lt hM)) (zb_k hB hC hne hu (tI_L hM)) ?_
  refine j_put dX2_copyFrom_77 fX2_40 (aB_SL hB hL) (aB_lt hB (aL_lt hL)) (rfl) ?_
  rw [zb_wr (tI_L hL)]
  refine j_vret dX2_copyFrom_80 rfl ?_
  exact hQ _ _ ⟨rfl, rfl⟩
set_option maxRecDepth 4000 in
set_option maxHeartbeats 2000000 in
theorem c_takeBid {g : zH} {B : Nat} (hB : aB B) {v : Nat → Nat → Int32} {p : Nat → Nat} {a : Nat} (hL : aL a) {bid who c : Int32} (hc : aZb c) : zCT mX2_takeBid [.ref (B + a), .int bid, .int who, .int c] (215 + nz) (gAu g B v p) (215 + nz) (fun r h' => r = none ∧ h' = gAu g B (cTb v a bid who c) p) := by
  intro X Q hQ
  show zJ X mX2_takeBid (215 + nz) 0 [.ref (B + a), .int bid, .int who, .int c] [] (215 + nz) (gAu g B v p) Q
  refine j_aload_n dX2_takeBid_0 rfl ?_
  refine j_iload_n dX2_takeBid_1 rfl ?_
  refine j_put dX2_takeBid_2 fX2_18 (aB_SL hB hL) (aB_lt hB (aL_lt hL)) (rfl) ?_
  rw [zb_wr (tI_L hL)]
  refine j_aload_n dX2_takeBid_5 rfl ?_
  refine j_iload_n dX2_takeBid_6 rfl ?_
  refine j_put dX2_takeBid_7 fX2_21 (aB_SL hB hL) (aB_lt hB (aL_lt hL)) (rfl) ?_
  rw [zb_wr (tI_L hL)]
  refine j_aload_n dX2_takeBid_10 rfl ?_
  refine j_iload_n dX2_takeBid_11 rfl ?_
  refine j_put dX2_takeBid_12 fX2_24 (aB_SL hB hL) (aB_lt hB (aL_lt hL)) (aZb_ok hc) ?_
  rw [zb_wr (tI_L hL)]
  refine j_aload_n dX2_takeBid_15 rfl ?_
  refine j_iconst (v := 1) dX2_takeBid_16 (by first | decide | omega) ?_
  refine j_put dX2_takeBid_17 fX2_28 (aB_SL hB hL) (aB_lt hB (aL_lt hL)) (rfl) ?_
  rw [zb_wr (tI_L hL)]
  refine j_aload_n dX2_takeBid_20 rfl ?_
  refine j_dup dX2_takeBid_21 rfl ?_
  refine j_get dX2_takeBid_22 fX2_31 (aB_SL hB hL) (aB_lt hB (aL_lt hL)) (zb_int (tI_L hL)) ?_
  refine j_iconst (v := 1) dX2_takeBid_25 (by first | decide | omega) ?_
  refine j_iadd dX2_takeBid_26 ?_
  refine j_put dX2_takeBid_27 fX2_31 (aB_SL hB hL) (aB_lt hB (aL_lt hL)) (rfl) ?_
  rw [zb_wr (tI_L hL)]
  refine j_vret dX2_takeBid_30 rfl ?_
  refine hQ _ _ ⟨rfl, ?_⟩
  unfold cTb
  rw [up2_n (a := a) (b := 6) (by omega), up2_n (a := a) (b := 6) (by omega), up2_n (a := a) (b := 6) (by omega), up2_n (a := a) (b := 6) (by omega)]
set_option maxRecDepth 4000 in
set_option maxHeartbeats 2000000 in
theorem c_tellUp {g : zH} {B : Nat} (hB : aB B) {v : Nat → Nat → Int32} {p : Nat → Nat} {a : Nat} (hL : aL a) {j : Nat} (hj : j < 9) : zCT mX2_tellUp [.ref (B + a), .int (nI j)] (215 + nz) (gAu g B v p) (215 + nz) (fun r h' => r = some (cTuQ v a j) ∧ h' = gAu g B v p) := by
  intro X Q hQ
  show zJ X mX2_tellUp (215 + nz) 0 [.ref (B + a), .int (nI j)] [] (215 + nz) (gAu g B v p) Q
  refine j_iload_n dX2_tellUp_0 rfl ?_
  rcases (show j = 0 ∨ j = 1 ∨ j = 2 ∨ j = 3 ∨ j = 4 ∨ j = 5 ∨ j = 6 ∨ j = 7 ∨ j = 8 by omega) with rfl | rfl | rfl | rfl | rfl | rfl | rfl | rfl | rfl
  · refine j_tableIn dX2_tellUp_1 (off := 51) (tgt := 52) (by first | decide | omega) (by first | decide | omega) rfl rfl ?_
    refine j_aload_n dX2_tellUp_52 rfl ?_
    refine j_get dX2_tellUp_53 fX2_9 (aB_SL hB hL) (aB_lt hB (aL_lt hL)) (zb_int (tI_L hL)) ?_
    refine j_iret dX2_tellUp_56 rfl (rfl) ?_
    exact hQ _ _ (zb_r (rfl))
  · refine j_tableIn dX2_tellUp_1 (off := 56) (tgt := 57) (by first | decide | omega) (by first | decide | omega) rfl rfl ?_
    refine j_aload_n dX2_tellUp_57 rfl ?_
    refine j_get dX2_tellUp_58 fX2_15 (aB_SL hB hL) (aB_lt hB (aL_lt hL)) (zb_int (tI_L hL)) ?_
    refine j_iret dX2_tellUp_61 rfl (rfl) ?_
    exact hQ _ _ (zb_r (rfl))
  · refine j_tableIn dX2_tellUp_1 (off := 61) (tgt := 62) (by first | decide | omega) (by first | decide | omega) rfl rfl ?_
    refine j_aload_n dX2_tellUp_62 rfl ?_
    refine k_callV0i dX2_tellUp_63 vX2_tellUp_43 (c_hasBid hB hL) (aB_SL hB hL) (aB_lt hB (aL_lt hL))  (Nat.le_of_ble_eq_true rfl) ⟨rfl, rfl⟩ rfl ?_
    rintro _ _ ⟨⟨⟩, rfl⟩
    refine j_if_eq dX2_tellUp_66 (tgt := 76) rfl (fun c1 => ?_) (fun c1 => ?_)
    · refine j_ldc (v := (-1000004)) dX2_tellUp_76 cX2_47 ?_
      refine j_iret dX2_tellUp_78 rfl (rfl) ?_
      exact hQ _ _ (zb_r ((if_pos c1).trans (rfl)))
    · refine j_aload_n dX2_tellUp_69 rfl ?_
      refine j_get dX2_tellUp_70 fX2_18 (aB_SL hB hL) (aB_lt hB (aL_lt hL)) (zb_int (tI_L hL)) ?_
      refine j_goto dX2_tellUp_73 (tgt := 78) rfl ?_
      refine j_iret dX2_tellUp_78 rfl (rfl) ?_
      exact hQ _ _ (zb_r ((if_neg c1).trans (rfl)))
  · refine j_tableIn dX2_tellUp_1 (off := 78) (tgt := 79) (by first | decide | omega) (by first | decide | omega) rfl rfl ?_
    refine j_aload_n dX2_tellUp_79 rfl ?_
    refine k_callV0i dX2_tellUp_80 vX2_tellUp_43 (c_hasBid hB hL) (aB_SL hB hL) (aB_lt hB (aL_lt hL))  (Nat.le_of_ble_eq_true rfl) ⟨rfl, rfl⟩ rfl ?_
    rintro _ _ ⟨⟨⟩, rfl⟩
    refine j_if_eq dX2_tellUp_83 (tgt := 93) rfl (fun c2 => ?_) (fun c2 => ?_)
    · refine j_ldc (v := (-1000004)) dX2_tellUp_93 cX2_47 ?_
      refine j_iret dX2_tellUp_95 rfl (rfl) ?_
      exact hQ _ _ (zb_r ((if_pos c2).trans (rfl)))
    · refine j_aload_n dX2_tellUp_86 rfl ?_
      refine j_get dX2_tellUp_87 fX2_21 (aB_SL hB hL) (aB_lt hB (aL_lt hL)) (zb_int (tI_L hL)) ?_
      refine j_goto dX2_tellUp_90 (tgt := 95) rfl ?_
      refine j_iret dX2_tellUp_95 rfl (rfl) ?_
      exact hQ _ _ (zb_r ((if_neg c2).trans (rfl)))
  · refine j_tableIn dX2_tellUp_1 (off := 95) (tgt := 96) (by first | decide | omega) (by first | decide | omega) rfl rfl ?_
    refine j_aload_n dX2_tellUp_96 rfl ?_
    refine j_get dX2_tellUp_97 fX2_34 (aB_SL hB hL) (aB_lt hB (aL_lt hL)) (zb_int (tI_L hL)) ?_
    refine j_iret dX2_tellUp_100 rfl (rfl) ?_
    exact hQ _ _ (zb_r (rfl))
  · refine j_tableIn dX2_tellUp_1 (off := 100) (tgt := 101) (by first | decide | omega) (by first | decide | omega) rfl rfl ?_
    refine j_aload_n dX2_tellUp_101 rfl ?_
    refine j_get dX2_tellUp_102 fX2_37 (aB_SL hB hL) (aB_lt hB (aL_lt hL)) (zb_int (tI_L hL)) ?_
    refine j_iret dX2_tellUp_105 rfl (rfl) ?_
    exact hQ _ _ (zb_r (rfl))
  · refine j_tableIn dX2_tellUp_1 (off := 105) (tgt := 106) (by first | decide | omega) (by first | decide | omega) rfl rfl ?_
    refine j_aload_n dX2_tellUp_106 rfl ?_
    refine k_callV0i dX2_tellUp_107 vX2_tellUp_48 (c_asked hB hL) (aB_SL hB hL) (aB_lt hB (aL_lt hL))  (Nat.le_of_ble_eq_true rfl) ⟨rfl, rfl⟩ rfl ?_
    rintro _ _ ⟨⟨⟩, rfl⟩
    refine j_iret dX2_tellUp_110 rfl (rfl) ?_
    exact hQ _ _ (zb_r (rfl))
  · refine j_tableIn dX2_tellUp_1 (off := 110) (tgt := 111) (by first | decide | omega) (by first | decide | omega) rfl rfl ?_
    refine j_aload_n dX2_tellUp_111 rfl ?_
    refine j_get dX2_tellUp_112 fX2_31 (aB_SL hB hL) (aB_lt hB (aL_lt hL)) (zb_int (tI_L hL)) ?_
    refine j_iret dX2_tellUp_115 rfl (rfl) ?_
    exact hQ _ _ (zb_r (rfl))
  · refine j_tableIn dX2_tellUp_1 (off := 115) (tgt := 116) (by first | decide | omega) (by first | decide | omega) rfl rfl ?_
    refine j_aload_n dX2_tellUp_116 rfl ?_
    refine j_get dX2_tellUp_117 fX2_24 (aB_SL hB hL) (aB_lt hB (aL_lt hL)) (zb_int (tI_L hL)) ?_
    refine j_if_eq dX2_tellUp_120 (tgt := 127) rfl (fun c3 => ?_) (fun c3 => ?_)
    · refine j_iconst (v := 0) dX2_tellUp_127 (by first | decide | omega) ?_
      refine j_iret dX2_tellUp_128 rfl (rfl) ?_
      exact hQ _ _ (zb_r ((if_pos c3).trans (rfl)))
    · refine j_iconst (v := 1) dX2_tellUp_123 (by first | decide | omega) ?_
      refine j_goto dX2_tellUp_124 (tgt := 128) rfl ?_
      refine j_iret dX2_tellUp_128 rfl (rfl) ?_
      exact hQ _ _ (zb_r ((if_neg c3).trans (rfl)))
set_option maxRecDepth 4000 in
set_option maxHeartbeats 2000000 in
theorem c_tellGone {g : zH} {B : Nat} (hB : aB B) {v : Nat → Nat → Int32} {p : Nat → Nat} {a : Nat} (hL : aL a) {j : Nat} (hj : j < 5) : zCT mX2_tellGone [.ref (B + a), .int (nI j)] (215 + nz) (gAu g B v p) (215 + nz) (fun r h' => r = some (cTgQ v a j) ∧ h' = gAu g B v p) := by
  intro X Q hQ
  show zJ X mX2_tellGone (215 + nz) 0 [.ref (B + a), .int (nI j)] [] (215 + nz) (gAu g B v p) Q
  refine j_iload_n dX2_tellGone_0 rfl ?_
  rcases (show j = 0 ∨ j = 1 ∨ j = 2 ∨ j = 3 ∨ j = 4 by omega) with rfl | rfl | rfl | rfl | rfl
  · refine j_tableIn dX2_tellGone_1 (off := 35) (tgt := 36) (by first | decide | omega) (by first | decide | omega) rfl rfl ?_
    refine j_aload_n dX2_tellGone_36 rfl ?_
    refine j_get dX2_tellGone_37 fX2_40 (aB_SL hB hL) (aB_lt hB (aL_lt hL)) (zb_int (tI_L hL)) ?_
    refine j_iret dX2_tellGone_40 rfl (rfl) ?_
    exact hQ _ _ (zb_r (rfl))
  · refine j_tableIn dX2_tellGone_1 (off := 40) (tgt := 41) (by first | decide | omega) (by first | decide | omega) rfl rfl ?_
    refine j_aload_n dX2_tellGone_41 rfl ?_
    refine j_get dX2_tellGone_42 fX2_18 (aB_SL hB hL) (aB_lt hB (aL_lt hL)) (zb_int (tI_L hL)) ?_
    refine j_iret dX2_tellGone_45 rfl (rfl) ?_
    exact hQ _ _ (zb_r (rfl))
  · refine j_tableIn dX2_tellGone_1 (off := 45) (tgt := 46) (by first | decide | omega) (by first | decide | omega) rfl rfl ?_
    refine j_aload_n dX2_tellGone_46 rfl ?_
    refine k_callV0i dX2_tellGone_47 vX2_tellGone_43 (c_hasBid hB hL) (aB_SL hB hL) (aB_lt hB (aL_lt hL))  (Nat.le_of_ble_eq_true rfl) ⟨rfl, rfl⟩ rfl ?_
    rintro _ _ ⟨⟨⟩, rfl⟩
    refine j_if_eq dX2_tellGone_50 (tgt := 60) rfl (fun c1 => ?_) (fun c1 => ?_)
    · refine j_ldc (v := (-1000004)) dX2_tellGone_60 cX2_47 ?_
      refine j_iret dX2_tellGone_62 rfl (rfl) ?_
      exact hQ _ _ (zb_r ((if_pos c1).trans (rfl)))
    · refine j_aload_n dX2_tellGone_53 rfl ?_
      refine j_get dX2_tellGone_54 fX2_21 (aB_SL hB hL) (aB_lt hB (aL_lt hL)) (zb_int (tI_L hL)) ?_
      refine j_goto dX2_tellGone_57 (tgt := 62) rfl ?_
      refine j_iret dX2_tellGone_62 rfl (rfl) ?_
      exact hQ _ _ (zb_r ((if_neg c1).trans (rfl)))
  · refine j_tableIn dX2_tellGone_1 (off := 62) (tgt := 63) (by first | decide | omega) (by first | decide | omega) rfl rfl ?_
    refine j_aload_n dX2_tellGone_63 rfl ?_
    refine j_get dX2_tellGone_64 fX2_34 (aB_SL hB hL) (aB_lt hB (aL_lt hL)) (zb_int (tI_L hL)) ?_
    refine j_iret dX2_tellGone_67 rfl (rfl) ?_
    exact hQ _ _ (zb_r (rfl))
  · refine j_tableIn dX2_tellGone_1 (off := 67) (tgt := 68) (by first | decide | omega) (by first | decide | omega) rfl rfl ?_
    refine j_aload_n dX2_tellGone_68 rfl ?_
    refine j_get dX2_tellGone_69 fX2_31 (aB_SL hB hL) (aB_lt hB (aL_lt hL)) (zb_int (tI_L hL)) ?_
    refine j_iret dX2_tellGone_72 rfl (rfl) ?_
    exact hQ _ _ (zb_r (rfl))
