-- the text
section SX
/-- the script's objects: its ints f, its characters tx, its numbers nm -/
def gX (g : zH) (f tx nm : Nat → Int32) : zH := fun a => if a = 142 then (fun k => if k = 0 then .ref 143 else if k = 1 then .ref 144 else .int (f k)) else if a = 143 then iA tx else if a = 144 then iA nm else g a
variable {g : zH} {f tx nm : Nat → Int32} {k j T p : Nat} {x c : Int32}
theorem x_p0 : gX g f tx nm 142 0 = .ref 143 := rfl
theorem x_p1 : gX g f tx nm 142 1 = .ref 144 := rfl
theorem x_f (h : 2 ≤ k) : gX g f tx nm 142 k = .int (f k) := by
  show (if k = 0 then Value.ref 143 else if k = 1 then .ref 144 else .int (f k)) = _
  rw [if_neg (by omega), if_neg (by omega)]
theorem x_t : gX g f tx nm 143 k = .int (tx k) := rfl
theorem x_n : gX g f tx nm 144 k = .int (nm k) := rfl
theorem x_o {a : Nat} (h : a < 142 ∨ 144 < a) : gX g f tx nm a = g a := by
  unfold gX
  rw [if_neg (by omega), if_neg (by omega), if_neg (by omega)]
theorem x_put (h : 2 ≤ k) : va_up (gX g f tx nm) 142 (va_up (gX g f tx nm 142) k (.int x)) = gX g (upd f k x) tx nm := by
  funext a
  by_cases ha : a = 142
  · subst ha
    rw [va_s]
    funext b
    by_cases hb : b = k
    · subst hb
      rw [va_s, x_f h, upd_s]
    · rw [va_n hb]
      show (if b = 0 then Value.ref 143 else if b = 1 then .ref 144 else .int (f b)) = (if b = 0 then Value.ref 143 else if b = 1 then .ref 144 else .int (upd f k x b))
      rw [upd_n hb]
  · rw [va_n ha]
    unfold gX
    rw [if_neg ha, if_neg ha]
theorem x_tput : va_up (gX g f tx nm) 143 (va_up (gX g f tx nm 143) j (.int x)) = gX g f (upd tx j x) nm := by
  funext a
  by_cases ha : a = 143
  · subst ha
    rw [va_s]
    exact iA_up
  · rw [va_n ha]
    unfold gX
    by_cases h2 : a = 142
    · rw [if_pos h2, if_pos h2]
    · rw [if_neg h2, if_neg h2, if_neg ha, if_neg ha]
theorem x_nput : va_up (gX g f tx nm) 144 (va_up (gX g f tx nm 144) j (.int x)) = gX g f tx (upd nm j x) := by
  funext a
  by_cases ha : a = 144
  · subst ha
    rw [va_s]
    exact iA_up
  · rw [va_n ha]
    unfold gX
    by_cases h2 : a = 142
    · rw [if_pos h2, if_pos h2]
    · rw [if_neg h2, if_neg h2]
      by_cases h3 : a = 143
      · rw [if_pos h3, if_pos h3]
      · rw [if_neg h3, if_neg h3, if_neg ha, if_neg ha]
theorem x_au {B : Nat} (hB : aB B) {v : Nat → Nat → Int32} {q : Nat → Nat} : gX (gAu g B v q) f tx nm = gAu (gX g f tx nm) B v q := by
  funext a
  by_cases h : B ≤ a ∧ a < B + 35
  · rw [x_o (by unfold aB at hB; omega)]
    unfold gAu
    rw [if_pos h, if_pos h]
  · rw [zb_out (g := gX g f tx nm) (by omega)]
    unfold gX
    rw [zb_out (by omega)]
def aTx (tx : Nat → Int32) (T : Nat) : Prop := ∀ j, j < T → aR (tx j) 32 126
def dNx (tx : Nat → Int32) (T p : Nat) : Int32 := if T ≤ p then 0 else tx p
theorem dNx_R (h : aTx tx T) : aR (dNx tx T p) 0 126 := by
  unfold dNx
  by_cases q : T ≤ p
  · rw [if_pos q]
    exact ⟨0, by decide⟩
  · rw [if_neg q]
    obtain ⟨n, h1, h2, h3⟩ := h p (by omega)
    exact ⟨n, by omega, h2, h3⟩
theorem aR_nar {n : Nat} (h : aR x 0 n) (hn : n ≤ 65535) : zOk .char (.int x) = true ∧ narrow .char (.int x) = .int x := by
  obtain ⟨j, h1, h2, rfl⟩ := h
  have e : zOk .char (.int (nI j)) = true := by
    show (decide ((0 : Int32) ≤ nI j) && decide (nI j ≤ 65535)) = true
    rw [decide_eq_true (show (0 : Int32) ≤ nI j from (nI_leI (a := 0) (b := j) (by omega) (by omega)).mpr (by omega)), decide_eq_true (show nI j ≤ (65535 : Int32) from (nI_leI (a := j) (b := 65535) (by omega) (by omega)).mpr (by omega))]
    rfl
  exact ⟨e, (zOk_spec (b := 0) (z := 0) e).1⟩
theorem aIn_1 (hc : ¬ c = 0) : aSg tx T p c = if dNx tx T p = c then 1 else 0 := by
  unfold aSg aAtC dNx
  by_cases h : T ≤ p
  · rw [if_pos h, if_pos h, if_pos rfl, if_neg (fun q => hc q.symm)]
  · rw [if_neg h, if_neg h]
    unfold aIn
    by_cases e : tx p = c
    · have e1 : (if c < c then (0 : Int32) else if c < c then 0 else 1) = 1 := by rw [if_neg Int32.lt_irrefl, if_neg Int32.lt_irrefl]
      rw [e, e1, if_neg (show ¬ (1 : Int32) = 0 by decide), if_neg (show ¬ (1 : Int32) = 0 by decide), if_pos rfl]
    · rw [if_neg e]
      by_cases h1 : tx p < c
      · rw [if_pos h1, if_pos rfl, if_pos rfl]
      · rw [if_neg h1]
        by_cases h2 : c < tx p
        · rw [if_pos h2, if_pos rfl, if_pos rfl]
        · exact absurd (Int32.le_antisymm (Int32.not_lt.mp h2) (Int32.not_lt.mp h1)) e
def dNof (c : Int32) : Int32 := if c = 112 then 4 else if c = 108 then 2 else if c = 109 then 2 else if c = 99 then 1 else if c = 98 then 1 else if c = 117 then 0 else if c = 110 then 0 else -1
theorem dNof_out (h : c.toInt < 98 ∨ (117 : Int) < c.toInt) : dNof c = -1 := by
  have e : ∀ n : Nat, 98 ≤ n → n ≤ 117 → ¬ c = nI n := by
    intro n h1 h2 q
    rw [q, nI_toInt (by omega)] at h
    omega
  exact (if_neg (e 112 (by decide) (by decide))).trans ((if_neg (e 108 (by decide) (by decide))).trans ((if_neg (e 109 (by decide) (by decide))).trans ((if_neg (e 99 (by decide) (by decide))).trans ((if_neg (e 98 (by decide) (by decide))).trans ((if_neg (e 117 (by decide) (by decide))).trans (if_neg (e 110 (by decide) (by decide))))))))
theorem dNof_cases : (dNof c = -1 ∧ aNof c = -1000004) ∨ (aOc c ∧ dNof c = aNof c ∧ ∃ m, m ≤ 4 ∧ aNof c = nI m) := by
  by_cases h1 : c = 112
  · subst h1
    exact Or.inr ⟨by unfold aOc; decide, by decide, 4, by decide⟩
  · by_cases h2 : c = 108
    · subst h2
      exact Or.inr ⟨by unfold aOc; decide, by decide, 2, by decide⟩
    · by_cases h3 : c = 109
      · subst h3
        exact Or.inr ⟨by unfold aOc; decide, by decide, 2, by decide⟩
      · by_cases h4 : c = 99
        · subst h4
          exact Or.inr ⟨by unfold aOc; decide, by decide, 1, by decide⟩
        · by_cases h5 : c = 98
          · subst h5
            exact Or.inr ⟨by unfold aOc; decide, by decide, 1, by decide⟩
          · by_cases h6 : c = 117
            · subst h6
              exact Or.inr ⟨by unfold aOc; decide, by decide, 0, by decide⟩
            · by_cases h7 : c = 110
              · subst h7
                exact Or.inr ⟨by unfold aOc; decide, by decide, 0, by decide⟩
              · left
                unfold dNof aNof
                rw [if_neg h1, if_neg h2, if_neg h3, if_neg h4, if_neg h5, if_neg h6, if_neg h7, if_neg h1, if_neg h2, if_neg h3, if_neg h4, if_neg h5, if_neg h6, if_neg h7]
                exact ⟨rfl, rfl⟩
/-- the sign that is read and the order that the check reads -/
theorem dNx_ord : (0 ≤ aNof (aOrd tx T p) → dNx tx T p = aOrd tx T p ∧ aOc (aOrd tx T p) ∧ dNof (dNx tx T p) = aNof (aOrd tx T p)) ∧ (¬ 0 ≤ aNof (aOrd tx T p) → dNof (dNx tx T p) = -1) := by
  have key : dNx tx T p = aOrd tx T p ∨ (aOrd tx T p = 0 ∧ dNof (dNx tx T p) = -1) := by
    unfold dNx aOrd aAtC
    by_cases h : T ≤ p
    · rw [if_pos h, if_pos h, if_pos rfl]
      exact Or.inl rfl
    · rw [if_neg h, if_neg h]
      by_cases h2 : aIn (tx p) 33 126 = 0
      · rw [if_pos h2, if_pos rfl]
        refine Or.inr ⟨rfl, ?_⟩
        apply dNof_out
        unfold aIn at h2
        by_cases a : tx p < 33
        · left
          rw [Int32.lt_iff_toInt_lt] at a
          have : (33 : Int32).toInt = 33 := by decide
          omega
        · rw [if_neg a] at h2
          by_cases b : 126 < tx p
          · right
            rw [Int32.lt_iff_toInt_lt] at b
            have : (126 : Int32).toInt = 126 := by decide
            omega
          · rw [if_neg b] at h2
            exact absurd h2 (by decide)
      · rw [if_neg h2, if_neg (by decide)]
        exact Or.inl rfl
  rcases key with e | ⟨e1, e2⟩
  · rw [e]
    rcases dNof_cases (c := aOrd tx T p) with ⟨a, b⟩ | ⟨a, b, m, hm, d⟩
    · refine ⟨fun q => ?_, fun _ => a⟩
      rw [b] at q
      exact absurd q (by decide)
    · refine ⟨fun _ => ⟨rfl, a, b⟩, fun q => ?_⟩
      rw [d] at q
      exact absurd ((nI_leI (a := 0) (b := m) (by omega) (by omega)).mpr (by omega)) q
  · rw [e1]
    exact ⟨fun q => absurd q (by decide), fun _ => e2⟩
def dTypF (f : Nat → Int32) (T : Nat) (c : Int32) : Nat → Int32 := if aIn c 32 126 = 0 then f else if T = 60 then f else upd f 2 (nI (T + 1))
theorem z_i2c (h : aR c 0 1000) : (c.toUInt32 % 65536).toInt32 = c := by
  obtain ⟨n, -, h2, rfl⟩ := h
  have e : (nI n).toUInt32 % 65536 = (nI n).toUInt32 := by
    apply UInt32.toNat_inj.mp
    rw [UInt32.toNat_mod]
    have e2 : (nI n).toUInt32.toNat = n := by
      show (BitVec.ofNat 32 n).toNat = n
      rw [BitVec.toNat_ofNat]
      exact Nat.mod_eq_of_lt (by omega)
    rw [e2]
    exact Nat.mod_eq_of_lt (by
      have : (65536 : UInt32).toNat = 65536 := by decide
      omega)
  rw [e]
  rfl
theorem xNm_le : ∀ (n p : Nat) (x : Int32), p ≤ T → (aNm tx T n p x).1 ≤ T ∧ p ≤ (aNm tx T n p x).1
  | 0, p, x, h => ⟨h, Nat.le_refl _⟩
  | n + 1, p, x, h => by
    unfold aNm
    by_cases q : aAtC tx T p 48 57 = 0
    · rw [if_pos q]
      exact ⟨h, Nat.le_refl _⟩
    · rw [if_neg q]
      have hp : p < T := Nat.lt_of_not_le (fun w => q (if_pos w))
      have := xNm_le n (p + 1) (10 * x + tx p - 48) (by omega)
      exact ⟨this.1, by omega⟩
theorem xSg_le {c : Int32} (h : p ≤ T) : p + aSg tx T p c ≤ T ∧ aSg tx T p c ≤ 1 := by
  unfold aSg aAtC
  by_cases q : T ≤ p
  · rw [if_pos q, if_pos rfl]
    omega
  · rw [if_neg q]
    repeat' split
    all_goals omega
theorem xSg_nar : narrow .boolean (.int (nI (aSg tx T p c))) = .int (nI (aSg tx T p c)) := by
  unfold aSg
  split <;> rfl
end SX
set_option maxRecDepth 4000 in
set_option maxHeartbeats 2000000 in
theorem x_next {g : zH} {f tx nm : Nat → Int32} {T p : Nat} (hT : f 2 = nI T) (hT60 : T ≤ 60) (hp : f 4 = nI p) (hpT : p ≤ T) (htx : aTx tx T) : zCT mX3_next [.ref 142] 222 (gX g f tx nm) 222 (fun r h' => r = some (dNx tx T p) ∧ h' = gX g f tx nm) := by
  intro X Q hQ
  show zJ X mX3_next 222 0 [.ref 142] [] 222 (gX g f tx nm) Q
  refine j_aload_n dX3_next_0 rfl ?_
  refine j_get (v := .int (nI p)) dX3_next_1 fX3_32 rfl (by decide) ((x_f (by decide)).trans (congrArg Value.int (hp))) ?_
  refine j_if_lt dX3_next_4 (tgt := 30) rfl (fun c1 => absurd c1 (show ¬ nI p < 0 from nI_nlt (a := p) (b := 0) (by omega) (by omega))) (fun _ => ?_)
  refine j_aload_n dX3_next_7 rfl ?_
  refine j_get (v := .int (nI p)) dX3_next_8 fX3_32 rfl (by decide) ((x_f (by decide)).trans (congrArg Value.int (hp))) ?_
  refine j_aload_n dX3_next_11 rfl ?_
  refine j_get (v := .int (nI T)) dX3_next_12 fX3_28 rfl (by decide) ((x_f (by decide)).trans (congrArg Value.int (hT))) ?_
  refine j_icmp_ge dX3_next_15 (tgt := 30) rfl (fun c2 => ?_) (fun c2 => ?_)
  · refine j_iconst (v := 0) dX3_next_30 (by decide) ?_
    refine j_iret dX3_next_31 rfl (by first | exact hnar | exact (aR_nar (n := 0) ⟨0, by decide⟩ (by decide)).2) ?_
    exact hQ _ _ ⟨congrArg some (if_pos ((nI_leI (by omega) (by omega)).mp ‹nI T ≤ nI p›)).symm, rfl⟩
  · have hpl : p < T := Nat.lt_of_not_le (fun q => ‹¬ nI T ≤ nI p› ((nI_leI (by omega) (by omega)).mpr q))
    have hnar : narrow .char (.int (tx p)) = .int (tx p) := by
      obtain ⟨n, h1, h2, h3⟩ := htx p hpl
      exact (aR_nar ⟨n, by omega, h2, h3⟩ (by decide)).2
    refine j_aload_n dX3_next_18 rfl ?_
    refine j_get (v := .ref 143) dX3_next_19 fX3_11 rfl (by decide) x_p0 ?_
    refine j_aload_n dX3_next_22 rfl ?_
    refine j_get (v := .int (nI p)) dX3_next_23 fX3_32 rfl (by decide) ((x_f (by decide)).trans (congrArg Value.int (hp))) ?_
    refine j_cald (n := 60) (x := tx p) dX3_next_26 rfl (by decide) (z_vin (j := p) (by first | rfl | (simp only [z_n, pk_mul, nI_add]; done) | (simp only [z_n, pk_mul, nI_add]; exact pk_sub (by omega)) | (simp only [z_n, pk_mul, nI_add, pk_sub, *]; done)) (by omega) (by decide)) (by rw [z_cl (by omega)]; rfl) ?_
    refine j_goto dX3_next_27 (tgt := 31) rfl ?_
    refine j_iret dX3_next_31 rfl (by first | exact hnar | exact (aR_nar (n := 0) ⟨0, by decide⟩ (by decide)).2) ?_
    exact hQ _ _ ⟨congrArg some (if_neg (fun q => ‹¬ nI T ≤ nI p› ((nI_leI (by omega) (by omega)).mpr q))).symm, rfl⟩
set_option maxRecDepth 4000 in
set_option maxHeartbeats 2000000 in
theorem x_has {g : zH} {f tx nm : Nat → Int32} : zCT mX3_hasFault [.ref 142] 222 (gX g f tx nm) 222 (fun r h' => r = some (if f 6 = -1 then 0 else 1) ∧ h' = gX g f tx nm) := by
  intro X Q hQ
  show zJ X mX3_hasFault 222 0 [.ref 142] [] 222 (gX g f tx nm) Q
  refine j_aload_n dX3_hasFault_0 rfl ?_
  refine j_get dX3_hasFault_1 fX3_19 rfl (by decide) (x_f (by decide)) ?_
  refine j_iconst (v := (-1)) dX3_hasFault_4 (by decide) ?_
  refine j_icmp_eq dX3_hasFault_5 (tgt := 12) rfl (fun c1 => ?_) (fun c1 => ?_)
  · refine j_iconst (v := 0) dX3_hasFault_12 (by decide) ?_
    refine j_iret dX3_hasFault_13 rfl (rfl) ?_
    exact hQ _ _ (zb_r ((if_pos c1).trans (rfl)))
  · refine j_iconst (v := 1) dX3_hasFault_8 (by decide) ?_
    refine j_goto dX3_hasFault_9 (tgt := 13) rfl ?_
    refine j_iret dX3_hasFault_13 rfl (rfl) ?_
    exact hQ _ _ (zb_r ((if_neg c1).trans (rfl)))
set_option maxRecDepth 4000 in
set_option maxHeartbeats 2000000 in
theorem x_note {g : zH} {f tx nm : Nat → Int32} {a b c : Int32} : zCT mX3_noteFault [.ref 142, .int a, .int b, .int c] 222 (gX g f tx nm) 222 (fun r h' => r = none ∧ h' = gX g (upd (upd (upd f 6 a) 7 b) 8 c) tx nm) := by
  intro X Q hQ
  show zJ X mX3_noteFault 222 0 [.ref 142, .int a, .int b, .int c] [] 222 (gX g f tx nm) Q
  refine j_aload_n dX3_noteFault_0 rfl ?_
  refine j_iload_n dX3_noteFault_1 rfl ?_
  refine j_put dX3_noteFault_2 fX3_19 rfl (by decide) (rfl) ?_
  rw [x_put (k := 6) (by decide)]
  refine j_aload_n dX3_noteFault_5 rfl ?_
  refine j_iload_n dX3_noteFault_6 rfl ?_
  refine j_put dX3_noteFault_7 fX3_59 rfl (by decide) (rfl) ?_
  rw [x_put (k := 7) (by decide)]
  refine j_aload_n dX3_noteFault_10 rfl ?_
  refine j_iload_n dX3_noteFault_11 rfl ?_
  refine j_put dX3_noteFault_12 fX3_62 rfl (by decide) (rfl) ?_
  rw [x_put (k := 8) (by decide)]
  refine j_vret dX3_noteFault_15 rfl ?_
  exact hQ _ _ ⟨rfl, rfl⟩
set_option maxRecDepth 4000 in
set_option maxHeartbeats 2000000 in
theorem x_nof {h : zH} {c : Int32} : zCT mX3_numbersOf [.int c] 222 h 222 (fun r h' => r = some (dNof c) ∧ h' = h) := by
  intro X Q hQ
  show zJ X mX3_numbersOf 222 0 [.int c] [] 222 h Q
  refine j_iload_n dX3_numbersOf_0 rfl ?_
  by_cases hv : c.toInt < 98 ∨ (117 : Int) < c.toInt
  rotate_left
  obtain ⟨j, hj1, hj2, rfl⟩ := z_sw2 (m := 98) (n := 117) (by omega) hv
  rcases (show j = 98 ∨ j = 99 ∨ j = 100 ∨ j = 101 ∨ j = 102 ∨ j = 103 ∨ j = 104 ∨ j = 105 ∨ j = 106 ∨ j = 107 ∨ j = 108 ∨ j = 109 ∨ j = 110 ∨ j = 111 ∨ j = 112 ∨ j = 113 ∨ j = 114 ∨ j = 115 ∨ j = 116 ∨ j = 117 by omega) with rfl | rfl | rfl | rfl | rfl | rfl | rfl | rfl | rfl | rfl | rfl | rfl | rfl | rfl | rfl | rfl | rfl | rfl | rfl | rfl
  · refine j_tableIn dX3_numbersOf_1 (off := 99) (tgt := 100) (by decide) (by decide) rfl rfl ?_
    refine j_iconst (v := 1) dX3_numbersOf_100 (by decide) ?_
    refine j_iret dX3_numbersOf_101 rfl (rfl) ?_
    exact hQ _ _ (zb_r ((by first | rfl | decide)))
  · refine j_tableIn dX3_numbersOf_1 (off := 99) (tgt := 100) (by decide) (by decide) rfl rfl ?_
    refine j_iconst (v := 1) dX3_numbersOf_100 (by decide) ?_
    refine j_iret dX3_numbersOf_101 rfl (rfl) ?_
    exact hQ _ _ (zb_r ((by first | rfl | decide)))
  · refine j_tableIn dX3_numbersOf_1 (off := 103) (tgt := 104) (by decide) (by decide) rfl rfl ?_
    refine j_iconst (v := (-1)) dX3_numbersOf_104 (by decide) ?_
    refine j_iret dX3_numbersOf_105 rfl (rfl) ?_
    exact hQ _ _ (zb_r ((by first | rfl | decide)))
  · refine j_tableIn dX3_numbersOf_1 (off := 103) (tgt := 104) (by decide) (by decide) rfl rfl ?_
    refine j_iconst (v := (-1)) dX3_numbersOf_104 (by decide) ?_
    refine j_iret dX3_numbersOf_105 rfl (rfl) ?_
    exact hQ _ _ (zb_r ((by first | rfl | decide)))
  · refine j_tableIn dX3_numbersOf_1 (off := 103) (tgt := 104) (by decide) (by decide) rfl rfl ?_
    refine j_iconst (v := (-1)) dX3_numbersOf_104 (by decide) ?_
    refine j_iret dX3_numbersOf_105 rfl (rfl) ?_
    exact hQ _ _ (zb_r ((by first | rfl | decide)))
  · refine j_tableIn dX3_numbersOf_1 (off := 103) (tgt := 104) (by decide) (by decide) rfl rfl ?_
    refine j_iconst (v := (-1)) dX3_numbersOf_104 (by decide) ?_
    refine j_iret dX3_numbersOf_105 rfl (rfl) ?_
    exact hQ _ _ (zb_r ((by first | rfl | decide)))
  · refine j_tableIn dX3_numbersOf_1 (off := 103) (tgt := 104) (by decide) (by decide) rfl rfl ?_
    refine j_iconst (v := (-1)) dX3_numbersOf_104 (by decide) ?_
    refine j_iret dX3_numbersOf_105 rfl (rfl) ?_
    exact hQ _ _ (zb_r ((by first | rfl | decide)))
  · refine j_tableIn dX3_numbersOf_1 (off := 103) (tgt := 104) (by decide) (by decide) rfl rfl ?_
    refine j_iconst (v := (-1)) dX3_numbersOf_104 (by decide) ?_
    refine j_iret dX3_numbersOf_105 rfl (rfl) ?_
    exact hQ _ _ (zb_r ((by first | rfl | decide)))
  · refine j_tableIn dX3_numbersOf_1 (off := 103) (tgt := 104) (by decide) (by decide) rfl rfl ?_
    refine j_iconst (v := (-1)) dX3_numbersOf_104 (by decide) ?_
    refine j_iret dX3_numbersOf_105 rfl (rfl) ?_
    exact hQ _ _ (zb_r ((by first | rfl | decide)))
  · refine j_tableIn dX3_numbersOf_1 (off := 103) (tgt := 104) (by decide) (by decide) rfl rfl ?_
    refine j_iconst (v := (-1)) dX3_numbersOf_104 (by decide) ?_
    refine j_iret dX3_numbersOf_105 rfl (rfl) ?_
    exact hQ _ _ (zb_r ((by first | rfl | decide)))
  · refine j_tableIn dX3_numbersOf_1 (off := 97) (tgt := 98) (by decide) (by decide) rfl rfl ?_
    refine j_iconst (v := 2) dX3_numbersOf_98 (by decide) ?_
    refine j_iret dX3_numbersOf_99 rfl (rfl) ?_
    exact hQ _ _ (zb_r ((by first | rfl | decide)))
  · refine j_tableIn dX3_numbersOf_1 (off := 97) (tgt := 98) (by decide) (by decide) rfl rfl ?_
    refine j_iconst (v := 2) dX3_numbersOf_98 (by decide) ?_
    refine j_iret dX3_numbersOf_99 rfl (rfl) ?_
    exact hQ _ _ (zb_r ((by first | rfl | decide)))
  · refine j_tableIn dX3_numbersOf_1 (off := 101) (tgt := 102) (by decide) (by decide) rfl rfl ?_
    refine j_iconst (v := 0) dX3_numbersOf_102 (by decide) ?_
    refine j_iret dX3_numbersOf_103 rfl (rfl) ?_
    exact hQ _ _ (zb_r ((by first | rfl | decide)))
  · refine j_tableIn dX3_numbersOf_1 (off := 103) (tgt := 104) (by decide) (by decide) rfl rfl ?_
    refine j_iconst (v := (-1)) dX3_numbersOf_104 (by decide) ?_
    refine j_iret dX3_numbersOf_105 rfl (rfl) ?_
    exact hQ _ _ (zb_r ((by first | rfl | decide)))
  · refine j_tableIn dX3_numbersOf_1 (off := 95) (tgt := 96) (by decide) (by decide) rfl rfl ?_
    refine j_iconst (v := 4) dX3_numbersOf_96 (by decide) ?_
    refine j_iret dX3_numbersOf_97 rfl (rfl) ?_
    exact hQ _ _ (zb_r ((by first | rfl | decide)))
  · refine j_tableIn dX3_numbersOf_1 (off := 103) (tgt := 104) (by decide) (by decide) rfl rfl ?_
    refine j_iconst (v := (-1)) dX3_numbersOf_104 (by decide) ?_
    refine j_iret dX3_numbersOf_105 rfl (rfl) ?_
    exact hQ _ _ (zb_r ((by first | rfl | decide)))
  · refine j_tableIn dX3_numbersOf_1 (off := 103) (tgt := 104) (by decide) (by decide) rfl rfl ?_
    refine j_iconst (v := (-1)) dX3_numbersOf_104 (by decide) ?_
    refine j_iret dX3_numbersOf_105 rfl (rfl) ?_
    exact hQ _ _ (zb_r ((by first | rfl | decide)))
  · refine j_tableIn dX3_numbersOf_1 (off := 103) (tgt := 104) (by decide) (by decide) rfl rfl ?_
    refine j_iconst (v := (-1)) dX3_numbersOf_104 (by decide) ?_
    refine j_iret dX3_numbersOf_105 rfl (rfl) ?_
    exact hQ _ _ (zb_r ((by first | rfl | decide)))
  · refine j_tableIn dX3_numbersOf_1 (off := 103) (tgt := 104) (by decide) (by decide) rfl rfl ?_
    refine j_iconst (v := (-1)) dX3_numbersOf_104 (by decide) ?_
    refine j_iret dX3_numbersOf_105 rfl (rfl) ?_
    exact hQ _ _ (zb_r ((by first | rfl | decide)))
  · refine j_tableIn dX3_numbersOf_1 (off := 101) (tgt := 102) (by decide) (by decide) rfl rfl ?_
    refine j_iconst (v := 0) dX3_numbersOf_102 (by decide) ?_
    refine j_iret dX3_numbersOf_103 rfl (rfl) ?_
    exact hQ _ _ (zb_r ((by first | rfl | decide)))
  · refine j_tableOut dX3_numbersOf_1 (tgt := 104) (hv) rfl ?_
    refine j_iconst (v := (-1)) dX3_numbersOf_104 (by decide) ?_
    refine j_iret dX3_numbersOf_105 rfl (rfl) ?_
    exact hQ _ _ (zb_r ((dNof_out hv)))
set_option maxRecDepth 4000 in
set_option maxHeartbeats 2000000 in
theorem x_append {g : zH} {f tx nm : Nat → Int32} {T : Nat} (hT : f 2 = nI T) (hT60 : T ≤ 60) {c : Int32} : zCT mX3_append [.ref 142, .int c] 222 (gX g f tx nm) 222 (fun r h' => r = some (aTypQ tx T c) ∧ h' = gX g (dTypF f T c) (aTypX tx T c) nm) := by
  intro X Q hQ
  show zJ X mX3_append 222 0 [.ref 142, .int c] [] 222 (gX g f tx nm) Q
  refine j_iload_n dX3_append_0 rfl ?_
  refine j_bipush (v := 32) dX3_append_1 (by decide) ?_
  refine j_bipush (v := 126) dX3_append_3 (by decide) ?_
  refine k_callS3i dX3_append_5 vX3_append_23 (c_in) rfl rfl rfl (Nat.le_of_ble_eq_true rfl) ⟨rfl, rfl⟩ rfl ?_
  rintro _ _ ⟨⟨⟩, rfl⟩
  refine j_if_ne dX3_append_8 (tgt := 14) rfl (fun c1 => ?_) (fun c1 => ?_)
  · refine j_aload_n dX3_append_14 rfl ?_
    refine j_get (v := .int (nI T)) dX3_append_15 fX3_28 rfl (by decide) ((x_f (by decide)).trans (congrArg Value.int (hT))) ?_
    refine j_aload_n dX3_append_18 rfl ?_
    refine j_get (v := .ref 143) dX3_append_19 fX3_11 rfl (by decide) x_p0 ?_
    refine j_alen (n := 60) (t := 1) (v := 60) dX3_append_22 rfl (by decide) (by decide) rfl ?_
    refine j_icmp_lt dX3_append_23 (tgt := 29) rfl (fun c2 => ?_) (fun c2 => ?_)
    · have hTl : T < 60 := Nat.lt_of_not_le (fun q => nI_nlt (a := T) (b := 60) q (by omega) ‹nI T < 60›)
      have hcR : aR c 0 1000 := by
        obtain ⟨n, h1, h2, h3⟩ := aIn_R (a := 32) (b := 126) (by decide) (by decide) ‹¬ aIn c 32 126 = 0›
        exact ⟨n, by omega, by omega, h3⟩
      refine j_aload_n dX3_append_29 rfl ?_
      refine j_get (v := .ref 143) dX3_append_30 fX3_11 rfl (by decide) x_p0 ?_
      refine j_aload_n dX3_append_33 rfl ?_
      refine j_get (v := .int (nI T)) dX3_append_34 fX3_28 rfl (by decide) ((x_f (by decide)).trans (congrArg Value.int (hT))) ?_
      refine j_iload_n dX3_append_37 rfl ?_
      refine j_i2c dX3_append_38 ?_
      rw [z_i2c hcR]
      refine j_cast (n := 60) dX3_append_39 rfl (by decide) (z_vin (j := T) (by first | rfl | (simp only [z_n, pk_mul, nI_add]; done) | (simp only [z_n, pk_mul, nI_add]; exact pk_sub (by omega)) | (simp only [z_n, pk_mul, nI_add, pk_sub, *]; done)) (by omega) (by decide)) (aR_nar hcR (by decide)).1 ?_
      rw [z_cl (by omega), x_tput]
      refine j_aload_n dX3_append_40 rfl ?_
      refine j_dup dX3_append_41 rfl ?_
      refine j_get (v := .int (nI T)) dX3_append_42 fX3_28 rfl (by decide) ((x_f (by decide)).trans (congrArg Value.int (hT))) ?_
      refine j_iconst (v := 1) dX3_append_45 (by decide) ?_
      refine j_iadd dX3_append_46 ?_
      rw [show nI T + 1 = nI (T + 1) from nI_1 _]
      refine j_put dX3_append_47 fX3_28 rfl (by decide) (rfl) ?_
      rw [x_put (k := 2) (by decide)]
      refine j_aload_n dX3_append_50 rfl ?_
      refine j_get (v := .int (nI (T + 1))) dX3_append_51 fX3_28 rfl (by decide) ((x_f (by decide)).trans (congrArg Value.int upd_s)) ?_
      refine j_iret dX3_append_54 rfl (rfl) ?_
      have hT6 : ¬ T = 60 := by omega
      exact hQ _ _ ⟨congrArg some ((if_neg c1).trans (if_neg hT6)).symm, by unfold dTypF aTypX; rw [if_neg c1, if_neg c1, if_neg hT6, if_neg hT6]⟩
    · refine j_ldc (v := (-1000003)) dX3_append_26 cX3_31 ?_
      refine j_iret dX3_append_28 rfl (rfl) ?_
      have hT6 : T = 60 := Nat.le_antisymm hT60 (Nat.le_of_not_lt (fun q => c2 ((nI_ltI (a := T) (b := 60) (by omega) (by omega)).mpr q)))
      exact hQ _ _ ⟨congrArg some ((if_neg c1).trans (if_pos hT6)).symm, by unfold dTypF aTypX; rw [if_neg c1, if_neg c1, if_pos hT6, if_pos hT6]⟩
  · refine j_ldc (v := (-1000001)) dX3_append_11 cX3_27 ?_
    refine j_iret dX3_append_13 rfl (rfl) ?_
    exact hQ _ _ ⟨congrArg some (if_pos c1).symm, by unfold dTypF aTypX; rw [if_pos c1, if_pos c1]⟩
set_option maxRecDepth 4000 in
set_option maxHeartbeats 2000000 in
theorem x_sign {g : zH} {f tx nm : Nat → Int32} {T p : Nat} (hT : f 2 = nI T) (hT60 : T ≤ 60) (hp : f 4 = nI p) (hpT : p ≤ T) (htx : aTx tx T) {c : Int32} (hc : ¬ c = 0) : zCT mX3_readCharacter [.ref 142, .int c] 222 (gX g f tx nm) 222 (fun r h' => r = some (nI (aSg tx T p c)) ∧ h' = gX g (upd f 4 (nI (p + aSg tx T p c))) tx nm) := by
  intro X Q hQ
  show zJ X mX3_readCharacter 222 0 [.ref 142, .int c] [] 222 (gX g f tx nm) Q
  refine j_aload_n dX3_readCharacter_0 rfl ?_
  refine k_callV0i dX3_readCharacter_1 vX3_readCharacter_65 (x_next (hT) hT60 (hp) (by omega) htx) rfl (by decide)  (Nat.le_of_ble_eq_true rfl) ⟨rfl, rfl⟩ rfl ?_
  rintro _ _ ⟨⟨⟩, rfl⟩
  refine j_iload_n dX3_readCharacter_4 rfl ?_
  refine j_icmp_eq dX3_readCharacter_5 (tgt := 10) rfl (fun c1 => ?_) (fun c1 => ?_)
  · refine j_aload_n dX3_readCharacter_10 rfl ?_
    refine j_dup dX3_readCharacter_11 rfl ?_
    refine j_get (v := .int (nI p)) dX3_readCharacter_12 fX3_32 rfl (by decide) ((x_f (by decide)).trans (congrArg Value.int (hp))) ?_
    refine j_iconst (v := 1) dX3_readCharacter_15 (by decide) ?_
    refine j_iadd dX3_readCharacter_16 ?_
    rw [show nI p + 1 = nI (p + 1) from nI_1 _]
    refine j_put dX3_readCharacter_17 fX3_32 rfl (by decide) (rfl) ?_
    rw [x_put (k := 4) (by decide)]
    refine j_iconst (v := 1) dX3_readCharacter_20 (by decide) ?_
    refine j_iret dX3_readCharacter_21 rfl (rfl) ?_
    rw [show p + 1 = p + aSg tx T p c by rw [aIn_1 hc, if_pos c1]]
    exact hQ _ _ ⟨by rw [aIn_1 hc, if_pos c1]; rfl, rfl⟩
  · refine j_iconst (v := 0) dX3_readCharacter_8 (by decide) ?_
    refine j_iret dX3_readCharacter_9 rfl (rfl) ?_
    exact hQ _ _ ⟨by rw [aIn_1 hc, if_neg c1]; rfl, by rw [aIn_1 hc, if_neg c1, Nat.add_zero, upd_id hp]⟩
theorem z_dig {x c : Int32} : x * 10 + (c - 48) = 10 * x + c - 48 := by
  rw [Int32.mul_comm x 10, Int32.sub_eq_add_neg, Int32.sub_eq_add_neg, Int32.add_assoc]
theorem dNx_dig {tx : Nat → Int32} {T p : Nat} : aIn (dNx tx T p) 48 57 = 0 ↔ aAtC tx T p 48 57 = 0 := by
  unfold dNx aAtC
  by_cases h : T ≤ p
  · rw [if_pos h, if_pos h]
    decide
  · rw [if_neg h, if_neg h]
    by_cases q : aIn (tx p) 48 57 = 0
    · rw [if_pos q]
      exact ⟨fun _ => rfl, fun _ => q⟩
    · rw [if_neg q]
      exact ⟨fun e => absurd e q, fun e => absurd e (by decide)⟩
set_option maxRecDepth 4000 in
set_option maxHeartbeats 2000000 in
theorem x_num_tl {g : zH} {tx nm : Nat → Int32} {T i b : Nat} (hT60 : T ≤ 60) (htx : aTx tx T) (hi : i < 4) {f : Nat → Int32} {d : Nat} (hd : d ≤ 3) {x : Int32} (hT : f 2 = nI T) (hp : f 4 = nI (b + d)) {X : Nat × (Nat → Int32)} {Q : zQt} (hQ : ∀ r h', r = some (aNd b (b + d, x)) ∧ h' = gX g (upd f 4 (nI (b + d, x).1)) tx (upd nm i (b + d, x).2) → Q r 222 h') : zJ X mX3_readNumber 222 52 [.ref 142, .int (nI i), .int x, .int (nI d)] [] 222 (gX g f tx nm) Q := by
  refine j_aload_n dX3_readNumber_52 rfl ?_
  refine j_get (v := .ref 144) dX3_readNumber_53 fX3_15 rfl (by decide) x_p1 ?_
  refine j_iload_n dX3_readNumber_56 rfl ?_
  refine j_iload_n dX3_readNumber_57 rfl ?_
  refine k_iast (n := 4) i dX3_readNumber_58 rfl (by decide) (by first | rfl | (simp only [z_n, pk_mul, nI_add]; done) | (simp only [z_n, pk_mul, nI_add]; exact pk_sub (by omega)) | (simp only [z_n, pk_mul, nI_add, pk_sub, *]; done)) (by omega) (by decide) ?_
  rw [x_nput]
  refine j_iload_n dX3_readNumber_59 rfl ?_
  refine j_if_le dX3_readNumber_60 (tgt := 67) rfl (fun c1 => ?_) (fun c1 => ?_)
  · refine j_iconst (v := 0) dX3_readNumber_67 (by decide) ?_
    refine j_iret dX3_readNumber_68 rfl (rfl) ?_
    exact hQ _ _ ⟨congrArg some (if_pos (show b + d ≤ b by have := (nI_leI (a := d) (b := 0) (by omega) (by omega)).mp c1; omega)).symm, by rw [upd_id hp]⟩
  · refine j_iconst (v := 1) dX3_readNumber_63 (by decide) ?_
    refine j_goto dX3_readNumber_64 (tgt := 68) rfl ?_
    refine j_iret dX3_readNumber_68 rfl (rfl) ?_
    exact hQ _ _ ⟨congrArg some (if_neg (show ¬ b + d ≤ b from fun q => c1 ((nI_leI (a := d) (b := 0) (by omega) (by omega)).mpr (by omega)))).symm, by rw [upd_id hp]⟩
set_option maxRecDepth 4000 in
set_option maxHeartbeats 2000000 in
theorem x_num_lp {g : zH} {tx nm : Nat → Int32} {T i b : Nat} (hT60 : T ≤ 60) (htx : aTx tx T) (hi : i < 4) {X : Nat × (Nat → Int32)} {Q : zQt} : ∀ (n d : Nat) (x : Int32) (f : Nat → Int32), d + n = 3 → b + d ≤ T → f 2 = nI T → f 4 = nI (b + d) → (∀ r h', r = some (aNd b (aNm tx T n (b + d) x)) ∧ h' = gX g (upd f 4 (nI (aNm tx T n (b + d) x).1)) tx (upd nm i (aNm tx T n (b + d) x).2) → Q r 222 h') → zJ X mX3_readNumber 222 4 [.ref 142, .int (nI i), .int x, .int (nI d)] [] 222 (gX g f tx nm) Q := by
  intro n
  induction n with
  | zero =>
    intro d x f hd hbT hT hp hQ
    obtain rfl : d = 3 := by omega
    refine j_iload_n dX3_readNumber_4 rfl ?_
    refine j_iconst (v := 3) dX3_readNumber_5 (by decide) ?_
    refine j_icmp_ge dX3_readNumber_6 (tgt := 52) rfl (fun _ => ?_) (fun c1 => absurd (show (3 : Int32) ≤ nI 3 by decide) c1)
    exact x_num_tl hT60 htx hi (d := 3) (by omega) hT hp hQ
  | succ n ih =>
    intro d x f hd hbT hT hp hQ
    refine j_iload_n dX3_readNumber_4 rfl ?_
    refine j_iconst (v := 3) dX3_readNumber_5 (by decide) ?_
    refine j_icmp_ge dX3_readNumber_6 (tgt := 52) rfl (fun c1 => absurd c1 (show ¬ (3 : Int32) ≤ nI d from nI_ge (a := d) (b := 3) (by omega) (by omega))) (fun _ => ?_)
    refine j_aload_n dX3_readNumber_9 rfl ?_
    refine k_callV0i dX3_readNumber_10 vX3_readNumber_65 (x_next (hT) hT60 (hp) (by omega) htx) rfl (by decide)  (Nat.le_of_ble_eq_true rfl) ⟨rfl, rfl⟩ rfl ?_
    rintro _ _ ⟨⟨⟩, rfl⟩
    refine j_bipush (v := 48) dX3_readNumber_13 (by decide) ?_
    refine j_bipush (v := 57) dX3_readNumber_15 (by decide) ?_
    refine k_callS3i dX3_readNumber_17 vX3_readNumber_23 (c_in) rfl rfl rfl (Nat.le_of_ble_eq_true rfl) ⟨rfl, rfl⟩ rfl ?_
    rintro _ _ ⟨⟨⟩, rfl⟩
    refine j_if_eq dX3_readNumber_20 (tgt := 52) rfl (fun c2 => ?_) (fun c2 => ?_)
    · refine x_num_tl hT60 htx hi (d := d) (by omega) hT hp (fun r h' q => hQ r h' ?_)
      rw [show aNm tx T (n + 1) (b + d) x = (b + d, x) from if_pos (dNx_dig.mp c2)]
      exact q
    · refine j_iload_n dX3_readNumber_23 rfl ?_
      refine j_bipush (v := 10) dX3_readNumber_24 (by decide) ?_
      refine j_imul dX3_readNumber_26 ?_
      refine j_aload_n dX3_readNumber_27 rfl ?_
      refine k_callV0i dX3_readNumber_28 vX3_readNumber_65 (x_next (hT) hT60 (hp) (by omega) htx) rfl (by decide)  (Nat.le_of_ble_eq_true rfl) ⟨rfl, rfl⟩ rfl ?_
      rintro _ _ ⟨⟨⟩, rfl⟩
      refine j_bipush (v := 48) dX3_readNumber_31 (by decide) ?_
      refine j_isub dX3_readNumber_33 ?_
      refine j_iadd dX3_readNumber_34 ?_
      refine j_istore_n dX3_readNumber_35 (by decide) ?_
      refine j_aload_n dX3_readNumber_36 rfl ?_
      refine j_dup dX3_readNumber_37 rfl ?_
      refine j_get (v := .int (nI (b + d))) dX3_readNumber_38 fX3_32 rfl (by decide) ((x_f (by decide)).trans (congrArg Value.int (hp))) ?_
      refine j_iconst (v := 1) dX3_readNumber_41 (by decide) ?_
      refine j_iadd dX3_readNumber_42 ?_
      rw [show nI (b + d) + 1 = nI ((b + d) + 1) from nI_1 _]
      refine j_put dX3_readNumber_43 fX3_32 rfl (by decide) (rfl) ?_
      rw [x_put (k := 4) (by decide)]
      refine j_iinc (v := nI (d + 1)) dX3_readNumber_46 rfl z_inc (by decide) ?_
      refine j_goto dX3_readNumber_49 (tgt := 4) rfl ?_
      rw [z_dig]
      have hlt : b + d < T := Nat.lt_of_not_le (fun q => c2 (dNx_dig.mpr (if_pos q)))
      have e : aNm tx T (n + 1) (b + d) x = aNm tx T n (b + (d + 1)) (10 * x + dNx tx T (b + d) - 48) := by
        have e1 : dNx tx T (b + d) = tx (b + d) := if_neg (by omega)
        rw [e1]
        exact if_neg (fun q => c2 (dNx_dig.mpr q))
      rw [e] at hQ
      refine ih (d + 1) _ _ (by omega) (by omega) ?_ ?_ ?_
      · exact (upd_n (by decide)).trans hT
      · exact upd_s
      · rw [upd_upd]
        exact hQ
set_option maxRecDepth 4000 in
set_option maxHeartbeats 2000000 in
theorem x_num {g : zH} {f tx nm : Nat → Int32} {T p : Nat} (hT : f 2 = nI T) (hT60 : T ≤ 60) (hp : f 4 = nI p) (hpT : p ≤ T) (htx : aTx tx T) {i : Nat} (hi : i < 4) : zCT mX3_readNumber [.ref 142, .int (nI i)] 222 (gX g f tx nm) 222 (fun r h' => r = some (aNd p (aNm tx T 3 p 0)) ∧ h' = gX g (upd f 4 (nI (aNm tx T 3 p 0).1)) tx (upd nm i (aNm tx T 3 p 0).2)) := by
  intro X Q hQ
  show zJ X mX3_readNumber 222 0 [.ref 142, .int (nI i), .null, .null] [] 222 (gX g f tx nm) Q
  refine j_iconst (v := 0) dX3_readNumber_0 (by decide) ?_
  refine j_istore_n dX3_readNumber_1 (by decide) ?_
  refine j_iconst (v := 0) dX3_readNumber_2 (by decide) ?_
  refine j_istore_n dX3_readNumber_3 (by decide) ?_
  exact x_num_lp (b := p) hT60 htx hi 3 0 0 f (by omega) (by omega) hT hp hQ
theorem aPk_0 {tx : Nat → Int32} {T : Nat} : ∀ (n k p : Nat) (nm : Nat → Int32), aPk tx T n k 0 p nm = (0, p, nm)
  | 0, _, _, _ => rfl
  | n + 1, k, p, nm => by
    unfold aPk
    rw [if_pos rfl]
set_option maxRecDepth 4000 in
set_option maxHeartbeats 2000000 in
theorem x_ord_tl {g : zH} {f tx nm : Nat → Int32} {T p : Nat} (hT : f 2 = nI T) (hT60 : T ≤ 60) (hp : f 4 = nI p) (hpT : p ≤ T) (htx : aTx tx T) {y z : Value} {X : Nat × (Nat → Int32)} {Q : zQt} (hQ : ∀ r h', r = some (aPe tx T (1, p, nm)).1 ∧ h' = gX g (upd f 4 (nI (aPe tx T (1, p, nm)).2.1)) tx (aPe tx T (1, p, nm)).2.2 → Q r 222 h') : zJ X mX3_readOrder 222 80 [.ref 142, y, z] [] 222 (gX g f tx nm) Q := by
  refine j_aload_n dX3_readOrder_80 rfl ?_
  refine j_bipush (v := 59) dX3_readOrder_81 (by decide) ?_
  refine k_callV1i dX3_readOrder_83 vX3_readOrder_73 (x_sign (hT) hT60 (hp) (by omega) htx (by decide)) rfl (by decide) rfl (Nat.le_of_ble_eq_true rfl) ⟨rfl, rfl⟩ rfl ?_
  rintro _ _ ⟨⟨⟩, rfl⟩
  refine j_iret dX3_readOrder_86 rfl (xSg_nar) ?_
  
  refine hQ _ _ ?_
  have h1 := (xSg_le (tx := tx) (c := 59) hpT).2
  unfold aPe
  rw [if_neg (show ¬ (1 : Int32) = 0 by decide)]
  rcases (show aSg tx T p 59 = 0 ∨ aSg tx T p 59 = 1 by omega) with h | h
  · rw [h, if_pos (show nI 0 = 0 from rfl)]
    exact ⟨rfl, rfl⟩
  · rw [h, if_neg (show ¬ nI 1 = 0 by decide)]
    exact ⟨rfl, rfl⟩
set_option maxRecDepth 4000 in
set_option maxHeartbeats 2000000 in
theorem x_ord_lp {g : zH} {tx : Nat → Int32} {T m : Nat} (hT60 : T ≤ 60) (htx : aTx tx T) (hm : m ≤ 4) {X : Nat × (Nat → Int32)} {Q : zQt} : ∀ (n k : Nat) (p : Nat) (nm f : Nat → Int32), k + n = m → 1 ≤ k → f 2 = nI T → f 4 = nI p → p ≤ T → (∀ r h', r = some (aPe tx T (aPk tx T n k 1 p nm)).1 ∧ h' = gX g (upd f 4 (nI (aPe tx T (aPk tx T n k 1 p nm)).2.1)) tx (aPe tx T (aPk tx T n k 1 p nm)).2.2 → Q r 222 h') → zJ X mX3_readOrder 222 35 [.ref 142, .int (nI m), .int (nI k)] [] 222 (gX g f tx nm) Q := by
  intro n
  induction n with
  | zero =>
    intro k p nm f hk hk1 hT hp hpT hQ
    obtain rfl : k = m := by omega
    refine j_iload_n dX3_readOrder_35 rfl ?_
    refine j_iload_n dX3_readOrder_36 rfl ?_
    refine j_icmp_ge dX3_readOrder_37 (tgt := 80) rfl (fun _ => ?_) (fun c1 => absurd (show nI k ≤ nI k from nI_le (by omega) (by omega)) c1)
    exact x_ord_tl hT hT60 hp hpT htx hQ
  | succ n ih =>
    intro k p nm f hk hk1 hT hp hpT hQ
    refine j_iload_n dX3_readOrder_35 rfl ?_
    refine j_iload_n dX3_readOrder_36 rfl ?_
    refine j_icmp_ge dX3_readOrder_37 (tgt := 80) rfl (fun c1 => absurd c1 (show ¬ nI m ≤ nI k from nI_ge (by omega) (by omega))) (fun _ => ?_)
    refine j_iload_n dX3_readOrder_40 rfl ?_
    refine j_aload_n dX3_readOrder_41 rfl ?_
    refine j_get (v := .ref 144) dX3_readOrder_42 fX3_15 rfl (by decide) x_p1 ?_
    refine j_alen (n := 4) (t := 0) (v := 4) dX3_readOrder_45 rfl (by decide) (by decide) rfl ?_
    refine j_icmp_ge dX3_readOrder_46 (tgt := 80) rfl (fun c2 => absurd c2 (show ¬ (4 : Int32) ≤ nI k from nI_ge (a := k) (b := 4) (by omega) (by omega))) (fun _ => ?_)
    refine j_iload_n dX3_readOrder_49 rfl ?_
    refine j_if_le dX3_readOrder_50 (tgt := 64) rfl (fun c3 => absurd c3 (show ¬ nI k ≤ 0 from fun q => by have := (nI_leI (a := k) (b := 0) (by omega) (by omega)).mp q; omega)) (fun _ => ?_)
    refine j_aload_n dX3_readOrder_53 rfl ?_
    refine j_bipush (v := 44) dX3_readOrder_54 (by decide) ?_
    refine k_callV1i dX3_readOrder_56 vX3_readOrder_73 (x_sign hT hT60 hp hpT htx (by decide)) rfl (by decide) rfl (Nat.le_of_ble_eq_true rfl) ⟨rfl, rfl⟩ rfl ?_
    rintro _ _ ⟨⟨⟩, rfl⟩
    have hsg := xSg_le (tx := tx) (c := 44) hpT
    refine j_if_ne dX3_readOrder_59 (tgt := 64) rfl (fun c4 => ?_) (fun c4 => ?_)
    · refine j_aload_n dX3_readOrder_64 rfl ?_
      refine j_iload_n dX3_readOrder_65 rfl ?_
      refine k_callV1i dX3_readOrder_66 vX3_readOrder_77 (x_num (p := p + aSg tx T p 44) ((upd_n (by decide)).trans hT) hT60 upd_s hsg.1 htx (i := k) (by omega)) rfl (by decide) rfl (Nat.le_of_ble_eq_true rfl) ⟨rfl, rfl⟩ rfl ?_
      rintro _ _ ⟨⟨⟩, rfl⟩
      refine j_if_ne dX3_readOrder_69 (tgt := 74) rfl (fun c5 => ?_) (fun c5 => ?_)
      · refine j_iinc (v := nI (k + 1)) dX3_readOrder_74 rfl z_inc (by decide) ?_
        refine j_goto dX3_readOrder_77 (tgt := 35) rfl ?_
        have e : aPk tx T (n + 1) k 1 p nm = aPk tx T n (k + 1) 1 (aNm tx T 3 (p + aSg tx T p 44) 0).1 (upd nm k (aNm tx T 3 (p + aSg tx T p 44) 0).2) := by
          rw [aPk, if_neg (show ¬ (1 : Int32) = 0 by decide), if_neg c4, if_neg c5]
        rw [e] at hQ
        have hle := xNm_le (tx := tx) 3 (p + aSg tx T p 44) 0 (xSg_le (tx := tx) (c := 44) hpT).1
        refine ih (k + 1) _ _ _ (by omega) (by omega) ?_ ?_ hle.1 ?_
        · exact (upd_n (by decide)).trans ((upd_n (by decide)).trans hT)
        · exact upd_s
        · rw [upd_upd, upd_upd]
          exact hQ
      · refine j_iconst (v := 0) dX3_readOrder_72 (by decide) ?_
        refine j_iret dX3_readOrder_73 rfl (rfl) ?_
        refine hQ _ _ ?_
        have e : aPk tx T (n + 1) k 1 p nm = (0, (aNm tx T 3 (p + aSg tx T p 44) 0).1, upd nm k (aNm tx T 3 (p + aSg tx T p 44) 0).2) := by
          rw [aPk, if_neg (show ¬ (1 : Int32) = 0 by decide), if_neg c4, if_pos c5, aPk_0]
        rw [e, upd_upd]
        exact ⟨rfl, rfl⟩
    · refine j_iconst (v := 0) dX3_readOrder_62 (by decide) ?_
      refine j_iret dX3_readOrder_63 rfl (rfl) ?_
      refine hQ _ _ ?_
      have e : aPk tx T (n + 1) k 1 p nm = (0, p + aSg tx T p 44, nm) := by
        rw [aPk, if_neg (show ¬ (1 : Int32) = 0 by decide), if_pos c4, aPk_0]
      rw [e]
      exact ⟨rfl, rfl⟩
set_option maxRecDepth 4000 in
set_option maxHeartbeats 2000000 in
theorem x_ord_m {g : zH} {f tx nm : Nat → Int32} {T p : Nat} (hT : f 2 = nI T) (hT60 : T ≤ 60) (hp : f 4 = nI p) (hpT : p ≤ T) (htx : aTx tx T) {m : Nat} (hm : m ≤ 4) {X : Nat × (Nat → Int32)} {Q : zQt} (hQ : ∀ r h', r = some (aPm tx T p nm m).1 ∧ h' = gX g (upd f 4 (nI (aPm tx T p nm m).2.1)) tx (aPm tx T p nm m).2.2 → Q r 222 h') : zJ X mX3_readOrder 222 35 [.ref 142, .int (nI m), .int (nI 0)] [] 222 (gX g f tx nm) Q := by
  by_cases hmz : m = 0
  · subst hmz
    have e : aPm tx T p nm 0 = aPe tx T (1, p, nm) := by
      rw [aPm, if_pos (show nI 0 = 0 from rfl)]
      rfl
    rw [e] at hQ
    refine j_iload_n dX3_readOrder_35 rfl ?_
    refine j_iload_n dX3_readOrder_36 rfl ?_
    refine j_icmp_ge dX3_readOrder_37 (tgt := 80) rfl (fun _ => ?_) (fun c1 => absurd (show nI 0 ≤ nI 0 by decide) c1)
    exact x_ord_tl hT hT60 hp hpT htx hQ
  have hm0 : ¬ nI m = 0 := fun q => hmz (by
    have e9 := congrArg Int32.toInt q
    rw [nI_toInt (by omega)] at e9
    have e8 : (0 : Int32).toInt = 0 := by decide
    omega)
  refine j_iload_n dX3_readOrder_35 rfl ?_
  refine j_iload_n dX3_readOrder_36 rfl ?_
  refine j_icmp_ge dX3_readOrder_37 (tgt := 80) rfl (fun c1 => absurd c1 (show ¬ nI m ≤ nI 0 from fun q => by have := (nI_leI (a := m) (b := 0) (by omega) (by omega)).mp q; omega)) (fun _ => ?_)
  refine j_iload_n dX3_readOrder_40 rfl ?_
  refine j_aload_n dX3_readOrder_41 rfl ?_
  refine j_get (v := .ref 144) dX3_readOrder_42 fX3_15 rfl (by decide) x_p1 ?_
  refine j_alen (n := 4) (t := 0) (v := 4) dX3_readOrder_45 rfl (by decide) (by decide) rfl ?_
  refine j_icmp_ge dX3_readOrder_46 (tgt := 80) rfl (fun c2 => absurd c2 (show ¬ (4 : Int32) ≤ nI 0 by decide)) (fun _ => ?_)
  refine j_iload_n dX3_readOrder_49 rfl ?_
  refine j_if_le dX3_readOrder_50 (tgt := 64) rfl (fun _ => ?_) (fun c3 => absurd (show nI 0 ≤ 0 by decide) c3)
  refine j_aload_n dX3_readOrder_64 rfl ?_
  refine j_iload_n dX3_readOrder_65 rfl ?_
  refine k_callV1i dX3_readOrder_66 vX3_readOrder_77 (x_num hT hT60 hp hpT htx (i := 0) (by omega)) rfl (by decide) rfl (Nat.le_of_ble_eq_true rfl) ⟨rfl, rfl⟩ rfl ?_
  rintro _ _ ⟨⟨⟩, rfl⟩
  refine j_if_ne dX3_readOrder_69 (tgt := 74) rfl (fun c4 => ?_) (fun c4 => ?_)
  · refine j_iinc (v := nI (0 + 1)) dX3_readOrder_74 rfl z_inc (by decide) ?_
    refine j_goto dX3_readOrder_77 (tgt := 35) rfl ?_
    have hle := xNm_le (tx := tx) 3 p 0 hpT
    refine x_ord_lp hT60 htx hm (m - 1) 1 _ _ _ (by omega) (by omega) ((upd_n (by decide)).trans hT) upd_s hle.1 ?_
    rw [upd_upd]
    have e : aPm tx T p nm m = aPe tx T (aPk tx T (m - 1) 1 1 (aNm tx T 3 p 0).1 (upd nm 0 (aNm tx T 3 p 0).2)) := by
      rw [aPm, if_neg hm0, if_neg c4]
    rw [e] at hQ
    exact hQ
  · refine j_iconst (v := 0) dX3_readOrder_72 (by decide) ?_
    refine j_iret dX3_readOrder_73 rfl (rfl) ?_
    refine hQ _ _ ?_
    rw [aPm, if_neg hm0, if_pos c4, aPk_0]
    exact ⟨rfl, rfl⟩
set_option maxRecDepth 4000 in
set_option maxHeartbeats 2000000 in
theorem x_ord {g : zH} {f tx nm : Nat → Int32} {T p : Nat} (hT : f 2 = nI T) (hT60 : T ≤ 60) (hp : f 4 = nI p) (hpT : p ≤ T) (htx : aTx tx T) : zCT mX3_readOrder [.ref 142] 222 (gX g f tx nm) 222 (fun r h' => r = some (aPar tx T p nm).1 ∧ h' = gX g (upd (upd f 3 (dNx tx T p)) 4 (nI (aPar tx T p nm).2.1)) tx (aPar tx T p nm).2.2) := by
  intro X Q hQ
  show zJ X mX3_readOrder 222 0 [.ref 142, .null, .null] [] 222 (gX g f tx nm) Q
  refine j_aload_n dX3_readOrder_0 rfl ?_
  refine j_aload_n dX3_readOrder_1 rfl ?_
  refine k_callV0i dX3_readOrder_2 vX3_readOrder_65 (x_next (hT) hT60 (hp) (by omega) htx) rfl (by decide)  (Nat.le_of_ble_eq_true rfl) ⟨rfl, rfl⟩ rfl ?_
  rintro _ _ ⟨⟨⟩, rfl⟩
  refine j_put dX3_readOrder_5 fX3_49 rfl (by decide) ((aR_nar (dNx_R htx) (by decide)).1) ?_
  rw [x_put (k := 3) (by decide)]
  refine j_aload_n dX3_readOrder_8 rfl ?_
  refine j_get (v := .int (dNx tx T p)) dX3_readOrder_9 fX3_49 rfl (by decide) ((x_f (by decide)).trans (congrArg Value.int upd_s)) ?_
  refine k_callS1i dX3_readOrder_12 vX3_readOrder_69 (x_nof) rfl (Nat.le_of_ble_eq_true rfl) ⟨rfl, rfl⟩ rfl ?_
  rintro _ _ ⟨⟨⟩, rfl⟩
  refine j_istore_n dX3_readOrder_15 (by decide) ?_
  refine j_iload_n dX3_readOrder_16 rfl ?_
  refine j_iconst (v := (-1)) dX3_readOrder_17 (by decide) ?_
  refine j_icmp_ne dX3_readOrder_18 (tgt := 23) rfl (fun c1 => ?_) (fun c1 => ?_)
  · refine j_aload_n dX3_readOrder_23 rfl ?_
    refine j_dup dX3_readOrder_24 rfl ?_
    refine j_get (v := .int (nI p)) dX3_readOrder_25 fX3_32 rfl (by decide) ((x_f (by decide)).trans (congrArg Value.int ((upd_n (by decide)).trans (hp)))) ?_
    refine j_iconst (v := 1) dX3_readOrder_28 (by decide) ?_
    refine j_iadd dX3_readOrder_29 ?_
    rw [show nI p + 1 = nI (p + 1) from nI_1 _]
    refine j_put dX3_readOrder_30 fX3_32 rfl (by decide) (rfl) ?_
    rw [x_put (k := 4) (by decide)]
    refine j_iconst (v := 0) dX3_readOrder_33 (by decide) ?_
    refine j_istore_n dX3_readOrder_34 (by decide) ?_
    have hyes : 0 ≤ aNof (aOrd tx T p) := Classical.byContradiction fun q => c1 ((dNx_ord (tx := tx) (T := T) (p := p)).2 q)
    have hh := (dNx_ord (tx := tx) (T := T) (p := p)).1 hyes
    have hpl : p < T := Nat.lt_of_not_le (fun q => by
      have e : dNx tx T p = 0 := if_pos q
      rw [hh.1] at e
      rw [e] at hyes
      exact absurd hyes (by decide))
    obtain ⟨m, hm, hme⟩ : ∃ m, m ≤ 4 ∧ aNof (aOrd tx T p) = nI m := by
      rcases dNof_cases (c := aOrd tx T p) with ⟨a, b⟩ | ⟨a, b, m, hm, d⟩
      · rw [b] at hyes
        exact absurd hyes (by decide)
      · exact ⟨m, hm, d⟩
    rw [hh.2.2, hme]
    refine x_ord_m (p := p + 1) ((upd_n (by decide)).trans ((upd_n (by decide)).trans hT)) hT60 upd_s (by omega) htx hm (fun r h' q => hQ r h' ?_)
    rw [aPar, if_pos hyes, hme, z_cl (by omega)]
    rw [upd_upd] at q
    exact q
  · refine j_iconst (v := 0) dX3_readOrder_21 (by decide) ?_
    refine j_iret dX3_readOrder_22 rfl (rfl) ?_
    have hno : ¬ 0 ≤ aNof (aOrd tx T p) := fun q => by
      have h := (dNx_ord (tx := tx) (T := T) (p := p)).1 q
      rw [c1] at h
      rw [← h.2.2] at q
      exact absurd q (by decide)
    refine hQ _ _ ?_
    rw [aPar, if_neg hno]
    refine ⟨rfl, ?_⟩
    show _ = gX g (upd (upd f 3 (dNx tx T p)) 4 (nI p)) tx nm
    rw [upd_id ((upd_n (by decide)).trans hp)]
