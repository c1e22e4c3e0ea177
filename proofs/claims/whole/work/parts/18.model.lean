theorem aSg_le {tx : Nat → Int32} {T p : Nat} {c : Int32} (hT : T ≤ 60) (hp : p ≤ 60) : p + aSg tx T p c ≤ 60 := by
  unfold aSg
  split
  · exact hp
  · rename_i h
    have := aAtC_lt h
    omega
theorem aNm_le {tx : Nat → Int32} {T : Nat} (hT : T ≤ 60) : ∀ (f : Nat) {p : Nat} {v : Int32}, p ≤ 60 → (aNm tx T f p v).1 ≤ 60
  | 0, _, _, h => h
  | f + 1, p, v, h => by
    unfold aNm
    split
    · exact h
    · rename_i h2
      have := aAtC_lt h2
      exact aNm_le hT f (by omega)
/-- an order's first character, 0 if there is none -/
def aOrd (tx : Nat → Int32) (T p : Nat) : Int32 := if aAtC tx T p 33 126 = 0 then 0 else tx p
/-- the further numbers of an order: n of them from number k on -/
def aPk (tx : Nat → Int32) (T : Nat) : Nat → Nat → Int32 → Nat → (Nat → Int32) → Int32 × Nat × (Nat → Int32)
  | 0, _, u, p, nm => (u, p, nm)
  | n + 1, k, u, p, nm => if u = 0 then (u, p, nm) else if nI (aSg tx T p 44) = 0 then aPk tx T n (k + 1) 0 (p + aSg tx T p 44) nm
    else if aNd (p + aSg tx T p 44) (aNm tx T 3 (p + aSg tx T p 44) 0) = 0 then aPk tx T n (k + 1) 0 (aNm tx T 3 (p + aSg tx T p 44) 0).1 (upd nm k (aNm tx T 3 (p + aSg tx T p 44) 0).2)
    else aPk tx T n (k + 1) 1 (aNm tx T 3 (p + aSg tx T p 44) 0).1 (upd nm k (aNm tx T 3 (p + aSg tx T p 44) 0).2)
def aPe (tx : Nat → Int32) (T : Nat) (q : Int32 × Nat × (Nat → Int32)) : Int32 × Nat × (Nat → Int32) := if q.1 = 0 then (0, q.2) else if nI (aSg tx T q.2.1 59) = 0 then (0, q.2.1 + aSg tx T q.2.1 59, q.2.2) else (1, q.2.1 + aSg tx T q.2.1 59, q.2.2)
def aPm (tx : Nat → Int32) (T p : Nat) (nm : Nat → Int32) (m : Nat) : Int32 × Nat × (Nat → Int32) :=
  if nI m = 0 then aPe tx T (aPk tx T (m - 1) 1 1 p nm)
  else if aNd p (aNm tx T 3 p 0) = 0 then aPe tx T (aPk tx T (m - 1) 1 0 (aNm tx T 3 p 0).1 (upd nm 0 (aNm tx T 3 p 0).2))
  else aPe tx T (aPk tx T (m - 1) 1 1 (aNm tx T 3 p 0).1 (upd nm 0 (aNm tx T 3 p 0).2))
/-- an order is read: is it one, where the reading stands, the numbers -/
def aPar (tx : Nat → Int32) (T p : Nat) (nm : Nat → Int32) : Int32 × Nat × (Nat → Int32) :=
  if 0 ≤ aNof (aOrd tx T p) then aPm tx T (p + 1) nm (aNof (aOrd tx T p)).toNatClampNeg else (0, p, nm)
theorem aNof_nat {c : Int32} (h : 0 ≤ aNof c) : ∃ m, m ≤ 4 ∧ aNof c = nI m ∧ (aNof c).toNatClampNeg = m := by
  by_cases hv : c.toInt < 98 ∨ (117 : Int) < c.toInt
  · rw [aNof_out hv] at h
    exact absurd h (by decide)
  · obtain ⟨j, hj1, hj2, rfl⟩ := z_sw2 (m := 98) (n := 117) (by omega) hv
    have key : ∀ j, j < 118 → 98 ≤ j → 0 ≤ aNof (nI j) → (aNof (nI j)).toNatClampNeg ≤ 4 ∧ aNof (nI j) = nI (aNof (nI j)).toNatClampNeg := by decide +kernel
    obtain ⟨k1, k2⟩ := key j (by omega) hj1 h
    exact ⟨_, k1, k2, rfl⟩
theorem aOrd_lt {tx : Nat → Int32} {T p : Nat} (h : 0 ≤ aNof (aOrd tx T p)) : p < T := by
  by_cases q : aAtC tx T p 33 126 = 0
  · unfold aOrd at h
    rw [if_pos q] at h
    exact absurd h (by decide)
  · exact aAtC_lt q
set_option maxRecDepth 4000 in
set_option maxHeartbeats 2000000 in
theorem s_par_end {g : zH} (hg : gP g) {o tx nm s : Nat → Int32} {T p : Nat} (h7 : o 7 = nI T) (hT : T ≤ 60) (h8 : o 8 = nI p) (hp : p ≤ 60) {u : Int32} {m k : Nat} {X : Nat × (Nat → Int32)} {Q : zQt} (hQ : (∀ r h', r = some (aPe tx T (u, p, nm)).1 ∧ h' = gS (gT g (upd o 8 (nI (aPe tx T (u, p, nm)).2.1)) tx (aPe tx T (u, p, nm)).2.2) s → Q r 222 h')) : zJ X mX5_parses 222 110 [.ref 215, .int (nI m), .int u, .int (nI k)] [] 222 (gS (gT g o tx nm) s) Q := by
  refine j_iload_n dX5_parses_110 rfl ?_
  refine j_if_eq dX5_parses_111 (tgt := 127) rfl (fun c1 => ?_) (fun c1 => ?_)
  · refine j_iconst (v := 0) dX5_parses_127 (by decide) ?_
    refine j_iret dX5_parses_128 rfl (rfl) ?_
    have e : aPe tx T (u, p, nm) = (0, p, nm) := (if_pos c1).trans (rfl)
    exact hQ _ _ ⟨by rw [e], by rw [e, upd_id h8]⟩
  · refine j_aload_n dX5_parses_114 rfl ?_
    refine j_bipush (v := 59) dX5_parses_115 (by decide) ?_
    refine k_callV1i dX5_parses_117 vX5_parses_145 (s_sign hg (h7) hT (h8) hp) rfl (by decide) rfl (Nat.le_of_ble_eq_true rfl) ⟨rfl, rfl⟩ rfl ?_
    rintro _ _ ⟨⟨⟩, rfl⟩
    refine j_if_eq dX5_parses_120 (tgt := 127) rfl (fun c2 => ?_) (fun c2 => ?_)
    · refine j_iconst (v := 0) dX5_parses_127 (by decide) ?_
      refine j_iret dX5_parses_128 rfl (rfl) ?_
      have e : aPe tx T (u, p, nm) = (0, p + aSg tx T p 59, nm) := (if_neg c1).trans ((if_pos c2).trans (rfl))
      exact hQ _ _ ⟨by rw [e], by rw [e]⟩
    · refine j_iconst (v := 1) dX5_parses_123 (by decide) ?_
      refine j_goto dX5_parses_124 (tgt := 128) rfl ?_
      refine j_iret dX5_parses_128 rfl (rfl) ?_
      have e : aPe tx T (u, p, nm) = (1, p + aSg tx T p 59, nm) := (if_neg c1).trans ((if_neg c2).trans (rfl))
      exact hQ _ _ ⟨by rw [e], by rw [e]⟩
set_option maxRecDepth 4000 in
set_option maxHeartbeats 2000000 in
theorem s_par_lp {g : zH} (hg : gP g) {tx s : Nat → Int32} {T m : Nat} (hT : T ≤ 60) (hm : m ≤ 4) {X : Nat × (Nat → Int32)} {Q : zQt} : ∀ (n k : Nat) (u : Int32) (p : Nat) (o nm : Nat → Int32), n = m - k → k ≤ 4 → o 7 = nI T → o 8 = nI p → p ≤ 60 → (∀ r h', r = some (aPe tx T (aPk tx T n k u p nm)).1 ∧ h' = gS (gT g (upd o 8 (nI (aPe tx T (aPk tx T n k u p nm)).2.1)) tx (aPe tx T (aPk tx T n k u p nm)).2.2) s → Q r 222 h') → zJ X mX5_parses 222 72 [.ref 215, .int (nI m), .int u, .int (nI k)] [] 222 (gS (gT g o tx nm) s) Q := by
  intro n
  induction n with
  | zero =>
    intro k u p o nm hn hk h7 h8 hp hQ
    refine j_iload_n dX5_parses_72 rfl ?_
    refine j_iload_n dX5_parses_73 rfl ?_
    refine j_icmp_ge dX5_parses_74 (tgt := 110) rfl (fun _ => ?_) (fun c1 => absurd (show nI m ≤ nI k from nI_le (by omega) (by omega)) c1)
    exact s_par_end hg h7 hT h8 hp hQ
  | succ n ih =>
    intro k u p o nm hn hk h7 h8 hp hQ
    refine j_iload_n dX5_parses_72 rfl ?_
    refine j_iload_n dX5_parses_73 rfl ?_
    refine j_icmp_ge dX5_parses_74 (tgt := 110) rfl (fun c1 => absurd c1 (show ¬ nI m ≤ nI k from nI_ge (by omega) (by omega))) (fun _ => ?_)
    refine j_iload_n dX5_parses_77 rfl ?_
    refine j_if_eq dX5_parses_78 (tgt := 110) rfl (fun c2 => ?_) (fun c2 => ?_)
    · have e : aPk tx T (n + 1) k u p nm = (u, p, nm) := (if_pos c2).trans (rfl)
      rw [e] at hQ
      exact s_par_end hg h7 hT h8 hp hQ
    · refine j_aload_n dX5_parses_81 rfl ?_
      refine j_bipush (v := 44) dX5_parses_82 (by decide) ?_
      refine k_callV1i dX5_parses_84 vX5_parses_145 (s_sign hg (h7) hT (h8) hp) rfl (by decide) rfl (Nat.le_of_ble_eq_true rfl) ⟨rfl, rfl⟩ rfl ?_
      rintro _ _ ⟨⟨⟩, rfl⟩
      refine j_if_eq dX5_parses_87 (tgt := 102) rfl (fun c3 => ?_) (fun c3 => ?_)
      · refine j_iconst (v := 0) dX5_parses_102 (by decide) ?_
        refine j_istore_n dX5_parses_103 (by decide) ?_
        refine j_iinc (v := nI (k + 1)) dX5_parses_104 rfl z_inc (by decide) ?_
        refine j_goto dX5_parses_107 (tgt := 72) rfl ?_
        have e : aPk tx T (n + 1) k u p nm = aPk tx T n (k + 1) _ _ _ := (if_neg c2).trans ((if_pos c3).trans (rfl))
        refine ih (k + 1) _ _ _ _ (by omega) (by omega) ((upd_n (by decide)).trans (h7)) (upd_s) (aSg_le hT hp) ?_
        rw [e] at hQ
        intro r h' q
        refine hQ r h' ⟨q.1, q.2.trans ?_⟩
        simp only [upd_upd]
      · refine j_aload_n dX5_parses_90 rfl ?_
        refine j_iload_n dX5_parses_91 rfl ?_
        refine k_callV1i dX5_parses_92 vX5_parses_142 (s_numbered hg ((upd_n (by decide)).trans (h7)) hT (upd_s) (aSg_le hT hp) k (by omega)) rfl (by decide) rfl (Nat.le_of_ble_eq_true rfl) ⟨rfl, rfl⟩ rfl ?_
        rintro _ _ ⟨⟨⟩, rfl⟩
        refine j_if_eq dX5_parses_95 (tgt := 102) rfl (fun c4 => ?_) (fun c4 => ?_)
        · refine j_iconst (v := 0) dX5_parses_102 (by decide) ?_
          refine j_istore_n dX5_parses_103 (by decide) ?_
          refine j_iinc (v := nI (k + 1)) dX5_parses_104 rfl z_inc (by decide) ?_
          refine j_goto dX5_parses_107 (tgt := 72) rfl ?_
          have e : aPk tx T (n + 1) k u p nm = aPk tx T n (k + 1) _ _ _ := (if_neg c2).trans ((if_neg c3).trans ((if_pos c4).trans (rfl)))
          refine ih (k + 1) _ _ _ _ (by omega) (by omega) ((upd_n (by decide)).trans ((upd_n (by decide)).trans (h7))) (upd_s) (aNm_le hT _ (aSg_le hT hp)) ?_
          rw [e] at hQ
          intro r h' q
          refine hQ r h' ⟨q.1, q.2.trans ?_⟩
          simp only [upd_upd]
        · refine j_iconst (v := 1) dX5_parses_98 (by decide) ?_
          refine j_goto dX5_parses_99 (tgt := 103) rfl ?_
          refine j_istore_n dX5_parses_103 (by decide) ?_
          refine j_iinc (v := nI (k + 1)) dX5_parses_104 rfl z_inc (by decide) ?_
          refine j_goto dX5_parses_107 (tgt := 72) rfl ?_
          have e : aPk tx T (n + 1) k u p nm = aPk tx T n (k + 1) _ _ _ := (if_neg c2).trans ((if_neg c3).trans ((if_neg c4).trans (rfl)))
          refine ih (k + 1) _ _ _ _ (by omega) (by omega) ((upd_n (by decide)).trans ((upd_n (by decide)).trans (h7))) (upd_s) (aNm_le hT _ (aSg_le hT hp)) ?_
          rw [e] at hQ
          intro r h' q
          refine hQ r h' ⟨q.1, q.2.trans ?_⟩
          simp only [upd_upd]
theorem aNof_lt {c : Int32} (h : ¬ 0 ≤ aNof c) : aNof c < 0 := Int32.not_le.mp h
set_option maxRecDepth 4000 in
set_option maxHeartbeats 2000000 in
theorem s_par_1 {g : zH} (hg : gP g) {o tx nm s : Nat → Int32} {T p : Nat} (h7 : o 7 = nI T) (hT : T ≤ 60) (h8 : o 8 = nI p) (hp : p ≤ 60) {X : Nat × (Nat → Int32)} {Q : zQt} (hQ : ∀ r h', r = some (aPar tx T p nm).1 ∧ h' = gS (gT g (upd (upd o 13 (aOrd tx T p)) 8 (nI (aPar tx T p nm).2.1)) tx (aPar tx T p nm).2.2) s → Q r 222 h') : zJ X mX5_parses 222 28 [.ref 215, .null, .null, .null] [] 222 (gS (gT g (upd o 13 (aOrd tx T p)) tx nm) s) Q := by
  by_cases h0 : 0 ≤ aNof (aOrd tx T p)
  · have hpT := aOrd_lt h0
    obtain ⟨m, hm4, hm1, hm2⟩ := aNof_nat h0
    refine j_aload_n dX5_parses_28 rfl ?_
    refine t_get (v := aOrd tx T p) 13 (by decide) dX5_parses_29 fX5_136 (upd_s) ?_
    refine k_callS1i dX5_parses_32 vX5_parses_139 (s_numbersOf) rfl (Nat.le_of_ble_eq_true rfl) ⟨rfl, rfl⟩ rfl ?_
    rintro _ _ ⟨⟨⟩, rfl⟩
    rw [hm1]
    refine j_istore_n dX5_parses_35 (by decide) ?_
    refine j_iload_n dX5_parses_36 rfl ?_
    refine j_if_ge dX5_parses_37 (tgt := 42) rfl (fun _ => ?_) (fun c1 => absurd (nI_pos' (show m < 2 ^ 31 by omega)) c1)
    refine j_aload_n dX5_parses_42 rfl ?_
    refine j_dup dX5_parses_43 rfl ?_
    refine t_get (v := nI p) 8 (by decide) dX5_parses_44 fX5_130 ((upd_n (by decide)).trans (h8)) ?_
    refine j_iconst (v := 1) dX5_parses_47 (by decide) ?_
    refine j_iadd dX5_parses_48 ?_
    rw [nI_1]
    refine t_put 8 (by decide) dX5_parses_49 fX5_130 (rfl) ?_
    refine j_iload_n dX5_parses_52 rfl ?_
    refine j_if_eq dX5_parses_53 (tgt := 64) rfl (fun c2 => ?_) (fun c2 => ?_)
    · refine j_iconst (v := 1) dX5_parses_64 (by decide) ?_
      refine j_goto dX5_parses_65 (tgt := 69) rfl ?_
      refine j_istore_n dX5_parses_69 (by decide) ?_
      refine j_iconst (v := 1) dX5_parses_70 (by decide) ?_
      refine j_istore_n dX5_parses_71 (by decide) ?_
      have e : aPar tx T p nm = aPe tx T (aPk tx T (m - 1) 1 _ _ _) := (if_pos h0).trans (by rw [hm2]; exact ((if_pos c2).trans (rfl)))
      refine s_par_lp hg hT hm4 (m - 1) 1 _ _ _ _ rfl (by omega) ((upd_n (by decide)).trans ((upd_n (by decide)).trans (h7))) (upd_s) (show p + 1 ≤ 60 by omega) ?_
      rw [e] at hQ
      intro r h' q
      refine hQ r h' ⟨q.1, q.2.trans ?_⟩
      simp only [upd_upd]
    · refine j_aload_n dX5_parses_56 rfl ?_
      refine j_iconst (v := 0) dX5_parses_57 (by decide) ?_
      refine k_callV1i dX5_parses_58 vX5_parses_142 (s_numbered hg ((upd_n (by decide)).trans ((upd_n (by decide)).trans (h7))) hT (upd_s) (show p + 1 ≤ 60 by omega) 0 (by omega)) rfl (by decide) rfl (Nat.le_of_ble_eq_true rfl) ⟨rfl, rfl⟩ rfl ?_
      rintro _ _ ⟨⟨⟩, rfl⟩
      refine j_if_eq dX5_parses_61 (tgt := 68) rfl (fun c3 => ?_) (fun c3 => ?_)
      · refine j_iconst (v := 0) dX5_parses_68 (by decide) ?_
        refine j_istore_n dX5_parses_69 (by decide) ?_
        refine j_iconst (v := 1) dX5_parses_70 (by decide) ?_
        refine j_istore_n dX5_parses_71 (by decide) ?_
        have e : aPar tx T p nm = aPe tx T (aPk tx T (m - 1) 1 _ _ _) := (if_pos h0).trans (by rw [hm2]; exact ((if_neg c2).trans ((if_pos c3).trans (rfl))))
        refine s_par_lp hg hT hm4 (m - 1) 1 _ _ _ _ rfl (by omega) ((upd_n (by decide)).trans ((upd_n (by decide)).trans ((upd_n (by decide)).trans (h7)))) (upd_s) (aNm_le hT _ (show p + 1 ≤ 60 by omega)) ?_
        rw [e] at hQ
        intro r h' q
        refine hQ r h' ⟨q.1, q.2.trans ?_⟩
        simp only [upd_upd]
      · refine j_iconst (v := 1) dX5_parses_64 (by decide) ?_
        refine j_goto dX5_parses_65 (tgt := 69) rfl ?_
        refine j_istore_n dX5_parses_69 (by decide) ?_
        refine j_iconst (v := 1) dX5_parses_70 (by decide) ?_
        refine j_istore_n dX5_parses_71 (by decide) ?_
        have e : aPar tx T p nm = aPe tx T (aPk tx T (m - 1) 1 _ _ _) := (if_pos h0).trans (by rw [hm2]; exact ((if_neg c2).trans ((if_neg c3).trans (rfl))))
        refine s_par_lp hg hT hm4 (m - 1) 1 _ _ _ _ rfl (by omega) ((upd_n (by decide)).trans ((upd_n (by decide)).trans ((upd_n (by decide)).trans (h7)))) (upd_s) (aNm_le hT _ (show p + 1 ≤ 60 by omega)) ?_
        rw [e] at hQ
        intro r h' q
        refine hQ r h' ⟨q.1, q.2.trans ?_⟩
        simp only [upd_upd]
  · skip
    refine j_aload_n dX5_parses_28 rfl ?_
    refine t_get (v := aOrd tx T p) 13 (by decide) dX5_parses_29 fX5_136 (upd_s) ?_
    refine k_callS1i dX5_parses_32 vX5_parses_139 (s_numbersOf) rfl (Nat.le_of_ble_eq_true rfl) ⟨rfl, rfl⟩ rfl ?_
    rintro _ _ ⟨⟨⟩, rfl⟩
    refine j_istore_n dX5_parses_35 (by decide) ?_
    refine j_iload_n dX5_parses_36 rfl ?_
    refine j_if_ge dX5_parses_37 (tgt := 42) rfl (fun c1 => absurd c1 h0) (fun _ => ?_)
    refine j_iconst (v := 0) dX5_parses_40 (by decide) ?_
    refine j_iret dX5_parses_41 rfl (rfl) ?_
    have e : aPar tx T p nm = (0, p, nm) := if_neg h0
    rw [e] at hQ
    exact hQ _ _ ⟨rfl, by rw [upd_id ((upd_n (by decide)).trans h8)]⟩
set_option maxRecDepth 4000 in
set_option maxHeartbeats 1000000 in
theorem s_parses {g : zH} (hg : gP g) {o tx nm s : Nat → Int32} {T p : Nat} (h7 : o 7 = nI T) (hT : T ≤ 60) (h8 : o 8 = nI p) (hp : p ≤ 60) : zCT mX5_parses [.ref 215] 222 (gS (gT g o tx nm) s) 222 (fun r h' => r = some (aPar tx T p nm).1 ∧ h' = gS (gT g (upd (upd o 13 (aOrd tx T p)) 8 (nI (aPar tx T p nm).2.1)) tx (aPar tx T p nm).2.2) s) := by
  intro X Q hQ
  show zJ X mX5_parses 222 0 [.ref 215, .null, .null, .null] [] 222 (gS (gT g o tx nm) s) Q
  refine j_aload_n dX5_parses_0 rfl ?_
  refine j_aload_n dX5_parses_1 rfl ?_
  refine j_bipush (v := 33) dX5_parses_2 (by decide) ?_
  refine j_bipush (v := 126) dX5_parses_4 (by decide) ?_
  refine k_callV2i dX5_parses_6 vX5_parses_133 (s_isAt hg (h7) hT (h8) hp) rfl (by decide) rfl rfl (Nat.le_of_ble_eq_true rfl) ⟨rfl, rfl⟩ rfl ?_
  rintro _ _ ⟨⟨⟩, rfl⟩
  refine j_if_eq dX5_parses_9 (tgt := 24) rfl (fun c1 => ?_) (fun c1 => ?_)
  · refine j_iconst (v := 0) dX5_parses_24 (by decide) ?_
    refine t_put 13 (by decide) dX5_parses_25 fX5_136 (rfl) ?_
    have e : aOrd tx T p = _ := (if_pos c1).trans (rfl)
    have K := s_par_1 (X := X) hg h7 hT h8 hp hQ
    rw [e] at K
    exact K
  · have hpT := aAtC_lt c1
    refine j_aload_n dX5_parses_12 rfl ?_
    refine j_get (v := .ref 220) dX5_parses_13 fX5_22 rfl (by decide) (gS_p6 (gP_gT hg)) ?_
    refine j_aload_n dX5_parses_16 rfl ?_
    refine t_get (v := nI p) 8 (by decide) dX5_parses_17 fX5_130 (h8) ?_
    refine t_ald0 (p) dX5_parses_20 (by first | rfl | (simp only [z_n, pk_mul, nI_add]; done) | (simp only [z_n, pk_mul, nI_add]; exact pk_sub (by omega)) | (simp only [z_n, pk_mul, nI_add, pk_sub, *]; done)) (by first | decide | omega) ?_
    refine j_goto dX5_parses_21 (tgt := 25) rfl ?_
    refine t_put 13 (by decide) dX5_parses_25 fX5_136 (rfl) ?_
    have e : aOrd tx T p = _ := (if_neg c1).trans (rfl)
    have K := s_par_1 (X := X) hg h7 hT h8 hp hQ
    rw [e] at K
    exact K
