theorem aNm_ge {tx : Nat → Int32} {T : Nat} : ∀ (f p : Nat) (v : Int32), p ≤ (aNm tx T f p v).1
  | 0, _, _ => Nat.le_refl _
  | f + 1, p, v => by
    unfold aNm
    split
    · exact Nat.le_refl _
    · exact Nat.le_trans (Nat.le_succ p) (aNm_ge f (p + 1) _)
theorem aPk_in {tx : Nat → Int32} {T : Nat} (hT : T ≤ 60) : ∀ (n k : Nat) (u : Int32) (p : Nat) (nm : Nat → Int32), p ≤ 60 → p ≤ (aPk tx T n k u p nm).2.1 ∧ (aPk tx T n k u p nm).2.1 ≤ 60
  | 0, _, _, _, _, h => ⟨Nat.le_refl _, h⟩
  | n + 1, k, u, p, nm, h => by
    have h1 := aSg_le (tx := tx) (c := 44) hT h
    have h2 := aNm_le (tx := tx) hT 3 (v := 0) h1
    have h3 := aNm_ge (tx := tx) (T := T) 3 (p + aSg tx T p 44) 0
    unfold aPk
    split
    · exact ⟨Nat.le_refl _, h⟩
    · split
      · have := aPk_in (tx := tx) hT n (k + 1) 0 (p + aSg tx T p 44) nm h1
        exact ⟨by omega, this.2⟩
      · split
        · have := aPk_in (tx := tx) hT n (k + 1) 0 (aNm tx T 3 (p + aSg tx T p 44) 0).1 (upd nm k (aNm tx T 3 (p + aSg tx T p 44) 0).2) h2
          exact ⟨by omega, this.2⟩
        · have := aPk_in (tx := tx) hT n (k + 1) 1 (aNm tx T 3 (p + aSg tx T p 44) 0).1 (upd nm k (aNm tx T 3 (p + aSg tx T p 44) 0).2) h2
          exact ⟨by omega, this.2⟩
theorem aPe_in {tx : Nat → Int32} {T : Nat} (hT : T ≤ 60) {q : Int32 × Nat × (Nat → Int32)} (h : q.2.1 ≤ 60) : q.2.1 ≤ (aPe tx T q).2.1 ∧ (aPe tx T q).2.1 ≤ 60 ∧ ((aPe tx T q).1 = 0 ∨ (aPe tx T q).1 = 1) := by
  have h1 := aSg_le (tx := tx) (c := 59) hT h
  unfold aPe
  split
  · exact ⟨Nat.le_refl _, h, Or.inl rfl⟩
  · split
    · exact ⟨Nat.le_add_right _ _, h1, Or.inl rfl⟩
    · exact ⟨Nat.le_add_right _ _, h1, Or.inr rfl⟩
theorem aPm_in {tx : Nat → Int32} {T : Nat} (hT : T ≤ 60) {p m : Nat} {nm : Nat → Int32} (h : p ≤ 60) : p ≤ (aPm tx T p nm m).2.1 ∧ (aPm tx T p nm m).2.1 ≤ 60 ∧ ((aPm tx T p nm m).1 = 0 ∨ (aPm tx T p nm m).1 = 1) := by
  have h2 := aNm_le (tx := tx) hT 3 (v := 0) h
  have h3 := aNm_ge (tx := tx) (T := T) 3 p 0
  have key : ∀ u q nm, p ≤ q → q ≤ 60 → p ≤ (aPe tx T (aPk tx T (m - 1) 1 u q nm)).2.1 ∧ (aPe tx T (aPk tx T (m - 1) 1 u q nm)).2.1 ≤ 60 ∧ ((aPe tx T (aPk tx T (m - 1) 1 u q nm)).1 = 0 ∨ (aPe tx T (aPk tx T (m - 1) 1 u q nm)).1 = 1) := by
    intro u q nm h4 h5
    have h6 := aPk_in (tx := tx) hT (m - 1) 1 u q nm h5
    have h7 := aPe_in (tx := tx) hT h6.2
    exact ⟨by omega, h7.2⟩
  unfold aPm
  split
  · exact key _ _ _ (Nat.le_refl _) h
  · split
    · exact key _ _ _ h3 h2
    · exact key _ _ _ h3 h2
theorem aPar_in {tx : Nat → Int32} {T : Nat} (hT : T ≤ 60) {p : Nat} {nm : Nat → Int32} (h : p ≤ 60) : p ≤ (aPar tx T p nm).2.1 ∧ (aPar tx T p nm).2.1 ≤ 60 ∧ ((aPar tx T p nm).1 = 0 ∨ (aPar tx T p nm).1 = 1) ∧ (¬ (aPar tx T p nm).1 = 0 → 0 ≤ aNof (aOrd tx T p) ∧ p < (aPar tx T p nm).2.1) := by
  unfold aPar
  by_cases q : 0 ≤ aNof (aOrd tx T p)
  · rw [if_pos q]
    have hp := aOrd_lt q
    have := aPm_in (tx := tx) hT (p := p + 1) (m := (aNof (aOrd tx T p)).toNatClampNeg) (nm := nm) (by omega)
    exact ⟨by omega, this.2.1, this.2.2, fun _ => ⟨q, by omega⟩⟩
  · rw [if_neg q]
    exact ⟨Nat.le_refl _, h, Or.inl rfl, fun q2 => absurd rfl q2⟩
/-- an order read: the whole fields behind the reading -/
def aSo1 (tx : Nat → Int32) (T : Nat) (o nm : Nat → Int32) (p : Nat) : Nat → Int32 := upd (upd (upd o 9 (nI p)) 13 (aOrd tx T p)) 8 (nI (aPar tx T p nm).2.1)
def aSo2 (o : Nat → Int32) (reason cause : Int32) : Nat → Int32 :=
  let t := upd o 10 reason
  let t := upd t 11 cause
  upd t 12 (t 12 + 1)
abbrev aQt : Type := Int32 × (Nat → Int32) × (Nat → Int32) × (Nat → Int32) × (Nat → Int32)
/-- the orders of the text, from p on -/
def aPlay (tx : Nat → Int32) (T : Nat) : Nat → Int32 → Nat → (Nat → Int32) → (Nat → Int32) → (Nat → Int32) → (Nat → Int32) → aQt
  | 0, u, _, o, nm, s, sp => (u, o, nm, s, sp)
  | f + 1, u, p, o, nm, s, sp => if nI T ≤ nI p then (u, o, nm, s, sp) else if u = 0 then (u, o, nm, s, sp)
    else if (aPar tx T p nm).1 = 0 then aPlay tx T f 0 (aPar tx T p nm).2.1 (aSo2 (aSo1 tx T o nm p) 1 (nI (aPar tx T p nm).2.1 - nI p)) (aPar tx T p nm).2.2 s sp
    else if (aDo s sp (aPar tx T p nm).2.2 (aOrd tx T p)).1 < 0 then aPlay tx T f 0 (aPar tx T p nm).2.1 (aSo2 (aSo1 tx T o nm p) 2 (aDo s sp (aPar tx T p nm).2.2 (aOrd tx T p)).1) (aPar tx T p nm).2.2 (aDo s sp (aPar tx T p nm).2.2 (aOrd tx T p)).2.1 (aDo s sp (aPar tx T p nm).2.2 (aOrd tx T p)).2.2
    else aPlay tx T f 1 (aPar tx T p nm).2.1 (aSo2 (aSo1 tx T o nm p) 2 (aDo s sp (aPar tx T p nm).2.2 (aOrd tx T p)).1) (aPar tx T p nm).2.2 (aDo s sp (aPar tx T p nm).2.2 (aOrd tx T p)).2.1 (aDo s sp (aPar tx T p nm).2.2 (aOrd tx T p)).2.2
set_option maxRecDepth 4000 in
set_option maxHeartbeats 2000000 in
theorem s_plays_end {g : zH} {o tx nm s sp : Nat → Int32} {u : Int32} (hu : u = 0 ∨ u = 1) {v2 v3 : Value} {X : Nat × (Nat → Int32)} {Q : zQt} (hQ : (∀ r h', r = some (((u, o, nm, s, sp) : aQt)).1 ∧ h' = gS (gT (gW g (((u, o, nm, s, sp) : aQt)).2.2.2.2) (upd (((u, o, nm, s, sp) : aQt)).2.1 5 0) tx (((u, o, nm, s, sp) : aQt)).2.2.1) (((u, o, nm, s, sp) : aQt)).2.2.2.1 → Q r 222 h')) : zJ X mX5_plays 222 124 [.ref 215, .int u, v2, v3] [] 222 (gS (gT (gW g sp) o tx nm) s) Q := by
  refine j_aload_n dX5_plays_124 rfl ?_
  refine j_iconst (v := 0) dX5_plays_125 (by decide) ?_
  refine t_put 5 (by decide) dX5_plays_126 fX5_28 (rfl) ?_
  refine j_iload_n dX5_plays_129 rfl ?_
  refine j_iret dX5_plays_130 rfl (by rcases hu with rfl | rfl <;> rfl) ?_
  exact hQ _ _ ⟨rfl, rfl⟩
set_option maxRecDepth 4000 in
set_option maxHeartbeats 2000000 in
theorem s_plays_lp {g : zH} (hg : gP g) {tx : Nat → Int32} {T : Nat} (hT : T ≤ 60) {X : Nat × (Nat → Int32)} {Q : zQt} : ∀ (f : Nat) (u : Int32) (p : Nat) (o nm s sp : Nat → Int32) (v2 v3 : Value), o 5 = 1 → o 7 = nI T → o 8 = nI p → p ≤ 60 → aI s → (T - p < f ∨ u = 0) → (u = 0 ∨ u = 1) → (∀ r h', r = some (aPlay tx T f u p o nm s sp).1 ∧ h' = gS (gT (gW g (aPlay tx T f u p o nm s sp).2.2.2.2) (upd (aPlay tx T f u p o nm s sp).2.1 5 0) tx (aPlay tx T f u p o nm s sp).2.2.1) (aPlay tx T f u p o nm s sp).2.2.2.1 → Q r 222 h') → zJ X mX5_plays 222 22 [.ref 215, .int u, v2, v3] [] 222 (gS (gT (gW g sp) o tx nm) s) Q := by
  intro f
  induction f with
  | zero =>
    intro u p o nm s sp v2 v3 h5 h7 h8 hp hI hf hu hQ
    have hu0 : u = 0 := by
      rcases hf with q | q
      · omega
      · exact q
    refine j_aload_n dX5_plays_22 rfl ?_
    refine t_get (v := nI p) 8 (by decide) dX5_plays_23 fX5_130 (h8) ?_
    refine j_aload_n dX5_plays_26 rfl ?_
    refine t_get (v := nI T) 7 (by decide) dX5_plays_27 fX5_127 (h7) ?_
    refine j_icmp_ge dX5_plays_30 (tgt := 124) rfl (fun c1 => ?_) (fun c1 => ?_)
    · exact s_plays_end hu hQ
    · refine j_iload_n dX5_plays_33 rfl ?_
      refine j_if_eq dX5_plays_34 (tgt := 124) rfl (fun _ => ?_) (fun c2 => absurd hu0 c2)
      exact s_plays_end hu hQ
  | succ f ih =>
    intro u p o nm s sp v2 v3 h5 h7 h8 hp hI hf hu hQ
    refine j_aload_n dX5_plays_22 rfl ?_
    refine t_get (v := nI p) 8 (by decide) dX5_plays_23 fX5_130 (h8) ?_
    refine j_aload_n dX5_plays_26 rfl ?_
    refine t_get (v := nI T) 7 (by decide) dX5_plays_27 fX5_127 (h7) ?_
    refine j_icmp_ge dX5_plays_30 (tgt := 124) rfl (fun c1 => ?_) (fun c1 => ?_)
    · have e : aPlay tx T (f + 1) u p o nm s sp = (u, o, nm, s, sp) := (if_pos c1).trans (rfl)
      rw [e] at hQ
      exact s_plays_end hu hQ
    · refine j_iload_n dX5_plays_33 rfl ?_
      refine j_if_eq dX5_plays_34 (tgt := 124) rfl (fun c2 => ?_) (fun c2 => ?_)
      · have e : aPlay tx T (f + 1) u p o nm s sp = (u, o, nm, s, sp) := (if_neg c1).trans ((if_pos c2).trans (rfl))
        rw [e] at hQ
        exact s_plays_end hu hQ
      · have hin := aPar_in (tx := tx) (nm := nm) hT hp
        have hpT : p < T := Nat.lt_of_not_le (fun q => ‹¬ nI T ≤ nI p› (nI_le q (by omega)))
        refine j_aload_n dX5_plays_37 rfl ?_
        refine j_aload_n dX5_plays_38 rfl ?_
        refine t_get (v := nI p) 8 (by decide) dX5_plays_39 fX5_130 (h8) ?_
        refine t_put 9 (by decide) dX5_plays_42 fX5_170 (rfl) ?_
        refine j_aload_n dX5_plays_45 rfl ?_
        refine k_callV0i dX5_plays_46 vX5_plays_176 (s_parses (gP_gW hg) ((upd_n (by decide)).trans (h7)) hT ((upd_n (by decide)).trans (h8)) hp) rfl (by decide)  (Nat.le_of_ble_eq_true rfl) ⟨rfl, rfl⟩ rfl ?_
        rintro _ _ ⟨⟨⟩, rfl⟩
        refine j_istore_n dX5_plays_49 (by decide) ?_
        refine j_iload_n dX5_plays_50 rfl ?_
        refine j_if_eq dX5_plays_51 (tgt := 61) rfl (fun c3 => ?_) (fun c3 => ?_)
        · refine j_iconst (v := 0) dX5_plays_61 (by decide) ?_
          refine j_istore_n dX5_plays_62 (by decide) ?_
          refine j_iload_n dX5_plays_63 rfl ?_
          refine j_if_eq dX5_plays_64 (tgt := 75) rfl (fun _ => ?_) (fun c4 => absurd c3 c4)
          refine j_iconst (v := 0) dX5_plays_75 (by decide) ?_
          refine j_istore_n dX5_plays_76 (by decide) ?_
          refine j_aload_n dX5_plays_77 rfl ?_
          refine j_iload_n dX5_plays_78 rfl ?_
          refine j_if_eq dX5_plays_79 (tgt := 86) rfl (fun _ => ?_) (fun c5 => absurd c3 c5)
          refine j_iconst (v := 1) dX5_plays_86 (by decide) ?_
          refine t_put 10 (by decide) dX5_plays_87 fX5_183 (rfl) ?_
          refine j_aload_n dX5_plays_90 rfl ?_
          refine j_iload_n dX5_plays_91 rfl ?_
          refine j_if_eq dX5_plays_92 (tgt := 99) rfl (fun _ => ?_) (fun c6 => absurd c3 c6)
          refine j_aload_n dX5_plays_99 rfl ?_
          refine t_get (v := nI (aPar tx T p nm).2.1) 8 (by decide) dX5_plays_100 fX5_130 ((upd_n (by decide)).trans (upd_s)) ?_
          refine j_aload_n dX5_plays_103 rfl ?_
          refine t_get (v := nI p) 9 (by decide) dX5_plays_104 fX5_170 ((upd_n (by decide)).trans ((upd_n (by decide)).trans ((upd_n (by decide)).trans (upd_s)))) ?_
          refine j_isub dX5_plays_107 ?_
          refine t_put 11 (by decide) dX5_plays_108 fX5_186 (rfl) ?_
          refine j_aload_n dX5_plays_111 rfl ?_
          refine j_dup dX5_plays_112 rfl ?_
          refine t_get (v := _) 12 (by decide) dX5_plays_113 fX5_173 (rfl) ?_
          refine j_iconst (v := 1) dX5_plays_116 (by decide) ?_
          refine j_iadd dX5_plays_117 ?_
          refine t_put 12 (by decide) dX5_plays_118 fX5_173 (rfl) ?_
          refine j_goto dX5_plays_121 (tgt := 22) rfl ?_
          have e : aPlay tx T (f + 1) u p o nm s sp = aPlay tx T f 0 _ _ _ _ _ := (if_neg c1).trans ((if_neg c2).trans ((if_pos c3).trans (rfl)))
          rw [e] at hQ
          exact ih 0 _ _ _ _ _ _ _ ((upd_n (by decide)).trans ((upd_n (by decide)).trans ((upd_n (by decide)).trans ((upd_n (by decide)).trans ((upd_n (by decide)).trans ((upd_n (by decide)).trans (h5))))))) ((upd_n (by decide)).trans ((upd_n (by decide)).trans ((upd_n (by decide)).trans ((upd_n (by decide)).trans ((upd_n (by decide)).trans ((upd_n (by decide)).trans (h7))))))) ((upd_n (by decide)).trans ((upd_n (by decide)).trans ((upd_n (by decide)).trans (upd_s)))) hin.2.1 hI (Or.inr rfl) (Or.inl rfl) hQ
        · have hfm := hin.2.2.2 ‹¬ (aPar tx T p nm).1 = 0›
          refine j_aload_n dX5_plays_54 rfl ?_
          refine k_callV0i dX5_plays_55 vX5_plays_180 (s_does hg ((upd_n (by decide)).trans ((upd_n (by decide)).trans ((upd_n (by decide)).trans (h5)))) ((upd_n (by decide)).trans upd_s) hfm.1 hI) rfl (by decide)  (Nat.le_of_ble_eq_true rfl) ⟨rfl, rfl⟩ rfl ?_
          rintro _ _ ⟨⟨⟩, rfl⟩
          refine j_goto dX5_plays_58 (tgt := 62) rfl ?_
          refine j_istore_n dX5_plays_62 (by decide) ?_
          refine j_iload_n dX5_plays_63 rfl ?_
          refine j_if_eq dX5_plays_64 (tgt := 75) rfl (fun c7 => absurd c7 c3) (fun _ => ?_)
          refine j_iload_n dX5_plays_67 rfl ?_
          refine j_if_lt dX5_plays_68 (tgt := 75) rfl (fun c8 => ?_) (fun c8 => ?_)
          · refine j_iconst (v := 0) dX5_plays_75 (by decide) ?_
            refine j_istore_n dX5_plays_76 (by decide) ?_
            refine j_aload_n dX5_plays_77 rfl ?_
            refine j_iload_n dX5_plays_78 rfl ?_
            refine j_if_eq dX5_plays_79 (tgt := 86) rfl (fun c9 => absurd c9 c3) (fun _ => ?_)
            refine j_iconst (v := 2) dX5_plays_82 (by decide) ?_
            refine j_goto dX5_plays_83 (tgt := 87) rfl ?_
            refine t_put 10 (by decide) dX5_plays_87 fX5_183 (rfl) ?_
            refine j_aload_n dX5_plays_90 rfl ?_
            refine j_iload_n dX5_plays_91 rfl ?_
            refine j_if_eq dX5_plays_92 (tgt := 99) rfl (fun c10 => absurd c10 c3) (fun _ => ?_)
            refine j_iload_n dX5_plays_95 rfl ?_
            refine j_goto dX5_plays_96 (tgt := 108) rfl ?_
            refine t_put 11 (by decide) dX5_plays_108 fX5_186 (rfl) ?_
            refine j_aload_n dX5_plays_111 rfl ?_
            refine j_dup dX5_plays_112 rfl ?_
            refine t_get (v := _) 12 (by decide) dX5_plays_113 fX5_173 (rfl) ?_
            refine j_iconst (v := 1) dX5_plays_116 (by decide) ?_
            refine j_iadd dX5_plays_117 ?_
            refine t_put 12 (by decide) dX5_plays_118 fX5_173 (rfl) ?_
            refine j_goto dX5_plays_121 (tgt := 22) rfl ?_
            have e : aPlay tx T (f + 1) u p o nm s sp = aPlay tx T f 0 _ _ _ _ _ := (if_neg c1).trans ((if_neg c2).trans ((if_neg c3).trans ((if_pos c8).trans (rfl))))
            rw [e] at hQ
            exact ih 0 _ _ _ _ _ _ _ ((upd_n (by decide)).trans ((upd_n (by decide)).trans ((upd_n (by decide)).trans ((upd_n (by decide)).trans ((upd_n (by decide)).trans ((upd_n (by decide)).trans (h5))))))) ((upd_n (by decide)).trans ((upd_n (by decide)).trans ((upd_n (by decide)).trans ((upd_n (by decide)).trans ((upd_n (by decide)).trans ((upd_n (by decide)).trans (h7))))))) ((upd_n (by decide)).trans ((upd_n (by decide)).trans ((upd_n (by decide)).trans (upd_s)))) hin.2.1 (aI_do hI) (Or.inr rfl) (Or.inl rfl) hQ
          · refine j_iconst (v := 1) dX5_plays_71 (by decide) ?_
            refine j_goto dX5_plays_72 (tgt := 76) rfl ?_
            refine j_istore_n dX5_plays_76 (by decide) ?_
            refine j_aload_n dX5_plays_77 rfl ?_
            refine j_iload_n dX5_plays_78 rfl ?_
            refine j_if_eq dX5_plays_79 (tgt := 86) rfl (fun c11 => absurd c11 c3) (fun _ => ?_)
            refine j_iconst (v := 2) dX5_plays_82 (by decide) ?_
            refine j_goto dX5_plays_83 (tgt := 87) rfl ?_
            refine t_put 10 (by decide) dX5_plays_87 fX5_183 (rfl) ?_
            refine j_aload_n dX5_plays_90 rfl ?_
            refine j_iload_n dX5_plays_91 rfl ?_
            refine j_if_eq dX5_plays_92 (tgt := 99) rfl (fun c12 => absurd c12 c3) (fun _ => ?_)
            refine j_iload_n dX5_plays_95 rfl ?_
            refine j_goto dX5_plays_96 (tgt := 108) rfl ?_
            refine t_put 11 (by decide) dX5_plays_108 fX5_186 (rfl) ?_
            refine j_aload_n dX5_plays_111 rfl ?_
            refine j_dup dX5_plays_112 rfl ?_
            refine t_get (v := _) 12 (by decide) dX5_plays_113 fX5_173 (rfl) ?_
            refine j_iconst (v := 1) dX5_plays_116 (by decide) ?_
            refine j_iadd dX5_plays_117 ?_
            refine t_put 12 (by decide) dX5_plays_118 fX5_173 (rfl) ?_
            refine j_goto dX5_plays_121 (tgt := 22) rfl ?_
            have e : aPlay tx T (f + 1) u p o nm s sp = aPlay tx T f 1 _ _ _ _ _ := (if_neg c1).trans ((if_neg c2).trans ((if_neg c3).trans ((if_neg c8).trans (rfl))))
            rw [e] at hQ
            exact ih 1 _ _ _ _ _ _ _ ((upd_n (by decide)).trans ((upd_n (by decide)).trans ((upd_n (by decide)).trans ((upd_n (by decide)).trans ((upd_n (by decide)).trans ((upd_n (by decide)).trans (h5))))))) ((upd_n (by decide)).trans ((upd_n (by decide)).trans ((upd_n (by decide)).trans ((upd_n (by decide)).trans ((upd_n (by decide)).trans ((upd_n (by decide)).trans (h7))))))) ((upd_n (by decide)).trans ((upd_n (by decide)).trans ((upd_n (by decide)).trans (upd_s)))) hin.2.1 (aI_do hI) (Or.inl (by have h9 := hfm.2; have h10 := hf.resolve_right ‹¬ u = 0›; omega)) (Or.inr rfl) hQ
def aPl0 (o : Nat → Int32) : Nat → Int32 := upd (upd (upd (upd o 5 1) 8 0) 9 0) 12 0
/-- all orders of the text, done on the array s -/
def aPlR (tx : Nat → Int32) (T : Nat) (o nm s sp : Nat → Int32) : aQt := aPlay tx T 61 1 0 (aPl0 o) nm s sp
set_option maxRecDepth 4000 in
set_option maxHeartbeats 2000000 in
theorem s_plays {g : zH} (hg : gP g) {o tx nm s sp : Nat → Int32} {T : Nat} (h7 : o 7 = nI T) (hT : T ≤ 60) (hI : aI s) : zCT mX5_plays [.ref 215] 222 (gS (gT (gW g sp) o tx nm) s) 222 (fun r h' => r = some (aPlR tx T o nm s sp).1 ∧ h' = gS (gT (gW g (aPlR tx T o nm s sp).2.2.2.2) (upd (aPlR tx T o nm s sp).2.1 5 0) tx (aPlR tx T o nm s sp).2.2.1) (aPlR tx T o nm s sp).2.2.2.1) := by
  intro X Q hQ
  show zJ X mX5_plays 222 0 [.ref 215, .null, .null, .null] [] 222 (gS (gT (gW g sp) o tx nm) s) Q
  refine j_aload_n dX5_plays_0 rfl ?_
  refine j_iconst (v := 1) dX5_plays_1 (by decide) ?_
  refine t_put 5 (by decide) dX5_plays_2 fX5_28 (rfl) ?_
  refine j_aload_n dX5_plays_5 rfl ?_
  refine j_iconst (v := 0) dX5_plays_6 (by decide) ?_
  refine t_put 8 (by decide) dX5_plays_7 fX5_130 (rfl) ?_
  refine j_aload_n dX5_plays_10 rfl ?_
  refine j_iconst (v := 0) dX5_plays_11 (by decide) ?_
  refine t_put 9 (by decide) dX5_plays_12 fX5_170 (rfl) ?_
  refine j_aload_n dX5_plays_15 rfl ?_
  refine j_iconst (v := 0) dX5_plays_16 (by decide) ?_
  refine t_put 12 (by decide) dX5_plays_17 fX5_173 (rfl) ?_
  refine j_iconst (v := 1) dX5_plays_20 (by decide) ?_
  refine j_istore_n dX5_plays_21 (by decide) ?_
  exact s_plays_lp hg hT 61 1 0 (aPl0 o) nm s sp _ _ rfl h7 rfl (by omega) hI (Or.inl (by omega)) (Or.inr rfl) hQ
