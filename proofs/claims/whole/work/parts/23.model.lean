theorem m_218 {g : zH} {o tx nm sp hd hq s : Nat → Int32} : va_up (gS (gT (gW (gD g hd) sp) o tx nm) s) 218 (iA hq) = gS (gT (gW (gD g hq) sp) o tx nm) s := by
  rw [gS_upn (by decide)]
  congr 1
  unfold gT gW gD
  rw [up_sw (a := 215) (b := 218) (by decide), up_sw (a := 221) (b := 218) (by decide), up_sw (a := 220) (b := 218) (by decide), up_sw (a := 219) (b := 218) (by decide), up_up, va_up_ne (j := 215) _ _ (by decide), va_up_ne (j := 215) _ _ (by decide), va_up_ne (j := 215) _ _ (by decide), va_up_ne (j := 215) _ _ (by decide)]
theorem m_at218 {g : zH} {o tx nm sp hd s : Nat → Int32} : gS (gT (gW (gD g hd) sp) o tx nm) s 218 = iA hd := by
  rw [gS_ne (by decide), gT_ne (by decide)]
  unfold gW gD
  rw [va_up_ne _ _ (by decide), va_up_self]
theorem m_H {g : zH} {o tx nm sp hd pa : Nat → Int32} {p : Nat} : gT (gW (gD (gH g pa p) hd) sp) o tx nm = gH (gT (gW (gD g hd) sp) o tx nm) pa p := by
  funext a
  by_cases h1 : a = 215
  · subst h1
    funext k
    unfold gT gH
    rw [va_up_self, va_up_self, va_up_self]
    unfold gW gD
    rw [va_up_ne (j := 215) _ _ (by decide), va_up_ne (j := 215) _ _ (by decide), va_up_self, va_up_ne (j := 215) _ _ (by decide), va_up_ne (j := 215) _ _ (by decide)]
    by_cases hk : k = 4
    · subst hk
      rw [va_up_self, va_up_self, if_neg (by decide)]
    · rw [va_up_ne _ _ hk, va_up_ne _ _ hk]
  · unfold gT gH gW gD
    rw [va_up_ne _ _ h1, va_up_ne _ _ h1]
    by_cases h2 : a = 217
    · subst h2
      rw [va_up_ne _ _ (by decide), va_up_ne _ _ (by decide), va_up_ne _ _ (by decide), va_up_ne _ _ (by decide), va_up_ne _ _ (by decide), va_up_self, va_up_self]
    · rw [va_up_ne (j := a) (k := 217) _ _ h2, va_up_ne (j := a) (k := 215) _ _ h1]
      by_cases h3 : a = 221
      · subst h3; rw [va_up_self, va_up_self]
      · rw [va_up_ne _ _ h3, va_up_ne (j := a) (k := 221) _ _ h3]
        by_cases h4 : a = 220
        · subst h4; rw [va_up_self, va_up_self]
        · rw [va_up_ne _ _ h4, va_up_ne (j := a) (k := 220) _ _ h4]
          by_cases h5 : a = 219
          · subst h5; rw [va_up_self, va_up_self]
          · rw [va_up_ne _ _ h5, va_up_ne (j := a) (k := 219) _ _ h5]
            by_cases h6 : a = 218
            · subst h6; rw [va_up_self, va_up_self]
            · rw [va_up_ne _ _ h6, va_up_ne (j := a) (k := 218) _ _ h6, va_up_ne _ _ h1, va_up_ne _ _ h2]
theorem aPlay_7 {tx : Nat → Int32} {T : Nat} : ∀ (f : Nat) (u : Int32) (p : Nat) (o nm s sp : Nat → Int32), (aPlay tx T f u p o nm s sp).2.1 7 = o 7
  | 0, _, _, _, _, _, _ => rfl
  | f + 1, u, p, o, nm, s, sp => by
    have e : ∀ x y, aSo2 (aSo1 tx T o nm p) x y 7 = o 7 := by
      intro x y
      unfold aSo2 aSo1
      rw [upd_n (by decide), upd_n (by decide), upd_n (by decide), upd_n (by decide), upd_n (by decide), upd_n (by decide)]
    unfold aPlay
    split
    · rfl
    · split
      · rfl
      · split
        · rw [aPlay_7 f]; exact e _ _
        · split
          · rw [aPlay_7 f]; exact e _ _
          · rw [aPlay_7 f]; exact e _ _
theorem aPlR_7 {tx o nm s sp : Nat → Int32} {T : Nat} : upd (aPlR tx T o nm s sp).2.1 5 0 7 = o 7 := by
  rw [upd_n (by decide)]
  unfold aPlR
  rw [aPlay_7]
  unfold aPl0
  rw [upd_n (by decide), upd_n (by decide), upd_n (by decide), upd_n (by decide)]
def aFl2 (R : aQt) (v : Int32) : Int32 := if R.1 = 0 then (if v = 0 then upd R.2.1 5 0 9 else if v = 1 then upd R.2.1 5 0 10 else upd R.2.1 5 0 11) else -1000004
def aFlt (R : aQt) (v : Int32) : Int32 := if aIn v 0 2 = 0 then -1000001 else aFl2 R v
def aPyQ (R R2 : aQt) : Int32 := if R.1 = 0 then -1000002 else if R2.1 = 0 then -1000004 else upd R2.2.1 5 0 12
set_option maxRecDepth 4000 in
set_option maxHeartbeats 1000000 in
theorem s_fault {g : zH} (hg : gP g) {o tx nm s sp hd : Nat → Int32} {T : Nat} (h5 : o 5 = 0) (h7 : o 7 = nI T) (hT : T ≤ 60) (hI : aI s) {v : Int32} : zCT mX5_fault [.ref 215, .int v] 222 (gS (gT (gW (gD g hd) sp) o tx nm) s) 222 (fun r h' => r = some (aFlt (aPlR tx T o nm s sp) v) ∧ ∃ hd' sp' o' nm', h' = gS (gT (gW (gD g hd') sp') o' tx nm') s ∧ o' 7 = o 7 ∧ o' 5 = 0) := by
  intro X Q hQ
  show zJ X mX5_fault 222 0 [.ref 215, .int v, .null] [] 222 (gS (gT (gW (gD g hd) sp) o tx nm) s) Q
  refine j_iload_n dX5_fault_0 rfl ?_
  refine j_iconst (v := 0) dX5_fault_1 (by decide) ?_
  refine j_iconst (v := 2) dX5_fault_2 (by decide) ?_
  refine k_callS3i dX5_fault_3 vX5_fault_36 (s_in) rfl rfl rfl (Nat.le_of_ble_eq_true rfl) ⟨rfl, rfl⟩ rfl ?_
  rintro _ _ ⟨⟨⟩, rfl⟩
  refine j_if_ne dX5_fault_6 (tgt := 12) rfl (fun c1 => ?_) (fun c1 => ?_)
  · refine j_aload_n dX5_fault_12 rfl ?_
    refine j_get (v := .ref 216) dX5_fault_13 fX5_7 rfl (by decide) (gS_p0 (gP_gT (gP_gW (gP_gD hg)))) ?_
    refine j_aload_n dX5_fault_16 rfl ?_
    refine j_get (v := .ref 218) dX5_fault_17 fX5_16 rfl (by decide) (gS_p2 (gP_gT (gP_gW (gP_gD hg)))) ?_
    refine k_callS2v dX5_fault_20 vX5_fault_114 (s_copies (f := s) (f1 := hd) (va_up_self _ _ _) m_at218 (by decide) rfl rfl (by decide) (by decide)) rfl rfl (Nat.le_of_ble_eq_true rfl) ⟨rfl, rfl⟩ rfl ?_
    rintro _ ⟨-, rfl⟩
    rw [m_218]
    refine j_aload_n dX5_fault_23 rfl ?_
    refine k_callV0i dX5_fault_24 vX5_fault_189 (s_plays (gP_gD hg) h7 hT hI) rfl (by decide)  (Nat.le_of_ble_eq_true rfl) ⟨rfl, rfl⟩ rfl ?_
    rintro _ _ ⟨⟨⟩, rfl⟩
    refine j_istore_n dX5_fault_27 (by decide) ?_
    refine j_aload_n dX5_fault_28 rfl ?_
    refine j_get (v := .ref 218) dX5_fault_29 fX5_16 rfl (by decide) (gS_p2 (gP_gT (gP_gW (gP_gD hg)))) ?_
    refine j_aload_n dX5_fault_32 rfl ?_
    refine j_get (v := .ref 216) dX5_fault_33 fX5_7 rfl (by decide) (gS_p0 (gP_gT (gP_gW (gP_gD hg)))) ?_
    refine k_callS2v dX5_fault_36 vX5_fault_114 (s_copies (f := s) (f1 := (aPlR tx T o nm s sp).2.2.2.1) m_at218 (va_up_self _ _ _) (by decide) rfl rfl (by decide) (by decide)) rfl rfl (Nat.le_of_ble_eq_true rfl) ⟨rfl, rfl⟩ rfl ?_
    rintro _ ⟨-, rfl⟩
    rw [gS_s]
    refine j_iload_n dX5_fault_39 rfl ?_
    refine j_if_eq dX5_fault_40 (tgt := 48) rfl (fun c2 => ?_) (fun c2 => ?_)
    · refine j_iload_n dX5_fault_48 rfl ?_
      refine j_if_ne dX5_fault_49 (tgt := 59) rfl (fun c3 => ?_) (fun c3 => ?_)
      · refine j_iload_n dX5_fault_59 rfl ?_
        refine j_iconst (v := 1) dX5_fault_60 (by decide) ?_
        refine j_icmp_ne dX5_fault_61 (tgt := 71) rfl (fun c4 => ?_) (fun c4 => ?_)
        · refine j_aload_n dX5_fault_71 rfl ?_
          refine t_get (v := _) 11 (by decide) dX5_fault_72 fX5_186 (rfl) ?_
          refine j_iret dX5_fault_75 rfl (rfl) ?_
          exact hQ _ _ ⟨congrArg some (((if_neg c1).trans ((if_pos c2).trans ((if_neg c3).trans ((if_neg c4).trans (rfl)))) : aFlt (aPlR tx T o nm s sp) v = _).symm), s, _, _, _, rfl, aPlR_7, upd_s⟩
        · refine j_aload_n dX5_fault_64 rfl ?_
          refine t_get (v := _) 10 (by decide) dX5_fault_65 fX5_183 (rfl) ?_
          refine j_goto dX5_fault_68 (tgt := 75) rfl ?_
          refine j_iret dX5_fault_75 rfl (rfl) ?_
          exact hQ _ _ ⟨congrArg some (((if_neg c1).trans ((if_pos c2).trans ((if_neg c3).trans ((if_pos c4).trans (rfl)))) : aFlt (aPlR tx T o nm s sp) v = _).symm), s, _, _, _, rfl, aPlR_7, upd_s⟩
      · refine j_aload_n dX5_fault_52 rfl ?_
        refine t_get (v := _) 9 (by decide) dX5_fault_53 fX5_170 (rfl) ?_
        refine j_goto dX5_fault_56 (tgt := 75) rfl ?_
        refine j_iret dX5_fault_75 rfl (rfl) ?_
        exact hQ _ _ ⟨congrArg some (((if_neg c1).trans ((if_pos c2).trans ((if_pos c3).trans (rfl))) : aFlt (aPlR tx T o nm s sp) v = _).symm), s, _, _, _, rfl, aPlR_7, upd_s⟩
    · refine j_ldc (v := (-1000004)) dX5_fault_43 cX5_44 ?_
      refine j_goto dX5_fault_45 (tgt := 75) rfl ?_
      refine j_iret dX5_fault_75 rfl (rfl) ?_
      exact hQ _ _ ⟨congrArg some (((if_neg c1).trans ((if_neg c2).trans (rfl)) : aFlt (aPlR tx T o nm s sp) v = _).symm), s, _, _, _, rfl, aPlR_7, upd_s⟩
  · refine j_ldc (v := (-1000001)) dX5_fault_9 cX5_78 ?_
    refine j_iret dX5_fault_11 rfl (rfl) ?_
    exact hQ _ _ ⟨congrArg some (((if_pos c1).trans (rfl) : aFlt (aPlR tx T o nm s sp) v = _).symm), hd, sp, o, nm, rfl, rfl, h5⟩
set_option maxRecDepth 4000 in
set_option maxHeartbeats 1000000 in
theorem s_play {g : zH} (hg : gP g) {o tx nm s sp hd pa : Nat → Int32} {T p : Nat} (hp : p ≤ 4) (h5 : o 5 = 0) (h7 : o 7 = nI T) (hT : T ≤ 60) (hI : aI s) : zCT mX5_play [.ref 215] 222 (gS (gT (gW (gD (gH g pa p) hd) sp) o tx nm) s) 222 (fun r h' => r = some (aPyQ (aPlR tx T o nm s sp) (aPlR tx T (upd (aPlR tx T o nm s sp).2.1 5 0) (aPlR tx T o nm s sp).2.2.1 s (aPlR tx T o nm s sp).2.2.2.2)) ∧ if (aPlR tx T o nm s sp).1 = 0 then ∃ hd' sp' o' nm', h' = gS (gT (gW (gD (gH g pa p) hd') sp') o' tx nm') s ∧ o' 7 = o 7 ∧ o' 5 = 0 else ∃ hd' sp' o' nm', h' = gS (gT (gW (gD (gH g (aPa pa p s) (aPn p)) hd') sp') o' tx nm') (aPlR tx T (upd (aPlR tx T o nm s sp).2.1 5 0) (aPlR tx T o nm s sp).2.2.1 s (aPlR tx T o nm s sp).2.2.2.2).2.2.2.1 ∧ o' 7 = o 7 ∧ o' 5 = 0) := by
  intro X Q hQ
  show zJ X mX5_play 222 0 [.ref 215, .null] [] 222 (gS (gT (gW (gD (gH g pa p) hd) sp) o tx nm) s) Q
  refine j_aload_n dX5_play_0 rfl ?_
  refine j_get (v := .ref 216) dX5_play_1 fX5_7 rfl (by decide) (gS_p0 (gP_gT (gP_gW (gP_gD (gP_gH hg))))) ?_
  refine j_aload_n dX5_play_4 rfl ?_
  refine j_get (v := .ref 218) dX5_play_5 fX5_16 rfl (by decide) (gS_p2 (gP_gT (gP_gW (gP_gD (gP_gH hg))))) ?_
  refine k_callS2v dX5_play_8 vX5_play_114 (s_copies (f := s) (f1 := hd) (va_up_self _ _ _) m_at218 (by decide) rfl rfl (by decide) (by decide)) rfl rfl (Nat.le_of_ble_eq_true rfl) ⟨rfl, rfl⟩ rfl ?_
  rintro _ ⟨-, rfl⟩
  rw [m_218]
  refine j_aload_n dX5_play_11 rfl ?_
  refine k_callV0i dX5_play_12 vX5_play_189 (s_plays (gP_gD (gP_gH hg)) h7 hT hI) rfl (by decide)  (Nat.le_of_ble_eq_true rfl) ⟨rfl, rfl⟩ rfl ?_
  rintro _ _ ⟨⟨⟩, rfl⟩
  refine j_istore_n dX5_play_15 (by decide) ?_
  refine j_aload_n dX5_play_16 rfl ?_
  refine j_get (v := .ref 218) dX5_play_17 fX5_16 rfl (by decide) (gS_p2 (gP_gT (gP_gW (gP_gD (gP_gH hg))))) ?_
  refine j_aload_n dX5_play_20 rfl ?_
  refine j_get (v := .ref 216) dX5_play_21 fX5_7 rfl (by decide) (gS_p0 (gP_gT (gP_gW (gP_gD (gP_gH hg))))) ?_
  refine k_callS2v dX5_play_24 vX5_play_114 (s_copies (f := s) (f1 := (aPlR tx T o nm s sp).2.2.2.1) m_at218 (va_up_self _ _ _) (by decide) rfl rfl (by decide) (by decide)) rfl rfl (Nat.le_of_ble_eq_true rfl) ⟨rfl, rfl⟩ rfl ?_
  rintro _ ⟨-, rfl⟩
  rw [gS_s]
  refine j_iload_n dX5_play_27 rfl ?_
  refine j_if_ne dX5_play_28 (tgt := 34) rfl (fun c1 => ?_) (fun c1 => ?_)
  · rw [m_H]
    refine j_aload_n dX5_play_34 rfl ?_
    refine k_callV0v dX5_play_35 vX5_play_84 (s_changes (gP_gT (gP_gW (gP_gD hg))) (gT_run.trans (congrArg Value.int upd_s)) hp) rfl (by decide)  (Nat.le_of_ble_eq_true rfl) ⟨rfl, rfl⟩ rfl ?_
    rintro _ ⟨-, rfl⟩
    rw [← m_H]
    refine j_aload_n dX5_play_38 rfl ?_
    refine k_callV0i dX5_play_39 vX5_play_189 (s_plays (gP_gD (gP_gH hg)) (aPlR_7.trans h7) hT hI) rfl (by decide)  (Nat.le_of_ble_eq_true rfl) ⟨rfl, rfl⟩ rfl ?_
    rintro _ _ ⟨⟨⟩, rfl⟩
    refine j_if_eq dX5_play_42 (tgt := 52) rfl (fun c2 => ?_) (fun c2 => ?_)
    · refine j_ldc (v := (-1000004)) dX5_play_52 cX5_44 ?_
      refine j_iret dX5_play_54 rfl (rfl) ?_
      refine hQ _ _ ⟨congrArg some (((if_neg c1).trans ((if_pos c2).trans (rfl)) : aPyQ (aPlR tx T o nm s sp) (aPlR tx T (upd (aPlR tx T o nm s sp).2.1 5 0) (aPlR tx T o nm s sp).2.2.1 s (aPlR tx T o nm s sp).2.2.2.2) = _).symm), ?_⟩
      rw [if_neg c1]
      exact ⟨s, _, _, _, rfl, aPlR_7.trans aPlR_7, upd_s⟩
    · refine j_aload_n dX5_play_45 rfl ?_
      refine t_get (v := _) 12 (by decide) dX5_play_46 fX5_173 (rfl) ?_
      refine j_goto dX5_play_49 (tgt := 54) rfl ?_
      refine j_iret dX5_play_54 rfl (rfl) ?_
      refine hQ _ _ ⟨congrArg some (((if_neg c1).trans ((if_neg c2).trans (rfl)) : aPyQ (aPlR tx T o nm s sp) (aPlR tx T (upd (aPlR tx T o nm s sp).2.1 5 0) (aPlR tx T o nm s sp).2.2.1 s (aPlR tx T o nm s sp).2.2.2.2) = _).symm), ?_⟩
      rw [if_neg c1]
      exact ⟨s, _, _, _, rfl, aPlR_7.trans aPlR_7, upd_s⟩
  · refine j_ldc (v := (-1000002)) dX5_play_31 cX5_82 ?_
    refine j_iret dX5_play_33 rfl (rfl) ?_
    refine hQ _ _ ⟨congrArg some (((if_pos c1).trans (rfl) : aPyQ (aPlR tx T o nm s sp) (aPlR tx T (upd (aPlR tx T o nm s sp).2.1 5 0) (aPlR tx T o nm s sp).2.2.1 s (aPlR tx T o nm s sp).2.2.2.2) = _).symm), ?_⟩
    rw [if_pos c1]
    exact ⟨s, _, _, _, rfl, aPlR_7, upd_s⟩
