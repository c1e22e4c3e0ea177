-- the law's loop
section LW
/-- the check's objects hold -/
def KP (h : zH) (s pa : Nat → Int32) (n : Nat) (o tx nm sp hd : Nat → Int32) : Prop := gP h ∧ h 216 = iA s ∧ h 217 = iA pa ∧ h 218 = iA hd ∧ h 219 = iA sp ∧ h 220 = iA tx ∧ h 221 = iA nm ∧ h 215 4 = .int (nI n) ∧ ∀ k, (k = 5 ∨ (7 ≤ k ∧ k ≤ 13)) → h 215 k = .int (o k)
def LI (h : zH) : Prop := ∃ (s pa tx o nm sp hd : Nat → Int32) (n T : Nat), CH h s pa n tx T ∧ aM s ∧ (∀ i, i < n → aM (aUnS pa i)) ∧ n ≤ 4 ∧ T ≤ 60 ∧ o 7 = nI T ∧ o 5 = 0 ∧ KP h s pa n o tx nm sp hd
variable {h h1 h2 : zH} {s s' pa pa' o o' tx tx' nm nm' sp sp' hd hd' : Nat → Int32} {n n' T : Nat}
theorem gS_self (e : h 216 = iA s) : gS h s = h := by
  funext a
  by_cases ha : a = 216
  · subst ha
    unfold gS
    rw [va_up_self]
    exact e.symm
  · exact gS_ne ha
theorem gH_self (e : h 217 = iA pa) (e4 : h 215 4 = .int (nI n)) : gH h pa n = h := by
  funext a
  unfold gH
  by_cases ha : a = 215
  · subst ha
    rw [va_up_self]
    funext k
    by_cases hk : k = 4
    · subst hk
      rw [va_up_self]
      exact e4.symm
    · rw [va_up_ne _ _ hk]
  · rw [va_up_ne _ _ ha]
    by_cases hb : a = 217
    · subst hb
      rw [va_up_self]
      exact e.symm
    · rw [va_up_ne _ _ hb]
theorem gT_self (e0 : h 220 = iA tx) (e1 : h 221 = iA nm) (e : ∀ k, (k = 5 ∨ (7 ≤ k ∧ k ≤ 13)) → h 215 k = .int (o k)) : gT h o tx nm = h := by
  funext a
  by_cases ha : a = 215
  · subst ha
    funext k
    by_cases hk : k = 5 ∨ (7 ≤ k ∧ k ≤ 13)
    · have := gT_get (g := h) (o := o) (tx := tx) (nm := nm) (s := fun _ => 0) k hk
      rw [gS_ne (by decide)] at this
      rw [this, e k hk]
    · exact gT_oth (s := fun _ => 0) hk
  · by_cases hb : a = 220
    · subst hb
      have := gT_220 (g := h) (o := o) (tx := tx) (nm := nm) (s := fun _ => 0)
      rw [gS_ne (by decide)] at this
      rw [this, e0]
    · by_cases hc : a = 221
      · subst hc
        have := gT_221 (g := h) (o := o) (tx := tx) (nm := nm) (s := fun _ => 0)
        rw [gS_ne (by decide)] at this
        rw [this, e1]
      · exact gT_ne ⟨ha, hb, hc⟩
abbrev gF (h : zH) (s pa : Nat → Int32) (n : Nat) (o tx nm sp hd : Nat → Int32) : zH := gS (gT (gW (gD (gH h pa n) hd) sp) o tx nm) s
theorem KP_F (hg : gP h) : KP (gF h s pa n o tx nm sp hd) s pa n o tx nm sp hd := by
  have hg2 : gP (gT (gW (gD (gH h pa n) hd) sp) o tx nm) := gP_gT (gP_gW (gP_gD (gP_gH hg)))
  refine ⟨⟨gS_p0 hg2, gS_p1 hg2, gS_p2 hg2, gS_p3 hg2, gS_p6 hg2, gS_p14 hg2⟩, va_up_self _ _ _, ?_, m_at218, ?_, gT_220, gT_221, ?_, fun k hk => gT_get k hk⟩
  · show gS (gT (gW (gD (gH h pa n) hd) sp) o tx nm) s 217 = _
    rw [m_H]
    exact gH_217
  · show gS (gT (gW (gD (gH h pa n) hd) sp) o tx nm) s 219 = _
    rw [gS_ne (by decide)]
    exact gT_sp
  · show gS (gT (gW (gD (gH h pa n) hd) sp) o tx nm) s 215 4 = _
    rw [m_H]
    exact gH_4
theorem gF_lo {a : Nat} (ha : a < 215) : gF h s pa n o tx nm sp hd a = h a := by
  show gS _ s a = h a
  rw [gS_ne (by omega), gT_ne ⟨by omega, by omega, by omega⟩]
  unfold gW gD gH
  rw [va_up_ne _ _ (by omega), va_up_ne _ _ (by omega), va_up_ne _ _ (by omega), va_up_ne _ _ (by omega)]
theorem KP_hi (hk : KP h s pa n o tx nm sp hd) (e : ∀ x, 215 ≤ x → h1 x = h x) : KP h1 s pa n o tx nm sp hd := by
  obtain ⟨⟨p0, p1, p2, p3, p6, p14⟩, k1, k2, k3, k4, k5, k6, k7, k8⟩ := hk
  have e5 := e 215 (by omega)
  refine ⟨⟨?_, ?_, ?_, ?_, ?_, ?_⟩, ?_, ?_, ?_, ?_, ?_, ?_, ?_, fun k hk => ?_⟩
  · rw [e5]; exact p0
  · rw [e5]; exact p1
  · rw [e5]; exact p2
  · rw [e5]; exact p3
  · rw [e5]; exact p6
  · rw [e5]; exact p14
  · rw [e 216 (by omega)]; exact k1
  · rw [e 217 (by omega)]; exact k2
  · rw [e 218 (by omega)]; exact k3
  · rw [e 219 (by omega)]; exact k4
  · rw [e 220 (by omega)]; exact k5
  · rw [e 221 (by omega)]; exact k6
  · rw [e5]; exact k7
  · rw [e5]; exact k8 k hk
theorem KP_S (hk : KP h s pa n o tx nm sp hd) : gS h s = h := gS_self hk.2.1
theorem KP_H (hk : KP h s pa n o tx nm sp hd) : gH h pa n = h := gH_self hk.2.2.1 hk.2.2.2.2.2.2.2.1
theorem KP_D (hk : KP h s pa n o tx nm sp hd) : gD h hd = h := gD_self hk.2.2.2.1
theorem KP_W (hk : KP h s pa n o tx nm sp hd) : gW h sp = h := gW_self hk.2.2.2.2.1
theorem KP_T (hk : KP h s pa n o tx nm sp hd) : gT h o tx nm = h := gT_self hk.2.2.2.2.2.1 hk.2.2.2.2.2.2.1 hk.2.2.2.2.2.2.2.2
theorem KP_TWD (hk : KP h s pa n o tx nm sp hd) : gT (gW (gD h hd) sp) o tx nm = h := by rw [KP_D hk, KP_W hk, KP_T hk]
theorem KP_full (hk : KP h s pa n o tx nm sp hd) : gF h s pa n o tx nm sp hd = h := by
  show gS (gT (gW (gD (gH h pa n) hd) sp) o tx nm) s = h
  rw [KP_H hk, KP_TWD hk, KP_S hk]
/-- what the check's changes leave -/
theorem KP_ch (hk : KP h s pa n o tx nm sp hd) : gS (gH h pa' n') s' = gF h s' pa' n' o tx nm sp hd := by
  show _ = gS (gT (gW (gD (gH h pa' n') hd) sp) o tx nm) s'
  rw [m_H, KP_TWD hk]
theorem KP_ch2 (hk : KP h s pa n o tx nm sp hd) (b : Bool) : gS (cond b (gH h (aPa pa n s) (aPn n)) h) s' = gF h s' (cond b (aPa pa n s) pa) (cond b (aPn n) n) o tx nm sp hd := by
  cases b
  · show gS h s' = gF h s' pa n o tx nm sp hd
    rw [← KP_ch hk, KP_H hk]
  · exact KP_ch hk
theorem KP_zch (hk : KP h s pa n o tx nm sp hd) (hn : n ≤ 4) (h5 : o 5 = 0) : zCh h (gH h (aPa pa n s) (aPn n)) s := by
  have k := s_changes (g := h) hk.1 (hk.2.2.2.2.2.2.2.2 5 (Or.inl rfl) |>.trans (congrArg Value.int h5)) (pa := pa) (s := s) hn
  rw [KP_H hk] at k
  exact k
theorem aM_hist (hM : aM s) (hH : ∀ i, i < n → aM (aUnS pa i)) (hn : n ≤ 4) : ∀ i, i < aPn n → aM (aUnS (aPa pa n s) i) := by
  intro i hi
  by_cases e : n = 4
  · subst e
    have hi4 : i < 4 := hi
    show aM (aUnS (aPut (aSh pa 645) 3 s 215) i)
    by_cases e3 : i = 3
    · exact aM_ext hM (fun j hj => by rw [aUn_put (by omega) hj (by omega), if_pos e3])
    · exact aM_ext (hH (i + 1) (by omega)) (fun j hj => by rw [aUn_put (by omega) hj (by omega), if_neg e3]; exact aUn_sh (by omega) hj)
  · have e1 : aPn n = n + 1 := if_neg e
    have e2 : aPa pa n s = aPut pa n s 215 := if_neg e
    rw [e1] at hi
    rw [e2]
    by_cases e3 : i = n
    · exact aM_ext hM (fun j hj => by rw [aUn_put (by omega) hj (by omega), if_pos e3])
    · exact aM_ext (hH i (by omega)) (fun j hj => by rw [aUn_put (by omega) hj (by omega), if_neg e3])
theorem aPn_le (hn : n ≤ 4) : aPn n ≤ 4 := by
  unfold aPn
  split <;> omega
theorem LI_F (hc : CH h s' pa' n' tx' T) (hM : aM s') (hH : ∀ i, i < n' → aM (aUnS pa' i)) (hn : n' ≤ 4) (hT : T ≤ 60) (h7 : o' 7 = nI T) (h5 : o' 5 = 0) (hg : gP h) : LI (gF h s' pa' n' o' tx' nm' sp' hd') :=
  ⟨s', pa', tx', o', nm', sp', hd', n', T, CH_lt (fun a ha => gF_lo ha) hc, hM, hH, hn, hT, h7, h5, KP_F hg⟩
theorem LI_ch {q : Int32 × Bool × (Nat → Int32)} (hM : aM s) (hH : ∀ i, i < n → aM (aUnS pa i)) (hn : n ≤ 4) (hT : T ≤ 60) (h7 : o 7 = nI T) (h5 : o 5 = 0) (hk : KP h s pa n o tx nm sp hd) (hq : aM q.2.2) (hc : CH h q.2.2 (cond q.2.1 (aPa pa n s) pa) (cond q.2.1 (aPn n) n) tx T) : LI (gS (cond q.2.1 (gH h (aPa pa n s) (aPn n)) h) q.2.2) := by
  rw [KP_ch2 hk]
  refine LI_F hc hq ?_ ?_ hT h7 h5 hk.1
  · cases q.2.1
    · exact hH
    · exact aM_hist hM hH hn
  · cases q.2.1
    · exact hn
    · exact aPn_le hn
theorem hN222 : zN 222 - zN 0 ≤ 7302250 := by decide +kernel
section QC
variable {X : Nat × (Nat → Int32)} {pc : Nat} {ls st : List Value} {Q : zQt}
theorem q_call0 {a idx ci : Nat} {M' : zM} {P : Option Int32 → zH → Prop} (hd : decode (zMb mL_law) pc = .ok (.invokevirtual idx, 3)) (hl : zSV mL_law idx M' 0 ci) (hT : zCT M' (.ref a :: []) 222 h 222 P) (hs : (zS a).1 = ci) (ha : a < 222)  (hst : (st.map fun v => v.category).sum ≤ 8) (hz : zMc M' = 0 ∧ zMs M' = 0) (hr : (zMr M').isSome = true) (kk : ∀ x h', P (some x) h' → zJ X mL_law 0 (pc + 3) ls (.int x :: st) 222 h' Q) : zJ X mL_law 0 pc ls (.ref a :: st) 222 h Q :=
  j_callV0i hd hl hT hs ha  hst (Nat.zero_le _) (by rw [hz.1]) (by rw [hz.2, Nat.add_zero]) (by rw [hz.1]; exact Nat.le_of_ble_eq_true rfl) (by rw [hz.2, Nat.add_zero]; exact hN222) hr kk
theorem q_call1 {a idx ci : Nat} {v1 : Value} {M' : zM} {P : Option Int32 → zH → Prop} (hd : decode (zMb mL_law) pc = .ok (.invokevirtual idx, 3)) (hl : zSV mL_law idx M' 1 ci) (hT : zCT M' (.ref a :: [v1]) 222 h 222 P) (hs : (zS a).1 = ci) (ha : a < 222) (hc1 : v1.category = 1) (hst : (st.map fun v => v.category).sum ≤ 8) (hz : zMc M' = 0 ∧ zMs M' = 0) (hr : (zMr M').isSome = true) (kk : ∀ x h', P (some x) h' → zJ X mL_law 0 (pc + 3) ls (.int x :: st) 222 h' Q) : zJ X mL_law 0 pc ls (v1 :: .ref a :: st) 222 h Q :=
  j_callV1i hd hl hT hs ha hc1 hst (Nat.zero_le _) (by rw [hz.1]) (by rw [hz.2, Nat.add_zero]) (by rw [hz.1]; exact Nat.le_of_ble_eq_true rfl) (by rw [hz.2, Nat.add_zero]; exact hN222) hr kk
theorem q_call2 {a idx ci : Nat} {v1 v2 : Value} {M' : zM} {P : Option Int32 → zH → Prop} (hd : decode (zMb mL_law) pc = .ok (.invokevirtual idx, 3)) (hl : zSV mL_law idx M' 2 ci) (hT : zCT M' (.ref a :: [v1, v2]) 222 h 222 P) (hs : (zS a).1 = ci) (ha : a < 222) (hc1 : v1.category = 1) (hc2 : v2.category = 1) (hst : (st.map fun v => v.category).sum ≤ 8) (hz : zMc M' = 0 ∧ zMs M' = 0) (hr : (zMr M').isSome = true) (kk : ∀ x h', P (some x) h' → zJ X mL_law 0 (pc + 3) ls (.int x :: st) 222 h' Q) : zJ X mL_law 0 pc ls (v2 :: v1 :: .ref a :: st) 222 h Q :=
  j_callV2i hd hl hT hs ha hc1 hc2 hst (Nat.zero_le _) (by rw [hz.1]) (by rw [hz.2, Nat.add_zero]) (by rw [hz.1]; exact Nat.le_of_ble_eq_true rfl) (by rw [hz.2, Nat.add_zero]; exact hN222) hr kk
theorem q_call3 {a idx ci : Nat} {v1 v2 v3 : Value} {M' : zM} {P : Option Int32 → zH → Prop} (hd : decode (zMb mL_law) pc = .ok (.invokevirtual idx, 3)) (hl : zSV mL_law idx M' 3 ci) (hT : zCT M' (.ref a :: [v1, v2, v3]) 222 h 222 P) (hs : (zS a).1 = ci) (ha : a < 222) (hc1 : v1.category = 1) (hc2 : v2.category = 1) (hc3 : v3.category = 1) (hst : (st.map fun v => v.category).sum ≤ 8) (hz : zMc M' = 0 ∧ zMs M' = 0) (hr : (zMr M').isSome = true) (kk : ∀ x h', P (some x) h' → zJ X mL_law 0 (pc + 3) ls (.int x :: st) 222 h' Q) : zJ X mL_law 0 pc ls (v3 :: v2 :: v1 :: .ref a :: st) 222 h Q :=
  j_callV3i hd hl hT hs ha hc1 hc2 hc3 hst (Nat.zero_le _) (by rw [hz.1]) (by rw [hz.2, Nat.add_zero]) (by rw [hz.1]; exact Nat.le_of_ble_eq_true rfl) (by rw [hz.2, Nat.add_zero]; exact hN222) hr kk
theorem q_call4 {a idx ci : Nat} {v1 v2 v3 v4 : Value} {M' : zM} {P : Option Int32 → zH → Prop} (hd : decode (zMb mL_law) pc = .ok (.invokevirtual idx, 3)) (hl : zSV mL_law idx M' 4 ci) (hT : zCT M' (.ref a :: [v1, v2, v3, v4]) 222 h 222 P) (hs : (zS a).1 = ci) (ha : a < 222) (hc1 : v1.category = 1) (hc2 : v2.category = 1) (hc3 : v3.category = 1) (hc4 : v4.category = 1) (hst : (st.map fun v => v.category).sum ≤ 8) (hz : zMc M' = 0 ∧ zMs M' = 0) (hr : (zMr M').isSome = true) (kk : ∀ x h', P (some x) h' → zJ X mL_law 0 (pc + 3) ls (.int x :: st) 222 h' Q) : zJ X mL_law 0 pc ls (v4 :: v3 :: v2 :: v1 :: .ref a :: st) 222 h Q :=
  j_callV4i hd hl hT hs ha hc1 hc2 hc3 hc4 hst (Nat.zero_le _) (by rw [hz.1]) (by rw [hz.2, Nat.add_zero]) (by rw [hz.1]; exact Nat.le_of_ble_eq_true rfl) (by rw [hz.2, Nat.add_zero]; exact hN222) hr kk
theorem q_in {i : Int32} {j L : Nat} (hi : i = nI j) (hj : j < L) (hL : L ≤ 2560) : vp_in i L := by
  rw [hi]
  exact vp_in_nI hj (by omega)
theorem q_at {f : Nat → Int32} {i : Int32} {j : Nat} (hi : i = nI j) (hj : j < 2147483648) : f i.toNatClampNeg = f j := by rw [hi, nI_clamp hj]
end QC
theorem q_sub5 {L m : Nat} (hL : L ≤ 2560) (hm : m ≤ 2600) (hc : ¬ nI L - 5 < nI m) : m + 5 ≤ L := by
  rw [Int32.lt_iff_toInt_lt, nI_toInt (n := m) (by omega)] at hc
  by_cases h5 : 5 ≤ L
  · rw [show nI L - 5 = nI (L - 5) from pk_sub (a := L) (b := 5) h5, nI_toInt (by omega)] at hc
    omega
  · have : (nI L - 5).toInt = (L : Int) - 5 := by
      rcases (show L = 0 ∨ L = 1 ∨ L = 2 ∨ L = 3 ∨ L = 4 by omega) with rfl | rfl | rfl | rfl | rfl <;> decide
    omega
end LW
section LX
variable {h h1 h2 : zH} {s s' pa pa' o o' tx tx' nm nm' sp sp' hd hd' : Nat → Int32} {n n' T : Nat}
theorem LI_ngt (hM : aM s) (hH : ∀ i, i < n → aM (aUnS pa i)) (hn : n ≤ 4) (hT : T ≤ 60) (h7 : o 7 = nI T) (h5 : o 5 = 0) (hk : KP h s pa n o tx nm sp hd) (hq : aM (aNgt s (aMix s sp (11 * aNn s)) (aNn s)).2.2) (hc : CH h (aNgt s (aMix s sp (11 * aNn s)) (aNn s)).2.2 (cond (aNgt s (aMix s sp (11 * aNn s)) (aNn s)).2.1 (aPa pa n s) pa) (cond (aNgt s (aMix s sp (11 * aNn s)) (aNn s)).2.1 (aPn n) n) tx T) : LI (gS (cond (aNgt s (aMix s sp (11 * aNn s)) (aNn s)).2.1 (gW (gH h (aPa pa n s) (aPn n)) (aMix s sp (11 * aNn s))) h) (aNgt s (aMix s sp (11 * aNn s)) (aNn s)).2.2) := by
  generalize aNgt s (aMix s sp (11 * aNn s)) (aNn s) = q at *
  generalize aMix s sp (11 * aNn s) = sq at *
  cases hb : q.2.1
  · rw [hb] at hc
    show LI (gS h q.2.2)
    rw [show gS h q.2.2 = gF h q.2.2 pa n o tx nm sp hd by rw [← KP_ch hk, KP_H hk]]
    exact LI_F hc hq hH hn hT h7 h5 hk.1
  · rw [hb] at hc
    show LI (gS (gW (gH h (aPa pa n s) (aPn n)) sq) q.2.2)
    have e : gS (gW (gH h (aPa pa n s) (aPn n)) sq) q.2.2 = gF h q.2.2 (aPa pa n s) (aPn n) o tx nm sq hd := by
      show _ = gS (gT (gW (gD (gH h (aPa pa n s) (aPn n)) hd) sq) o tx nm) q.2.2
      have e0 : gW (gD (gH h (aPa pa n s) (aPn n)) hd) sp = gD (gH h (aPa pa n s) (aPn n)) hd := gW_self (by
        unfold gD gH
        rw [va_up_ne _ _ (by decide), va_up_ne _ _ (by decide), va_up_ne _ _ (by decide)]
        exact hk.2.2.2.2.1)
      have k := m_H (g := h) (o := o) (tx := tx) (nm := nm) (sp := sp) (hd := hd) (pa := aPa pa n s) (p := aPn n)
      rw [e0, KP_TWD hk] at k
      rw [← gT_gW, k]
    rw [e]
    exact LI_F hc hq (aM_hist hM hH hn) (aPn_le hn) hT h7 h5 hk.1
theorem LI_w {sq : Nat → Int32} (hM : aM s) (hH : ∀ i, i < n → aM (aUnS pa i)) (hn : n ≤ 4) (hT : T ≤ 60) (h7 : o 7 = nI T) (h5 : o 5 = 0) (hk : KP h s pa n o tx nm sp hd) (hc : CH h s pa n tx T) : LI (gS (gW h sq) s) := by
  have e : gS (gW h sq) s = gF h s pa n o tx nm sq hd := by
    show _ = gS (gT (gW (gD (gH h pa n) hd) sq) o tx nm) s
    rw [KP_H hk, KP_D hk, ← gT_gW, KP_T hk]
  rw [e]
  exact LI_F hc hM hH hn hT h7 h5 hk.1
theorem LI_wd {sq hq : Nat → Int32} (hM : aM s) (hH : ∀ i, i < n → aM (aUnS pa i)) (hn : n ≤ 4) (hT : T ≤ 60) (h7 : o 7 = nI T) (h5 : o 5 = 0) (hk : KP h s pa n o tx nm sp hd) (hc : CH h s pa n tx T) : LI (gS (gW (gD h hq) sq) s) := by
  have e : gS (gW (gD h hq) sq) s = gF h s pa n o tx nm sq hq := by
    show _ = gS (gT (gW (gD (gH h pa n) hq) sq) o tx nm) s
    rw [KP_H hk, ← gT_gW, ← gT_gD, KP_T hk]
  rw [e]
  exact LI_F hc hM hH hn hT h7 h5 hk.1
theorem LI_t {o2 tx2 nm2 : Nat → Int32} {T2 : Nat} (hM : aM s) (hH : ∀ i, i < n → aM (aUnS pa i)) (hn : n ≤ 4) (hT : T2 ≤ 60) (h7 : o2 7 = nI T2) (h5 : o2 5 = 0) (hk : KP h s pa n o tx nm sp hd) (hc : CH h s pa n tx2 T2) : LI (gS (gT h o2 tx2 nm2) s) := by
  have e : gS (gT h o2 tx2 nm2) s = gF h s pa n o2 tx2 nm2 sp hd := by
    show _ = gS (gT (gW (gD (gH h pa n) hd) sp) o2 tx2 nm2) s
    rw [KP_H hk, KP_D hk, KP_W hk]
  rw [e]
  exact LI_F hc hM hH hn hT h7 h5 hk.1
theorem LI_ty {c : Int32} (hM : aM s) (hH : ∀ i, i < n → aM (aUnS pa i)) (hn : n ≤ 4) (hT : T ≤ 60) (h7 : o 7 = nI T) (h5 : o 5 = 0) (hk : KP h s pa n o tx nm sp hd) (hc : CH h s pa n (aTypX tx T c) (aTyT T c)) : LI (gS (gT h (aTypO o T c) (aTypX tx T c) nm) s) := by
  refine LI_t hM hH hn ?_ ?_ ?_ hk hc
  · unfold aTyT
    split
    · exact hT
    · split <;> omega
  · unfold aTypO aTyT
    by_cases a : aIn c 32 126 = 0
    · rw [if_pos a, if_pos a]
      exact h7
    · rw [if_neg a, if_neg a]
      by_cases b : T = 60
      · rw [if_pos b, if_pos b]
        exact h7
      · rw [if_neg b, if_neg b]
        exact upd_s
  · unfold aTypO
    split
    · exact h5
    · split
      · exact h5
      · rw [upd_n (by decide)]
        exact h5
theorem LI_cl (hM : aM s) (hH : ∀ i, i < n → aM (aUnS pa i)) (hn : n ≤ 4) (hT : T ≤ 60) (h7 : o 7 = nI T) (h5 : o 5 = 0) (hk : KP h s pa n o tx nm sp hd) (hc : CH h s pa n tx 0) : LI (gS (gT h (upd o 7 0) tx nm) s) :=
  LI_t (T2 := 0) hM hH hn (Nat.zero_le _) upd_s (by rw [upd_n (by decide)]; exact h5) hk hc
theorem LI_fl {hd2 sp2 o2 nm2 : Nat → Int32} (hM : aM s) (hH : ∀ i, i < n → aM (aUnS pa i)) (hn : n ≤ 4) (hT : T ≤ 60) (h7 : o 7 = nI T) (hk : KP h s pa n o tx nm sp hd) (hc : CH h s pa n tx T) (g7 : o2 7 = o 7) (g5 : o2 5 = 0) : LI (gS (gT (gW (gD h hd2) sp2) o2 tx nm2) s) := by
  have e : gS (gT (gW (gD h hd2) sp2) o2 tx nm2) s = gF h s pa n o2 tx nm2 sp2 hd2 := by
    show _ = gS (gT (gW (gD (gH h pa n) hd2) sp2) o2 tx nm2) s
    rw [KP_H hk]
  rw [e]
  exact LI_F hc hM hH hn hT (g7.trans h7) g5 hk.1
end LX
set_option maxRecDepth 4000 in
set_option maxHeartbeats 2000000 in
theorem law_end {X : Nat × (Nat → Int32)} (hL : X.1 ≤ 2560) {m : Nat} {h : zH} {Q : zQt} (kk : ∀ h', LI h' → zJ X mL_law 0 18 [.ref 1000, .ref 0, .ref 215, .int (nI (m + 5))] [] 222 h' Q) (hLI : LI h) : zJ X mL_law 0 807 [.ref 1000, .ref 0, .ref 215, .int (nI m)] [] 222 h Q := by
  refine j_iinc (v := nI (m + 5)) dL_law_807 rfl (nI_add m 5) (by decide) ?_
  refine j_goto dL_law_810 (tgt := 18) rfl ?_
  exact kk _ hLI
set_option maxRecDepth 4000 in
set_option maxHeartbeats 2000000 in
theorem law_bidder {X : Nat × (Nat → Int32)} (hL : X.1 ≤ 2560) {m : Nat} (hmL : m + 5 ≤ X.1) {h : zH} {Q : zQt} (hLI : LI h) (kk : ∀ h', LI h' → zJ X mL_law 0 18 [.ref 1000, .ref 0, .ref 215, .int (nI (m + 5))] [] 222 h' Q) : zJ X mL_law 0 156 [.ref 1000, .ref 0, .ref 215, .int (nI m)] [] 222 h Q := by
  obtain ⟨s, pa, tx, o, nm, sp, hd, n, T, hC, hM, hH, hn, hT, h7, h5, hk⟩ := id hLI
  have hI : aIa s (aNn s) (aWn s) := hM.1.1
  obtain ⟨Kn, -, hKn8, hKn⟩ := hI.2.2.1
  refine j_aload_n dL_law_156 rfl ?_
  refine j_aload_n dL_law_157 rfl ?_
  refine j_iload_n dL_law_158 rfl ?_
  refine j_iconst (v := 1) dL_law_159 (by decide) ?_
  refine j_iadd dL_law_160 ?_
  refine j_sld (x := X.2 ((m + 1))) dL_law_161 rfl (q_in (j := (m + 1)) (by first | rfl | (simp only [z_n, pk_mul, nI_add]; done) | (simp only [z_n, pk_mul, nI_add]; exact pk_sub (by omega)) | (simp only [z_n, pk_mul, nI_add, pk_sub, *]; done)) (by omega) hL) (q_at (j := (m + 1)) (by first | rfl | (simp only [z_n, pk_mul, nI_add]; done) | (simp only [z_n, pk_mul, nI_add]; exact pk_sub (by omega)) | (simp only [z_n, pk_mul, nI_add, pk_sub, *]; done)) (by omega)) ?_
  refine j_aload_n dL_law_162 rfl ?_
  refine j_iload_n dL_law_163 rfl ?_
  refine j_iconst (v := 2) dL_law_164 (by decide) ?_
  refine j_iadd dL_law_165 ?_
  refine j_sld (x := X.2 ((m + 2))) dL_law_166 rfl (q_in (j := (m + 2)) (by first | rfl | (simp only [z_n, pk_mul, nI_add]; done) | (simp only [z_n, pk_mul, nI_add]; exact pk_sub (by omega)) | (simp only [z_n, pk_mul, nI_add, pk_sub, *]; done)) (by omega) hL) (q_at (j := (m + 2)) (by first | rfl | (simp only [z_n, pk_mul, nI_add]; done) | (simp only [z_n, pk_mul, nI_add]; exact pk_sub (by omega)) | (simp only [z_n, pk_mul, nI_add, pk_sub, *]; done)) (by omega)) ?_
  refine j_aload_n dL_law_167 rfl ?_
  refine j_iload_n dL_law_168 rfl ?_
  refine j_iconst (v := 3) dL_law_169 (by decide) ?_
  refine j_iadd dL_law_170 ?_
  refine j_sld (x := X.2 ((m + 3))) dL_law_171 rfl (q_in (j := (m + 3)) (by first | rfl | (simp only [z_n, pk_mul, nI_add]; done) | (simp only [z_n, pk_mul, nI_add]; exact pk_sub (by omega)) | (simp only [z_n, pk_mul, nI_add, pk_sub, *]; done)) (by omega) hL) (q_at (j := (m + 3)) (by first | rfl | (simp only [z_n, pk_mul, nI_add]; done) | (simp only [z_n, pk_mul, nI_add]; exact pk_sub (by omega)) | (simp only [z_n, pk_mul, nI_add, pk_sub, *]; done)) (by omega)) ?_
  refine j_aload_n dL_law_172 rfl ?_
  refine j_iload_n dL_law_173 rfl ?_
  refine j_iconst (v := 4) dL_law_174 (by decide) ?_
  refine j_iadd dL_law_175 ?_
  refine j_sld (x := X.2 ((m + 4))) dL_law_176 rfl (q_in (j := (m + 4)) (by first | rfl | (simp only [z_n, pk_mul, nI_add]; done) | (simp only [z_n, pk_mul, nI_add]; exact pk_sub (by omega)) | (simp only [z_n, pk_mul, nI_add, pk_sub, *]; done)) (by omega) hL) (q_at (j := (m + 4)) (by first | rfl | (simp only [z_n, pk_mul, nI_add]; done) | (simp only [z_n, pk_mul, nI_add]; exact pk_sub (by omega)) | (simp only [z_n, pk_mul, nI_add, pk_sub, *]; done)) (by omega)) ?_
  refine q_call4 dL_law_177 vL_law_13 (o_bidder hC hM) rfl (by decide) rfl rfl rfl rfl (Nat.le_of_ble_eq_true rfl) ⟨rfl, rfl⟩ rfl ?_
  rintro _ h1 ⟨⟨⟩, hlo, hC1⟩
  have hk1 := KP_hi hk hlo
  refine j_aload_n dL_law_180 rfl ?_
  refine j_aload_n dL_law_181 rfl ?_
  refine j_iload_n dL_law_182 rfl ?_
  refine j_iconst (v := 1) dL_law_183 (by decide) ?_
  refine j_iadd dL_law_184 ?_
  refine j_sld (x := X.2 ((m + 1))) dL_law_185 rfl (q_in (j := (m + 1)) (by first | rfl | (simp only [z_n, pk_mul, nI_add]; done) | (simp only [z_n, pk_mul, nI_add]; exact pk_sub (by omega)) | (simp only [z_n, pk_mul, nI_add, pk_sub, *]; done)) (by omega) hL) (q_at (j := (m + 1)) (by first | rfl | (simp only [z_n, pk_mul, nI_add]; done) | (simp only [z_n, pk_mul, nI_add]; exact pk_sub (by omega)) | (simp only [z_n, pk_mul, nI_add, pk_sub, *]; done)) (by omega)) ?_
  refine j_aload_n dL_law_186 rfl ?_
  refine j_iload_n dL_law_187 rfl ?_
  refine j_iconst (v := 2) dL_law_188 (by decide) ?_
  refine j_iadd dL_law_189 ?_
  refine j_sld (x := X.2 ((m + 2))) dL_law_190 rfl (q_in (j := (m + 2)) (by first | rfl | (simp only [z_n, pk_mul, nI_add]; done) | (simp only [z_n, pk_mul, nI_add]; exact pk_sub (by omega)) | (simp only [z_n, pk_mul, nI_add, pk_sub, *]; done)) (by omega) hL) (q_at (j := (m + 2)) (by first | rfl | (simp only [z_n, pk_mul, nI_add]; done) | (simp only [z_n, pk_mul, nI_add]; exact pk_sub (by omega)) | (simp only [z_n, pk_mul, nI_add, pk_sub, *]; done)) (by omega)) ?_
  refine j_aload_n dL_law_191 rfl ?_
  refine j_iload_n dL_law_192 rfl ?_
  refine j_iconst (v := 3) dL_law_193 (by decide) ?_
  refine j_iadd dL_law_194 ?_
  refine j_sld (x := X.2 ((m + 3))) dL_law_195 rfl (q_in (j := (m + 3)) (by first | rfl | (simp only [z_n, pk_mul, nI_add]; done) | (simp only [z_n, pk_mul, nI_add]; exact pk_sub (by omega)) | (simp only [z_n, pk_mul, nI_add, pk_sub, *]; done)) (by omega) hL) (q_at (j := (m + 3)) (by first | rfl | (simp only [z_n, pk_mul, nI_add]; done) | (simp only [z_n, pk_mul, nI_add]; exact pk_sub (by omega)) | (simp only [z_n, pk_mul, nI_add, pk_sub, *]; done)) (by omega)) ?_
  refine j_aload_n dL_law_196 rfl ?_
  refine j_iload_n dL_law_197 rfl ?_
  refine j_iconst (v := 4) dL_law_198 (by decide) ?_
  refine j_iadd dL_law_199 ?_
  refine j_sld (x := X.2 ((m + 4))) dL_law_200 rfl (q_in (j := (m + 4)) (by first | rfl | (simp only [z_n, pk_mul, nI_add]; done) | (simp only [z_n, pk_mul, nI_add]; exact pk_sub (by omega)) | (simp only [z_n, pk_mul, nI_add, pk_sub, *]; done)) (by omega) hL) (q_at (j := (m + 4)) (by first | rfl | (simp only [z_n, pk_mul, nI_add]; done) | (simp only [z_n, pk_mul, nI_add]; exact pk_sub (by omega)) | (simp only [z_n, pk_mul, nI_add, pk_sub, *]; done)) (by omega)) ?_
  refine z_to (KP_S hk1).symm ?_
  refine q_call4 dL_law_201 vL_law_17 (s_bidder hk1.1 (gP_gH hk1.1) (KP_zch hk1 hn h5) hI.1.1 hI.1.2) rfl (by decide) rfl rfl rfl rfl (Nat.le_of_ble_eq_true rfl) ⟨rfl, rfl⟩ rfl ?_
  rintro _ _ ⟨⟨⟩, rfl⟩
  refine j_icmp_eq dL_law_204 (tgt := 807) rfl (fun _ => ?_) (fun c1 => absurd rfl c1)
  exact law_end hL kk (LI_ch (q := aBidder s (aNn s) _ _ _ _) hM hH hn hT h7 h5 hk1 ⟨aK_bidder hM.1, (aOk_bidder hM).2.2⟩ hC1)
set_option maxRecDepth 4000 in
set_option maxHeartbeats 2000000 in
theorem law_catches {X : Nat × (Nat → Int32)} (hL : X.1 ≤ 2560) {m : Nat} (hmL : m + 5 ≤ X.1) {h : zH} {Q : zQt} (hLI : LI h) (kk : ∀ h', LI h' → zJ X mL_law 0 18 [.ref 1000, .ref 0, .ref 215, .int (nI (m + 5))] [] 222 h' Q) : zJ X mL_law 0 209 [.ref 1000, .ref 0, .ref 215, .int (nI m)] [] 222 h Q := by
  obtain ⟨s, pa, tx, o, nm, sp, hd, n, T, hC, hM, hH, hn, hT, h7, h5, hk⟩ := id hLI
  have hI : aIa s (aNn s) (aWn s) := hM.1.1
  obtain ⟨Kn, -, hKn8, hKn⟩ := hI.2.2.1
  refine j_aload_n dL_law_209 rfl ?_
  refine j_aload_n dL_law_210 rfl ?_
  refine j_iload_n dL_law_211 rfl ?_
  refine j_iconst (v := 1) dL_law_212 (by decide) ?_
  refine j_iadd dL_law_213 ?_
  refine j_sld (x := X.2 ((m + 1))) dL_law_214 rfl (q_in (j := (m + 1)) (by first | rfl | (simp only [z_n, pk_mul, nI_add]; done) | (simp only [z_n, pk_mul, nI_add]; exact pk_sub (by omega)) | (simp only [z_n, pk_mul, nI_add, pk_sub, *]; done)) (by omega) hL) (q_at (j := (m + 1)) (by first | rfl | (simp only [z_n, pk_mul, nI_add]; done) | (simp only [z_n, pk_mul, nI_add]; exact pk_sub (by omega)) | (simp only [z_n, pk_mul, nI_add, pk_sub, *]; done)) (by omega)) ?_
  refine j_aload_n dL_law_215 rfl ?_
  refine j_iload_n dL_law_216 rfl ?_
  refine j_iconst (v := 2) dL_law_217 (by decide) ?_
  refine j_iadd dL_law_218 ?_
  refine j_sld (x := X.2 ((m + 2))) dL_law_219 rfl (q_in (j := (m + 2)) (by first | rfl | (simp only [z_n, pk_mul, nI_add]; done) | (simp only [z_n, pk_mul, nI_add]; exact pk_sub (by omega)) | (simp only [z_n, pk_mul, nI_add, pk_sub, *]; done)) (by omega) hL) (q_at (j := (m + 2)) (by first | rfl | (simp only [z_n, pk_mul, nI_add]; done) | (simp only [z_n, pk_mul, nI_add]; exact pk_sub (by omega)) | (simp only [z_n, pk_mul, nI_add, pk_sub, *]; done)) (by omega)) ?_
  refine q_call2 dL_law_220 vL_law_18 (o_catches hC hM) rfl (by decide) rfl rfl (Nat.le_of_ble_eq_true rfl) ⟨rfl, rfl⟩ rfl ?_
  rintro _ h1 ⟨⟨⟩, hlo, hC1⟩
  have hk1 := KP_hi hk hlo
  refine j_aload_n dL_law_223 rfl ?_
  refine j_aload_n dL_law_224 rfl ?_
  refine j_iload_n dL_law_225 rfl ?_
  refine j_iconst (v := 1) dL_law_226 (by decide) ?_
  refine j_iadd dL_law_227 ?_
  refine j_sld (x := X.2 ((m + 1))) dL_law_228 rfl (q_in (j := (m + 1)) (by first | rfl | (simp only [z_n, pk_mul, nI_add]; done) | (simp only [z_n, pk_mul, nI_add]; exact pk_sub (by omega)) | (simp only [z_n, pk_mul, nI_add, pk_sub, *]; done)) (by omega) hL) (q_at (j := (m + 1)) (by first | rfl | (simp only [z_n, pk_mul, nI_add]; done) | (simp only [z_n, pk_mul, nI_add]; exact pk_sub (by omega)) | (simp only [z_n, pk_mul, nI_add, pk_sub, *]; done)) (by omega)) ?_
  refine j_aload_n dL_law_229 rfl ?_
  refine j_iload_n dL_law_230 rfl ?_
  refine j_iconst (v := 2) dL_law_231 (by decide) ?_
  refine j_iadd dL_law_232 ?_
  refine j_sld (x := X.2 ((m + 2))) dL_law_233 rfl (q_in (j := (m + 2)) (by first | rfl | (simp only [z_n, pk_mul, nI_add]; done) | (simp only [z_n, pk_mul, nI_add]; exact pk_sub (by omega)) | (simp only [z_n, pk_mul, nI_add, pk_sub, *]; done)) (by omega) hL) (q_at (j := (m + 2)) (by first | rfl | (simp only [z_n, pk_mul, nI_add]; done) | (simp only [z_n, pk_mul, nI_add]; exact pk_sub (by omega)) | (simp only [z_n, pk_mul, nI_add, pk_sub, *]; done)) (by omega)) ?_
  refine z_to (KP_S hk1).symm ?_
  refine q_call2 dL_law_234 vL_law_22 (s_catches hk1.1 (gP_gH hk1.1) (KP_zch hk1 hn h5) hI.1.1 hI.1.2) rfl (by decide) rfl rfl (Nat.le_of_ble_eq_true rfl) ⟨rfl, rfl⟩ rfl ?_
  rintro _ _ ⟨⟨⟩, rfl⟩
  refine j_icmp_eq dL_law_237 (tgt := 807) rfl (fun _ => ?_) (fun c1 => absurd rfl c1)
  exact law_end hL kk (LI_ch (q := aSetB s _ _ 4) hM hH hn hT h7 h5 hk1 ⟨aK_setB (Or.inl rfl) hM.1, (aOk_setB (Or.inl rfl) hM).2.2⟩ hC1)
set_option maxRecDepth 4000 in
set_option maxHeartbeats 2000000 in
theorem law_muffle {X : Nat × (Nat → Int32)} (hL : X.1 ≤ 2560) {m : Nat} (hmL : m + 5 ≤ X.1) {h : zH} {Q : zQt} (hLI : LI h) (kk : ∀ h', LI h' → zJ X mL_law 0 18 [.ref 1000, .ref 0, .ref 215, .int (nI (m + 5))] [] 222 h' Q) : zJ X mL_law 0 242 [.ref 1000, .ref 0, .ref 215, .int (nI m)] [] 222 h Q := by
  obtain ⟨s, pa, tx, o, nm, sp, hd, n, T, hC, hM, hH, hn, hT, h7, h5, hk⟩ := id hLI
  have hI : aIa s (aNn s) (aWn s) := hM.1.1
  obtain ⟨Kn, -, hKn8, hKn⟩ := hI.2.2.1
  refine j_aload_n dL_law_242 rfl ?_
  refine j_aload_n dL_law_243 rfl ?_
  refine j_iload_n dL_law_244 rfl ?_
  refine j_iconst (v := 1) dL_law_245 (by decide) ?_
  refine j_iadd dL_law_246 ?_
  refine j_sld (x := X.2 ((m + 1))) dL_law_247 rfl (q_in (j := (m + 1)) (by first | rfl | (simp only [z_n, pk_mul, nI_add]; done) | (simp only [z_n, pk_mul, nI_add]; exact pk_sub (by omega)) | (simp only [z_n, pk_mul, nI_add, pk_sub, *]; done)) (by omega) hL) (q_at (j := (m + 1)) (by first | rfl | (simp only [z_n, pk_mul, nI_add]; done) | (simp only [z_n, pk_mul, nI_add]; exact pk_sub (by omega)) | (simp only [z_n, pk_mul, nI_add, pk_sub, *]; done)) (by omega)) ?_
  refine j_aload_n dL_law_248 rfl ?_
  refine j_iload_n dL_law_249 rfl ?_
  refine j_iconst (v := 2) dL_law_250 (by decide) ?_
  refine j_iadd dL_law_251 ?_
  refine j_sld (x := X.2 ((m + 2))) dL_law_252 rfl (q_in (j := (m + 2)) (by first | rfl | (simp only [z_n, pk_mul, nI_add]; done) | (simp only [z_n, pk_mul, nI_add]; exact pk_sub (by omega)) | (simp only [z_n, pk_mul, nI_add, pk_sub, *]; done)) (by omega) hL) (q_at (j := (m + 2)) (by first | rfl | (simp only [z_n, pk_mul, nI_add]; done) | (simp only [z_n, pk_mul, nI_add]; exact pk_sub (by omega)) | (simp only [z_n, pk_mul, nI_add, pk_sub, *]; done)) (by omega)) ?_
  refine q_call2 dL_law_253 vL_law_23 (o_muffle hC hM) rfl (by decide) rfl rfl (Nat.le_of_ble_eq_true rfl) ⟨rfl, rfl⟩ rfl ?_
  rintro _ h1 ⟨⟨⟩, hlo, hC1⟩
  have hk1 := KP_hi hk hlo
  refine j_aload_n dL_law_256 rfl ?_
  refine j_aload_n dL_law_257 rfl ?_
  refine j_iload_n dL_law_258 rfl ?_
  refine j_iconst (v := 1) dL_law_259 (by decide) ?_
  refine j_iadd dL_law_260 ?_
  refine j_sld (x := X.2 ((m + 1))) dL_law_261 rfl (q_in (j := (m + 1)) (by first | rfl | (simp only [z_n, pk_mul, nI_add]; done) | (simp only [z_n, pk_mul, nI_add]; exact pk_sub (by omega)) | (simp only [z_n, pk_mul, nI_add, pk_sub, *]; done)) (by omega) hL) (q_at (j := (m + 1)) (by first | rfl | (simp only [z_n, pk_mul, nI_add]; done) | (simp only [z_n, pk_mul, nI_add]; exact pk_sub (by omega)) | (simp only [z_n, pk_mul, nI_add, pk_sub, *]; done)) (by omega)) ?_
  refine j_aload_n dL_law_262 rfl ?_
  refine j_iload_n dL_law_263 rfl ?_
  refine j_iconst (v := 2) dL_law_264 (by decide) ?_
  refine j_iadd dL_law_265 ?_
  refine j_sld (x := X.2 ((m + 2))) dL_law_266 rfl (q_in (j := (m + 2)) (by first | rfl | (simp only [z_n, pk_mul, nI_add]; done) | (simp only [z_n, pk_mul, nI_add]; exact pk_sub (by omega)) | (simp only [z_n, pk_mul, nI_add, pk_sub, *]; done)) (by omega) hL) (q_at (j := (m + 2)) (by first | rfl | (simp only [z_n, pk_mul, nI_add]; done) | (simp only [z_n, pk_mul, nI_add]; exact pk_sub (by omega)) | (simp only [z_n, pk_mul, nI_add, pk_sub, *]; done)) (by omega)) ?_
  refine z_to (KP_S hk1).symm ?_
  refine q_call2 dL_law_267 vL_law_26 (s_muffle hk1.1 (gP_gH hk1.1) (KP_zch hk1 hn h5) hI.1.1 hI.1.2) rfl (by decide) rfl rfl (Nat.le_of_ble_eq_true rfl) ⟨rfl, rfl⟩ rfl ?_
  rintro _ _ ⟨⟨⟩, rfl⟩
  refine j_icmp_eq dL_law_270 (tgt := 807) rfl (fun _ => ?_) (fun c1 => absurd rfl c1)
  exact law_end hL kk (LI_ch (q := aSetB s _ _ 5) hM hH hn hT h7 h5 hk1 ⟨aK_setB (Or.inr rfl) hM.1, (aOk_setB (Or.inr rfl) hM).2.2⟩ hC1)
set_option maxRecDepth 4000 in
set_option maxHeartbeats 2000000 in
theorem law_lot {X : Nat × (Nat → Int32)} (hL : X.1 ≤ 2560) {m : Nat} (hmL : m + 5 ≤ X.1) {h : zH} {Q : zQt} (hLI : LI h) (kk : ∀ h', LI h' → zJ X mL_law 0 18 [.ref 1000, .ref 0, .ref 215, .int (nI (m + 5))] [] 222 h' Q) : zJ X mL_law 0 275 [.ref 1000, .ref 0, .ref 215, .int (nI m)] [] 222 h Q := by
  obtain ⟨s, pa, tx, o, nm, sp, hd, n, T, hC, hM, hH, hn, hT, h7, h5, hk⟩ := id hLI
  have hI : aIa s (aNn s) (aWn s) := hM.1.1
  obtain ⟨Kn, -, hKn8, hKn⟩ := hI.2.2.1
  refine j_aload_n dL_law_275 rfl ?_
  refine j_aload_n dL_law_276 rfl ?_
  refine j_iload_n dL_law_277 rfl ?_
  refine j_iconst (v := 1) dL_law_278 (by decide) ?_
  refine j_iadd dL_law_279 ?_
  refine j_sld (x := X.2 ((m + 1))) dL_law_280 rfl (q_in (j := (m + 1)) (by first | rfl | (simp only [z_n, pk_mul, nI_add]; done) | (simp only [z_n, pk_mul, nI_add]; exact pk_sub (by omega)) | (simp only [z_n, pk_mul, nI_add, pk_sub, *]; done)) (by omega) hL) (q_at (j := (m + 1)) (by first | rfl | (simp only [z_n, pk_mul, nI_add]; done) | (simp only [z_n, pk_mul, nI_add]; exact pk_sub (by omega)) | (simp only [z_n, pk_mul, nI_add, pk_sub, *]; done)) (by omega)) ?_
  refine j_aload_n dL_law_281 rfl ?_
  refine j_iload_n dL_law_282 rfl ?_
  refine j_iconst (v := 2) dL_law_283 (by decide) ?_
  refine j_iadd dL_law_284 ?_
  refine j_sld (x := X.2 ((m + 2))) dL_law_285 rfl (q_in (j := (m + 2)) (by first | rfl | (simp only [z_n, pk_mul, nI_add]; done) | (simp only [z_n, pk_mul, nI_add]; exact pk_sub (by omega)) | (simp only [z_n, pk_mul, nI_add, pk_sub, *]; done)) (by omega) hL) (q_at (j := (m + 2)) (by first | rfl | (simp only [z_n, pk_mul, nI_add]; done) | (simp only [z_n, pk_mul, nI_add]; exact pk_sub (by omega)) | (simp only [z_n, pk_mul, nI_add, pk_sub, *]; done)) (by omega)) ?_
  refine q_call2 dL_law_286 vL_law_27 (o_lot hC hM) rfl (by decide) rfl rfl (Nat.le_of_ble_eq_true rfl) ⟨rfl, rfl⟩ rfl ?_
  rintro _ h1 ⟨⟨⟩, hlo, hC1⟩
  have hk1 := KP_hi hk hlo
  refine j_aload_n dL_law_289 rfl ?_
  refine j_aload_n dL_law_290 rfl ?_
  refine j_iload_n dL_law_291 rfl ?_
  refine j_iconst (v := 1) dL_law_292 (by decide) ?_
  refine j_iadd dL_law_293 ?_
  refine j_sld (x := X.2 ((m + 1))) dL_law_294 rfl (q_in (j := (m + 1)) (by first | rfl | (simp only [z_n, pk_mul, nI_add]; done) | (simp only [z_n, pk_mul, nI_add]; exact pk_sub (by omega)) | (simp only [z_n, pk_mul, nI_add, pk_sub, *]; done)) (by omega) hL) (q_at (j := (m + 1)) (by first | rfl | (simp only [z_n, pk_mul, nI_add]; done) | (simp only [z_n, pk_mul, nI_add]; exact pk_sub (by omega)) | (simp only [z_n, pk_mul, nI_add, pk_sub, *]; done)) (by omega)) ?_
  refine j_aload_n dL_law_295 rfl ?_
  refine j_iload_n dL_law_296 rfl ?_
  refine j_iconst (v := 2) dL_law_297 (by decide) ?_
  refine j_iadd dL_law_298 ?_
  refine j_sld (x := X.2 ((m + 2))) dL_law_299 rfl (q_in (j := (m + 2)) (by first | rfl | (simp only [z_n, pk_mul, nI_add]; done) | (simp only [z_n, pk_mul, nI_add]; exact pk_sub (by omega)) | (simp only [z_n, pk_mul, nI_add, pk_sub, *]; done)) (by omega) hL) (q_at (j := (m + 2)) (by first | rfl | (simp only [z_n, pk_mul, nI_add]; done) | (simp only [z_n, pk_mul, nI_add]; exact pk_sub (by omega)) | (simp only [z_n, pk_mul, nI_add, pk_sub, *]; done)) (by omega)) ?_
  refine z_to (KP_S hk1).symm ?_
  refine q_call2 dL_law_300 vL_law_30 (s_lot hk1.1 (gP_gH hk1.1) (KP_zch hk1 hn h5) hI.2.1.1 hI.2.1.2) rfl (by decide) rfl rfl (Nat.le_of_ble_eq_true rfl) ⟨rfl, rfl⟩ rfl ?_
  rintro _ _ ⟨⟨⟩, rfl⟩
  refine j_icmp_eq dL_law_303 (tgt := 807) rfl (fun _ => ?_) (fun c1 => absurd rfl c1)
  exact law_end hL kk (LI_ch (q := aLot s (aWn s) _ _) hM hH hn hT h7 h5 hk1 ⟨aK_lot hM.1, (aOk_lot hM).2.2⟩ hC1)
set_option maxRecDepth 4000 in
set_option maxHeartbeats 2000000 in
theorem law_putUp {X : Nat × (Nat → Int32)} (hL : X.1 ≤ 2560) {m : Nat} (hmL : m + 5 ≤ X.1) {h : zH} {Q : zQt} (hLI : LI h) (kk : ∀ h', LI h' → zJ X mL_law 0 18 [.ref 1000, .ref 0, .ref 215, .int (nI (m + 5))] [] 222 h' Q) : zJ X mL_law 0 308 [.ref 1000, .ref 0, .ref 215, .int (nI m)] [] 222 h Q := by
  obtain ⟨s, pa, tx, o, nm, sp, hd, n, T, hC, hM, hH, hn, hT, h7, h5, hk⟩ := id hLI
  have hI : aIa s (aNn s) (aWn s) := hM.1.1
  obtain ⟨Kn, -, hKn8, hKn⟩ := hI.2.2.1
  refine j_aload_n dL_law_308 rfl ?_
  refine q_call0 dL_law_309 vL_law_31 (o_putUp hC hM) rfl (by decide)  (Nat.le_of_ble_eq_true rfl) ⟨rfl, rfl⟩ rfl ?_
  rintro _ h1 ⟨⟨⟩, hlo, hC1⟩
  have hk1 := KP_hi hk hlo
  refine j_aload_n dL_law_312 rfl ?_
  refine z_to (KP_S hk1).symm ?_
  refine q_call0 dL_law_313 vL_law_35 (s_putUp hk1.1 (gP_gH hk1.1) (KP_zch hk1 hn h5) hI.2.1.1 hI.2.1.2) rfl (by decide)  (Nat.le_of_ble_eq_true rfl) ⟨rfl, rfl⟩ rfl ?_
  rintro _ _ ⟨⟨⟩, rfl⟩
  refine j_icmp_eq dL_law_316 (tgt := 807) rfl (fun _ => ?_) (fun c1 => absurd rfl c1)
  exact law_end hL kk (LI_ch (q := aUp s (aWn s)) hM hH hn hT h7 h5 hk1 ⟨aK_up hM.1, (aOk_up hM).2.2⟩ hC1)
set_option maxRecDepth 4000 in
set_option maxHeartbeats 2000000 in
theorem law_cough {X : Nat × (Nat → Int32)} (hL : X.1 ≤ 2560) {m : Nat} (hmL : m + 5 ≤ X.1) {h : zH} {Q : zQt} (hLI : LI h) (kk : ∀ h', LI h' → zJ X mL_law 0 18 [.ref 1000, .ref 0, .ref 215, .int (nI (m + 5))] [] 222 h' Q) : zJ X mL_law 0 321 [.ref 1000, .ref 0, .ref 215, .int (nI m)] [] 222 h Q := by
  obtain ⟨s, pa, tx, o, nm, sp, hd, n, T, hC, hM, hH, hn, hT, h7, h5, hk⟩ := id hLI
  have hI : aIa s (aNn s) (aWn s) := hM.1.1
  obtain ⟨Kn, -, hKn8, hKn⟩ := hI.2.2.1
  refine j_aload_n dL_law_321 rfl ?_
  refine j_aload_n dL_law_322 rfl ?_
  refine j_iload_n dL_law_323 rfl ?_
  refine j_iconst (v := 1) dL_law_324 (by decide) ?_
  refine j_iadd dL_law_325 ?_
  refine j_sld (x := X.2 ((m + 1))) dL_law_326 rfl (q_in (j := (m + 1)) (by first | rfl | (simp only [z_n, pk_mul, nI_add]; done) | (simp only [z_n, pk_mul, nI_add]; exact pk_sub (by omega)) | (simp only [z_n, pk_mul, nI_add, pk_sub, *]; done)) (by omega) hL) (q_at (j := (m + 1)) (by first | rfl | (simp only [z_n, pk_mul, nI_add]; done) | (simp only [z_n, pk_mul, nI_add]; exact pk_sub (by omega)) | (simp only [z_n, pk_mul, nI_add, pk_sub, *]; done)) (by omega)) ?_
  refine q_call1 dL_law_327 vL_law_36 (o_cough hC hM) rfl (by decide) rfl (Nat.le_of_ble_eq_true rfl) ⟨rfl, rfl⟩ rfl ?_
  rintro _ h1 ⟨⟨⟩, hlo, hC1⟩
  have hk1 := KP_hi hk hlo
  refine j_aload_n dL_law_330 rfl ?_
  refine j_aload_n dL_law_331 rfl ?_
  refine j_iload_n dL_law_332 rfl ?_
  refine j_iconst (v := 1) dL_law_333 (by decide) ?_
  refine j_iadd dL_law_334 ?_
  refine j_sld (x := X.2 ((m + 1))) dL_law_335 rfl (q_in (j := (m + 1)) (by first | rfl | (simp only [z_n, pk_mul, nI_add]; done) | (simp only [z_n, pk_mul, nI_add]; exact pk_sub (by omega)) | (simp only [z_n, pk_mul, nI_add, pk_sub, *]; done)) (by omega) hL) (q_at (j := (m + 1)) (by first | rfl | (simp only [z_n, pk_mul, nI_add]; done) | (simp only [z_n, pk_mul, nI_add]; exact pk_sub (by omega)) | (simp only [z_n, pk_mul, nI_add, pk_sub, *]; done)) (by omega)) ?_
  refine z_to (KP_S hk1).symm ?_
  refine q_call1 dL_law_336 vL_law_40 (s_cough hk1.1 (gP_gH hk1.1) (KP_zch hk1 hn h5) hI.1.1 hI.1.2) rfl (by decide) rfl (Nat.le_of_ble_eq_true rfl) ⟨rfl, rfl⟩ rfl ?_
  rintro _ _ ⟨⟨⟩, rfl⟩
  refine j_icmp_eq dL_law_339 (tgt := 807) rfl (fun _ => ?_) (fun c1 => absurd rfl c1)
  exact law_end hL kk (LI_ch (q := aCough s _) hM hH hn hT h7 h5 hk1 ⟨aK_cough hM.1, (aOk_cough hM).2.2⟩ hC1)
set_option maxRecDepth 4000 in
set_option maxHeartbeats 2000000 in
theorem law_beats {X : Nat × (Nat → Int32)} (hL : X.1 ≤ 2560) {m : Nat} (hmL : m + 5 ≤ X.1) {h : zH} {Q : zQt} (hLI : LI h) (kk : ∀ h', LI h' → zJ X mL_law 0 18 [.ref 1000, .ref 0, .ref 215, .int (nI (m + 5))] [] 222 h' Q) : zJ X mL_law 0 344 [.ref 1000, .ref 0, .ref 215, .int (nI m)] [] 222 h Q := by
  obtain ⟨s, pa, tx, o, nm, sp, hd, n, T, hC, hM, hH, hn, hT, h7, h5, hk⟩ := id hLI
  have hI : aIa s (aNn s) (aWn s) := hM.1.1
  obtain ⟨Kn, -, hKn8, hKn⟩ := hI.2.2.1
  refine j_aload_n dL_law_344 rfl ?_
  refine j_aload_n dL_law_345 rfl ?_
  refine j_iload_n dL_law_346 rfl ?_
  refine j_iconst (v := 1) dL_law_347 (by decide) ?_
  refine j_iadd dL_law_348 ?_
  refine j_sld (x := X.2 ((m + 1))) dL_law_349 rfl (q_in (j := (m + 1)) (by first | rfl | (simp only [z_n, pk_mul, nI_add]; done) | (simp only [z_n, pk_mul, nI_add]; exact pk_sub (by omega)) | (simp only [z_n, pk_mul, nI_add, pk_sub, *]; done)) (by omega) hL) (q_at (j := (m + 1)) (by first | rfl | (simp only [z_n, pk_mul, nI_add]; done) | (simp only [z_n, pk_mul, nI_add]; exact pk_sub (by omega)) | (simp only [z_n, pk_mul, nI_add, pk_sub, *]; done)) (by omega)) ?_
  refine q_call1 dL_law_350 vL_law_41 (o_beats hC hM) rfl (by decide) rfl (Nat.le_of_ble_eq_true rfl) ⟨rfl, rfl⟩ rfl ?_
  rintro _ h1 ⟨⟨⟩, hlo, hC1⟩
  have hk1 := KP_hi hk hlo
  refine j_aload_n dL_law_353 rfl ?_
  refine j_aload_n dL_law_354 rfl ?_
  refine j_iload_n dL_law_355 rfl ?_
  refine j_iconst (v := 1) dL_law_356 (by decide) ?_
  refine j_iadd dL_law_357 ?_
  refine j_sld (x := X.2 ((m + 1))) dL_law_358 rfl (q_in (j := (m + 1)) (by first | rfl | (simp only [z_n, pk_mul, nI_add]; done) | (simp only [z_n, pk_mul, nI_add]; exact pk_sub (by omega)) | (simp only [z_n, pk_mul, nI_add, pk_sub, *]; done)) (by omega) hL) (q_at (j := (m + 1)) (by first | rfl | (simp only [z_n, pk_mul, nI_add]; done) | (simp only [z_n, pk_mul, nI_add]; exact pk_sub (by omega)) | (simp only [z_n, pk_mul, nI_add, pk_sub, *]; done)) (by omega)) ?_
  refine z_to (KP_S hk1).symm ?_
  refine q_call1 dL_law_359 vL_law_44 (s_beats hk1.1 (gP_gH hk1.1) (KP_zch hk1 hn h5) (aIa_ok hI)) rfl (by decide) rfl (Nat.le_of_ble_eq_true rfl) ⟨rfl, rfl⟩ rfl ?_
  rintro _ _ ⟨⟨⟩, rfl⟩
  refine j_icmp_eq dL_law_362 (tgt := 807) rfl (fun _ => ?_) (fun c1 => absurd rfl c1)
  exact law_end hL kk (LI_ch (q := aBeats s (aNn s) _) hM hH hn hT h7 h5 hk1 ⟨aK_beats hM.1, (aOk_beats hM).2.2⟩ hC1)
set_option maxRecDepth 4000 in
set_option maxHeartbeats 2000000 in
theorem law_night {X : Nat × (Nat → Int32)} (hL : X.1 ≤ 2560) {m : Nat} (hmL : m + 5 ≤ X.1) {h : zH} {Q : zQt} (hLI : LI h) (kk : ∀ h', LI h' → zJ X mL_law 0 18 [.ref 1000, .ref 0, .ref 215, .int (nI (m + 5))] [] 222 h' Q) : zJ X mL_law 0 367 [.ref 1000, .ref 0, .ref 215, .int (nI m)] [] 222 h Q := by
  obtain ⟨s, pa, tx, o, nm, sp, hd, n, T, hC, hM, hH, hn, hT, h7, h5, hk⟩ := id hLI
  have hI : aIa s (aNn s) (aWn s) := hM.1.1
  obtain ⟨Kn, -, hKn8, hKn⟩ := hI.2.2.1
  refine j_aload_n dL_law_367 rfl ?_
  refine q_call0 dL_law_368 vL_law_45 (o_night hC hM (sp := aMix s sp (11 * aNn s)) (fun j hj => aMix_lo hj)) rfl (by decide)  (Nat.le_of_ble_eq_true rfl) ⟨rfl, rfl⟩ rfl ?_
  rintro _ h1 ⟨⟨⟩, hlo, hC1⟩
  have hk1 := KP_hi hk hlo
  refine j_aload_n dL_law_371 rfl ?_
  refine z_to (KP_S hk1).symm ?_
  refine q_call0 dL_law_372 vL_law_48 (s_night hk1.1 (gP_gH hk1.1) (KP_zch hk1 hn h5) hI.1.1 hI.1.2 (sp := sp) (by unfold gH; rw [va_up_ne _ _ (by decide), va_up_ne _ _ (by decide)]; exact hk1.2.2.2.2.1)) rfl (by decide)  (Nat.le_of_ble_eq_true rfl) ⟨rfl, rfl⟩ rfl ?_
  rintro _ _ ⟨⟨⟩, rfl⟩
  refine j_icmp_eq dL_law_375 (tgt := 807) rfl (fun _ => ?_) (fun c1 => absurd rfl c1)
  exact law_end hL kk (LI_ngt hM hH hn hT h7 h5 hk1 ⟨aK_ngt hM.1, (aOk_ngt hM).2.2⟩ hC1)
set_option maxRecDepth 4000 in
set_option maxHeartbeats 2000000 in
theorem law_set {X : Nat × (Nat → Int32)} (hL : X.1 ≤ 2560) {m : Nat} (hmL : m + 5 ≤ X.1) {h : zH} {Q : zQt} (hLI : LI h) (kk : ∀ h', LI h' → zJ X mL_law 0 18 [.ref 1000, .ref 0, .ref 215, .int (nI (m + 5))] [] 222 h' Q) : zJ X mL_law 0 380 [.ref 1000, .ref 0, .ref 215, .int (nI m)] [] 222 h Q := by
  obtain ⟨s, pa, tx, o, nm, sp, hd, n, T, hC, hM, hH, hn, hT, h7, h5, hk⟩ := id hLI
  have hI : aIa s (aNn s) (aWn s) := hM.1.1
  obtain ⟨Kn, -, hKn8, hKn⟩ := hI.2.2.1
  refine j_aload_n dL_law_380 rfl ?_
  refine j_aload_n dL_law_381 rfl ?_
  refine j_iload_n dL_law_382 rfl ?_
  refine j_iconst (v := 1) dL_law_383 (by decide) ?_
  refine j_iadd dL_law_384 ?_
  refine j_sld (x := X.2 ((m + 1))) dL_law_385 rfl (q_in (j := (m + 1)) (by first | rfl | (simp only [z_n, pk_mul, nI_add]; done) | (simp only [z_n, pk_mul, nI_add]; exact pk_sub (by omega)) | (simp only [z_n, pk_mul, nI_add, pk_sub, *]; done)) (by omega) hL) (q_at (j := (m + 1)) (by first | rfl | (simp only [z_n, pk_mul, nI_add]; done) | (simp only [z_n, pk_mul, nI_add]; exact pk_sub (by omega)) | (simp only [z_n, pk_mul, nI_add, pk_sub, *]; done)) (by omega)) ?_
  refine j_aload_n dL_law_386 rfl ?_
  refine j_iload_n dL_law_387 rfl ?_
  refine j_iconst (v := 2) dL_law_388 (by decide) ?_
  refine j_iadd dL_law_389 ?_
  refine j_sld (x := X.2 ((m + 2))) dL_law_390 rfl (q_in (j := (m + 2)) (by first | rfl | (simp only [z_n, pk_mul, nI_add]; done) | (simp only [z_n, pk_mul, nI_add]; exact pk_sub (by omega)) | (simp only [z_n, pk_mul, nI_add, pk_sub, *]; done)) (by omega) hL) (q_at (j := (m + 2)) (by first | rfl | (simp only [z_n, pk_mul, nI_add]; done) | (simp only [z_n, pk_mul, nI_add]; exact pk_sub (by omega)) | (simp only [z_n, pk_mul, nI_add, pk_sub, *]; done)) (by omega)) ?_
  refine q_call2 dL_law_391 vL_law_49 (o_set hC hM) rfl (by decide) rfl rfl (Nat.le_of_ble_eq_true rfl) ⟨rfl, rfl⟩ rfl ?_
  rintro _ h1 ⟨⟨⟩, hlo, hC1⟩
  have hk1 := KP_hi hk hlo
  refine j_aload_n dL_law_394 rfl ?_
  refine j_aload_n dL_law_395 rfl ?_
  refine j_iload_n dL_law_396 rfl ?_
  refine j_iconst (v := 1) dL_law_397 (by decide) ?_
  refine j_iadd dL_law_398 ?_
  refine j_sld (x := X.2 ((m + 1))) dL_law_399 rfl (q_in (j := (m + 1)) (by first | rfl | (simp only [z_n, pk_mul, nI_add]; done) | (simp only [z_n, pk_mul, nI_add]; exact pk_sub (by omega)) | (simp only [z_n, pk_mul, nI_add, pk_sub, *]; done)) (by omega) hL) (q_at (j := (m + 1)) (by first | rfl | (simp only [z_n, pk_mul, nI_add]; done) | (simp only [z_n, pk_mul, nI_add]; exact pk_sub (by omega)) | (simp only [z_n, pk_mul, nI_add, pk_sub, *]; done)) (by omega)) ?_
  refine j_aload_n dL_law_400 rfl ?_
  refine j_iload_n dL_law_401 rfl ?_
  refine j_iconst (v := 2) dL_law_402 (by decide) ?_
  refine j_iadd dL_law_403 ?_
  refine j_sld (x := X.2 ((m + 2))) dL_law_404 rfl (q_in (j := (m + 2)) (by first | rfl | (simp only [z_n, pk_mul, nI_add]; done) | (simp only [z_n, pk_mul, nI_add]; exact pk_sub (by omega)) | (simp only [z_n, pk_mul, nI_add, pk_sub, *]; done)) (by omega) hL) (q_at (j := (m + 2)) (by first | rfl | (simp only [z_n, pk_mul, nI_add]; done) | (simp only [z_n, pk_mul, nI_add]; exact pk_sub (by omega)) | (simp only [z_n, pk_mul, nI_add, pk_sub, *]; done)) (by omega)) ?_
  refine z_to (KP_S hk1).symm ?_
  refine q_call2 dL_law_405 vL_law_52 (s_set hk1.1 (gP_gH hk1.1) (KP_zch hk1 hn h5)) rfl (by decide) rfl rfl (Nat.le_of_ble_eq_true rfl) ⟨rfl, rfl⟩ rfl ?_
  rintro _ _ ⟨⟨⟩, rfl⟩
  refine j_icmp_eq dL_law_408 (tgt := 807) rfl (fun _ => ?_) (fun c1 => absurd rfl c1)
  exact law_end hL kk (LI_ch (q := aSet s _ _) hM hH hn hT h7 h5 hk1 ⟨aK_set hM.1, (aOk_set hM).2.2⟩ hC1)
set_option maxRecDepth 4000 in
set_option maxHeartbeats 2000000 in
theorem law_bidderOf {X : Nat × (Nat → Int32)} (hL : X.1 ≤ 2560) {m : Nat} (hmL : m + 5 ≤ X.1) {h : zH} {Q : zQt} (hLI : LI h) (kk : ∀ h', LI h' → zJ X mL_law 0 18 [.ref 1000, .ref 0, .ref 215, .int (nI (m + 5))] [] 222 h' Q) : zJ X mL_law 0 413 [.ref 1000, .ref 0, .ref 215, .int (nI m)] [] 222 h Q := by
  obtain ⟨s, pa, tx, o, nm, sp, hd, n, T, hC, hM, hH, hn, hT, h7, h5, hk⟩ := id hLI
  have hI : aIa s (aNn s) (aWn s) := hM.1.1
  obtain ⟨Kn, -, hKn8, hKn⟩ := hI.2.2.1
  refine j_aload_n dL_law_413 rfl ?_
  refine j_aload_n dL_law_414 rfl ?_
  refine j_iload_n dL_law_415 rfl ?_
  refine j_iconst (v := 1) dL_law_416 (by decide) ?_
  refine j_iadd dL_law_417 ?_
  refine j_sld (x := X.2 ((m + 1))) dL_law_418 rfl (q_in (j := (m + 1)) (by first | rfl | (simp only [z_n, pk_mul, nI_add]; done) | (simp only [z_n, pk_mul, nI_add]; exact pk_sub (by omega)) | (simp only [z_n, pk_mul, nI_add, pk_sub, *]; done)) (by omega) hL) (q_at (j := (m + 1)) (by first | rfl | (simp only [z_n, pk_mul, nI_add]; done) | (simp only [z_n, pk_mul, nI_add]; exact pk_sub (by omega)) | (simp only [z_n, pk_mul, nI_add, pk_sub, *]; done)) (by omega)) ?_
  refine j_aload_n dL_law_419 rfl ?_
  refine j_iload_n dL_law_420 rfl ?_
  refine j_iconst (v := 2) dL_law_421 (by decide) ?_
  refine j_iadd dL_law_422 ?_
  refine j_sld (x := X.2 ((m + 2))) dL_law_423 rfl (q_in (j := (m + 2)) (by first | rfl | (simp only [z_n, pk_mul, nI_add]; done) | (simp only [z_n, pk_mul, nI_add]; exact pk_sub (by omega)) | (simp only [z_n, pk_mul, nI_add, pk_sub, *]; done)) (by omega) hL) (q_at (j := (m + 2)) (by first | rfl | (simp only [z_n, pk_mul, nI_add]; done) | (simp only [z_n, pk_mul, nI_add]; exact pk_sub (by omega)) | (simp only [z_n, pk_mul, nI_add, pk_sub, *]; done)) (by omega)) ?_
  refine q_call2 dL_law_424 vL_law_53 (o_bidderOf hC hM) rfl (by decide) rfl rfl (Nat.le_of_ble_eq_true rfl) ⟨rfl, rfl⟩ rfl ?_
  rintro _ _ ⟨⟨⟩, rfl⟩
  have hk1 := hk
  refine j_aload_n dL_law_427 rfl ?_
  refine j_aload_n dL_law_428 rfl ?_
  refine j_iload_n dL_law_429 rfl ?_
  refine j_iconst (v := 1) dL_law_430 (by decide) ?_
  refine j_iadd dL_law_431 ?_
  refine j_sld (x := X.2 ((m + 1))) dL_law_432 rfl (q_in (j := (m + 1)) (by first | rfl | (simp only [z_n, pk_mul, nI_add]; done) | (simp only [z_n, pk_mul, nI_add]; exact pk_sub (by omega)) | (simp only [z_n, pk_mul, nI_add, pk_sub, *]; done)) (by omega) hL) (q_at (j := (m + 1)) (by first | rfl | (simp only [z_n, pk_mul, nI_add]; done) | (simp only [z_n, pk_mul, nI_add]; exact pk_sub (by omega)) | (simp only [z_n, pk_mul, nI_add, pk_sub, *]; done)) (by omega)) ?_
  refine j_aload_n dL_law_433 rfl ?_
  refine j_iload_n dL_law_434 rfl ?_
  refine j_iconst (v := 2) dL_law_435 (by decide) ?_
  refine j_iadd dL_law_436 ?_
  refine j_sld (x := X.2 ((m + 2))) dL_law_437 rfl (q_in (j := (m + 2)) (by first | rfl | (simp only [z_n, pk_mul, nI_add]; done) | (simp only [z_n, pk_mul, nI_add]; exact pk_sub (by omega)) | (simp only [z_n, pk_mul, nI_add, pk_sub, *]; done)) (by omega) hL) (q_at (j := (m + 2)) (by first | rfl | (simp only [z_n, pk_mul, nI_add]; done) | (simp only [z_n, pk_mul, nI_add]; exact pk_sub (by omega)) | (simp only [z_n, pk_mul, nI_add, pk_sub, *]; done)) (by omega)) ?_
  refine z_to (KP_S hk1).symm ?_
  refine q_call2 dL_law_438 vL_law_56 (s_bidderOf hk1.1 hI.1.1 hI.1.2) rfl (by decide) rfl rfl (Nat.le_of_ble_eq_true rfl) ⟨rfl, rfl⟩ rfl ?_
  rintro _ _ ⟨⟨⟩, rfl⟩
  rw [KP_S hk1]
  refine j_icmp_eq dL_law_441 (tgt := 807) rfl (fun _ => ?_) (fun c1 => absurd rfl c1)
  exact law_end hL kk (hLI)
set_option maxRecDepth 4000 in
set_option maxHeartbeats 2000000 in
theorem law_at {X : Nat × (Nat → Int32)} (hL : X.1 ≤ 2560) {m : Nat} (hmL : m + 5 ≤ X.1) {h : zH} {Q : zQt} (hLI : LI h) (kk : ∀ h', LI h' → zJ X mL_law 0 18 [.ref 1000, .ref 0, .ref 215, .int (nI (m + 5))] [] 222 h' Q) : zJ X mL_law 0 446 [.ref 1000, .ref 0, .ref 215, .int (nI m)] [] 222 h Q := by
  obtain ⟨s, pa, tx, o, nm, sp, hd, n, T, hC, hM, hH, hn, hT, h7, h5, hk⟩ := id hLI
  have hI : aIa s (aNn s) (aWn s) := hM.1.1
  obtain ⟨Kn, -, hKn8, hKn⟩ := hI.2.2.1
  refine j_aload_n dL_law_446 rfl ?_
  refine j_aload_n dL_law_447 rfl ?_
  refine j_iload_n dL_law_448 rfl ?_
  refine j_iconst (v := 1) dL_law_449 (by decide) ?_
  refine j_iadd dL_law_450 ?_
  refine j_sld (x := X.2 ((m + 1))) dL_law_451 rfl (q_in (j := (m + 1)) (by first | rfl | (simp only [z_n, pk_mul, nI_add]; done) | (simp only [z_n, pk_mul, nI_add]; exact pk_sub (by omega)) | (simp only [z_n, pk_mul, nI_add, pk_sub, *]; done)) (by omega) hL) (q_at (j := (m + 1)) (by first | rfl | (simp only [z_n, pk_mul, nI_add]; done) | (simp only [z_n, pk_mul, nI_add]; exact pk_sub (by omega)) | (simp only [z_n, pk_mul, nI_add, pk_sub, *]; done)) (by omega)) ?_
  refine j_aload_n dL_law_452 rfl ?_
  refine j_iload_n dL_law_453 rfl ?_
  refine j_iconst (v := 2) dL_law_454 (by decide) ?_
  refine j_iadd dL_law_455 ?_
  refine j_sld (x := X.2 ((m + 2))) dL_law_456 rfl (q_in (j := (m + 2)) (by first | rfl | (simp only [z_n, pk_mul, nI_add]; done) | (simp only [z_n, pk_mul, nI_add]; exact pk_sub (by omega)) | (simp only [z_n, pk_mul, nI_add, pk_sub, *]; done)) (by omega) hL) (q_at (j := (m + 2)) (by first | rfl | (simp only [z_n, pk_mul, nI_add]; done) | (simp only [z_n, pk_mul, nI_add]; exact pk_sub (by omega)) | (simp only [z_n, pk_mul, nI_add, pk_sub, *]; done)) (by omega)) ?_
  refine q_call2 dL_law_457 vL_law_57 (o_at hC hM) rfl (by decide) rfl rfl (Nat.le_of_ble_eq_true rfl) ⟨rfl, rfl⟩ rfl ?_
  rintro _ _ ⟨⟨⟩, rfl⟩
  have hk1 := hk
  refine j_aload_n dL_law_460 rfl ?_
  refine j_aload_n dL_law_461 rfl ?_
  refine j_iload_n dL_law_462 rfl ?_
  refine j_iconst (v := 1) dL_law_463 (by decide) ?_
  refine j_iadd dL_law_464 ?_
  refine j_sld (x := X.2 ((m + 1))) dL_law_465 rfl (q_in (j := (m + 1)) (by first | rfl | (simp only [z_n, pk_mul, nI_add]; done) | (simp only [z_n, pk_mul, nI_add]; exact pk_sub (by omega)) | (simp only [z_n, pk_mul, nI_add, pk_sub, *]; done)) (by omega) hL) (q_at (j := (m + 1)) (by first | rfl | (simp only [z_n, pk_mul, nI_add]; done) | (simp only [z_n, pk_mul, nI_add]; exact pk_sub (by omega)) | (simp only [z_n, pk_mul, nI_add, pk_sub, *]; done)) (by omega)) ?_
  refine j_aload_n dL_law_466 rfl ?_
  refine j_iload_n dL_law_467 rfl ?_
  refine j_iconst (v := 2) dL_law_468 (by decide) ?_
  refine j_iadd dL_law_469 ?_
  refine j_sld (x := X.2 ((m + 2))) dL_law_470 rfl (q_in (j := (m + 2)) (by first | rfl | (simp only [z_n, pk_mul, nI_add]; done) | (simp only [z_n, pk_mul, nI_add]; exact pk_sub (by omega)) | (simp only [z_n, pk_mul, nI_add, pk_sub, *]; done)) (by omega) hL) (q_at (j := (m + 2)) (by first | rfl | (simp only [z_n, pk_mul, nI_add]; done) | (simp only [z_n, pk_mul, nI_add]; exact pk_sub (by omega)) | (simp only [z_n, pk_mul, nI_add, pk_sub, *]; done)) (by omega)) ?_
  refine z_to (KP_S hk1).symm ?_
  refine q_call2 dL_law_471 vL_law_60 (s_at hk1.1 hI.1.1 hI.1.2) rfl (by decide) rfl rfl (Nat.le_of_ble_eq_true rfl) ⟨rfl, rfl⟩ rfl ?_
  rintro _ _ ⟨⟨⟩, rfl⟩
  rw [KP_S hk1]
  refine j_icmp_eq dL_law_474 (tgt := 807) rfl (fun _ => ?_) (fun c1 => absurd rfl c1)
  exact law_end hL kk (hLI)
set_option maxRecDepth 4000 in
set_option maxHeartbeats 2000000 in
theorem law_up {X : Nat × (Nat → Int32)} (hL : X.1 ≤ 2560) {m : Nat} (hmL : m + 5 ≤ X.1) {h : zH} {Q : zQt} (hLI : LI h) (kk : ∀ h', LI h' → zJ X mL_law 0 18 [.ref 1000, .ref 0, .ref 215, .int (nI (m + 5))] [] 222 h' Q) : zJ X mL_law 0 479 [.ref 1000, .ref 0, .ref 215, .int (nI m)] [] 222 h Q := by
  obtain ⟨s, pa, tx, o, nm, sp, hd, n, T, hC, hM, hH, hn, hT, h7, h5, hk⟩ := id hLI
  have hI : aIa s (aNn s) (aWn s) := hM.1.1
  obtain ⟨Kn, -, hKn8, hKn⟩ := hI.2.2.1
  refine j_aload_n dL_law_479 rfl ?_
  refine j_aload_n dL_law_480 rfl ?_
  refine j_iload_n dL_law_481 rfl ?_
  refine j_iconst (v := 1) dL_law_482 (by decide) ?_
  refine j_iadd dL_law_483 ?_
  refine j_sld (x := X.2 ((m + 1))) dL_law_484 rfl (q_in (j := (m + 1)) (by first | rfl | (simp only [z_n, pk_mul, nI_add]; done) | (simp only [z_n, pk_mul, nI_add]; exact pk_sub (by omega)) | (simp only [z_n, pk_mul, nI_add, pk_sub, *]; done)) (by omega) hL) (q_at (j := (m + 1)) (by first | rfl | (simp only [z_n, pk_mul, nI_add]; done) | (simp only [z_n, pk_mul, nI_add]; exact pk_sub (by omega)) | (simp only [z_n, pk_mul, nI_add, pk_sub, *]; done)) (by omega)) ?_
  refine q_call1 dL_law_485 vL_law_61 (o_up hC hM) rfl (by decide) rfl (Nat.le_of_ble_eq_true rfl) ⟨rfl, rfl⟩ rfl ?_
  rintro _ _ ⟨⟨⟩, rfl⟩
  have hk1 := hk
  refine j_aload_n dL_law_488 rfl ?_
  refine j_aload_n dL_law_489 rfl ?_
  refine j_iload_n dL_law_490 rfl ?_
  refine j_iconst (v := 1) dL_law_491 (by decide) ?_
  refine j_iadd dL_law_492 ?_
  refine j_sld (x := X.2 ((m + 1))) dL_law_493 rfl (q_in (j := (m + 1)) (by first | rfl | (simp only [z_n, pk_mul, nI_add]; done) | (simp only [z_n, pk_mul, nI_add]; exact pk_sub (by omega)) | (simp only [z_n, pk_mul, nI_add, pk_sub, *]; done)) (by omega) hL) (q_at (j := (m + 1)) (by first | rfl | (simp only [z_n, pk_mul, nI_add]; done) | (simp only [z_n, pk_mul, nI_add]; exact pk_sub (by omega)) | (simp only [z_n, pk_mul, nI_add, pk_sub, *]; done)) (by omega)) ?_
  refine z_to (KP_S hk1).symm ?_
  refine q_call1 dL_law_494 vL_law_64 (s_up hk1.1) rfl (by decide) rfl (Nat.le_of_ble_eq_true rfl) ⟨rfl, rfl⟩ rfl ?_
  rintro _ _ ⟨⟨⟩, rfl⟩
  rw [KP_S hk1]
  refine j_icmp_eq dL_law_497 (tgt := 807) rfl (fun _ => ?_) (fun c1 => absurd rfl c1)
  exact law_end hL kk (hLI)
set_option maxRecDepth 4000 in
set_option maxHeartbeats 2000000 in
theorem law_waiting {X : Nat × (Nat → Int32)} (hL : X.1 ≤ 2560) {m : Nat} (hmL : m + 5 ≤ X.1) {h : zH} {Q : zQt} (hLI : LI h) (kk : ∀ h', LI h' → zJ X mL_law 0 18 [.ref 1000, .ref 0, .ref 215, .int (nI (m + 5))] [] 222 h' Q) : zJ X mL_law 0 502 [.ref 1000, .ref 0, .ref 215, .int (nI m)] [] 222 h Q := by
  obtain ⟨s, pa, tx, o, nm, sp, hd, n, T, hC, hM, hH, hn, hT, h7, h5, hk⟩ := id hLI
  have hI : aIa s (aNn s) (aWn s) := hM.1.1
  obtain ⟨Kn, -, hKn8, hKn⟩ := hI.2.2.1
  refine j_aload_n dL_law_502 rfl ?_
  refine j_aload_n dL_law_503 rfl ?_
  refine j_iload_n dL_law_504 rfl ?_
  refine j_iconst (v := 1) dL_law_505 (by decide) ?_
  refine j_iadd dL_law_506 ?_
  refine j_sld (x := X.2 ((m + 1))) dL_law_507 rfl (q_in (j := (m + 1)) (by first | rfl | (simp only [z_n, pk_mul, nI_add]; done) | (simp only [z_n, pk_mul, nI_add]; exact pk_sub (by omega)) | (simp only [z_n, pk_mul, nI_add, pk_sub, *]; done)) (by omega) hL) (q_at (j := (m + 1)) (by first | rfl | (simp only [z_n, pk_mul, nI_add]; done) | (simp only [z_n, pk_mul, nI_add]; exact pk_sub (by omega)) | (simp only [z_n, pk_mul, nI_add, pk_sub, *]; done)) (by omega)) ?_
  refine j_aload_n dL_law_508 rfl ?_
  refine j_iload_n dL_law_509 rfl ?_
  refine j_iconst (v := 2) dL_law_510 (by decide) ?_
  refine j_iadd dL_law_511 ?_
  refine j_sld (x := X.2 ((m + 2))) dL_law_512 rfl (q_in (j := (m + 2)) (by first | rfl | (simp only [z_n, pk_mul, nI_add]; done) | (simp only [z_n, pk_mul, nI_add]; exact pk_sub (by omega)) | (simp only [z_n, pk_mul, nI_add, pk_sub, *]; done)) (by omega) hL) (q_at (j := (m + 2)) (by first | rfl | (simp only [z_n, pk_mul, nI_add]; done) | (simp only [z_n, pk_mul, nI_add]; exact pk_sub (by omega)) | (simp only [z_n, pk_mul, nI_add, pk_sub, *]; done)) (by omega)) ?_
  refine q_call2 dL_law_513 vL_law_65 (o_waiting hC hM) rfl (by decide) rfl rfl (Nat.le_of_ble_eq_true rfl) ⟨rfl, rfl⟩ rfl ?_
  rintro _ _ ⟨⟨⟩, rfl⟩
  have hk1 := hk
  refine j_aload_n dL_law_516 rfl ?_
  refine j_aload_n dL_law_517 rfl ?_
  refine j_iload_n dL_law_518 rfl ?_
  refine j_iconst (v := 1) dL_law_519 (by decide) ?_
  refine j_iadd dL_law_520 ?_
  refine j_sld (x := X.2 ((m + 1))) dL_law_521 rfl (q_in (j := (m + 1)) (by first | rfl | (simp only [z_n, pk_mul, nI_add]; done) | (simp only [z_n, pk_mul, nI_add]; exact pk_sub (by omega)) | (simp only [z_n, pk_mul, nI_add, pk_sub, *]; done)) (by omega) hL) (q_at (j := (m + 1)) (by first | rfl | (simp only [z_n, pk_mul, nI_add]; done) | (simp only [z_n, pk_mul, nI_add]; exact pk_sub (by omega)) | (simp only [z_n, pk_mul, nI_add, pk_sub, *]; done)) (by omega)) ?_
  refine j_aload_n dL_law_522 rfl ?_
  refine j_iload_n dL_law_523 rfl ?_
  refine j_iconst (v := 2) dL_law_524 (by decide) ?_
  refine j_iadd dL_law_525 ?_
  refine j_sld (x := X.2 ((m + 2))) dL_law_526 rfl (q_in (j := (m + 2)) (by first | rfl | (simp only [z_n, pk_mul, nI_add]; done) | (simp only [z_n, pk_mul, nI_add]; exact pk_sub (by omega)) | (simp only [z_n, pk_mul, nI_add, pk_sub, *]; done)) (by omega) hL) (q_at (j := (m + 2)) (by first | rfl | (simp only [z_n, pk_mul, nI_add]; done) | (simp only [z_n, pk_mul, nI_add]; exact pk_sub (by omega)) | (simp only [z_n, pk_mul, nI_add, pk_sub, *]; done)) (by omega)) ?_
  refine z_to (KP_S hk1).symm ?_
  refine q_call2 dL_law_527 vL_law_68 (s_waiting hk1.1 hI.2.1.1 hI.2.1.2) rfl (by decide) rfl rfl (Nat.le_of_ble_eq_true rfl) ⟨rfl, rfl⟩ rfl ?_
  rintro _ _ ⟨⟨⟩, rfl⟩
  rw [KP_S hk1]
  refine j_icmp_eq dL_law_530 (tgt := 807) rfl (fun _ => ?_) (fun c1 => absurd rfl c1)
  exact law_end hL kk (hLI)
set_option maxRecDepth 4000 in
set_option maxHeartbeats 2000000 in
theorem law_book {X : Nat × (Nat → Int32)} (hL : X.1 ≤ 2560) {m : Nat} (hmL : m + 5 ≤ X.1) {h : zH} {Q : zQt} (hLI : LI h) (kk : ∀ h', LI h' → zJ X mL_law 0 18 [.ref 1000, .ref 0, .ref 215, .int (nI (m + 5))] [] 222 h' Q) : zJ X mL_law 0 535 [.ref 1000, .ref 0, .ref 215, .int (nI m)] [] 222 h Q := by
  obtain ⟨s, pa, tx, o, nm, sp, hd, n, T, hC, hM, hH, hn, hT, h7, h5, hk⟩ := id hLI
  have hI : aIa s (aNn s) (aWn s) := hM.1.1
  obtain ⟨Kn, -, hKn8, hKn⟩ := hI.2.2.1
  refine j_aload_n dL_law_535 rfl ?_
  refine j_aload_n dL_law_536 rfl ?_
  refine j_iload_n dL_law_537 rfl ?_
  refine j_iconst (v := 1) dL_law_538 (by decide) ?_
  refine j_iadd dL_law_539 ?_
  refine j_sld (x := X.2 ((m + 1))) dL_law_540 rfl (q_in (j := (m + 1)) (by first | rfl | (simp only [z_n, pk_mul, nI_add]; done) | (simp only [z_n, pk_mul, nI_add]; exact pk_sub (by omega)) | (simp only [z_n, pk_mul, nI_add, pk_sub, *]; done)) (by omega) hL) (q_at (j := (m + 1)) (by first | rfl | (simp only [z_n, pk_mul, nI_add]; done) | (simp only [z_n, pk_mul, nI_add]; exact pk_sub (by omega)) | (simp only [z_n, pk_mul, nI_add, pk_sub, *]; done)) (by omega)) ?_
  refine j_aload_n dL_law_541 rfl ?_
  refine j_iload_n dL_law_542 rfl ?_
  refine j_iconst (v := 2) dL_law_543 (by decide) ?_
  refine j_iadd dL_law_544 ?_
  refine j_sld (x := X.2 ((m + 2))) dL_law_545 rfl (q_in (j := (m + 2)) (by first | rfl | (simp only [z_n, pk_mul, nI_add]; done) | (simp only [z_n, pk_mul, nI_add]; exact pk_sub (by omega)) | (simp only [z_n, pk_mul, nI_add, pk_sub, *]; done)) (by omega) hL) (q_at (j := (m + 2)) (by first | rfl | (simp only [z_n, pk_mul, nI_add]; done) | (simp only [z_n, pk_mul, nI_add]; exact pk_sub (by omega)) | (simp only [z_n, pk_mul, nI_add, pk_sub, *]; done)) (by omega)) ?_
  refine q_call2 dL_law_546 vL_law_69 (o_book hC hM) rfl (by decide) rfl rfl (Nat.le_of_ble_eq_true rfl) ⟨rfl, rfl⟩ rfl ?_
  rintro _ _ ⟨⟨⟩, rfl⟩
  have hk1 := hk
  refine j_aload_n dL_law_549 rfl ?_
  refine j_aload_n dL_law_550 rfl ?_
  refine j_iload_n dL_law_551 rfl ?_
  refine j_iconst (v := 1) dL_law_552 (by decide) ?_
  refine j_iadd dL_law_553 ?_
  refine j_sld (x := X.2 ((m + 1))) dL_law_554 rfl (q_in (j := (m + 1)) (by first | rfl | (simp only [z_n, pk_mul, nI_add]; done) | (simp only [z_n, pk_mul, nI_add]; exact pk_sub (by omega)) | (simp only [z_n, pk_mul, nI_add, pk_sub, *]; done)) (by omega) hL) (q_at (j := (m + 1)) (by first | rfl | (simp only [z_n, pk_mul, nI_add]; done) | (simp only [z_n, pk_mul, nI_add]; exact pk_sub (by omega)) | (simp only [z_n, pk_mul, nI_add, pk_sub, *]; done)) (by omega)) ?_
  refine j_aload_n dL_law_555 rfl ?_
  refine j_iload_n dL_law_556 rfl ?_
  refine j_iconst (v := 2) dL_law_557 (by decide) ?_
  refine j_iadd dL_law_558 ?_
  refine j_sld (x := X.2 ((m + 2))) dL_law_559 rfl (q_in (j := (m + 2)) (by first | rfl | (simp only [z_n, pk_mul, nI_add]; done) | (simp only [z_n, pk_mul, nI_add]; exact pk_sub (by omega)) | (simp only [z_n, pk_mul, nI_add, pk_sub, *]; done)) (by omega) hL) (q_at (j := (m + 2)) (by first | rfl | (simp only [z_n, pk_mul, nI_add]; done) | (simp only [z_n, pk_mul, nI_add]; exact pk_sub (by omega)) | (simp only [z_n, pk_mul, nI_add, pk_sub, *]; done)) (by omega)) ?_
  refine z_to (KP_S hk1).symm ?_
  refine q_call2 dL_law_560 vL_law_72 (s_book hk1.1 hKn hKn8) rfl (by decide) rfl rfl (Nat.le_of_ble_eq_true rfl) ⟨rfl, rfl⟩ rfl ?_
  rintro _ _ ⟨⟨⟩, rfl⟩
  rw [KP_S hk1]
  refine j_icmp_eq dL_law_563 (tgt := 807) rfl (fun _ => ?_) (fun c1 => absurd rfl c1)
  exact law_end hL kk (hLI)
set_option maxRecDepth 4000 in
set_option maxHeartbeats 2000000 in
theorem law_why {X : Nat × (Nat → Int32)} (hL : X.1 ≤ 2560) {m : Nat} (hmL : m + 5 ≤ X.1) {h : zH} {Q : zQt} (hLI : LI h) (kk : ∀ h', LI h' → zJ X mL_law 0 18 [.ref 1000, .ref 0, .ref 215, .int (nI (m + 5))] [] 222 h' Q) : zJ X mL_law 0 568 [.ref 1000, .ref 0, .ref 215, .int (nI m)] [] 222 h Q := by
  obtain ⟨s, pa, tx, o, nm, sp, hd, n, T, hC, hM, hH, hn, hT, h7, h5, hk⟩ := id hLI
  have hI : aIa s (aNn s) (aWn s) := hM.1.1
  obtain ⟨Kn, -, hKn8, hKn⟩ := hI.2.2.1
  refine j_aload_n dL_law_568 rfl ?_
  refine j_aload_n dL_law_569 rfl ?_
  refine j_iload_n dL_law_570 rfl ?_
  refine j_iconst (v := 1) dL_law_571 (by decide) ?_
  refine j_iadd dL_law_572 ?_
  refine j_sld (x := X.2 ((m + 1))) dL_law_573 rfl (q_in (j := (m + 1)) (by first | rfl | (simp only [z_n, pk_mul, nI_add]; done) | (simp only [z_n, pk_mul, nI_add]; exact pk_sub (by omega)) | (simp only [z_n, pk_mul, nI_add, pk_sub, *]; done)) (by omega) hL) (q_at (j := (m + 1)) (by first | rfl | (simp only [z_n, pk_mul, nI_add]; done) | (simp only [z_n, pk_mul, nI_add]; exact pk_sub (by omega)) | (simp only [z_n, pk_mul, nI_add, pk_sub, *]; done)) (by omega)) ?_
  refine q_call1 dL_law_574 vL_law_73 (o_why hC hM) rfl (by decide) rfl (Nat.le_of_ble_eq_true rfl) ⟨rfl, rfl⟩ rfl ?_
  rintro _ _ ⟨⟨⟩, rfl⟩
  have hk1 := hk
  refine j_aload_n dL_law_577 rfl ?_
  refine j_aload_n dL_law_578 rfl ?_
  refine j_iload_n dL_law_579 rfl ?_
  refine j_iconst (v := 1) dL_law_580 (by decide) ?_
  refine j_iadd dL_law_581 ?_
  refine j_sld (x := X.2 ((m + 1))) dL_law_582 rfl (q_in (j := (m + 1)) (by first | rfl | (simp only [z_n, pk_mul, nI_add]; done) | (simp only [z_n, pk_mul, nI_add]; exact pk_sub (by omega)) | (simp only [z_n, pk_mul, nI_add, pk_sub, *]; done)) (by omega) hL) (q_at (j := (m + 1)) (by first | rfl | (simp only [z_n, pk_mul, nI_add]; done) | (simp only [z_n, pk_mul, nI_add]; exact pk_sub (by omega)) | (simp only [z_n, pk_mul, nI_add, pk_sub, *]; done)) (by omega)) ?_
  refine z_to (KP_S hk1).symm ?_
  refine q_call1 dL_law_583 vL_law_76 (s_why hk1.1 hI.1.1 hI.1.2) rfl (by decide) rfl (Nat.le_of_ble_eq_true rfl) ⟨rfl, rfl⟩ rfl ?_
  rintro _ _ ⟨⟨⟩, rfl⟩
  rw [KP_S hk1]
  refine j_icmp_eq dL_law_586 (tgt := 807) rfl (fun _ => ?_) (fun c1 => absurd rfl c1)
  exact law_end hL kk (hLI)
set_option maxRecDepth 4000 in
set_option maxHeartbeats 2000000 in
theorem law_ifBeats {X : Nat × (Nat → Int32)} (hL : X.1 ≤ 2560) {m : Nat} (hmL : m + 5 ≤ X.1) {h : zH} {Q : zQt} (hLI : LI h) (kk : ∀ h', LI h' → zJ X mL_law 0 18 [.ref 1000, .ref 0, .ref 215, .int (nI (m + 5))] [] 222 h' Q) : zJ X mL_law 0 591 [.ref 1000, .ref 0, .ref 215, .int (nI m)] [] 222 h Q := by
  obtain ⟨s, pa, tx, o, nm, sp, hd, n, T, hC, hM, hH, hn, hT, h7, h5, hk⟩ := id hLI
  have hI : aIa s (aNn s) (aWn s) := hM.1.1
  obtain ⟨Kn, -, hKn8, hKn⟩ := hI.2.2.1
  refine j_aload_n dL_law_591 rfl ?_
  refine j_aload_n dL_law_592 rfl ?_
  refine j_iload_n dL_law_593 rfl ?_
  refine j_iconst (v := 1) dL_law_594 (by decide) ?_
  refine j_iadd dL_law_595 ?_
  refine j_sld (x := X.2 ((m + 1))) dL_law_596 rfl (q_in (j := (m + 1)) (by first | rfl | (simp only [z_n, pk_mul, nI_add]; done) | (simp only [z_n, pk_mul, nI_add]; exact pk_sub (by omega)) | (simp only [z_n, pk_mul, nI_add, pk_sub, *]; done)) (by omega) hL) (q_at (j := (m + 1)) (by first | rfl | (simp only [z_n, pk_mul, nI_add]; done) | (simp only [z_n, pk_mul, nI_add]; exact pk_sub (by omega)) | (simp only [z_n, pk_mul, nI_add, pk_sub, *]; done)) (by omega)) ?_
  refine j_aload_n dL_law_597 rfl ?_
  refine j_iload_n dL_law_598 rfl ?_
  refine j_iconst (v := 2) dL_law_599 (by decide) ?_
  refine j_iadd dL_law_600 ?_
  refine j_sld (x := X.2 ((m + 2))) dL_law_601 rfl (q_in (j := (m + 2)) (by first | rfl | (simp only [z_n, pk_mul, nI_add]; done) | (simp only [z_n, pk_mul, nI_add]; exact pk_sub (by omega)) | (simp only [z_n, pk_mul, nI_add, pk_sub, *]; done)) (by omega) hL) (q_at (j := (m + 2)) (by first | rfl | (simp only [z_n, pk_mul, nI_add]; done) | (simp only [z_n, pk_mul, nI_add]; exact pk_sub (by omega)) | (simp only [z_n, pk_mul, nI_add, pk_sub, *]; done)) (by omega)) ?_
  refine q_call2 dL_law_602 vL_law_77 (o_ifBeats hC hM) rfl (by decide) rfl rfl (Nat.le_of_ble_eq_true rfl) ⟨rfl, rfl⟩ rfl ?_
  rintro _ h1 ⟨⟨⟩, hlo, hC1⟩
  have hk1 := KP_hi hk hlo
  refine j_aload_n dL_law_605 rfl ?_
  refine j_aload_n dL_law_606 rfl ?_
  refine j_iload_n dL_law_607 rfl ?_
  refine j_iconst (v := 1) dL_law_608 (by decide) ?_
  refine j_iadd dL_law_609 ?_
  refine j_sld (x := X.2 ((m + 1))) dL_law_610 rfl (q_in (j := (m + 1)) (by first | rfl | (simp only [z_n, pk_mul, nI_add]; done) | (simp only [z_n, pk_mul, nI_add]; exact pk_sub (by omega)) | (simp only [z_n, pk_mul, nI_add, pk_sub, *]; done)) (by omega) hL) (q_at (j := (m + 1)) (by first | rfl | (simp only [z_n, pk_mul, nI_add]; done) | (simp only [z_n, pk_mul, nI_add]; exact pk_sub (by omega)) | (simp only [z_n, pk_mul, nI_add, pk_sub, *]; done)) (by omega)) ?_
  refine j_aload_n dL_law_611 rfl ?_
  refine j_iload_n dL_law_612 rfl ?_
  refine j_iconst (v := 2) dL_law_613 (by decide) ?_
  refine j_iadd dL_law_614 ?_
  refine j_sld (x := X.2 ((m + 2))) dL_law_615 rfl (q_in (j := (m + 2)) (by first | rfl | (simp only [z_n, pk_mul, nI_add]; done) | (simp only [z_n, pk_mul, nI_add]; exact pk_sub (by omega)) | (simp only [z_n, pk_mul, nI_add, pk_sub, *]; done)) (by omega) hL) (q_at (j := (m + 2)) (by first | rfl | (simp only [z_n, pk_mul, nI_add]; done) | (simp only [z_n, pk_mul, nI_add]; exact pk_sub (by omega)) | (simp only [z_n, pk_mul, nI_add, pk_sub, *]; done)) (by omega)) ?_
  refine z_to (KP_S hk1).symm ?_
  refine q_call2 dL_law_616 vL_law_80 (s_ifBeats hk1.1 (aIa_ok hI) hk1.2.2.2.2.1) rfl (by decide) rfl rfl (Nat.le_of_ble_eq_true rfl) ⟨rfl, rfl⟩ rfl ?_
  rintro _ _ ⟨⟨⟩, sq, rfl⟩
  refine j_icmp_eq dL_law_619 (tgt := 807) rfl (fun _ => ?_) (fun c1 => absurd rfl c1)
  exact law_end hL kk (LI_w hM hH hn hT h7 h5 hk1 hC1)
set_option maxRecDepth 4000 in
set_option maxHeartbeats 2000000 in
theorem law_goneIn {X : Nat × (Nat → Int32)} (hL : X.1 ≤ 2560) {m : Nat} (hmL : m + 5 ≤ X.1) {h : zH} {Q : zQt} (hLI : LI h) (kk : ∀ h', LI h' → zJ X mL_law 0 18 [.ref 1000, .ref 0, .ref 215, .int (nI (m + 5))] [] 222 h' Q) : zJ X mL_law 0 624 [.ref 1000, .ref 0, .ref 215, .int (nI m)] [] 222 h Q := by
  obtain ⟨s, pa, tx, o, nm, sp, hd, n, T, hC, hM, hH, hn, hT, h7, h5, hk⟩ := id hLI
  have hI : aIa s (aNn s) (aWn s) := hM.1.1
  obtain ⟨Kn, -, hKn8, hKn⟩ := hI.2.2.1
  refine j_aload_n dL_law_624 rfl ?_
  refine q_call0 dL_law_625 vL_law_81 (o_goneIn hC hM) rfl (by decide)  (Nat.le_of_ble_eq_true rfl) ⟨rfl, rfl⟩ rfl ?_
  rintro _ h1 ⟨⟨⟩, hlo, hC1⟩
  have hk1 := KP_hi hk hlo
  refine j_aload_n dL_law_628 rfl ?_
  refine z_to (KP_S hk1).symm ?_
  refine q_call0 dL_law_629 vL_law_84 (s_goneIn hk1.1 (aIa_ok hI) hk1.2.2.2.2.1) rfl (by decide)  (Nat.le_of_ble_eq_true rfl) ⟨rfl, rfl⟩ rfl ?_
  rintro _ _ ⟨⟨⟩, sq, rfl⟩
  refine j_icmp_eq dL_law_632 (tgt := 807) rfl (fun _ => ?_) (fun c1 => absurd rfl c1)
  exact law_end hL kk (LI_w hM hH hn hT h7 h5 hk1 hC1)
set_option maxRecDepth 4000 in
set_option maxHeartbeats 2000000 in
theorem law_coughing {X : Nat × (Nat → Int32)} (hL : X.1 ≤ 2560) {m : Nat} (hmL : m + 5 ≤ X.1) {h : zH} {Q : zQt} (hLI : LI h) (kk : ∀ h', LI h' → zJ X mL_law 0 18 [.ref 1000, .ref 0, .ref 215, .int (nI (m + 5))] [] 222 h' Q) : zJ X mL_law 0 637 [.ref 1000, .ref 0, .ref 215, .int (nI m)] [] 222 h Q := by
  obtain ⟨s, pa, tx, o, nm, sp, hd, n, T, hC, hM, hH, hn, hT, h7, h5, hk⟩ := id hLI
  have hI : aIa s (aNn s) (aWn s) := hM.1.1
  obtain ⟨Kn, -, hKn8, hKn⟩ := hI.2.2.1
  refine j_aload_n dL_law_637 rfl ?_
  refine q_call0 dL_law_638 vL_law_85 (o_coughing hC hM) rfl (by decide)  (Nat.le_of_ble_eq_true rfl) ⟨rfl, rfl⟩ rfl ?_
  rintro _ _ ⟨⟨⟩, rfl⟩
  have hk1 := hk
  refine j_aload_n dL_law_641 rfl ?_
  refine z_to (KP_S hk1).symm ?_
  refine q_call0 dL_law_642 vL_law_88 (s_coughing hk1.1 hI.1.1 hI.1.2 (aIa_ok hI).2.2.1) rfl (by decide)  (Nat.le_of_ble_eq_true rfl) ⟨rfl, rfl⟩ rfl ?_
  rintro _ _ ⟨⟨⟩, rfl⟩
  rw [KP_S hk1]
  refine j_icmp_eq dL_law_645 (tgt := 807) rfl (fun _ => ?_) (fun c1 => absurd rfl c1)
  exact law_end hL kk (hLI)
set_option maxRecDepth 4000 in
set_option maxHeartbeats 2000000 in
theorem law_loudest {X : Nat × (Nat → Int32)} (hL : X.1 ≤ 2560) {m : Nat} (hmL : m + 5 ≤ X.1) {h : zH} {Q : zQt} (hLI : LI h) (kk : ∀ h', LI h' → zJ X mL_law 0 18 [.ref 1000, .ref 0, .ref 215, .int (nI (m + 5))] [] 222 h' Q) : zJ X mL_law 0 650 [.ref 1000, .ref 0, .ref 215, .int (nI m)] [] 222 h Q := by
  obtain ⟨s, pa, tx, o, nm, sp, hd, n, T, hC, hM, hH, hn, hT, h7, h5, hk⟩ := id hLI
  have hI : aIa s (aNn s) (aWn s) := hM.1.1
  obtain ⟨Kn, -, hKn8, hKn⟩ := hI.2.2.1
  refine j_aload_n dL_law_650 rfl ?_
  refine q_call0 dL_law_651 vL_law_89 (o_loudest hC hM) rfl (by decide)  (Nat.le_of_ble_eq_true rfl) ⟨rfl, rfl⟩ rfl ?_
  rintro _ _ ⟨⟨⟩, rfl⟩
  have hk1 := hk
  refine j_aload_n dL_law_654 rfl ?_
  refine z_to (KP_S hk1).symm ?_
  refine q_call0 dL_law_655 vL_law_92 (s_loudest hk1.1 hI.1.1 hI.1.2) rfl (by decide)  (Nat.le_of_ble_eq_true rfl) ⟨rfl, rfl⟩ rfl ?_
  rintro _ _ ⟨⟨⟩, rfl⟩
  rw [KP_S hk1]
  refine j_icmp_eq dL_law_658 (tgt := 807) rfl (fun _ => ?_) (fun c1 => absurd rfl c1)
  exact law_end hL kk (hLI)
set_option maxRecDepth 4000 in
set_option maxHeartbeats 2000000 in
theorem law_ifNights {X : Nat × (Nat → Int32)} (hL : X.1 ≤ 2560) {m : Nat} (hmL : m + 5 ≤ X.1) {h : zH} {Q : zQt} (hLI : LI h) (kk : ∀ h', LI h' → zJ X mL_law 0 18 [.ref 1000, .ref 0, .ref 215, .int (nI (m + 5))] [] 222 h' Q) : zJ X mL_law 0 663 [.ref 1000, .ref 0, .ref 215, .int (nI m)] [] 222 h Q := by
  obtain ⟨s, pa, tx, o, nm, sp, hd, n, T, hC, hM, hH, hn, hT, h7, h5, hk⟩ := id hLI
  have hI : aIa s (aNn s) (aWn s) := hM.1.1
  obtain ⟨Kn, -, hKn8, hKn⟩ := hI.2.2.1
  refine j_aload_n dL_law_663 rfl ?_
  refine j_aload_n dL_law_664 rfl ?_
  refine j_iload_n dL_law_665 rfl ?_
  refine j_iconst (v := 1) dL_law_666 (by decide) ?_
  refine j_iadd dL_law_667 ?_
  refine j_sld (x := X.2 ((m + 1))) dL_law_668 rfl (q_in (j := (m + 1)) (by first | rfl | (simp only [z_n, pk_mul, nI_add]; done) | (simp only [z_n, pk_mul, nI_add]; exact pk_sub (by omega)) | (simp only [z_n, pk_mul, nI_add, pk_sub, *]; done)) (by omega) hL) (q_at (j := (m + 1)) (by first | rfl | (simp only [z_n, pk_mul, nI_add]; done) | (simp only [z_n, pk_mul, nI_add]; exact pk_sub (by omega)) | (simp only [z_n, pk_mul, nI_add, pk_sub, *]; done)) (by omega)) ?_
  refine q_call1 dL_law_669 vL_law_93 (o_ifNights hC hM (sp := sp)) rfl (by decide) rfl (Nat.le_of_ble_eq_true rfl) ⟨rfl, rfl⟩ rfl ?_
  rintro _ h1 ⟨⟨⟩, hlo, hC1⟩
  have hk1 := KP_hi hk hlo
  refine j_aload_n dL_law_672 rfl ?_
  refine j_aload_n dL_law_673 rfl ?_
  refine j_iload_n dL_law_674 rfl ?_
  refine j_iconst (v := 1) dL_law_675 (by decide) ?_
  refine j_iadd dL_law_676 ?_
  refine j_sld (x := X.2 ((m + 1))) dL_law_677 rfl (q_in (j := (m + 1)) (by first | rfl | (simp only [z_n, pk_mul, nI_add]; done) | (simp only [z_n, pk_mul, nI_add]; exact pk_sub (by omega)) | (simp only [z_n, pk_mul, nI_add, pk_sub, *]; done)) (by omega) hL) (q_at (j := (m + 1)) (by first | rfl | (simp only [z_n, pk_mul, nI_add]; done) | (simp only [z_n, pk_mul, nI_add]; exact pk_sub (by omega)) | (simp only [z_n, pk_mul, nI_add, pk_sub, *]; done)) (by omega)) ?_
  refine z_to (KP_S hk1).symm ?_
  refine q_call1 dL_law_678 vL_law_96 (s_ifNights hk1.1 hI.1.1 hI.1.2 hk1.2.2.2.2.1 hk1.2.2.2.1) rfl (by decide) rfl (Nat.le_of_ble_eq_true rfl) ⟨rfl, rfl⟩ rfl ?_
  rintro _ _ ⟨⟨⟩, sq, hq2, rfl⟩
  refine j_icmp_eq dL_law_681 (tgt := 807) rfl (fun _ => ?_) (fun c1 => absurd rfl c1)
  exact law_end hL kk (LI_wd hM hH hn hT h7 h5 hk1 hC1)
set_option maxRecDepth 4000 in
set_option maxHeartbeats 2000000 in
theorem law_mean {X : Nat × (Nat → Int32)} (hL : X.1 ≤ 2560) {m : Nat} (hmL : m + 5 ≤ X.1) {h : zH} {Q : zQt} (hLI : LI h) (kk : ∀ h', LI h' → zJ X mL_law 0 18 [.ref 1000, .ref 0, .ref 215, .int (nI (m + 5))] [] 222 h' Q) {mn : (Nat → Int32) → Int32} (hm4 : ∀ {h : zH} {s pa tx : Nat → Int32} {n T : Nat}, CH h s pa n tx T → aM s → zCT mX4_mean [.ref 0] 222 h 222 (fun r h' => r = some (mn s) ∧ h' = h)) (hm5 : ∀ (g : zH) (s : Nat → Int32), gP g → aM s → zCT mX5_mean [.ref 215] 222 (gS g s) 222 (fun r h' => r = some (mn s) ∧ h' = gS g s)) : zJ X mL_law 0 686 [.ref 1000, .ref 0, .ref 215, .int (nI m)] [] 222 h Q := by
  obtain ⟨s, pa, tx, o, nm, sp, hd, n, T, hC, hM, hH, hn, hT, h7, h5, hk⟩ := id hLI
  have hI : aIa s (aNn s) (aWn s) := hM.1.1
  obtain ⟨Kn, -, hKn8, hKn⟩ := hI.2.2.1
  refine j_aload_n dL_law_686 rfl ?_
  refine q_call0 dL_law_687 vL_law_97 (hm4 hC hM) rfl (by decide)  (Nat.le_of_ble_eq_true rfl) ⟨rfl, rfl⟩ rfl ?_
  rintro _ _ ⟨⟨⟩, rfl⟩
  have hk1 := hk
  refine j_aload_n dL_law_690 rfl ?_
  refine z_to (KP_S hk1).symm ?_
  refine q_call0 dL_law_691 vL_law_100 (hm5 _ _ hk1.1 hM) rfl (by decide)  (Nat.le_of_ble_eq_true rfl) ⟨rfl, rfl⟩ rfl ?_
  rintro _ _ ⟨⟨⟩, rfl⟩
  rw [KP_S hk1]
  refine j_icmp_eq dL_law_694 (tgt := 807) rfl (fun _ => ?_) (fun c1 => absurd rfl c1)
  exact law_end hL kk (hLI)
set_option maxRecDepth 4000 in
set_option maxHeartbeats 2000000 in
theorem law_count {X : Nat × (Nat → Int32)} (hL : X.1 ≤ 2560) {m : Nat} (hmL : m + 5 ≤ X.1) {h : zH} {Q : zQt} (hLI : LI h) (kk : ∀ h', LI h' → zJ X mL_law 0 18 [.ref 1000, .ref 0, .ref 215, .int (nI (m + 5))] [] 222 h' Q) : zJ X mL_law 0 699 [.ref 1000, .ref 0, .ref 215, .int (nI m)] [] 222 h Q := by
  obtain ⟨s, pa, tx, o, nm, sp, hd, n, T, hC, hM, hH, hn, hT, h7, h5, hk⟩ := id hLI
  have hI : aIa s (aNn s) (aWn s) := hM.1.1
  obtain ⟨Kn, -, hKn8, hKn⟩ := hI.2.2.1
  refine j_aload_n dL_law_699 rfl ?_
  refine j_aload_n dL_law_700 rfl ?_
  refine j_iload_n dL_law_701 rfl ?_
  refine j_iconst (v := 1) dL_law_702 (by decide) ?_
  refine j_iadd dL_law_703 ?_
  refine j_sld (x := X.2 ((m + 1))) dL_law_704 rfl (q_in (j := (m + 1)) (by first | rfl | (simp only [z_n, pk_mul, nI_add]; done) | (simp only [z_n, pk_mul, nI_add]; exact pk_sub (by omega)) | (simp only [z_n, pk_mul, nI_add, pk_sub, *]; done)) (by omega) hL) (q_at (j := (m + 1)) (by first | rfl | (simp only [z_n, pk_mul, nI_add]; done) | (simp only [z_n, pk_mul, nI_add]; exact pk_sub (by omega)) | (simp only [z_n, pk_mul, nI_add, pk_sub, *]; done)) (by omega)) ?_
  refine q_call1 dL_law_705 vL_law_101 (o_count hC hM) rfl (by decide) rfl (Nat.le_of_ble_eq_true rfl) ⟨rfl, rfl⟩ rfl ?_
  rintro _ _ ⟨⟨⟩, rfl⟩
  have hk1 := hk
  refine j_aload_n dL_law_708 rfl ?_
  refine j_aload_n dL_law_709 rfl ?_
  refine j_iload_n dL_law_710 rfl ?_
  refine j_iconst (v := 1) dL_law_711 (by decide) ?_
  refine j_iadd dL_law_712 ?_
  refine j_sld (x := X.2 ((m + 1))) dL_law_713 rfl (q_in (j := (m + 1)) (by first | rfl | (simp only [z_n, pk_mul, nI_add]; done) | (simp only [z_n, pk_mul, nI_add]; exact pk_sub (by omega)) | (simp only [z_n, pk_mul, nI_add, pk_sub, *]; done)) (by omega) hL) (q_at (j := (m + 1)) (by first | rfl | (simp only [z_n, pk_mul, nI_add]; done) | (simp only [z_n, pk_mul, nI_add]; exact pk_sub (by omega)) | (simp only [z_n, pk_mul, nI_add, pk_sub, *]; done)) (by omega)) ?_
  refine z_to (KP_S hk1).symm ?_
  refine q_call1 dL_law_714 vL_law_104 (s_count hk1.1 hI.1.1 hI.1.2 hk1.2.2.2.2.2.2.2.1 ((hk1.2.2.2.2.2.2.2.2 7 (by omega)).trans (congrArg Value.int h7))) rfl (by decide) rfl (Nat.le_of_ble_eq_true rfl) ⟨rfl, rfl⟩ rfl ?_
  rintro _ _ ⟨⟨⟩, rfl⟩
  rw [KP_S hk1]
  refine j_icmp_eq dL_law_717 (tgt := 807) rfl (fun _ => ?_) (fun c1 => absurd rfl c1)
  exact law_end hL kk (hLI)
set_option maxRecDepth 4000 in
set_option maxHeartbeats 2000000 in
theorem law_type {X : Nat × (Nat → Int32)} (hL : X.1 ≤ 2560) {m : Nat} (hmL : m + 5 ≤ X.1) {h : zH} {Q : zQt} (hLI : LI h) (kk : ∀ h', LI h' → zJ X mL_law 0 18 [.ref 1000, .ref 0, .ref 215, .int (nI (m + 5))] [] 222 h' Q) : zJ X mL_law 0 735 [.ref 1000, .ref 0, .ref 215, .int (nI m)] [] 222 h Q := by
  obtain ⟨s, pa, tx, o, nm, sp, hd, n, T, hC, hM, hH, hn, hT, h7, h5, hk⟩ := id hLI
  have hI : aIa s (aNn s) (aWn s) := hM.1.1
  obtain ⟨Kn, -, hKn8, hKn⟩ := hI.2.2.1
  refine j_aload_n dL_law_735 rfl ?_
  refine j_aload_n dL_law_736 rfl ?_
  refine j_iload_n dL_law_737 rfl ?_
  refine j_iconst (v := 1) dL_law_738 (by decide) ?_
  refine j_iadd dL_law_739 ?_
  refine j_sld (x := X.2 ((m + 1))) dL_law_740 rfl (q_in (j := (m + 1)) (by first | rfl | (simp only [z_n, pk_mul, nI_add]; done) | (simp only [z_n, pk_mul, nI_add]; exact pk_sub (by omega)) | (simp only [z_n, pk_mul, nI_add, pk_sub, *]; done)) (by omega) hL) (q_at (j := (m + 1)) (by first | rfl | (simp only [z_n, pk_mul, nI_add]; done) | (simp only [z_n, pk_mul, nI_add]; exact pk_sub (by omega)) | (simp only [z_n, pk_mul, nI_add, pk_sub, *]; done)) (by omega)) ?_
  refine q_call1 dL_law_741 vL_law_109 (o_type hC hM) rfl (by decide) rfl (Nat.le_of_ble_eq_true rfl) ⟨rfl, rfl⟩ rfl ?_
  rintro _ h1 ⟨⟨⟩, hlo, hC1⟩
  have hk1 := KP_hi hk hlo
  refine j_aload_n dL_law_744 rfl ?_
  refine j_aload_n dL_law_745 rfl ?_
  refine j_iload_n dL_law_746 rfl ?_
  refine j_iconst (v := 1) dL_law_747 (by decide) ?_
  refine j_iadd dL_law_748 ?_
  refine j_sld (x := X.2 ((m + 1))) dL_law_749 rfl (q_in (j := (m + 1)) (by first | rfl | (simp only [z_n, pk_mul, nI_add]; done) | (simp only [z_n, pk_mul, nI_add]; exact pk_sub (by omega)) | (simp only [z_n, pk_mul, nI_add, pk_sub, *]; done)) (by omega) hL) (q_at (j := (m + 1)) (by first | rfl | (simp only [z_n, pk_mul, nI_add]; done) | (simp only [z_n, pk_mul, nI_add]; exact pk_sub (by omega)) | (simp only [z_n, pk_mul, nI_add, pk_sub, *]; done)) (by omega)) ?_
  refine z_to (show h1 = gS (gT h1 o tx nm) s by rw [KP_T hk1, KP_S hk1]) ?_
  refine q_call1 dL_law_750 vL_law_112 (s_type hk1.1 h7 hT) rfl (by decide) rfl (Nat.le_of_ble_eq_true rfl) ⟨rfl, rfl⟩ rfl ?_
  rintro _ _ ⟨⟨⟩, rfl⟩
  refine j_icmp_eq dL_law_753 (tgt := 807) rfl (fun _ => ?_) (fun c1 => absurd rfl c1)
  exact law_end hL kk (LI_ty hM hH hn hT h7 h5 hk1 hC1)
set_option maxRecDepth 4000 in
set_option maxHeartbeats 2000000 in
theorem law_clearText {X : Nat × (Nat → Int32)} (hL : X.1 ≤ 2560) {m : Nat} (hmL : m + 5 ≤ X.1) {h : zH} {Q : zQt} (hLI : LI h) (kk : ∀ h', LI h' → zJ X mL_law 0 18 [.ref 1000, .ref 0, .ref 215, .int (nI (m + 5))] [] 222 h' Q) : zJ X mL_law 0 758 [.ref 1000, .ref 0, .ref 215, .int (nI m)] [] 222 h Q := by
  obtain ⟨s, pa, tx, o, nm, sp, hd, n, T, hC, hM, hH, hn, hT, h7, h5, hk⟩ := id hLI
  have hI : aIa s (aNn s) (aWn s) := hM.1.1
  obtain ⟨Kn, -, hKn8, hKn⟩ := hI.2.2.1
  refine j_aload_n dL_law_758 rfl ?_
  refine q_call0 dL_law_759 vL_law_113 (o_clear hC hM) rfl (by decide)  (Nat.le_of_ble_eq_true rfl) ⟨rfl, rfl⟩ rfl ?_
  rintro _ h1 ⟨⟨⟩, hlo, hC1⟩
  have hk1 := KP_hi hk hlo
  refine j_aload_n dL_law_762 rfl ?_
  refine z_to (show h1 = gS (gT h1 o tx nm) s by rw [KP_T hk1, KP_S hk1]) ?_
  refine q_call0 dL_law_763 vL_law_116 (s_clearText hk1.1 h7 hT) rfl (by decide)  (Nat.le_of_ble_eq_true rfl) ⟨rfl, rfl⟩ rfl ?_
  rintro _ _ ⟨⟨⟩, rfl⟩
  refine j_icmp_eq dL_law_766 (tgt := 807) rfl (fun _ => ?_) (fun c1 => absurd rfl c1)
  exact law_end hL kk (LI_cl hM hH hn hT h7 h5 hk1 hC1)
set_option maxRecDepth 4000 in
set_option maxHeartbeats 2000000 in
theorem law_fault {X : Nat × (Nat → Int32)} (hL : X.1 ≤ 2560) {m : Nat} (hmL : m + 5 ≤ X.1) {h : zH} {Q : zQt} (hLI : LI h) (kk : ∀ h', LI h' → zJ X mL_law 0 18 [.ref 1000, .ref 0, .ref 215, .int (nI (m + 5))] [] 222 h' Q) : zJ X mL_law 0 771 [.ref 1000, .ref 0, .ref 215, .int (nI m)] [] 222 h Q := by
  obtain ⟨s, pa, tx, o, nm, sp, hd, n, T, hC, hM, hH, hn, hT, h7, h5, hk⟩ := id hLI
  have hI : aIa s (aNn s) (aWn s) := hM.1.1
  obtain ⟨Kn, -, hKn8, hKn⟩ := hI.2.2.1
  refine j_aload_n dL_law_771 rfl ?_
  refine j_aload_n dL_law_772 rfl ?_
  refine j_iload_n dL_law_773 rfl ?_
  refine j_iconst (v := 1) dL_law_774 (by decide) ?_
  refine j_iadd dL_law_775 ?_
  refine j_sld (x := X.2 ((m + 1))) dL_law_776 rfl (q_in (j := (m + 1)) (by first | rfl | (simp only [z_n, pk_mul, nI_add]; done) | (simp only [z_n, pk_mul, nI_add]; exact pk_sub (by omega)) | (simp only [z_n, pk_mul, nI_add, pk_sub, *]; done)) (by omega) hL) (q_at (j := (m + 1)) (by first | rfl | (simp only [z_n, pk_mul, nI_add]; done) | (simp only [z_n, pk_mul, nI_add]; exact pk_sub (by omega)) | (simp only [z_n, pk_mul, nI_add, pk_sub, *]; done)) (by omega)) ?_
  refine q_call1 dL_law_777 vL_law_117 (o_fault hC hM) rfl (by decide) rfl (Nat.le_of_ble_eq_true rfl) ⟨rfl, rfl⟩ rfl ?_
  rintro _ h1 ⟨⟨⟩, hlo, hC1⟩
  have hk1 := KP_hi hk hlo
  refine j_aload_n dL_law_780 rfl ?_
  refine j_aload_n dL_law_781 rfl ?_
  refine j_iload_n dL_law_782 rfl ?_
  refine j_iconst (v := 1) dL_law_783 (by decide) ?_
  refine j_iadd dL_law_784 ?_
  refine j_sld (x := X.2 ((m + 1))) dL_law_785 rfl (q_in (j := (m + 1)) (by first | rfl | (simp only [z_n, pk_mul, nI_add]; done) | (simp only [z_n, pk_mul, nI_add]; exact pk_sub (by omega)) | (simp only [z_n, pk_mul, nI_add, pk_sub, *]; done)) (by omega) hL) (q_at (j := (m + 1)) (by first | rfl | (simp only [z_n, pk_mul, nI_add]; done) | (simp only [z_n, pk_mul, nI_add]; exact pk_sub (by omega)) | (simp only [z_n, pk_mul, nI_add, pk_sub, *]; done)) (by omega)) ?_
  rw [dFlt_eq (aPlR_run (nm := nm) (sp := sp) (o := o) hT hM.1)]
  refine z_to (show h1 = gS (gT (gW (gD h1 hd) sp) o tx nm) s by rw [KP_TWD hk1, KP_S hk1]) ?_
  refine q_call1 dL_law_786 vL_law_120 (s_fault hk1.1 h5 h7 hT hM.1.1) rfl (by decide) rfl (Nat.le_of_ble_eq_true rfl) ⟨rfl, rfl⟩ rfl ?_
  rintro _ _ ⟨⟨⟩, hd2, sp2, o2, nm2, rfl, g7, g5⟩
  refine j_icmp_eq dL_law_789 (tgt := 807) rfl (fun _ => ?_) (fun c1 => absurd rfl c1)
  exact law_end hL kk (LI_fl hM hH hn hT h7 hk1 hC1 g7 g5)
set_option maxRecDepth 4000 in
set_option maxHeartbeats 2000000 in
theorem law_undo {X : Nat × (Nat → Int32)} (hL : X.1 ≤ 2560) {m : Nat} (hmL : m + 5 ≤ X.1) {h : zH} {Q : zQt} (hLI : LI h) (kk : ∀ h', LI h' → zJ X mL_law 0 18 [.ref 1000, .ref 0, .ref 215, .int (nI (m + 5))] [] 222 h' Q) : zJ X mL_law 0 722 [.ref 1000, .ref 0, .ref 215, .int (nI m)] [] 222 h Q := by
  obtain ⟨s, pa, tx, o, nm, sp, hd, n, T, hC, hM, hH, hn, hT, h7, h5, hk⟩ := id hLI
  have hI : aIa s (aNn s) (aWn s) := hM.1.1
  obtain ⟨Kn, -, hKn8, hKn⟩ := hI.2.2.1
  refine j_aload_n dL_law_722 rfl ?_
  refine q_call0 dL_law_723 vL_law_105 (o_undo hC hM) rfl (by decide) (Nat.le_of_ble_eq_true rfl) ⟨rfl, rfl⟩ rfl ?_
  intro r1 h1 hq1
  try dsimp only at hq1
  by_cases hn0 : n = 0
  · rw [if_pos hn0] at hq1
    obtain ⟨⟨⟩, hlo, hC1⟩ := hq1
    have hk1 := KP_hi hk hlo
    refine j_aload_n dL_law_726 rfl ?_
    refine z_to (show h1 = gS (gH h1 pa n) s by rw [KP_H hk1, KP_S hk1]) ?_
    refine q_call0 dL_law_727 vL_law_108 (s_undo hk1.1 hn) rfl (by decide) (Nat.le_of_ble_eq_true rfl) ⟨rfl, rfl⟩ rfl ?_
    intro r2 h2 hq2
    try dsimp only at hq2
    rw [if_pos hn0] at hq2
    obtain ⟨⟨⟩, rfl⟩ := hq2
    refine j_icmp_eq dL_law_730 (tgt := 807) rfl (fun _ => ?_) (fun c => absurd rfl c)
    refine law_end hL kk ?_
    rw [KP_ch hk1]
    exact LI_F hC1 hM hH hn hT h7 h5 hk1.1
  · rw [if_neg hn0] at hq1
    obtain ⟨⟨⟩, hlo, hC1⟩ := hq1
    have hk1 := KP_hi hk hlo
    refine j_aload_n dL_law_726 rfl ?_
    refine z_to (show h1 = gS (gH h1 pa n) s by rw [KP_H hk1, KP_S hk1]) ?_
    refine q_call0 dL_law_727 vL_law_108 (s_undo hk1.1 hn) rfl (by decide) (Nat.le_of_ble_eq_true rfl) ⟨rfl, rfl⟩ rfl ?_
    intro r2 h2 hq2
    try dsimp only at hq2
    rw [if_neg hn0] at hq2
    obtain ⟨⟨⟩, rfl⟩ := hq2
    refine j_icmp_eq dL_law_730 (tgt := 807) rfl (fun _ => ?_) (fun c => absurd rfl c)
    refine law_end hL kk ?_
    rw [KP_ch hk1]
    exact LI_F hC1 (hH (n - 1) (by omega)) (fun i hi => hH i (by omega)) (by omega) hT h7 h5 hk1.1
set_option maxRecDepth 4000 in
set_option maxHeartbeats 2000000 in
theorem law_play {X : Nat × (Nat → Int32)} (hL : X.1 ≤ 2560) {m : Nat} (hmL : m + 5 ≤ X.1) {h : zH} {Q : zQt} (hLI : LI h) (kk : ∀ h', LI h' → zJ X mL_law 0 18 [.ref 1000, .ref 0, .ref 215, .int (nI (m + 5))] [] 222 h' Q) : zJ X mL_law 0 794 [.ref 1000, .ref 0, .ref 215, .int (nI m)] [] 222 h Q := by
  obtain ⟨s, pa, tx, o, nm, sp, hd, n, T, hC, hM, hH, hn, hT, h7, h5, hk⟩ := id hLI
  have hI : aIa s (aNn s) (aWn s) := hM.1.1
  obtain ⟨Kn, -, hKn8, hKn⟩ := hI.2.2.1
  refine j_aload_n dL_law_794 rfl ?_
  refine q_call0 dL_law_795 vL_law_121 (o_play hC hM) rfl (by decide) (Nat.le_of_ble_eq_true rfl) ⟨rfl, rfl⟩ rfl ?_
  rintro _ h1 ⟨⟨⟩, hlo, hC1⟩
  have hk1 := KP_hi hk hlo
  have hR1 := aPlR_run (nm := nm) (sp := sp) (o := o) (tx := tx) hT hM.1
  have hR2 := aPlR_run (nm := (aPlR tx T o nm s sp).2.2.1) (sp := (aPlR tx T o nm s sp).2.2.2.2) (o := upd (aPlR tx T o nm s sp).2.1 5 0) (tx := tx) hT hM.1
  have hD := dRun_K (tx := tx) hT 60 0 0 s hM.1 (by omega) (by omega)
  refine j_aload_n dL_law_798 rfl ?_
  rw [dPly_eq hR1 hR2 hD.2.2]
  refine z_to (show h1 = gS (gT (gW (gD (gH h1 pa n) hd) sp) o tx nm) s by rw [KP_H hk1, KP_TWD hk1, KP_S hk1]) ?_
  refine q_call0 dL_law_799 vL_law_124 (s_play hk1.1 hn h5 h7 hT hM.1.1) rfl (by decide) (Nat.le_of_ble_eq_true rfl) ⟨rfl, rfl⟩ rfl ?_
  rintro _ h2 ⟨⟨⟩, hq2⟩
  refine j_icmp_eq dL_law_802 (tgt := 807) rfl (fun _ => ?_) (fun c => absurd rfl c)
  refine law_end hL kk ?_
  by_cases z : (aPlR tx T o nm s sp).1 = 0
  · rw [if_pos z] at hq2
    obtain ⟨hd2, sp2, o2, nm2, rfl, g7, g5⟩ := hq2
    have z1 : ¬ (dRun tx T 60 0 0 s).1 = 1 := by rw [← hR1.1, z]; decide
    rw [if_neg z1, if_neg z1, if_neg z1] at hC1
    exact LI_F hC1 hM hH hn hT (g7.trans h7) g5 hk1.1
  · rw [if_neg z] at hq2
    obtain ⟨hd2, sp2, o2, nm2, rfl, g7, g5⟩ := hq2
    have z1 : (dRun tx T 60 0 0 s).1 = 1 := hD.2.2.resolve_left (by rw [← hR1.1]; exact z)
    rw [if_pos z1, if_pos z1, if_pos z1] at hC1
    rw [(hR2.2.1 z1).1]
    exact LI_F hC1 (dRun_M 60 0 0 s hM) (aM_hist hM hH hn) (aPn_le hn) hT (g7.trans h7) g5 hk1.1
set_option maxRecDepth 4000 in
set_option maxHeartbeats 2000000 in
theorem law_lp {X : Nat × (Nat → Int32)} (hL : X.1 ≤ 2560) {mn : (Nat → Int32) → Int32} (hm4 : ∀ {h : zH} {s pa tx : Nat → Int32} {n T : Nat}, CH h s pa n tx T → aM s → zCT mX4_mean [.ref 0] 222 h 222 (fun r h' => r = some (mn s) ∧ h' = h)) (hm5 : ∀ (g : zH) (s : Nat → Int32), gP g → aM s → zCT mX5_mean [.ref 215] 222 (gS g s) 222 (fun r h' => r = some (mn s) ∧ h' = gS g s)) {Q : zQt} (hQ : ∀ h', Q (some 1) 222 h') : ∀ (f m : Nat) (h : zH), X.1 - m < f → m ≤ 2600 → LI h → zJ X mL_law 0 18 [.ref 1000, .ref 0, .ref 215, .int (nI m)] [] 222 h Q := by
  intro f
  induction f with
  | zero =>
    intro m h hf
    exact absurd hf (Nat.not_lt_zero _)
  | succ f ih =>
    intro m h hf hm hLI
    refine j_iload_n dL_law_18 rfl ?_
    refine j_aload_n dL_law_19 rfl ?_
    refine j_slen dL_law_20 rfl ?_
    refine j_iconst (v := 5) dL_law_21 (by decide) ?_
    refine j_isub dL_law_22 ?_
    refine j_icmp_gt dL_law_23 (tgt := 813) rfl (fun _ => ?_) (fun c => ?_)
    · refine j_iconst (v := 1) dL_law_813 (by decide) ?_
      refine j_iret dL_law_814 rfl rfl ?_
      exact hQ _
    have hmL : m + 5 ≤ X.1 := q_sub5 hL hm c
    refine j_aload_n dL_law_26 rfl ?_
    refine j_iload_n dL_law_27 rfl ?_
    refine j_sld (x := X.2 m) dL_law_28 rfl (q_in (j := m) rfl (by omega) hL) (q_at (j := m) rfl (by omega)) ?_
    refine j_bipush (v := 31) dL_law_29 (by decide) ?_
    refine j_iand dL_law_31 ?_
    generalize X.2 m &&& 31 = y
    by_cases hv : y.toInt < 0 ∨ (26 : Int) < y.toInt
    · refine j_tableOut dL_law_32 (tgt := 807) hv rfl ?_
      exact law_end hL (fun h' hl => ih (m + 5) h' (by omega) (by omega) hl) hLI
    obtain ⟨j, hj2, rfl, hv2⟩ := z_sw (n := 26) (by omega) hv
    rcases (show j = 0 ∨ j = 1 ∨ j = 2 ∨ j = 3 ∨ j = 4 ∨ j = 5 ∨ j = 6 ∨ j = 7 ∨ j = 8 ∨ j = 9 ∨ j = 10 ∨ j = 11 ∨ j = 12 ∨ j = 13 ∨ j = 14 ∨ j = 15 ∨ j = 16 ∨ j = 17 ∨ j = 18 ∨ j = 19 ∨ j = 20 ∨ j = 21 ∨ j = 22 ∨ j = 23 ∨ j = 24 ∨ j = 25 ∨ j = 26 by omega) with rfl | rfl | rfl | rfl | rfl | rfl | rfl | rfl | rfl | rfl | rfl | rfl | rfl | rfl | rfl | rfl | rfl | rfl | rfl | rfl | rfl | rfl | rfl | rfl | rfl | rfl | rfl
    · refine j_tableIn dL_law_32 (off := 124) (tgt := 156) (by decide) (by decide) rfl rfl ?_
      exact law_bidder hL hmL hLI (fun h' hl => ih (m + 5) h' (by omega) (by omega) hl)
    · refine j_tableIn dL_law_32 (off := 177) (tgt := 209) (by decide) (by decide) rfl rfl ?_
      exact law_catches hL hmL hLI (fun h' hl => ih (m + 5) h' (by omega) (by omega) hl)
    · refine j_tableIn dL_law_32 (off := 210) (tgt := 242) (by decide) (by decide) rfl rfl ?_
      exact law_muffle hL hmL hLI (fun h' hl => ih (m + 5) h' (by omega) (by omega) hl)
    · refine j_tableIn dL_law_32 (off := 243) (tgt := 275) (by decide) (by decide) rfl rfl ?_
      exact law_lot hL hmL hLI (fun h' hl => ih (m + 5) h' (by omega) (by omega) hl)
    · refine j_tableIn dL_law_32 (off := 276) (tgt := 308) (by decide) (by decide) rfl rfl ?_
      exact law_putUp hL hmL hLI (fun h' hl => ih (m + 5) h' (by omega) (by omega) hl)
    · refine j_tableIn dL_law_32 (off := 289) (tgt := 321) (by decide) (by decide) rfl rfl ?_
      exact law_cough hL hmL hLI (fun h' hl => ih (m + 5) h' (by omega) (by omega) hl)
    · refine j_tableIn dL_law_32 (off := 312) (tgt := 344) (by decide) (by decide) rfl rfl ?_
      exact law_beats hL hmL hLI (fun h' hl => ih (m + 5) h' (by omega) (by omega) hl)
    · refine j_tableIn dL_law_32 (off := 335) (tgt := 367) (by decide) (by decide) rfl rfl ?_
      exact law_night hL hmL hLI (fun h' hl => ih (m + 5) h' (by omega) (by omega) hl)
    · refine j_tableIn dL_law_32 (off := 348) (tgt := 380) (by decide) (by decide) rfl rfl ?_
      exact law_set hL hmL hLI (fun h' hl => ih (m + 5) h' (by omega) (by omega) hl)
    · refine j_tableIn dL_law_32 (off := 381) (tgt := 413) (by decide) (by decide) rfl rfl ?_
      exact law_bidderOf hL hmL hLI (fun h' hl => ih (m + 5) h' (by omega) (by omega) hl)
    · refine j_tableIn dL_law_32 (off := 414) (tgt := 446) (by decide) (by decide) rfl rfl ?_
      exact law_at hL hmL hLI (fun h' hl => ih (m + 5) h' (by omega) (by omega) hl)
    · refine j_tableIn dL_law_32 (off := 447) (tgt := 479) (by decide) (by decide) rfl rfl ?_
      exact law_up hL hmL hLI (fun h' hl => ih (m + 5) h' (by omega) (by omega) hl)
    · refine j_tableIn dL_law_32 (off := 470) (tgt := 502) (by decide) (by decide) rfl rfl ?_
      exact law_waiting hL hmL hLI (fun h' hl => ih (m + 5) h' (by omega) (by omega) hl)
    · refine j_tableIn dL_law_32 (off := 503) (tgt := 535) (by decide) (by decide) rfl rfl ?_
      exact law_book hL hmL hLI (fun h' hl => ih (m + 5) h' (by omega) (by omega) hl)
    · refine j_tableIn dL_law_32 (off := 536) (tgt := 568) (by decide) (by decide) rfl rfl ?_
      exact law_why hL hmL hLI (fun h' hl => ih (m + 5) h' (by omega) (by omega) hl)
    · refine j_tableIn dL_law_32 (off := 559) (tgt := 591) (by decide) (by decide) rfl rfl ?_
      exact law_ifBeats hL hmL hLI (fun h' hl => ih (m + 5) h' (by omega) (by omega) hl)
    · refine j_tableIn dL_law_32 (off := 592) (tgt := 624) (by decide) (by decide) rfl rfl ?_
      exact law_goneIn hL hmL hLI (fun h' hl => ih (m + 5) h' (by omega) (by omega) hl)
    · refine j_tableIn dL_law_32 (off := 605) (tgt := 637) (by decide) (by decide) rfl rfl ?_
      exact law_coughing hL hmL hLI (fun h' hl => ih (m + 5) h' (by omega) (by omega) hl)
    · refine j_tableIn dL_law_32 (off := 618) (tgt := 650) (by decide) (by decide) rfl rfl ?_
      exact law_loudest hL hmL hLI (fun h' hl => ih (m + 5) h' (by omega) (by omega) hl)
    · refine j_tableIn dL_law_32 (off := 631) (tgt := 663) (by decide) (by decide) rfl rfl ?_
      exact law_ifNights hL hmL hLI (fun h' hl => ih (m + 5) h' (by omega) (by omega) hl)
    · refine j_tableIn dL_law_32 (off := 654) (tgt := 686) (by decide) (by decide) rfl rfl ?_
      exact law_mean hL hmL hLI (fun h' hl => ih (m + 5) h' (by omega) (by omega) hl) (mn := mn) hm4 hm5
    · refine j_tableIn dL_law_32 (off := 667) (tgt := 699) (by decide) (by decide) rfl rfl ?_
      exact law_count hL hmL hLI (fun h' hl => ih (m + 5) h' (by omega) (by omega) hl)
    · refine j_tableIn dL_law_32 (off := 690) (tgt := 722) (by decide) (by decide) rfl rfl ?_
      exact law_undo hL hmL hLI (fun h' hl => ih (m + 5) h' (by omega) (by omega) hl)
    · refine j_tableIn dL_law_32 (off := 703) (tgt := 735) (by decide) (by decide) rfl rfl ?_
      exact law_type hL hmL hLI (fun h' hl => ih (m + 5) h' (by omega) (by omega) hl)
    · refine j_tableIn dL_law_32 (off := 726) (tgt := 758) (by decide) (by decide) rfl rfl ?_
      exact law_clearText hL hmL hLI (fun h' hl => ih (m + 5) h' (by omega) (by omega) hl)
    · refine j_tableIn dL_law_32 (off := 739) (tgt := 771) (by decide) (by decide) rfl rfl ?_
      exact law_fault hL hmL hLI (fun h' hl => ih (m + 5) h' (by omega) (by omega) hl)
    · refine j_tableIn dL_law_32 (off := 762) (tgt := 794) (by decide) (by decide) rfl rfl ?_
      exact law_play hL hmL hLI (fun h' hl => ih (m + 5) h' (by omega) (by omega) hl)
