def aIfQ (s t : Nat → Int32) (v : Int32) : Int32 := if v = 0 then t 207 - s 207 else if v = 1 then t 208 - s 208 else if v = 2 then t 202 - s 202 else t 205 - s 205
def aIfB (s : Nat → Int32) (N : Nat) (m v : Int32) : Int32 := if aIn m 1 50 = 0 then -1000001 else if aIn v 0 3 = 0 then -1000001 else aIfQ s (aPass N m.toNatClampNeg s) v
theorem z_pw {g : zH} {s sp : Nat → Int32} (h9 : g 219 = iA sp) {p x : Int32} (e : p = x) : some x = some p ∧ ∃ sq, gS g s = gS (gW g sq) s := by
  subst e
  exact ⟨rfl, sp, by rw [gW_self h9]⟩
theorem z_pv {g : zH} {s sp : Nat → Int32} {p x : Int32} (e : p = x) : some x = some p ∧ ∃ sq, gS (gW g sp) s = gS (gW g sq) s := by
  subst e
  exact ⟨rfl, sp, rfl⟩
set_option maxRecDepth 4000 in
set_option maxHeartbeats 1000000 in
theorem s_ifBeats {g : zH} (hg : gP g) {s : Nat → Int32} {N : Nat} (hok : aOk s N) {sp : Nat → Int32} (h9 : g 219 = iA sp) {many v : Int32} : zCT mX5_ifBeats [.ref 215, .int many, .int v] 222 (gS g s) 222 (fun r h' => r = some (aIfB s N many v) ∧ ∃ sq, h' = gS (gW g sq) s) := by
  intro X Q hQ
  show zJ X mX5_ifBeats 222 0 [.ref 215, .int many, .int v, .null, .null] [] 222 (gS g s) Q
  refine j_iload_n dX5_ifBeats_0 rfl ?_
  refine j_iconst (v := 1) dX5_ifBeats_1 (by decide) ?_
  refine j_bipush (v := 50) dX5_ifBeats_2 (by decide) ?_
  refine k_callS3i dX5_ifBeats_4 vX5_ifBeats_36 (s_in) rfl rfl rfl (Nat.le_of_ble_eq_true rfl) ⟨rfl, rfl⟩ rfl ?_
  rintro _ _ ⟨⟨⟩, rfl⟩
  refine j_if_eq dX5_ifBeats_7 (tgt := 19) rfl (fun c1 => ?_) (fun c1 => ?_)
  · refine j_ldc (v := (-1000001)) dX5_ifBeats_19 cX5_78 ?_
    refine j_iret dX5_ifBeats_21 rfl (rfl) ?_
    exact hQ _ _ (z_pw h9 ((if_pos c1).trans (rfl)))
  · refine j_iload_n dX5_ifBeats_10 rfl ?_
    refine j_iconst (v := 0) dX5_ifBeats_11 (by decide) ?_
    refine j_iconst (v := 3) dX5_ifBeats_12 (by decide) ?_
    refine k_callS3i dX5_ifBeats_13 vX5_ifBeats_36 (s_in) rfl rfl rfl (Nat.le_of_ble_eq_true rfl) ⟨rfl, rfl⟩ rfl ?_
    rintro _ _ ⟨⟨⟩, rfl⟩
    refine j_if_ne dX5_ifBeats_16 (tgt := 22) rfl (fun c2 => ?_) (fun c2 => ?_)
    · obtain ⟨m, hm1, hm2, rfl, hb2⟩ := aIn_nat (a := 1) (b := 50) (by omega) (by omega) ‹¬ aIn many 1 50 = 0›
      refine j_aload_n dX5_ifBeats_22 rfl ?_
      refine j_get (v := .ref 216) dX5_ifBeats_23 fX5_7 rfl (by decide) (gS_p0 hg) ?_
      refine j_aload_n dX5_ifBeats_26 rfl ?_
      refine j_get (v := .ref 219) dX5_ifBeats_27 fX5_19 rfl (by decide) (gS_p3 hg) ?_
      refine k_callS2v dX5_ifBeats_30 vX5_ifBeats_114 (s_copies (f := s) (f1 := sp) (va_up_self _ _ _) (by rw [gS_ne (by decide)]; exact h9) (by decide) rfl rfl (by decide) (by decide)) rfl rfl (Nat.le_of_ble_eq_true rfl) ⟨rfl, rfl⟩ rfl ?_
      rintro _ ⟨-, rfl⟩
      rw [show va_up (gS g s) 219 (iA s) = gS (gW g s) s from gS_upn (by decide)]
      refine j_aload_n dX5_ifBeats_33 rfl ?_
      refine j_iload_n dX5_ifBeats_34 rfl ?_
      refine k_callV1v dX5_ifBeats_35 vX5_ifBeats_99 (s_pass (gP_gW hg) hok m (by omega)) rfl (by decide) rfl (Nat.le_of_ble_eq_true rfl) ⟨rfl, rfl⟩ rfl ?_
      rintro _ ⟨-, rfl⟩
      refine j_iload_n dX5_ifBeats_38 rfl ?_
      refine j_if_ne dX5_ifBeats_39 (tgt := 48) rfl (fun c3 => ?_) (fun c3 => ?_)
      · refine j_iload_n dX5_ifBeats_48 rfl ?_
        refine j_iconst (v := 1) dX5_ifBeats_49 (by decide) ?_
        refine j_icmp_ne dX5_ifBeats_50 (tgt := 59) rfl (fun c4 => ?_) (fun c4 => ?_)
        · refine j_iload_n dX5_ifBeats_59 rfl ?_
          refine j_iconst (v := 2) dX5_ifBeats_60 (by decide) ?_
          refine j_icmp_ne dX5_ifBeats_61 (tgt := 70) rfl (fun c5 => ?_) (fun c5 => ?_)
          · refine j_sipush (v := 205) dX5_ifBeats_70 (by decide) ?_
            refine j_istore_n dX5_ifBeats_73 (by decide) ?_
            refine j_aload_n dX5_ifBeats_74 rfl ?_
            refine j_get (v := .ref 216) dX5_ifBeats_75 fX5_7 rfl (by decide) (gS_p0 (gP_gW hg)) ?_
            refine j_iload_n dX5_ifBeats_78 rfl ?_
            refine s_ald 205 dX5_ifBeats_79 (rfl) (by first | decide | omega) ?_
            refine j_aload_n dX5_ifBeats_80 rfl ?_
            refine j_get (v := .ref 219) dX5_ifBeats_81 fX5_19 rfl (by decide) (gS_p3 (gP_gW hg)) ?_
            refine j_iload_n dX5_ifBeats_84 rfl ?_
            refine w_ald (205) dX5_ifBeats_85 (rfl) (by first | decide | omega) ?_
            refine j_isub dX5_ifBeats_86 ?_
            refine j_istore dX5_ifBeats_87 (by decide) ?_
            refine j_aload_n dX5_ifBeats_89 rfl ?_
            refine j_get (v := .ref 219) dX5_ifBeats_90 fX5_19 rfl (by decide) (gS_p3 (gP_gW hg)) ?_
            refine j_aload_n dX5_ifBeats_93 rfl ?_
            refine j_get (v := .ref 216) dX5_ifBeats_94 fX5_7 rfl (by decide) (gS_p0 (gP_gW hg)) ?_
            refine k_callS2v dX5_ifBeats_97 vX5_ifBeats_114 (s_copies (f := s) (f1 := (aPass N m s)) gW_219 (va_up_self _ _ _) (by decide) rfl rfl (by decide) (by decide)) rfl rfl (Nat.le_of_ble_eq_true rfl) ⟨rfl, rfl⟩ rfl ?_
            rintro _ ⟨-, rfl⟩
            rw [show va_up (gS (gW g s) (aPass N m s)) 216 (iA s) = gS (gW g s) s from gS_s]
            refine j_iload dX5_ifBeats_100 rfl ?_
            refine j_iret dX5_ifBeats_102 rfl (rfl) ?_
            exact hQ _ _ (z_pv ((if_neg c1).trans ((if_neg c2).trans ((by rw [hb2]; exact ((if_neg c3).trans ((if_neg c4).trans ((if_neg c5).trans (rfl)))))))))
          · refine j_sipush (v := 202) dX5_ifBeats_64 (by decide) ?_
            refine j_goto dX5_ifBeats_67 (tgt := 73) rfl ?_
            refine j_istore_n dX5_ifBeats_73 (by decide) ?_
            refine j_aload_n dX5_ifBeats_74 rfl ?_
            refine j_get (v := .ref 216) dX5_ifBeats_75 fX5_7 rfl (by decide) (gS_p0 (gP_gW hg)) ?_
            refine j_iload_n dX5_ifBeats_78 rfl ?_
            refine s_ald 202 dX5_ifBeats_79 (rfl) (by first | decide | omega) ?_
            refine j_aload_n dX5_ifBeats_80 rfl ?_
            refine j_get (v := .ref 219) dX5_ifBeats_81 fX5_19 rfl (by decide) (gS_p3 (gP_gW hg)) ?_
            refine j_iload_n dX5_ifBeats_84 rfl ?_
            refine w_ald (202) dX5_ifBeats_85 (rfl) (by first | decide | omega) ?_
            refine j_isub dX5_ifBeats_86 ?_
            refine j_istore dX5_ifBeats_87 (by decide) ?_
            refine j_aload_n dX5_ifBeats_89 rfl ?_
            refine j_get (v := .ref 219) dX5_ifBeats_90 fX5_19 rfl (by decide) (gS_p3 (gP_gW hg)) ?_
            refine j_aload_n dX5_ifBeats_93 rfl ?_
            refine j_get (v := .ref 216) dX5_ifBeats_94 fX5_7 rfl (by decide) (gS_p0 (gP_gW hg)) ?_
            refine k_callS2v dX5_ifBeats_97 vX5_ifBeats_114 (s_copies (f := s) (f1 := (aPass N m s)) gW_219 (va_up_self _ _ _) (by decide) rfl rfl (by decide) (by decide)) rfl rfl (Nat.le_of_ble_eq_true rfl) ⟨rfl, rfl⟩ rfl ?_
            rintro _ ⟨-, rfl⟩
            rw [show va_up (gS (gW g s) (aPass N m s)) 216 (iA s) = gS (gW g s) s from gS_s]
            refine j_iload dX5_ifBeats_100 rfl ?_
            refine j_iret dX5_ifBeats_102 rfl (rfl) ?_
            exact hQ _ _ (z_pv ((if_neg c1).trans ((if_neg c2).trans ((by rw [hb2]; exact ((if_neg c3).trans ((if_neg c4).trans ((if_pos c5).trans (rfl)))))))))
        · refine j_sipush (v := 208) dX5_ifBeats_53 (by decide) ?_
          refine j_goto dX5_ifBeats_56 (tgt := 73) rfl ?_
          refine j_istore_n dX5_ifBeats_73 (by decide) ?_
          refine j_aload_n dX5_ifBeats_74 rfl ?_
          refine j_get (v := .ref 216) dX5_ifBeats_75 fX5_7 rfl (by decide) (gS_p0 (gP_gW hg)) ?_
          refine j_iload_n dX5_ifBeats_78 rfl ?_
          refine s_ald 208 dX5_ifBeats_79 (rfl) (by first | decide | omega) ?_
          refine j_aload_n dX5_ifBeats_80 rfl ?_
          refine j_get (v := .ref 219) dX5_ifBeats_81 fX5_19 rfl (by decide) (gS_p3 (gP_gW hg)) ?_
          refine j_iload_n dX5_ifBeats_84 rfl ?_
          refine w_ald (208) dX5_ifBeats_85 (rfl) (by first | decide | omega) ?_
          refine j_isub dX5_ifBeats_86 ?_
          refine j_istore dX5_ifBeats_87 (by decide) ?_
          refine j_aload_n dX5_ifBeats_89 rfl ?_
          refine j_get (v := .ref 219) dX5_ifBeats_90 fX5_19 rfl (by decide) (gS_p3 (gP_gW hg)) ?_
          refine j_aload_n dX5_ifBeats_93 rfl ?_
          refine j_get (v := .ref 216) dX5_ifBeats_94 fX5_7 rfl (by decide) (gS_p0 (gP_gW hg)) ?_
          refine k_callS2v dX5_ifBeats_97 vX5_ifBeats_114 (s_copies (f := s) (f1 := (aPass N m s)) gW_219 (va_up_self _ _ _) (by decide) rfl rfl (by decide) (by decide)) rfl rfl (Nat.le_of_ble_eq_true rfl) ⟨rfl, rfl⟩ rfl ?_
          rintro _ ⟨-, rfl⟩
          rw [show va_up (gS (gW g s) (aPass N m s)) 216 (iA s) = gS (gW g s) s from gS_s]
          refine j_iload dX5_ifBeats_100 rfl ?_
          refine j_iret dX5_ifBeats_102 rfl (rfl) ?_
          exact hQ _ _ (z_pv ((if_neg c1).trans ((if_neg c2).trans ((by rw [hb2]; exact ((if_neg c3).trans ((if_pos c4).trans (rfl))))))))
      · refine j_sipush (v := 207) dX5_ifBeats_42 (by decide) ?_
        refine j_goto dX5_ifBeats_45 (tgt := 73) rfl ?_
        refine j_istore_n dX5_ifBeats_73 (by decide) ?_
        refine j_aload_n dX5_ifBeats_74 rfl ?_
        refine j_get (v := .ref 216) dX5_ifBeats_75 fX5_7 rfl (by decide) (gS_p0 (gP_gW hg)) ?_
        refine j_iload_n dX5_ifBeats_78 rfl ?_
        refine s_ald 207 dX5_ifBeats_79 (rfl) (by first | decide | omega) ?_
        refine j_aload_n dX5_ifBeats_80 rfl ?_
        refine j_get (v := .ref 219) dX5_ifBeats_81 fX5_19 rfl (by decide) (gS_p3 (gP_gW hg)) ?_
        refine j_iload_n dX5_ifBeats_84 rfl ?_
        refine w_ald (207) dX5_ifBeats_85 (rfl) (by first | decide | omega) ?_
        refine j_isub dX5_ifBeats_86 ?_
        refine j_istore dX5_ifBeats_87 (by decide) ?_
        refine j_aload_n dX5_ifBeats_89 rfl ?_
        refine j_get (v := .ref 219) dX5_ifBeats_90 fX5_19 rfl (by decide) (gS_p3 (gP_gW hg)) ?_
        refine j_aload_n dX5_ifBeats_93 rfl ?_
        refine j_get (v := .ref 216) dX5_ifBeats_94 fX5_7 rfl (by decide) (gS_p0 (gP_gW hg)) ?_
        refine k_callS2v dX5_ifBeats_97 vX5_ifBeats_114 (s_copies (f := s) (f1 := (aPass N m s)) gW_219 (va_up_self _ _ _) (by decide) rfl rfl (by decide) (by decide)) rfl rfl (Nat.le_of_ble_eq_true rfl) ⟨rfl, rfl⟩ rfl ?_
        rintro _ ⟨-, rfl⟩
        rw [show va_up (gS (gW g s) (aPass N m s)) 216 (iA s) = gS (gW g s) s from gS_s]
        refine j_iload dX5_ifBeats_100 rfl ?_
        refine j_iret dX5_ifBeats_102 rfl (rfl) ?_
        exact hQ _ _ (z_pv ((if_neg c1).trans ((if_neg c2).trans ((by rw [hb2]; exact ((if_pos c3).trans (rfl)))))))
    · refine j_ldc (v := (-1000001)) dX5_ifBeats_19 cX5_78 ?_
      refine j_iret dX5_ifBeats_21 rfl (rfl) ?_
      exact hQ _ _ (z_pw h9 ((if_neg c1).trans ((if_pos c2).trans (rfl))))
def aGl (N : Nat) : Nat → Nat → (Nat → Int32) → Nat × (Nat → Int32)
  | 0, c, s => (c, s)
  | f + 1, c, s => if s 148 = 1 then aGl N f (c + 1) (aBeat s N) else (c, s)
def aGi2 (p : Nat × (Nat → Int32)) : Int32 := if p.2 148 = 1 then -1000004 else nI p.1
def aGi (s : Nat → Int32) (N : Nat) : Int32 := if s 148 = 0 then -1000002 else aGi2 (aGl N 200 0 s)
set_option maxRecDepth 4000 in
set_option maxHeartbeats 2000000 in
theorem s_goneIn_end {g : zH} (hg : gP g) {s0 t : Nat → Int32} {c : Nat} {X : Nat × (Nat → Int32)} {Q : zQt} (hQ : ∀ x, aGi2 (c, t) = x → Q (some x) 222 (gS (gW g s0) s0)) : zJ X mX5_goneIn 222 56 [.ref 215, .int (nI c)] [] 222 (gS (gW g s0) t) Q := by
  refine j_aload_n dX5_goneIn_56 rfl ?_
  refine j_get (v := .ref 216) dX5_goneIn_57 fX5_7 rfl (by decide) (gS_p0 (gP_gW hg)) ?_
  refine j_sipush (v := 148) dX5_goneIn_60 (by decide) ?_
  refine s_ald 148 dX5_goneIn_63 (rfl) (by first | decide | omega) ?_
  refine j_iconst (v := 1) dX5_goneIn_64 (by decide) ?_
  refine j_icmp_ne dX5_goneIn_65 (tgt := 73) rfl (fun c1 => ?_) (fun c1 => ?_)
  · refine j_iload_n dX5_goneIn_73 rfl ?_
    refine j_istore_n dX5_goneIn_74 (by decide) ?_
    refine j_aload_n dX5_goneIn_75 rfl ?_
    refine j_get (v := .ref 219) dX5_goneIn_76 fX5_19 rfl (by decide) (gS_p3 (gP_gW hg)) ?_
    refine j_aload_n dX5_goneIn_79 rfl ?_
    refine j_get (v := .ref 216) dX5_goneIn_80 fX5_7 rfl (by decide) (gS_p0 (gP_gW hg)) ?_
    refine k_callS2v dX5_goneIn_83 vX5_goneIn_114 (s_copies (f := s0) (f1 := t) gW_219 (va_up_self _ _ _) (by decide) rfl rfl (by decide) (by decide)) rfl rfl (Nat.le_of_ble_eq_true rfl) ⟨rfl, rfl⟩ rfl ?_
    rintro _ ⟨-, rfl⟩
    rw [show va_up (gS (gW g s0) t) 216 (iA s0) = gS (gW g s0) s0 from gS_s]
    refine j_iload_n dX5_goneIn_86 rfl ?_
    refine j_iret dX5_goneIn_87 rfl (rfl) ?_
    exact hQ _ ((if_neg c1).trans (rfl))
  · refine j_ldc (v := (-1000004)) dX5_goneIn_68 cX5_44 ?_
    refine j_goto dX5_goneIn_70 (tgt := 74) rfl ?_
    refine j_istore_n dX5_goneIn_74 (by decide) ?_
    refine j_aload_n dX5_goneIn_75 rfl ?_
    refine j_get (v := .ref 219) dX5_goneIn_76 fX5_19 rfl (by decide) (gS_p3 (gP_gW hg)) ?_
    refine j_aload_n dX5_goneIn_79 rfl ?_
    refine j_get (v := .ref 216) dX5_goneIn_80 fX5_7 rfl (by decide) (gS_p0 (gP_gW hg)) ?_
    refine k_callS2v dX5_goneIn_83 vX5_goneIn_114 (s_copies (f := s0) (f1 := t) gW_219 (va_up_self _ _ _) (by decide) rfl rfl (by decide) (by decide)) rfl rfl (Nat.le_of_ble_eq_true rfl) ⟨rfl, rfl⟩ rfl ?_
    rintro _ ⟨-, rfl⟩
    rw [show va_up (gS (gW g s0) t) 216 (iA s0) = gS (gW g s0) s0 from gS_s]
    refine j_iload_n dX5_goneIn_86 rfl ?_
    refine j_iret dX5_goneIn_87 rfl (rfl) ?_
    exact hQ _ ((if_pos c1).trans (rfl))
set_option maxRecDepth 4000 in
set_option maxHeartbeats 2000000 in
theorem s_goneIn_lp {g : zH} (hg : gP g) {s0 : Nat → Int32} {N : Nat} {X : Nat × (Nat → Int32)} {Q : zQt} : ∀ (f c : Nat) (t : Nat → Int32), c + f = 200 → aOk t N → (∀ x, aGi2 (aGl N f c t) = x → Q (some x) 222 (gS (gW g s0) s0)) → zJ X mX5_goneIn 222 27 [.ref 215, .int (nI c)] [] 222 (gS (gW g s0) t) Q := by
  intro f
  induction f with
  | zero =>
    intro c t hc hok hQ
    refine j_iload_n dX5_goneIn_27 rfl ?_
    refine j_sipush (v := 200) dX5_goneIn_28 (by decide) ?_
    refine j_icmp_ge dX5_goneIn_31 (tgt := 56) rfl (fun _ => ?_) (fun c1 => absurd (show 200 ≤ nI c from nI_le (a := 200) (by omega) (by omega)) c1)
    exact s_goneIn_end hg hQ
  | succ f ih =>
    intro c t hc hok hQ
    refine j_iload_n dX5_goneIn_27 rfl ?_
    refine j_sipush (v := 200) dX5_goneIn_28 (by decide) ?_
    refine j_icmp_ge dX5_goneIn_31 (tgt := 56) rfl (fun c1 => absurd c1 (show ¬ 200 ≤ nI c from nI_ge (b := 200) (by omega) (by omega))) (fun _ => ?_)
    refine j_aload_n dX5_goneIn_34 rfl ?_
    refine j_get (v := .ref 216) dX5_goneIn_35 fX5_7 rfl (by decide) (gS_p0 (gP_gW hg)) ?_
    refine j_sipush (v := 148) dX5_goneIn_38 (by decide) ?_
    refine s_ald 148 dX5_goneIn_41 (rfl) (by first | decide | omega) ?_
    refine j_iconst (v := 1) dX5_goneIn_42 (by decide) ?_
    refine j_icmp_ne dX5_goneIn_43 (tgt := 56) rfl (fun c2 => ?_) (fun c2 => ?_)
    · exact s_goneIn_end hg (fun x h => hQ x ((congrArg aGi2 ((if_neg c2).trans (rfl) : aGl N (f + 1) c t = (c, t))).trans h))
    · refine j_aload_n dX5_goneIn_46 rfl ?_
      refine k_callV0v dX5_goneIn_47 vX5_goneIn_93 (s_beat (gP_gW hg) hok) rfl (by decide)  (Nat.le_of_ble_eq_true rfl) ⟨rfl, rfl⟩ rfl ?_
      rintro _ ⟨-, rfl⟩
      refine j_iinc (v := nI (c + 1)) dX5_goneIn_50 rfl z_inc (by decide) ?_
      refine j_goto dX5_goneIn_53 (tgt := 27) rfl ?_
      exact ih (c + 1) _ (by omega) (aOk_beat hok) (fun x h => hQ x ((congrArg aGi2 ((if_pos c2).trans (rfl) : aGl N (f + 1) c t = aGl N f (c + 1) (aBeat t N))).trans h))
set_option maxRecDepth 4000 in
set_option maxHeartbeats 1000000 in
theorem s_goneIn {g : zH} (hg : gP g) {s : Nat → Int32} {N : Nat} (hok : aOk s N) {sp : Nat → Int32} (h9 : g 219 = iA sp) : zCT mX5_goneIn [.ref 215] 222 (gS g s) 222 (fun r h' => r = some (aGi s N) ∧ ∃ sq, h' = gS (gW g sq) s) := by
  intro X Q hQ
  show zJ X mX5_goneIn 222 0 [.ref 215, .null] [] 222 (gS g s) Q
  refine j_aload_n dX5_goneIn_0 rfl ?_
  refine j_get (v := .ref 216) dX5_goneIn_1 fX5_7 rfl (by decide) (gS_p0 hg) ?_
  refine j_sipush (v := 148) dX5_goneIn_4 (by decide) ?_
  refine s_ald 148 dX5_goneIn_7 (rfl) (by first | decide | omega) ?_
  refine j_if_ne dX5_goneIn_8 (tgt := 14) rfl (fun c1 => ?_) (fun c1 => ?_)
  · refine j_aload_n dX5_goneIn_14 rfl ?_
    refine j_get (v := .ref 216) dX5_goneIn_15 fX5_7 rfl (by decide) (gS_p0 hg) ?_
    refine j_aload_n dX5_goneIn_18 rfl ?_
    refine j_get (v := .ref 219) dX5_goneIn_19 fX5_19 rfl (by decide) (gS_p3 hg) ?_
    refine k_callS2v dX5_goneIn_22 vX5_goneIn_114 (s_copies (f := s) (f1 := sp) (va_up_self _ _ _) (by rw [gS_ne (by decide)]; exact h9) (by decide) rfl rfl (by decide) (by decide)) rfl rfl (Nat.le_of_ble_eq_true rfl) ⟨rfl, rfl⟩ rfl ?_
    rintro _ ⟨-, rfl⟩
    rw [show va_up (gS g s) 219 (iA s) = gS (gW g s) s from gS_upn (by decide)]
    refine j_iconst (v := 0) dX5_goneIn_25 (by decide) ?_
    refine j_istore_n dX5_goneIn_26 (by decide) ?_
    exact s_goneIn_lp hg 200 0 s (by omega) hok (fun x h => hQ _ _ (z_pv (((if_neg c1).trans (rfl)).trans h)))
  · refine j_ldc (v := (-1000002)) dX5_goneIn_11 cX5_82 ?_
    refine j_iret dX5_goneIn_13 rfl (rfl) ?_
    exact hQ _ _ (z_pw h9 ((if_pos c1).trans (rfl)))
/-- the check's held array -/
def gD (g : zH) (hd : Nat → Int32) : zH := va_up g 218 (iA hd)
theorem gP_gD {g : zH} {hd : Nat → Int32} (hg : gP g) : gP (gD g hd) := by
  unfold gP gD
  rw [va_up_ne _ _ (by decide)]
  exact hg
theorem gD_218 {g : zH} {sp s hd : Nat → Int32} : gS (gW (gD g hd) sp) s 218 = iA hd := by
  rw [gS_ne (by decide)]
  unfold gW gD
  rw [va_up_ne _ _ (by decide), va_up_self]
theorem gD_self {g : zH} {hd : Nat → Int32} (h : g 218 = iA hd) : gD g hd = g := by
  funext a
  by_cases q : a = 218
  · subst q
    unfold gD
    rw [va_up_self, h]
  · exact va_up_ne _ _ q
/-- some nights: the array, and what the colds were ahead of the last one -/
def aNs (N : Nat) : Nat → (Nat → Int32) → (Nat → Int32) → (Nat → Int32) × (Nat → Int32)
  | 0, s, sp => (s, sp)
  | n + 1, s, sp => aNs N n (aNight s (aMix s sp (11 * N)) N) (aMix s sp (11 * N))
def aIfN (s sp : Nat → Int32) (N : Nat) (m : Int32) : Int32 := if aIn m 1 20 = 0 then -1000001 else nI (aPop 12 (aCo (aNs N m.toNatClampNeg s sp).1 N 0 0))
theorem z_px {g : zH} {s sp hd : Nat → Int32} (h9 : g 219 = iA sp) (h8 : g 218 = iA hd) {p x : Int32} (e : p = x) : some x = some p ∧ ∃ sq hq, gS g s = gS (gW (gD g hq) sq) s := by
  subst e
  refine ⟨rfl, sp, hd, ?_⟩
  rw [gD_self h8, gW_self h9]
set_option maxRecDepth 4000 in
set_option maxHeartbeats 2000000 in
theorem s_ifNights_lp {g : zH} (hg : gP g) {s0 : Nat → Int32} {N m : Nat} (hN : N ≤ 12) (hm : m ≤ 20) {X : Nat × (Nat → Int32)} {Q : zQt} : ∀ (n k : Nat) (t sp : Nat → Int32), k + n = m → t 199 = nI N → (∀ x sq, nI (aPop 12 (aCo (aNs N n t sp).1 N 0 0)) = x → Q (some x) 222 (gS (gW (gD g s0) sq) s0)) → zJ X mX5_ifNights 222 26 [.ref 215, .int (nI m), .int (nI k)] [] 222 (gS (gW (gD g s0) sp) t) Q := by
  intro n
  induction n with
  | zero =>
    intro k t sp hk hn hQ
    refine j_iload_n dX5_ifNights_26 rfl ?_
    refine j_iload_n dX5_ifNights_27 rfl ?_
    refine j_icmp_ge dX5_ifNights_28 (tgt := 41) rfl (fun _ => ?_) (fun c1 => absurd (show nI m ≤ nI k from nI_le (by omega) (by omega)) c1)
    refine j_aload_n dX5_ifNights_41 rfl ?_
    refine k_callV0i dX5_ifNights_42 vX5_ifNights_108 (s_colds (gP_gW (gP_gD hg)) hn hN) rfl (by decide)  (Nat.le_of_ble_eq_true rfl) ⟨rfl, rfl⟩ rfl ?_
    rintro _ _ ⟨⟨⟩, rfl⟩
    refine k_callS1i dX5_ifNights_45 vX5_ifNights_111 (s_bits (aCo t N 0 0) (aCo_lt _ _ _ (by omega) (by omega))) rfl (Nat.le_of_ble_eq_true rfl) ⟨rfl, rfl⟩ rfl ?_
    rintro _ _ ⟨⟨⟩, rfl⟩
    refine j_istore_n dX5_ifNights_48 (by decide) ?_
    refine j_aload_n dX5_ifNights_49 rfl ?_
    refine j_get (v := .ref 218) dX5_ifNights_50 fX5_16 rfl (by decide) (gS_p2 (gP_gW (gP_gD hg))) ?_
    refine j_aload_n dX5_ifNights_53 rfl ?_
    refine j_get (v := .ref 216) dX5_ifNights_54 fX5_7 rfl (by decide) (gS_p0 (gP_gW (gP_gD hg))) ?_
    refine k_callS2v dX5_ifNights_57 vX5_ifNights_114 (s_copies (f := s0) (f1 := t) gD_218 (va_up_self _ _ _) (by decide) rfl rfl (by decide) (by decide)) rfl rfl (Nat.le_of_ble_eq_true rfl) ⟨rfl, rfl⟩ rfl ?_
    rintro _ ⟨-, rfl⟩
    rw [show va_up (gS (gW (gD g s0) sp) t) 216 (iA s0) = gS (gW (gD g s0) sp) s0 from gS_s]
    refine j_iload_n dX5_ifNights_60 rfl ?_
    refine j_iret dX5_ifNights_61 rfl (rfl) ?_
    exact hQ _ _ rfl
  | succ n ih =>
    intro k t sp hk hn hQ
    refine j_iload_n dX5_ifNights_26 rfl ?_
    refine j_iload_n dX5_ifNights_27 rfl ?_
    refine j_icmp_ge dX5_ifNights_28 (tgt := 41) rfl (fun c1 => absurd c1 (show ¬ nI m ≤ nI k from nI_ge (by omega) (by omega))) (fun _ => ?_)
    refine j_aload_n dX5_ifNights_31 rfl ?_
    refine k_callV0v dX5_ifNights_32 vX5_ifNights_105 (s_nightPasses (gP_gW (gP_gD hg)) (va_up_self _ _ _) hn hN) rfl (by decide)  (Nat.le_of_ble_eq_true rfl) ⟨rfl, rfl⟩ rfl ?_
    rintro _ ⟨-, rfl⟩
    rw [gW_W]
    refine j_iinc (v := nI (k + 1)) dX5_ifNights_35 rfl z_inc (by decide) ?_
    refine j_goto dX5_ifNights_38 (tgt := 26) rfl ?_
    exact ih (k + 1) _ _ (by omega) ((aNight_199 hN).trans hn) hQ
set_option maxRecDepth 4000 in
set_option maxHeartbeats 1000000 in
theorem s_ifNights {g : zH} (hg : gP g) {s : Nat → Int32} {N : Nat} (hn : s 199 = nI N) (hN : N ≤ 12) {sp hd : Nat → Int32} (h9 : g 219 = iA sp) (h8 : g 218 = iA hd) {m0 : Int32} : zCT mX5_ifNights [.ref 215, .int m0] 222 (gS g s) 222 (fun r h' => r = some (aIfN s sp N m0) ∧ ∃ sq hq, h' = gS (gW (gD g hq) sq) s) := by
  intro X Q hQ
  show zJ X mX5_ifNights 222 0 [.ref 215, .int m0, .null] [] 222 (gS g s) Q
  refine j_iload_n dX5_ifNights_0 rfl ?_
  refine j_iconst (v := 1) dX5_ifNights_1 (by decide) ?_
  refine j_bipush (v := 20) dX5_ifNights_2 (by decide) ?_
  refine k_callS3i dX5_ifNights_4 vX5_ifNights_36 (s_in) rfl rfl rfl (Nat.le_of_ble_eq_true rfl) ⟨rfl, rfl⟩ rfl ?_
  rintro _ _ ⟨⟨⟩, rfl⟩
  refine j_if_ne dX5_ifNights_7 (tgt := 13) rfl (fun c1 => ?_) (fun c1 => ?_)
  · obtain ⟨m, hm1, hm2, rfl, hb2⟩ := aIn_nat (a := 1) (b := 20) (by omega) (by omega) ‹¬ aIn m0 1 20 = 0›
    refine j_aload_n dX5_ifNights_13 rfl ?_
    refine j_get (v := .ref 216) dX5_ifNights_14 fX5_7 rfl (by decide) (gS_p0 hg) ?_
    refine j_aload_n dX5_ifNights_17 rfl ?_
    refine j_get (v := .ref 218) dX5_ifNights_18 fX5_16 rfl (by decide) (gS_p2 hg) ?_
    refine k_callS2v dX5_ifNights_21 vX5_ifNights_114 (s_copies (f := s) (f1 := hd) (va_up_self _ _ _) (by rw [gS_ne (by decide)]; exact h8) (by decide) rfl rfl (by decide) (by decide)) rfl rfl (Nat.le_of_ble_eq_true rfl) ⟨rfl, rfl⟩ rfl ?_
    rintro _ ⟨-, rfl⟩
    rw [show va_up (gS g s) 218 (iA s) = gS (gD g s) s from gS_upn (by decide)]
    refine j_iconst (v := 0) dX5_ifNights_24 (by decide) ?_
    refine j_istore_n dX5_ifNights_25 (by decide) ?_
    rw [show gD g s = gW (gD g s) sp from (gW_self (by unfold gD; rw [va_up_ne _ _ (by decide)]; exact h9)).symm]
    exact s_ifNights_lp hg hN hm2 m 0 s sp (by omega) hn (fun x sq h => hQ _ _ ⟨congrArg some (((if_neg c1).trans ((by rw [hb2]; exact h)) : aIfN s sp N (nI m) = x)).symm, sq, s, rfl⟩)
  · refine j_ldc (v := (-1000001)) dX5_ifNights_10 cX5_78 ?_
    refine j_iret dX5_ifNights_12 rfl (rfl) ?_
    exact hQ _ _ (z_px h9 h8 ((if_pos c1).trans (rfl)))
def aUnS (pa : Nat → Int32) (q : Nat) : Nat → Int32 := fun j => pa (215 * q + j)
set_option maxRecDepth 4000 in
set_option maxHeartbeats 2000000 in
theorem s_undo_lp {g : zH} (hg : gP g) {pa s : Nat → Int32} {q : Nat} (hq : q < 4) {X : Nat × (Nat → Int32)} {Q : zQt} (hQ : Q (some (nI q)) 222 (gS (gH g pa q) (aUnS pa q))) : ∀ (n k : Nat), k + n = 215 → zJ X mX5_undo 222 22 [.ref 215, .int (nI k)] [] 222 (gS (gH g pa q) (aMix (aUnS pa q) s k)) Q := by
  intro n
  induction n with
  | zero =>
    intro k hk
    obtain rfl : k = 215 := by omega
    refine j_same (h' := gS (gH g pa q) (aUnS pa q)) (fun a ha k hk => ?_) ?_
    · by_cases w : a = 216
      · subst w
        have hk : k < 215 := hk
        unfold gS
        rw [va_up_self, va_up_self]
        simp [aMix, hk]
      · rw [gS_ne w, gS_ne w]
    refine j_iload_n dX5_undo_22 rfl ?_
    refine j_sipush (v := 215) dX5_undo_23 (by decide) ?_
    refine j_icmp_ge dX5_undo_26 (tgt := 56) rfl (fun _ => ?_) (fun c1 => absurd (show nI 215 ≤ 215 by decide) c1)
    refine j_aload_n dX5_undo_56 rfl ?_
    refine j_get (v := .int (nI q)) dX5_undo_57 fX5_32 rfl (by decide) gH_4 ?_
    refine j_iret dX5_undo_60 rfl (rfl) ?_
    exact hQ
  | succ n ih =>
    intro k hk
    refine j_iload_n dX5_undo_22 rfl ?_
    refine j_sipush (v := 215) dX5_undo_23 (by decide) ?_
    refine j_icmp_ge dX5_undo_26 (tgt := 56) rfl (fun c1 => absurd c1 (show ¬ nI 215 ≤ nI k from nI_ge (by omega) (by omega))) (fun _ => ?_)
    refine j_aload_n dX5_undo_29 rfl ?_
    refine j_get (v := .ref 216) dX5_undo_30 fX5_7 rfl (by decide) (gS_p0 (gP_gH hg)) ?_
    refine j_iload_n dX5_undo_33 rfl ?_
    refine j_aload_n dX5_undo_34 rfl ?_
    refine j_get (v := .ref 217) dX5_undo_35 fX5_13 rfl (by decide) (gS_p1 (gP_gH hg)) ?_
    refine j_sipush (v := 215) dX5_undo_38 (by decide) ?_
    refine j_aload_n dX5_undo_41 rfl ?_
    refine j_get (v := .int (nI q)) dX5_undo_42 fX5_32 rfl (by decide) gH_4 ?_
    refine j_imul dX5_undo_45 ?_
    refine j_iload_n dX5_undo_46 rfl ?_
    refine j_iadd dX5_undo_47 ?_
    refine h_ald (((215 * q) + k)) dX5_undo_48 (by first | rfl | (simp only [z_n, pk_mul, nI_add]; done) | (simp only [z_n, pk_mul, nI_add]; exact pk_sub (by omega)) | (simp only [z_n, pk_mul, nI_add, pk_sub, *]; done)) (by first | decide | omega) ?_
    refine s_ast k dX5_undo_49 (by first | rfl | (simp only [z_n, pk_mul, nI_add]; done) | (simp only [z_n, pk_mul, nI_add]; exact pk_sub (by omega)) | (simp only [z_n, pk_mul, nI_add, pk_sub, *]; done)) (by first | decide | omega) ?_
    refine j_iinc (v := nI (k + 1)) dX5_undo_50 rfl z_inc (by decide) ?_
    refine j_goto dX5_undo_53 (tgt := 22) rfl ?_
    rw [show upd (aMix (aUnS pa q) s k) k (pa (215 * q + k)) = aMix (aUnS pa q) s (k + 1) from aMix_up]
    exact ih (k + 1) (by omega)
/-- the check's undo: how many are left, and whether one was there -/
theorem s_undo {g : zH} (hg : gP g) {pa s : Nat → Int32} {p : Nat} (hp : p ≤ 4) : zCT mX5_undo [.ref 215] 222 (gS (gH g pa p) s) 222 (fun r h' => if p = 0 then r = some (-1000002) ∧ h' = gS (gH g pa p) s else r = some (nI (p - 1)) ∧ h' = gS (gH g pa (p - 1)) (aUnS pa (p - 1))) := by
  intro X Q hQ
  show zJ X mX5_undo 222 0 [.ref 215, .null] [] 222 (gS (gH g pa p) s) Q
  refine j_aload_n dX5_undo_0 rfl ?_
  refine j_get (v := .int (nI p)) dX5_undo_1 fX5_32 rfl (by decide) gH_4 ?_
  refine j_if_ne dX5_undo_4 (tgt := 10) rfl (fun c1 => ?_) (fun c1 => ?_)
  · have hp0 : p ≠ 0 := fun q => ‹¬ nI p = 0› (by rw [q]; rfl)
    refine j_aload_n dX5_undo_10 rfl ?_
    refine j_dup dX5_undo_11 rfl ?_
    refine j_get (v := .int (nI p)) dX5_undo_12 fX5_32 rfl (by decide) gH_4 ?_
    refine j_iconst (v := 1) dX5_undo_15 (by decide) ?_
    refine j_isub dX5_undo_16 ?_
    refine h_put4 ((p - 1)) 32 dX5_undo_17 fX5_32 (by first | rfl | (simp only [z_n, pk_mul, nI_add]; done) | (simp only [z_n, pk_mul, nI_add]; exact pk_sub (by omega)) | (simp only [z_n, pk_mul, nI_add, pk_sub, *]; done)) ?_
    refine j_iconst (v := 0) dX5_undo_20 (by decide) ?_
    refine j_istore_n dX5_undo_21 (by decide) ?_
    rw [← aMix_0 (f := aUnS pa (p - 1)) (g := s)]
    exact s_undo_lp hg (by omega) (hQ _ _ (by dsimp only; rw [if_neg hp0]; exact ⟨rfl, rfl⟩)) 215 0 (by omega)
  · refine j_ldc (v := (-1000002)) dX5_undo_7 cX5_82 ?_
    refine j_iret dX5_undo_9 rfl (rfl) ?_
    have hp0 : p = 0 := (nI_eq (b := 0) (by omega) (by omega)).mp ‹nI p = 0›
    subst hp0
    exact hQ _ _ (by dsimp only; rw [if_pos rfl]; exact ⟨rfl, rfl⟩)
