theorem z_lt_nat {x : Int32} {W : Nat} (hW : W < 1000) (h1 : ¬ x < 0) (h2 : ¬ nI W ≤ x) : ∃ k, k < W ∧ x = nI k ∧ x.toNatClampNeg = k := by
  obtain ⟨k, hk, rfl⟩ := nI_of h1
  rw [nI_leI (by omega) hk] at h2
  exact ⟨k, by omega, rfl, nI_clamp hk⟩
def aBof (s : Nat → Int32) (b v : Int32) : Int32 :=
  if aIs s b = 0 then -1000001 else if aIn v 0 10 = 0 then -1000001
  else if 6 ≤ v then (if v = 6 then 100 + aLoud s b.toNatClampNeg else s (11 * b.toNatClampNeg + (v.toNatClampNeg - 1))) else s (11 * b.toNatClampNeg + v.toNatClampNeg)
def aAt (s : Nat → Int32) (N : Nat) (row seat : Int32) : Int32 := if aSeat row seat = 0 then -1000001 else aFind s row seat N 0
def aWhy (s : Nat → Int32) (b : Int32) : Int32 := if aIs s b = 0 then -1000001 else aBar s b.toNatClampNeg
def aWai (s : Nat → Int32) (p v : Int32) : Int32 := if p < 0 then -1000001 else if aIn v 0 1 = 0 then -1000001 else if s 200 ≤ p then -1000004 else s (132 + 2 * p.toNatClampNeg + v.toNatClampNeg)
def aBk2 (x v : Int32) : Int32 := if v = 2 then (if x ≤ 0 then -1000004 else x - 1) else x
def aBook (s : Nat → Int32) (p v : Int32) : Int32 := if p < 0 then -1000001 else if aIn v 0 4 = 0 then -1000001 else if p < s 210 then aBk2 (s (158 + 5 * p.toNatClampNeg + v.toNatClampNeg)) v else -1000004
set_option maxRecDepth 4000 in
set_option maxHeartbeats 1000000 in
theorem s_bidderOf {g : zH} (hg : gP g) {s : Nat → Int32} {N : Nat} (hn : s 199 = nI N) (hN : N ≤ 12) {b v : Int32} : zCT mX5_bidderOf [.ref 215, .int b, .int v] 222 (gS g s) 222 (fun r h' => r = some (aBof s b v) ∧ h' = gS g s) := by
  intro X Q hQ
  show zJ X mX5_bidderOf 222 0 [.ref 215, .int b, .int v] [] 222 (gS g s) Q
  refine j_aload_n dX5_bidderOf_0 rfl ?_
  refine j_iload_n dX5_bidderOf_1 rfl ?_
  refine k_callV1i dX5_bidderOf_2 vX5_bidderOf_90 (s_isBidder hg) rfl (by decide) rfl (Nat.le_of_ble_eq_true rfl) ⟨rfl, rfl⟩ rfl ?_
  rintro _ _ ⟨⟨⟩, rfl⟩
  refine j_if_eq dX5_bidderOf_5 (tgt := 18) rfl (fun c1 => ?_) (fun c1 => ?_)
  · refine j_ldc (v := (-1000001)) dX5_bidderOf_18 cX5_78 ?_
    refine j_iret dX5_bidderOf_20 rfl (rfl) ?_
    exact hQ _ _ (z_ps ((if_pos c1).trans (rfl)))
  · refine j_iload_n dX5_bidderOf_8 rfl ?_
    refine j_iconst (v := 0) dX5_bidderOf_9 (by decide) ?_
    refine j_bipush (v := 10) dX5_bidderOf_10 (by decide) ?_
    refine k_callS3i dX5_bidderOf_12 vX5_bidderOf_36 (s_in) rfl rfl rfl (Nat.le_of_ble_eq_true rfl) ⟨rfl, rfl⟩ rfl ?_
    rintro _ _ ⟨⟨⟩, rfl⟩
    refine j_if_ne dX5_bidderOf_15 (tgt := 21) rfl (fun c2 => ?_) (fun c2 => ?_)
    · obtain ⟨k, hk, rfl, hb2⟩ := aIs_nat hn hN ‹¬ aIs s b = 0›
      obtain ⟨j, hj1, hj2, rfl, hv2⟩ := aIn_nat (a := 0) (b := 10) (by omega) (by omega) ‹¬ aIn v 0 10 = 0›
      refine j_iload_n dX5_bidderOf_21 rfl ?_
      refine j_bipush (v := 6) dX5_bidderOf_22 (by decide) ?_
      refine j_icmp_ge dX5_bidderOf_24 (tgt := 36) rfl (fun c3 => ?_) (fun c3 => ?_)
      · refine j_iload_n dX5_bidderOf_36 rfl ?_
        refine j_bipush (v := 6) dX5_bidderOf_37 (by decide) ?_
        refine j_icmp_ne dX5_bidderOf_39 (tgt := 53) rfl (fun c4 => ?_) (fun c4 => ?_)
        · refine j_aload_n dX5_bidderOf_53 rfl ?_
          refine j_iload_n dX5_bidderOf_54 rfl ?_
          refine j_iload_n dX5_bidderOf_55 rfl ?_
          refine j_iconst (v := 1) dX5_bidderOf_56 (by decide) ?_
          refine j_isub dX5_bidderOf_57 ?_
          rw [show nI j - 1 = nI (j - 1) from pk_sub (a := j) (b := 1) (by have := (nI_leI (a := 6) (b := j) (by omega) (by omega)).mp ‹6 ≤ nI j›; omega)]
          refine k_callV2i dX5_bidderOf_58 vX5_bidderOf_40 (s_of hg k (j - 1) (by omega) (by omega)) rfl (by decide) rfl rfl (Nat.le_of_ble_eq_true rfl) ⟨rfl, rfl⟩ rfl ?_
          rintro _ _ ⟨⟨⟩, rfl⟩
          refine j_iret dX5_bidderOf_61 rfl (rfl) ?_
          exact hQ _ _ (z_ps ((if_neg c1).trans ((if_neg c2).trans ((if_pos c3).trans ((if_neg c4).trans ((by first | rw [hb2, hv2] | rw [hb2])))))))
        · refine j_bipush (v := 100) dX5_bidderOf_42 (by decide) ?_
          refine j_aload_n dX5_bidderOf_44 rfl ?_
          refine j_iload_n dX5_bidderOf_45 rfl ?_
          refine k_callV1i dX5_bidderOf_46 vX5_bidderOf_45 (s_loud hg k (by omega)) rfl (by decide) rfl (Nat.le_of_ble_eq_true rfl) ⟨rfl, rfl⟩ rfl ?_
          rintro _ _ ⟨⟨⟩, rfl⟩
          refine j_iadd dX5_bidderOf_49 ?_
          refine j_goto dX5_bidderOf_50 (tgt := 61) rfl ?_
          refine j_iret dX5_bidderOf_61 rfl (rfl) ?_
          exact hQ _ _ (z_ps ((if_neg c1).trans ((if_neg c2).trans ((if_pos c3).trans ((if_pos c4).trans ((by first | rw [hb2, hv2] | rw [hb2])))))))
      · refine j_aload_n dX5_bidderOf_27 rfl ?_
        refine j_iload_n dX5_bidderOf_28 rfl ?_
        refine j_iload_n dX5_bidderOf_29 rfl ?_
        refine k_callV2i dX5_bidderOf_30 vX5_bidderOf_40 (s_of hg k j (by omega) (by omega)) rfl (by decide) rfl rfl (Nat.le_of_ble_eq_true rfl) ⟨rfl, rfl⟩ rfl ?_
        rintro _ _ ⟨⟨⟩, rfl⟩
        refine j_goto dX5_bidderOf_33 (tgt := 61) rfl ?_
        refine j_iret dX5_bidderOf_61 rfl (rfl) ?_
        exact hQ _ _ (z_ps ((if_neg c1).trans ((if_neg c2).trans ((if_neg c3).trans ((by first | rw [hb2, hv2] | rw [hb2]))))))
    · refine j_ldc (v := (-1000001)) dX5_bidderOf_18 cX5_78 ?_
      refine j_iret dX5_bidderOf_20 rfl (rfl) ?_
      exact hQ _ _ (z_ps ((if_neg c1).trans ((if_pos c2).trans (rfl))))
set_option maxRecDepth 4000 in
set_option maxHeartbeats 1000000 in
theorem s_at {g : zH} (hg : gP g) {s : Nat → Int32} {N : Nat} (hn : s 199 = nI N) (hN : N ≤ 12) {row seat : Int32} : zCT mX5_at [.ref 215, .int row, .int seat] 222 (gS g s) 222 (fun r h' => r = some (aAt s N row seat) ∧ h' = gS g s) := by
  intro X Q hQ
  show zJ X mX5_at 222 0 [.ref 215, .int row, .int seat] [] 222 (gS g s) Q
  refine j_iload_n dX5_at_0 rfl ?_
  refine j_iload_n dX5_at_1 rfl ?_
  refine k_callS2i dX5_at_2 vX5_at_74 (s_isSeat) rfl rfl (Nat.le_of_ble_eq_true rfl) ⟨rfl, rfl⟩ rfl ?_
  rintro _ _ ⟨⟨⟩, rfl⟩
  refine j_if_eq dX5_at_5 (tgt := 17) rfl (fun c1 => ?_) (fun c1 => ?_)
  · refine j_ldc (v := (-1000001)) dX5_at_17 cX5_78 ?_
    refine j_iret dX5_at_19 rfl (rfl) ?_
    exact hQ _ _ (z_ps ((if_pos c1).trans (rfl)))
  · refine j_aload_n dX5_at_8 rfl ?_
    refine j_iload_n dX5_at_9 rfl ?_
    refine j_iload_n dX5_at_10 rfl ?_
    refine k_callV2i dX5_at_11 vX5_at_79 (s_seated hg hn hN) rfl (by decide) rfl rfl (Nat.le_of_ble_eq_true rfl) ⟨rfl, rfl⟩ rfl ?_
    rintro _ _ ⟨⟨⟩, rfl⟩
    refine j_goto dX5_at_14 (tgt := 19) rfl ?_
    refine j_iret dX5_at_19 rfl (rfl) ?_
    exact hQ _ _ (z_ps ((if_neg c1).trans (rfl)))
set_option maxRecDepth 4000 in
set_option maxHeartbeats 1000000 in
theorem s_why {g : zH} (hg : gP g) {s : Nat → Int32} {N : Nat} (hn : s 199 = nI N) (hN : N ≤ 12) {b : Int32} : zCT mX5_why [.ref 215, .int b] 222 (gS g s) 222 (fun r h' => r = some (aWhy s b) ∧ h' = gS g s) := by
  intro X Q hQ
  show zJ X mX5_why 222 0 [.ref 215, .int b] [] 222 (gS g s) Q
  refine j_aload_n dX5_why_0 rfl ?_
  refine j_iload_n dX5_why_1 rfl ?_
  refine k_callV1i dX5_why_2 vX5_why_90 (s_isBidder hg) rfl (by decide) rfl (Nat.le_of_ble_eq_true rfl) ⟨rfl, rfl⟩ rfl ?_
  rintro _ _ ⟨⟨⟩, rfl⟩
  refine j_if_eq dX5_why_5 (tgt := 16) rfl (fun c1 => ?_) (fun c1 => ?_)
  · refine j_ldc (v := (-1000001)) dX5_why_16 cX5_78 ?_
    refine j_iret dX5_why_18 rfl (rfl) ?_
    exact hQ _ _ (z_ps ((if_pos c1).trans (rfl)))
  · obtain ⟨k, hk, rfl, hb2⟩ := aIs_nat hn hN ‹¬ aIs s b = 0›
    refine j_aload_n dX5_why_8 rfl ?_
    refine j_iload_n dX5_why_9 rfl ?_
    refine k_callV1i dX5_why_10 vX5_why_53 (s_barred hg k (by omega)) rfl (by decide) rfl (Nat.le_of_ble_eq_true rfl) ⟨rfl, rfl⟩ rfl ?_
    rintro _ _ ⟨⟨⟩, rfl⟩
    refine j_goto dX5_why_13 (tgt := 18) rfl ?_
    refine j_iret dX5_why_18 rfl (rfl) ?_
    exact hQ _ _ (z_ps ((if_neg c1).trans ((by rw [hb2]))))
set_option maxRecDepth 4000 in
set_option maxHeartbeats 1000000 in
theorem s_waiting {g : zH} (hg : gP g) {s : Nat → Int32} {W : Nat} (hW : s 200 = nI W) (hW8 : W ≤ 8) {q v : Int32} : zCT mX5_waiting [.ref 215, .int q, .int v] 222 (gS g s) 222 (fun r h' => r = some (aWai s q v) ∧ h' = gS g s) := by
  intro X Q hQ
  show zJ X mX5_waiting 222 0 [.ref 215, .int q, .int v] [] 222 (gS g s) Q
  refine j_iload_n dX5_waiting_0 rfl ?_
  refine j_if_lt dX5_waiting_1 (tgt := 13) rfl (fun c1 => ?_) (fun c1 => ?_)
  · refine j_ldc (v := (-1000001)) dX5_waiting_13 cX5_78 ?_
    refine j_iret dX5_waiting_15 rfl (rfl) ?_
    exact hQ _ _ (z_ps ((if_pos c1).trans (rfl)))
  · refine j_iload_n dX5_waiting_4 rfl ?_
    refine j_iconst (v := 0) dX5_waiting_5 (by decide) ?_
    refine j_iconst (v := 1) dX5_waiting_6 (by decide) ?_
    refine k_callS3i dX5_waiting_7 vX5_waiting_36 (s_in) rfl rfl rfl (Nat.le_of_ble_eq_true rfl) ⟨rfl, rfl⟩ rfl ?_
    rintro _ _ ⟨⟨⟩, rfl⟩
    refine j_if_ne dX5_waiting_10 (tgt := 16) rfl (fun c2 => ?_) (fun c2 => ?_)
    · refine j_iload_n dX5_waiting_16 rfl ?_
      refine j_aload_n dX5_waiting_17 rfl ?_
      refine j_get (v := .ref 216) dX5_waiting_18 fX5_7 rfl (by decide) (gS_p0 hg) ?_
      refine j_sipush (v := 200) dX5_waiting_21 (by decide) ?_
      refine s_ald 200 dX5_waiting_24 (rfl) (by first | decide | omega) ?_
      refine j_icmp_ge dX5_waiting_25 (tgt := 45) rfl (fun c3 => ?_) (fun c3 => ?_)
      · refine j_ldc (v := (-1000004)) dX5_waiting_45 cX5_44 ?_
        refine j_iret dX5_waiting_47 rfl (rfl) ?_
        exact hQ _ _ (z_ps ((if_neg c1).trans ((if_neg c2).trans ((if_pos c3).trans (rfl)))))
      · obtain ⟨k, hk, rfl, hb2⟩ := z_lt_nat (W := W) (by omega) ‹¬ q < 0› (by rw [← hW]; assumption)
        obtain ⟨j, hj1, hj2, rfl, hv2⟩ := aIn_nat (a := 0) (b := 1) (by omega) (by omega) ‹¬ aIn v 0 1 = 0›
        refine j_aload_n dX5_waiting_28 rfl ?_
        refine j_get (v := .ref 216) dX5_waiting_29 fX5_7 rfl (by decide) (gS_p0 hg) ?_
        refine j_sipush (v := 132) dX5_waiting_32 (by decide) ?_
        refine j_iconst (v := 2) dX5_waiting_35 (by decide) ?_
        refine j_iload_n dX5_waiting_36 rfl ?_
        refine j_imul dX5_waiting_37 ?_
        refine j_iadd dX5_waiting_38 ?_
        refine j_iload_n dX5_waiting_39 rfl ?_
        refine j_iadd dX5_waiting_40 ?_
        refine s_ald ((132 + (2 * k)) + j) dX5_waiting_41 (by first | rfl | (simp only [z_n, pk_mul, nI_add]; done) | (simp only [z_n, pk_mul, nI_add]; exact pk_sub (by omega)) | (simp only [z_n, pk_mul, nI_add, pk_sub, *]; done)) (by first | decide | omega) ?_
        refine j_goto dX5_waiting_42 (tgt := 47) rfl ?_
        refine j_iret dX5_waiting_47 rfl (rfl) ?_
        exact hQ _ _ (z_ps ((if_neg c1).trans ((if_neg c2).trans ((if_neg c3).trans ((by rw [hb2, hv2]))))))
    · refine j_ldc (v := (-1000001)) dX5_waiting_13 cX5_78 ?_
      refine j_iret dX5_waiting_15 rfl (rfl) ?_
      exact hQ _ _ (z_ps ((if_neg c1).trans ((if_pos c2).trans (rfl))))
set_option maxRecDepth 4000 in
set_option maxHeartbeats 1000000 in
theorem s_book {g : zH} (hg : gP g) {s : Nat → Int32} {K : Nat} (hK : s 210 = nI K) (hK8 : K ≤ 8) {q v : Int32} : zCT mX5_book [.ref 215, .int q, .int v] 222 (gS g s) 222 (fun r h' => r = some (aBook s q v) ∧ h' = gS g s) := by
  intro X Q hQ
  show zJ X mX5_book 222 0 [.ref 215, .int q, .int v, .null] [] 222 (gS g s) Q
  refine j_iload_n dX5_book_0 rfl ?_
  refine j_if_lt dX5_book_1 (tgt := 13) rfl (fun c1 => ?_) (fun c1 => ?_)
  · refine j_ldc (v := (-1000001)) dX5_book_13 cX5_78 ?_
    refine j_iret dX5_book_15 rfl (rfl) ?_
    exact hQ _ _ (z_ps ((if_pos c1).trans (rfl)))
  · refine j_iload_n dX5_book_4 rfl ?_
    refine j_iconst (v := 0) dX5_book_5 (by decide) ?_
    refine j_iconst (v := 4) dX5_book_6 (by decide) ?_
    refine k_callS3i dX5_book_7 vX5_book_36 (s_in) rfl rfl rfl (Nat.le_of_ble_eq_true rfl) ⟨rfl, rfl⟩ rfl ?_
    rintro _ _ ⟨⟨⟩, rfl⟩
    refine j_if_ne dX5_book_10 (tgt := 16) rfl (fun c2 => ?_) (fun c2 => ?_)
    · refine j_iload_n dX5_book_16 rfl ?_
      refine j_aload_n dX5_book_17 rfl ?_
      refine j_get (v := .ref 216) dX5_book_18 fX5_7 rfl (by decide) (gS_p0 hg) ?_
      refine j_sipush (v := 210) dX5_book_21 (by decide) ?_
      refine s_ald 210 dX5_book_24 (rfl) (by first | decide | omega) ?_
      refine j_icmp_lt dX5_book_25 (tgt := 31) rfl (fun c3 => ?_) (fun c3 => ?_)
      · obtain ⟨k, hk, rfl, hb2⟩ := z_lt_nat (W := K) (by omega) ‹¬ q < 0› (by rw [← hK]; exact Int32.not_le.mpr ‹q < s 210›)
        obtain ⟨j, hj1, hj2, rfl, hv2⟩ := aIn_nat (a := 0) (b := 4) (by omega) (by omega) ‹¬ aIn v 0 4 = 0›
        refine j_aload_n dX5_book_31 rfl ?_
        refine j_get (v := .ref 216) dX5_book_32 fX5_7 rfl (by decide) (gS_p0 hg) ?_
        refine j_sipush (v := 158) dX5_book_35 (by decide) ?_
        refine j_iconst (v := 5) dX5_book_38 (by decide) ?_
        refine j_iload_n dX5_book_39 rfl ?_
        refine j_imul dX5_book_40 ?_
        refine j_iadd dX5_book_41 ?_
        refine j_iload_n dX5_book_42 rfl ?_
        refine j_iadd dX5_book_43 ?_
        refine s_ald ((158 + (5 * k)) + j) dX5_book_44 (by first | rfl | (simp only [z_n, pk_mul, nI_add]; done) | (simp only [z_n, pk_mul, nI_add]; exact pk_sub (by omega)) | (simp only [z_n, pk_mul, nI_add, pk_sub, *]; done)) (by first | decide | omega) ?_
        refine j_istore_n dX5_book_45 (by decide) ?_
        refine j_iload_n dX5_book_46 rfl ?_
        refine j_iconst (v := 2) dX5_book_47 (by decide) ?_
        refine j_icmp_eq dX5_book_48 (tgt := 55) rfl (fun c4 => ?_) (fun c4 => ?_)
        · refine j_iload_n dX5_book_55 rfl ?_
          refine j_if_le dX5_book_56 (tgt := 65) rfl (fun c5 => ?_) (fun c5 => ?_)
          · refine j_ldc (v := (-1000004)) dX5_book_65 cX5_44 ?_
            refine j_iret dX5_book_67 rfl (rfl) ?_
            exact hQ _ _ (z_ps ((if_neg c1).trans ((if_neg c2).trans ((if_pos c3).trans ((by rw [hb2, hv2]; exact ((if_pos c4).trans ((if_pos c5).trans (rfl)))))))))
          · refine j_iload_n dX5_book_59 rfl ?_
            refine j_iconst (v := 1) dX5_book_60 (by decide) ?_
            refine j_isub dX5_book_61 ?_
            refine j_goto dX5_book_62 (tgt := 67) rfl ?_
            refine j_iret dX5_book_67 rfl (rfl) ?_
            exact hQ _ _ (z_ps ((if_neg c1).trans ((if_neg c2).trans ((if_pos c3).trans ((by rw [hb2, hv2]; exact ((if_pos c4).trans ((if_neg c5).trans (rfl)))))))))
        · refine j_iload_n dX5_book_51 rfl ?_
          refine j_goto dX5_book_52 (tgt := 67) rfl ?_
          refine j_iret dX5_book_67 rfl (rfl) ?_
          exact hQ _ _ (z_ps ((if_neg c1).trans ((if_neg c2).trans ((if_pos c3).trans ((by rw [hb2, hv2]; exact ((if_neg c4).trans (rfl))))))))
      · refine j_ldc (v := (-1000004)) dX5_book_28 cX5_44 ?_
        refine j_iret dX5_book_30 rfl (rfl) ?_
        exact hQ _ _ (z_ps ((if_neg c1).trans ((if_neg c2).trans ((if_neg c3).trans (rfl)))))
    · refine j_ldc (v := (-1000001)) dX5_book_13 cX5_78 ?_
      refine j_iret dX5_book_15 rfl (rfl) ?_
      exact hQ _ _ (z_ps ((if_neg c1).trans ((if_pos c2).trans (rfl))))
def aCs (s : Nat → Int32) : Nat → Nat → Nat → Nat
  | 0, _, a => a
  | n + 1, k, a => if aNext s k = 0 then aCs s n (k + 1) a else aCs s n (k + 1) (a ||| 2 ^ k)
def aBp (s : Nat → Int32) : Nat → Nat → Int32 → Int32
  | 0, _, a => a
  | n + 1, k, a => aBp s n (k + 1) (a + (s (11 * k + 10) - s (11 * k + 2)))
def aLd (s : Nat → Int32) : Nat → Nat → Int32 → Int32
  | 0, _, b => b
  | n + 1, k, b => if b < 0 then aLd s n (k + 1) (nI k) else if aLoud s k ≤ aLoud s b.toNatClampNeg then aLd s n (k + 1) b else aLd s n (k + 1) (nI k)
set_option maxRecDepth 4000 in
set_option maxHeartbeats 2000000 in
theorem s_coughing_lp {g : zH} (hg : gP g) {s : Nat → Int32} {N : Nat} (hn : s 199 = nI N) (hN : N ≤ 12) (hc : ∀ k, k < 12 → ¬ 7 - s (11 * k + 4) = 0) {X : Nat × (Nat → Int32)} {Q : zQt} : ∀ (n k a : Nat), k + n = N → (∀ r h', r = some (nI (aCs s n k a)) ∧ h' = gS g s → Q r 222 h') → zJ X mX5_coughing 222 4 [.ref 215, .int (nI a), .int (nI k)] [] 222 (gS g s) Q := by
  intro n
  induction n with
  | zero =>
    intro k a hk hQ
    refine j_iload_n dX5_coughing_4 rfl ?_
    refine j_aload_n dX5_coughing_5 rfl ?_
    refine j_get (v := .ref 216) dX5_coughing_6 fX5_7 rfl (by decide) (gS_p0 hg) ?_
    refine j_sipush (v := 199) dX5_coughing_9 (by decide) ?_
    refine s_ald 199 dX5_coughing_12 (rfl) (by first | decide | omega) ?_
    refine j_icmp_ge dX5_coughing_13 (tgt := 40) rfl (fun _ => ?_) (fun c1 => absurd (show s 199 ≤ nI k by rw [hn]; exact nI_le (by omega) (by omega)) c1)
    refine j_iload_n dX5_coughing_40 rfl ?_
    refine j_iret dX5_coughing_41 rfl (rfl) ?_
    exact hQ _ _ ⟨rfl, rfl⟩
  | succ n ih =>
    intro k a hk hQ
    refine j_iload_n dX5_coughing_4 rfl ?_
    refine j_aload_n dX5_coughing_5 rfl ?_
    refine j_get (v := .ref 216) dX5_coughing_6 fX5_7 rfl (by decide) (gS_p0 hg) ?_
    refine j_sipush (v := 199) dX5_coughing_9 (by decide) ?_
    refine s_ald 199 dX5_coughing_12 (rfl) (by first | decide | omega) ?_
    refine j_icmp_ge dX5_coughing_13 (tgt := 40) rfl (fun c1 => absurd c1 (show ¬ s 199 ≤ nI k by rw [hn]; exact nI_ge (by omega) (by omega))) (fun _ => ?_)
    refine j_iload_n dX5_coughing_16 rfl ?_
    refine j_aload_n dX5_coughing_17 rfl ?_
    refine j_iload_n dX5_coughing_18 rfl ?_
    refine k_callV1i dX5_coughing_19 vX5_coughing_64 (s_coughsNext hg k (by omega) (hc _ (by omega))) rfl (by decide) rfl (Nat.le_of_ble_eq_true rfl) ⟨rfl, rfl⟩ rfl ?_
    rintro _ _ ⟨⟨⟩, rfl⟩
    refine j_if_eq dX5_coughing_22 (tgt := 31) rfl (fun c2 => ?_) (fun c2 => ?_)
    · refine j_iconst (v := 0) dX5_coughing_31 (by decide) ?_
      refine j_ior dX5_coughing_32 ?_
      first | rw [z_or0] | rw [z_or1 (by omega)]
      refine j_istore_n dX5_coughing_33 (by decide) ?_
      refine j_iinc (v := nI (k + 1)) dX5_coughing_34 rfl z_inc (by decide) ?_
      refine j_goto dX5_coughing_37 (tgt := 4) rfl ?_
      exact ih (k + 1) _ (by omega) (fun r h' h => hQ r h' ⟨h.1.trans (congrArg (fun v => some (nI v)) ((if_pos c2).trans (rfl) : aCs s (n + 1) k a = _).symm), h.2⟩)
    · refine j_iconst (v := 1) dX5_coughing_25 (by decide) ?_
      refine j_iload_n dX5_coughing_26 rfl ?_
      refine j_ishl dX5_coughing_27 ?_
      refine j_goto dX5_coughing_28 (tgt := 32) rfl ?_
      refine j_ior dX5_coughing_32 ?_
      first | rw [z_or0] | rw [z_or1 (by omega)]
      refine j_istore_n dX5_coughing_33 (by decide) ?_
      refine j_iinc (v := nI (k + 1)) dX5_coughing_34 rfl z_inc (by decide) ?_
      refine j_goto dX5_coughing_37 (tgt := 4) rfl ?_
      exact ih (k + 1) _ (by omega) (fun r h' h => hQ r h' ⟨h.1.trans (congrArg (fun v => some (nI v)) ((if_neg c2).trans (rfl) : aCs s (n + 1) k a = _).symm), h.2⟩)
set_option maxRecDepth 4000 in
set_option maxHeartbeats 1000000 in
theorem s_coughing {g : zH} (hg : gP g) {s : Nat → Int32} {N : Nat} (hn : s 199 = nI N) (hN : N ≤ 12) (hc : ∀ k, k < 12 → ¬ 7 - s (11 * k + 4) = 0) : zCT mX5_coughing [.ref 215] 222 (gS g s) 222 (fun r h' => r = some (nI (aCs s N 0 0)) ∧ h' = gS g s) := by
  intro X Q hQ
  show zJ X mX5_coughing 222 0 [.ref 215, .null, .null] [] 222 (gS g s) Q
  refine j_iconst (v := 0) dX5_coughing_0 (by decide) ?_
  refine j_istore_n dX5_coughing_1 (by decide) ?_
  refine j_iconst (v := 0) dX5_coughing_2 (by decide) ?_
  refine j_istore_n dX5_coughing_3 (by decide) ?_
  exact s_coughing_lp hg hn hN hc N 0 0 (by omega) hQ
set_option maxRecDepth 4000 in
set_option maxHeartbeats 2000000 in
theorem s_byPurses_lp {g : zH} (hg : gP g) {s : Nat → Int32} {N : Nat} (hn : s 199 = nI N) (hN : N ≤ 12) {X : Nat × (Nat → Int32)} {Q : zQt} : ∀ (n k : Nat) (a : Int32), k + n = N → (∀ r h', r = some (aBp s n k a) ∧ h' = gS g s → Q r 222 h') → zJ X mX5_byPurses 222 4 [.ref 215, .int a, .int (nI k)] [] 222 (gS g s) Q := by
  intro n
  induction n with
  | zero =>
    intro k a hk hQ
    refine j_iload_n dX5_byPurses_4 rfl ?_
    refine j_aload_n dX5_byPurses_5 rfl ?_
    refine j_get (v := .ref 216) dX5_byPurses_6 fX5_7 rfl (by decide) (gS_p0 hg) ?_
    refine j_sipush (v := 199) dX5_byPurses_9 (by decide) ?_
    refine s_ald 199 dX5_byPurses_12 (rfl) (by first | decide | omega) ?_
    refine j_icmp_ge dX5_byPurses_13 (tgt := 39) rfl (fun _ => ?_) (fun c1 => absurd (show s 199 ≤ nI k by rw [hn]; exact nI_le (by omega) (by omega)) c1)
    refine j_iload_n dX5_byPurses_39 rfl ?_
    refine j_iret dX5_byPurses_40 rfl (rfl) ?_
    exact hQ _ _ ⟨rfl, rfl⟩
  | succ n ih =>
    intro k a hk hQ
    refine j_iload_n dX5_byPurses_4 rfl ?_
    refine j_aload_n dX5_byPurses_5 rfl ?_
    refine j_get (v := .ref 216) dX5_byPurses_6 fX5_7 rfl (by decide) (gS_p0 hg) ?_
    refine j_sipush (v := 199) dX5_byPurses_9 (by decide) ?_
    refine s_ald 199 dX5_byPurses_12 (rfl) (by first | decide | omega) ?_
    refine j_icmp_ge dX5_byPurses_13 (tgt := 39) rfl (fun c1 => absurd c1 (show ¬ s 199 ≤ nI k by rw [hn]; exact nI_ge (by omega) (by omega))) (fun _ => ?_)
    refine j_iload_n dX5_byPurses_16 rfl ?_
    refine j_aload_n dX5_byPurses_17 rfl ?_
    refine j_iload_n dX5_byPurses_18 rfl ?_
    refine j_bipush (v := 10) dX5_byPurses_19 (by decide) ?_
    refine k_callV2i dX5_byPurses_21 vX5_byPurses_40 (s_of hg k 10 (by omega) (by omega)) rfl (by decide) rfl rfl (Nat.le_of_ble_eq_true rfl) ⟨rfl, rfl⟩ rfl ?_
    rintro _ _ ⟨⟨⟩, rfl⟩
    refine j_aload_n dX5_byPurses_24 rfl ?_
    refine j_iload_n dX5_byPurses_25 rfl ?_
    refine j_iconst (v := 2) dX5_byPurses_26 (by decide) ?_
    refine k_callV2i dX5_byPurses_27 vX5_byPurses_40 (s_of hg k 2 (by omega) (by omega)) rfl (by decide) rfl rfl (Nat.le_of_ble_eq_true rfl) ⟨rfl, rfl⟩ rfl ?_
    rintro _ _ ⟨⟨⟩, rfl⟩
    refine j_isub dX5_byPurses_30 ?_
    refine j_iadd dX5_byPurses_31 ?_
    refine j_istore_n dX5_byPurses_32 (by decide) ?_
    refine j_iinc (v := nI (k + 1)) dX5_byPurses_33 rfl z_inc (by decide) ?_
    refine j_goto dX5_byPurses_36 (tgt := 4) rfl ?_
    exact ih (k + 1) _ (by omega) hQ
set_option maxRecDepth 4000 in
set_option maxHeartbeats 1000000 in
theorem s_byPurses {g : zH} (hg : gP g) {s : Nat → Int32} {N : Nat} (hn : s 199 = nI N) (hN : N ≤ 12) : zCT mX5_byPurses [.ref 215] 222 (gS g s) 222 (fun r h' => r = some (aBp s N 0 0) ∧ h' = gS g s) := by
  intro X Q hQ
  show zJ X mX5_byPurses 222 0 [.ref 215, .null, .null] [] 222 (gS g s) Q
  refine j_iconst (v := 0) dX5_byPurses_0 (by decide) ?_
  refine j_istore_n dX5_byPurses_1 (by decide) ?_
  refine j_iconst (v := 0) dX5_byPurses_2 (by decide) ?_
  refine j_istore_n dX5_byPurses_3 (by decide) ?_
  exact s_byPurses_lp hg hn hN N 0 0 (by omega) hQ
set_option maxRecDepth 4000 in
set_option maxHeartbeats 2000000 in
theorem s_loudest_lp {g : zH} (hg : gP g) {s : Nat → Int32} {N : Nat} (hn : s 199 = nI N) (hN : N ≤ 12) {X : Nat × (Nat → Int32)} {Q : zQt} : ∀ (n k : Nat) (b : Int32), k + n = N → (b < 0 ∨ ∃ j, j < 12 ∧ b = nI j) → (∀ r h', r = some (aLd s n k b) ∧ h' = gS g s → Q r 222 h') → zJ X mX5_loudest 222 5 [.ref 215, .int b, .int (nI k)] [] 222 (gS g s) Q := by
  intro n
  induction n with
  | zero =>
    intro k b hk hb hQ
    refine j_iload_n dX5_loudest_5 rfl ?_
    refine j_aload_n dX5_loudest_6 rfl ?_
    refine j_get (v := .ref 216) dX5_loudest_7 fX5_7 rfl (by decide) (gS_p0 hg) ?_
    refine j_sipush (v := 199) dX5_loudest_10 (by decide) ?_
    refine s_ald 199 dX5_loudest_13 (rfl) (by first | decide | omega) ?_
    refine j_icmp_ge dX5_loudest_14 (tgt := 46) rfl (fun _ => ?_) (fun c1 => absurd (show s 199 ≤ nI k by rw [hn]; exact nI_le (by omega) (by omega)) c1)
    refine j_iload_n dX5_loudest_46 rfl ?_
    refine j_iret dX5_loudest_47 rfl (rfl) ?_
    exact hQ _ _ ⟨rfl, rfl⟩
  | succ n ih =>
    intro k b hk hb hQ
    refine j_iload_n dX5_loudest_5 rfl ?_
    refine j_aload_n dX5_loudest_6 rfl ?_
    refine j_get (v := .ref 216) dX5_loudest_7 fX5_7 rfl (by decide) (gS_p0 hg) ?_
    refine j_sipush (v := 199) dX5_loudest_10 (by decide) ?_
    refine s_ald 199 dX5_loudest_13 (rfl) (by first | decide | omega) ?_
    refine j_icmp_ge dX5_loudest_14 (tgt := 46) rfl (fun c1 => absurd c1 (show ¬ s 199 ≤ nI k by rw [hn]; exact nI_ge (by omega) (by omega))) (fun _ => ?_)
    refine j_iload_n dX5_loudest_17 rfl ?_
    refine j_if_lt dX5_loudest_18 (tgt := 34) rfl (fun c2 => ?_) (fun c2 => ?_)
    · refine j_iload_n dX5_loudest_34 rfl ?_
      refine j_goto dX5_loudest_35 (tgt := 39) rfl ?_
      refine j_istore_n dX5_loudest_39 (by decide) ?_
      refine j_iinc (v := nI (k + 1)) dX5_loudest_40 rfl z_inc (by decide) ?_
      refine j_goto dX5_loudest_43 (tgt := 5) rfl ?_
      exact ih (k + 1) _ (by omega) (Or.inr ⟨k, by omega, rfl⟩) (fun r h' h => hQ r h' ⟨h.1.trans (congrArg some ((if_pos c2).trans (rfl) : aLd s (n + 1) k _ = _).symm), h.2⟩)
    · obtain ⟨j, hj, rfl⟩ := hb.resolve_left ‹¬ b < 0›
      refine j_aload_n dX5_loudest_21 rfl ?_
      refine j_iload_n dX5_loudest_22 rfl ?_
      refine k_callV1i dX5_loudest_23 vX5_loudest_45 (s_loud hg k (by omega)) rfl (by decide) rfl (Nat.le_of_ble_eq_true rfl) ⟨rfl, rfl⟩ rfl ?_
      rintro _ _ ⟨⟨⟩, rfl⟩
      refine j_aload_n dX5_loudest_26 rfl ?_
      refine j_iload_n dX5_loudest_27 rfl ?_
      refine k_callV1i dX5_loudest_28 vX5_loudest_45 (s_loud hg j (by omega)) rfl (by decide) rfl (Nat.le_of_ble_eq_true rfl) ⟨rfl, rfl⟩ rfl ?_
      rintro _ _ ⟨⟨⟩, rfl⟩
      refine j_icmp_le dX5_loudest_31 (tgt := 38) rfl (fun c3 => ?_) (fun c3 => ?_)
      · refine j_iload_n dX5_loudest_38 rfl ?_
        refine j_istore_n dX5_loudest_39 (by decide) ?_
        refine j_iinc (v := nI (k + 1)) dX5_loudest_40 rfl z_inc (by decide) ?_
        refine j_goto dX5_loudest_43 (tgt := 5) rfl ?_
        exact ih (k + 1) _ (by omega) (Or.inr ⟨j, hj, rfl⟩) (fun r h' h => hQ r h' ⟨h.1.trans (congrArg some ((if_neg c2).trans ((by rw [z_cl (by omega)]; exact ((if_pos c3).trans (rfl)))) : aLd s (n + 1) k _ = _).symm), h.2⟩)
      · refine j_iload_n dX5_loudest_34 rfl ?_
        refine j_goto dX5_loudest_35 (tgt := 39) rfl ?_
        refine j_istore_n dX5_loudest_39 (by decide) ?_
        refine j_iinc (v := nI (k + 1)) dX5_loudest_40 rfl z_inc (by decide) ?_
        refine j_goto dX5_loudest_43 (tgt := 5) rfl ?_
        exact ih (k + 1) _ (by omega) (Or.inr ⟨k, by omega, rfl⟩) (fun r h' h => hQ r h' ⟨h.1.trans (congrArg some ((if_neg c2).trans ((by rw [z_cl (by omega)]; exact ((if_neg c3).trans (rfl)))) : aLd s (n + 1) k _ = _).symm), h.2⟩)
set_option maxRecDepth 4000 in
set_option maxHeartbeats 1000000 in
theorem s_loudest {g : zH} (hg : gP g) {s : Nat → Int32} {N : Nat} (hn : s 199 = nI N) (hN : N ≤ 12) : zCT mX5_loudest [.ref 215] 222 (gS g s) 222 (fun r h' => r = some (aLd s N 0 (-1000004)) ∧ h' = gS g s) := by
  intro X Q hQ
  show zJ X mX5_loudest 222 0 [.ref 215, .null, .null] [] 222 (gS g s) Q
  refine j_ldc (v := (-1000004)) dX5_loudest_0 cX5_44 ?_
  refine j_istore_n dX5_loudest_2 (by decide) ?_
  refine j_iconst (v := 0) dX5_loudest_3 (by decide) ?_
  refine j_istore_n dX5_loudest_4 (by decide) ?_
  exact s_loudest_lp hg hn hN N 0 _ (by omega) (Or.inl (by decide)) hQ
def aUpQ (s : Nat → Int32) : Nat → Int32
  | 2 => if s 152 ≤ 0 then -1000004 else s 151
  | 3 => if s 152 ≤ 0 then -1000004 else s 152 - 1
  | 4 => s 153
  | 5 => s 154
  | 6 => aAsk s
  | 7 => s 155
  | 8 => s 156
  | n => s (149 + n)
def aUpV (s : Nat → Int32) (v : Int32) : Int32 := if aIn v 0 8 = 0 then -1000001 else if s 148 = 0 then -1000002 else aUpQ s v.toNatClampNeg
set_option maxRecDepth 4000 in
set_option maxHeartbeats 1000000 in
theorem s_up {g : zH} (hg : gP g) {s : Nat → Int32} {v : Int32} : zCT mX5_up [.ref 215, .int v] 222 (gS g s) 222 (fun r h' => r = some (aUpV s v) ∧ h' = gS g s) := by
  intro X Q hQ
  show zJ X mX5_up 222 0 [.ref 215, .int v] [] 222 (gS g s) Q
  refine j_iload_n dX5_up_0 rfl ?_
  refine j_iconst (v := 0) dX5_up_1 (by decide) ?_
  refine j_bipush (v := 8) dX5_up_2 (by decide) ?_
  refine k_callS3i dX5_up_4 vX5_up_36 (s_in) rfl rfl rfl (Nat.le_of_ble_eq_true rfl) ⟨rfl, rfl⟩ rfl ?_
  rintro _ _ ⟨⟨⟩, rfl⟩
  refine j_if_ne dX5_up_7 (tgt := 13) rfl (fun c1 => ?_) (fun c1 => ?_)
  · refine j_aload_n dX5_up_13 rfl ?_
    refine j_get (v := .ref 216) dX5_up_14 fX5_7 rfl (by decide) (gS_p0 hg) ?_
    refine j_sipush (v := 148) dX5_up_17 (by decide) ?_
    refine s_ald 148 dX5_up_20 (rfl) (by first | decide | omega) ?_
    refine j_if_ne dX5_up_21 (tgt := 27) rfl (fun c2 => ?_) (fun c2 => ?_)
    · refine j_iload_n dX5_up_27 rfl ?_
      obtain ⟨j, hj1, hj2, rfl, hv2⟩ := aIn_nat (a := 0) (b := 8) (by omega) (by omega) ‹¬ aIn v 0 8 = 0›
      rcases (show j = 0 ∨ j = 1 ∨ j = 2 ∨ j = 3 ∨ j = 4 ∨ j = 5 ∨ j = 6 ∨ j = 7 ∨ j = 8 by omega) with rfl | rfl | rfl | rfl | rfl | rfl | rfl | rfl | rfl
      · refine j_tableOut dX5_up_28 (tgt := 156) (by decide) rfl ?_
        refine j_aload_n dX5_up_156 rfl ?_
        refine j_get (v := .ref 216) dX5_up_157 fX5_7 rfl (by decide) (gS_p0 hg) ?_
        refine j_sipush (v := 149) dX5_up_160 (by decide) ?_
        refine j_iload_n dX5_up_163 rfl ?_
        refine j_iadd dX5_up_164 ?_
        refine s_ald (149 + 0) dX5_up_165 (by first | rfl | (simp only [z_n, pk_mul, nI_add]; done) | (simp only [z_n, pk_mul, nI_add]; exact pk_sub (by omega)) | (simp only [z_n, pk_mul, nI_add, pk_sub, *]; done)) (by first | decide | omega) ?_
        refine j_iret dX5_up_166 rfl (rfl) ?_
        exact hQ _ _ (z_ps ((if_neg c1).trans ((if_neg c2).trans ((by rw [hv2]; exact (rfl))))))
      · refine j_tableOut dX5_up_28 (tgt := 156) (by decide) rfl ?_
        refine j_aload_n dX5_up_156 rfl ?_
        refine j_get (v := .ref 216) dX5_up_157 fX5_7 rfl (by decide) (gS_p0 hg) ?_
        refine j_sipush (v := 149) dX5_up_160 (by decide) ?_
        refine j_iload_n dX5_up_163 rfl ?_
        refine j_iadd dX5_up_164 ?_
        refine s_ald (149 + 1) dX5_up_165 (by first | rfl | (simp only [z_n, pk_mul, nI_add]; done) | (simp only [z_n, pk_mul, nI_add]; exact pk_sub (by omega)) | (simp only [z_n, pk_mul, nI_add, pk_sub, *]; done)) (by first | decide | omega) ?_
        refine j_iret dX5_up_166 rfl (rfl) ?_
        exact hQ _ _ (z_ps ((if_neg c1).trans ((if_neg c2).trans ((by rw [hv2]; exact (rfl))))))
      · refine j_tableIn dX5_up_28 (off := 44) (tgt := 72) (by decide) (by decide) rfl rfl ?_
        refine j_aload_n dX5_up_72 rfl ?_
        refine j_get (v := .ref 216) dX5_up_73 fX5_7 rfl (by decide) (gS_p0 hg) ?_
        refine j_sipush (v := 152) dX5_up_76 (by decide) ?_
        refine s_ald 152 dX5_up_79 (rfl) (by first | decide | omega) ?_
        refine j_if_le dX5_up_80 (tgt := 94) rfl (fun c3 => ?_) (fun c3 => ?_)
        · refine j_ldc (v := (-1000004)) dX5_up_94 cX5_44 ?_
          refine j_iret dX5_up_96 rfl (rfl) ?_
          exact hQ _ _ (z_ps ((if_neg c1).trans ((if_neg c2).trans ((by rw [hv2]; exact ((if_pos c3).trans (rfl)))))))
        · refine j_aload_n dX5_up_83 rfl ?_
          refine j_get (v := .ref 216) dX5_up_84 fX5_7 rfl (by decide) (gS_p0 hg) ?_
          refine j_sipush (v := 151) dX5_up_87 (by decide) ?_
          refine s_ald 151 dX5_up_90 (rfl) (by first | decide | omega) ?_
          refine j_goto dX5_up_91 (tgt := 96) rfl ?_
          refine j_iret dX5_up_96 rfl (rfl) ?_
          exact hQ _ _ (z_ps ((if_neg c1).trans ((if_neg c2).trans ((by rw [hv2]; exact ((if_neg c3).trans (rfl)))))))
      · refine j_tableIn dX5_up_28 (off := 69) (tgt := 97) (by decide) (by decide) rfl rfl ?_
        refine j_aload_n dX5_up_97 rfl ?_
        refine j_get (v := .ref 216) dX5_up_98 fX5_7 rfl (by decide) (gS_p0 hg) ?_
        refine j_sipush (v := 152) dX5_up_101 (by decide) ?_
        refine s_ald 152 dX5_up_104 (rfl) (by first | decide | omega) ?_
        refine j_if_le dX5_up_105 (tgt := 121) rfl (fun c4 => ?_) (fun c4 => ?_)
        · refine j_ldc (v := (-1000004)) dX5_up_121 cX5_44 ?_
          refine j_iret dX5_up_123 rfl (rfl) ?_
          exact hQ _ _ (z_ps ((if_neg c1).trans ((if_neg c2).trans ((by rw [hv2]; exact ((if_pos c4).trans (rfl)))))))
        · refine j_aload_n dX5_up_108 rfl ?_
          refine j_get (v := .ref 216) dX5_up_109 fX5_7 rfl (by decide) (gS_p0 hg) ?_
          refine j_sipush (v := 152) dX5_up_112 (by decide) ?_
          refine s_ald 152 dX5_up_115 (rfl) (by first | decide | omega) ?_
          refine j_iconst (v := 1) dX5_up_116 (by decide) ?_
          refine j_isub dX5_up_117 ?_
          refine j_goto dX5_up_118 (tgt := 123) rfl ?_
          refine j_iret dX5_up_123 rfl (rfl) ?_
          exact hQ _ _ (z_ps ((if_neg c1).trans ((if_neg c2).trans ((by rw [hv2]; exact ((if_neg c4).trans (rfl)))))))
      · refine j_tableIn dX5_up_28 (off := 96) (tgt := 124) (by decide) (by decide) rfl rfl ?_
        refine j_aload_n dX5_up_124 rfl ?_
        refine j_get (v := .ref 216) dX5_up_125 fX5_7 rfl (by decide) (gS_p0 hg) ?_
        refine j_sipush (v := 153) dX5_up_128 (by decide) ?_
        refine j_iload_n dX5_up_131 rfl ?_
        refine j_iadd dX5_up_132 ?_
        refine j_iconst (v := 4) dX5_up_133 (by decide) ?_
        refine j_isub dX5_up_134 ?_
        refine s_ald ((153 + 4) - 4) dX5_up_135 (by first | rfl | (simp only [z_n, pk_mul, nI_add]; done) | (simp only [z_n, pk_mul, nI_add]; exact pk_sub (by omega)) | (simp only [z_n, pk_mul, nI_add, pk_sub, *]; done)) (by first | decide | omega) ?_
        refine j_iret dX5_up_136 rfl (rfl) ?_
        exact hQ _ _ (z_ps ((if_neg c1).trans ((if_neg c2).trans ((by rw [hv2]; exact (rfl))))))
      · refine j_tableIn dX5_up_28 (off := 96) (tgt := 124) (by decide) (by decide) rfl rfl ?_
        refine j_aload_n dX5_up_124 rfl ?_
        refine j_get (v := .ref 216) dX5_up_125 fX5_7 rfl (by decide) (gS_p0 hg) ?_
        refine j_sipush (v := 153) dX5_up_128 (by decide) ?_
        refine j_iload_n dX5_up_131 rfl ?_
        refine j_iadd dX5_up_132 ?_
        refine j_iconst (v := 4) dX5_up_133 (by decide) ?_
        refine j_isub dX5_up_134 ?_
        refine s_ald ((153 + 5) - 4) dX5_up_135 (by first | rfl | (simp only [z_n, pk_mul, nI_add]; done) | (simp only [z_n, pk_mul, nI_add]; exact pk_sub (by omega)) | (simp only [z_n, pk_mul, nI_add, pk_sub, *]; done)) (by first | decide | omega) ?_
        refine j_iret dX5_up_136 rfl (rfl) ?_
        exact hQ _ _ (z_ps ((if_neg c1).trans ((if_neg c2).trans ((by rw [hv2]; exact (rfl))))))
      · refine j_tableIn dX5_up_28 (off := 109) (tgt := 137) (by decide) (by decide) rfl rfl ?_
        refine j_aload_n dX5_up_137 rfl ?_
        refine k_callV0i dX5_up_138 vX5_up_49 (s_asked hg) rfl (by decide)  (Nat.le_of_ble_eq_true rfl) ⟨rfl, rfl⟩ rfl ?_
        rintro _ _ ⟨⟨⟩, rfl⟩
        refine j_iret dX5_up_141 rfl (rfl) ?_
        exact hQ _ _ (z_ps ((if_neg c1).trans ((if_neg c2).trans ((by rw [hv2]; exact (rfl))))))
      · refine j_tableIn dX5_up_28 (off := 114) (tgt := 142) (by decide) (by decide) rfl rfl ?_
        refine j_aload_n dX5_up_142 rfl ?_
        refine j_get (v := .ref 216) dX5_up_143 fX5_7 rfl (by decide) (gS_p0 hg) ?_
        refine j_sipush (v := 155) dX5_up_146 (by decide) ?_
        refine j_iload_n dX5_up_149 rfl ?_
        refine j_iadd dX5_up_150 ?_
        refine j_bipush (v := 7) dX5_up_151 (by decide) ?_
        refine j_isub dX5_up_153 ?_
        refine s_ald ((155 + 7) - 7) dX5_up_154 (by first | rfl | (simp only [z_n, pk_mul, nI_add]; done) | (simp only [z_n, pk_mul, nI_add]; exact pk_sub (by omega)) | (simp only [z_n, pk_mul, nI_add, pk_sub, *]; done)) (by first | decide | omega) ?_
        refine j_iret dX5_up_155 rfl (rfl) ?_
        exact hQ _ _ (z_ps ((if_neg c1).trans ((if_neg c2).trans ((by rw [hv2]; exact (rfl))))))
      · refine j_tableIn dX5_up_28 (off := 114) (tgt := 142) (by decide) (by decide) rfl rfl ?_
        refine j_aload_n dX5_up_142 rfl ?_
        refine j_get (v := .ref 216) dX5_up_143 fX5_7 rfl (by decide) (gS_p0 hg) ?_
        refine j_sipush (v := 155) dX5_up_146 (by decide) ?_
        refine j_iload_n dX5_up_149 rfl ?_
        refine j_iadd dX5_up_150 ?_
        refine j_bipush (v := 7) dX5_up_151 (by decide) ?_
        refine j_isub dX5_up_153 ?_
        refine s_ald ((155 + 8) - 7) dX5_up_154 (by first | rfl | (simp only [z_n, pk_mul, nI_add]; done) | (simp only [z_n, pk_mul, nI_add]; exact pk_sub (by omega)) | (simp only [z_n, pk_mul, nI_add, pk_sub, *]; done)) (by first | decide | omega) ?_
        refine j_iret dX5_up_155 rfl (rfl) ?_
        exact hQ _ _ (z_ps ((if_neg c1).trans ((if_neg c2).trans ((by rw [hv2]; exact (rfl))))))
    · refine j_ldc (v := (-1000002)) dX5_up_24 cX5_82 ?_
      refine j_iret dX5_up_26 rfl (rfl) ?_
      exact hQ _ _ (z_ps ((if_neg c1).trans ((if_pos c2).trans (rfl))))
  · refine j_ldc (v := (-1000001)) dX5_up_10 cX5_78 ?_
    refine j_iret dX5_up_12 rfl (rfl) ?_
    exact hQ _ _ (z_ps ((if_pos c1).trans (rfl)))
def aCntQ (s : Nat → Int32) (N : Nat) (pa ty : Int32) : Nat → Int32
  | 0 => s 198
  | 1 => s 199
  | 2 => s 200
  | 3 => s 148
  | 4 => s 201
  | 5 => s 202
  | 6 => s 203
  | 7 => s 204
  | 8 => s 205
  | 9 => aBp s N 0 0
  | 10 => s 206
  | 11 => s 207
  | 12 => s 208
  | 13 => nI (aCo s N 0 0)
  | 14 => s 209
  | 15 => s 210
  | 16 => pa
  | 17 => ty
  | 18 => s 211
  | 20 => s 212
  | 21 => s 213
  | 22 => s 214
  | _ => -1000001
def aCnt (s : Nat → Int32) (N : Nat) (pa ty v : Int32) : Int32 := if v.toInt < 0 ∨ 22 < v.toInt then -1000001 else aCntQ s N pa ty v.toNatClampNeg
theorem z_sw {v : Int32} {n : Nat} (hn : n < 1000) (h : ¬ (v.toInt < 0 ∨ (n : Int) < v.toInt)) : ∃ j, j ≤ n ∧ v = nI j ∧ v.toNatClampNeg = j := by
  have h0 : ¬ v < 0 := by
    rw [Int32.lt_iff_toInt_lt]
    have : (0 : Int32).toInt = 0 := by decide
    omega
  obtain ⟨j, hj, rfl⟩ := nI_of h0
  rw [nI_toInt hj] at h
  exact ⟨j, by omega, rfl, nI_clamp hj⟩
set_option maxRecDepth 4000 in
set_option maxHeartbeats 1000000 in
theorem s_count {g : zH} (hg : gP g) {s : Nat → Int32} {N : Nat} (hn : s 199 = nI N) (hN : N ≤ 12) {pa ty v : Int32} (hpa : g 215 4 = .int pa) (hty : g 215 7 = .int ty) : zCT mX5_count [.ref 215, .int v] 222 (gS g s) 222 (fun r h' => r = some (aCnt s N pa ty v) ∧ h' = gS g s) := by
  intro X Q hQ
  show zJ X mX5_count 222 0 [.ref 215, .int v] [] 222 (gS g s) Q
  refine j_iload_n dX5_count_0 rfl ?_
  by_cases hv : v.toInt < 0 ∨ (22 : Int) < v.toInt
  rotate_left
  obtain ⟨j, hj2, rfl, hv2⟩ := z_sw (n := 22) (by omega) hv
  rcases (show j = 0 ∨ j = 1 ∨ j = 2 ∨ j = 3 ∨ j = 4 ∨ j = 5 ∨ j = 6 ∨ j = 7 ∨ j = 8 ∨ j = 9 ∨ j = 10 ∨ j = 11 ∨ j = 12 ∨ j = 13 ∨ j = 14 ∨ j = 15 ∨ j = 16 ∨ j = 17 ∨ j = 18 ∨ j = 19 ∨ j = 20 ∨ j = 21 ∨ j = 22 by omega) with rfl | rfl | rfl | rfl | rfl | rfl | rfl | rfl | rfl | rfl | rfl | rfl | rfl | rfl | rfl | rfl | rfl | rfl | rfl | rfl | rfl | rfl | rfl
  · refine j_tableIn dX5_count_1 (off := 107) (tgt := 108) (by decide) (by decide) rfl rfl ?_
    refine j_aload_n dX5_count_108 rfl ?_
    refine j_get (v := .ref 216) dX5_count_109 fX5_7 rfl (by decide) (gS_p0 hg) ?_
    refine j_sipush (v := 198) dX5_count_112 (by decide) ?_
    refine j_iload_n dX5_count_115 rfl ?_
    refine j_iadd dX5_count_116 ?_
    refine s_ald (198 + 0) dX5_count_117 (by first | rfl | (simp only [z_n, pk_mul, nI_add]; done) | (simp only [z_n, pk_mul, nI_add]; exact pk_sub (by omega)) | (simp only [z_n, pk_mul, nI_add, pk_sub, *]; done)) (by first | decide | omega) ?_
    refine j_iret dX5_count_118 rfl (rfl) ?_
    exact hQ _ _ (z_ps ((if_neg hv).trans (by rw [hv2]; exact (rfl))))
  · refine j_tableIn dX5_count_1 (off := 107) (tgt := 108) (by decide) (by decide) rfl rfl ?_
    refine j_aload_n dX5_count_108 rfl ?_
    refine j_get (v := .ref 216) dX5_count_109 fX5_7 rfl (by decide) (gS_p0 hg) ?_
    refine j_sipush (v := 198) dX5_count_112 (by decide) ?_
    refine j_iload_n dX5_count_115 rfl ?_
    refine j_iadd dX5_count_116 ?_
    refine s_ald (198 + 1) dX5_count_117 (by first | rfl | (simp only [z_n, pk_mul, nI_add]; done) | (simp only [z_n, pk_mul, nI_add]; exact pk_sub (by omega)) | (simp only [z_n, pk_mul, nI_add, pk_sub, *]; done)) (by first | decide | omega) ?_
    refine j_iret dX5_count_118 rfl (rfl) ?_
    exact hQ _ _ (z_ps ((if_neg hv).trans (by rw [hv2]; exact (rfl))))
  · refine j_tableIn dX5_count_1 (off := 107) (tgt := 108) (by decide) (by decide) rfl rfl ?_
    refine j_aload_n dX5_count_108 rfl ?_
    refine j_get (v := .ref 216) dX5_count_109 fX5_7 rfl (by decide) (gS_p0 hg) ?_
    refine j_sipush (v := 198) dX5_count_112 (by decide) ?_
    refine j_iload_n dX5_count_115 rfl ?_
    refine j_iadd dX5_count_116 ?_
    refine s_ald (198 + 2) dX5_count_117 (by first | rfl | (simp only [z_n, pk_mul, nI_add]; done) | (simp only [z_n, pk_mul, nI_add]; exact pk_sub (by omega)) | (simp only [z_n, pk_mul, nI_add, pk_sub, *]; done)) (by first | decide | omega) ?_
    refine j_iret dX5_count_118 rfl (rfl) ?_
    exact hQ _ _ (z_ps ((if_neg hv).trans (by rw [hv2]; exact (rfl))))
  · refine j_tableIn dX5_count_1 (off := 118) (tgt := 119) (by decide) (by decide) rfl rfl ?_
    refine j_aload_n dX5_count_119 rfl ?_
    refine j_get (v := .ref 216) dX5_count_120 fX5_7 rfl (by decide) (gS_p0 hg) ?_
    refine j_sipush (v := 148) dX5_count_123 (by decide) ?_
    refine s_ald 148 dX5_count_126 (rfl) (by first | decide | omega) ?_
    refine j_iret dX5_count_127 rfl (rfl) ?_
    exact hQ _ _ (z_ps ((if_neg hv).trans (by rw [hv2]; exact (rfl))))
  · refine j_tableIn dX5_count_1 (off := 127) (tgt := 128) (by decide) (by decide) rfl rfl ?_
    refine j_aload_n dX5_count_128 rfl ?_
    refine j_get (v := .ref 216) dX5_count_129 fX5_7 rfl (by decide) (gS_p0 hg) ?_
    refine j_sipush (v := 201) dX5_count_132 (by decide) ?_
    refine j_iload_n dX5_count_135 rfl ?_
    refine j_iadd dX5_count_136 ?_
    refine j_iconst (v := 4) dX5_count_137 (by decide) ?_
    refine j_isub dX5_count_138 ?_
    refine s_ald ((201 + 4) - 4) dX5_count_139 (by first | rfl | (simp only [z_n, pk_mul, nI_add]; done) | (simp only [z_n, pk_mul, nI_add]; exact pk_sub (by omega)) | (simp only [z_n, pk_mul, nI_add, pk_sub, *]; done)) (by first | decide | omega) ?_
    refine j_iret dX5_count_140 rfl (rfl) ?_
    exact hQ _ _ (z_ps ((if_neg hv).trans (by rw [hv2]; exact (rfl))))
  · refine j_tableIn dX5_count_1 (off := 127) (tgt := 128) (by decide) (by decide) rfl rfl ?_
    refine j_aload_n dX5_count_128 rfl ?_
    refine j_get (v := .ref 216) dX5_count_129 fX5_7 rfl (by decide) (gS_p0 hg) ?_
    refine j_sipush (v := 201) dX5_count_132 (by decide) ?_
    refine j_iload_n dX5_count_135 rfl ?_
    refine j_iadd dX5_count_136 ?_
    refine j_iconst (v := 4) dX5_count_137 (by decide) ?_
    refine j_isub dX5_count_138 ?_
    refine s_ald ((201 + 5) - 4) dX5_count_139 (by first | rfl | (simp only [z_n, pk_mul, nI_add]; done) | (simp only [z_n, pk_mul, nI_add]; exact pk_sub (by omega)) | (simp only [z_n, pk_mul, nI_add, pk_sub, *]; done)) (by first | decide | omega) ?_
    refine j_iret dX5_count_140 rfl (rfl) ?_
    exact hQ _ _ (z_ps ((if_neg hv).trans (by rw [hv2]; exact (rfl))))
  · refine j_tableIn dX5_count_1 (off := 127) (tgt := 128) (by decide) (by decide) rfl rfl ?_
    refine j_aload_n dX5_count_128 rfl ?_
    refine j_get (v := .ref 216) dX5_count_129 fX5_7 rfl (by decide) (gS_p0 hg) ?_
    refine j_sipush (v := 201) dX5_count_132 (by decide) ?_
    refine j_iload_n dX5_count_135 rfl ?_
    refine j_iadd dX5_count_136 ?_
    refine j_iconst (v := 4) dX5_count_137 (by decide) ?_
    refine j_isub dX5_count_138 ?_
    refine s_ald ((201 + 6) - 4) dX5_count_139 (by first | rfl | (simp only [z_n, pk_mul, nI_add]; done) | (simp only [z_n, pk_mul, nI_add]; exact pk_sub (by omega)) | (simp only [z_n, pk_mul, nI_add, pk_sub, *]; done)) (by first | decide | omega) ?_
    refine j_iret dX5_count_140 rfl (rfl) ?_
    exact hQ _ _ (z_ps ((if_neg hv).trans (by rw [hv2]; exact (rfl))))
  · refine j_tableIn dX5_count_1 (off := 127) (tgt := 128) (by decide) (by decide) rfl rfl ?_
    refine j_aload_n dX5_count_128 rfl ?_
    refine j_get (v := .ref 216) dX5_count_129 fX5_7 rfl (by decide) (gS_p0 hg) ?_
    refine j_sipush (v := 201) dX5_count_132 (by decide) ?_
    refine j_iload_n dX5_count_135 rfl ?_
    refine j_iadd dX5_count_136 ?_
    refine j_iconst (v := 4) dX5_count_137 (by decide) ?_
    refine j_isub dX5_count_138 ?_
    refine s_ald ((201 + 7) - 4) dX5_count_139 (by first | rfl | (simp only [z_n, pk_mul, nI_add]; done) | (simp only [z_n, pk_mul, nI_add]; exact pk_sub (by omega)) | (simp only [z_n, pk_mul, nI_add, pk_sub, *]; done)) (by first | decide | omega) ?_
    refine j_iret dX5_count_140 rfl (rfl) ?_
    exact hQ _ _ (z_ps ((if_neg hv).trans (by rw [hv2]; exact (rfl))))
  · refine j_tableIn dX5_count_1 (off := 127) (tgt := 128) (by decide) (by decide) rfl rfl ?_
    refine j_aload_n dX5_count_128 rfl ?_
    refine j_get (v := .ref 216) dX5_count_129 fX5_7 rfl (by decide) (gS_p0 hg) ?_
    refine j_sipush (v := 201) dX5_count_132 (by decide) ?_
    refine j_iload_n dX5_count_135 rfl ?_
    refine j_iadd dX5_count_136 ?_
    refine j_iconst (v := 4) dX5_count_137 (by decide) ?_
    refine j_isub dX5_count_138 ?_
    refine s_ald ((201 + 8) - 4) dX5_count_139 (by first | rfl | (simp only [z_n, pk_mul, nI_add]; done) | (simp only [z_n, pk_mul, nI_add]; exact pk_sub (by omega)) | (simp only [z_n, pk_mul, nI_add, pk_sub, *]; done)) (by first | decide | omega) ?_
    refine j_iret dX5_count_140 rfl (rfl) ?_
    exact hQ _ _ (z_ps ((if_neg hv).trans (by rw [hv2]; exact (rfl))))
  · refine j_tableIn dX5_count_1 (off := 140) (tgt := 141) (by decide) (by decide) rfl rfl ?_
    refine j_aload_n dX5_count_141 rfl ?_
    refine k_callV0i dX5_count_142 vX5_count_124 (s_byPurses hg hn hN) rfl (by decide)  (Nat.le_of_ble_eq_true rfl) ⟨rfl, rfl⟩ rfl ?_
    rintro _ _ ⟨⟨⟩, rfl⟩
    refine j_iret dX5_count_145 rfl (rfl) ?_
    exact hQ _ _ (z_ps ((if_neg hv).trans (by rw [hv2]; exact (rfl))))
  · refine j_tableIn dX5_count_1 (off := 145) (tgt := 146) (by decide) (by decide) rfl rfl ?_
    refine j_aload_n dX5_count_146 rfl ?_
    refine j_get (v := .ref 216) dX5_count_147 fX5_7 rfl (by decide) (gS_p0 hg) ?_
    refine j_sipush (v := 206) dX5_count_150 (by decide) ?_
    refine j_iload_n dX5_count_153 rfl ?_
    refine j_iadd dX5_count_154 ?_
    refine j_bipush (v := 10) dX5_count_155 (by decide) ?_
    refine j_isub dX5_count_157 ?_
    refine s_ald ((206 + 10) - 10) dX5_count_158 (by first | rfl | (simp only [z_n, pk_mul, nI_add]; done) | (simp only [z_n, pk_mul, nI_add]; exact pk_sub (by omega)) | (simp only [z_n, pk_mul, nI_add, pk_sub, *]; done)) (by first | decide | omega) ?_
    refine j_iret dX5_count_159 rfl (rfl) ?_
    exact hQ _ _ (z_ps ((if_neg hv).trans (by rw [hv2]; exact (rfl))))
  · refine j_tableIn dX5_count_1 (off := 145) (tgt := 146) (by decide) (by decide) rfl rfl ?_
    refine j_aload_n dX5_count_146 rfl ?_
    refine j_get (v := .ref 216) dX5_count_147 fX5_7 rfl (by decide) (gS_p0 hg) ?_
    refine j_sipush (v := 206) dX5_count_150 (by decide) ?_
    refine j_iload_n dX5_count_153 rfl ?_
    refine j_iadd dX5_count_154 ?_
    refine j_bipush (v := 10) dX5_count_155 (by decide) ?_
    refine j_isub dX5_count_157 ?_
    refine s_ald ((206 + 11) - 10) dX5_count_158 (by first | rfl | (simp only [z_n, pk_mul, nI_add]; done) | (simp only [z_n, pk_mul, nI_add]; exact pk_sub (by omega)) | (simp only [z_n, pk_mul, nI_add, pk_sub, *]; done)) (by first | decide | omega) ?_
    refine j_iret dX5_count_159 rfl (rfl) ?_
    exact hQ _ _ (z_ps ((if_neg hv).trans (by rw [hv2]; exact (rfl))))
  · refine j_tableIn dX5_count_1 (off := 145) (tgt := 146) (by decide) (by decide) rfl rfl ?_
    refine j_aload_n dX5_count_146 rfl ?_
    refine j_get (v := .ref 216) dX5_count_147 fX5_7 rfl (by decide) (gS_p0 hg) ?_
    refine j_sipush (v := 206) dX5_count_150 (by decide) ?_
    refine j_iload_n dX5_count_153 rfl ?_
    refine j_iadd dX5_count_154 ?_
    refine j_bipush (v := 10) dX5_count_155 (by decide) ?_
    refine j_isub dX5_count_157 ?_
    refine s_ald ((206 + 12) - 10) dX5_count_158 (by first | rfl | (simp only [z_n, pk_mul, nI_add]; done) | (simp only [z_n, pk_mul, nI_add]; exact pk_sub (by omega)) | (simp only [z_n, pk_mul, nI_add, pk_sub, *]; done)) (by first | decide | omega) ?_
    refine j_iret dX5_count_159 rfl (rfl) ?_
    exact hQ _ _ (z_ps ((if_neg hv).trans (by rw [hv2]; exact (rfl))))
  · refine j_tableIn dX5_count_1 (off := 159) (tgt := 160) (by decide) (by decide) rfl rfl ?_
    refine j_aload_n dX5_count_160 rfl ?_
    refine k_callV0i dX5_count_161 vX5_count_108 (s_colds hg hn hN) rfl (by decide)  (Nat.le_of_ble_eq_true rfl) ⟨rfl, rfl⟩ rfl ?_
    rintro _ _ ⟨⟨⟩, rfl⟩
    refine j_iret dX5_count_164 rfl (rfl) ?_
    exact hQ _ _ (z_ps ((if_neg hv).trans (by rw [hv2]; exact (rfl))))
  · refine j_tableIn dX5_count_1 (off := 164) (tgt := 165) (by decide) (by decide) rfl rfl ?_
    refine j_aload_n dX5_count_165 rfl ?_
    refine j_get (v := .ref 216) dX5_count_166 fX5_7 rfl (by decide) (gS_p0 hg) ?_
    refine j_sipush (v := 209) dX5_count_169 (by decide) ?_
    refine j_iload_n dX5_count_172 rfl ?_
    refine j_iadd dX5_count_173 ?_
    refine j_bipush (v := 14) dX5_count_174 (by decide) ?_
    refine j_isub dX5_count_176 ?_
    refine s_ald ((209 + 14) - 14) dX5_count_177 (by first | rfl | (simp only [z_n, pk_mul, nI_add]; done) | (simp only [z_n, pk_mul, nI_add]; exact pk_sub (by omega)) | (simp only [z_n, pk_mul, nI_add, pk_sub, *]; done)) (by first | decide | omega) ?_
    refine j_iret dX5_count_178 rfl (rfl) ?_
    exact hQ _ _ (z_ps ((if_neg hv).trans (by rw [hv2]; exact (rfl))))
  · refine j_tableIn dX5_count_1 (off := 164) (tgt := 165) (by decide) (by decide) rfl rfl ?_
    refine j_aload_n dX5_count_165 rfl ?_
    refine j_get (v := .ref 216) dX5_count_166 fX5_7 rfl (by decide) (gS_p0 hg) ?_
    refine j_sipush (v := 209) dX5_count_169 (by decide) ?_
    refine j_iload_n dX5_count_172 rfl ?_
    refine j_iadd dX5_count_173 ?_
    refine j_bipush (v := 14) dX5_count_174 (by decide) ?_
    refine j_isub dX5_count_176 ?_
    refine s_ald ((209 + 15) - 14) dX5_count_177 (by first | rfl | (simp only [z_n, pk_mul, nI_add]; done) | (simp only [z_n, pk_mul, nI_add]; exact pk_sub (by omega)) | (simp only [z_n, pk_mul, nI_add, pk_sub, *]; done)) (by first | decide | omega) ?_
    refine j_iret dX5_count_178 rfl (rfl) ?_
    exact hQ _ _ (z_ps ((if_neg hv).trans (by rw [hv2]; exact (rfl))))
  · refine j_tableIn dX5_count_1 (off := 178) (tgt := 179) (by decide) (by decide) rfl rfl ?_
    refine j_aload_n dX5_count_179 rfl ?_
    refine j_get (v := .int pa) dX5_count_180 fX5_32 rfl (by decide) (by rw [gS_ne (by decide)]; exact hpa) ?_
    refine j_iret dX5_count_183 rfl (rfl) ?_
    exact hQ _ _ (z_ps ((if_neg hv).trans (by rw [hv2]; exact (rfl))))
  · refine j_tableIn dX5_count_1 (off := 183) (tgt := 184) (by decide) (by decide) rfl rfl ?_
    refine j_aload_n dX5_count_184 rfl ?_
    refine j_get (v := .int ty) dX5_count_185 fX5_127 rfl (by decide) (by rw [gS_ne (by decide)]; exact hty) ?_
    refine j_iret dX5_count_188 rfl (rfl) ?_
    exact hQ _ _ (z_ps ((if_neg hv).trans (by rw [hv2]; exact (rfl))))
  · refine j_tableIn dX5_count_1 (off := 188) (tgt := 189) (by decide) (by decide) rfl rfl ?_
    refine j_aload_n dX5_count_189 rfl ?_
    refine j_get (v := .ref 216) dX5_count_190 fX5_7 rfl (by decide) (gS_p0 hg) ?_
    refine j_sipush (v := 211) dX5_count_193 (by decide) ?_
    refine s_ald 211 dX5_count_196 (rfl) (by first | decide | omega) ?_
    refine j_iret dX5_count_197 rfl (rfl) ?_
    exact hQ _ _ (z_ps ((if_neg hv).trans (by rw [hv2]; exact (rfl))))
  · refine j_tableIn dX5_count_1 (off := 211) (tgt := 212) (by decide) (by decide) rfl rfl ?_
    refine j_ldc (v := (-1000001)) dX5_count_212 cX5_78 ?_
    refine j_iret dX5_count_214 rfl (rfl) ?_
    exact hQ _ _ (z_ps ((if_neg hv).trans (by rw [hv2]; exact (rfl))))
  · refine j_tableIn dX5_count_1 (off := 197) (tgt := 198) (by decide) (by decide) rfl rfl ?_
    refine j_aload_n dX5_count_198 rfl ?_
    refine j_get (v := .ref 216) dX5_count_199 fX5_7 rfl (by decide) (gS_p0 hg) ?_
    refine j_sipush (v := 212) dX5_count_202 (by decide) ?_
    refine j_iload_n dX5_count_205 rfl ?_
    refine j_iadd dX5_count_206 ?_
    refine j_bipush (v := 20) dX5_count_207 (by decide) ?_
    refine j_isub dX5_count_209 ?_
    refine s_ald ((212 + 20) - 20) dX5_count_210 (by first | rfl | (simp only [z_n, pk_mul, nI_add]; done) | (simp only [z_n, pk_mul, nI_add]; exact pk_sub (by omega)) | (simp only [z_n, pk_mul, nI_add, pk_sub, *]; done)) (by first | decide | omega) ?_
    refine j_iret dX5_count_211 rfl (rfl) ?_
    exact hQ _ _ (z_ps ((if_neg hv).trans (by rw [hv2]; exact (rfl))))
  · refine j_tableIn dX5_count_1 (off := 197) (tgt := 198) (by decide) (by decide) rfl rfl ?_
    refine j_aload_n dX5_count_198 rfl ?_
    refine j_get (v := .ref 216) dX5_count_199 fX5_7 rfl (by decide) (gS_p0 hg) ?_
    refine j_sipush (v := 212) dX5_count_202 (by decide) ?_
    refine j_iload_n dX5_count_205 rfl ?_
    refine j_iadd dX5_count_206 ?_
    refine j_bipush (v := 20) dX5_count_207 (by decide) ?_
    refine j_isub dX5_count_209 ?_
    refine s_ald ((212 + 21) - 20) dX5_count_210 (by first | rfl | (simp only [z_n, pk_mul, nI_add]; done) | (simp only [z_n, pk_mul, nI_add]; exact pk_sub (by omega)) | (simp only [z_n, pk_mul, nI_add, pk_sub, *]; done)) (by first | decide | omega) ?_
    refine j_iret dX5_count_211 rfl (rfl) ?_
    exact hQ _ _ (z_ps ((if_neg hv).trans (by rw [hv2]; exact (rfl))))
  · refine j_tableIn dX5_count_1 (off := 197) (tgt := 198) (by decide) (by decide) rfl rfl ?_
    refine j_aload_n dX5_count_198 rfl ?_
    refine j_get (v := .ref 216) dX5_count_199 fX5_7 rfl (by decide) (gS_p0 hg) ?_
    refine j_sipush (v := 212) dX5_count_202 (by decide) ?_
    refine j_iload_n dX5_count_205 rfl ?_
    refine j_iadd dX5_count_206 ?_
    refine j_bipush (v := 20) dX5_count_207 (by decide) ?_
    refine j_isub dX5_count_209 ?_
    refine s_ald ((212 + 22) - 20) dX5_count_210 (by first | rfl | (simp only [z_n, pk_mul, nI_add]; done) | (simp only [z_n, pk_mul, nI_add]; exact pk_sub (by omega)) | (simp only [z_n, pk_mul, nI_add, pk_sub, *]; done)) (by first | decide | omega) ?_
    refine j_iret dX5_count_211 rfl (rfl) ?_
    exact hQ _ _ (z_ps ((if_neg hv).trans (by rw [hv2]; exact (rfl))))
  · refine j_tableOut dX5_count_1 (tgt := 212) (hv) rfl ?_
    refine j_ldc (v := (-1000001)) dX5_count_212 cX5_78 ?_
    refine j_iret dX5_count_214 rfl (rfl) ?_
    exact hQ _ _ (z_ps ((if_pos hv).trans (rfl)))
