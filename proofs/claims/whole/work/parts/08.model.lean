theorem z_n {n : Nat} : (OfNat.ofNat n : Int32) = nI n := rfl
/-- is v from a to b -/
def aIn (v a b : Int32) : Int32 := if v < a then 0 else if b < v then 0 else 1
set_option maxRecDepth 4000 in
set_option maxHeartbeats 1000000 in
theorem s_in {h : zH} {v a b : Int32} : zCT mX5_in [.int v, .int a, .int b] 222 (h) 222 (fun r h' => r = some (aIn v a b) ∧ h' = h) := by
  intro X Q hQ
  show zJ X mX5_in 222 0 [.int v, .int a, .int b] [] 222 (h) Q
  refine j_iload_n dX5_in_0 rfl ?_
  refine j_iload_n dX5_in_1 rfl ?_
  refine j_icmp_lt dX5_in_2 (tgt := 14) rfl (fun c1 => ?_) (fun c1 => ?_)
  · refine j_iconst (v := 0) dX5_in_14 (by decide) ?_
    refine j_iret dX5_in_15 rfl (rfl) ?_
    exact hQ _ _ ⟨by first | rfl | (simp [aIn, *]; done), rfl⟩
  · refine j_iload_n dX5_in_5 rfl ?_
    refine j_iload_n dX5_in_6 rfl ?_
    refine j_icmp_gt dX5_in_7 (tgt := 14) rfl (fun c2 => ?_) (fun c2 => ?_)
    · refine j_iconst (v := 0) dX5_in_14 (by decide) ?_
      refine j_iret dX5_in_15 rfl (rfl) ?_
      exact hQ _ _ ⟨by first | rfl | (simp [aIn, *]; done), rfl⟩
    · refine j_iconst (v := 1) dX5_in_10 (by decide) ?_
      refine j_goto dX5_in_11 (tgt := 15) rfl ?_
      refine j_iret dX5_in_15 rfl (rfl) ?_
      exact hQ _ _ ⟨by first | rfl | (simp [aIn, *]; done), rfl⟩
def aSeat (r c : Int32) : Int32 := if aIn r 0 5 = 0 then 0 else if aIn c 0 7 = 0 then 0 else 1
set_option maxRecDepth 4000 in
set_option maxHeartbeats 1000000 in
theorem s_isSeat {h : zH} {r c : Int32} : zCT mX5_isSeat [.int r, .int c] 222 (h) 222 (fun x h' => x = some (aSeat r c) ∧ h' = h) := by
  intro X Q hQ
  show zJ X mX5_isSeat 222 0 [.int r, .int c] [] 222 (h) Q
  refine j_iload_n dX5_isSeat_0 rfl ?_
  refine j_iconst (v := 0) dX5_isSeat_1 (by decide) ?_
  refine j_iconst (v := 5) dX5_isSeat_2 (by decide) ?_
  refine k_callS3i dX5_isSeat_3 vX5_isSeat_36 (s_in) rfl rfl rfl (Nat.le_of_ble_eq_true rfl) ⟨rfl, rfl⟩ rfl ?_
  rintro _ _ ⟨⟨⟩, rfl⟩
  refine j_if_eq dX5_isSeat_6 (tgt := 23) rfl (fun c1 => ?_) (fun c1 => ?_)
  · refine j_iconst (v := 0) dX5_isSeat_23 (by decide) ?_
    refine j_iret dX5_isSeat_24 rfl (rfl) ?_
    exact hQ _ _ ⟨by first | rfl | (simp [aSeat, *]; done), rfl⟩
  · refine j_iload_n dX5_isSeat_9 rfl ?_
    refine j_iconst (v := 0) dX5_isSeat_10 (by decide) ?_
    refine j_bipush (v := 7) dX5_isSeat_11 (by decide) ?_
    refine k_callS3i dX5_isSeat_13 vX5_isSeat_36 (s_in) rfl rfl rfl (Nat.le_of_ble_eq_true rfl) ⟨rfl, rfl⟩ rfl ?_
    rintro _ _ ⟨⟨⟩, rfl⟩
    refine j_if_eq dX5_isSeat_16 (tgt := 23) rfl (fun c2 => ?_) (fun c2 => ?_)
    · refine j_iconst (v := 0) dX5_isSeat_23 (by decide) ?_
      refine j_iret dX5_isSeat_24 rfl (rfl) ?_
      exact hQ _ _ ⟨by first | rfl | (simp [aSeat, *]; done), rfl⟩
    · refine j_iconst (v := 1) dX5_isSeat_19 (by decide) ?_
      refine j_goto dX5_isSeat_20 (tgt := 24) rfl ?_
      refine j_iret dX5_isSeat_24 rfl (rfl) ?_
      exact hQ _ _ ⟨by first | rfl | (simp [aSeat, *]; done), rfl⟩
set_option maxRecDepth 4000 in
set_option maxHeartbeats 1000000 in
theorem s_of {g : zH} {s : Nat → Int32} (hg : gP g) (k v : Nat) (hk : k < 12) (hv : v < 11) : zCT mX5_of [.ref 215, .int (nI k), .int (nI v)] 222 (gS g s) 222 (fun r h' => r = some (s (11 * k + v)) ∧ h' = gS g s) := by
  intro X Q hQ
  show zJ X mX5_of 222 0 [.ref 215, .int (nI k), .int (nI v)] [] 222 (gS g s) Q
  refine j_aload_n dX5_of_0 rfl ?_
  refine j_get (v := .ref 216) dX5_of_1 fX5_7 rfl (by decide) (gS_p0 hg) ?_
  refine j_bipush (v := 11) dX5_of_4 (by decide) ?_
  refine j_iload_n dX5_of_6 rfl ?_
  refine j_imul dX5_of_7 ?_
  refine j_iload_n dX5_of_8 rfl ?_
  refine j_iadd dX5_of_9 ?_
  refine s_ald ((11 * k) + v) dX5_of_10 (by first | rfl | (simp only [z_n, pk_mul, nI_add]; done) | (simp only [z_n, pk_mul, nI_add]; exact pk_sub (by omega)) | (simp only [z_n, pk_mul, nI_add, pk_sub, *]; done)) (by first | decide | omega) ?_
  refine j_iret dX5_of_11 rfl (rfl) ?_
  exact hQ _ _ ⟨by first | rfl | (simp [ *]; done), rfl⟩
set_option maxRecDepth 4000 in
set_option maxHeartbeats 1000000 in
theorem s_adds {g : zH} {s : Nat → Int32} (hg : gP g) (k v : Nat) {x : Int32} (hk : k < 12) (hv : v < 11) : zCT mX5_adds [.ref 215, .int (nI k), .int (nI v), .int x] 222 (gS g s) 222 (fun r h' => r = none ∧ h' = gS g (upd s (11 * k + v) (s (11 * k + v) + x))) := by
  intro X Q hQ
  show zJ X mX5_adds 222 0 [.ref 215, .int (nI k), .int (nI v), .int x] [] 222 (gS g s) Q
  refine j_aload_n dX5_adds_0 rfl ?_
  refine j_get (v := .ref 216) dX5_adds_1 fX5_7 rfl (by decide) (gS_p0 hg) ?_
  refine j_bipush (v := 11) dX5_adds_4 (by decide) ?_
  refine j_iload_n dX5_adds_6 rfl ?_
  refine j_imul dX5_adds_7 ?_
  refine j_iload_n dX5_adds_8 rfl ?_
  refine j_iadd dX5_adds_9 ?_
  refine j_dup2 dX5_adds_10 rfl rfl ?_
  refine s_ald ((11 * k) + v) dX5_adds_11 (by first | rfl | (simp only [z_n, pk_mul, nI_add]; done) | (simp only [z_n, pk_mul, nI_add]; exact pk_sub (by omega)) | (simp only [z_n, pk_mul, nI_add, pk_sub, *]; done)) (by first | decide | omega) ?_
  refine j_iload_n dX5_adds_12 rfl ?_
  refine j_iadd dX5_adds_13 ?_
  refine s_ast ((11 * k) + v) dX5_adds_14 (by first | rfl | (simp only [z_n, pk_mul, nI_add]; done) | (simp only [z_n, pk_mul, nI_add]; exact pk_sub (by omega)) | (simp only [z_n, pk_mul, nI_add, pk_sub, *]; done)) (by first | decide | omega) ?_
  refine j_vret dX5_adds_15 rfl ?_
  exact hQ _ _ ⟨rfl, rfl⟩
set_option maxRecDepth 4000 in
set_option maxHeartbeats 1000000 in
theorem s_lay {g : zH} {s : Nat → Int32} (hg : gP g) (k v : Nat) {x : Int32} (hk : k < 12) (hv : v < 11) : zCT mX5_lay [.ref 215, .int (nI k), .int (nI v), .int x] 222 (gS g s) 222 (fun r h' => r = none ∧ h' = gS g (upd s (11 * k + v) x)) := by
  intro X Q hQ
  show zJ X mX5_lay 222 0 [.ref 215, .int (nI k), .int (nI v), .int x] [] 222 (gS g s) Q
  refine j_aload_n dX5_lay_0 rfl ?_
  refine j_get (v := .ref 216) dX5_lay_1 fX5_7 rfl (by decide) (gS_p0 hg) ?_
  refine j_bipush (v := 11) dX5_lay_4 (by decide) ?_
  refine j_iload_n dX5_lay_6 rfl ?_
  refine j_imul dX5_lay_7 ?_
  refine j_iload_n dX5_lay_8 rfl ?_
  refine j_iadd dX5_lay_9 ?_
  refine j_iload_n dX5_lay_10 rfl ?_
  refine s_ast ((11 * k) + v) dX5_lay_11 (by first | rfl | (simp only [z_n, pk_mul, nI_add]; done) | (simp only [z_n, pk_mul, nI_add]; exact pk_sub (by omega)) | (simp only [z_n, pk_mul, nI_add, pk_sub, *]; done)) (by first | decide | omega) ?_
  refine j_vret dX5_lay_12 rfl ?_
  exact hQ _ _ ⟨rfl, rfl⟩
def aIs (s : Nat → Int32) (b : Int32) : Int32 := aIn b 0 (s 199 - 1)
def aLoud (s : Nat → Int32) (k : Nat) : Int32 := s (11 * k + 3) + s (11 * k + 4) - s (11 * k + 5) - s (11 * k + 0)
def aAsk (s : Nat → Int32) : Int32 := if s 152 ≤ 0 then s 149 else s 151 + s 150
def aBar (s : Nat → Int32) (k : Nat) : Int32 := if s 148 = 0 then 1 else if ¬ s 212 ≤ aLoud s k then 2 else if s 152 = nI k + 1 then 3 else if ¬ aAsk s ≤ s (11 * k + 2) then 4 else 0
theorem aIn_b {v a b : Int32} : narrow .boolean (.int (aIn v a b)) = .int (aIn v a b) := by
  unfold aIn
  split
  · rfl
  · split <;> rfl
set_option maxRecDepth 4000 in
set_option maxHeartbeats 1000000 in
theorem s_isBidder {g : zH} {s : Nat → Int32} (hg : gP g) {b : Int32} : zCT mX5_isBidder [.ref 215, .int b] 222 (gS g s) 222 (fun r h' => r = some (aIs s b) ∧ h' = gS g s) := by
  intro X Q hQ
  show zJ X mX5_isBidder 222 0 [.ref 215, .int b] [] 222 (gS g s) Q
  refine j_iload_n dX5_isBidder_0 rfl ?_
  refine j_iconst (v := 0) dX5_isBidder_1 (by decide) ?_
  refine j_aload_n dX5_isBidder_2 rfl ?_
  refine j_get (v := .ref 216) dX5_isBidder_3 fX5_7 rfl (by decide) (gS_p0 hg) ?_
  refine j_sipush (v := 199) dX5_isBidder_6 (by decide) ?_
  refine s_ald 199 dX5_isBidder_9 (rfl) (by first | decide | omega) ?_
  refine j_iconst (v := 1) dX5_isBidder_10 (by decide) ?_
  refine j_isub dX5_isBidder_11 ?_
  refine k_callS3i dX5_isBidder_12 vX5_isBidder_36 (s_in) rfl rfl rfl (Nat.le_of_ble_eq_true rfl) ⟨rfl, rfl⟩ rfl ?_
  rintro _ _ ⟨⟨⟩, rfl⟩
  refine j_iret dX5_isBidder_15 rfl (aIn_b) ?_
  exact hQ _ _ ⟨by first | rfl | (simp [aIs, *]; done), rfl⟩
set_option maxRecDepth 4000 in
set_option maxHeartbeats 1000000 in
theorem s_loud {g : zH} {s : Nat → Int32} (hg : gP g) (k : Nat) (hk : k < 12) : zCT mX5_loud [.ref 215, .int (nI k)] 222 (gS g s) 222 (fun r h' => r = some (aLoud s k) ∧ h' = gS g s) := by
  intro X Q hQ
  show zJ X mX5_loud 222 0 [.ref 215, .int (nI k)] [] 222 (gS g s) Q
  refine j_aload_n dX5_loud_0 rfl ?_
  refine j_iload_n dX5_loud_1 rfl ?_
  refine j_iconst (v := 3) dX5_loud_2 (by decide) ?_
  refine k_callV2i dX5_loud_3 vX5_loud_40 (s_of hg k 3 (by omega) (by omega)) rfl (by decide) rfl rfl (Nat.le_of_ble_eq_true rfl) ⟨rfl, rfl⟩ rfl ?_
  rintro _ _ ⟨⟨⟩, rfl⟩
  refine j_aload_n dX5_loud_6 rfl ?_
  refine j_iload_n dX5_loud_7 rfl ?_
  refine j_iconst (v := 4) dX5_loud_8 (by decide) ?_
  refine k_callV2i dX5_loud_9 vX5_loud_40 (s_of hg k 4 (by omega) (by omega)) rfl (by decide) rfl rfl (Nat.le_of_ble_eq_true rfl) ⟨rfl, rfl⟩ rfl ?_
  rintro _ _ ⟨⟨⟩, rfl⟩
  refine j_iadd dX5_loud_12 ?_
  refine j_aload_n dX5_loud_13 rfl ?_
  refine j_iload_n dX5_loud_14 rfl ?_
  refine j_iconst (v := 5) dX5_loud_15 (by decide) ?_
  refine k_callV2i dX5_loud_16 vX5_loud_40 (s_of hg k 5 (by omega) (by omega)) rfl (by decide) rfl rfl (Nat.le_of_ble_eq_true rfl) ⟨rfl, rfl⟩ rfl ?_
  rintro _ _ ⟨⟨⟩, rfl⟩
  refine j_isub dX5_loud_19 ?_
  refine j_aload_n dX5_loud_20 rfl ?_
  refine j_iload_n dX5_loud_21 rfl ?_
  refine j_iconst (v := 0) dX5_loud_22 (by decide) ?_
  refine k_callV2i dX5_loud_23 vX5_loud_40 (s_of hg k 0 (by omega) (by omega)) rfl (by decide) rfl rfl (Nat.le_of_ble_eq_true rfl) ⟨rfl, rfl⟩ rfl ?_
  rintro _ _ ⟨⟨⟩, rfl⟩
  refine j_isub dX5_loud_26 ?_
  refine j_iret dX5_loud_27 rfl (rfl) ?_
  exact hQ _ _ ⟨by first | rfl | (simp [aLoud, *]; done), rfl⟩
set_option maxRecDepth 4000 in
set_option maxHeartbeats 1000000 in
theorem s_asked {g : zH} {s : Nat → Int32} (hg : gP g) : zCT mX5_asked [.ref 215] 222 (gS g s) 222 (fun r h' => r = some (aAsk s) ∧ h' = gS g s) := by
  intro X Q hQ
  show zJ X mX5_asked 222 0 [.ref 215] [] 222 (gS g s) Q
  refine j_aload_n dX5_asked_0 rfl ?_
  refine j_get (v := .ref 216) dX5_asked_1 fX5_7 rfl (by decide) (gS_p0 hg) ?_
  refine j_sipush (v := 152) dX5_asked_4 (by decide) ?_
  refine s_ald 152 dX5_asked_7 (rfl) (by first | decide | omega) ?_
  refine j_if_le dX5_asked_8 (tgt := 31) rfl (fun c1 => ?_) (fun c1 => ?_)
  · refine j_aload_n dX5_asked_31 rfl ?_
    refine j_get (v := .ref 216) dX5_asked_32 fX5_7 rfl (by decide) (gS_p0 hg) ?_
    refine j_sipush (v := 149) dX5_asked_35 (by decide) ?_
    refine s_ald 149 dX5_asked_38 (rfl) (by first | decide | omega) ?_
    refine j_iret dX5_asked_39 rfl (rfl) ?_
    exact hQ _ _ ⟨by first | rfl | (simp [aAsk, *]; done), rfl⟩
  · refine j_aload_n dX5_asked_11 rfl ?_
    refine j_get (v := .ref 216) dX5_asked_12 fX5_7 rfl (by decide) (gS_p0 hg) ?_
    refine j_sipush (v := 151) dX5_asked_15 (by decide) ?_
    refine s_ald 151 dX5_asked_18 (rfl) (by first | decide | omega) ?_
    refine j_aload_n dX5_asked_19 rfl ?_
    refine j_get (v := .ref 216) dX5_asked_20 fX5_7 rfl (by decide) (gS_p0 hg) ?_
    refine j_sipush (v := 150) dX5_asked_23 (by decide) ?_
    refine s_ald 150 dX5_asked_26 (rfl) (by first | decide | omega) ?_
    refine j_iadd dX5_asked_27 ?_
    refine j_goto dX5_asked_28 (tgt := 39) rfl ?_
    refine j_iret dX5_asked_39 rfl (rfl) ?_
    exact hQ _ _ ⟨by first | rfl | (simp [aAsk, *]; done), rfl⟩
set_option maxRecDepth 4000 in
set_option maxHeartbeats 1000000 in
theorem s_barred {g : zH} {s : Nat → Int32} (hg : gP g) (k : Nat) (hk : k < 12) : zCT mX5_barred [.ref 215, .int (nI k)] 222 (gS g s) 222 (fun r h' => r = some (aBar s k) ∧ h' = gS g s) := by
  intro X Q hQ
  show zJ X mX5_barred 222 0 [.ref 215, .int (nI k)] [] 222 (gS g s) Q
  refine j_aload_n dX5_barred_0 rfl ?_
  refine j_get (v := .ref 216) dX5_barred_1 fX5_7 rfl (by decide) (gS_p0 hg) ?_
  refine j_sipush (v := 148) dX5_barred_4 (by decide) ?_
  refine s_ald 148 dX5_barred_7 (rfl) (by first | decide | omega) ?_
  refine j_if_ne dX5_barred_8 (tgt := 13) rfl (fun c1 => ?_) (fun c1 => ?_)
  · refine j_aload_n dX5_barred_13 rfl ?_
    refine j_iload_n dX5_barred_14 rfl ?_
    refine k_callV1i dX5_barred_15 vX5_barred_45 (s_loud hg k (by omega)) rfl (by decide) rfl (Nat.le_of_ble_eq_true rfl) ⟨rfl, rfl⟩ rfl ?_
    rintro _ _ ⟨⟨⟩, rfl⟩
    refine j_aload_n dX5_barred_18 rfl ?_
    refine j_get (v := .ref 216) dX5_barred_19 fX5_7 rfl (by decide) (gS_p0 hg) ?_
    refine j_sipush (v := 212) dX5_barred_22 (by decide) ?_
    refine s_ald 212 dX5_barred_25 (rfl) (by first | decide | omega) ?_
    refine j_icmp_ge dX5_barred_26 (tgt := 33) rfl (fun c2 => ?_) (fun c2 => ?_)
    · refine j_aload_n dX5_barred_33 rfl ?_
      refine j_get (v := .ref 216) dX5_barred_34 fX5_7 rfl (by decide) (gS_p0 hg) ?_
      refine j_sipush (v := 152) dX5_barred_37 (by decide) ?_
      refine s_ald 152 dX5_barred_40 (rfl) (by first | decide | omega) ?_
      refine j_iload_n dX5_barred_41 rfl ?_
      refine j_iconst (v := 1) dX5_barred_42 (by decide) ?_
      refine j_iadd dX5_barred_43 ?_
      refine j_icmp_ne dX5_barred_44 (tgt := 51) rfl (fun c3 => ?_) (fun c3 => ?_)
      · refine j_aload_n dX5_barred_51 rfl ?_
        refine j_iload_n dX5_barred_52 rfl ?_
        refine j_iconst (v := 2) dX5_barred_53 (by decide) ?_
        refine k_callV2i dX5_barred_54 vX5_barred_40 (s_of hg k 2 (by omega) (by omega)) rfl (by decide) rfl rfl (Nat.le_of_ble_eq_true rfl) ⟨rfl, rfl⟩ rfl ?_
        rintro _ _ ⟨⟨⟩, rfl⟩
        refine j_aload_n dX5_barred_57 rfl ?_
        refine k_callV0i dX5_barred_58 vX5_barred_49 (s_asked hg) rfl (by decide)  (Nat.le_of_ble_eq_true rfl) ⟨rfl, rfl⟩ rfl ?_
        rintro _ _ ⟨⟨⟩, rfl⟩
        refine j_icmp_ge dX5_barred_61 (tgt := 68) rfl (fun c4 => ?_) (fun c4 => ?_)
        · refine j_iconst (v := 0) dX5_barred_68 (by decide) ?_
          refine j_iret dX5_barred_69 rfl (rfl) ?_
          exact hQ _ _ ⟨by first | rfl | (simp [aBar, *]; done), rfl⟩
        · refine j_iconst (v := 4) dX5_barred_64 (by decide) ?_
          refine j_goto dX5_barred_65 (tgt := 69) rfl ?_
          refine j_iret dX5_barred_69 rfl (rfl) ?_
          exact hQ _ _ ⟨by first | rfl | (simp [aBar, *]; done), rfl⟩
      · refine j_iconst (v := 3) dX5_barred_47 (by decide) ?_
        refine j_goto dX5_barred_48 (tgt := 69) rfl ?_
        refine j_iret dX5_barred_69 rfl (rfl) ?_
        exact hQ _ _ ⟨by first | rfl | (simp [aBar, *]; done), rfl⟩
    · refine j_iconst (v := 2) dX5_barred_29 (by decide) ?_
      refine j_goto dX5_barred_30 (tgt := 69) rfl ?_
      refine j_iret dX5_barred_69 rfl (rfl) ?_
      exact hQ _ _ ⟨by first | rfl | (simp [aBar, *]; done), rfl⟩
  · refine j_iconst (v := 1) dX5_barred_11 (by decide) ?_
    refine j_iret dX5_barred_12 rfl (rfl) ?_
    exact hQ _ _ ⟨by first | rfl | (simp [aBar, *]; done), rfl⟩
