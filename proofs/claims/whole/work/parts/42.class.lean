-- what would be, texts
section CV
variable {h g : zH} {π : Nat → Nat} {V : Nat → Nat → Nat → Int32} {P : Nat → Nat → Nat} {f nm s t u pa tx : Nat → Int32} {n T N W K : Nat} {v : Nat → Nat → Int32} {p : Nat → Nat}
theorem CQ_hh (hq : CQ h π V P f nm n tx T) : π 4 ≠ π 5 ∧ ∀ i, i < n → π i ≠ π 5 := by
  have h4 := CQ_n4 hq
  refine ⟨fun e => ?_, fun i hi e => ?_⟩
  · have := hq.1.2 4 5 (by omega) (by omega) e
    omega
  · have := hq.1.2 i 5 (by omega) (by omega) e
    omega
/-- whatever the trial holds -/
theorem CH_tr (hq : CQ h π V P f nm n tx T) (hS : AT (V (π 4)) (P (π 4)) s) (hH : ∀ i, i < n → AT (V (π i)) (P (π i)) (aUnS pa i)) (hp : AP p) (hz : AZ v) : CH (gAu h (bs (π 5)) v p) s pa n tx T := by
  obtain ⟨a, b⟩ := CQ_hh hq
  refine ⟨π, _, _, f, nm, CQ_tr hq hp hz, ?_, fun i hi => ?_⟩
  · rw [va_n a, va_n a]
    exact hS
  · rw [va_n (b i hi), va_n (b i hi)]
    exact hH i hi
/-- the script changes -/
theorem CQ_x {f2 nm2 tx2 : Nat → Int32} {T2 : Nat} (hq : CQ h π V P f nm n tx T) (h2 : f2 2 = nI T2) (h3 : T2 ≤ 60) (h4 : aTx tx2 T2) : CQ (gX h f2 tx2 nm2) π V P f2 nm2 n tx2 T2 := by
  obtain ⟨a1, a2, a3, a4, a5, a6⟩ := hq
  refine ⟨a1, fun i hi => ⟨fun a ha => ?_, (a2 i hi).2⟩, a3, ?_, ?_, h2, h3, h4⟩
  · rw [x_o (by have := bs_B i; unfold aB at this; omega)]
    exact (a2 i hi).1 a ha
  · rw [gO_gX, a4]
  · funext a
    unfold gX
    by_cases b1 : a = 142
    · rw [if_pos b1, if_pos b1]
    · rw [if_neg b1, if_neg b1]
      by_cases b2 : a = 143
      · rw [if_pos b2, if_pos b2]
      · rw [if_neg b2, if_neg b2]
        by_cases b3 : a = 144
        · rw [if_pos b3, if_pos b3]
        · rw [if_neg b3, if_neg b3]
/-- beats until the lot is gone -/
def dGn (N : Nat) : Nat → Nat → (Nat → Int32) → Int32
  | 0, _, _ => -1000004
  | n + 1, c, s => if aBeat s N 148 = 0 then nI (c + 1) else dGn N n (c + 1) (aBeat s N)
theorem dGn_eq : ∀ (n c : Nat) (s : Nat → Int32), aIa s N W → s 148 = 1 → aGi2 (aGl N n c s) = dGn N n c s
  | 0, c, s, _, h => if_pos h
  | n + 1, c, s, hI, h => by
    have hI2 := aIa_beat hI
    unfold aGl dGn
    rw [if_pos h]
    by_cases q : aBeat s N 148 = 0
    · rw [if_pos q]
      have e : aGl N n (c + 1) (aBeat s N) = (c + 1, aBeat s N) := by
        cases n with
        | zero => rfl
        | succ n =>
          unfold aGl
          rw [if_neg (by rw [q]; decide)]
      rw [e]
      exact if_neg (show ¬ aBeat s N 148 = 1 by rw [q]; decide)
    · rw [if_neg q]
      exact dGn_eq n (c + 1) _ hI2 (hI2.2.2.2.2.2.1.resolve_left q)
def dGi (s : Nat → Int32) (N : Nat) : Int32 := if s 148 = 0 then -1000002 else dGn N 200 0 s
theorem dGi_eq (hI : aIa s N W) : dGi s N = aGi s N := by
  unfold dGi aGi
  by_cases q : s 148 = 0
  · rw [if_pos q, if_pos q]
  · rw [if_neg q, if_neg q, dGn_eq 200 0 s hI (hI.2.2.2.2.2.1.resolve_left q)]
/-- colds go round n times -/
def dSn (N : Nat) : Nat → (Nat → Int32) → (Nat → Int32)
  | 0, s => s
  | n + 1, s => dSn N n (dSpr s N)
theorem dSb_c {k : Nat} (hk : k < 12) (e : ∀ j, j < 132 → t j = s j) : ∀ n i, i + n ≤ 12 → dSb t k n i = dSb s k n i
  | 0, _, _ => rfl
  | n + 1, i, h => by
    have ih := dSb_c hk e n (i + 1) (by omega)
    have e1 : dBes t i k = dBes s i k := by
      unfold dBes
      rw [e _ (by omega), e _ (by omega), e _ (by omega), e _ (by omega)]
    unfold dSb
    rw [e1, e _ (by omega), e _ (by omega), ih]
theorem dCm_c (hN : N ≤ 12) (e : ∀ j, j < 132 → t j = s j) : ∀ n k a, k + n ≤ 12 → dCm t N n k a = dCm s N n k a
  | 0, _, _, _ => rfl
  | n + 1, k, a, h => by
    unfold dCm
    rw [dSb_c (by omega) e N 0 (by omega), dCm_c hN e n (k + 1) _ (by omega), dCm_c hN e n (k + 1) _ (by omega)]
theorem dSl_c {m : Nat} : ∀ (n k : Nat) (s t : Nat → Int32), k + n ≤ 12 → (∀ j, j < 132 → t j = s j) → ∀ j, j < 132 → dSl m n k t j = dSl m n k s j
  | 0, _, _, _, _, e => e
  | n + 1, k, s, t, h, e => by
    intro j hj
    have up : ∀ x, ∀ j, j < 132 → upd t (11 * k + 4) x j = upd s (11 * k + 4) x j := fun x j hj => by
      by_cases q : j = 11 * k + 4
      · rw [q, upd_s, upd_s]
      · rw [upd_n q, upd_n q]
        exact e j hj
    unfold dSl
    rw [e (11 * k + 4) (by omega)]
    split
    · exact dSl_c n (k + 1) _ _ (by omega) (up _) j hj
    · exact dSl_c n (k + 1) _ _ (by omega) (up _) j hj
theorem dSpr_c (hN : N ≤ 12) (e : ∀ j, j < 132 → t j = s j) : ∀ j, j < 132 → dSpr t N j = dSpr s N j := by
  unfold dSpr
  rw [dCm_c hN e N 0 0 (by omega)]
  exact dSl_c N 0 s t (by omega) e
theorem dSn_eq : ∀ (n : Nat) (s t sp : Nat → Int32), aIa t N W → (∀ j, j < 132 → t j = s j) → ∀ j, j < 132 → (aNs N n t sp).1 j = dSn N n s j
  | 0, _, _, _, _, e => e
  | n + 1, s, t, sp, hI, e => by
    have hN := hI.1.2
    have e1 : aNight t (aMix t sp (11 * N)) N = aNe (dSpr t N) := dSpr_eq hI (fun j hj => aMix_lo hj)
    unfold aNs dSn
    rw [e1]
    refine dSn_eq n _ _ _ (aIa_irr (aIa_spr hI) (by unfold aRel; omega)) (fun j hj => ?_)
    unfold aNe
    rw [upd_n (by omega)]
    exact dSpr_c hN e j hj
theorem aIa_sn : ∀ (n : Nat) (s : Nat → Int32), aIa s N W → aIa (dSn N n s) N W
  | 0, _, h => h
  | n + 1, s, h => aIa_sn n _ (aIa_spr h)
theorem aCo_c (e : ∀ j, j < 132 → t j = s j) : ∀ n k a, k + n ≤ 12 → aCo t n k a = aCo s n k a
  | 0, _, _, _ => rfl
  | n + 1, k, a, h => by
    unfold aCo
    rw [e _ (by omega), aCo_c e n (k + 1) _ (by omega), aCo_c e n (k + 1) _ (by omega)]
def dIfN (s : Nat → Int32) (N : Nat) (m : Int32) : Int32 := if aIn m 1 20 = 0 then -1000001 else nI (aPop 12 (aCo (dSn N m.toNatClampNeg s) N 0 0))
theorem dIfN_eq (hI : aIa s N W) {sp : Nat → Int32} {m : Int32} : dIfN s N m = aIfN s sp N m := by
  have hN := hI.1.2
  unfold dIfN aIfN
  by_cases q : aIn m 1 20 = 0
  · rw [if_pos q, if_pos q]
  · rw [if_neg q, if_neg q, aCo_c (s := dSn N m.toNatClampNeg s) (t := (aNs N m.toNatClampNeg s sp).1) (dSn_eq _ s s sp hI (fun _ _ => rfl)) N 0 0 (by omega)]
def dFlt (D : aRt) (v : Int32) : Int32 := if aIn v 0 2 = 0 then -1000001 else if D.1 = 0 then (if v = 0 then D.2.1 else if v = 1 then D.2.2.1 else D.2.2.2.1) else -1000004
theorem dFlt_eq {R : aQt} {D : aRt} (h : dTl R D) {v : Int32} : dFlt D v = aFlt R v := by
  unfold dFlt aFlt aFl2
  by_cases q : aIn v 0 2 = 0
  · rw [if_pos q, if_pos q]
  · rw [if_neg q, if_neg q, h.1]
    by_cases z : D.1 = 0
    · rw [if_pos z, if_pos z, upd_n (by decide), upd_n (by decide), upd_n (by decide), (h.2.2 z).1, (h.2.2 z).2.1, (h.2.2 z).2.2]
    · rw [if_neg z, if_neg z]
def dPly (D : aRt) : Int32 := if D.1 = 0 then -1000002 else nI D.2.2.2.2.1
theorem dPly_eq {R R2 : aQt} {D : aRt} (h : dTl R D) (h2 : dTl R2 D) (hd : D.1 = 0 ∨ D.1 = 1) : dPly D = aPyQ R R2 := by
  unfold dPly aPyQ
  rw [h.1, h2.1]
  by_cases z : D.1 = 0
  · rw [if_pos z, if_pos z]
  · rw [if_neg z, if_neg z, if_neg z, upd_n (by decide), (h2.2.1 (hd.resolve_left z)).2]
end CV
theorem zb_lo' {h : zH} {i x : Nat} {v : Nat → Nat → Int32} {p : Nat → Nat} (hx : 215 ≤ x) : gAu h (bs i) v p x = h x := zb_lo (bs_B _) (by omega)
set_option maxRecDepth 4000 in
set_option maxHeartbeats 2000000 in
theorem o_ifb_lp {h : zH} {tx : Nat → Int32} {n0 T : Nat} {π : Nat → Nat} {V : Nat → Nat → Nat → Int32} {P : Nat → Nat → Nat} {f nm : Nat → Int32} (hq : CQ h π V P f nm n0 tx T) {N W m : Nat} (hm : m ≤ 50) {y : Value} {X : Nat × (Nat → Int32)} {Q : zQt} : ∀ (n k : Nat) (v : Nat → Nat → Int32) (p : Nat → Nat) (t : Nat → Int32) (K : Nat), k + n = m → AR v p t N W K → aIa t N W → t 210 = nI K →
    (∀ (v' : Nat → Nat → Int32) (p' : Nat → Nat) (K' : Nat), AR v' p' (aPass N n t) N W K' → (aPass N n t) 210 = nI K' → zJ X mX4_ifBeats 222 53 [.ref 0, .int (nI m), y, .int (nI m)] [] 222 (gAu h (bs (π 5)) v' p') Q) → zJ X mX4_ifBeats 222 35 [.ref 0, .int (nI m), y, .int (nI k)] [] 222 (gAu h (bs (π 5)) v p) Q := by
  intro n
  induction n with
  | zero =>
    intro k v p t K hk hAt hIt hKt kk
    obtain rfl : k = m := by omega
    refine j_iload_n dX4_ifBeats_35 rfl ?_
    refine j_iload_n dX4_ifBeats_36 rfl ?_
    refine j_icmp_ge dX4_ifBeats_37 (tgt := 53) rfl (fun _ => ?_) (fun c1 => absurd (show nI k ≤ nI k from nI_le (by omega) (by omega)) c1)
    exact kk v p K hAt hKt
  | succ n ih =>
    intro k v p t K hk hAt hIt hKt kk
    refine j_iload_n dX4_ifBeats_35 rfl ?_
    refine j_iload_n dX4_ifBeats_36 rfl ?_
    refine j_icmp_ge dX4_ifBeats_37 (tgt := 53) rfl (fun c1 => absurd c1 (show ¬ nI m ≤ nI k from nI_ge (by omega) (by omega))) (fun _ => ?_)
    refine j_aload_n dX4_ifBeats_40 rfl ?_
    refine j_get (v := .ref (bs (π 5))) dX4_ifBeats_41 fX4_31 rfl (by decide) ((congrFun (zb_lo (bs_B _) (by omega)) _).trans ((CQ_rd hq 0 4).trans gO_tri)) ?_
    refine k_callV0v dX4_ifBeats_44 vX4_ifBeats_138 (c_beat (bs_B _) hAt hIt hKt) (aB_S0 (bs_B _)) (aB_l0 (bs_B _))  (Nat.le_of_ble_eq_true rfl) ⟨rfl, rfl⟩ rfl ?_
    rintro _ ⟨-, v1, p1, K1, rfl, hK1, hA1⟩
    refine j_iinc (v := nI (k + 1)) dX4_ifBeats_47 rfl z_inc (by decide) ?_
    refine j_goto dX4_ifBeats_50 (tgt := 35) rfl ?_
    exact ih (k + 1) v1 p1 _ K1 (by omega) hA1 (aIa_beat hIt) hK1 kk
set_option maxRecDepth 4000 in
set_option maxHeartbeats 2000000 in
theorem o_ifb_end {h : zH} {s pa tx : Nat → Int32} {n T : Nat} {π : Nat → Nat} {V : Nat → Nat → Nat → Int32} {P : Nat → Nat → Nat} {f nm : Nat → Int32} (hq : CQ h π V P f nm n tx T) (hS : AT (V (π 4)) (P (π 4)) s) (hH : ∀ i, i < n → AT (V (π i)) (P (π i)) (aUnS pa i)) (hne : ¬ bs (π 5) = bs (π 4)) {N W K : Nat} (hb4 : zBk h (bs (π 4)) (V (π 4)) (P (π 4)) ∧ AP (P (π 4)) ∧ AZ (V (π 4))) (hA : AR (V (π 4)) (P (π 4)) s N W K) {v : Nat → Nat → Int32} {p : Nat → Nat} {t : Nat → Int32} {K2 : Nat} (hAt : AR v p t N W K2) {j : Nat} (hj : j ≤ 3) {y z : Value} {X : Nat × (Nat → Int32)} {Q : zQt} (hQ : ∀ r h', (r = some (aIfQ s t (nI j)) ∧ (∀ x, 215 ≤ x → h' x = h x) ∧ CH h' s pa n tx T) → Q r 222 h') : zJ X mX4_ifBeats 222 53 [.ref 0, y, .int (nI j), z] [] 222 (gAu h (bs (π 5)) v p) Q := by
  refine j_iload_n dX4_ifBeats_53 rfl ?_
  rcases (show j = 0 ∨ j = 1 ∨ j = 2 ∨ j = 3 by omega) with rfl | rfl | rfl | rfl
  · refine j_tableIn dX4_ifBeats_54 (off := 26) (tgt := 80) (by decide) (by decide) rfl rfl ?_
    refine j_aload_n dX4_ifBeats_80 rfl ?_
    refine j_get (v := .ref (bs (π 5))) dX4_ifBeats_81 fX4_31 rfl (by decide) ((congrFun (zb_lo (bs_B _) (by omega)) _).trans ((CQ_rd hq 0 4).trans gO_tri)) ?_
    refine j_get (v := .int (t 207)) dX4_ifBeats_84 fX4_141 (aB_S0 (bs_B _)) (aB_l0 (bs_B _)) ((zb_int0 (by unfold tI; decide)).trans (congrArg Value.int (ar_s hAt 0 15 (by decide)))) ?_
    refine j_aload_n dX4_ifBeats_87 rfl ?_
    refine j_get (v := .ref (bs (π 4))) dX4_ifBeats_88 fX4_27 rfl (by decide) ((congrFun (zb_lo (bs_B _) (by omega)) _).trans ((CQ_rd hq 0 3).trans gO_now)) ?_
    refine j_get (v := .int (s 207)) dX4_ifBeats_91 fX4_141 (aB_S0 (bs_B _)) (aB_l0 (bs_B _)) ((zb_k0 (bs_B _) (bs_B _) hne hb4.1 (by unfold tI; decide)).trans (congrArg Value.int (ar_s hA 0 15 (by decide)))) ?_
    refine j_isub dX4_ifBeats_94 ?_
    refine j_iret dX4_ifBeats_95 rfl (rfl) ?_
    exact hQ _ _ ⟨rfl, fun x hx => zb_lo' hx, CH_tr hq hS hH hAt.2.1 hAt.2.2.1⟩
  · refine j_tableIn dX4_ifBeats_54 (off := 42) (tgt := 96) (by decide) (by decide) rfl rfl ?_
    refine j_aload_n dX4_ifBeats_96 rfl ?_
    refine j_get (v := .ref (bs (π 5))) dX4_ifBeats_97 fX4_31 rfl (by decide) ((congrFun (zb_lo (bs_B _) (by omega)) _).trans ((CQ_rd hq 0 4).trans gO_tri)) ?_
    refine j_get (v := .int (t 208)) dX4_ifBeats_100 fX4_144 (aB_S0 (bs_B _)) (aB_l0 (bs_B _)) ((zb_int0 (by unfold tI; decide)).trans (congrArg Value.int (ar_s hAt 0 16 (by decide)))) ?_
    refine j_aload_n dX4_ifBeats_103 rfl ?_
    refine j_get (v := .ref (bs (π 4))) dX4_ifBeats_104 fX4_27 rfl (by decide) ((congrFun (zb_lo (bs_B _) (by omega)) _).trans ((CQ_rd hq 0 3).trans gO_now)) ?_
    refine j_get (v := .int (s 208)) dX4_ifBeats_107 fX4_144 (aB_S0 (bs_B _)) (aB_l0 (bs_B _)) ((zb_k0 (bs_B _) (bs_B _) hne hb4.1 (by unfold tI; decide)).trans (congrArg Value.int (ar_s hA 0 16 (by decide)))) ?_
    refine j_isub dX4_ifBeats_110 ?_
    refine j_iret dX4_ifBeats_111 rfl (rfl) ?_
    exact hQ _ _ ⟨rfl, fun x hx => zb_lo' hx, CH_tr hq hS hH hAt.2.1 hAt.2.2.1⟩
  · refine j_tableIn dX4_ifBeats_54 (off := 58) (tgt := 112) (by decide) (by decide) rfl rfl ?_
    refine j_aload_n dX4_ifBeats_112 rfl ?_
    refine j_get (v := .ref (bs (π 5))) dX4_ifBeats_113 fX4_31 rfl (by decide) ((congrFun (zb_lo (bs_B _) (by omega)) _).trans ((CQ_rd hq 0 4).trans gO_tri)) ?_
    refine j_get dX4_ifBeats_116 fX4_147 (aB_S0 (bs_B _)) (aB_l0 (bs_B _)) zb_p3 ?_
    refine j_iconst (v := 0) dX4_ifBeats_119 (by decide) ?_
    refine k_iald (n := 4) (x := t 202) 0 dX4_ifBeats_120 (aB_S (bs_B _) (by decide)) (aB_lt (bs_B _) (by decide)) rfl (by decide) (by decide) ((zb_int (o := 32) (by unfold tI; omega)).trans (congrArg Value.int (ar_s hAt 32 0 (by decide)))) ?_
    refine j_aload_n dX4_ifBeats_121 rfl ?_
    refine j_get (v := .ref (bs (π 4))) dX4_ifBeats_122 fX4_27 rfl (by decide) ((congrFun (zb_lo (bs_B _) (by omega)) _).trans ((CQ_rd hq 0 3).trans gO_now)) ?_
    refine j_get (v := .ref (bs (π 4) + 32)) dX4_ifBeats_125 fX4_147 (aB_S0 (bs_B _)) (aB_l0 (bs_B _)) (by rw [zb_kp0 (bs_B _) (bs_B _) hne hb4.1]; rfl) ?_
    refine j_iconst (v := 0) dX4_ifBeats_128 (by decide) ?_
    refine k_iald (n := 4) (x := s 202) 0 dX4_ifBeats_129 (aB_S (bs_B _) (by decide)) (aB_lt (bs_B _) (by decide)) rfl (by decide) (by decide) ((zb_k (a := 32) (bs_B _) (bs_B _) hne hb4.1 (by unfold tI; omega)).trans (congrArg Value.int (ar_s hA 32 0 (by decide)))) ?_
    refine j_isub dX4_ifBeats_130 ?_
    refine j_iret dX4_ifBeats_131 rfl (rfl) ?_
    exact hQ _ _ ⟨rfl, fun x hx => zb_lo' hx, CH_tr hq hS hH hAt.2.1 hAt.2.2.1⟩
  · refine j_tableOut dX4_ifBeats_54 (tgt := 132) (by decide) rfl ?_
    refine j_aload_n dX4_ifBeats_132 rfl ?_
    refine j_get (v := .ref (bs (π 5))) dX4_ifBeats_133 fX4_31 rfl (by decide) ((congrFun (zb_lo (bs_B _) (by omega)) _).trans ((CQ_rd hq 0 4).trans gO_tri)) ?_
    refine j_get (v := .int (t 205)) dX4_ifBeats_136 fX4_151 (aB_S0 (bs_B _)) (aB_l0 (bs_B _)) ((zb_int0 (by unfold tI; decide)).trans (congrArg Value.int (ar_s hAt 0 13 (by decide)))) ?_
    refine j_aload_n dX4_ifBeats_139 rfl ?_
    refine j_get (v := .ref (bs (π 4))) dX4_ifBeats_140 fX4_27 rfl (by decide) ((congrFun (zb_lo (bs_B _) (by omega)) _).trans ((CQ_rd hq 0 3).trans gO_now)) ?_
    refine j_get (v := .int (s 205)) dX4_ifBeats_143 fX4_151 (aB_S0 (bs_B _)) (aB_l0 (bs_B _)) ((zb_k0 (bs_B _) (bs_B _) hne hb4.1 (by unfold tI; decide)).trans (congrArg Value.int (ar_s hA 0 13 (by decide)))) ?_
    refine j_isub dX4_ifBeats_146 ?_
    refine j_iret dX4_ifBeats_147 rfl (rfl) ?_
    exact hQ _ _ ⟨rfl, fun x hx => zb_lo' hx, CH_tr hq hS hH hAt.2.1 hAt.2.2.1⟩
set_option maxRecDepth 4000 in
set_option maxHeartbeats 2000000 in
theorem o_ifBeats {h : zH} {s pa tx : Nat → Int32} {n T : Nat} (hc : CH h s pa n tx T) (hM : aM s) {a1 a2 : Int32} : zCT mX4_ifBeats [.ref 0, .int a1, .int a2] 222 h 222 (fun r h' => r = some (aIfB s (aNn s) a1 a2) ∧ (∀ x, 215 ≤ x → h' x = h x) ∧ CH h' s pa n tx T) := by
  obtain ⟨π, V, P, f, nm, hq, hS, hH⟩ := hc
  have hI : aIa s (aNn s) (aWn s) := hM.1.1
  obtain ⟨Kn, hKn, hA⟩ := AT_of hS hI
  have hN := hA.1
  have hb4 := CQ_bk hq (i := 4) (by omega)
  have hb5 := CQ_bk hq (i := 5) (by omega)
  have hne : ¬ bs (π 5) = bs (π 4) := CQ_ne hq (by omega) (by omega) (by omega)
  have h45 : π 4 ≠ π 5 := fun e => hne (by rw [e])
  have hh5 : ∀ i, i < n → π i ≠ π 5 := fun i hi e => by
    have := hq.1.2 i 5 (by have := CQ_n4 hq; omega) (by omega) e
    have := CQ_n4 hq
    omega
  intro X Q hQ
  show zJ X mX4_ifBeats 222 0 [.ref 0, .int a1, .int a2, .null] [] 222 h Q
  refine j_iload_n dX4_ifBeats_0 rfl ?_
  refine j_iconst (v := 1) dX4_ifBeats_1 (by decide) ?_
  refine j_bipush (v := 50) dX4_ifBeats_2 (by decide) ?_
  refine k_callS3i dX4_ifBeats_4 vX4_ifBeats_94 (c_in) rfl rfl rfl (Nat.le_of_ble_eq_true rfl) ⟨rfl, rfl⟩ rfl ?_
  rintro _ _ ⟨⟨⟩, rfl⟩
  refine j_if_eq dX4_ifBeats_7 (tgt := 19) rfl (fun c1 => ?_) (fun c1 => ?_)
  · refine j_ldc (v := (-1000001)) dX4_ifBeats_19 cX4_77 ?_
    refine j_iret dX4_ifBeats_21 rfl (rfl) ?_
    exact hQ _ _ ⟨congrArg some ((if_pos c1).trans (rfl)).symm, fun _ _ => rfl, ⟨π, V, P, f, nm, hq, hS, hH⟩⟩
  · refine j_iload_n dX4_ifBeats_10 rfl ?_
    refine j_iconst (v := 0) dX4_ifBeats_11 (by decide) ?_
    refine j_iconst (v := 3) dX4_ifBeats_12 (by decide) ?_
    refine k_callS3i dX4_ifBeats_13 vX4_ifBeats_94 (c_in) rfl rfl rfl (Nat.le_of_ble_eq_true rfl) ⟨rfl, rfl⟩ rfl ?_
    rintro _ _ ⟨⟨⟩, rfl⟩
    refine j_if_ne dX4_ifBeats_16 (tgt := 22) rfl (fun c2 => ?_) (fun c2 => ?_)
    · obtain ⟨m, hm1, hm2, rfl, hm3⟩ := aIn_nat (a := 1) (b := 50) (by omega) (by omega) ‹¬ aIn a1 1 50 = 0›
      obtain ⟨j, -, hj, rfl, hj3⟩ := aIn_nat (a := 0) (b := 3) (by omega) (by omega) ‹¬ aIn a2 0 3 = 0›
      refine j_aload_n dX4_ifBeats_22 rfl ?_
      refine j_get (v := .ref (bs (π 5))) dX4_ifBeats_23 fX4_31 rfl (by decide) ((CQ_rd hq 0 4).trans gO_tri) ?_
      refine j_aload_n dX4_ifBeats_26 rfl ?_
      refine j_get (v := .ref (bs (π 4))) dX4_ifBeats_27 fX4_27 rfl (by decide) ((CQ_rd hq 0 3).trans gO_now) ?_
      refine z_to (zBk_self hb5.1).symm ?_
      refine k_callV1v dX4_ifBeats_30 vX4_ifBeats_34 (c_copy (bs_B _) (bs_B _) hne hb4.1 hb5.2.1 hb5.2.2 hA hI hKn) (aB_S0 (bs_B _)) (aB_l0 (bs_B _)) rfl (Nat.le_of_ble_eq_true rfl) ⟨rfl, rfl⟩ rfl ?_
      rintro _ ⟨-, v1, rfl, hA1⟩
      refine j_iconst (v := 0) dX4_ifBeats_33 (by decide) ?_
      refine j_istore_n dX4_ifBeats_34 (by decide) ?_
      refine o_ifb_lp hq hm2 m 0 v1 _ s Kn (by omega) hA1 hI hKn (fun v' p' K' g1 g2 => o_ifb_end hq hS hH hne hb4 hA g1 hj (fun r h' q => hQ r h' ?_))
      have e : aIfB s (aNn s) (nI m) (nI j) = aIfQ s (aPass (aNn s) m s) (nI j) := (if_neg c1).trans ((if_neg c2).trans ((by rw [hm3])))
      rw [e]
      exact q
    · refine j_ldc (v := (-1000001)) dX4_ifBeats_19 cX4_77 ?_
      refine j_iret dX4_ifBeats_21 rfl (rfl) ?_
      exact hQ _ _ ⟨congrArg some ((if_neg c1).trans ((if_pos c2).trans (rfl))).symm, fun _ _ => rfl, ⟨π, V, P, f, nm, hq, hS, hH⟩⟩
set_option maxRecDepth 4000 in
set_option maxHeartbeats 2000000 in
theorem o_gone_lp {h : zH} {s pa tx : Nat → Int32} {n1 T : Nat} {π : Nat → Nat} {V : Nat → Nat → Nat → Int32} {P : Nat → Nat → Nat} {f nm : Nat → Int32} (hq : CQ h π V P f nm n1 tx T) (hS : AT (V (π 4)) (P (π 4)) s) (hH : ∀ i, i < n1 → AT (V (π i)) (P (π i)) (aUnS pa i)) {N W : Nat} {X : Nat × (Nat → Int32)} {Q : zQt} : ∀ (n c : Nat) (v : Nat → Nat → Int32) (p : Nat → Nat) (t : Nat → Int32) (K : Nat), c + n = 200 → AR v p t N W K → aIa t N W → t 210 = nI K → (∀ r h', (r = some (dGn N n c t) ∧ (∀ x, 215 ≤ x → h' x = h x) ∧ CH h' s pa n1 tx T) → Q r 222 h') → zJ X mX4_goneIn 222 26 [.ref 0, .int (nI (c + 1))] [] 222 (gAu h (bs (π 5)) v p) Q := by
  intro n
  induction n with
  | zero =>
    intro c v p t K hk hAt hIt hKt hQ
    obtain rfl : c = 200 := by omega
    refine j_iload_n dX4_goneIn_26 rfl ?_
    refine j_sipush (v := 200) dX4_goneIn_27 (by decide) ?_
    refine j_icmp_gt dX4_goneIn_30 (tgt := 58) rfl (fun _ => ?_) (fun c1 => absurd (show (200 : Int32) < nI (200 + 1) by decide) c1)
    refine j_ldc (v := (-1000004)) dX4_goneIn_58 cX4_115 ?_
    refine j_iret dX4_goneIn_60 rfl (rfl) ?_
    exact hQ _ _ ⟨rfl, fun x hx => zb_lo' hx, CH_tr hq hS hH hAt.2.1 hAt.2.2.1⟩
  | succ n ih =>
    intro c v p t K hk hAt hIt hKt hQ
    refine j_iload_n dX4_goneIn_26 rfl ?_
    refine j_sipush (v := 200) dX4_goneIn_27 (by decide) ?_
    refine j_icmp_gt dX4_goneIn_30 (tgt := 58) rfl (fun c1 => absurd c1 (show ¬ (200 : Int32) < nI (c + 1) from nI_nlt (a := 200) (b := c + 1) (by omega) (by omega))) (fun _ => ?_)
    refine j_aload_n dX4_goneIn_33 rfl ?_
    refine j_get (v := .ref (bs (π 5))) dX4_goneIn_34 fX4_31 rfl (by decide) ((congrFun (zb_lo (bs_B _) (by omega)) _).trans ((CQ_rd hq 0 4).trans gO_tri)) ?_
    refine k_callV0v dX4_goneIn_37 vX4_goneIn_138 (c_beat (bs_B _) hAt hIt hKt) (aB_S0 (bs_B _)) (aB_l0 (bs_B _))  (Nat.le_of_ble_eq_true rfl) ⟨rfl, rfl⟩ rfl ?_
    rintro _ ⟨-, v1, p1, K1, rfl, hK1, hA1⟩
    refine j_aload_n dX4_goneIn_40 rfl ?_
    refine j_get (v := .ref (bs (π 5))) dX4_goneIn_41 fX4_31 rfl (by decide) ((congrFun (zb_lo (bs_B _) (by omega)) _).trans ((CQ_rd hq 0 4).trans gO_tri)) ?_
    refine j_get (v := .int ((aBeat t N) 148)) dX4_goneIn_44 fX4_98 (aB_S0 (bs_B _)) (aB_l0 (bs_B _)) ((zb_int0 (by unfold tI; decide)).trans (congrArg Value.int (ar_s hA1 0 8 (by decide)))) ?_
    refine j_if_ne dX4_goneIn_47 (tgt := 52) rfl (fun c2 => ?_) (fun c2 => ?_)
    · refine j_iinc (v := nI ((c + 1) + 1)) dX4_goneIn_52 rfl z_inc (by decide) ?_
      refine j_goto dX4_goneIn_55 (tgt := 26) rfl ?_
      rw [show dGn N (n + 1) c t = dGn N n (c + 1) (aBeat t N) from if_neg c2] at hQ
      exact ih (c + 1) v1 p1 _ K1 (by omega) hA1 (aIa_beat hIt) hK1 hQ
    · refine j_iload_n dX4_goneIn_50 rfl ?_
      refine j_iret dX4_goneIn_51 rfl (rfl) ?_
      exact hQ _ _ ⟨congrArg some (if_pos c2).symm, fun x hx => zb_lo' hx, CH_tr hq hS hH hA1.2.1 hA1.2.2.1⟩
set_option maxRecDepth 4000 in
set_option maxHeartbeats 2000000 in
theorem o_goneIn {h : zH} {s pa tx : Nat → Int32} {n T : Nat} (hc : CH h s pa n tx T) (hM : aM s)  : zCT mX4_goneIn [.ref 0] 222 h 222 (fun r h' => r = some (aGi s (aNn s)) ∧ (∀ x, 215 ≤ x → h' x = h x) ∧ CH h' s pa n tx T) := by
  obtain ⟨π, V, P, f, nm, hq, hS, hH⟩ := hc
  have hI : aIa s (aNn s) (aWn s) := hM.1.1
  obtain ⟨Kn, hKn, hA⟩ := AT_of hS hI
  have hN := hA.1
  have hb4 := CQ_bk hq (i := 4) (by omega)
  have hb5 := CQ_bk hq (i := 5) (by omega)
  have hne : ¬ bs (π 5) = bs (π 4) := CQ_ne hq (by omega) (by omega) (by omega)
  have h45 : π 4 ≠ π 5 := fun e => hne (by rw [e])
  have hh5 : ∀ i, i < n → π i ≠ π 5 := fun i hi e => by
    have := hq.1.2 i 5 (by have := CQ_n4 hq; omega) (by omega) e
    have := CQ_n4 hq
    omega
  intro X Q hQ
  show zJ X mX4_goneIn 222 0 [.ref 0, .null] [] 222 h Q
  refine j_aload_n dX4_goneIn_0 rfl ?_
  refine j_get (v := .ref (bs (π 4))) dX4_goneIn_1 fX4_27 rfl (by decide) ((CQ_rd hq 0 3).trans gO_now) ?_
  refine j_get (v := .int (s 148)) dX4_goneIn_4 fX4_98 (aB_S0 (bs_B _)) (aB_l0 (bs_B _)) (by rw [← zBk_self hb4.1]; exact (zb_int0 (by unfold tI; decide)).trans (congrArg Value.int (ar_s hA 0 8 (by decide)))) ?_
  refine j_if_ne dX4_goneIn_7 (tgt := 13) rfl (fun c1 => ?_) (fun c1 => ?_)
  · refine j_aload_n dX4_goneIn_13 rfl ?_
    refine j_get (v := .ref (bs (π 5))) dX4_goneIn_14 fX4_31 rfl (by decide) ((CQ_rd hq 0 4).trans gO_tri) ?_
    refine j_aload_n dX4_goneIn_17 rfl ?_
    refine j_get (v := .ref (bs (π 4))) dX4_goneIn_18 fX4_27 rfl (by decide) ((CQ_rd hq 0 3).trans gO_now) ?_
    refine z_to (zBk_self hb5.1).symm ?_
    refine k_callV1v dX4_goneIn_21 vX4_goneIn_34 (c_copy (bs_B _) (bs_B _) hne hb4.1 hb5.2.1 hb5.2.2 hA hI hKn) (aB_S0 (bs_B _)) (aB_l0 (bs_B _)) rfl (Nat.le_of_ble_eq_true rfl) ⟨rfl, rfl⟩ rfl ?_
    rintro _ ⟨-, v1, rfl, hA1⟩
    refine j_iconst (v := 1) dX4_goneIn_24 (by decide) ?_
    refine j_istore_n dX4_goneIn_25 (by decide) ?_
    refine o_gone_lp hq hS hH 200 0 v1 _ s Kn (by omega) hA1 hI hKn (fun r h' q => hQ r h' ?_)
    have e : aGi s (aNn s) = dGn (aNn s) 200 0 s := (dGi_eq hI).symm.trans ((if_neg c1).trans (rfl))
    rw [e]
    exact q
  · refine j_ldc (v := (-1000002)) dX4_goneIn_10 cX4_102 ?_
    refine j_iret dX4_goneIn_12 rfl (rfl) ?_
    exact hQ _ _ ⟨congrArg some ((dGi_eq hI).symm.trans ((if_pos c1).trans (rfl))).symm, fun _ _ => rfl, ⟨π, V, P, f, nm, hq, hS, hH⟩⟩
set_option maxRecDepth 4000 in
set_option maxHeartbeats 2000000 in
theorem o_ifn_lp {h : zH} {tx : Nat → Int32} {n0 T : Nat} {π : Nat → Nat} {V : Nat → Nat → Nat → Int32} {P : Nat → Nat → Nat} {f nm : Nat → Int32} (hq : CQ h π V P f nm n0 tx T) {N W m : Nat} (hm : m ≤ 20) {X : Nat × (Nat → Int32)} {Q : zQt} : ∀ (n k : Nat) (v : Nat → Nat → Int32) (p : Nat → Nat) (t : Nat → Int32) (K : Nat), k + n = m → AR v p t N W K → aIa t N W → t 210 = nI K →
    (∀ (v' : Nat → Nat → Int32) (p' : Nat → Nat) (K' : Nat) (y : Value), AR v' p' (dSn N n t) N W K' → (dSn N n t) 210 = nI K' → zJ X mX4_ifNights 222 44 [.ref 0, .int (nI m), y] [] 222 (gAu h (bs (π 5)) v' p') Q) → zJ X mX4_ifNights 222 26 [.ref 0, .int (nI m), .int (nI k)] [] 222 (gAu h (bs (π 5)) v p) Q := by
  intro n
  induction n with
  | zero =>
    intro k v p t K hk hAt hIt hKt kk
    refine j_iload_n dX4_ifNights_26 rfl ?_
    refine j_iload_n dX4_ifNights_27 rfl ?_
    refine j_icmp_ge dX4_ifNights_28 (tgt := 44) rfl (fun _ => ?_) (fun c1 => absurd (show nI m ≤ nI k from nI_le (by omega) (by omega)) c1)
    exact kk v p K _ hAt hKt
  | succ n ih =>
    intro k v p t K hk hAt hIt hKt kk
    refine j_iload_n dX4_ifNights_26 rfl ?_
    refine j_iload_n dX4_ifNights_27 rfl ?_
    refine j_icmp_ge dX4_ifNights_28 (tgt := 44) rfl (fun c1 => absurd c1 (show ¬ nI m ≤ nI k from nI_ge (by omega) (by omega))) (fun _ => ?_)
    refine j_aload_n dX4_ifNights_31 rfl ?_
    refine j_get (v := .ref (bs (π 5))) dX4_ifNights_32 fX4_31 rfl (by decide) ((congrFun (zb_lo (bs_B _) (by omega)) _).trans ((CQ_rd hq 0 4).trans gO_tri)) ?_
    refine k_callV0v dX4_ifNights_35 vX4_ifNights_163 (c_spread (bs_B _) hAt hIt hKt) (aB_S0 (bs_B _)) (aB_l0 (bs_B _))  (Nat.le_of_ble_eq_true rfl) ⟨rfl, rfl⟩ rfl ?_
    rintro _ ⟨-, v1, p1, K1, rfl, hK1, hA1⟩
    refine j_iinc (v := nI (k + 1)) dX4_ifNights_38 rfl z_inc (by decide) ?_
    refine j_goto dX4_ifNights_41 (tgt := 26) rfl ?_
    exact ih (k + 1) v1 p1 _ K1 (by omega) hA1 (aIa_spr hIt) hK1 kk
set_option maxRecDepth 4000 in
set_option maxHeartbeats 2000000 in
theorem o_ifn_end {h : zH} {s pa tx : Nat → Int32} {n T : Nat} {π : Nat → Nat} {V : Nat → Nat → Nat → Int32} {P : Nat → Nat → Nat} {f nm : Nat → Int32} (hq : CQ h π V P f nm n tx T) (hS : AT (V (π 4)) (P (π 4)) s) (hH : ∀ i, i < n → AT (V (π i)) (P (π i)) (aUnS pa i)) {N W : Nat} {v : Nat → Nat → Int32} {p : Nat → Nat} {t : Nat → Int32} {K2 : Nat} (hAt : AR v p t N W K2) (hIt : aIa t N W) {y z : Value} {X : Nat × (Nat → Int32)} {Q : zQt} (hQ : ∀ r h', (r = some (nI (aPop 12 (aCo t N 0 0))) ∧ (∀ x, 215 ≤ x → h' x = h x) ∧ CH h' s pa n tx T) → Q r 222 h') : zJ X mX4_ifNights 222 44 [.ref 0, y, z] [] 222 (gAu h (bs (π 5)) v p) Q := by
  refine j_aload_n dX4_ifNights_44 rfl ?_
  refine j_get (v := .ref (bs (π 5))) dX4_ifNights_45 fX4_31 rfl (by decide) ((congrFun (zb_lo (bs_B _) (by omega)) _).trans ((CQ_rd hq 0 4).trans gO_tri)) ?_
  refine k_callV0i dX4_ifNights_48 vX4_ifNights_166 (c_colds (bs_B _) hAt hIt) (aB_S0 (bs_B _)) (aB_l0 (bs_B _))  (Nat.le_of_ble_eq_true rfl) ⟨rfl, rfl⟩ rfl ?_
  rintro _ _ ⟨⟨⟩, rfl⟩
  refine k_callS1i dX4_ifNights_51 vX4_ifNights_169 (c_bitCount) rfl (Nat.le_of_ble_eq_true rfl) ⟨rfl, rfl⟩ rfl ?_
  rintro _ _ ⟨⟨⟩, rfl⟩
  rw [bC_pop _ (aCo_lt _ _ _ (by have := hAt.1.1; omega) (by omega))]
  refine j_iret dX4_ifNights_54 rfl (rfl) ?_
  exact hQ _ _ ⟨rfl, fun x hx => zb_lo' hx, CH_tr hq hS hH hAt.2.1 hAt.2.2.1⟩
set_option maxRecDepth 4000 in
set_option maxHeartbeats 2000000 in
theorem o_ifNights {h : zH} {s pa tx : Nat → Int32} {n T : Nat} (hc : CH h s pa n tx T) (hM : aM s) {a1 : Int32} {sp : Nat → Int32} : zCT mX4_ifNights [.ref 0, .int a1] 222 h 222 (fun r h' => r = some (aIfN s sp (aNn s) a1) ∧ (∀ x, 215 ≤ x → h' x = h x) ∧ CH h' s pa n tx T) := by
  obtain ⟨π, V, P, f, nm, hq, hS, hH⟩ := hc
  have hI : aIa s (aNn s) (aWn s) := hM.1.1
  obtain ⟨Kn, hKn, hA⟩ := AT_of hS hI
  have hN := hA.1
  have hb4 := CQ_bk hq (i := 4) (by omega)
  have hb5 := CQ_bk hq (i := 5) (by omega)
  have hne : ¬ bs (π 5) = bs (π 4) := CQ_ne hq (by omega) (by omega) (by omega)
  have h45 : π 4 ≠ π 5 := fun e => hne (by rw [e])
  have hh5 : ∀ i, i < n → π i ≠ π 5 := fun i hi e => by
    have := hq.1.2 i 5 (by have := CQ_n4 hq; omega) (by omega) e
    have := CQ_n4 hq
    omega
  intro X Q hQ
  show zJ X mX4_ifNights 222 0 [.ref 0, .int a1, .null] [] 222 h Q
  refine j_iload_n dX4_ifNights_0 rfl ?_
  refine j_iconst (v := 1) dX4_ifNights_1 (by decide) ?_
  refine j_bipush (v := 20) dX4_ifNights_2 (by decide) ?_
  refine k_callS3i dX4_ifNights_4 vX4_ifNights_94 (c_in) rfl rfl rfl (Nat.le_of_ble_eq_true rfl) ⟨rfl, rfl⟩ rfl ?_
  rintro _ _ ⟨⟨⟩, rfl⟩
  refine j_if_ne dX4_ifNights_7 (tgt := 13) rfl (fun c1 => ?_) (fun c1 => ?_)
  · obtain ⟨m, hm1, hm2, rfl, hm3⟩ := aIn_nat (a := 1) (b := 20) (by omega) (by omega) ‹¬ aIn a1 1 20 = 0›
    refine j_aload_n dX4_ifNights_13 rfl ?_
    refine j_get (v := .ref (bs (π 5))) dX4_ifNights_14 fX4_31 rfl (by decide) ((CQ_rd hq 0 4).trans gO_tri) ?_
    refine j_aload_n dX4_ifNights_17 rfl ?_
    refine j_get (v := .ref (bs (π 4))) dX4_ifNights_18 fX4_27 rfl (by decide) ((CQ_rd hq 0 3).trans gO_now) ?_
    refine z_to (zBk_self hb5.1).symm ?_
    refine k_callV1v dX4_ifNights_21 vX4_ifNights_34 (c_copy (bs_B _) (bs_B _) hne hb4.1 hb5.2.1 hb5.2.2 hA hI hKn) (aB_S0 (bs_B _)) (aB_l0 (bs_B _)) rfl (Nat.le_of_ble_eq_true rfl) ⟨rfl, rfl⟩ rfl ?_
    rintro _ ⟨-, v1, rfl, hA1⟩
    refine j_iconst (v := 0) dX4_ifNights_24 (by decide) ?_
    refine j_istore_n dX4_ifNights_25 (by decide) ?_
    refine o_ifn_lp hq hm2 m 0 v1 _ s Kn (by omega) hA1 hI hKn (fun v' p' K' y g1 g2 => o_ifn_end hq hS hH g1 (aIa_sn m s hI) (fun r h' q => hQ r h' ?_))
    have e : aIfN s sp (aNn s) (nI m) = nI (aPop 12 (aCo (dSn (aNn s) m s) (aNn s) 0 0)) := (dIfN_eq hI).symm.trans ((if_neg c1).trans ((by rw [hm3])))
    rw [e]
    exact q
  · refine j_ldc (v := (-1000001)) dX4_ifNights_10 cX4_77 ?_
    refine j_iret dX4_ifNights_12 rfl (rfl) ?_
    exact hQ _ _ ⟨congrArg some ((dIfN_eq hI).symm.trans ((if_pos c1).trans (rfl))).symm, fun _ _ => rfl, ⟨π, V, P, f, nm, hq, hS, hH⟩⟩
def aTyT (T : Nat) (c : Int32) : Nat := if aIn c 32 126 = 0 then T else if T = 60 then T else T + 1
theorem aTy_all {f tx : Nat → Int32} {T : Nat} {c : Int32} (hT : f 2 = nI T) (hT60 : T ≤ 60) (htx : aTx tx T) : dTypF f T c 2 = nI (aTyT T c) ∧ aTyT T c ≤ 60 ∧ aTx (aTypX tx T c) (aTyT T c) := by
  unfold dTypF aTyT aTypX
  by_cases h1 : aIn c 32 126 = 0
  · rw [if_pos h1, if_pos h1, if_pos h1]
    exact ⟨hT, hT60, htx⟩
  · rw [if_neg h1, if_neg h1, if_neg h1]
    by_cases h2 : T = 60
    · rw [if_pos h2, if_pos h2, if_pos h2]
      exact ⟨hT, hT60, htx⟩
    · rw [if_neg h2, if_neg h2, if_neg h2, upd_s]
      refine ⟨rfl, by omega, fun j hj => ?_⟩
      by_cases e : j = T
      · rw [e, upd_s]
        exact aIn_R (a := 32) (b := 126) (by decide) (by decide) h1
      · rw [upd_n e]
        exact htx j (by omega)
set_option maxRecDepth 4000 in
set_option maxHeartbeats 2000000 in
theorem o_type {h : zH} {s pa tx : Nat → Int32} {n T : Nat} (hc : CH h s pa n tx T) (hM : aM s) {a1 : Int32} : zCT mX4_type [.ref 0, .int a1] 222 h 222 (fun r h' => r = some (aTypQ tx T a1) ∧ (∀ x, 215 ≤ x → h' x = h x) ∧ CH h' s pa n (aTypX tx T a1) (aTyT T a1)) := by
  obtain ⟨π, V, P, f, nm, hq, hS, hH⟩ := hc
  have hI : aIa s (aNn s) (aWn s) := hM.1.1
  obtain ⟨Kn, hKn, hA⟩ := AT_of hS hI
  have hN := hA.1
  have hb4 := CQ_bk hq (i := 4) (by omega)
  have hb5 := CQ_bk hq (i := 5) (by omega)
  have hne : ¬ bs (π 5) = bs (π 4) := CQ_ne hq (by omega) (by omega) (by omega)
  have h45 : π 4 ≠ π 5 := fun e => hne (by rw [e])
  have hh5 : ∀ i, i < n → π i ≠ π 5 := fun i hi e => by
    have := hq.1.2 i 5 (by have := CQ_n4 hq; omega) (by omega) e
    have := CQ_n4 hq
    omega
  have hT : f 2 = nI T := hq.2.2.2.2.2.1
  have hT60 : T ≤ 60 := hq.2.2.2.2.2.2.1
  have htx : aTx tx T := hq.2.2.2.2.2.2.2
  intro X Q hQ
  show zJ X mX4_type 222 0 [.ref 0, .int a1] [] 222 h Q
  refine z_to hq.2.2.2.2.1.symm ?_
  refine j_aload_n dX4_type_0 rfl ?_
  refine j_get (v := .ref 142) dX4_type_1 fX4_19 rfl (by decide) ((congrFun (x_o (by omega)) _).trans ((CQ_rd hq 0 1).trans gO_1)) ?_
  refine j_iload_n dX4_type_4 rfl ?_
  refine k_callV1i dX4_type_5 vX4_type_184 (x_append hT hT60) rfl (by decide) rfl (Nat.le_of_ble_eq_true rfl) ⟨rfl, rfl⟩ rfl ?_
  rintro _ _ ⟨⟨⟩, rfl⟩
  refine j_iret dX4_type_8 rfl (rfl) ?_
  obtain ⟨e1, e2, e3⟩ := aTy_all (c := a1) hT hT60 htx
  exact hQ _ _ ⟨rfl, fun x hx => x_o (by omega), π, V, P, _, _, CQ_x hq e1 e2 e3, hS, hH⟩
set_option maxRecDepth 4000 in
set_option maxHeartbeats 2000000 in
theorem o_clear {h : zH} {s pa tx : Nat → Int32} {n T : Nat} (hc : CH h s pa n tx T) (hM : aM s)  : zCT mX4_clearText [.ref 0] 222 h 222 (fun r h' => r = some (nI T) ∧ (∀ x, 215 ≤ x → h' x = h x) ∧ CH h' s pa n tx 0) := by
  obtain ⟨π, V, P, f, nm, hq, hS, hH⟩ := hc
  have hI : aIa s (aNn s) (aWn s) := hM.1.1
  obtain ⟨Kn, hKn, hA⟩ := AT_of hS hI
  have hN := hA.1
  have hb4 := CQ_bk hq (i := 4) (by omega)
  have hb5 := CQ_bk hq (i := 5) (by omega)
  have hne : ¬ bs (π 5) = bs (π 4) := CQ_ne hq (by omega) (by omega) (by omega)
  have h45 : π 4 ≠ π 5 := fun e => hne (by rw [e])
  have hh5 : ∀ i, i < n → π i ≠ π 5 := fun i hi e => by
    have := hq.1.2 i 5 (by have := CQ_n4 hq; omega) (by omega) e
    have := CQ_n4 hq
    omega
  have hT : f 2 = nI T := hq.2.2.2.2.2.1
  have hT60 : T ≤ 60 := hq.2.2.2.2.2.2.1
  have htx : aTx tx T := hq.2.2.2.2.2.2.2
  intro X Q hQ
  show zJ X mX4_clearText 222 0 [.ref 0, .null] [] 222 h Q
  refine z_to hq.2.2.2.2.1.symm ?_
  refine j_aload_n dX4_clearText_0 rfl ?_
  refine j_get (v := .ref 142) dX4_clearText_1 fX4_19 rfl (by decide) ((congrFun (x_o (by omega)) _).trans ((CQ_rd hq 0 1).trans gO_1)) ?_
  refine j_get (v := .int (nI T)) dX4_clearText_4 fX4_178 rfl (by decide) ((x_f (by decide)).trans (congrArg Value.int (hT))) ?_
  refine j_istore_n dX4_clearText_7 (by decide) ?_
  refine j_aload_n dX4_clearText_8 rfl ?_
  refine j_get (v := .ref 142) dX4_clearText_9 fX4_19 rfl (by decide) ((congrFun (x_o (by omega)) _).trans ((CQ_rd hq 0 1).trans gO_1)) ?_
  refine j_iconst (v := 0) dX4_clearText_12 (by decide) ?_
  refine j_put dX4_clearText_13 fX4_178 rfl (by decide) (rfl) ?_
  rw [x_put (k := 2) (by decide)]
  refine j_iload_n dX4_clearText_16 rfl ?_
  refine j_iret dX4_clearText_17 rfl (rfl) ?_
  exact hQ _ _ ⟨rfl, fun x hx => x_o (by omega), π, V, P, _, _, CQ_x hq (f2 := upd f 2 0) upd_s (by omega) (fun j hj => absurd hj (Nat.not_lt_zero _)), hS, hH⟩
theorem gX_tr {h : zH} {f tx nm : Nat → Int32} {i : Nat} {v : Nat → Nat → Int32} {p : Nat → Nat} (e : gX h f tx nm = h) : gAu h (bs i) v p = gX (gAu h (bs i) v p) f tx nm := by
  rw [x_au (bs_B _), e]
set_option maxRecDepth 4000 in
set_option maxHeartbeats 2000000 in
theorem o_flt_tl {h : zH} {s pa tx : Nat → Int32} {n T : Nat} {π : Nat → Nat} {V : Nat → Nat → Nat → Int32} {P : Nat → Nat → Nat} {f nm : Nat → Int32} (hq : CQ h π V P f nm n tx T) (hS : AT (V (π 4)) (P (π 4)) s) (hH : ∀ i, i < n → AT (V (π i)) (P (π i)) (aUnS pa i)) (h45 : π 4 ≠ π 5) (hh5 : ∀ i, i < n → π i ≠ π 5) (hT60 : T ≤ 60) (htx : aTx tx T) {f1 nm1 : Nat → Int32} {v2 : Nat → Nat → Int32} {p2 : Nat → Nat} (hT2 : f1 2 = nI T) (hP2 : AP p2) (hZ2 : AZ v2) {D : aRt} (hok : D.1 = 1 → f1 6 = -1 ∧ f1 5 = nI D.2.2.2.2.1 ∧ AT v2 p2 D.2.2.2.2.2) (hno : D.1 = 0 → ¬ f1 6 = -1 ∧ f1 6 = D.2.1 ∧ f1 7 = D.2.2.1 ∧ f1 8 = D.2.2.2.1) (hd : D.1 = 0 ∨ D.1 = 1) {a1 : Int32} (c1 : ¬ aIn a1 0 2 = 0) {X : Nat × (Nat → Int32)} {Q : zQt} (hQ : ∀ r h', (r = some (dFlt D a1) ∧ (∀ x, 215 ≤ x → h' x = h x) ∧ CH h' s pa n tx T) → Q r 222 h') : zJ X mX4_fault 222 41 [.ref 0, .int a1] [.int (if f1 6 = -1 then 0 else 1)] 222 (gX (gAu h (bs (π 5)) v2 p2) f1 tx nm1) Q := by
  have hc : CH (gX (gAu h (bs (π 5)) v2 p2) f1 tx nm1) s pa n tx T := by
    refine ⟨π, _, _, f1, nm1, CQ_x (CQ_tr hq hP2 hZ2) hT2 hT60 htx, ?_, fun i hi => ?_⟩
    · rw [va_n h45, va_n h45]
      exact hS
    · rw [va_n (hh5 i hi), va_n (hh5 i hi)]
      exact hH i hi
  have hfin : ∀ y, dFlt D a1 = y → Q (some y) 222 (gX (gAu h (bs (π 5)) v2 p2) f1 tx nm1) := fun y e => hQ _ _ ⟨congrArg some e.symm, fun x hx => by rw [x_o (by omega), zb_lo (bs_B _) (by omega)], hc⟩
  rcases hd with z | z
  · rw [if_neg (hno z).1]
    refine j_if_ne dX4_fault_41 (tgt := 47) rfl (fun _ => ?_) (fun c => absurd c (by decide))
    refine j_iload_n dX4_fault_47 rfl ?_
    have e1 : ∀ y, (if a1 = 0 then D.2.1 else if a1 = 1 then D.2.2.1 else D.2.2.2.1) = y → dFlt D a1 = y := fun y e => (if_neg c1).trans ((if_pos z).trans e)
    by_cases h0 : a1 = 0
    · subst h0
      refine j_lookup dX4_fault_48 (off := 28) (tgt := 76) (by decide) (by decide) rfl ?_
      refine j_aload_n dX4_fault_76 rfl ?_
      refine j_get (v := .ref 142) dX4_fault_77 fX4_19 rfl (by decide) ((congrFun (x_o (by omega)) _).trans ((congrFun (zb_lo (bs_B _) (by omega)) _).trans ((CQ_rd hq 0 1).trans gO_1))) ?_
      refine j_get (v := .int (D.2.1)) dX4_fault_80 fX4_194 rfl (by decide) ((x_f (by decide)).trans (congrArg Value.int ((hno z).2.1))) ?_
      refine j_iret dX4_fault_83 rfl (rfl) ?_
      exact hfin _ (e1 _ (if_pos rfl))
    by_cases h1 : a1 = 1
    · subst h1
      refine j_lookup dX4_fault_48 (off := 36) (tgt := 84) (by decide) (by decide) rfl ?_
      refine j_aload_n dX4_fault_84 rfl ?_
      refine j_get (v := .ref 142) dX4_fault_85 fX4_19 rfl (by decide) ((congrFun (x_o (by omega)) _).trans ((congrFun (zb_lo (bs_B _) (by omega)) _).trans ((CQ_rd hq 0 1).trans gO_1))) ?_
      refine j_get (v := .int (D.2.2.1)) dX4_fault_88 fX4_197 rfl (by decide) ((x_f (by decide)).trans (congrArg Value.int ((hno z).2.2.1))) ?_
      refine j_iret dX4_fault_91 rfl (rfl) ?_
      exact hfin _ (e1 _ ((if_neg h0).trans (if_pos rfl)))
    · refine j_lookup dX4_fault_48 (off := 44) (tgt := 92) (by decide) ?_ rfl ?_
      · show Op.lookupswitch.offset [(0, 28), (1, 36)] 44 _ = _
        rw [Op.lookupswitch.offset_cons, if_neg (fun e => h0 (Int32.toInt_inj.mp e.symm)), Op.lookupswitch.offset_cons, if_neg (fun e => h1 (Int32.toInt_inj.mp e.symm))]
        rfl
      refine j_aload_n dX4_fault_92 rfl ?_
      refine j_get (v := .ref 142) dX4_fault_93 fX4_19 rfl (by decide) ((congrFun (x_o (by omega)) _).trans ((congrFun (zb_lo (bs_B _) (by omega)) _).trans ((CQ_rd hq 0 1).trans gO_1))) ?_
      refine j_get (v := .int (D.2.2.2.1)) dX4_fault_96 fX4_200 rfl (by decide) ((x_f (by decide)).trans (congrArg Value.int ((hno z).2.2.2))) ?_
      refine j_iret dX4_fault_99 rfl (rfl) ?_
      exact hfin _ (e1 _ ((if_neg h0).trans (if_neg h1)))
  · rw [if_pos (hok z).1]
    refine j_if_ne dX4_fault_41 (tgt := 47) rfl (fun c => absurd rfl c) (fun _ => ?_)
    refine j_ldc (v := (-1000004)) dX4_fault_44 cX4_115 ?_
    refine j_iret dX4_fault_46 rfl (rfl) ?_
    exact hfin _ ((if_neg c1).trans (if_neg (show ¬ D.1 = 0 by rw [z]; decide)))
set_option maxRecDepth 4000 in
set_option maxHeartbeats 2000000 in
theorem o_fault {h : zH} {s pa tx : Nat → Int32} {n T : Nat} (hc : CH h s pa n tx T) (hM : aM s) {a1 : Int32} : zCT mX4_fault [.ref 0, .int a1] 222 h 222 (fun r h' => r = some (dFlt (dRun tx T 60 0 0 s) a1) ∧ (∀ x, 215 ≤ x → h' x = h x) ∧ CH h' s pa n tx T) := by
  obtain ⟨π, V, P, f, nm, hq, hS, hH⟩ := hc
  have hI : aIa s (aNn s) (aWn s) := hM.1.1
  obtain ⟨Kn, hKn, hA⟩ := AT_of hS hI
  have hN := hA.1
  have hb4 := CQ_bk hq (i := 4) (by omega)
  have hb5 := CQ_bk hq (i := 5) (by omega)
  have hne : ¬ bs (π 5) = bs (π 4) := CQ_ne hq (by omega) (by omega) (by omega)
  have h45 : π 4 ≠ π 5 := fun e => hne (by rw [e])
  have hh5 : ∀ i, i < n → π i ≠ π 5 := fun i hi e => by
    have := hq.1.2 i 5 (by have := CQ_n4 hq; omega) (by omega) e
    have := CQ_n4 hq
    omega
  have hT : f 2 = nI T := hq.2.2.2.2.2.1
  have hT60 : T ≤ 60 := hq.2.2.2.2.2.2.1
  have htx : aTx tx T := hq.2.2.2.2.2.2.2
  intro X Q hQ
  show zJ X mX4_fault 222 0 [.ref 0, .int a1] [] 222 h Q
  refine j_iload_n dX4_fault_0 rfl ?_
  refine j_iconst (v := 0) dX4_fault_1 (by decide) ?_
  refine j_iconst (v := 2) dX4_fault_2 (by decide) ?_
  refine k_callS3i dX4_fault_3 vX4_fault_94 (c_in) rfl rfl rfl (Nat.le_of_ble_eq_true rfl) ⟨rfl, rfl⟩ rfl ?_
  rintro _ _ ⟨⟨⟩, rfl⟩
  refine j_if_ne dX4_fault_6 (tgt := 12) rfl (fun c1 => ?_) (fun c1 => ?_)
  · refine j_aload_n dX4_fault_12 rfl ?_
    refine j_get (v := .ref (bs (π 5))) dX4_fault_13 fX4_31 rfl (by decide) ((CQ_rd hq 0 4).trans gO_tri) ?_
    refine j_aload_n dX4_fault_16 rfl ?_
    refine j_get (v := .ref (bs (π 4))) dX4_fault_17 fX4_27 rfl (by decide) ((CQ_rd hq 0 3).trans gO_now) ?_
    refine z_to (zBk_self hb5.1).symm ?_
    refine k_callV1v dX4_fault_20 vX4_fault_34 (c_copy (bs_B _) (bs_B _) hne hb4.1 hb5.2.1 hb5.2.2 hA hI hKn) (aB_S0 (bs_B _)) (aB_l0 (bs_B _)) rfl (Nat.le_of_ble_eq_true rfl) ⟨rfl, rfl⟩ rfl ?_
    rintro _ ⟨-, v1, rfl, hA1⟩
    refine j_aload_n dX4_fault_23 rfl ?_
    refine j_get (v := .ref 142) dX4_fault_24 fX4_19 rfl (by decide) ((congrFun (zb_lo (bs_B _) (by omega)) _).trans ((CQ_rd hq 0 1).trans gO_1)) ?_
    refine j_aload_n dX4_fault_27 rfl ?_
    refine j_get (v := .ref (bs (π 5))) dX4_fault_28 fX4_31 rfl (by decide) ((congrFun (zb_lo (bs_B _) (by omega)) _).trans ((CQ_rd hq 0 4).trans gO_tri)) ?_
    refine z_to (gX_tr hq.2.2.2.2.1) ?_
    refine k_callV1v dX4_fault_31 vX4_fault_187 (x_perf (bs_B _) hT hT60 htx (AT_mk hA1 hI hKn) hM.1) rfl (by decide) rfl (Nat.le_of_ble_eq_true rfl) ⟨rfl, rfl⟩ rfl ?_
    rintro _ ⟨-, f1, nm1, v2, p2, rfl, hT2, hP2, hZ2, hok, hno⟩
    refine j_aload_n dX4_fault_34 rfl ?_
    refine j_get (v := .ref 142) dX4_fault_35 fX4_19 rfl (by decide) ((congrFun (x_o (by omega)) _).trans ((congrFun (zb_lo (bs_B _) (by omega)) _).trans ((CQ_rd hq 0 1).trans gO_1))) ?_
    refine k_callV0i dX4_fault_38 vX4_fault_190 (x_has) rfl (by decide)  (Nat.le_of_ble_eq_true rfl) ⟨rfl, rfl⟩ rfl ?_
    rintro _ _ ⟨⟨⟩, rfl⟩
    exact o_flt_tl hq hS hH h45 hh5 hT60 htx hT2 hP2 hZ2 hok hno (dRun_K hT60 60 0 0 s hM.1 (by omega) (by omega)).2.2 c1 hQ
  · refine j_ldc (v := (-1000001)) dX4_fault_9 cX4_77 ?_
    refine j_iret dX4_fault_11 rfl (rfl) ?_
    exact hQ _ _ ⟨congrArg some ((if_pos c1).trans (rfl) : dFlt _ _ = _).symm, fun _ _ => rfl, ⟨π, V, P, f, nm, hq, hS, hH⟩⟩
set_option maxRecDepth 4000 in
set_option maxHeartbeats 2000000 in
theorem o_ply_tl {h : zH} {s pa tx : Nat → Int32} {n T : Nat} {π : Nat → Nat} {V : Nat → Nat → Nat → Int32} {P : Nat → Nat → Nat} {f nm : Nat → Int32} (hq : CQ h π V P f nm n tx T) (hS : AT (V (π 4)) (P (π 4)) s) (hH : ∀ i, i < n → AT (V (π i)) (P (π i)) (aUnS pa i)) (h45 : π 4 ≠ π 5) (hh5 : ∀ i, i < n → π i ≠ π 5) (hT60 : T ≤ 60) (htx : aTx tx T) {f1 nm1 : Nat → Int32} {v2 : Nat → Nat → Int32} {p2 : Nat → Nat} (hT2 : f1 2 = nI T) (hP2 : AP p2) (hZ2 : AZ v2) {D : aRt} (hok : D.1 = 1 → f1 6 = -1 ∧ f1 5 = nI D.2.2.2.2.1 ∧ AT v2 p2 D.2.2.2.2.2) (hno : D.1 = 0 → ¬ f1 6 = -1 ∧ f1 6 = D.2.1 ∧ f1 7 = D.2.2.1 ∧ f1 8 = D.2.2.2.1) (hd : D.1 = 0 ∨ D.1 = 1) (hcn : D.2.2.2.2.1 ≤ 60) {X : Nat × (Nat → Int32)} {Q : zQt} (hQ : ∀ r h', (r = some (dPly D) ∧ (∀ x, 215 ≤ x → h' x = h x) ∧ CH h' (if D.1 = 1 then D.2.2.2.2.2 else s) (if D.1 = 1 then aPa pa n s else pa) (if D.1 = 1 then aPn n else n) tx T) → Q r 222 h') : zJ X mX4_play 222 30 [.ref 0] [.int (if f1 6 = -1 then 0 else 1), .ref 0] 222 (gX (gAu h (bs (π 5)) v2 p2) f1 tx nm1) Q := by
  have hc := CQ_x (nm2 := nm1) (CQ_tr hq hP2 hZ2) hT2 hT60 htx
  have hS2 : AT (va_up V (π 5) v2 (π 4)) (va_up P (π 5) p2 (π 4)) s := by
    rw [va_n h45, va_n h45]
    exact hS
  have hH2 : ∀ i, i < n → AT (va_up V (π 5) v2 (π i)) (va_up P (π 5) p2 (π i)) (aUnS pa i) := fun i hi => by
    rw [va_n (hh5 i hi), va_n (hh5 i hi)]
    exact hH i hi
  rcases hd with z | z
  · rw [if_neg (hno z).1]
    refine j_if_eq dX4_play_30 (tgt := 38) rfl (fun c => absurd c (by decide)) (fun _ => ?_)
    refine j_ldc (v := (-1000002)) dX4_play_33 cX4_102 ?_
    refine j_goto dX4_play_35 (tgt := 45) rfl ?_
    refine z_to hc.2.2.2.1.symm ?_
    refine k_callV1i dX4_play_45 vX4_play_42 (o_keep (t := D.2.2.2.2.2) hc hS2 hH2 (fun q => absurd (show (-1000002 : Int32) < 0 by decide) q)) rfl (by decide) rfl (Nat.le_of_ble_eq_true rfl) ⟨rfl, rfl⟩ rfl ?_
    rintro _ h3 ⟨⟨⟩, hlo, hch⟩
    refine j_iret dX4_play_48 rfl (rfl) ?_
    have z1 : ¬ D.1 = 1 := by rw [z]; decide
    rw [if_pos (show (-1000002 : Int32) < 0 by decide)] at hch
    exact hQ _ _ ⟨congrArg some (if_pos z).symm, fun x hx => by rw [hlo x hx, gO_o (by omega), x_o (by omega), zb_lo (bs_B _) (by omega)], by rw [if_neg z1, if_neg z1, if_neg z1]; exact hch⟩
  · rw [if_pos (hok z).1]
    refine j_if_eq dX4_play_30 (tgt := 38) rfl (fun _ => ?_) (fun c => absurd rfl c)
    refine j_aload_n dX4_play_38 rfl ?_
    refine j_get (v := .ref 142) dX4_play_39 fX4_19 rfl (by decide) ((congrFun (x_o (by omega)) _).trans ((congrFun (zb_lo (bs_B _) (by omega)) _).trans ((CQ_rd hq 0 1).trans gO_1))) ?_
    refine j_get (v := .int (nI D.2.2.2.2.1)) dX4_play_42 fX4_203 rfl (by decide) ((x_f (by decide)).trans (congrArg Value.int ((hok z).2.1))) ?_
    refine z_to hc.2.2.2.1.symm ?_
    refine k_callV1i dX4_play_45 vX4_play_42 (o_keep (t := D.2.2.2.2.2) hc hS2 hH2 (fun _ => by rw [va_s, va_s]; exact (hok z).2.2)) rfl (by decide) rfl (Nat.le_of_ble_eq_true rfl) ⟨rfl, rfl⟩ rfl ?_
    rintro _ h3 ⟨⟨⟩, hlo, hch⟩
    refine j_iret dX4_play_48 rfl (rfl) ?_
    have z0 : ¬ D.1 = 0 := by rw [z]; decide
    rw [if_neg (show ¬ nI D.2.2.2.2.1 < 0 from nI_nlt (a := D.2.2.2.2.1) (b := 0) (by omega) (by omega))] at hch
    exact hQ _ _ ⟨congrArg some (if_neg z0).symm, fun x hx => by rw [hlo x hx, gO_o (by omega), x_o (by omega), zb_lo (bs_B _) (by omega)], by rw [if_pos z, if_pos z, if_pos z]; exact hch⟩
set_option maxRecDepth 4000 in
set_option maxHeartbeats 2000000 in
theorem o_play {h : zH} {s pa tx : Nat → Int32} {n T : Nat} (hc : CH h s pa n tx T) (hM : aM s) : zCT mX4_play [.ref 0] 222 h 222 (fun r h' => (r = some (dPly (dRun tx T 60 0 0 s)) ∧ (∀ x, 215 ≤ x → h' x = h x) ∧ CH h' (if (dRun tx T 60 0 0 s).1 = 1 then (dRun tx T 60 0 0 s).2.2.2.2.2 else s) (if (dRun tx T 60 0 0 s).1 = 1 then aPa pa n s else pa) (if (dRun tx T 60 0 0 s).1 = 1 then aPn n else n) tx T)) := by
  obtain ⟨π, V, P, f, nm, hq, hS, hH⟩ := hc
  have hI : aIa s (aNn s) (aWn s) := hM.1.1
  obtain ⟨Kn, hKn, hA⟩ := AT_of hS hI
  have hN := hA.1
  have hb4 := CQ_bk hq (i := 4) (by omega)
  have hb5 := CQ_bk hq (i := 5) (by omega)
  have hne : ¬ bs (π 5) = bs (π 4) := CQ_ne hq (by omega) (by omega) (by omega)
  have h45 : π 4 ≠ π 5 := fun e => hne (by rw [e])
  have hh5 : ∀ i, i < n → π i ≠ π 5 := fun i hi e => by
    have := hq.1.2 i 5 (by have := CQ_n4 hq; omega) (by omega) e
    have := CQ_n4 hq
    omega
  have hT : f 2 = nI T := hq.2.2.2.2.2.1
  have hT60 : T ≤ 60 := hq.2.2.2.2.2.2.1
  have htx : aTx tx T := hq.2.2.2.2.2.2.2
  intro X Q hQ
  show zJ X mX4_play 222 0 [.ref 0] [] 222 h Q
  refine j_aload_n dX4_play_0 rfl ?_
  refine j_get (v := .ref (bs (π 5))) dX4_play_1 fX4_31 rfl (by decide) ((CQ_rd hq 0 4).trans gO_tri) ?_
  refine j_aload_n dX4_play_4 rfl ?_
  refine j_get (v := .ref (bs (π 4))) dX4_play_5 fX4_27 rfl (by decide) ((CQ_rd hq 0 3).trans gO_now) ?_
  refine z_to (zBk_self hb5.1).symm ?_
  refine k_callV1v dX4_play_8 vX4_play_34 (c_copy (bs_B _) (bs_B _) hne hb4.1 hb5.2.1 hb5.2.2 hA hI hKn) (aB_S0 (bs_B _)) (aB_l0 (bs_B _)) rfl (Nat.le_of_ble_eq_true rfl) ⟨rfl, rfl⟩ rfl ?_
  rintro _ ⟨-, v1, rfl, hA1⟩
  refine j_aload_n dX4_play_11 rfl ?_
  refine j_get (v := .ref 142) dX4_play_12 fX4_19 rfl (by decide) ((congrFun (zb_lo (bs_B _) (by omega)) _).trans ((CQ_rd hq 0 1).trans gO_1)) ?_
  refine j_aload_n dX4_play_15 rfl ?_
  refine j_get (v := .ref (bs (π 5))) dX4_play_16 fX4_31 rfl (by decide) ((congrFun (zb_lo (bs_B _) (by omega)) _).trans ((CQ_rd hq 0 4).trans gO_tri)) ?_
  refine z_to (gX_tr hq.2.2.2.2.1) ?_
  refine k_callV1v dX4_play_19 vX4_play_187 (x_perf (bs_B _) hT hT60 htx (AT_mk hA1 hI hKn) hM.1) rfl (by decide) rfl (Nat.le_of_ble_eq_true rfl) ⟨rfl, rfl⟩ rfl ?_
  rintro _ ⟨-, f1, nm1, v2, p2, rfl, hT2, hP2, hZ2, hok, hno⟩
  refine j_aload_n dX4_play_22 rfl ?_
  refine j_aload_n dX4_play_23 rfl ?_
  refine j_get (v := .ref 142) dX4_play_24 fX4_19 rfl (by decide) ((congrFun (x_o (by omega)) _).trans ((congrFun (zb_lo (bs_B _) (by omega)) _).trans ((CQ_rd hq 0 1).trans gO_1))) ?_
  refine k_callV0i dX4_play_27 vX4_play_190 (x_has) rfl (by decide)  (Nat.le_of_ble_eq_true rfl) ⟨rfl, rfl⟩ rfl ?_
  rintro _ _ ⟨⟨⟩, rfl⟩
  exact o_ply_tl hq hS hH h45 hh5 hT60 htx hT2 hP2 hZ2 hok hno (dRun_K hT60 60 0 0 s hM.1 (by omega) (by omega)).2.2 (dRun_K hT60 60 0 0 s hM.1 (by omega) (by omega)).2.1 hQ
