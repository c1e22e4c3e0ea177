variable {nz : Nat}
-- a copy
theorem zb_k0 {g : zH} {B C : Nat} {v u : Nat → Nat → Int32} {p q : Nat → Nat} {k : Nat} (hB : aB B) (hC : aB C) (hne : ¬ B = C) (hu : zBk g C u q) (h : tI 0 k) : gAu g B v p C k = .int (u 0 k) := zb_k (a := 0) hB hC hne hu h
theorem zb_kp {g : zH} {B C a : Nat} {v u : Nat → Nat → Int32} {p q : Nat → Nat} (hB : aB B) (hC : aB C) (hne : ¬ B = C) (hu : zBk g C u q) (ha : a < 35) : gAu g B v p (C + a) = tB C u q a := by
  rw [zb_out (by unfold aB at hB hC; omega), hu a ha]
theorem zb_kp0 {g : zH} {B C : Nat} {v u : Nat → Nat → Int32} {p q : Nat → Nat} (hB : aB B) (hC : aB C) (hne : ¬ B = C) (hu : zBk g C u q) : gAu g B v p C = tB C u q 0 := zb_kp (a := 0) hB hC hne hu (by omega)
theorem tB_qu {B k : Nat} {v : Nat → Nat → Int32} {p : Nat → Nat} (h : k < 8) : tB B v p 14 k = .ref (B + p k) := by
  show Value.ref (B + (if k < 8 then p k else 15)) = _
  rw [if_pos h]
theorem tB_go {B k : Nat} {v : Nat → Nat → Int32} {p : Nat → Nat} (h : k < 8) : tB B v p 23 k = .ref (B + p (8 + k)) := by
  show Value.ref (B + (if k < 8 then p (8 + k) else 15)) = _
  rw [if_pos h]
theorem zb_cpy {g : zH} {B C a n : Nat} {v u : Nat → Nat → Int32} {p q : Nat → Nat} (hB : aB B) (hC : aB C) (hne : ¬ B = C) (hu : zBk g C u q) (ha : 32 ≤ a) (ha2 : a < 34) : va_up (gAu g B v p) (B + a) (fun k => if k < n then .int (zI (gAu g B v p (C + a) k)) else gAu g B v p (B + a) k) = gAu g B (cCp v a (u a) n) p := by
  refine gAu_up (by omega) ?_ (fun b hb hne => tB_v (fun k _ => by rw [cCp_at, if_neg (fun q => hne q.1)]) hb)
  funext k
  have hi : ∀ k, tI a k := fun k => by unfold tI; omega
  rw [zb_k hB hC hne hu (hi k), zb_at (by omega), tB_int (hi k), tB_int (hi k), cCp_at]
  by_cases h : k < n
  · rw [if_pos h, if_pos ⟨rfl, h⟩]
    rfl
  · rw [if_neg h, if_neg (fun q => h q.2)]
def cB (v u : Nat → Nat → Int32) : Nat → (Nat → Nat → Int32)
  | 0 => v
  | k + 1 => cCp (cB v u k) (2 + k) (u (2 + k)) 11
theorem cB_at {v u : Nat → Nat → Int32} : ∀ n a b, cB v u n a b = if 2 ≤ a ∧ a < 2 + n ∧ b < 11 then u a b else v a b
  | 0, a, b => by
    rw [if_neg (by omega)]
    rfl
  | n + 1, a, b => by
    unfold cB
    rw [cCp_at, cB_at n a b]
    by_cases h : a = 2 + n ∧ b < 11
    · rw [if_pos h, if_pos (by omega), h.1]
    · rw [if_neg h]
      by_cases h2 : 2 ≤ a ∧ a < 2 + n ∧ b < 11
      · rw [if_pos h2, if_pos (by omega)]
      · rw [if_neg h2, if_neg (by omega)]
def cLo (v u : Nat → Nat → Int32) (p q : Nat → Nat) (m : Nat) : Nat → (Nat → Nat → Int32)
  | 0 => v
  | k + 1 => cCp (cLo v u p q m k) (p (m + k)) (u (q (m + k))) 10
section CL
variable {v u : Nat → Nat → Int32} {p q : Nat → Nat} {m : Nat}
theorem cLo_o (hP : AP p) : ∀ n, m + n ≤ 17 → ∀ a b, ¬ aL a → cLo v u p q m n a b = v a b
  | 0, _, _, _, _ => rfl
  | n + 1, hn, a, b, h => by
    unfold cLo
    rw [cCp_at, if_neg (fun (e : a = p (m + n) ∧ b < 10) => h (e.1 ▸ hP.1 _ (by omega))), cLo_o hP n (by omega) a b h]
theorem cLo_p (hP : AP p) : ∀ n, m + n ≤ 17 → ∀ i b, i < 17 → b < 10 → cLo v u p q m n (p i) b = if m ≤ i ∧ i < m + n then u (q i) b else v (p i) b
  | 0, _, i, _, _, _ => by
    rw [if_neg (by omega)]
    rfl
  | n + 1, hn, i, b, hi, hb => by
    unfold cLo
    rw [cCp_at, cLo_p hP n (by omega) i b hi hb]
    by_cases h : i = m + n
    · subst h
      rw [if_pos ⟨rfl, hb⟩, if_pos (by omega)]
    · rw [if_neg (fun e => h (hP.2 _ _ hi (by omega) e.1))]
      by_cases h2 : m ≤ i ∧ i < m + n
      · rw [if_pos h2, if_pos (by omega)]
      · rw [if_neg h2, if_neg (by omega)]
theorem cLo_z (hz : AZ v) (hy : AZ u) (hQ : AP q) : ∀ n, m + n ≤ 17 → AZ (cLo v u p q m n)
  | 0, _ => hz
  | n + 1, hn => fun o ho => by
    unfold cLo
    rw [cCp_at, cCp_at]
    by_cases h : o = p (m + n)
    · rw [if_pos ⟨h, by decide⟩, if_pos ⟨h, by decide⟩]
      exact hy _ (hQ.1 _ (by omega))
    · rw [if_neg (fun e => h e.1), if_neg (fun e => h e.1)]
      exact cLo_z hz hy hQ n (by omega) o ho
theorem ar_copy {s : Nat → Int32} {N W K : Nat} (h : AR u q s N W K) (hP : AP p) (hz : AZ v) (f1 : ∀ o k, sI o k → v o k = u o k) (f2 : ∀ j b, j < N → b < 11 → v (2 + j) b = u (2 + j) b) (f3 : ∀ i b, (i < W ∨ (8 ≤ i ∧ i < 8 + K) ∨ i = 16) → b < 10 → v (p i) b = u (q i) b) : AR v p s N W K := by
  obtain ⟨hn, hP', hZ, hS, hB, hQ, hG, hU⟩ := h
  refine ⟨hn, hP, hz, fun o k hi => (f1 o k hi).trans (hS o k hi), fun k j hk hj => ?_, fun i hi => ?_, fun i hi => ?_, fun hup => ?_⟩
  · have hb : bS j < 11 := by
      unfold bS
      repeat' split
      all_goals omega
    exact (f2 k _ hk hb).trans (hB k j hk hj)
  · have c := hQ i hi
    refine ⟨(f3 i 0 (by omega) (by omega)).trans c.1, (f3 i 1 (by omega) (by omega)).trans c.2.1, fun m h1 h2 => (f3 i m (by omega) (by omega)).trans (c.2.2 m h1 h2)⟩
  · have c := hG i hi
    unfold AG1 at c ⊢
    rw [f3 (8 + i) 9 (by omega) (by omega), f3 (8 + i) 2 (by omega) (by omega), f3 (8 + i) 6 (by omega) (by omega), f3 (8 + i) 3 (by omega) (by omega), f3 (8 + i) 7 (by omega) (by omega)]
    exact c
  · have c := hU hup
    unfold AU at c ⊢
    rw [f3 16 0 (by omega) (by omega), f3 16 1 (by omega) (by omega), f3 16 2 (by omega) (by omega), f3 16 3 (by omega) (by omega), f3 16 4 (by omega) (by omega), f3 16 5 (by omega) (by omega), f3 16 6 (by omega) (by omega), f3 16 7 (by omega) (by omega), f3 16 8 (by omega) (by omega)]
    exact c
/-- all that a copy does -/
def cCy1 (v u : Nat → Nat → Int32) (N : Nat) : Nat → Nat → Int32 := cB (up2 v 0 5 (u 0 5)) u N
def cCy2 (v u : Nat → Nat → Int32) (p q : Nat → Nat) (N W : Nat) : Nat → Nat → Int32 := cLo (up2 (cCy1 v u N) 0 6 (u 0 6)) u p q 0 W
def cCy3 (v u : Nat → Nat → Int32) (p q : Nat → Nat) (N W K : Nat) : Nat → Nat → Int32 := cLo (up2 (cCy2 v u p q N W) 0 7 (u 0 7)) u p q 8 K
def cCy4 (v u : Nat → Nat → Int32) (p q : Nat → Nat) (N W K : Nat) : Nat → Nat → Int32 := cLo (up2 (cCy3 v u p q N W K) 0 8 (u 0 8)) u p q 16 1
def cCy5 (w u : Nat → Nat → Int32) : Nat → Nat → Int32 := cCp (cCp w 32 (u 32) 4) 33 (u 33) 3
def cCy6 (w u : Nat → Nat → Int32) : Nat → Nat → Int32 := up2 (up2 (up2 (up2 (up2 (up2 (up2 (cCy5 w u) 0 10 (u 0 10)) 0 11 (u 0 11)) 0 12 (u 0 12)) 0 13 (u 0 13)) 0 14 (u 0 14)) 0 15 (u 0 15)) 0 16 (u 0 16)
theorem cCy6_n {w : Nat → Nat → Int32} {o k : Nat} (h0 : o ≠ 0) (h32 : o ≠ 32) (h33 : o ≠ 33) : cCy6 w u o k = w o k := by
  unfold cCy6 cCy5
  rw [up2_n (fun e _ => h0 e), up2_n (fun e _ => h0 e), up2_n (fun e _ => h0 e), up2_n (fun e _ => h0 e), up2_n (fun e _ => h0 e), up2_n (fun e _ => h0 e), up2_n (fun e _ => h0 e), cCp_at, if_neg (fun e => h33 e.1), cCp_at, if_neg (fun e => h32 e.1)]
theorem ar_cy {s : Nat → Int32} {N W K : Nat} (h : AR u q s N W K) (hP : AP p) (hz : AZ v) : AR (cCy6 (cCy4 v u p q N W K) u) p s N W K := by
  have hn := h.1
  have hQ := h.2.1
  have nL0 : ¬ aL 0 := by unfold aL; omega
  have nL : ∀ o, o < 15 ∨ o = 32 ∨ o = 33 → ¬ aL o := fun o ho => by unfold aL; omega
  have L := fun i (hi : i < 17) => hP.1 i hi
  have s4 : ∀ a b, ¬ aL a → (a = 0 → b ≠ 8) → cCy4 v u p q N W K a b = cCy3 v u p q N W K a b := fun a b ha h8 => by
    unfold cCy4
    rw [cLo_o hP 1 (by omega) a b ha, up2_n (fun e f => h8 e f)]
  have s3 : ∀ a b, ¬ aL a → (a = 0 → b ≠ 7) → cCy3 v u p q N W K a b = cCy2 v u p q N W a b := fun a b ha h8 => by
    unfold cCy3
    rw [cLo_o hP K (by omega) a b ha, up2_n (fun e f => h8 e f)]
  have s2 : ∀ a b, ¬ aL a → (a = 0 → b ≠ 6) → cCy2 v u p q N W a b = cCy1 v u N a b := fun a b ha h8 => by
    unfold cCy2
    rw [cLo_o hP W (by omega) a b ha, up2_n (fun e f => h8 e f)]
  refine ar_copy h hP (fun o ho => ?_) (fun o k hi => ?_) (fun j b hj hb => ?_) (fun i b hi hb => ?_)
  · have z : AZ (cCy4 v u p q N W K) := by
      have z1 : AZ (up2 (cCy1 v u N) 0 6 (u 0 6)) := fun o ho => by
        have e0 : o ≠ 0 := fun e => nL0 (e ▸ ho)
        unfold cCy1
        rw [up2_n (fun e _ => e0 e), up2_n (fun e _ => e0 e), cB_at, cB_at, if_neg (fun e => by unfold aL at ho; omega), if_neg (fun e => by unfold aL at ho; omega), up2_n (fun e _ => e0 e), up2_n (fun e _ => e0 e)]
        exact hz o ho
      have y := h.2.2.1
      have z2 : AZ (cCy2 v u p q N W) := cLo_z z1 y hQ W (by omega)
      have z3 : AZ (cCy3 v u p q N W K) := cLo_z (fun o ho => by
        have e0 : o ≠ 0 := fun e => nL0 (e ▸ ho)
        rw [up2_n (fun e _ => e0 e), up2_n (fun e _ => e0 e)]
        exact z2 o ho) y hQ K (by omega)
      exact cLo_z (fun o ho => by
        have e0 : o ≠ 0 := fun e => nL0 (e ▸ ho)
        rw [up2_n (fun e _ => e0 e), up2_n (fun e _ => e0 e)]
        exact z3 o ho) y hQ 1 (by omega)
    have e0 : o ≠ 0 := fun e => nL0 (e ▸ ho)
    have e32 : o ≠ 32 := fun e => nL 32 (by omega) (e ▸ ho)
    have e33 : o ≠ 33 := fun e => nL 33 (by omega) (e ▸ ho)
    rw [cCy6_n e0 e32 e33, cCy6_n e0 e32 e33]
    exact z o ho
  · rcases hi with ⟨rfl, h1, h2, h3⟩ | ⟨rfl, h1⟩ | ⟨rfl, h1⟩
    · have r5 : ∀ b, (b < 10) → cCy6 (cCy4 v u p q N W K) u 0 b = cCy4 v u p q N W K 0 b := fun b hb => by
        unfold cCy6 cCy5
        rw [up2_n (fun _ e => by omega), up2_n (fun _ e => by omega), up2_n (fun _ e => by omega), up2_n (fun _ e => by omega), up2_n (fun _ e => by omega), up2_n (fun _ e => by omega), up2_n (fun _ e => by omega), cCp_at, if_neg (by omega), cCp_at, if_neg (by omega)]
      rcases (show k = 5 ∨ k = 6 ∨ k = 7 ∨ k = 8 ∨ k = 10 ∨ k = 11 ∨ k = 12 ∨ k = 13 ∨ k = 14 ∨ k = 15 ∨ k = 16 by omega) with rfl | rfl | rfl | rfl | rfl | rfl | rfl | rfl | rfl | rfl | rfl
      · rw [r5 5 (by omega), s4 0 5 nL0 (by omega), s3 0 5 nL0 (by omega), s2 0 5 nL0 (by omega)]
        unfold cCy1
        rw [cB_at, if_neg (by omega), up2_s]
      · rw [r5 6 (by omega), s4 0 6 nL0 (by omega), s3 0 6 nL0 (by omega)]
        unfold cCy2
        rw [cLo_o hP W (by omega) 0 6 nL0, up2_s]
      · rw [r5 7 (by omega), s4 0 7 nL0 (by omega)]
        unfold cCy3
        rw [cLo_o hP K (by omega) 0 7 nL0, up2_s]
      · rw [r5 8 (by omega)]
        unfold cCy4
        rw [cLo_o hP 1 (by omega) 0 8 nL0, up2_s]
      · unfold cCy6
        rw [up2_n (fun _ e => by omega), up2_n (fun _ e => by omega), up2_n (fun _ e => by omega), up2_n (fun _ e => by omega), up2_n (fun _ e => by omega), up2_n (fun _ e => by omega), up2_s]
      · unfold cCy6
        rw [up2_n (fun _ e => by omega), up2_n (fun _ e => by omega), up2_n (fun _ e => by omega), up2_n (fun _ e => by omega), up2_n (fun _ e => by omega), up2_s]
      · unfold cCy6
        rw [up2_n (fun _ e => by omega), up2_n (fun _ e => by omega), up2_n (fun _ e => by omega), up2_n (fun _ e => by omega), up2_s]
      · unfold cCy6
        rw [up2_n (fun _ e => by omega), up2_n (fun _ e => by omega), up2_n (fun _ e => by omega), up2_s]
      · unfold cCy6
        rw [up2_n (fun _ e => by omega), up2_n (fun _ e => by omega), up2_s]
      · unfold cCy6
        rw [up2_n (fun _ e => by omega), up2_s]
      · unfold cCy6
        rw [up2_s]
    · unfold cCy6 cCy5
      rw [up2_n (fun e _ => by omega), up2_n (fun e _ => by omega), up2_n (fun e _ => by omega), up2_n (fun e _ => by omega), up2_n (fun e _ => by omega), up2_n (fun e _ => by omega), up2_n (fun e _ => by omega), cCp_at, if_neg (by omega), cCp_at, if_pos ⟨rfl, h1⟩]
    · unfold cCy6 cCy5
      rw [up2_n (fun e _ => by omega), up2_n (fun e _ => by omega), up2_n (fun e _ => by omega), up2_n (fun e _ => by omega), up2_n (fun e _ => by omega), up2_n (fun e _ => by omega), up2_n (fun e _ => by omega), cCp_at, if_pos ⟨rfl, h1⟩]
  · have nl := nL (2 + j) (by omega)
    rw [cCy6_n (by omega) (by omega) (by omega), s4 _ _ nl (by omega), s3 _ _ nl (by omega), s2 _ _ nl (by omega)]
    unfold cCy1
    rw [cB_at, if_pos (by omega)]
  · have hl := L i (by omega)
    have e0 : p i ≠ 0 := fun e => nL0 (e ▸ hl)
    have e32 : p i ≠ 32 := fun e => nL 32 (by omega) (e ▸ hl)
    have e33 : p i ≠ 33 := fun e => nL 33 (by omega) (e ▸ hl)
    rw [cCy6_n e0 e32 e33]
    unfold cCy4
    rw [cLo_p hP 1 (by omega) i b (by omega) hb]
    by_cases h16 : i = 16
    · rw [if_pos (by omega)]
    · rw [if_neg (by omega), up2_n (fun e _ => e0 e)]
      unfold cCy3
      rw [cLo_p hP K (by omega) i b (by omega) hb]
      by_cases h8 : 8 ≤ i
      · rw [if_pos (by omega)]
      · rw [if_neg (by omega), up2_n (fun e _ => e0 e)]
        unfold cCy2
        rw [cLo_p hP W (by omega) i b (by omega) hb, if_pos (by omega)]
end CL
set_option maxRecDepth 4000 in
set_option maxHeartbeats 2000000 in
theorem c_cp1 {g : zH} {B : Nat} (hB : aB B) {v : Nat → Nat → Int32} {p : Nat → Nat} {C : Nat} (hC : aB C) (hne : ¬ B = C) {u : Nat → Nat → Int32} {q : Nat → Nat} (hu : zBk g C u q) (hP : AP p) (hQ : AP q) (hy : AZ u) {N : Nat} (hN : N ≤ 12) (hv : v 0 5 = nI N) {X : Nat × (Nat → Int32)} {R : zQt} : ∀ (n k : Nat), k + n = N → (∀ y : Value, zJ X mX0_copyFrom (215 + nz) 39 [.ref B, .ref C, y] [] (215 + nz) (gAu g B (cB v u N) p) R) → zJ X mX0_copyFrom (215 + nz) 10 [.ref B, .ref C, .int (nI k)] [] (215 + nz) (gAu g B (cB v u k) p) R := by
  intro n
  induction n with
  | zero =>
    intro k hk kk
    obtain rfl : k = N := by omega
    refine j_iload_n dX0_copyFrom_10 rfl ?_
    refine j_aload_n dX0_copyFrom_11 rfl ?_
    refine j_get (v := .int (nI k)) dX0_copyFrom_12 fX0_39 (aB_S0 hB) (aB_l0 hB) ((zb_int0 (by unfold tI; decide)).trans (congrArg Value.int ((cB_at _ 0 5).trans ((if_neg (by omega)).trans hv)))) ?_
    refine j_icmp_ge dX0_copyFrom_15 (tgt := 39) rfl (fun _ => ?_) (fun c1 => absurd (show nI k ≤ nI k from nI_le (by omega) (by omega)) c1)
    exact kk _
  | succ n ih =>
    intro k hk kk
    refine j_iload_n dX0_copyFrom_10 rfl ?_
    refine j_aload_n dX0_copyFrom_11 rfl ?_
    refine j_get (v := .int (nI N)) dX0_copyFrom_12 fX0_39 (aB_S0 hB) (aB_l0 hB) ((zb_int0 (by unfold tI; decide)).trans (congrArg Value.int ((cB_at _ 0 5).trans ((if_neg (by omega)).trans hv)))) ?_
    refine j_icmp_ge dX0_copyFrom_15 (tgt := 39) rfl (fun c1 => absurd c1 (show ¬ nI N ≤ nI k from nI_ge (by omega) (by omega))) (fun _ => ?_)
    refine j_aload_n dX0_copyFrom_18 rfl ?_
    refine j_get dX0_copyFrom_19 fX0_13 (aB_S0 hB) (aB_l0 hB) zb_p0 ?_
    refine j_iload_n dX0_copyFrom_22 rfl ?_
    refine k_aald (n := 12) (t := 1) (r := (B + (2 + k))) k dX0_copyFrom_23 (aB_S hB (by first | decide | omega)) (by first | decide | omega) (aB_lt hB (by first | decide | omega)) (by first | rfl | (simp only [z_n, pk_mul, nI_add]; done) | (simp only [z_n, pk_mul, nI_add]; exact pk_sub (by omega)) | (simp only [z_n, pk_mul, nI_add, pk_sub, *]; done)) (by omega) (by first | decide | omega) (zb_bd) ?_
    refine j_aload_n dX0_copyFrom_24 rfl ?_
    refine j_get (v := .ref (C + 1)) dX0_copyFrom_25 fX0_13 (aB_S0 hC) (aB_l0 hC) (by rw [zb_kp0 hB hC hne hu]; rfl) ?_
    refine j_iload_n dX0_copyFrom_28 rfl ?_
    refine k_aald (n := 12) (t := 1) (r := C + (2 + k)) k dX0_copyFrom_29 (aB_S hC (by first | decide | omega)) (by first | decide | omega) (aB_lt hC (by first | decide | omega)) (by first | rfl | (simp only [z_n, pk_mul, nI_add]; done) | (simp only [z_n, pk_mul, nI_add]; exact pk_sub (by omega)) | (simp only [z_n, pk_mul, nI_add, pk_sub, *]; done)) (by omega) (by first | decide | omega) (by rw [zb_kp hB hC hne hu (by omega)]; rfl) ?_
    refine k_callV1v dX0_copyFrom_30 vX0_copyFrom_43 (c_bcopy hB hC hne hu (by omega) (by omega)) (aB_Sb hB (by omega)) (aB_lt hB (by omega)) rfl (Nat.le_of_ble_eq_true rfl) ⟨rfl, rfl⟩ rfl ?_
    rintro _ ⟨-, rfl⟩
    refine j_iinc (v := nI (k + 1)) dX0_copyFrom_33 rfl z_inc (by first | decide | omega) ?_
    refine j_goto dX0_copyFrom_36 (tgt := 10) rfl ?_
    exact ih (k + 1) (by omega) kk
theorem z_l0 : ¬ aL 0 := by
  unfold aL
  omega
set_option maxRecDepth 4000 in
set_option maxHeartbeats 2000000 in
theorem c_cp2 {g : zH} {B : Nat} (hB : aB B) {v : Nat → Nat → Int32} {p : Nat → Nat} {C : Nat} (hC : aB C) (hne : ¬ B = C) {u : Nat → Nat → Int32} {q : Nat → Nat} (hu : zBk g C u q) (hP : AP p) (hQ : AP q) (hy : AZ u) {W : Nat} (hW : W ≤ 8) (hv : v 0 6 = nI W) {X : Nat × (Nat → Int32)} {R : zQt} : ∀ (n k : Nat), k + n = W → (∀ y : Value, zJ X mX0_copyFrom (215 + nz) 78 [.ref B, .ref C, y] [] (215 + nz) (gAu g B (cLo v u p q 0 W) p) R) → zJ X mX0_copyFrom (215 + nz) 49 [.ref B, .ref C, .int (nI k)] [] (215 + nz) (gAu g B (cLo v u p q 0 k) p) R := by
  intro n
  induction n with
  | zero =>
    intro k hk kk
    obtain rfl : k = W := by omega
    refine j_iload_n dX0_copyFrom_49 rfl ?_
    refine j_aload_n dX0_copyFrom_50 rfl ?_
    refine j_get (v := .int (nI k)) dX0_copyFrom_51 fX0_47 (aB_S0 hB) (aB_l0 hB) ((zb_int0 (by unfold tI; decide)).trans (congrArg Value.int ((cLo_o hP _ (by omega) 0 6 z_l0).trans hv))) ?_
    refine j_icmp_ge dX0_copyFrom_54 (tgt := 78) rfl (fun _ => ?_) (fun c1 => absurd (show nI k ≤ nI k from nI_le (by omega) (by omega)) c1)
    exact kk _
  | succ n ih =>
    intro k hk kk
    refine j_iload_n dX0_copyFrom_49 rfl ?_
    refine j_aload_n dX0_copyFrom_50 rfl ?_
    refine j_get (v := .int (nI W)) dX0_copyFrom_51 fX0_47 (aB_S0 hB) (aB_l0 hB) ((zb_int0 (by unfold tI; decide)).trans (congrArg Value.int ((cLo_o hP _ (by omega) 0 6 z_l0).trans hv))) ?_
    refine j_icmp_ge dX0_copyFrom_54 (tgt := 78) rfl (fun c1 => absurd c1 (show ¬ nI W ≤ nI k from nI_ge (by omega) (by omega))) (fun _ => ?_)
    refine j_aload_n dX0_copyFrom_57 rfl ?_
    refine j_get dX0_copyFrom_58 fX0_20 (aB_S0 hB) (aB_l0 hB) zb_p1 ?_
    refine j_iload_n dX0_copyFrom_61 rfl ?_
    refine k_aald (n := 8) (t := 2) (r := (B + p k)) k dX0_copyFrom_62 (aB_S hB (by first | decide | omega)) (by first | decide | omega) (aB_lt hB (by first | decide | omega)) (by first | rfl | (simp only [z_n, pk_mul, nI_add]; done) | (simp only [z_n, pk_mul, nI_add]; exact pk_sub (by omega)) | (simp only [z_n, pk_mul, nI_add, pk_sub, *]; done)) (by omega) (by first | decide | omega) (zb_qu (by omega)) ?_
    refine j_aload_n dX0_copyFrom_63 rfl ?_
    refine j_get (v := .ref (C + 14)) dX0_copyFrom_64 fX0_20 (aB_S0 hC) (aB_l0 hC) (by rw [zb_kp0 hB hC hne hu]; rfl) ?_
    refine j_iload_n dX0_copyFrom_67 rfl ?_
    refine k_aald (n := 8) (t := 2) (r := C + q k) k dX0_copyFrom_68 (aB_S hC (by first | decide | omega)) (by first | decide | omega) (aB_lt hC (by first | decide | omega)) (by first | rfl | (simp only [z_n, pk_mul, nI_add]; done) | (simp only [z_n, pk_mul, nI_add]; exact pk_sub (by omega)) | (simp only [z_n, pk_mul, nI_add, pk_sub, *]; done)) (by omega) (by first | decide | omega) (by rw [zb_kp hB hC hne hu (by omega)]; exact tB_qu (by omega)) ?_
    refine k_callV1v dX0_copyFrom_69 vX0_copyFrom_50 (c_lcopy hB hC hne hu (hP.1 _ (by omega)) (hQ.1 _ (by omega)) (hy _ (hQ.1 _ (by omega)))) (aB_SL hB (hP.1 _ (by omega))) (aB_lt hB (aL_lt (hP.1 _ (by omega)))) rfl (Nat.le_of_ble_eq_true rfl) ⟨rfl, rfl⟩ rfl ?_
    rintro _ ⟨-, rfl⟩
    refine j_iinc (v := nI (k + 1)) dX0_copyFrom_72 rfl z_inc (by first | decide | omega) ?_
    refine j_goto dX0_copyFrom_75 (tgt := 49) rfl ?_
    have e : cCp (cLo v u p q 0 k) (p k) (u (q k)) 10 = cLo v u p q 0 (k + 1) := by
      show _ = cCp (cLo v u p q 0 k) (p (0 + k)) (u (q (0 + k))) 10
      rw [Nat.zero_add]
    rw [e]
    exact ih (k + 1) (by omega) kk
set_option maxRecDepth 4000 in
set_option maxHeartbeats 2000000 in
theorem c_cp3 {g : zH} {B : Nat} (hB : aB B) {v : Nat → Nat → Int32} {p : Nat → Nat} {C : Nat} (hC : aB C) (hne : ¬ B = C) {u : Nat → Nat → Int32} {q : Nat → Nat} (hu : zBk g C u q) (hP : AP p) (hQ : AP q) (hy : AZ u) {K : Nat} (hK : K ≤ 8) (hv : v 0 7 = nI K) {X : Nat × (Nat → Int32)} {R : zQt} : ∀ (n k : Nat), k + n = K → (∀ y : Value, zJ X mX0_copyFrom (215 + nz) 117 [.ref B, .ref C, y] [] (215 + nz) (gAu g B (cLo v u p q 8 K) p) R) → zJ X mX0_copyFrom (215 + nz) 88 [.ref B, .ref C, .int (nI k)] [] (215 + nz) (gAu g B (cLo v u p q 8 k) p) R := by
  intro n
  induction n with
  | zero =>
    intro k hk kk
    obtain rfl : k = K := by omega
    refine j_iload_n dX0_copyFrom_88 rfl ?_
    refine j_aload_n dX0_copyFrom_89 rfl ?_
    refine j_get (v := .int (nI k)) dX0_copyFrom_90 fX0_53 (aB_S0 hB) (aB_l0 hB) ((zb_int0 (by unfold tI; decide)).trans (congrArg Value.int ((cLo_o hP _ (by omega) 0 7 z_l0).trans hv))) ?_
    refine j_icmp_ge dX0_copyFrom_93 (tgt := 117) rfl (fun _ => ?_) (fun c1 => absurd (show nI k ≤ nI k from nI_le (by omega) (by omega)) c1)
    exact kk _
  | succ n ih =>
    intro k hk kk
    refine j_iload_n dX0_copyFrom_88 rfl ?_
    refine j_aload_n dX0_copyFrom_89 rfl ?_
    refine j_get (v := .int (nI K)) dX0_copyFrom_90 fX0_53 (aB_S0 hB) (aB_l0 hB) ((zb_int0 (by unfold tI; decide)).trans (congrArg Value.int ((cLo_o hP _ (by omega) 0 7 z_l0).trans hv))) ?_
    refine j_icmp_ge dX0_copyFrom_93 (tgt := 117) rfl (fun c1 => absurd c1 (show ¬ nI K ≤ nI k from nI_ge (by omega) (by omega))) (fun _ => ?_)
    refine j_aload_n dX0_copyFrom_96 rfl ?_
    refine j_get dX0_copyFrom_97 fX0_25 (aB_S0 hB) (aB_l0 hB) zb_p2 ?_
    refine j_iload_n dX0_copyFrom_100 rfl ?_
    refine k_aald (n := 8) (t := 2) (r := (B + p (8 + k))) k dX0_copyFrom_101 (aB_S hB (by first | decide | omega)) (by first | decide | omega) (aB_lt hB (by first | decide | omega)) (by first | rfl | (simp only [z_n, pk_mul, nI_add]; done) | (simp only [z_n, pk_mul, nI_add]; exact pk_sub (by omega)) | (simp only [z_n, pk_mul, nI_add, pk_sub, *]; done)) (by omega) (by first | decide | omega) (zb_go (by omega)) ?_
    refine j_aload_n dX0_copyFrom_102 rfl ?_
    refine j_get (v := .ref (C + 23)) dX0_copyFrom_103 fX0_25 (aB_S0 hC) (aB_l0 hC) (by rw [zb_kp0 hB hC hne hu]; rfl) ?_
    refine j_iload_n dX0_copyFrom_106 rfl ?_
    refine k_aald (n := 8) (t := 2) (r := C + q (8 + k)) k dX0_copyFrom_107 (aB_S hC (by first | decide | omega)) (by first | decide | omega) (aB_lt hC (by first | decide | omega)) (by first | rfl | (simp only [z_n, pk_mul, nI_add]; done) | (simp only [z_n, pk_mul, nI_add]; exact pk_sub (by omega)) | (simp only [z_n, pk_mul, nI_add, pk_sub, *]; done)) (by omega) (by first | decide | omega) (by rw [zb_kp hB hC hne hu (by omega)]; exact tB_go (by omega)) ?_
    refine k_callV1v dX0_copyFrom_108 vX0_copyFrom_50 (c_lcopy hB hC hne hu (hP.1 _ (by omega)) (hQ.1 _ (by omega)) (hy _ (hQ.1 _ (by omega)))) (aB_SL hB (hP.1 _ (by omega))) (aB_lt hB (aL_lt (hP.1 _ (by omega)))) rfl (Nat.le_of_ble_eq_true rfl) ⟨rfl, rfl⟩ rfl ?_
    rintro _ ⟨-, rfl⟩
    refine j_iinc (v := nI (k + 1)) dX0_copyFrom_111 rfl z_inc (by first | decide | omega) ?_
    refine j_goto dX0_copyFrom_114 (tgt := 88) rfl ?_
    exact ih (k + 1) (by omega) kk
set_option maxRecDepth 4000 in
set_option maxHeartbeats 2000000 in
theorem c_cp4 {g : zH} {B : Nat} (hB : aB B) {v : Nat → Nat → Int32} {p : Nat → Nat} {C : Nat} (hC : aB C) (hne : ¬ B = C) {u : Nat → Nat → Int32} {q : Nat → Nat} (hu : zBk g C u q) (hP : AP p) (hz : AZ v) {s : Nat → Int32} {N W K : Nat} (hA : AR u q s N W K) (hI : aIa s N W) (hK : s 210 = nI K) {y : Value} {X : Nat × (Nat → Int32)} {R : zQt} (hR : ∀ r h', r = none ∧ h' = gAu g B (cCy6 (cCp (up2 v 0 8 (u 0 8)) (p 16) (u (q 16)) 10) u) p → R r (215 + nz) h') : zJ X mX0_copyFrom (215 + nz) 117 [.ref B, .ref C, y] [] (215 + nz) (gAu g B v p) R := by
  have hN := hA.1
  have hQ := hA.2.1
  have hy := hA.2.2.1
  refine j_aload_n dX0_copyFrom_117 rfl ?_
  refine j_aload_n dX0_copyFrom_118 rfl ?_
  refine j_get dX0_copyFrom_119 fX0_56 (aB_S0 hC) (aB_l0 hC) (zb_k0 hB hC hne hu (by unfold tI; decide)) ?_
  refine j_put dX0_copyFrom_122 fX0_56 (aB_S0 hB) (aB_l0 hB) (aZb_ok (by rw [ar_s hA 0 8 (by first | decide | omega)]; exact hI.2.2.2.2.2.1)) ?_
  rw [zb_wr0 (k := 8) (by unfold tI; decide)]
  refine j_aload_n dX0_copyFrom_125 rfl ?_
  refine j_get dX0_copyFrom_126 fX0_35 (aB_S0 hB) (aB_l0 hB) zb_p9 ?_
  refine j_aload_n dX0_copyFrom_129 rfl ?_
  refine j_get (v := .ref (C + q 16)) dX0_copyFrom_130 fX0_35 (aB_S0 hC) (aB_l0 hC) (by rw [zb_kp0 hB hC hne hu]; rfl) ?_
  refine k_callV1v dX0_copyFrom_133 vX0_copyFrom_50 (c_lcopy hB hC hne hu (hP.1 16 (by omega)) (hQ.1 16 (by omega)) (hy _ (hQ.1 16 (by omega)))) (aB_SL hB (hP.1 16 (by omega))) (aB_lt hB (aL_lt (hP.1 16 (by omega)))) rfl (Nat.le_of_ble_eq_true rfl) ⟨rfl, rfl⟩ rfl ?_
  rintro _ ⟨-, rfl⟩
  refine j_aload_n dX0_copyFrom_136 rfl ?_
  refine j_get (v := .ref (C + 32)) dX0_copyFrom_137 fX0_28 (aB_S0 hC) (aB_l0 hC) (by rw [zb_kp0 hB hC hne hu]; rfl) ?_
  refine j_iconst (v := 0) dX0_copyFrom_140 (by first | decide | omega) ?_
  refine j_aload_n dX0_copyFrom_141 rfl ?_
  refine j_get dX0_copyFrom_142 fX0_28 (aB_S0 hB) (aB_l0 hB) zb_p3 ?_
  refine j_iconst (v := 0) dX0_copyFrom_145 (by first | decide | omega) ?_
  refine j_aload_n dX0_copyFrom_146 rfl ?_
  refine j_get dX0_copyFrom_147 fX0_28 (aB_S0 hB) (aB_l0 hB) zb_p3 ?_
  refine j_alen (n := 4) (t := 0) (v := 4) dX0_copyFrom_150 (aB_S hB (by first | decide | omega)) (by first | decide | omega) (aB_lt hB (by first | decide | omega)) rfl ?_
  refine j_acopy (n := 4) (m0 := 4) (m1 := 4) dX0_copyFrom_151 nX0_60 z_acN z_acS z_acI (aB_S hC (o := 32) (by first | decide | omega)) (aB_S hB (o := 32) (by first | decide | omega)) (aB_lt hC (by first | decide | omega)) (aB_lt hB (by first | decide | omega)) (by first | decide | omega) (by first | decide | omega) (by first | decide | omega) (by first | decide | omega) (by first | decide | omega) (Nat.le_of_ble_eq_true rfl) rfl ?_
  rw [zb_cpy hB hC hne hu (by omega) (by omega)]
  refine j_aload_n dX0_copyFrom_154 rfl ?_
  refine j_get (v := .ref (C + 33)) dX0_copyFrom_155 fX0_32 (aB_S0 hC) (aB_l0 hC) (by rw [zb_kp0 hB hC hne hu]; rfl) ?_
  refine j_iconst (v := 0) dX0_copyFrom_158 (by first | decide | omega) ?_
  refine j_aload_n dX0_copyFrom_159 rfl ?_
  refine j_get dX0_copyFrom_160 fX0_32 (aB_S0 hB) (aB_l0 hB) zb_p4 ?_
  refine j_iconst (v := 0) dX0_copyFrom_163 (by first | decide | omega) ?_
  refine j_aload_n dX0_copyFrom_164 rfl ?_
  refine j_get dX0_copyFrom_165 fX0_32 (aB_S0 hB) (aB_l0 hB) zb_p4 ?_
  refine j_alen (n := 3) (t := 0) (v := 3) dX0_copyFrom_168 (aB_S hB (by first | decide | omega)) (by first | decide | omega) (aB_lt hB (by first | decide | omega)) rfl ?_
  refine j_acopy (n := 3) (m0 := 3) (m1 := 3) dX0_copyFrom_169 nX0_60 z_acN z_acS z_acI (aB_S hC (o := 33) (by first | decide | omega)) (aB_S hB (o := 33) (by first | decide | omega)) (aB_lt hC (by first | decide | omega)) (aB_lt hB (by first | decide | omega)) (by first | decide | omega) (by first | decide | omega) (by first | decide | omega) (by first | decide | omega) (by first | decide | omega) (Nat.le_of_ble_eq_true rfl) rfl ?_
  rw [zb_cpy hB hC hne hu (by omega) (by omega)]
  refine j_aload_n dX0_copyFrom_172 rfl ?_
  refine j_aload_n dX0_copyFrom_173 rfl ?_
  refine j_get dX0_copyFrom_174 fX0_66 (aB_S0 hC) (aB_l0 hC) (zb_k0 hB hC hne hu (by unfold tI; decide)) ?_
  refine j_put dX0_copyFrom_177 fX0_66 (aB_S0 hB) (aB_l0 hB) (rfl) ?_
  rw [zb_wr0 (k := 10) (by unfold tI; decide)]
  refine j_aload_n dX0_copyFrom_180 rfl ?_
  refine j_aload_n dX0_copyFrom_181 rfl ?_
  refine j_get dX0_copyFrom_182 fX0_69 (aB_S0 hC) (aB_l0 hC) (zb_k0 hB hC hne hu (by unfold tI; decide)) ?_
  refine j_put dX0_copyFrom_185 fX0_69 (aB_S0 hB) (aB_l0 hB) (rfl) ?_
  rw [zb_wr0 (k := 11) (by unfold tI; decide)]
  refine j_aload_n dX0_copyFrom_188 rfl ?_
  refine j_aload_n dX0_copyFrom_189 rfl ?_
  refine j_get dX0_copyFrom_190 fX0_72 (aB_S0 hC) (aB_l0 hC) (zb_k0 hB hC hne hu (by unfold tI; decide)) ?_
  refine j_put dX0_copyFrom_193 fX0_72 (aB_S0 hB) (aB_l0 hB) (rfl) ?_
  rw [zb_wr0 (k := 12) (by unfold tI; decide)]
  refine j_aload_n dX0_copyFrom_196 rfl ?_
  refine j_aload_n dX0_copyFrom_197 rfl ?_
  refine j_get dX0_copyFrom_198 fX0_75 (aB_S0 hC) (aB_l0 hC) (zb_k0 hB hC hne hu (by unfold tI; decide)) ?_
  refine j_put dX0_copyFrom_201 fX0_75 (aB_S0 hB) (aB_l0 hB) (rfl) ?_
  rw [zb_wr0 (k := 13) (by unfold tI; decide)]
  refine j_aload_n dX0_copyFrom_204 rfl ?_
  refine j_aload_n dX0_copyFrom_205 rfl ?_
  refine j_get dX0_copyFrom_206 fX0_78 (aB_S0 hC) (aB_l0 hC) (zb_k0 hB hC hne hu (by unfold tI; decide)) ?_
  refine j_put dX0_copyFrom_209 fX0_78 (aB_S0 hB) (aB_l0 hB) (rfl) ?_
  rw [zb_wr0 (k := 14) (by unfold tI; decide)]
  refine j_aload_n dX0_copyFrom_212 rfl ?_
  refine j_aload_n dX0_copyFrom_213 rfl ?_
  refine j_get dX0_copyFrom_214 fX0_81 (aB_S0 hC) (aB_l0 hC) (zb_k0 hB hC hne hu (by unfold tI; decide)) ?_
  refine j_put dX0_copyFrom_217 fX0_81 (aB_S0 hB) (aB_l0 hB) (rfl) ?_
  rw [zb_wr0 (k := 15) (by unfold tI; decide)]
  refine j_aload_n dX0_copyFrom_220 rfl ?_
  refine j_aload_n dX0_copyFrom_221 rfl ?_
  refine j_get dX0_copyFrom_222 fX0_84 (aB_S0 hC) (aB_l0 hC) (zb_k0 hB hC hne hu (by unfold tI; decide)) ?_
  refine j_put dX0_copyFrom_225 fX0_84 (aB_S0 hB) (aB_l0 hB) (rfl) ?_
  rw [zb_wr0 (k := 16) (by unfold tI; decide)]
  refine j_vret dX0_copyFrom_228 rfl ?_
  exact hR _ _ ⟨rfl, rfl⟩
set_option maxRecDepth 4000 in
set_option maxHeartbeats 2000000 in
theorem c_cp3b {g : zH} {B : Nat} (hB : aB B) {v : Nat → Nat → Int32} {p : Nat → Nat} {C : Nat} (hC : aB C) (hne : ¬ B = C) {u : Nat → Nat → Int32} {q : Nat → Nat} (hu : zBk g C u q) (hP : AP p) (hz : AZ v) {s : Nat → Int32} {N W K : Nat} (hA : AR u q s N W K) (hI : aIa s N W) (hK : s 210 = nI K) {y : Value} {X : Nat × (Nat → Int32)} {R : zQt} (kk : ∀ y : Value, zJ X mX0_copyFrom (215 + nz) 117 [.ref B, .ref C, y] [] (215 + nz) (gAu g B (cLo (up2 v 0 7 (u 0 7)) u p q 8 K) p) R) : zJ X mX0_copyFrom (215 + nz) 78 [.ref B, .ref C, y] [] (215 + nz) (gAu g B v p) R := by
  have hN := hA.1
  have hQ := hA.2.1
  have hy := hA.2.2.1
  refine j_aload_n dX0_copyFrom_78 rfl ?_
  refine j_aload_n dX0_copyFrom_79 rfl ?_
  refine j_get dX0_copyFrom_80 fX0_53 (aB_S0 hC) (aB_l0 hC) (zb_k0 hB hC hne hu (by unfold tI; decide)) ?_
  refine j_put dX0_copyFrom_83 fX0_53 (aB_S0 hB) (aB_l0 hB) (rfl) ?_
  rw [zb_wr0 (k := 7) (by unfold tI; decide)]
  refine j_iconst (v := 0) dX0_copyFrom_86 (by first | decide | omega) ?_
  refine j_istore_n dX0_copyFrom_87 (by first | decide | omega) ?_
  exact c_cp3 hB hC hne hu hP hQ hy hN.2.2 (up2_s.trans ((ar_s hA 0 7 (by first | decide | omega)).trans hK)) K 0 (by omega) kk
set_option maxRecDepth 4000 in
set_option maxHeartbeats 2000000 in
theorem c_cp2b {g : zH} {B : Nat} (hB : aB B) {v : Nat → Nat → Int32} {p : Nat → Nat} {C : Nat} (hC : aB C) (hne : ¬ B = C) {u : Nat → Nat → Int32} {q : Nat → Nat} (hu : zBk g C u q) (hP : AP p) (hz : AZ v) {s : Nat → Int32} {N W K : Nat} (hA : AR u q s N W K) (hI : aIa s N W) (hK : s 210 = nI K) {y : Value} {X : Nat × (Nat → Int32)} {R : zQt} (kk : ∀ y : Value, zJ X mX0_copyFrom (215 + nz) 78 [.ref B, .ref C, y] [] (215 + nz) (gAu g B (cLo (up2 v 0 6 (u 0 6)) u p q 0 W) p) R) : zJ X mX0_copyFrom (215 + nz) 39 [.ref B, .ref C, y] [] (215 + nz) (gAu g B v p) R := by
  have hN := hA.1
  have hQ := hA.2.1
  have hy := hA.2.2.1
  refine j_aload_n dX0_copyFrom_39 rfl ?_
  refine j_aload_n dX0_copyFrom_40 rfl ?_
  refine j_get dX0_copyFrom_41 fX0_47 (aB_S0 hC) (aB_l0 hC) (zb_k0 hB hC hne hu (by unfold tI; decide)) ?_
  refine j_put dX0_copyFrom_44 fX0_47 (aB_S0 hB) (aB_l0 hB) (rfl) ?_
  rw [zb_wr0 (k := 6) (by unfold tI; decide)]
  refine j_iconst (v := 0) dX0_copyFrom_47 (by first | decide | omega) ?_
  refine j_istore_n dX0_copyFrom_48 (by first | decide | omega) ?_
  exact c_cp2 hB hC hne hu hP hQ hy hN.2.1 (up2_s.trans ((ar_s hA 0 6 (by first | decide | omega)).trans hI.2.1.1)) W 0 (by omega) kk
set_option maxRecDepth 4000 in
set_option maxHeartbeats 2000000 in
theorem c_cp1b {g : zH} {B : Nat} (hB : aB B) {v : Nat → Nat → Int32} {p : Nat → Nat} {C : Nat} (hC : aB C) (hne : ¬ B = C) {u : Nat → Nat → Int32} {q : Nat → Nat} (hu : zBk g C u q) (hP : AP p) (hz : AZ v) {s : Nat → Int32} {N W K : Nat} (hA : AR u q s N W K) (hI : aIa s N W) (hK : s 210 = nI K) {y : Value} {X : Nat × (Nat → Int32)} {R : zQt} (kk : ∀ y : Value, zJ X mX0_copyFrom (215 + nz) 39 [.ref B, .ref C, y] [] (215 + nz) (gAu g B (cB (up2 v 0 5 (u 0 5)) u N) p) R) : zJ X mX0_copyFrom (215 + nz) 0 [.ref B, .ref C, y] [] (215 + nz) (gAu g B v p) R := by
  have hN := hA.1
  have hQ := hA.2.1
  have hy := hA.2.2.1
  refine j_aload_n dX0_copyFrom_0 rfl ?_
  refine j_aload_n dX0_copyFrom_1 rfl ?_
  refine j_get dX0_copyFrom_2 fX0_39 (aB_S0 hC) (aB_l0 hC) (zb_k0 hB hC hne hu (by unfold tI; decide)) ?_
  refine j_put dX0_copyFrom_5 fX0_39 (aB_S0 hB) (aB_l0 hB) (rfl) ?_
  rw [zb_wr0 (k := 5) (by unfold tI; decide)]
  refine j_iconst (v := 0) dX0_copyFrom_8 (by first | decide | omega) ?_
  refine j_istore_n dX0_copyFrom_9 (by first | decide | omega) ?_
  exact c_cp1 hB hC hne hu hP hQ hy hN.1 (up2_s.trans ((ar_s hA 0 5 (by first | decide | omega)).trans hI.1.1)) N 0 (by omega) kk
theorem c_copy {g : zH} {B : Nat} (hB : aB B) {v : Nat → Nat → Int32} {p : Nat → Nat} {C : Nat} (hC : aB C) (hne : ¬ B = C) {u : Nat → Nat → Int32} {q : Nat → Nat} (hu : zBk g C u q) (hP : AP p) (hz : AZ v) {s : Nat → Int32} {N W K : Nat} (hA : AR u q s N W K) (hI : aIa s N W) (hK : s 210 = nI K) : zCT mX0_copyFrom [.ref B, .ref C] (215 + nz) (gAu g B v p) (215 + nz) (fun r h' => r = none ∧ ∃ v', h' = gAu g B v' p ∧ AR v' p s N W K) := by
  intro X R hR
  have hN := hA.1
  have z0 : ∀ w, AZ w → AZ w := fun _ h => h
  refine c_cp1b hB hC hne hu hP hz hA hI hK (fun y => ?_)
  have nL : ∀ o, aL o → o ≠ 0 ∧ ¬ (2 ≤ o ∧ o < 14) := fun o ho => by unfold aL at ho; omega
  have z1 : AZ (cB (up2 v 0 5 (u 0 5)) u N) := fun o ho => by
    have e := nL o ho
    rw [cB_at, cB_at, if_neg (by omega), if_neg (by omega), up2_n (fun e1 _ => e.1 e1), up2_n (fun e1 _ => e.1 e1)]
    exact hz o ho
  have zu : ∀ w k x, AZ w → AZ (up2 w 0 k x) := fun w k x h o ho => by
    have e := nL o ho
    rw [up2_n (fun e1 _ => e.1 e1), up2_n (fun e1 _ => e.1 e1)]
    exact h o ho
  refine c_cp2b hB hC hne hu hP z1 hA hI hK (fun y => ?_)
  have z2 := cLo_z (p := p) (q := q) (m := 0) (zu _ 6 (u 0 6) z1) hA.2.2.1 hA.2.1 W (by omega)
  refine c_cp3b hB hC hne hu hP z2 hA hI hK (fun y => ?_)
  have z3 := cLo_z (p := p) (q := q) (m := 8) (zu _ 7 (u 0 7) z2) hA.2.2.1 hA.2.1 K (by omega)
  exact c_cp4 hB hC hne hu hP z3 hA hI hK (fun r h' e => hR r h' ⟨e.1, _, e.2, ar_cy hA hP hz⟩)
theorem c_coughT {g : zH} {B : Nat} (hB : aB B) {v : Nat → Nat → Int32} {p : Nat → Nat} {s : Nat → Int32} {N W K : Nat} (hA : AR v p s N W K) (hI : aIa s N W) (hK : s 210 = nI K) {b : Int32} : zCT mX0_takeCough [.ref B, .int b, .int 0] (215 + nz) (gAu g B v p) (215 + nz) (fun r h' => ∃ v' p', r = some ((aCough s b).1) ∧ h' = gAu g B v' p' ∧ AT v' p' ((aCough s b).2.2)) := (c_cough hB hA hI hK (c := 0) (Or.inl rfl)).to (fun r h' q => by
  obtain ⟨e1, v1, p1, K1, e2, e3, e4⟩ := q
  have e : ((aCough s b).1, (aCough s b).2.2) = if aIs s b = 0 then (-1000001, s) else aCgh s b.toNatClampNeg 0 := by
    unfold aCough
    by_cases h : aIs s b = 0
    · rw [if_pos h, if_pos h]
    · rw [if_neg h, if_neg h]
  rw [← e] at e1 e3 e4
  have hi : aIa (aCough s b).2.2 N W := by
    unfold aCough
    by_cases h : aIs s b = 0
    · rw [if_pos h]
      exact hI
    · rw [if_neg h]
      obtain ⟨k, hk, rfl, hb2⟩ := aIs_nat hI.1.1 hA.1.1 h
      rw [hb2]
      exact (aIa_cgh hI hk).1
  exact ⟨v1, p1, e1, e2, AT_mk e4 hi e3⟩)
theorem aNn_eq {s : Nat → Int32} {N W : Nat} (hI : aIa s N W) : aNn s = N := by
  show (s 199).toNatClampNeg = N
  rw [hI.1.1, z_cl (by have := hI.1.2; omega)]
theorem aWn_eq {s : Nat → Int32} {N W : Nat} (hI : aIa s N W) : aWn s = W := by
  show (s 200).toNatClampNeg = W
  rw [hI.2.1.1, z_cl (by have := hI.2.1.2; omega)]
