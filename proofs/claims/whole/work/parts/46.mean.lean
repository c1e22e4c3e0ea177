-- the mean's bits
section FM
theorem fit32 {c : Nat} {q : Int} (h1 : 8388608 ≤ c) (h2 : c < 16777216) (h3 : -149 ≤ q) (h4 : q ≤ 104) : FP.Core.fits FP.Core.b32 (.fin false c q) := by
  refine ⟨?_, ?_, ?_, Or.inr ?_⟩
  · show c < 2 ^ 24
    omega
  · show FP.Core.Fmt.qmin FP.Core.b32 ≤ q
    have : FP.Core.Fmt.qmin FP.Core.b32 = -149 := by decide
    omega
  · show q ≤ FP.Core.Fmt.qmax FP.Core.b32
    have : FP.Core.Fmt.qmax FP.Core.b32 = 104 := by decide
    omega
  · show FP.Core.Fmt.tails FP.Core.b32 ≤ c
    have : FP.Core.Fmt.tails FP.Core.b32 = 8388608 := by decide
    omega
/-- a number's leading digit brought to its place -/
theorem norm_ex {n : Nat} (h0 : 0 < n) (h : n < 16777216) : ∃ k : Nat, k ≤ 23 ∧ 8388608 ≤ n * 2 ^ k ∧ n * 2 ^ k < 16777216 := by
  have hl : n.log2 ≤ 23 := by
    have := (Nat.log2_lt (by omega : n ≠ 0) (k := 24)).mpr (by omega)
    omega
  have h1 := Nat.log2_self_le (by omega : n ≠ 0)
  have h2 := Nat.lt_log2_self (n := n)
  refine ⟨23 - n.log2, by omega, ?_, ?_⟩
  · have e : 2 ^ n.log2 * 2 ^ (23 - n.log2) = 8388608 := by
      rw [← Nat.pow_add, show n.log2 + (23 - n.log2) = 23 by omega]
    have := Nat.mul_le_mul_right (2 ^ (23 - n.log2)) h1
    omega
  · have e : 2 ^ (n.log2 + 1) * 2 ^ (23 - n.log2) = 16777216 := by
      rw [← Nat.pow_add, show n.log2 + 1 + (23 - n.log2) = 24 by omega]
    have := Nat.mul_lt_mul_of_pos_right h2 (Nat.two_pow_pos (23 - n.log2))
    omega
theorem round_n {n k : Nat} {q : Int} (hk : k ≤ 23) (h1 : 8388608 ≤ n * 2 ^ k) (h2 : n * 2 ^ k < 16777216) (hq : -100 ≤ q) (hq2 : q ≤ 100) : FP.Core.roundRatio FP.Core.b32 false n 1 q = .fin false (n * 2 ^ k) (q - k) := by
  refine FP.Core.roundRatio_exact FP.Core.good_b32 (by decide) (fit32 h1 h2 (by omega) (by omega)) ?_
  rw [show (q - (q - (k : Int))).toNat = k by omega, show (q - (k : Int) - q).toNat = 0 by omega]
  omega
theorem i2f_n {n : Nat} (h0 : 0 < n) (h : n < 16777216) : ∃ k : Nat, k ≤ 23 ∧ FP.Core.val32 (FP.i2f (nI n)) = .fin false (n * 2 ^ k) (0 - (k : Int)) ∧ 8388608 ≤ n * 2 ^ k := by
  obtain ⟨k, h1, h2, h3⟩ := norm_ex h0 h
  refine ⟨k, h1, ?_, h2⟩
  show FP.Core.val32 (FP.Core.i2f (nI n)) = _
  rw [FP.Core.val32_i2f, nI_toInt (by omega)]
  have e : FP.Core.ofInt (n : Int) = .fin false n 0 := by
    unfold FP.Core.ofInt
    rw [decide_eq_false (by omega), Int.natAbs_natCast]
  rw [e]
  exact round_n h1 h2 h3 (by omega) (by omega)
/-- the quotient: from 1 on, below 2 to the 15 -/
theorem div_n {a b : Nat} (hb : 0 < b) (hab : b ≤ a) (ha : a < 16384) : ∃ c E : Nat, E ≤ 14 ∧ 8388608 ≤ c ∧ c < 16777216 ∧ FP.Core.val32 (FP.fdiv (FP.i2f (nI a)) (FP.i2f (nI b))) = .fin false c ((E : Int) - 23) := by
  obtain ⟨ka, a1, a2, a3⟩ := i2f_n (n := a) (by omega) (by omega)
  obtain ⟨kb, b1, b2, b3⟩ := i2f_n (n := b) hb (by omega)
  have e1 : FP.Core.val32 (FP.fdiv (FP.i2f (nI a)) (FP.i2f (nI b))) = FP.Core.roundRatio FP.Core.b32 false a b 0 := by
    show FP.Core.val32 (FP.Core.fdiv (FP.i2f (nI a)) (FP.i2f (nI b))) = _
    rw [FP.Core.val32_fdiv, a2, b2]
    show (if b * 2 ^ kb = 0 then (if a * 2 ^ ka = 0 then FP.Core.Datum.nan else .inf (false != false)) else FP.Core.roundRatio FP.Core.b32 (false != false) (a * 2 ^ ka) (b * 2 ^ kb) ((0 : Int) - ka - (0 - kb))) = _
    rw [if_neg (by omega)]
    refine FP.Core.roundRatio_congr (by omega) hb ?_
    have e : 2 ^ ka * 2 ^ ((0 : Int) - ka - (0 - kb) - 0).toNat = 2 ^ kb * 2 ^ ((0 : Int) - (0 - ka - (0 - kb))).toNat := by
      rw [← Nat.pow_add, ← Nat.pow_add]
      exact congrArg (fun x => 2 ^ x) (by omega)
    calc a * 2 ^ ka * b * 2 ^ ((0 : Int) - ka - (0 - kb) - 0).toNat = a * b * (2 ^ ka * 2 ^ ((0 : Int) - ka - (0 - kb) - 0).toNat) := by
          rw [Nat.mul_right_comm a (2 ^ ka) b, Nat.mul_assoc]
      _ = a * b * (2 ^ kb * 2 ^ ((0 : Int) - (0 - ka - (0 - kb))).toNat) := by rw [e]
      _ = a * (b * 2 ^ kb) * 2 ^ ((0 : Int) - (0 - ka - (0 - kb))).toNat := by rw [← Nat.mul_assoc, Nat.mul_assoc a b]
  rw [e1]
  -- the leading digit
  have hd0 : 0 < a / b := Nat.div_pos hab hb
  have hd1 : a / b < 16384 := Nat.lt_of_le_of_lt (Nat.div_le_self a b) ha
  have l1 := Nat.log2_self_le (by omega : a / b ≠ 0)
  have l2 := Nat.lt_log2_self (n := a / b)
  have l3 : (a / b).log2 ≤ 13 := by
    have := (Nat.log2_lt (by omega : a / b ≠ 0) (k := 14)).mpr (by omega)
    omega
  generalize hL : (a / b).log2 = L at *
  have m1 : 2 ^ L * b ≤ a := (Nat.le_div_iff_mul_le hb).mp l1
  have m2 : a < 2 ^ (L + 1) * b := (Nat.div_lt_iff_lt_mul hb).mp l2
  have hq : FP.Core.quantum FP.Core.b32 a b 0 = (L : Int) - 23 := by
    refine FP.Core.quantum_eq (by omega) hb ?_ ?_ (Or.inr ?_)
    · have : FP.Core.Fmt.qmin FP.Core.b32 = -149 := by decide
      omega
    · have : ((L : Int) - 23 - 0 + ((FP.Core.b32.p : Nat) : Int)) = ((L + 1 : Nat) : Int) - ((0 : Nat) : Int) := by
        show (L : Int) - 23 - 0 + ((24 : Nat) : Int) = _
        omega
      rw [this, FP.Core.below_iff]
      rw [Nat.pow_zero, Nat.mul_one, Nat.mul_comm]
      exact m2
    · have : ((L : Int) - 23 - 0 + (((FP.Core.b32.p : Nat) : Int) - 1)) = ((L : Nat) : Int) - ((0 : Nat) : Int) := by
        show (L : Int) - 23 - 0 + (((24 : Nat) : Int) - 1) = _
        omega
      rw [this, FP.Core.below_iff]
      rw [Nat.pow_zero, Nat.mul_one, Nat.mul_comm b]
      omega
  unfold FP.Core.roundRatio
  rw [if_neg (by omega), hq]
  unfold FP.Core.roundAt FP.Core.unitsNum FP.Core.unitsDen
  rw [show ((0 : Int) - ((L : Int) - 23)).toNat = 23 - L by omega, show ((L : Int) - 23 - 0).toNat = 0 by omega, Nat.pow_zero, Nat.mul_one]
  have p1 : 2 ^ L * 2 ^ (23 - L) = 8388608 := by rw [← Nat.pow_add, show L + (23 - L) = 23 by omega]
  have p2 : 2 ^ (L + 1) * 2 ^ (23 - L) = 16777216 := by rw [← Nat.pow_add, show L + 1 + (23 - L) = 24 by omega]
  have n1 : 8388608 ≤ FP.Core.nearest (a * 2 ^ (23 - L)) b := FP.Core.nearest_ge hb (by
    have := Nat.mul_le_mul_right (2 ^ (23 - L)) m1
    rw [Nat.mul_right_comm, p1] at this
    exact this)
  have n2 : FP.Core.nearest (a * 2 ^ (23 - L)) b ≤ 16777216 := FP.Core.nearest_le hb (by
    have := Nat.mul_le_mul_right (2 ^ (23 - L)) (Nat.le_of_lt m2)
    rw [Nat.mul_right_comm, p2] at this
    exact this)
  generalize FP.Core.nearest (a * 2 ^ (23 - L)) b = c at *
  have hqm : FP.Core.Fmt.qmax FP.Core.b32 = 104 := by decide
  unfold FP.Core.settle FP.Core.bound
  by_cases h : c < 2 ^ FP.Core.b32.p
  · have h' : c < 16777216 := h
    rw [if_pos h, if_pos (by omega)]
    exact ⟨c, L, by omega, n1, h', rfl⟩
  · rw [if_neg h, if_pos (by omega)]
    refine ⟨8388608, L + 1, by omega, by omega, by omega, ?_⟩
    have : FP.Core.Fmt.tails FP.Core.b32 = 8388608 := by decide
    rw [this]
    congr 1
    omega
theorem v_1 : FP.Core.val32 1065353216 = .fin false 8388608 (-23) := by decide +kernel
theorem v_2 : FP.Core.val32 1073741824 = .fin false 8388608 (-22) := by decide +kernel
theorem v_K : FP.Core.val32 1258291200 = .fin false 8388608 0 := by decide +kernel
theorem half_n {r : UInt32} {c E : Nat} (h1 : 8388608 ≤ c) (h2 : c < 16777216) (hE : E ≤ 14) (hr : FP.Core.val32 r = .fin false c ((E : Int) + 1 - 23)) : FP.Core.val32 (FP.fdiv r 1073741824) = .fin false c ((E : Int) - 23) := by
  show FP.Core.val32 (FP.Core.fdiv r 1073741824) = _
  rw [FP.Core.val32_fdiv, hr, v_2]
  show (if (8388608 : Nat) = 0 then (if c = 0 then FP.Core.Datum.nan else .inf (false != false)) else FP.Core.roundRatio FP.Core.b32 (false != false) c 8388608 ((E : Int) + 1 - 23 - -22)) = _
  rw [if_neg (by decide)]
  refine FP.Core.roundRatio_exact FP.Core.good_b32 (by decide) (fit32 h1 h2 (by omega) (by omega)) ?_
  rw [show ((E : Int) + 1 - 23 - -22 - ((E : Int) - 23)).toNat = 23 by omega, show ((E : Int) - 23 - ((E : Int) + 1 - 23 - -22)).toNat = 0 by omega]
  omega
theorem cmp_n {r : UInt32} {c E : Nat} (h1 : 8388608 ≤ c) (h2 : c < 16777216) (hE : E ≤ 15) (hr : FP.Core.val32 r = .fin false c ((E : Int) - 23)) : (Op.cmpValue (FP.fcmp r 1073741824) .l < 0 ↔ E = 0) := by
  have e : FP.fcmp r 1073741824 = FP.Core.order (.fin false c ((E : Int) - 23)) (.fin false 8388608 (-22)) := by
    show FP.Core.order (FP.Core.val32 r) (FP.Core.val32 1073741824) = _
    rw [hr, v_2]
  rw [e]
  show (Op.cmpValue (some (compare (((c * 2 ^ ((E : Int) - 23 - min ((E : Int) - 23) (-22)).toNat : Nat)) : Int) (((8388608 * 2 ^ ((-22 : Int) - min ((E : Int) - 23) (-22)).toNat : Nat)) : Int))) .l < 0 ↔ E = 0)
  by_cases h0 : E = 0
  · subst h0
    have m : min (((0 : Nat) : Int) - 23) (-22) = -23 := by decide
    rw [m, show (((0 : Nat) : Int) - 23 - -23).toNat = 0 by decide, show ((-22 : Int) - -23).toNat = 1 by decide, Nat.pow_zero, Nat.mul_one]
    have : compare (c : Int) ((8388608 * 2 ^ 1 : Nat) : Int) = .lt := by
      rw [Int.compare_eq_lt]
      omega
    rw [this]
    decide
  · have m : min ((E : Int) - 23) (-22) = -22 := by omega
    rw [m, show ((-22 : Int) - -22).toNat = 0 by decide, Nat.pow_zero, Nat.mul_one]
    have hp := Nat.two_pow_pos ((E : Int) - 23 - -22).toNat
    have hge : 8388608 ≤ c * 2 ^ ((E : Int) - 23 - -22).toNat := Nat.le_trans h1 (Nat.le_mul_of_pos_right _ hp)
    generalize c * 2 ^ ((E : Int) - 23 - -22).toNat = d at *
    have : compare (d : Int) ((8388608 : Nat) : Int) ≠ .lt := by
      intro q
      rw [Int.compare_eq_lt] at q
      omega
    cases hc : compare (d : Int) ((8388608 : Nat) : Int)
    · exact absurd hc this
    · exact ⟨fun q => absurd q (by decide), fun q => absurd q h0⟩
    · exact ⟨fun q => absurd q (by decide), fun q => absurd q h0⟩
theorem sub_u {m : Nat} : FP.Core.sumUnits false (m + 8388608) (-23) true 8388608 (-23) (-23) = (m : Int) := by
  unfold FP.Core.sumUnits FP.Core.signed FP.Core.inUnits
  rw [if_neg (by decide), if_pos rfl, show ((-23 : Int) - -23).toNat = 0 by decide, Nat.pow_zero, Nat.mul_one, Nat.mul_one]
  omega
theorem sub_s {m : Nat} : FP.Core.sumSign false true (m : Int) = false := by
  unfold FP.Core.sumSign
  split
  · rfl
  · exact decide_eq_false (by omega)
theorem sub_e {m : Nat} : FP.Core.exactSum (.fin false (m + 8388608) (-23)) (FP.Core.negate (.fin false 8388608 (-23))) = .fin false m (-23) := by
  have h : ∀ c : Nat, FP.Core.exactSum (.fin false c (-23)) (FP.Core.negate (.fin false 8388608 (-23))) = .fin (FP.Core.sumSign false true (FP.Core.sumUnits false c (-23) true 8388608 (-23) (-23))) (FP.Core.sumUnits false c (-23) true 8388608 (-23) (-23)).natAbs (-23) := fun _ => rfl
  rw [h, sub_u, sub_s, Int.natAbs_natCast]
theorem sub_n {r : UInt32} {m : Nat} (hr : FP.Core.val32 r = .fin false (m + 8388608) (-23)) : FP.Core.val32 (FP.fsub r 1065353216) = FP.Core.roundRatio FP.Core.b32 false m 1 (-23) := by
  have h := FP.Core.val32_fsub r 1065353216
  rw [hr, v_1, sub_e] at h
  exact h
theorem mul_e {m : Nat} {q : Int} : FP.Core.round FP.Core.b32 (FP.Core.exactProduct (.fin false m q) (.fin false 8388608 0)) = FP.Core.roundRatio FP.Core.b32 false (m * 8388608) 1 (q + 0) := by
  have h : ∀ d : Nat, FP.Core.round FP.Core.b32 (FP.Core.exactProduct (.fin false m q) (.fin false d 0)) = FP.Core.roundRatio FP.Core.b32 false (m * d) 1 (q + 0) := fun _ => rfl
  exact h _
theorem f2i_e {x : UInt32} {c : Nat} {q : Int} (h : FP.Core.val32 x = .fin false c q) : FP.f2i x = Int32.ofInt (max (-2 ^ 31) (min (2 ^ 31 - 1) (FP.Core.truncate false c q))) := by
  show FP.Core.toI (FP.Core.val32 x) = _
  rw [h]
  rfl
theorem tr_e {m k : Nat} : FP.Core.truncate false (m * 2 ^ k) (0 - (k : Int)) = (m : Int) := by
  unfold FP.Core.truncate FP.Core.signed
  rw [if_neg (by decide), show ((0 : Int) - k).toNat = 0 by omega, show (-((0 : Int) - k)).toNat = k by omega, Nat.pow_zero, Nat.mul_one, Nat.mul_div_cancel _ (Nat.two_pow_pos k)]
theorem ofI_e {m : Nat} (hm : m < 8388608) : Int32.ofInt (max (-2 ^ 31) (min (2 ^ 31 - 1) (m : Int))) = nI m := by
  have : max (-2 ^ 31 : Int) (min (2 ^ 31 - 1) (m : Int)) = (m : Int) := by omega
  rw [this]
  rfl
theorem fin_nn {s : Bool} {c : Nat} {q : Int} : (FP.Core.Datum.fin s c q) ≠ .nan := fun h => by cases h
/-- what is above 1, as a whole number of the last digit -/
theorem frac_n {r : UInt32} {m : Nat} (h2 : m < 8388608) (hr : FP.Core.val32 r = .fin false (m + 8388608) (-23)) : FP.Core.val32 (FP.fsub r 1065353216) ≠ .nan ∧ FP.Core.val32 (FP.fmul (FP.fsub r 1065353216) 1258291200) ≠ .nan ∧ FP.f2i (FP.fmul (FP.fsub r 1065353216) 1258291200) = nI m := by
  have e1 := sub_n hr
  have hq : FP.Core.Fmt.qmin FP.Core.b32 = -149 := by decide
  by_cases hm : m = 0
  · subst hm
    have e2 : FP.Core.val32 (FP.fsub r 1065353216) = .fin false 0 (-149) := by
      rw [e1]
      unfold FP.Core.roundRatio
      rw [if_pos rfl, hq]
    have e3 : FP.Core.val32 (FP.fmul (FP.fsub r 1065353216) 1258291200) = .fin false 0 (-149) := by
      have h := FP.Core.val32_fmul (FP.fsub r 1065353216) 1258291200
      rw [e2, v_K, mul_e] at h
      refine h.trans ?_
      unfold FP.Core.roundRatio
      rw [if_pos (Nat.zero_mul _), hq]
    refine ⟨by rw [e2]; exact fin_nn, by rw [e3]; exact fin_nn, ?_⟩
    rw [f2i_e e3]
    decide
  · obtain ⟨k, k1, k2, k3⟩ := norm_ex (n := m) (by omega) (by omega)
    have e2 : FP.Core.val32 (FP.fsub r 1065353216) = .fin false (m * 2 ^ k) (-23 - k) := e1.trans (round_n k1 k2 k3 (by omega) (by omega))
    have e3 : FP.Core.val32 (FP.fmul (FP.fsub r 1065353216) 1258291200) = .fin false (m * 2 ^ k) (0 - k) := by
      have h := FP.Core.val32_fmul (FP.fsub r 1065353216) 1258291200
      rw [e2, v_K, mul_e] at h
      refine h.trans ?_
      refine FP.Core.roundRatio_exact FP.Core.good_b32 (by decide) (fit32 k2 k3 (by omega) (by omega)) ?_
      rw [show (-23 - (k : Int) + 0 - (0 - (k : Int))).toNat = 0 by omega, show ((0 : Int) - k - (-23 - k + 0)).toNat = 23 by omega, Nat.pow_zero, Nat.mul_one, Nat.mul_one]
    refine ⟨by rw [e2]; exact fin_nn, by rw [e3]; exact fin_nn, ?_⟩
    rw [f2i_e e3, tr_e, ofI_e h2]
theorem shl23 : ∀ n : Nat, n < 256 → (nI n <<< ((23 : Int32) &&& 31)) = nI (n * 8388608) := by decide +kernel
/-- the bits of such a number -/
theorem bits_n {r : UInt32} {c E : Nat} (h1 : 8388608 ≤ c) (h2 : c < 16777216) (hE : E ≤ 15) (hr : FP.Core.val32 r = .fin false c ((E : Int) - 23)) : r.toInt32 = nI ((127 + E) * 8388608) + nI (c - 8388608) := by
  have e := FP.Core.of32_val32 (a := r) (by rw [hr]; exact fun q => (by cases q))
  rw [← e, hr]
  have ht : FP.Core.Fmt.tails FP.Core.b32 = 8388608 := by decide
  have hq : FP.Core.Fmt.qmin FP.Core.b32 = -149 := by decide
  have hx : FP.Core.Fmt.exps FP.Core.b32 = 256 := by decide
  have e2 : FP.Core.encode FP.Core.b32 (.fin false c ((E : Int) - 23)) = (127 + E) * 8388608 + (c - 8388608) := by
    unfold FP.Core.encode FP.Core.assemble
    rw [ht, hq, hx]
    show (if c < 8388608 then (false.toNat * 256 + 0) * 8388608 + c else (false.toNat * 256 + (((E : Int) - 23 - -149).toNat + 1)) * 8388608 + (c - 8388608)) = _
    rw [if_neg (by omega), show ((E : Int) - 23 - -149).toNat = 126 + E by omega]
    show (0 * 256 + (126 + E + 1)) * 8388608 + (c - 8388608) = _
    omega
  show (FP.Core.of32 (.fin false c ((E : Int) - 23))).toInt32 = _
  unfold FP.Core.of32
  rw [e2, nI_add]
  rfl
end FM