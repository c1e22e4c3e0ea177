variable {nz : Nat}
-- bits
def bC1 (x : Int32) : Int32 := x - ((Int32.toUInt32 (x) >>> (Int32.toUInt32 1 &&& Int32.toUInt32 31)).toInt32 &&& 1431655765)
def bC2 (x : Int32) : Int32 := (x &&& 858993459) + ((Int32.toUInt32 (x) >>> (Int32.toUInt32 2 &&& Int32.toUInt32 31)).toInt32 &&& 858993459)
def bC3 (x : Int32) : Int32 := (x + (Int32.toUInt32 (x) >>> (Int32.toUInt32 4 &&& Int32.toUInt32 31)).toInt32) &&& 252645135
def bC4 (x : Int32) : Int32 := x + (Int32.toUInt32 (x) >>> (Int32.toUInt32 8 &&& Int32.toUInt32 31)).toInt32
def bC5 (x : Int32) : Int32 := x + (Int32.toUInt32 (x) >>> (Int32.toUInt32 16 &&& Int32.toUInt32 31)).toInt32
def bC (x : Int32) : Int32 := bC5 (bC4 (bC3 (bC2 (bC1 x)))) &&& 63
set_option maxRecDepth 20000 in
theorem bC_pop : ∀ v, v < 4096 → bC (nI v) = nI (aPop 12 v) := by decide +kernel
theorem j_ldcw {X : Nat × (Nat → Int32)} {M : zM} {n0 pc : Nat} {ls st : List Value} {nx : Nat} {h : zH} {Q : zQt} {i : Nat} {v : Int32} (hd : decode (zMb M) pc = .ok (.ldc_w i, 3)) (hc : Cond.constant (zMo M) i v ∈ zWd) (kk : zJ X M n0 (pc + 3) ls (.int v :: st) nx h Q) : zJ X M n0 pc ls (st) nx h Q := by
  intro p l e R s m args below meth c D cA b z H locs Qm la C hX hl hw hS hend
  exact lv_ldcw C.1 C.2.1 C.2.2.2.1 (C.2.2.2.2.2.1 _ hc) hd (kk p l e R s m args below meth c D cA b z H locs Qm la C hX hl hw hS hend)
theorem z_am : ∀ k : Nat, k < 12 → (((nI k &&& 31).toBitVec).smod 32).toNat = k := by decide +kernel
theorem z_sar {a k : Nat} (ha : a < 2147483648) (hk : k < 12) : nI a >>> (nI k &&& 31) = nI (a / 2 ^ k) := by
  apply Int32.toInt_inj.mp
  have e : (nI a >>> (nI k &&& 31)).toInt = (nI a).toInt >>> k := by
    show ((nI a >>> (nI k &&& 31)).toBitVec).toInt = _
    rw [Int32.toBitVec_shiftRight]
    unfold BitVec.sshiftRight'
    rw [BitVec.toInt_sshiftRight, z_am k hk]
    rfl
  have e1 : (nI a).toInt = (a : Int) := by
    exact Int32.toInt_ofNat_of_lt (by omega)
  have e2 : (nI (a / 2 ^ k)).toInt = ((a / 2 ^ k : Nat) : Int) := by
    exact Int32.toInt_ofNat_of_lt (by have := Nat.div_le_self a (2 ^ k); omega)
  rw [e, e1, e2, Int.shiftRight_eq_div_pow]
  simp
theorem z_and (a b : Nat) : nI a &&& nI b = nI (a &&& b) := by
  apply Int32.toBitVec_inj.mp
  show BitVec.ofNat 32 a &&& BitVec.ofNat 32 b = BitVec.ofNat 32 (a &&& b)
  simp [BitVec.ofNat_and]
theorem z_and1 {a : Nat} : nI a &&& 1 = nI (a % 2) := by
  have := z_and a 1
  rw [Nat.and_one_is_mod] at this
  exact this
theorem z_bit {a k : Nat} (ha : a < 4096) (hk : k < 12) : (nI a >>> (nI k &&& 31)) &&& 1 = 1 ↔ a.testBit k = true := by
  rw [z_sar (by omega) hk, z_and1, Nat.testBit_eq_decide_div_mod_eq, decide_eq_true_iff]
  have h := Nat.mod_two_eq_zero_or_one (a / 2 ^ k)
  rcases h with h | h
  · rw [h]
    decide
  · rw [h]
    decide
set_option maxRecDepth 4000 in
set_option maxHeartbeats 2000000 in
theorem c_bitCount {h : zH} {x : Int32} : zCT mJ6_bitCount_0f7a4 [.int x] (215 + nz) h (215 + nz) (fun r h' => r = some (bC x) ∧ h' = h) := by
  intro X Q hQ
  show zJ X mJ6_bitCount_0f7a4 (215 + nz) 0 [.int x] [] (215 + nz) h Q
  refine j_iload_n dJ6_bitCount_0f7a4_0 rfl ?_
  refine j_iload_n dJ6_bitCount_0f7a4_1 rfl ?_
  refine j_iconst (v := 1) dJ6_bitCount_0f7a4_2 (by first | decide | omega) ?_
  refine j_iushr dJ6_bitCount_0f7a4_3 ?_
  refine j_ldcw (v := (1431655765)) dJ6_bitCount_0f7a4_4 cJ6_265 ?_
  refine j_iand dJ6_bitCount_0f7a4_7 ?_
  refine j_isub dJ6_bitCount_0f7a4_8 ?_
  refine j_istore_n dJ6_bitCount_0f7a4_9 (by first | decide | omega) ?_
  refine j_iload_n dJ6_bitCount_0f7a4_10 rfl ?_
  refine j_ldcw (v := (858993459)) dJ6_bitCount_0f7a4_11 cJ6_266 ?_
  refine j_iand dJ6_bitCount_0f7a4_14 ?_
  refine j_iload_n dJ6_bitCount_0f7a4_15 rfl ?_
  refine j_iconst (v := 2) dJ6_bitCount_0f7a4_16 (by first | decide | omega) ?_
  refine j_iushr dJ6_bitCount_0f7a4_17 ?_
  refine j_ldcw (v := (858993459)) dJ6_bitCount_0f7a4_18 cJ6_266 ?_
  refine j_iand dJ6_bitCount_0f7a4_21 ?_
  refine j_iadd dJ6_bitCount_0f7a4_22 ?_
  refine j_istore_n dJ6_bitCount_0f7a4_23 (by first | decide | omega) ?_
  refine j_iload_n dJ6_bitCount_0f7a4_24 rfl ?_
  refine j_iload_n dJ6_bitCount_0f7a4_25 rfl ?_
  refine j_iconst (v := 4) dJ6_bitCount_0f7a4_26 (by first | decide | omega) ?_
  refine j_iushr dJ6_bitCount_0f7a4_27 ?_
  refine j_iadd dJ6_bitCount_0f7a4_28 ?_
  refine j_ldcw (v := (252645135)) dJ6_bitCount_0f7a4_29 cJ6_267 ?_
  refine j_iand dJ6_bitCount_0f7a4_32 ?_
  refine j_istore_n dJ6_bitCount_0f7a4_33 (by first | decide | omega) ?_
  refine j_iload_n dJ6_bitCount_0f7a4_34 rfl ?_
  refine j_iload_n dJ6_bitCount_0f7a4_35 rfl ?_
  refine j_bipush (v := 8) dJ6_bitCount_0f7a4_36 (by first | decide | omega) ?_
  refine j_iushr dJ6_bitCount_0f7a4_38 ?_
  refine j_iadd dJ6_bitCount_0f7a4_39 ?_
  refine j_istore_n dJ6_bitCount_0f7a4_40 (by first | decide | omega) ?_
  refine j_iload_n dJ6_bitCount_0f7a4_41 rfl ?_
  refine j_iload_n dJ6_bitCount_0f7a4_42 rfl ?_
  refine j_bipush (v := 16) dJ6_bitCount_0f7a4_43 (by first | decide | omega) ?_
  refine j_iushr dJ6_bitCount_0f7a4_45 ?_
  refine j_iadd dJ6_bitCount_0f7a4_46 ?_
  refine j_istore_n dJ6_bitCount_0f7a4_47 (by first | decide | omega) ?_
  refine j_iload_n dJ6_bitCount_0f7a4_48 rfl ?_
  refine j_bipush (v := 63) dJ6_bitCount_0f7a4_49 (by first | decide | omega) ?_
  refine j_iand dJ6_bitCount_0f7a4_51 ?_
  refine j_iret dJ6_bitCount_0f7a4_52 rfl (rfl) ?_
  exact hQ _ _ ⟨rfl, rfl⟩
