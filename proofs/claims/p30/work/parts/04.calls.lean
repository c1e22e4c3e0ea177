-- what is new, and calls
/-- an object at its start: its class's default values -/
def zB (ci k : Nat) : Value := if (ci = 0 ∧ (k < 5 ∨ k = 9)) ∨ (ci = 3 ∧ k < 2) ∨ (ci = 4 ∧ (k < 2 ∨ k = 3 ∨ k = 4)) ∨ (ci = 5 ∧ (k < 4 ∨ k = 6 ∨ k = 14)) then .null else .int 0
theorem zB_V {b z ci k : Nat} : zV b z (zB ci k) = zB ci k := by
  unfold zB
  split <;> rfl
theorem zN_mono {a b : Nat} (h : a ≤ b) : zN a ≤ zN b := by
  induction h with
  | refl => exact Nat.le_refl _
  | step _ ih => exact Nat.le_trans ih (Nat.le_add_right _ _)
section ZC
variable {X : Nat × (Nat → Int32)} {M : zM} {n0 pc : Nat} {ls st : List Value} {nx : Nat} {h : zH} {Q : zQt}
/-- a class's link, of which objects are made (with its default values) -/
def zLK (own : String) (idx ci : Nat) : Prop := ∃ (C : String) (T : u_T) (N : Nat) (ty0 : Nat → FieldType), vwCl[ci]? = some (C, T, N) ∧ ci < 10 ∧ N = zF ci ∧
  Cond.classLink own idx C ∈ zWd ∧ Cond.instantiable C N ∈ zWd ∧ Cond.initialized C ∈ zWd ∧ (∀ w ∈ u_ws C T N, w ∈ zWd) ∧ (∀ k, k < N → parseFieldDescriptor (T k).2.2.1 = some (ty0 k)) ∧ ∀ k, k < N → defaultValue (ty0 k) = zB ci k
set_option maxHeartbeats 1000000 in
theorem j_new {ci idx : Nat} (hd : decode (zMb M) pc = .ok (.new idx, 3)) (hl : zLK (zMo M) idx ci) (hs : (zS nx).1 = ci) (hnx1 : nx < 1000) (h0 : n0 ≤ nx) (hf1 : nx + 1 - n0 ≤ zMc M) (hf2 : zN (nx + 1) - zN n0 ≤ zMs M) (kk : zJ X M n0 (pc + 3) ls (.ref nx :: st) (nx + 1) (va_up h nx (zB ci)) Q) : zJ X M n0 pc ls st nx h Q := by
  intro p l e R s m args below meth c D cA b z H locs Qm la C hX hll hw hS hend
  obtain ⟨CC, T, N, ty0, hc, hci, hN, hcl, hinst, hini0, hin, hty, hdf⟩ := hl
  obtain ⟨hx, hb, hml, hown, hini, hts, hnw, hao, hK, hz, hR⟩ := id C
  obtain ⟨hsz, hnx, hP⟩ := id hw
  have hKn := hK.1 ci _ hc
  have hzz : zZ nx = N := by
    unfold zZ
    rw [hs, if_pos hci, hN]
  have hm := zN_mono h0
  have e1 : nx - n0 + 1 = nx + 1 - n0 := by omega
  have e2 : zN nx - zN n0 + N = zN (nx + 1) - zN n0 := by
    show _ = zN nx + zZ nx - zN n0
    omega
  refine W.newcK hx hb hown (hts _ hcl) (hts _ hinst) (hts _ hini0) rfl hd (by rw [e1]; exact Nat.le_trans hf1 hR.2.2.1) (by rw [e2]; exact Nat.le_trans hf2 hR.2.2.2) hKn.2.1 hsz fun H1 kC hkC g1 z1 o1 => ?_
  refine W.cs e1 e2 ?_
  have hr : zV b z (.ref nx) = .ref (z + nx) := zV_ref (nx := nx + 1) (by omega) (by omega)
  have K := kk p l e R s m args below meth c D cA b z H1 locs Qm la C hX hll ⟨z1, by omega, ?_⟩ ⟨Nat.le_trans hS.1 (by omega), fun x h1 h2 => (o1 x (by have := hS.1; omega)).trans (hS.2.1 x h1 h2), hS.2.2⟩ hend
  · have K : W p l e R s m args below meth c H1 locs _ _ Qm (F0 m (pc + 3) la (zV b z (.ref nx) :: st.map (zV b z))) := K
    rw [hr] at K
    exact K
  · rw [← zW_push]
    refine (hP.kept (fun k x hx => o1 x.1 ?_)).app (fun k x hx => ?_)
    · have := (hP k x hx).lt
      omega
    · have hz : k < 1 := (List.getElem?_eq_some_iff.mp hx).1
      rw [show k = 0 by omega] at hx
      cases hx
      show va_at D vwCl (z + nx, zE cA b z nx (zB ci)) H1
      rw [zE_obj hs hci]
      refine ⟨_, hc, (u_born ty0 hts hin hKn hkC g1 hty).to (fun j hj => ?_)⟩
      have h9 := z_fs (b := b) (z := z) (n := zF ci) (k := j) (g := zB ci) (by rw [← hN]; exact hj)
      unfold vp_V
      rw [List.getD_eq_getElem?_getD, h9, zB_V]
      exact hdf j hj
theorem zT_num {cA : Nat → ClassId} {s : State} {D : va_G} (hK : va_K D vwCl (zT cA) s) {t : Nat} {ty : FieldType} (h : (zT cA)[t]? = some (cA t, ty)) (hp : ty = .int ∨ ty = .char) : s.vm.findClass ("[" ++ ty.toString) = some (cA t) := by
  have h1 := (hK.2 t _ h).2
  rcases hp with rfl | rfl <;> exact h1
set_option maxHeartbeats 1000000 in
theorem j_newa {at0 : ArrayType} {t n : Nat} {i : Int32} (hd : decode (zMb M) pc = .ok (.newarray at0, 2)) (hat : (at0 = .int ∧ t = 0) ∨ (at0 = .char ∧ t = 1)) (hl : Cond.arrayClass (newarray.typeOf at0) ∈ zWd) (hs : zS nx = (10 + t, n)) (hn1 : ¬ i < 0) (hn2 : i.toNatClampNeg = n) (hn3 : n ≤ 1000) (hnx1 : nx < 1000) (h0 : n0 ≤ nx) (hf1 : nx + 1 - n0 ≤ zMc M) (hf2 : zN (nx + 1) - zN n0 ≤ zMs M) (kk : zJ X M n0 (pc + 2) ls (.ref nx :: st) (nx + 1) (va_up h nx (fun _ => .int 0)) Q) : zJ X M n0 pc ls (.int i :: st) nx h Q := by
  intro p l e R s m args below meth c D cA b z H locs Qm la C hX hll hw hS hend
  obtain ⟨hx, hb, hml, hown, hini, hts, hnw, hao, hK, hz, hR⟩ := id C
  obtain ⟨hsz, hnx, hP⟩ := id hw
  have ht2 : t < 2 := by rcases hat with ⟨-, rfl⟩ | ⟨-, rfl⟩ <;> omega
  have hzz : zZ nx = n := by
    unfold zZ
    rw [hs, if_neg (by show ¬ 10 + t < 10; omega)]
  have hm := zN_mono h0
  have e1 : nx - n0 + 1 = nx + 1 - n0 := by omega
  have e2 : zN nx - zN n0 + n = zN (nx + 1) - zN n0 := by
    show _ = zN nx + zZ nx - zN n0
    omega
  refine va_newaK hx hb (hts _ hl) rfl hd rfl hn1 hn2 (by rcases hat with ⟨rfl, -⟩ | ⟨rfl, -⟩ <;> simp [newarray.typeOf, componentBytes] <;> omega) (by rw [e1]; exact Nat.le_trans hf1 hR.2.2.1) (by rw [e2]; exact Nat.le_trans hf2 hR.2.2.2) hsz fun H1 cB g1 z1 o1 hAr hNm => ?_
  refine W.cs e1 e2 ?_
  have hr : zV b z (.ref nx) = .ref (z + nx) := zV_ref (nx := nx + 1) (by omega) (by omega)
  have hcB : cB = cA t := by
    rcases hat with ⟨rfl, rfl⟩ | ⟨rfl, rfl⟩
    · exact Option.some.inj (hNm.symm.trans (zT_num hK (t := 0) (ty := .int) rfl (Or.inl rfl)))
    · exact Option.some.inj (hNm.symm.trans (zT_num hK (t := 1) (ty := .char) rfl (Or.inr rfl)))
  have K := kk p l e R s m args below meth c D cA b z H1 locs Qm la C hX hll ⟨z1, by omega, ?_⟩ ⟨Nat.le_trans hS.1 (by omega), fun x h1 h2 => (o1 x (by have := hS.1; omega)).trans (hS.2.1 x h1 h2), hS.2.2⟩ hend
  · have K : W p l e R s m args below meth c H1 locs _ _ Qm (F0 m (pc + 2) la (zV b z (.ref nx) :: st.map (zV b z))) := K
    rw [hr] at K
    exact K
  · rw [← zW_push]
    refine (hP.kept (fun k x hx => o1 x.1 ?_)).app (fun k x hx => ?_)
    · have := (hP k x hx).lt
      omega
    · have hz : k < 1 := (List.getElem?_eq_some_iff.mp hx).1
      rw [show k = 0 by omega] at hx
      cases hx
      show va_at D vwCl (z + nx, zE cA b z nx (fun _ => .int 0)) H1
      rw [zE_num hs ht2]
      show H1[z + nx]? = some (vp_cell _ _)
      rw [vp_cell_i, g1, hcB]
      congr 2
      funext q
      rcases hat with ⟨rfl, -⟩ | ⟨rfl, -⟩ <;> rfl
set_option maxHeartbeats 1000000 in
theorem j_anew {idx t n : Nat} {i : Int32} (hd : decode (zMb M) pc = .ok (.anewarray idx, 3)) (ht3 : t < 3) (hl : ∀ r : vw_C, vwCl[t]? = some r → Cond.classLink (zMo M) idx r.1 ∈ zWd) (hs : zS nx = (12 + t, n)) (hn1 : ¬ i < 0) (hn2 : i.toNatClampNeg = n) (hn3 : n ≤ 1000) (hnx1 : nx < 1000) (h0 : n0 ≤ nx) (hf1 : nx + 1 - n0 ≤ zMc M) (hf2 : zN (nx + 1) - zN n0 ≤ zMs M) (kk : zJ X M n0 (pc + 3) ls (.ref nx :: st) (nx + 1) (va_up h nx (fun _ => .null)) Q) : zJ X M n0 pc ls (.int i :: st) nx h Q := by
  intro p l e R s m args below meth c D cA b z H locs Qm la C hX hll hw hS hend
  obtain ⟨hx, hb, hml, hown, hini, hts, hnw, hao, hK, hz, hR⟩ := id C
  obtain ⟨hsz, hnx, hP⟩ := id hw
  subst hn2
  have hzz : zZ nx = i.toNatClampNeg := by
    unfold zZ
    rw [hs, if_neg (by show ¬ 12 + t < 10; omega)]
  have hm := zN_mono h0
  have e1 : nx - n0 + 1 = nx + 1 - n0 := by omega
  have e2 : zN nx - zN n0 + i.toNatClampNeg = zN (nx + 1) - zN n0 := by
    show _ = zN nx + zZ nx - zN n0
    omega
  obtain ⟨r, hc, hE, hA⟩ : ∃ r : vw_C, vwCl[t]? = some r ∧ (zT cA)[2 + t]? = some (cA (2 + t), .object r.1) ∧ r.1 ∈ zAo := by
    rcases (show t = 0 ∨ t = 1 ∨ t = 2 by omega) with rfl | rfl | rfl
    · exact ⟨_, rfl, rfl, List.mem_cons_self⟩
    · exact ⟨_, rfl, rfl, List.mem_cons_of_mem _ List.mem_cons_self⟩
    · exact ⟨_, rfl, rfl, List.mem_cons_of_mem _ (List.mem_cons_of_mem _ List.mem_cons_self)⟩
  refine W.anew hx hb hown (hts _ (hl r hc)) (va_AO.use (hao _ hA)) rfl hd rfl hn1 (by omega) (by rw [e1]; exact Nat.le_trans hf1 hR.2.2.1) (by rw [e2]; exact Nat.le_trans hf2 hR.2.2.2) fun cB kB comp f1 f2 f3 f4 => ?_
  generalize hH1 : H.push ({ cls := cB, slots := Array.replicate i.toNatClampNeg .null, vm := .none } : Cell) = H1
  have z1 : H1.size = H.size + 1 := by rw [← hH1, Array.size_push]
  have g1 : H1[H.size]? = some (arrV cB i.toNatClampNeg (fun _ => .null)) := by rw [← hH1, Array.getElem?_push_size, ← arrV_new]
  have o1 : ∀ q : Nat, q < H.size → H1[q]? = H[q]? := fun q hq => by rw [← hH1, Array.getElem?_push, if_neg (Nat.ne_of_lt hq)]
  refine W.cs e1 e2 ?_
  have hr : zV b z (.ref nx) = .ref H.size := by rw [hsz]; exact zV_ref (nx := nx + 1) (by omega) (by omega)
  have hcB : cB = cA (2 + t) := by
    obtain ⟨kA, comp2, k1, k2, k3, k4⟩ := (hK.2 (2 + t) _ hE).2
    exact Option.some.inj (f1.symm.trans k4)
  have K := kk p l e R s m args below meth c D cA b z H1 locs Qm la C hX hll ⟨by rw [z1, hsz]; rfl, by omega, ?_⟩ ⟨Nat.le_trans hS.1 (by omega), fun x h1 h2 => (o1 x (by have := hS.1; omega)).trans (hS.2.1 x h1 h2), hS.2.2⟩ hend
  · have K : W p l e R s m args below meth c H1 locs _ _ Qm (F0 m (pc + 3) la (zV b z (.ref nx) :: st.map (zV b z))) := K
    rw [hr] at K
    exact K
  · rw [← zW_push]
    refine (hP.kept (fun k x hx => o1 x.1 ?_)).app (fun k x hx => ?_)
    · exact (hP k x hx).lt
    · have hz : k < 1 := (List.getElem?_eq_some_iff.mp hx).1
      rw [show k = 0 by omega] at hx
      cases hx
      show va_at D vwCl (z + nx, zE cA b z nx (fun _ => .null)) H1
      rw [zE_arr hs]
      show H1[z + nx]? = some (vp_cell _ _)
      rw [vp_cell_q, ← hsz, g1, hcB]
      rfl
/-- java.lang.Object's constructor -/
theorem j_objInit {idx a : Nat} (hd : decode (zMb M) pc = .ok (.invokespecial idx, 3)) (hl : Cond.methodLink (zMo M) idx Lib.objectInit ∈ zWd) (hi : Cond.instanceMethod Lib.objectInit ∈ zWd) (hcd : Cond.code Lib.objectInit ⟨#[0xb1]⟩ 1 none ∈ zWd) (hh : 1 ≤ zMh M) (hst : ((st.map (zV 0 0)).map fun v => v.category).sum ≤ 8) (kk : zJ X M n0 (pc + 3) ls st nx h Q) : zJ X M n0 pc ls (.ref a :: st) nx h Q := by
  intro p l e R s m args below meth c D cA b z H locs Qm la C hX hll hw hS hend
  obtain ⟨hx, hb, hml, hown, hini, hts, hnw, hao, hK, hz, hR⟩ := id C
  have hsum : ((st.map (zV b z)).map fun v => v.category) = ((st.map (zV 0 0)).map fun v => v.category) := by
    rw [List.map_map, List.map_map]
    apply List.map_congr_left
    intro v _
    cases v <;> rfl
  exact W.objInit hx hb hown (hts _ hl) (hts _ hi) (hts _ hcd) rfl (by rw [hml]; exact hll.1) rfl hd (by omega) (by show 2 * 0 + _ + 12 ≤ _; rw [hsum]; omega) (kk p l e R s m args below meth c D cA b z H locs Qm la C hX hll hw hS hend)
theorem z_sum {b z : Nat} (st : List Value) : ((st.map (zV b z)).map fun v => v.category) = st.map fun v => v.category := by
  rw [List.map_map]
  apply List.map_congr_left
  intro v _
  cases v <;> rfl
theorem j_mmin {idx : Nat} {x y : Int32} (hd : decode (zMb M) pc = .ok (.invokestatic idx, 3)) (h1 : Cond.methodLink (zMo M) idx Lib.Math.min.name ∈ zWd) (h2 : Cond.static Lib.Math.min.name ∈ zWd) (h3 : Cond.initialized "java/lang/Math" ∈ zWd) (h4 : Cond.code Lib.Math.min.name Lib.Math.min.code 2 (some .int) ∈ zWd) (hh : 1 ≤ zMh M) (hst : (st.map fun v => v.category).sum ≤ 8) (h0 : n0 ≤ nx) (hf1 : nx - n0 ≤ zMc M) (hf2 : zN nx - zN n0 ≤ zMs M) (kk : zJ X M n0 (pc + 3) ls (.int (if y < x then y else x) :: st) nx h Q) : zJ X M n0 pc ls (.int y :: .int x :: st) nx h Q := by
  intro p l e R s m args below meth c D cA b z H locs Qm la C hX hll hw hS hend
  obtain ⟨hx, hb, hml, hown, hini, hts, hnw, hao, hK, hz, hR⟩ := id C
  exact va_mmin hx hb (by rw [hml]; exact hll.1.symm) hown (hts _ h1) (hts _ h2) (hts _ h3) (hts _ h4) (by omega) (by rw [z_sum]; omega) (Nat.le_trans hf1 hR.2.2.1) (Nat.le_trans hf2 hR.2.2.2) hd (kk p l e R s m args below meth c D cA b z H locs Qm la C hX hll hw hS hend)
theorem j_mmax {idx : Nat} {x y : Int32} (hd : decode (zMb M) pc = .ok (.invokestatic idx, 3)) (h1 : Cond.methodLink (zMo M) idx Lib.Math.max.name ∈ zWd) (h2 : Cond.static Lib.Math.max.name ∈ zWd) (h3 : Cond.initialized "java/lang/Math" ∈ zWd) (h4 : Cond.code Lib.Math.max.name Lib.Math.max.code 2 (some .int) ∈ zWd) (hh : 1 ≤ zMh M) (hst : (st.map fun v => v.category).sum ≤ 8) (h0 : n0 ≤ nx) (hf1 : nx - n0 ≤ zMc M) (hf2 : zN nx - zN n0 ≤ zMs M) (kk : zJ X M n0 (pc + 3) ls (.int (if x < y then y else x) :: st) nx h Q) : zJ X M n0 pc ls (.int y :: .int x :: st) nx h Q := by
  intro p l e R s m args below meth c D cA b z H locs Qm la C hX hll hw hS hend
  obtain ⟨hx, hb, hml, hown, hini, hts, hnw, hao, hK, hz, hR⟩ := id C
  exact va_mmax hx hb (by rw [hml]; exact hll.1.symm) hown (hts _ h1) (hts _ h2) (hts _ h3) (hts _ h4) (by omega) (by rw [z_sum]; omega) (Nat.le_trans hf1 hR.2.2.1) (Nat.le_trans hf2 hR.2.2.2) hd (kk p l e R s m args below meth c D cA b z H locs Qm la C hX hll hw hS hend)
theorem j_f2bits {idx : Nat} {x : UInt32} (hd : decode (zMb M) pc = .ok (.invokestatic idx, 3)) (h1 : Cond.methodLink (zMo M) idx ⟨"java/lang/Float", "floatToRawIntBits", "(F)I"⟩ ∈ zWd) (h2 : Cond.native ⟨"java/lang/Float", "floatToRawIntBits", "(F)I"⟩ ∈ zWd) (h3 : Cond.static ⟨"java/lang/Float", "floatToRawIntBits", "(F)I"⟩ ∈ zWd) (h4 : Cond.initialized "java/lang/Float" ∈ zWd) (hh : 1 ≤ zMh M) (hst : (st.map fun v => v.category).sum ≤ 8) (kk : zJ X M n0 (pc + 3) ls (.int x.toInt32 :: st) nx h Q) : zJ X M n0 pc ls (.float x :: st) nx h Q := by
  intro p l e R s m args below meth c D cA b z H locs Qm la C hX hll hw hS hend
  obtain ⟨hx, hb, hml, hown, hini, hts, hnw, hao, hK, hz, hR⟩ := id C
  exact vn_f2i hx hb (by rw [hml]; exact hll.1.symm) hown (hts _ h1) (hts _ h2) (hts _ h3) (hts _ h4) (by omega) (by rw [z_sum]; omega) hd (kk p l e R s m args below meth c D cA b z H locs Qm la C hX hll hw hS hend)
/-- the script's ints and its length, in the law alone -/
theorem j_sld {i x : Int32} (hd : decode (zMb M) pc = .ok (.iaload, 1)) (hlw : zLw M) (hin : vp_in i X.1) (hv : X.2 i.toNatClampNeg = x) (kk : zJ X M n0 (pc + 1) ls (.int x :: st) nx h Q) : zJ X M n0 pc ls (.int i :: .ref 1000 :: st) nx h Q := by
  intro p l e R s m args below meth c D cA b z H locs Qm la C hX hll hw hS hend
  obtain ⟨hx, hb, hml, hown, hini, hts, hnw, hao, hK, hz, hR⟩ := id C
  subst hv
  obtain ⟨hXX, hbl, hbz⟩ := hX hlw
  exact va_sld hx hb hXX hbl (show ¬ z ≤ b by omega) hS hin hd (kk p l e R s m args below meth c D cA b z H locs Qm la C hX hll hw hS hend)
theorem j_slen (hd : decode (zMb M) pc = .ok (.arraylength, 1)) (hlw : zLw M) (kk : zJ X M n0 (pc + 1) ls (.int (Int32.ofNat X.1) :: st) nx h Q) : zJ X M n0 pc ls (.ref 1000 :: st) nx h Q := by
  intro p l e R s m args below meth c D cA b z H locs Qm la C hX hll hw hS hend
  obtain ⟨hx, hb, hml, hown, hini, hts, hnw, hao, hK, hz, hR⟩ := id C
  obtain ⟨hXX, hbl, hbz⟩ := hX hlw
  exact va_slen hx hb hXX hbl (show ¬ z ≤ b by omega) hS hd (kk p l e R s m args below meth c D cA b z H locs Qm la C hX hll hw hS hend)
/-- a method's contract: from the heap h, with these arguments, it comes to an end of which P says what it answers and what the heap is then -/
def zCT (M : zM) (as : List Value) (nx : Nat) (h : zH) (nx' : Nat) (P : Option Int32 → zH → Prop) : Prop :=
  ∀ (X : Nat × (Nat → Int32)) (Q : zQt), (∀ r h', P r h' → Q r nx' h') → zJ X M nx 0 (as ++ List.replicate (zMl M - as.length) .null) [] nx h Q
theorem zCT.to {M : zM} {as : List Value} {nx nx' : Nat} {h : zH} {P P' : Option Int32 → zH → Prop} (H : zCT M as nx h nx' P) (hP : ∀ r h', P r h' → P' r h') : zCT M as nx h nx' P' := fun X Q hQ => H X Q (fun r h' q => hQ r h' (hP r h' q))
/-- what a program decides of a method -/
def zOm (M : zM) (n : Nat) : Prop := plainFor (zMn M) = true ∧ n ≤ zMl M ∧ zMl M ≤ 14 ∧ ¬ zLw M ∧ Cond.code (zMn M) (zMb M) (zMl M) (zMr M) ∈ zWd ∧ Cond.initialized (zMo M) ∈ zWd ∧ (zMo M ≠ "java/lang/invoke/MethodHandle" ∧ zMo M ≠ "java/lang/invoke/VarHandle")
abbrev zWs (M : zM) : List Cond := Cond.code (zMn M) (zMb M) (zMl M) (zMr M) :: zWd
def zPs (D : va_G) (cA : Nat → ClassId) (b z : Nat) (o : Option FieldType) (nx' : Nat) (P : Option Int32 → zH → Prop) : Array Value → State → Outcome → State → Prop := match o with
  | some _ => va_Qi (fun (y : Int32) (g : zH) => P (some y) g) (fun g t => zR D cA b z nx' g t.heap) (fun q => z ≤ q)
  | none => va_Qv (fun (g : zH) => P none g) (fun g t => zR D cA b z nx' g t.heap) (fun q => z ≤ q)
theorem zMet_of {l : Launch} {y : MethodName} {ws ws' : List Cond} {rm : Room} {Pc : Array Value → State → Prop} {Qc : Array Value → State → Outcome → State → Prop} {mc ms : Nat} {free : Addr → Prop} {cc : ByteArray} {maxL : Nat} {ret : Option FieldType}
    (hy : plainFor y = true) (hw : ws = Cond.code y cc maxL ret :: ws')
    (body : ∀ p e s m args below meth c s₁, BodyLoose p l y (headSpec ws rm) cc maxL ret e s m args below meth c s₁ → c.maxLocals = maxL → Pc args s →
      W p l e (headSpec ws rm).room s m args below meth c s.heap [] 0 0 (MQ below Qc args s mc ms free) (entryFrame m args maxL)) : Met l y ws rm Pc Qc mc ms free := by
  refine MetFree.of_bodySF (code := cc) (maxLocals := maxL) (ret := ret) hy ?_ ?_
  · intro args s m h hn
    obtain ⟨meth, c, h1, h2, h3, h4, h5, h6, -, -⟩ := Cond.code_spec hn (atoms_spec (ws := ws) h _ (by rw [hw]; exact List.mem_cons_self))
    exact ⟨meth, c, h1, h2, h3, h4, h5, h6⟩
  · intro p e s m args below meth c s₁ B hml hP _
    have hh0 : s₁.heap = s.heap := by rw [B.state]; rfl
    obtain ⟨t, a1, o, b1, b2, b3⟩ := body p e s m args below meth c s₁ B hml hP s₁ hh0 (Stand.of_body B)
    exact ⟨t, o, a1, b1, b2, ⟨b3.1, b3.2⟩⟩
theorem z_args {vs : List Value} {i : Nat} {v : Value} (hc : ∀ v ∈ vs, v.category = 1) (h : vs[i]? = some v) : ∀ k : Nat, (k + i, v) ∈ lv_args k vs := by
  induction vs generalizing i with
  | nil => simp at h
  | cons u us ih =>
    intro k
    have hu : u.category = 1 := hc u List.mem_cons_self
    unfold lv_args
    rw [if_neg (by rw [hu]; decide)]
    cases i with
    | zero =>
      simp at h
      subst h
      exact List.mem_cons_self
    | succ j =>
      rw [List.getElem?_cons_succ] at h
      have h1 := ih (fun v hv => hc v (List.mem_cons_of_mem _ hv)) h (k + 1)
      rw [show k + 1 + j = k + (j + 1) by omega] at h1
      exact List.mem_cons_of_mem _ h1
theorem z_entry {b z nL : Nat} {as : List Value} (hc : ∀ v ∈ as, v.category = 1) (hn : as.length ≤ nL) : zL b z nL ((lg_sl (as.map (zV b z)) ++ List.replicate (nL - (lg_sl (as.map (zV b z))).length) Slot.unset).toArray) (as ++ List.replicate (nL - as.length) .null) := by
  have hc2 : ∀ v ∈ as.map (zV b z), v.category = 1 := by
    intro v hv
    obtain ⟨u, hu, rfl⟩ := List.mem_map.mp hv
    exact z_cat1 (hc u hu)
  have hlen : (lg_sl (as.map (zV b z))).length = as.length := by
    have : ∀ vs : List Value, (∀ v ∈ vs, v.category = 1) → (lg_sl vs).length = vs.length := by
      intro vs
      induction vs with
      | nil => intro _; rfl
      | cons u us ih =>
        intro h
        have hu : u.category = 1 := h u List.mem_cons_self
        have h2 := ih (fun v hv => h v (List.mem_cons_of_mem _ hv))
        unfold lg_sl at h2 ⊢
        rw [List.flatMap_cons, List.length_append, h2, if_neg (by rw [hu]; decide)]
        simp
        omega
    rw [this _ hc2, List.length_map]
  have h0 := lv_entry (as.map (zV b z)) (n := nL) (by rw [hlen]; exact hn)
  refine ⟨h0.1, h0.2.1, by simp; omega, fun i v hv hnv => ?_⟩
  by_cases hi : i < as.length
  · rw [List.getElem?_append_left hi] at hv
    have h1 : (as.map (zV b z))[i]? = some (zV b z v) := by rw [List.getElem?_map, hv]; rfl
    have h2 := z_args hc2 h1 0
    rw [Nat.zero_add] at h2
    exact ⟨hc v (List.mem_of_getElem? hv), h0.2.2 _ h2⟩
  · rw [List.getElem?_append_right (by omega)] at hv
    have h1 := List.mem_of_getElem? hv
    exact absurd (List.eq_of_mem_replicate h1) hnv
set_option maxHeartbeats 1000000 in
theorem zMet {M : zM} {as : List Value} {nx nx' : Nat} {h : zH} {P : Option Int32 → zH → Prop} (hO : zOm M as.length) (hc : ∀ v ∈ as, v.category = 1) (hf1 : nx' - nx ≤ zMc M) (hf2 : zN nx' - zN nx ≤ zMs M) (hT : zCT M as nx h nx' P) (l : Launch) (D : va_G) (cA : Nat → ClassId) (b z : Nat) :
    Met l (zMn M) (zWs M) (zRm M) (va_Pc (as.map (zV b z)) (fun U => zR D cA b z nx h U.heap ∧ va_K D vwCl (zT cA) U ∧ (∀ w ∈ zNw, va_Nw w U) ∧ (∀ C ∈ zAo, va_AO C U))) (zPs D cA b z (zMr M) nx' P) (zMc M) (zMs M) (fun q => z ≤ q) := by
  obtain ⟨hpl, hln, hml11, hlaw, hcw, hiw, hnm⟩ := hO
  refine zMet_of (cc := zMb M) (maxL := zMl M) (ret := zMr M) hpl rfl ?_
  intro p e s m args below meth c s₁ B hml hv
  obtain ⟨rfl, hR, hK, hN, hA⟩ := hv
  have hts := atoms_spec (ws := zWs M) B.pre
  have hlocks := B.notSynchronized
  have hrt := B.returns
  rw [lg_entry_eq]
  have hsz := hR.1
  have hC : zCx M p (headSpec (zWs M) (zRm M)).room s m (as.map (zV b z)).toArray meth c D cA z :=
    ⟨B.exec, B.bytes, hml, findClass_of_methodNamed B.named, fun q => by rw [← q]; exact (name_of_methodNamed B.named B.method).1, fun w hw => hts w (List.mem_cons_of_mem _ hw), hN, hA, hK, by omega, Nat.le_refl _, Nat.le_refl _, Nat.le_refl _, Nat.le_refl _⟩
  have K := hT (0, fun _ => 0) (fun v n g => n = nx' ∧ P v g) (fun r h' q => ⟨rfl, q⟩) p l e (headSpec (zWs M) (zRm M)).room s m (as.map (zV b z)).toArray below meth c D cA b z s.heap [] (MQ below (zPs D cA b z (zMr M) nx' P) (as.map (zV b z)).toArray s (zMc M) (zMs M) (fun q => z ≤ q)) _ hC (fun q => absurd q hlaw) (z_entry hc hln) hR va_S.rf ?_
  · exact W.cs (Nat.sub_self nx).symm (Nat.sub_self _).symm K
  · rintro v n g H' locs' pc' la' ⟨rfl, hPv⟩ hret hR' hS'
    refine W.widen hf1 hf2 ?_
    cases v with
    | none =>
      obtain ⟨hd, hr2⟩ := hret
      have e9 : zPs D cA b z (zMr M) n P = zPs D cA b z none n P := by rw [hr2]
      rw [e9]
      exact W.vret B.exec B.bytes (hrt.trans hr2) (fun t ht hW => ⟨⟨g, rfl, hPv, by show zR D cA b z n g t.heap; rw [ht]; exact hR'⟩, hS'.F ht⟩) hS'.2.2 hd
    | some x =>
      obtain ⟨hd, ty, hr2, hnr⟩ := hret
      have e9 : zPs D cA b z (zMr M) n P = zPs D cA b z (some ty) n P := by rw [hr2]
      rw [e9]
      exact W.zret (v := x) B.exec B.bytes (hrt.trans hr2) hnr (fun t ht hW => ⟨⟨x, g, rfl, hPv, by show zR D cA b z n g t.heap; rw [ht]; exact hR'⟩, hS'.F ht⟩) hS'.2.2 hd
theorem z_good {w : Cond} (h : w ∈ zWd) : w ∈ zWd ∧ ((w.onTables && w.keeps) = true ∨ ∃ ty, w = .arrayClass ty) := ⟨h, good_of_word (List.mem_filter.mp h).2⟩
theorem z_goodWs {M' : zM} (h : Cond.code (zMn M') (zMb M') (zMl M') (zMr M') ∈ zWd) : GoodIn zWd (zWs M') := fun w hw => by
  rcases List.mem_cons.mp hw with rfl | hw
  · exact z_good h
  · exact z_good hw
theorem zNw_warm {w : Cond} {s U : State} (h : w ∈ zNw) (hW : s.WarmedH U.vm) (hZ : va_Nw w s) : va_Nw w U := by
  rcases List.mem_append.mp h with h | h
  · obtain ⟨q, -, rfl⟩ := List.mem_map.mp h
    exact va_Nw.warmF hW hZ
  · obtain ⟨q, -, rfl⟩ := List.mem_map.mp h
    exact va_Nw.warmM hW hZ
theorem zNw_tab {w : Cond} (h : w ∈ zNw) : w.onTables = true := by
  rcases List.mem_append.mp h with h | h
  · obtain ⟨q, -, rfl⟩ := List.mem_map.mp h
    rfl
  · obtain ⟨q, -, rfl⟩ := List.mem_map.mp h
    rfl
theorem z_blind {as : List Value} {D : va_G} {cA : Nat → ClassId} {b z nx : Nat} {h : zH} : FrameBlind (va_Pc as (fun U => zR D cA b z nx h U.heap ∧ va_K D vwCl (zT cA) U ∧ (∀ w ∈ zNw, va_Nw w U) ∧ (∀ C ∈ zAo, va_AO C U))) :=
  fun a U g mk q => ⟨q.1, q.2.1, va_K.moved (u := U) (U := U.calling g mk a) (Vm.Alike.refl U.vm) q.2.2.1, fun w hw => va_Nw.same (u := U) (U := U.calling g mk a) (zNw_tab hw) rfl (q.2.2.2.1 w hw), fun C hC => va_AO.moved (u := U) (U := U.calling g mk a) (Vm.Alike.refl U.vm) (q.2.2.2.2 C hC)⟩
theorem z_pre {as : List Value} {D : va_G} {cA : Nat → ClassId} {b z nx : Nat} {h : zH} {s : State} {H : Heap} (hw : zR D cA b z nx h H) (hK : va_K D vwCl (zT cA) s) (hN : ∀ w ∈ zNw, va_Nw w s) (hA : ∀ C ∈ zAo, va_AO C s) : ∀ U : State, U.heap = H → s.WarmedH U.vm → va_Pc as (fun U => zR D cA b z nx h U.heap ∧ va_K D vwCl (zT cA) U ∧ (∀ w ∈ zNw, va_Nw w U) ∧ (∀ C ∈ zAo, va_AO C U)) as.toArray U :=
  fun U hU hW => ⟨rfl, by rw [hU]; exact hw, va_K.moved hW.alike hK, fun w h => zNw_warm h hW (hN w h), fun C hC => va_AO.moved hW.alike (hA C hC)⟩
/-- a call's end, in the caller -/
theorem z_back {p : Program} {l : Launch} {e : Env} {R : Room} {s : State} {m : MethodId} {args : Array Value} {below : List Frame} {meth : Method} {c : Code} {D : va_G} {cA : Nat → ClassId} {b z : Nat} {H : Heap} {locs : List Loc} {Qm : State → Prop} {la : Array Slot} {M' : zM} {nx' : Nat} {P : Option Int32 → zH → Prop} {mv : List Value} {av : Array Value}
    (he1 : nx' = nx + zMc M') (he2 : zN nx' = zN nx + zMs M') (h0 : n0 ≤ nx)
    (run : va_Run p l e R s m args below meth c H locs (nx - n0) (zN nx - zN n0) (zMc M') (zMs M') (F0 m pc la mv) (st.map (zV b z)) (zPs D cA b z (zMr M') nx' P av) (fun q => z ≤ q))
    (C : zCx M p R s m args meth c D cA z) (hX : zLw M → va_X b X.1 X.2 s s.heap ∧ b < s.heap.size ∧ b < z) (hll : zL b z (zMl M) la ls) (hS : va_S (fun q => z ≤ q) s.heap H locs)
    (hend : ∀ (v : Option Int32) (nx' : Nat) (h' : zH) (H' : Heap) (locs' : List Loc) (pc' : Nat) (la' : Array Slot), Q v nx' h' → zRet M pc' v → zR D cA b z nx' h' H' → va_S (fun q => z ≤ q) s.heap H' locs' →
      W p l e R s m args below meth c H' locs' (nx' - n0) (zN nx' - zN n0) Qm (F0 m pc' la' ((v.map Value.int).toList)))
    (kk : ∀ r h', r.isSome = (zMr M').isSome → P r h' → zJ X M n0 (pc + 3) ls ((r.map Value.int).toList ++ st) nx' h' Q) : W p l e R s m args below meth c H locs (nx - n0) (zN nx - zN n0) Qm (F0 m pc la mv) := by
  have hm := zN_mono h0
  have e1 : nx - n0 + zMc M' = nx' - n0 := by omega
  have e2 : zN nx - zN n0 + zMs M' = zN nx' - zN n0 := by omega
  cases hr : zMr M' with
  | none =>
    rw [hr] at run
    refine va_callv (a := av) run hS (fun q _ h => h) (fun q h => h) (fun u t H1 locs1 ht hvm hw1 hB hz1 hk1 hS1 => ?_)
    have hB : zR D cA b z nx' u t.heap := hB
    rw [ht] at hB
    exact W.cs e1 e2 (kk none u (by rw [hr]; rfl) hw1 p l e R s m args below meth c D cA b z H1 locs1 Qm la C hX hll hB hS1 hend)
  | some ty =>
    rw [hr] at run
    refine va_calli (a := av) run hS (fun q _ h => h) (fun q h => h) (fun y u t H1 locs1 ht hvm hw1 hB hz1 hk1 hS1 => ?_)
    have hB : zR D cA b z nx' u t.heap := hB
    rw [ht] at hB
    exact W.cs e1 e2 (kk (some y) u (by rw [hr]; rfl) hw1 p l e R s m args below meth c D cA b z H1 locs1 Qm la C hX hll hB hS1 hend)
/-- what a program decides of a call: of the method, its height and room, its parameters -/
def zSc (M M' : zM) (n k : Nat) : Prop := zOm M' k ∧ (parseMethodDescriptor (zMn M').desc).map (fun d => d.parameters.length) = some n ∧ zMh M' + 1 ≤ zMh M
def zSV (M : zM) (idx : Nat) (M' : zM) (n ci : Nat) : Prop := zSc M M' n (n + 1) ∧ Cond.methodLink (zMo M) idx (zMn M') ∈ zWd ∧ Cond.instanceMethod (zMn M') ∈ zWd ∧ Cond.selects (zMo M') (zMn M') (zMn M') ∈ zWd ∧ ci < 10 ∧ ∃ (T : u_T) (N : Nat), vwCl[ci]? = some (zMo M', T, N)
def zSS (M : zM) (idx : Nat) (M' : zM) (n : Nat) : Prop := zSc M M' n n ∧ (Cond.methodLink (zMo M) idx (zMn M') ∈ zWd ∨ ∃ host : String, Cond.methodLinkNest (zMo M) idx (zMn M') host ∈ zNw) ∧ Cond.static (zMn M') ∈ zWd
def zSI (M : zM) (idx : Nat) (M' : zM) (n : Nat) : Prop := zSc M M' n (n + 1) ∧ (Cond.methodLink (zMo M) idx (zMn M') ∈ zWd ∨ ∃ host : String, Cond.methodLinkNest (zMo M) idx (zMn M') host ∈ zNw) ∧ Cond.instanceMethod (zMn M') ∈ zWd ∧ (zMn M').name = "<init>" ∧ zMr M' = none
theorem z_room {M M' : zM} {R : Room} (hh : zMh M' + 1 ≤ zMh M) (hl : zMl M' ≤ 14) (h1 : zMh M ≤ R.frames) (h2 : 33 * zMh M ≤ R.locals) : (zRm M').frames + 1 ≤ R.frames ∧ 8 + (zMl M' + 11) + (zRm M').locals ≤ R.locals := by
  refine ⟨?_, ?_⟩
  · show zMh M' + 1 ≤ R.frames
    omega
  · show 8 + (zMl M' + 11) + 33 * zMh M' ≤ R.locals
    omega
set_option maxHeartbeats 2000000 in
theorem j_callV {M' : zM} {As : List Value} {a idx n ci : Nat} {nx' : Nat} {P : Option Int32 → zH → Prop} (hd : decode (zMb M) pc = .ok (.invokevirtual idx, 3)) (hl : zSV M idx M' n ci) (hT : zCT M' (.ref a :: As) nx h nx' P) (hs : (zS a).1 = ci) (ha : a < nx) (hn : As.length = n) (hcat : ∀ v ∈ As, v.category = 1) (hst : (st.map fun v => v.category).sum ≤ 8) (h0 : n0 ≤ nx) (he1 : nx' = nx + zMc M') (he2 : zN nx' = zN nx + zMs M') (hg1 : nx - n0 + zMc M' ≤ zMc M) (hg2 : zN nx - zN n0 + zMs M' ≤ zMs M)
    (kk : ∀ r h', r.isSome = (zMr M').isSome → P r h' → zJ X M n0 (pc + 3) ls ((r.map Value.int).toList ++ st) nx' h' Q) : zJ X M n0 pc ls (As.reverse ++ .ref a :: st) nx h Q := by
  intro p l e R s m args below meth c D cA b z H locs Qm la C hX hll hw hS hend
  obtain ⟨⟨hO, hpar, hh⟩, hlk, hins, hsel, hci, T, N, hcl⟩ := hl
  obtain ⟨hx, hb, hml, hown, hini, hts, hnw, hao, hK, hz, hR⟩ := id C
  obtain ⟨hsz, hnx, hP⟩ := id hw
  obtain ⟨hpl, hln, hml11, hlaw, hcw, hiw, hnm⟩ := id hO
  subst hn
  have hM := zMet (M := M') (as := .ref a :: As) hO (fun v hv => by
    rcases List.mem_cons.mp hv with rfl | hv
    · rfl
    · exact hcat v hv) (by omega) (by omega) hT l D cA b z
  rw [List.map_cons, zV_ref ha hnx] at hM
  have he : (zW cA b z nx h)[a]? = some (z + a, .inr (ci, (List.range (zF ci)).map (fun k => zV b z (h a k)))) := by rw [zW_get ha, zE_obj hs hci]
  have G : GoodIn zWd (wsV (zMo M) idx (zMo M') (zMn M') (zWs M')) := by
    intro w hw
    rcases List.mem_append.mp hw with hw | hw
    · simp only [List.mem_cons, List.not_mem_nil, or_false] at hw
      rcases hw with rfl | rfl | rfl | rfl
      · exact z_good hlk
      · exact z_good hins
      · exact z_good hsel
      · exact z_good hiw
    · exact z_goodWs hcw w hw
  have run := va_runV (p := p) (l := l) (e := e) (R := R) (s := s) (m := m) (args := args) (below := below) (meth := meth) (c := c) (H := H) (locs := locs) (cells := nx - n0) (slots := zN nx - zN n0) (C := zMo M') (b := z + a) (As := As.map (zV b z)) (rest := st.map (zV b z)) (g := F0 m pc la ((As.reverse ++ .ref a :: st).map (zV b z))) (Ts := zWd) ⟨hx, hb, hml, hown, hts⟩ hM (cwV As.length hts G rfl rfl rfl ⟨rfl, hnm.1, hnm.2, hpar⟩ (z_room hh hml11 hR.1 hR.2.1))
    ⟨z_blind, va_recv hK hP hcl he, z_pre hw hK hnw hao⟩ rfl (by simp) hll.1 (by simp [zV_ref ha hnx]) (by show 2 * 0 + _ ≤ 8; rw [z_sum]; omega) hd ⟨Nat.le_trans hg1 hR.2.2.1, Nat.le_trans hg2 hR.2.2.2⟩
  exact z_back he1 he2 h0 run C hX hll hS hend kk
set_option maxHeartbeats 2000000 in
theorem j_callS {M' : zM} {As : List Value} {idx n : Nat} {nx' : Nat} {P : Option Int32 → zH → Prop} (hd : decode (zMb M) pc = .ok (.invokestatic idx, 3)) (hl : zSS M idx M' n) (hT : zCT M' As nx h nx' P) (hn : As.length = n) (hcat : ∀ v ∈ As, v.category = 1) (hst : (st.map fun v => v.category).sum ≤ 8) (h0 : n0 ≤ nx) (he1 : nx' = nx + zMc M') (he2 : zN nx' = zN nx + zMs M') (hg1 : nx - n0 + zMc M' ≤ zMc M) (hg2 : zN nx - zN n0 + zMs M' ≤ zMs M)
    (kk : ∀ r h', r.isSome = (zMr M').isSome → P r h' → zJ X M n0 (pc + 3) ls ((r.map Value.int).toList ++ st) nx' h' Q) : zJ X M n0 pc ls (As.reverse ++ st) nx h Q := by
  intro p l e R s m args below meth c D cA b z H locs Qm la C hX hll hw hS hend
  obtain ⟨⟨hO, hpar, hh⟩, hlk, hstt⟩ := hl
  obtain ⟨hx, hb, hml, hown, hini, hts, hnw, hao, hK, hz, hR⟩ := id C
  obtain ⟨hsz, hnx, hP⟩ := id hw
  obtain ⟨hpl, hln, hml11, hlaw, hcw, hiw, hnm⟩ := id hO
  subst hn
  have hM := zMet (M := M') (as := As) hO hcat (by omega) (by omega) hT l D cA b z
  rcases hlk with hlk | ⟨host, hlk⟩
  · have G : GoodIn zWd (va_wsS (zMo M) idx (zMn M') (zWs M')) := by
      intro w hw
      rcases List.mem_append.mp hw with hw | hw
      · simp only [List.mem_cons, List.not_mem_nil, or_false] at hw
        rcases hw with rfl | rfl | rfl
        · exact z_good hlk
        · exact z_good hstt
        · exact z_good hiw
      · exact z_goodWs hcw w hw
    have run := va_runS (p := p) (l := l) (e := e) (R := R) (s := s) (m := m) (args := args) (below := below) (meth := meth) (c := c) (H := H) (locs := locs) (cells := nx - n0) (slots := zN nx - zN n0) (As := As.map (zV b z)) (rest := st.map (zV b z)) (g := F0 m pc la ((As.reverse ++ st).map (zV b z))) (Ts := zWd) ⟨hx, hb, hml, hown, hts⟩ hM (va_cwS As.length hts G rfl rfl rfl ⟨hnm.1, hnm.2, hpar⟩ (z_room hh hml11 hR.1 hR.2.1))
      ⟨z_blind, z_pre hw hK hnw hao⟩ rfl (by simp) hll.1 (by simp) (by show 2 * 0 + _ ≤ 8; rw [z_sum]; omega) hd ⟨Nat.le_trans hg1 hR.2.2.1, Nat.le_trans hg2 hR.2.2.2⟩
    exact z_back he1 he2 h0 run C hX hll hS hend kk
  · have run := va_runSN (p := p) (l := l) (e := e) (R := R) (s := s) (m := m) (args := args) (below := below) (meth := meth) (c := c) (H := H) (locs := locs) (cells := nx - n0) (slots := zN nx - zN n0) (As := As.map (zV b z)) (rest := st.map (zV b z)) (g := F0 m pc la ((As.reverse ++ st).map (zV b z))) (Ts := zWd) ⟨hx, hb, hml, hown, hts⟩ hM ⟨va_cnB As.length hts (z_goodWs hcw) rfl rfl rfl (hnw _ hlk) (hts _ hiw) ⟨hnm.1, hnm.2, hpar⟩ (z_room hh hml11 hR.1 hR.2.1), hts _ hstt, trivial⟩
      ⟨z_blind, z_pre hw hK hnw hao⟩ rfl (by simp) hll.1 (by simp) (by show 2 * 0 + _ ≤ 8; rw [z_sum]; omega) hd ⟨Nat.le_trans hg1 hR.2.2.1, Nat.le_trans hg2 hR.2.2.2⟩
    exact z_back he1 he2 h0 run C hX hll hS hend kk
set_option maxHeartbeats 2000000 in
theorem j_callI {M' : zM} {As : List Value} {a idx n : Nat} {nx' : Nat} {P : Option Int32 → zH → Prop} (hd : decode (zMb M) pc = .ok (.invokespecial idx, 3)) (hl : zSI M idx M' n) (hT : zCT M' (.ref a :: As) nx h nx' P) (ha : a < nx) (hn : As.length = n) (hcat : ∀ v ∈ As, v.category = 1) (hst : (st.map fun v => v.category).sum ≤ 8) (h0 : n0 ≤ nx) (he1 : nx' = nx + zMc M') (he2 : zN nx' = zN nx + zMs M') (hg1 : nx - n0 + zMc M' ≤ zMc M) (hg2 : zN nx - zN n0 + zMs M' ≤ zMs M)
    (kk : ∀ h', P none h' → zJ X M n0 (pc + 3) ls st nx' h' Q) : zJ X M n0 pc ls (As.reverse ++ .ref a :: st) nx h Q := by
  intro p l e R s m args below meth c D cA b z H locs Qm la C hX hll hw hS hend
  obtain ⟨⟨hO, hpar, hh⟩, hlk, hins, hnn, hrn⟩ := hl
  obtain ⟨hx, hb, hml, hown, hini, hts, hnw, hao, hK, hz, hR⟩ := id C
  obtain ⟨hsz, hnx, hP⟩ := id hw
  obtain ⟨hpl, hln, hml11, hlaw, hcw, hiw, hnm⟩ := id hO
  subst hn
  have hM := zMet (M := M') (as := .ref a :: As) hO (fun v hv => by
    rcases List.mem_cons.mp hv with rfl | hv
    · rfl
    · exact hcat v hv) (by omega) (by omega) hT l D cA b z
  rw [List.map_cons, zV_ref ha hnx] at hM
  obtain ⟨y0, b0, l0, r0, h0', c0, s0⟩ := M'
  have hrn : r0 = none := hrn
  subst hrn
  rcases hlk with hlk | ⟨host, hlk⟩
  · have run := va_runI (p := p) (l := l) (e := e) (R := R) (s := s) (m := m) (args := args) (below := below) (meth := meth) (c := c) (H := H) (locs := locs) (cells := nx - n0) (slots := zN nx - zN n0) (b := z + a) (As := As.map (zV b z)) (rest := st.map (zV b z)) (g := F0 m pc la ((As.reverse ++ .ref a :: st).map (zV b z))) (Ts := zWd) ⟨hx, hb, hml, hown, hts⟩ hM (cwI As.length hts (z_goodWs hcw) rfl rfl rfl (hts _ hiw) (hts _ hlk) (hts _ hins) hnn ⟨hnm.1, hnm.2, hpar⟩ (z_room hh hml11 hR.1 hR.2.1))
      ⟨z_blind, z_pre hw hK hnw hao⟩ rfl (by simp) hll.1 (by simp [zV_ref ha hnx]) (by show 2 * 0 + _ ≤ 8; rw [z_sum]; omega) hd ⟨Nat.le_trans hg1 hR.2.2.1, Nat.le_trans hg2 hR.2.2.2⟩
    exact z_back he1 he2 h0 run C hX hll hS hend (fun r h' hr hp => by
      cases r with
      | none => exact kk h' hp
      | some x => exact absurd hr (by simp))
  · have run := va_runIN (p := p) (l := l) (e := e) (R := R) (s := s) (m := m) (args := args) (below := below) (meth := meth) (c := c) (H := H) (locs := locs) (cells := nx - n0) (slots := zN nx - zN n0) (b := z + a) (As := As.map (zV b z)) (rest := st.map (zV b z)) (g := F0 m pc la ((As.reverse ++ .ref a :: st).map (zV b z))) (Ts := zWd) ⟨hx, hb, hml, hown, hts⟩ hM ⟨va_cnB As.length hts (z_goodWs hcw) rfl rfl rfl (hnw _ hlk) (hts _ hiw) ⟨hnm.1, hnm.2, hpar⟩ (z_room hh hml11 hR.1 hR.2.1), hnn, hts _ hins⟩
      ⟨z_blind, z_pre hw hK hnw hao⟩ rfl (by simp) hll.1 (by simp [zV_ref ha hnx]) (by show 2 * 0 + _ ≤ 8; rw [z_sum]; omega) hd ⟨Nat.le_trans hg1 hR.2.2.1, Nat.le_trans hg2 hR.2.2.2⟩
    exact z_back he1 he2 h0 run C hX hll hS hend (fun r h' hr hp => by
      cases r with
      | none => exact kk h' hp
      | some x => exact absurd hr (by simp))
theorem j_callV0i {a idx ci : Nat} {M' : zM} {nx' : Nat} {P : Option Int32 → zH → Prop} (hd : decode (zMb M) pc = .ok (.invokevirtual idx, 3)) (hl : zSV M idx M' 0 ci) (hT : zCT M' (.ref a :: []) nx h nx' P) (hs : (zS a).1 = ci) (ha : a < nx)  (hst : (st.map fun v => v.category).sum ≤ 8) (h0 : n0 ≤ nx) (he1 : nx' = nx + zMc M') (he2 : zN nx' = zN nx + zMs M') (hg1 : nx - n0 + zMc M' ≤ zMc M) (hg2 : zN nx - zN n0 + zMs M' ≤ zMs M) (hr : (zMr M').isSome = true) (kk : ∀ x h', P (some x) h' → zJ X M n0 (pc + 3) ls (.int x :: st) nx' h' Q) : zJ X M n0 pc ls (.ref a :: st) nx h Q :=
  j_callV (As := []) hd hl hT hs ha rfl (fun v hv => by simp at hv) hst h0 he1 he2 hg1 hg2 (fun r h' hr2 hp => by
    cases r with
    | none => rw [hr] at hr2; cases hr2
    | some x => exact kk x h' hp)
theorem j_callV0v {a idx ci : Nat} {M' : zM} {nx' : Nat} {P : Option Int32 → zH → Prop} (hd : decode (zMb M) pc = .ok (.invokevirtual idx, 3)) (hl : zSV M idx M' 0 ci) (hT : zCT M' (.ref a :: []) nx h nx' P) (hs : (zS a).1 = ci) (ha : a < nx)  (hst : (st.map fun v => v.category).sum ≤ 8) (h0 : n0 ≤ nx) (he1 : nx' = nx + zMc M') (he2 : zN nx' = zN nx + zMs M') (hg1 : nx - n0 + zMc M' ≤ zMc M) (hg2 : zN nx - zN n0 + zMs M' ≤ zMs M) (hr : (zMr M').isSome = false) (kk : ∀ h', P none h' → zJ X M n0 (pc + 3) ls st nx' h' Q) : zJ X M n0 pc ls (.ref a :: st) nx h Q :=
  j_callV (As := []) hd hl hT hs ha rfl (fun v hv => by simp at hv) hst h0 he1 he2 hg1 hg2 (fun r h' hr2 hp => by
    cases r with
    | none => exact kk h' hp
    | some x => rw [hr] at hr2; cases hr2)
theorem j_callV1i {a idx ci : Nat} {v1 : Value} {M' : zM} {nx' : Nat} {P : Option Int32 → zH → Prop} (hd : decode (zMb M) pc = .ok (.invokevirtual idx, 3)) (hl : zSV M idx M' 1 ci) (hT : zCT M' (.ref a :: [v1]) nx h nx' P) (hs : (zS a).1 = ci) (ha : a < nx) (hc1 : v1.category = 1) (hst : (st.map fun v => v.category).sum ≤ 8) (h0 : n0 ≤ nx) (he1 : nx' = nx + zMc M') (he2 : zN nx' = zN nx + zMs M') (hg1 : nx - n0 + zMc M' ≤ zMc M) (hg2 : zN nx - zN n0 + zMs M' ≤ zMs M) (hr : (zMr M').isSome = true) (kk : ∀ x h', P (some x) h' → zJ X M n0 (pc + 3) ls (.int x :: st) nx' h' Q) : zJ X M n0 pc ls (v1 :: .ref a :: st) nx h Q :=
  j_callV (As := [v1]) hd hl hT hs ha rfl (fun v hv => by
    simp only [List.mem_cons, List.not_mem_nil, or_false] at hv
    rcases hv with rfl <;> assumption) hst h0 he1 he2 hg1 hg2 (fun r h' hr2 hp => by
    cases r with
    | none => rw [hr] at hr2; cases hr2
    | some x => exact kk x h' hp)
theorem j_callV1v {a idx ci : Nat} {v1 : Value} {M' : zM} {nx' : Nat} {P : Option Int32 → zH → Prop} (hd : decode (zMb M) pc = .ok (.invokevirtual idx, 3)) (hl : zSV M idx M' 1 ci) (hT : zCT M' (.ref a :: [v1]) nx h nx' P) (hs : (zS a).1 = ci) (ha : a < nx) (hc1 : v1.category = 1) (hst : (st.map fun v => v.category).sum ≤ 8) (h0 : n0 ≤ nx) (he1 : nx' = nx + zMc M') (he2 : zN nx' = zN nx + zMs M') (hg1 : nx - n0 + zMc M' ≤ zMc M) (hg2 : zN nx - zN n0 + zMs M' ≤ zMs M) (hr : (zMr M').isSome = false) (kk : ∀ h', P none h' → zJ X M n0 (pc + 3) ls st nx' h' Q) : zJ X M n0 pc ls (v1 :: .ref a :: st) nx h Q :=
  j_callV (As := [v1]) hd hl hT hs ha rfl (fun v hv => by
    simp only [List.mem_cons, List.not_mem_nil, or_false] at hv
    rcases hv with rfl <;> assumption) hst h0 he1 he2 hg1 hg2 (fun r h' hr2 hp => by
    cases r with
    | none => exact kk h' hp
    | some x => rw [hr] at hr2; cases hr2)
theorem j_callV2i {a idx ci : Nat} {v1 v2 : Value} {M' : zM} {nx' : Nat} {P : Option Int32 → zH → Prop} (hd : decode (zMb M) pc = .ok (.invokevirtual idx, 3)) (hl : zSV M idx M' 2 ci) (hT : zCT M' (.ref a :: [v1, v2]) nx h nx' P) (hs : (zS a).1 = ci) (ha : a < nx) (hc1 : v1.category = 1) (hc2 : v2.category = 1) (hst : (st.map fun v => v.category).sum ≤ 8) (h0 : n0 ≤ nx) (he1 : nx' = nx + zMc M') (he2 : zN nx' = zN nx + zMs M') (hg1 : nx - n0 + zMc M' ≤ zMc M) (hg2 : zN nx - zN n0 + zMs M' ≤ zMs M) (hr : (zMr M').isSome = true) (kk : ∀ x h', P (some x) h' → zJ X M n0 (pc + 3) ls (.int x :: st) nx' h' Q) : zJ X M n0 pc ls (v2 :: v1 :: .ref a :: st) nx h Q :=
  j_callV (As := [v1, v2]) hd hl hT hs ha rfl (fun v hv => by
    simp only [List.mem_cons, List.not_mem_nil, or_false] at hv
    rcases hv with rfl | rfl <;> assumption) hst h0 he1 he2 hg1 hg2 (fun r h' hr2 hp => by
    cases r with
    | none => rw [hr] at hr2; cases hr2
    | some x => exact kk x h' hp)
theorem j_callV2v {a idx ci : Nat} {v1 v2 : Value} {M' : zM} {nx' : Nat} {P : Option Int32 → zH → Prop} (hd : decode (zMb M) pc = .ok (.invokevirtual idx, 3)) (hl : zSV M idx M' 2 ci) (hT : zCT M' (.ref a :: [v1, v2]) nx h nx' P) (hs : (zS a).1 = ci) (ha : a < nx) (hc1 : v1.category = 1) (hc2 : v2.category = 1) (hst : (st.map fun v => v.category).sum ≤ 8) (h0 : n0 ≤ nx) (he1 : nx' = nx + zMc M') (he2 : zN nx' = zN nx + zMs M') (hg1 : nx - n0 + zMc M' ≤ zMc M) (hg2 : zN nx - zN n0 + zMs M' ≤ zMs M) (hr : (zMr M').isSome = false) (kk : ∀ h', P none h' → zJ X M n0 (pc + 3) ls st nx' h' Q) : zJ X M n0 pc ls (v2 :: v1 :: .ref a :: st) nx h Q :=
  j_callV (As := [v1, v2]) hd hl hT hs ha rfl (fun v hv => by
    simp only [List.mem_cons, List.not_mem_nil, or_false] at hv
    rcases hv with rfl | rfl <;> assumption) hst h0 he1 he2 hg1 hg2 (fun r h' hr2 hp => by
    cases r with
    | none => exact kk h' hp
    | some x => rw [hr] at hr2; cases hr2)
theorem j_callV3i {a idx ci : Nat} {v1 v2 v3 : Value} {M' : zM} {nx' : Nat} {P : Option Int32 → zH → Prop} (hd : decode (zMb M) pc = .ok (.invokevirtual idx, 3)) (hl : zSV M idx M' 3 ci) (hT : zCT M' (.ref a :: [v1, v2, v3]) nx h nx' P) (hs : (zS a).1 = ci) (ha : a < nx) (hc1 : v1.category = 1) (hc2 : v2.category = 1) (hc3 : v3.category = 1) (hst : (st.map fun v => v.category).sum ≤ 8) (h0 : n0 ≤ nx) (he1 : nx' = nx + zMc M') (he2 : zN nx' = zN nx + zMs M') (hg1 : nx - n0 + zMc M' ≤ zMc M) (hg2 : zN nx - zN n0 + zMs M' ≤ zMs M) (hr : (zMr M').isSome = true) (kk : ∀ x h', P (some x) h' → zJ X M n0 (pc + 3) ls (.int x :: st) nx' h' Q) : zJ X M n0 pc ls (v3 :: v2 :: v1 :: .ref a :: st) nx h Q :=
  j_callV (As := [v1, v2, v3]) hd hl hT hs ha rfl (fun v hv => by
    simp only [List.mem_cons, List.not_mem_nil, or_false] at hv
    rcases hv with rfl | rfl | rfl <;> assumption) hst h0 he1 he2 hg1 hg2 (fun r h' hr2 hp => by
    cases r with
    | none => rw [hr] at hr2; cases hr2
    | some x => exact kk x h' hp)
theorem j_callV3v {a idx ci : Nat} {v1 v2 v3 : Value} {M' : zM} {nx' : Nat} {P : Option Int32 → zH → Prop} (hd : decode (zMb M) pc = .ok (.invokevirtual idx, 3)) (hl : zSV M idx M' 3 ci) (hT : zCT M' (.ref a :: [v1, v2, v3]) nx h nx' P) (hs : (zS a).1 = ci) (ha : a < nx) (hc1 : v1.category = 1) (hc2 : v2.category = 1) (hc3 : v3.category = 1) (hst : (st.map fun v => v.category).sum ≤ 8) (h0 : n0 ≤ nx) (he1 : nx' = nx + zMc M') (he2 : zN nx' = zN nx + zMs M') (hg1 : nx - n0 + zMc M' ≤ zMc M) (hg2 : zN nx - zN n0 + zMs M' ≤ zMs M) (hr : (zMr M').isSome = false) (kk : ∀ h', P none h' → zJ X M n0 (pc + 3) ls st nx' h' Q) : zJ X M n0 pc ls (v3 :: v2 :: v1 :: .ref a :: st) nx h Q :=
  j_callV (As := [v1, v2, v3]) hd hl hT hs ha rfl (fun v hv => by
    simp only [List.mem_cons, List.not_mem_nil, or_false] at hv
    rcases hv with rfl | rfl | rfl <;> assumption) hst h0 he1 he2 hg1 hg2 (fun r h' hr2 hp => by
    cases r with
    | none => exact kk h' hp
    | some x => rw [hr] at hr2; cases hr2)
theorem j_callV4i {a idx ci : Nat} {v1 v2 v3 v4 : Value} {M' : zM} {nx' : Nat} {P : Option Int32 → zH → Prop} (hd : decode (zMb M) pc = .ok (.invokevirtual idx, 3)) (hl : zSV M idx M' 4 ci) (hT : zCT M' (.ref a :: [v1, v2, v3, v4]) nx h nx' P) (hs : (zS a).1 = ci) (ha : a < nx) (hc1 : v1.category = 1) (hc2 : v2.category = 1) (hc3 : v3.category = 1) (hc4 : v4.category = 1) (hst : (st.map fun v => v.category).sum ≤ 8) (h0 : n0 ≤ nx) (he1 : nx' = nx + zMc M') (he2 : zN nx' = zN nx + zMs M') (hg1 : nx - n0 + zMc M' ≤ zMc M) (hg2 : zN nx - zN n0 + zMs M' ≤ zMs M) (hr : (zMr M').isSome = true) (kk : ∀ x h', P (some x) h' → zJ X M n0 (pc + 3) ls (.int x :: st) nx' h' Q) : zJ X M n0 pc ls (v4 :: v3 :: v2 :: v1 :: .ref a :: st) nx h Q :=
  j_callV (As := [v1, v2, v3, v4]) hd hl hT hs ha rfl (fun v hv => by
    simp only [List.mem_cons, List.not_mem_nil, or_false] at hv
    rcases hv with rfl | rfl | rfl | rfl <;> assumption) hst h0 he1 he2 hg1 hg2 (fun r h' hr2 hp => by
    cases r with
    | none => rw [hr] at hr2; cases hr2
    | some x => exact kk x h' hp)
theorem j_callV4v {a idx ci : Nat} {v1 v2 v3 v4 : Value} {M' : zM} {nx' : Nat} {P : Option Int32 → zH → Prop} (hd : decode (zMb M) pc = .ok (.invokevirtual idx, 3)) (hl : zSV M idx M' 4 ci) (hT : zCT M' (.ref a :: [v1, v2, v3, v4]) nx h nx' P) (hs : (zS a).1 = ci) (ha : a < nx) (hc1 : v1.category = 1) (hc2 : v2.category = 1) (hc3 : v3.category = 1) (hc4 : v4.category = 1) (hst : (st.map fun v => v.category).sum ≤ 8) (h0 : n0 ≤ nx) (he1 : nx' = nx + zMc M') (he2 : zN nx' = zN nx + zMs M') (hg1 : nx - n0 + zMc M' ≤ zMc M) (hg2 : zN nx - zN n0 + zMs M' ≤ zMs M) (hr : (zMr M').isSome = false) (kk : ∀ h', P none h' → zJ X M n0 (pc + 3) ls st nx' h' Q) : zJ X M n0 pc ls (v4 :: v3 :: v2 :: v1 :: .ref a :: st) nx h Q :=
  j_callV (As := [v1, v2, v3, v4]) hd hl hT hs ha rfl (fun v hv => by
    simp only [List.mem_cons, List.not_mem_nil, or_false] at hv
    rcases hv with rfl | rfl | rfl | rfl <;> assumption) hst h0 he1 he2 hg1 hg2 (fun r h' hr2 hp => by
    cases r with
    | none => exact kk h' hp
    | some x => rw [hr] at hr2; cases hr2)
theorem j_callS0i {idx : Nat} {M' : zM} {nx' : Nat} {P : Option Int32 → zH → Prop} (hd : decode (zMb M) pc = .ok (.invokestatic idx, 3)) (hl : zSS M idx M' 0) (hT : zCT M' ([]) nx h nx' P)  (hst : (st.map fun v => v.category).sum ≤ 8) (h0 : n0 ≤ nx) (he1 : nx' = nx + zMc M') (he2 : zN nx' = zN nx + zMs M') (hg1 : nx - n0 + zMc M' ≤ zMc M) (hg2 : zN nx - zN n0 + zMs M' ≤ zMs M) (hr : (zMr M').isSome = true) (kk : ∀ x h', P (some x) h' → zJ X M n0 (pc + 3) ls (.int x :: st) nx' h' Q) : zJ X M n0 pc ls (st) nx h Q :=
  j_callS (As := []) hd hl hT rfl (fun v hv => by simp at hv) hst h0 he1 he2 hg1 hg2 (fun r h' hr2 hp => by
    cases r with
    | none => rw [hr] at hr2; cases hr2
    | some x => exact kk x h' hp)
theorem j_callS0v {idx : Nat} {M' : zM} {nx' : Nat} {P : Option Int32 → zH → Prop} (hd : decode (zMb M) pc = .ok (.invokestatic idx, 3)) (hl : zSS M idx M' 0) (hT : zCT M' ([]) nx h nx' P)  (hst : (st.map fun v => v.category).sum ≤ 8) (h0 : n0 ≤ nx) (he1 : nx' = nx + zMc M') (he2 : zN nx' = zN nx + zMs M') (hg1 : nx - n0 + zMc M' ≤ zMc M) (hg2 : zN nx - zN n0 + zMs M' ≤ zMs M) (hr : (zMr M').isSome = false) (kk : ∀ h', P none h' → zJ X M n0 (pc + 3) ls st nx' h' Q) : zJ X M n0 pc ls (st) nx h Q :=
  j_callS (As := []) hd hl hT rfl (fun v hv => by simp at hv) hst h0 he1 he2 hg1 hg2 (fun r h' hr2 hp => by
    cases r with
    | none => exact kk h' hp
    | some x => rw [hr] at hr2; cases hr2)
theorem j_callS1i {idx : Nat} {v1 : Value} {M' : zM} {nx' : Nat} {P : Option Int32 → zH → Prop} (hd : decode (zMb M) pc = .ok (.invokestatic idx, 3)) (hl : zSS M idx M' 1) (hT : zCT M' ([v1]) nx h nx' P) (hc1 : v1.category = 1) (hst : (st.map fun v => v.category).sum ≤ 8) (h0 : n0 ≤ nx) (he1 : nx' = nx + zMc M') (he2 : zN nx' = zN nx + zMs M') (hg1 : nx - n0 + zMc M' ≤ zMc M) (hg2 : zN nx - zN n0 + zMs M' ≤ zMs M) (hr : (zMr M').isSome = true) (kk : ∀ x h', P (some x) h' → zJ X M n0 (pc + 3) ls (.int x :: st) nx' h' Q) : zJ X M n0 pc ls (v1 :: st) nx h Q :=
  j_callS (As := [v1]) hd hl hT rfl (fun v hv => by
    simp only [List.mem_cons, List.not_mem_nil, or_false] at hv
    rcases hv with rfl <;> assumption) hst h0 he1 he2 hg1 hg2 (fun r h' hr2 hp => by
    cases r with
    | none => rw [hr] at hr2; cases hr2
    | some x => exact kk x h' hp)
theorem j_callS1v {idx : Nat} {v1 : Value} {M' : zM} {nx' : Nat} {P : Option Int32 → zH → Prop} (hd : decode (zMb M) pc = .ok (.invokestatic idx, 3)) (hl : zSS M idx M' 1) (hT : zCT M' ([v1]) nx h nx' P) (hc1 : v1.category = 1) (hst : (st.map fun v => v.category).sum ≤ 8) (h0 : n0 ≤ nx) (he1 : nx' = nx + zMc M') (he2 : zN nx' = zN nx + zMs M') (hg1 : nx - n0 + zMc M' ≤ zMc M) (hg2 : zN nx - zN n0 + zMs M' ≤ zMs M) (hr : (zMr M').isSome = false) (kk : ∀ h', P none h' → zJ X M n0 (pc + 3) ls st nx' h' Q) : zJ X M n0 pc ls (v1 :: st) nx h Q :=
  j_callS (As := [v1]) hd hl hT rfl (fun v hv => by
    simp only [List.mem_cons, List.not_mem_nil, or_false] at hv
    rcases hv with rfl <;> assumption) hst h0 he1 he2 hg1 hg2 (fun r h' hr2 hp => by
    cases r with
    | none => exact kk h' hp
    | some x => rw [hr] at hr2; cases hr2)
theorem j_callS2i {idx : Nat} {v1 v2 : Value} {M' : zM} {nx' : Nat} {P : Option Int32 → zH → Prop} (hd : decode (zMb M) pc = .ok (.invokestatic idx, 3)) (hl : zSS M idx M' 2) (hT : zCT M' ([v1, v2]) nx h nx' P) (hc1 : v1.category = 1) (hc2 : v2.category = 1) (hst : (st.map fun v => v.category).sum ≤ 8) (h0 : n0 ≤ nx) (he1 : nx' = nx + zMc M') (he2 : zN nx' = zN nx + zMs M') (hg1 : nx - n0 + zMc M' ≤ zMc M) (hg2 : zN nx - zN n0 + zMs M' ≤ zMs M) (hr : (zMr M').isSome = true) (kk : ∀ x h', P (some x) h' → zJ X M n0 (pc + 3) ls (.int x :: st) nx' h' Q) : zJ X M n0 pc ls (v2 :: v1 :: st) nx h Q :=
  j_callS (As := [v1, v2]) hd hl hT rfl (fun v hv => by
    simp only [List.mem_cons, List.not_mem_nil, or_false] at hv
    rcases hv with rfl | rfl <;> assumption) hst h0 he1 he2 hg1 hg2 (fun r h' hr2 hp => by
    cases r with
    | none => rw [hr] at hr2; cases hr2
    | some x => exact kk x h' hp)
theorem j_callS2v {idx : Nat} {v1 v2 : Value} {M' : zM} {nx' : Nat} {P : Option Int32 → zH → Prop} (hd : decode (zMb M) pc = .ok (.invokestatic idx, 3)) (hl : zSS M idx M' 2) (hT : zCT M' ([v1, v2]) nx h nx' P) (hc1 : v1.category = 1) (hc2 : v2.category = 1) (hst : (st.map fun v => v.category).sum ≤ 8) (h0 : n0 ≤ nx) (he1 : nx' = nx + zMc M') (he2 : zN nx' = zN nx + zMs M') (hg1 : nx - n0 + zMc M' ≤ zMc M) (hg2 : zN nx - zN n0 + zMs M' ≤ zMs M) (hr : (zMr M').isSome = false) (kk : ∀ h', P none h' → zJ X M n0 (pc + 3) ls st nx' h' Q) : zJ X M n0 pc ls (v2 :: v1 :: st) nx h Q :=
  j_callS (As := [v1, v2]) hd hl hT rfl (fun v hv => by
    simp only [List.mem_cons, List.not_mem_nil, or_false] at hv
    rcases hv with rfl | rfl <;> assumption) hst h0 he1 he2 hg1 hg2 (fun r h' hr2 hp => by
    cases r with
    | none => exact kk h' hp
    | some x => rw [hr] at hr2; cases hr2)
theorem j_callS3i {idx : Nat} {v1 v2 v3 : Value} {M' : zM} {nx' : Nat} {P : Option Int32 → zH → Prop} (hd : decode (zMb M) pc = .ok (.invokestatic idx, 3)) (hl : zSS M idx M' 3) (hT : zCT M' ([v1, v2, v3]) nx h nx' P) (hc1 : v1.category = 1) (hc2 : v2.category = 1) (hc3 : v3.category = 1) (hst : (st.map fun v => v.category).sum ≤ 8) (h0 : n0 ≤ nx) (he1 : nx' = nx + zMc M') (he2 : zN nx' = zN nx + zMs M') (hg1 : nx - n0 + zMc M' ≤ zMc M) (hg2 : zN nx - zN n0 + zMs M' ≤ zMs M) (hr : (zMr M').isSome = true) (kk : ∀ x h', P (some x) h' → zJ X M n0 (pc + 3) ls (.int x :: st) nx' h' Q) : zJ X M n0 pc ls (v3 :: v2 :: v1 :: st) nx h Q :=
  j_callS (As := [v1, v2, v3]) hd hl hT rfl (fun v hv => by
    simp only [List.mem_cons, List.not_mem_nil, or_false] at hv
    rcases hv with rfl | rfl | rfl <;> assumption) hst h0 he1 he2 hg1 hg2 (fun r h' hr2 hp => by
    cases r with
    | none => rw [hr] at hr2; cases hr2
    | some x => exact kk x h' hp)
theorem j_callS3v {idx : Nat} {v1 v2 v3 : Value} {M' : zM} {nx' : Nat} {P : Option Int32 → zH → Prop} (hd : decode (zMb M) pc = .ok (.invokestatic idx, 3)) (hl : zSS M idx M' 3) (hT : zCT M' ([v1, v2, v3]) nx h nx' P) (hc1 : v1.category = 1) (hc2 : v2.category = 1) (hc3 : v3.category = 1) (hst : (st.map fun v => v.category).sum ≤ 8) (h0 : n0 ≤ nx) (he1 : nx' = nx + zMc M') (he2 : zN nx' = zN nx + zMs M') (hg1 : nx - n0 + zMc M' ≤ zMc M) (hg2 : zN nx - zN n0 + zMs M' ≤ zMs M) (hr : (zMr M').isSome = false) (kk : ∀ h', P none h' → zJ X M n0 (pc + 3) ls st nx' h' Q) : zJ X M n0 pc ls (v3 :: v2 :: v1 :: st) nx h Q :=
  j_callS (As := [v1, v2, v3]) hd hl hT rfl (fun v hv => by
    simp only [List.mem_cons, List.not_mem_nil, or_false] at hv
    rcases hv with rfl | rfl | rfl <;> assumption) hst h0 he1 he2 hg1 hg2 (fun r h' hr2 hp => by
    cases r with
    | none => exact kk h' hp
    | some x => rw [hr] at hr2; cases hr2)
theorem j_callS4i {idx : Nat} {v1 v2 v3 v4 : Value} {M' : zM} {nx' : Nat} {P : Option Int32 → zH → Prop} (hd : decode (zMb M) pc = .ok (.invokestatic idx, 3)) (hl : zSS M idx M' 4) (hT : zCT M' ([v1, v2, v3, v4]) nx h nx' P) (hc1 : v1.category = 1) (hc2 : v2.category = 1) (hc3 : v3.category = 1) (hc4 : v4.category = 1) (hst : (st.map fun v => v.category).sum ≤ 8) (h0 : n0 ≤ nx) (he1 : nx' = nx + zMc M') (he2 : zN nx' = zN nx + zMs M') (hg1 : nx - n0 + zMc M' ≤ zMc M) (hg2 : zN nx - zN n0 + zMs M' ≤ zMs M) (hr : (zMr M').isSome = true) (kk : ∀ x h', P (some x) h' → zJ X M n0 (pc + 3) ls (.int x :: st) nx' h' Q) : zJ X M n0 pc ls (v4 :: v3 :: v2 :: v1 :: st) nx h Q :=
  j_callS (As := [v1, v2, v3, v4]) hd hl hT rfl (fun v hv => by
    simp only [List.mem_cons, List.not_mem_nil, or_false] at hv
    rcases hv with rfl | rfl | rfl | rfl <;> assumption) hst h0 he1 he2 hg1 hg2 (fun r h' hr2 hp => by
    cases r with
    | none => rw [hr] at hr2; cases hr2
    | some x => exact kk x h' hp)
theorem j_callS4v {idx : Nat} {v1 v2 v3 v4 : Value} {M' : zM} {nx' : Nat} {P : Option Int32 → zH → Prop} (hd : decode (zMb M) pc = .ok (.invokestatic idx, 3)) (hl : zSS M idx M' 4) (hT : zCT M' ([v1, v2, v3, v4]) nx h nx' P) (hc1 : v1.category = 1) (hc2 : v2.category = 1) (hc3 : v3.category = 1) (hc4 : v4.category = 1) (hst : (st.map fun v => v.category).sum ≤ 8) (h0 : n0 ≤ nx) (he1 : nx' = nx + zMc M') (he2 : zN nx' = zN nx + zMs M') (hg1 : nx - n0 + zMc M' ≤ zMc M) (hg2 : zN nx - zN n0 + zMs M' ≤ zMs M) (hr : (zMr M').isSome = false) (kk : ∀ h', P none h' → zJ X M n0 (pc + 3) ls st nx' h' Q) : zJ X M n0 pc ls (v4 :: v3 :: v2 :: v1 :: st) nx h Q :=
  j_callS (As := [v1, v2, v3, v4]) hd hl hT rfl (fun v hv => by
    simp only [List.mem_cons, List.not_mem_nil, or_false] at hv
    rcases hv with rfl | rfl | rfl | rfl <;> assumption) hst h0 he1 he2 hg1 hg2 (fun r h' hr2 hp => by
    cases r with
    | none => exact kk h' hp
    | some x => rw [hr] at hr2; cases hr2)
theorem j_callS5i {idx : Nat} {v1 v2 v3 v4 v5 : Value} {M' : zM} {nx' : Nat} {P : Option Int32 → zH → Prop} (hd : decode (zMb M) pc = .ok (.invokestatic idx, 3)) (hl : zSS M idx M' 5) (hT : zCT M' ([v1, v2, v3, v4, v5]) nx h nx' P) (hc1 : v1.category = 1) (hc2 : v2.category = 1) (hc3 : v3.category = 1) (hc4 : v4.category = 1) (hc5 : v5.category = 1) (hst : (st.map fun v => v.category).sum ≤ 8) (h0 : n0 ≤ nx) (he1 : nx' = nx + zMc M') (he2 : zN nx' = zN nx + zMs M') (hg1 : nx - n0 + zMc M' ≤ zMc M) (hg2 : zN nx - zN n0 + zMs M' ≤ zMs M) (hr : (zMr M').isSome = true) (kk : ∀ x h', P (some x) h' → zJ X M n0 (pc + 3) ls (.int x :: st) nx' h' Q) : zJ X M n0 pc ls (v5 :: v4 :: v3 :: v2 :: v1 :: st) nx h Q :=
  j_callS (As := [v1, v2, v3, v4, v5]) hd hl hT rfl (fun v hv => by
    simp only [List.mem_cons, List.not_mem_nil, or_false] at hv
    rcases hv with rfl | rfl | rfl | rfl | rfl <;> assumption) hst h0 he1 he2 hg1 hg2 (fun r h' hr2 hp => by
    cases r with
    | none => rw [hr] at hr2; cases hr2
    | some x => exact kk x h' hp)
theorem j_callS5v {idx : Nat} {v1 v2 v3 v4 v5 : Value} {M' : zM} {nx' : Nat} {P : Option Int32 → zH → Prop} (hd : decode (zMb M) pc = .ok (.invokestatic idx, 3)) (hl : zSS M idx M' 5) (hT : zCT M' ([v1, v2, v3, v4, v5]) nx h nx' P) (hc1 : v1.category = 1) (hc2 : v2.category = 1) (hc3 : v3.category = 1) (hc4 : v4.category = 1) (hc5 : v5.category = 1) (hst : (st.map fun v => v.category).sum ≤ 8) (h0 : n0 ≤ nx) (he1 : nx' = nx + zMc M') (he2 : zN nx' = zN nx + zMs M') (hg1 : nx - n0 + zMc M' ≤ zMc M) (hg2 : zN nx - zN n0 + zMs M' ≤ zMs M) (hr : (zMr M').isSome = false) (kk : ∀ h', P none h' → zJ X M n0 (pc + 3) ls st nx' h' Q) : zJ X M n0 pc ls (v5 :: v4 :: v3 :: v2 :: v1 :: st) nx h Q :=
  j_callS (As := [v1, v2, v3, v4, v5]) hd hl hT rfl (fun v hv => by
    simp only [List.mem_cons, List.not_mem_nil, or_false] at hv
    rcases hv with rfl | rfl | rfl | rfl | rfl <;> assumption) hst h0 he1 he2 hg1 hg2 (fun r h' hr2 hp => by
    cases r with
    | none => exact kk h' hp
    | some x => rw [hr] at hr2; cases hr2)
theorem j_callS6i {idx : Nat} {v1 v2 v3 v4 v5 v6 : Value} {M' : zM} {nx' : Nat} {P : Option Int32 → zH → Prop} (hd : decode (zMb M) pc = .ok (.invokestatic idx, 3)) (hl : zSS M idx M' 6) (hT : zCT M' ([v1, v2, v3, v4, v5, v6]) nx h nx' P) (hc1 : v1.category = 1) (hc2 : v2.category = 1) (hc3 : v3.category = 1) (hc4 : v4.category = 1) (hc5 : v5.category = 1) (hc6 : v6.category = 1) (hst : (st.map fun v => v.category).sum ≤ 8) (h0 : n0 ≤ nx) (he1 : nx' = nx + zMc M') (he2 : zN nx' = zN nx + zMs M') (hg1 : nx - n0 + zMc M' ≤ zMc M) (hg2 : zN nx - zN n0 + zMs M' ≤ zMs M) (hr : (zMr M').isSome = true) (kk : ∀ x h', P (some x) h' → zJ X M n0 (pc + 3) ls (.int x :: st) nx' h' Q) : zJ X M n0 pc ls (v6 :: v5 :: v4 :: v3 :: v2 :: v1 :: st) nx h Q :=
  j_callS (As := [v1, v2, v3, v4, v5, v6]) hd hl hT rfl (fun v hv => by
    simp only [List.mem_cons, List.not_mem_nil, or_false] at hv
    rcases hv with rfl | rfl | rfl | rfl | rfl | rfl <;> assumption) hst h0 he1 he2 hg1 hg2 (fun r h' hr2 hp => by
    cases r with
    | none => rw [hr] at hr2; cases hr2
    | some x => exact kk x h' hp)
theorem j_callS6v {idx : Nat} {v1 v2 v3 v4 v5 v6 : Value} {M' : zM} {nx' : Nat} {P : Option Int32 → zH → Prop} (hd : decode (zMb M) pc = .ok (.invokestatic idx, 3)) (hl : zSS M idx M' 6) (hT : zCT M' ([v1, v2, v3, v4, v5, v6]) nx h nx' P) (hc1 : v1.category = 1) (hc2 : v2.category = 1) (hc3 : v3.category = 1) (hc4 : v4.category = 1) (hc5 : v5.category = 1) (hc6 : v6.category = 1) (hst : (st.map fun v => v.category).sum ≤ 8) (h0 : n0 ≤ nx) (he1 : nx' = nx + zMc M') (he2 : zN nx' = zN nx + zMs M') (hg1 : nx - n0 + zMc M' ≤ zMc M) (hg2 : zN nx - zN n0 + zMs M' ≤ zMs M) (hr : (zMr M').isSome = false) (kk : ∀ h', P none h' → zJ X M n0 (pc + 3) ls st nx' h' Q) : zJ X M n0 pc ls (v6 :: v5 :: v4 :: v3 :: v2 :: v1 :: st) nx h Q :=
  j_callS (As := [v1, v2, v3, v4, v5, v6]) hd hl hT rfl (fun v hv => by
    simp only [List.mem_cons, List.not_mem_nil, or_false] at hv
    rcases hv with rfl | rfl | rfl | rfl | rfl | rfl <;> assumption) hst h0 he1 he2 hg1 hg2 (fun r h' hr2 hp => by
    cases r with
    | none => exact kk h' hp
    | some x => rw [hr] at hr2; cases hr2)
theorem j_callS7i {idx : Nat} {v1 v2 v3 v4 v5 v6 v7 : Value} {M' : zM} {nx' : Nat} {P : Option Int32 → zH → Prop} (hd : decode (zMb M) pc = .ok (.invokestatic idx, 3)) (hl : zSS M idx M' 7) (hT : zCT M' ([v1, v2, v3, v4, v5, v6, v7]) nx h nx' P) (hc1 : v1.category = 1) (hc2 : v2.category = 1) (hc3 : v3.category = 1) (hc4 : v4.category = 1) (hc5 : v5.category = 1) (hc6 : v6.category = 1) (hc7 : v7.category = 1) (hst : (st.map fun v => v.category).sum ≤ 8) (h0 : n0 ≤ nx) (he1 : nx' = nx + zMc M') (he2 : zN nx' = zN nx + zMs M') (hg1 : nx - n0 + zMc M' ≤ zMc M) (hg2 : zN nx - zN n0 + zMs M' ≤ zMs M) (hr : (zMr M').isSome = true) (kk : ∀ x h', P (some x) h' → zJ X M n0 (pc + 3) ls (.int x :: st) nx' h' Q) : zJ X M n0 pc ls (v7 :: v6 :: v5 :: v4 :: v3 :: v2 :: v1 :: st) nx h Q :=
  j_callS (As := [v1, v2, v3, v4, v5, v6, v7]) hd hl hT rfl (fun v hv => by
    simp only [List.mem_cons, List.not_mem_nil, or_false] at hv
    rcases hv with rfl | rfl | rfl | rfl | rfl | rfl | rfl <;> assumption) hst h0 he1 he2 hg1 hg2 (fun r h' hr2 hp => by
    cases r with
    | none => rw [hr] at hr2; cases hr2
    | some x => exact kk x h' hp)
theorem j_callS7v {idx : Nat} {v1 v2 v3 v4 v5 v6 v7 : Value} {M' : zM} {nx' : Nat} {P : Option Int32 → zH → Prop} (hd : decode (zMb M) pc = .ok (.invokestatic idx, 3)) (hl : zSS M idx M' 7) (hT : zCT M' ([v1, v2, v3, v4, v5, v6, v7]) nx h nx' P) (hc1 : v1.category = 1) (hc2 : v2.category = 1) (hc3 : v3.category = 1) (hc4 : v4.category = 1) (hc5 : v5.category = 1) (hc6 : v6.category = 1) (hc7 : v7.category = 1) (hst : (st.map fun v => v.category).sum ≤ 8) (h0 : n0 ≤ nx) (he1 : nx' = nx + zMc M') (he2 : zN nx' = zN nx + zMs M') (hg1 : nx - n0 + zMc M' ≤ zMc M) (hg2 : zN nx - zN n0 + zMs M' ≤ zMs M) (hr : (zMr M').isSome = false) (kk : ∀ h', P none h' → zJ X M n0 (pc + 3) ls st nx' h' Q) : zJ X M n0 pc ls (v7 :: v6 :: v5 :: v4 :: v3 :: v2 :: v1 :: st) nx h Q :=
  j_callS (As := [v1, v2, v3, v4, v5, v6, v7]) hd hl hT rfl (fun v hv => by
    simp only [List.mem_cons, List.not_mem_nil, or_false] at hv
    rcases hv with rfl | rfl | rfl | rfl | rfl | rfl | rfl <;> assumption) hst h0 he1 he2 hg1 hg2 (fun r h' hr2 hp => by
    cases r with
    | none => exact kk h' hp
    | some x => rw [hr] at hr2; cases hr2)
theorem j_callS8i {idx : Nat} {v1 v2 v3 v4 v5 v6 v7 v8 : Value} {M' : zM} {nx' : Nat} {P : Option Int32 → zH → Prop} (hd : decode (zMb M) pc = .ok (.invokestatic idx, 3)) (hl : zSS M idx M' 8) (hT : zCT M' ([v1, v2, v3, v4, v5, v6, v7, v8]) nx h nx' P) (hc1 : v1.category = 1) (hc2 : v2.category = 1) (hc3 : v3.category = 1) (hc4 : v4.category = 1) (hc5 : v5.category = 1) (hc6 : v6.category = 1) (hc7 : v7.category = 1) (hc8 : v8.category = 1) (hst : (st.map fun v => v.category).sum ≤ 8) (h0 : n0 ≤ nx) (he1 : nx' = nx + zMc M') (he2 : zN nx' = zN nx + zMs M') (hg1 : nx - n0 + zMc M' ≤ zMc M) (hg2 : zN nx - zN n0 + zMs M' ≤ zMs M) (hr : (zMr M').isSome = true) (kk : ∀ x h', P (some x) h' → zJ X M n0 (pc + 3) ls (.int x :: st) nx' h' Q) : zJ X M n0 pc ls (v8 :: v7 :: v6 :: v5 :: v4 :: v3 :: v2 :: v1 :: st) nx h Q :=
  j_callS (As := [v1, v2, v3, v4, v5, v6, v7, v8]) hd hl hT rfl (fun v hv => by
    simp only [List.mem_cons, List.not_mem_nil, or_false] at hv
    rcases hv with rfl | rfl | rfl | rfl | rfl | rfl | rfl | rfl <;> assumption) hst h0 he1 he2 hg1 hg2 (fun r h' hr2 hp => by
    cases r with
    | none => rw [hr] at hr2; cases hr2
    | some x => exact kk x h' hp)
theorem j_callS8v {idx : Nat} {v1 v2 v3 v4 v5 v6 v7 v8 : Value} {M' : zM} {nx' : Nat} {P : Option Int32 → zH → Prop} (hd : decode (zMb M) pc = .ok (.invokestatic idx, 3)) (hl : zSS M idx M' 8) (hT : zCT M' ([v1, v2, v3, v4, v5, v6, v7, v8]) nx h nx' P) (hc1 : v1.category = 1) (hc2 : v2.category = 1) (hc3 : v3.category = 1) (hc4 : v4.category = 1) (hc5 : v5.category = 1) (hc6 : v6.category = 1) (hc7 : v7.category = 1) (hc8 : v8.category = 1) (hst : (st.map fun v => v.category).sum ≤ 8) (h0 : n0 ≤ nx) (he1 : nx' = nx + zMc M') (he2 : zN nx' = zN nx + zMs M') (hg1 : nx - n0 + zMc M' ≤ zMc M) (hg2 : zN nx - zN n0 + zMs M' ≤ zMs M) (hr : (zMr M').isSome = false) (kk : ∀ h', P none h' → zJ X M n0 (pc + 3) ls st nx' h' Q) : zJ X M n0 pc ls (v8 :: v7 :: v6 :: v5 :: v4 :: v3 :: v2 :: v1 :: st) nx h Q :=
  j_callS (As := [v1, v2, v3, v4, v5, v6, v7, v8]) hd hl hT rfl (fun v hv => by
    simp only [List.mem_cons, List.not_mem_nil, or_false] at hv
    rcases hv with rfl | rfl | rfl | rfl | rfl | rfl | rfl | rfl <;> assumption) hst h0 he1 he2 hg1 hg2 (fun r h' hr2 hp => by
    cases r with
    | none => exact kk h' hp
    | some x => rw [hr] at hr2; cases hr2)
theorem j_callS9i {idx : Nat} {v1 v2 v3 v4 v5 v6 v7 v8 v9 : Value} {M' : zM} {nx' : Nat} {P : Option Int32 → zH → Prop} (hd : decode (zMb M) pc = .ok (.invokestatic idx, 3)) (hl : zSS M idx M' 9) (hT : zCT M' ([v1, v2, v3, v4, v5, v6, v7, v8, v9]) nx h nx' P) (hc1 : v1.category = 1) (hc2 : v2.category = 1) (hc3 : v3.category = 1) (hc4 : v4.category = 1) (hc5 : v5.category = 1) (hc6 : v6.category = 1) (hc7 : v7.category = 1) (hc8 : v8.category = 1) (hc9 : v9.category = 1) (hst : (st.map fun v => v.category).sum ≤ 8) (h0 : n0 ≤ nx) (he1 : nx' = nx + zMc M') (he2 : zN nx' = zN nx + zMs M') (hg1 : nx - n0 + zMc M' ≤ zMc M) (hg2 : zN nx - zN n0 + zMs M' ≤ zMs M) (hr : (zMr M').isSome = true) (kk : ∀ x h', P (some x) h' → zJ X M n0 (pc + 3) ls (.int x :: st) nx' h' Q) : zJ X M n0 pc ls (v9 :: v8 :: v7 :: v6 :: v5 :: v4 :: v3 :: v2 :: v1 :: st) nx h Q :=
  j_callS (As := [v1, v2, v3, v4, v5, v6, v7, v8, v9]) hd hl hT rfl (fun v hv => by
    simp only [List.mem_cons, List.not_mem_nil, or_false] at hv
    rcases hv with rfl | rfl | rfl | rfl | rfl | rfl | rfl | rfl | rfl <;> assumption) hst h0 he1 he2 hg1 hg2 (fun r h' hr2 hp => by
    cases r with
    | none => rw [hr] at hr2; cases hr2
    | some x => exact kk x h' hp)
theorem j_callS9v {idx : Nat} {v1 v2 v3 v4 v5 v6 v7 v8 v9 : Value} {M' : zM} {nx' : Nat} {P : Option Int32 → zH → Prop} (hd : decode (zMb M) pc = .ok (.invokestatic idx, 3)) (hl : zSS M idx M' 9) (hT : zCT M' ([v1, v2, v3, v4, v5, v6, v7, v8, v9]) nx h nx' P) (hc1 : v1.category = 1) (hc2 : v2.category = 1) (hc3 : v3.category = 1) (hc4 : v4.category = 1) (hc5 : v5.category = 1) (hc6 : v6.category = 1) (hc7 : v7.category = 1) (hc8 : v8.category = 1) (hc9 : v9.category = 1) (hst : (st.map fun v => v.category).sum ≤ 8) (h0 : n0 ≤ nx) (he1 : nx' = nx + zMc M') (he2 : zN nx' = zN nx + zMs M') (hg1 : nx - n0 + zMc M' ≤ zMc M) (hg2 : zN nx - zN n0 + zMs M' ≤ zMs M) (hr : (zMr M').isSome = false) (kk : ∀ h', P none h' → zJ X M n0 (pc + 3) ls st nx' h' Q) : zJ X M n0 pc ls (v9 :: v8 :: v7 :: v6 :: v5 :: v4 :: v3 :: v2 :: v1 :: st) nx h Q :=
  j_callS (As := [v1, v2, v3, v4, v5, v6, v7, v8, v9]) hd hl hT rfl (fun v hv => by
    simp only [List.mem_cons, List.not_mem_nil, or_false] at hv
    rcases hv with rfl | rfl | rfl | rfl | rfl | rfl | rfl | rfl | rfl <;> assumption) hst h0 he1 he2 hg1 hg2 (fun r h' hr2 hp => by
    cases r with
    | none => exact kk h' hp
    | some x => rw [hr] at hr2; cases hr2)
theorem z_cpy {g0 g : Nat → Value} {n : Nat} : va_cpy (fun k => zI (g0 k)) (fun k => zI (g k)) 0 0 n = fun k => zI (if k < n then .int (zI (g0 k)) else g k) := by
  funext k
  unfold va_cpy
  by_cases hk : k < n
  · rw [if_pos ⟨Nat.zero_le k, by omega⟩, if_pos hk]
    simp [zI]
  · rw [if_neg (by omega), if_neg hk]
set_option maxHeartbeats 1000000 in
/-- System.arraycopy of the first n ints, in a method that has made nothing -/
theorem j_acopy {idx a0 a m0 m1 n : Nat} {i : Int32} (hd : decode (zMb M) pc = .ok (.invokestatic idx, 3)) (h1 : Cond.methodLink (zMo M) idx arraycopyName ∈ zWd) (h2 : Cond.native arraycopyName ∈ zWd) (h3 : Cond.static arraycopyName ∈ zWd) (h4 : Cond.initialized "java/lang/System" ∈ zWd) (hs0 : zS a0 = (10, m0)) (hs1 : zS a = (10, m1)) (ha0 : a0 < nx) (ha : a < nx) (hi1 : ¬ i < 0) (hi2 : i.toNatClampNeg = n) (hm0 : n ≤ m0) (hm1 : n ≤ m1) (hh : 1 ≤ zMh M) (hst : (st.map fun v => v.category).sum ≤ 8) (hnn : nx = n0)
    (kk : zJ X M n0 (pc + 3) ls st nx (va_up h a (fun k => if k < n then .int (zI (h a0 k)) else h a k)) Q) : zJ X M n0 pc ls (.int i :: .int 0 :: .ref a :: .int 0 :: .ref a0 :: st) nx h Q := by
  intro p l e R s m args below meth c D cA b z H locs Qm la C hX hll hw hS hend
  obtain ⟨hx, hb, hml, hown, hini, hts, hnw, hao, hK, hz, hR⟩ := id C
  obtain ⟨hsz, hnx, hP⟩ := id hw
  have he0 : (zW cA b z nx h)[a0]? = some (z + a0, .inl (cA 0, m0, .inl (fun k => zI (h a0 k)))) := by rw [zW_get ha0, zE_num (t := 0) hs0 (by omega)]
  have he : (zW cA b z nx h)[a]? = some (z + a, .inl (cA 0, m1, .inl (fun k => zI (h a k)))) := by rw [zW_get ha, zE_num (t := 0) hs1 (by omega)]
  have ht : (zT cA)[0]? = some (cA 0, .int) := rfl
  show W p l e R s m args below meth c H locs _ _ Qm (F0 m pc la (.int i :: .int 0 :: zV b z (.ref a) :: .int 0 :: zV b z (.ref a0) :: st.map (zV b z)))
  rw [zV_ref ha hnx, zV_ref ha0 hnx]
  intro T hT X0
  have hs1' : s.heap.size = H.size := by
    have q1 : H.size ≤ s.heap.size + (nx - n0) := by rw [← hT]; exact X0.same.2.2.1
    have q2 := hS.1
    omega
  have z0 : (0 : Int32).toNatClampNeg = 0 := by decide
  have hw7 : nativeFrameWords "java/lang/System" "arraycopy" 5 + 11 ≤ 22 := by decide
  refine va_copyi hx hb (by rw [hml]; exact hll.1.symm) hown (hts _ h1) (hts _ h2) (hts _ h3) (hts _ h4) hK hP zW_D hS a0 a 0 0 he0 he ht ht rfl (by decide) (by decide) hi1 (by rw [z0, hi2]; omega) (by rw [z0, hi2]; omega) (fun _ _ => rfl) (by omega) (by rw [z_sum]; omega) hd (fun H1 locs1 hP1 hD1 hS1 => ?_) T hT X0
  intro T1 hT1 X1
  have z1 : H1.size = H.size := by
    have q1 : H1.size ≤ s.heap.size + (nx - n0) := by rw [← hT1]; exact X1.same.2.2.1
    have q2 := hS1.1
    omega
  rw [z0, hi2, z_cpy, ← zE_num (cA := cA) (b := b) (z := z) (g := fun k => if k < n then .int (zI (h a0 k)) else h a k) (t := 0) hs1 (by omega), zW_set] at hP1
  exact kk p l e R s m args below meth c D cA b z H1 locs1 Qm la C hX hll ⟨by rw [z1]; exact hsz, hnx, hP1⟩ hS1 hend T1 hT1 X1
/-- of the method that reads the script -/
def zOc (M : zM) (n : Nat) : Prop := plainFor (zMn M) = true ∧ n ≤ zMl M ∧ zMl M ≤ 14 ∧ Cond.code (zMn M) (zMb M) (zMl M) (zMr M) ∈ zWd ∧ Cond.initialized (zMo M) ∈ zWd ∧ (zMo M ≠ "java/lang/invoke/MethodHandle" ∧ zMo M ≠ "java/lang/invoke/VarHandle")
set_option maxHeartbeats 1000000 in
theorem zMetX {X : Nat × (Nat → Int32)} {M : zM} {as : List Value} {nx nx' : Nat} {h : zH} {P : Option Int32 → zH → Prop} (hO : zOc M as.length) (hc : ∀ v ∈ as, v.category = 1) (hf1 : nx' - nx ≤ zMc M) (hf2 : zN nx' - zN nx ≤ zMs M) (hT : ∀ Q : zQt, (∀ r h', P r h' → Q r nx' h') → zJ X M nx 0 (as ++ List.replicate (zMl M - as.length) .null) [] nx h Q) (l : Launch) (D : va_G) (cA : Nat → ClassId) (b z : Nat) :
    Met l (zMn M) (zWs M) (zRm M) (va_Pc (as.map (zV b z)) (fun U => (zR D cA b z nx h U.heap ∧ va_K D vwCl (zT cA) U ∧ (∀ w ∈ zNw, va_Nw w U) ∧ (∀ C ∈ zAo, va_AO C U)) ∧ va_X b X.1 X.2 U U.heap ∧ b < U.heap.size ∧ b < z)) (zPs D cA b z (zMr M) nx' P) (zMc M) (zMs M) (fun q => z ≤ q) := by
  obtain ⟨hpl, hln, hml11, hcw, hiw, hnm⟩ := hO
  refine zMet_of (cc := zMb M) (maxL := zMl M) (ret := zMr M) hpl rfl ?_
  intro p e s m args below meth c s₁ B hml hv
  obtain ⟨rfl, ⟨hR, hK, hN, hA⟩, hXX⟩ := hv
  have hts := atoms_spec (ws := zWs M) B.pre
  have hlocks := B.notSynchronized
  have hrt := B.returns
  rw [lg_entry_eq]
  have hsz := hR.1
  have hC : zCx M p (headSpec (zWs M) (zRm M)).room s m (as.map (zV b z)).toArray meth c D cA z :=
    ⟨B.exec, B.bytes, hml, findClass_of_methodNamed B.named, fun q => by rw [← q]; exact (name_of_methodNamed B.named B.method).1, fun w hw => hts w (List.mem_cons_of_mem _ hw), hN, hA, hK, by omega, Nat.le_refl _, Nat.le_refl _, Nat.le_refl _, Nat.le_refl _⟩
  have K := hT (fun v n g => n = nx' ∧ P v g) (fun r h' q => ⟨rfl, q⟩) p l e (headSpec (zWs M) (zRm M)).room s m (as.map (zV b z)).toArray below meth c D cA b z s.heap [] (MQ below (zPs D cA b z (zMr M) nx' P) (as.map (zV b z)).toArray s (zMc M) (zMs M) (fun q => z ≤ q)) _ hC (fun _ => hXX) (z_entry hc hln) hR va_S.rf ?_
  · exact W.cs (Nat.sub_self nx).symm (Nat.sub_self _).symm K
  · rintro v n g H' locs' pc' la' ⟨rfl, hPv⟩ hret hR' hS'
    refine W.widen hf1 hf2 ?_
    cases v with
    | none =>
      obtain ⟨hd, hr2⟩ := hret
      have e9 : zPs D cA b z (zMr M) n P = zPs D cA b z none n P := by rw [hr2]
      rw [e9]
      exact W.vret B.exec B.bytes (hrt.trans hr2) (fun t ht hW => ⟨⟨g, rfl, hPv, by show zR D cA b z n g t.heap; rw [ht]; exact hR'⟩, hS'.F ht⟩) hS'.2.2 hd
    | some x =>
      obtain ⟨hd, ty, hr2, hnr⟩ := hret
      have e9 : zPs D cA b z (zMr M) n P = zPs D cA b z (some ty) n P := by rw [hr2]
      rw [e9]
      exact W.zret (v := x) B.exec B.bytes (hrt.trans hr2) hnr (fun t ht hW => ⟨⟨x, g, rfl, hPv, by show zR D cA b z n g t.heap; rw [ht]; exact hR'⟩, hS'.F ht⟩) hS'.2.2 hd
theorem z_blindX {X : Nat × (Nat → Int32)} {as : List Value} {D : va_G} {cA : Nat → ClassId} {b z nx : Nat} {h : zH} : FrameBlind (va_Pc as (fun U => (zR D cA b z nx h U.heap ∧ va_K D vwCl (zT cA) U ∧ (∀ w ∈ zNw, va_Nw w U) ∧ (∀ C ∈ zAo, va_AO C U)) ∧ va_X b X.1 X.2 U U.heap ∧ b < U.heap.size ∧ b < z)) :=
  fun a U g mk q => ⟨q.1, ⟨q.2.1.1, va_K.moved (u := U) (U := U.calling g mk a) (Vm.Alike.refl U.vm) q.2.1.2.1, fun w hw => va_Nw.same (u := U) (U := U.calling g mk a) (zNw_tab hw) rfl (q.2.1.2.2.1 w hw), fun C hC => va_AO.moved (u := U) (U := U.calling g mk a) (Vm.Alike.refl U.vm) (q.2.1.2.2.2 C hC)⟩, va_X.moved (u := U) (U := U.calling g mk a) (Vm.Alike.refl U.vm) q.2.2.1, q.2.2.2⟩
theorem z_preX {X : Nat × (Nat → Int32)} {as : List Value} {D : va_G} {cA : Nat → ClassId} {b z nx : Nat} {h : zH} {s : State} {H : Heap} {locs : List Loc} (hw : zR D cA b z nx h H) (hK : va_K D vwCl (zT cA) s) (hN : ∀ w ∈ zNw, va_Nw w s) (hA : ∀ C ∈ zAo, va_AO C s) (hX : va_X b X.1 X.2 s s.heap ∧ b < s.heap.size ∧ b < z) (hS : va_S (fun q => z ≤ q) s.heap H locs) : ∀ U : State, U.heap = H → s.WarmedH U.vm → va_Pc as (fun U => (zR D cA b z nx h U.heap ∧ va_K D vwCl (zT cA) U ∧ (∀ w ∈ zNw, va_Nw w U) ∧ (∀ C ∈ zAo, va_AO C U)) ∧ va_X b X.1 X.2 U U.heap ∧ b < U.heap.size ∧ b < z) as.toArray U :=
  fun U hU hW => ⟨rfl, ⟨by rw [hU]; exact hw, va_K.moved hW.alike hK, fun w h => zNw_warm h hW (hN w h), fun C hC => va_AO.moved hW.alike (hA C hC)⟩, by rw [hU]; exact va_X.moved hW.alike (va_X.kept hX.1 (hS.2.1 b hX.2.1 (by omega))), by rw [hU]; exact Nat.lt_of_lt_of_le hX.2.1 hS.1, hX.2.2⟩
set_option maxHeartbeats 2000000 in
/-- the call of the method that reads the script -/
theorem j_cell {M' : zM} {idx : Nat} {i r : Int32} {ty : FieldType} (hd : decode (zMb M) pc = .ok (.invokestatic idx, 3)) (hlw : zLw M) (hO : zOc M' 2) (hpar : (parseMethodDescriptor (zMn M').desc).map (fun d => d.parameters.length) = some 2) (hh : zMh M' + 1 ≤ zMh M) (hlk : Cond.methodLink (zMo M) idx (zMn M') ∈ zWd) (hstt : Cond.static (zMn M') ∈ zWd) (hz : zMc M' = 0 ∧ zMs M' = 0) (hr : zMr M' = some ty) (hst : (st.map fun v => v.category).sum ≤ 8) (h0 : n0 ≤ nx) (hg1 : nx - n0 ≤ zMc M) (hg2 : zN nx - zN n0 ≤ zMs M)
    (hT : ∀ Q : zQt, Q (some r) nx h → zJ X M' nx 0 ([.ref 1000, .int i] ++ List.replicate (zMl M' - 2) .null) [] nx h Q) (kk : zJ X M n0 (pc + 3) ls (.int r :: st) nx h Q) : zJ X M n0 pc ls (.int i :: .ref 1000 :: st) nx h Q := by
  intro p l e R s m args below meth c D cA b z H locs Qm la C hX hll hw hS hend
  obtain ⟨hx, hb, hml, hown, hini, hts, hnw, hao, hK, hz0, hR⟩ := id C
  obtain ⟨hsz, hnx, hP⟩ := id hw
  obtain ⟨hpl, hln, hml11, hcw, hiw, hnm⟩ := id hO
  have hM := zMetX (X := X) (M := M') (as := [.ref 1000, .int i]) (nx := nx) (nx' := nx) (h := h) (P := fun v h' => v = some r ∧ h' = h) hO (fun v hv => by
    simp only [List.mem_cons, List.not_mem_nil, or_false] at hv
    rcases hv with rfl | rfl <;> rfl) (by omega) (by omega) (fun Q hQ => hT Q (hQ _ _ ⟨rfl, rfl⟩)) l D cA b z
  have G : GoodIn zWd (va_wsS (zMo M) idx (zMn M') (zWs M')) := by
    intro w hw
    rcases List.mem_append.mp hw with hw | hw
    · simp only [List.mem_cons, List.not_mem_nil, or_false] at hw
      rcases hw with rfl | rfl | rfl
      · exact z_good hlk
      · exact z_good hstt
      · exact z_good hiw
    · exact z_goodWs hcw w hw
  have run := va_runS (p := p) (l := l) (e := e) (R := R) (s := s) (m := m) (args := args) (below := below) (meth := meth) (c := c) (H := H) (locs := locs) (cells := nx - n0) (slots := zN nx - zN n0) (As := [Value.ref 1000, .int i].map (zV b z)) (rest := st.map (zV b z)) (g := F0 m pc la ((Value.int i :: .ref 1000 :: st).map (zV b z))) (Ts := zWd) ⟨hx, hb, hml, hown, hts⟩ hM (va_cwS 2 hts G rfl rfl rfl ⟨hnm.1, hnm.2, hpar⟩ (z_room hh hml11 hR.1 hR.2.1))
    ⟨z_blindX, z_preX hw hK hnw hao (hX hlw) hS⟩ rfl (by simp) hll.1 (by simp) (by show 2 * 0 + _ ≤ 8; rw [z_sum]; omega) hd ⟨by have := hR.2.2.1; omega, by have := hR.2.2.2; omega⟩
  exact z_back (by omega) (by omega) h0 run C hX hll hS hend (fun v h' hv hp => by
    obtain ⟨rfl, rfl⟩ := hp
    exact kk)
end ZC
