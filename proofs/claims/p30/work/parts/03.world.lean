-- the world of the numbered objects: what a field, an element, a new object is
theorem zV_ref {b z nx a : Nat} (ha : a < nx) (hn : nx ≤ 1000) : zV b z (.ref a) = .ref (z + a) := by
  have h : ¬ a = 1000 := by omega
  simp [zV, h]
theorem zW_get {cA : Nat → ClassId} {b z nx a : Nat} {h : zH} (ha : a < nx) : (zW cA b z nx h)[a]? = some (z + a, zE cA b z a (h a)) := by
  simp [zW, List.getElem?_map, List.getElem?_range ha]
theorem zW_of {cA : Nat → ClassId} {b z nx : Nat} {h : zH} {k : Nat} {q : Nat × va_E} (hq : (zW cA b z nx h)[k]? = some q) : k < nx ∧ q = (z + k, zE cA b z k (h k)) := by
  have hk : k < nx := by
    have h1 := (List.getElem?_eq_some_iff.mp hq).1
    simpa [zW] using h1
  rw [zW_get hk] at hq
  exact ⟨hk, (Option.some.inj hq).symm⟩
theorem zW_D {cA : Nat → ClassId} {b z nx : Nat} {h : zH} : va_D (fun q => z ≤ q) (zW cA b z nx h) := by
  refine ⟨fun i j p q hp hq hpq => ?_, fun k q hq => ?_⟩
  · obtain ⟨-, rfl⟩ := zW_of hp
    obtain ⟨-, rfl⟩ := zW_of hq
    simp at hpq
    exact hpq
  · obtain ⟨-, rfl⟩ := zW_of hq
    exact Nat.le_add_right z k
theorem zW_set {cA : Nat → ClassId} {b z nx a : Nat} {h : zH} {g : Nat → Value} : (zW cA b z nx h).set a (z + a, zE cA b z a g) = zW cA b z nx (va_up h a g) := by
  apply List.ext_getElem?
  intro i
  by_cases hi : i < nx
  · by_cases hia : i = a
    · subst hia
      rw [List.getElem?_set_self (by simpa [zW] using hi), zW_get hi, va_up_self]
    · rw [List.getElem?_set_ne (Ne.symm hia), zW_get hi, zW_get hi, va_up_ne _ _ hia]
  · rw [List.getElem?_eq_none (by simpa [zW] using hi), List.getElem?_eq_none (by simpa [zW] using hi)]
theorem zW_push {cA : Nat → ClassId} {b z nx : Nat} {h : zH} {g : Nat → Value} : zW cA b z nx h ++ [(z + nx, zE cA b z nx g)] = zW cA b z (nx + 1) (va_up h nx g) := by
  unfold zW
  rw [List.range_succ, List.map_append, List.map_singleton, va_up_self]
  congr 1
  apply List.map_congr_left
  intro i hi
  have h1 : i < nx := List.mem_range.mp hi
  rw [va_up_ne _ _ (by omega)]
theorem zE_obj {cA : Nat → ClassId} {b z i ci : Nat} {g : Nat → Value} (h : (zS i).1 = ci) (hc : ci < 10) : zE cA b z i g = .inr (ci, (List.range (zF ci)).map (fun k => zV b z (g k))) := by
  subst h
  simp [zE, hc]
theorem zE_num {cA : Nat → ClassId} {b z i t n : Nat} {g : Nat → Value} (h : zS i = (10 + t, n)) (ht : t < 2) : zE cA b z i g = .inl (cA t, n, .inl (fun k => zI (g k))) := by
  have h1 : ¬ 10 + t < 10 := by omega
  have h2 : 10 + t < 12 := by omega
  simp [zE, h, h2]
theorem zE_arr {cA : Nat → ClassId} {b z i t n : Nat} {g : Nat → Value} (h : zS i = (12 + t, n)) : zE cA b z i g = .inl (cA (2 + t), n, .inr (.inr (.inr (.inr (fun k => zQ b z (g k)))))) := by
  have h1 : ¬ 12 + t < 10 := by omega
  have h2 : ¬ 12 + t < 12 := by omega
  have h3 : 12 + t - 10 = 2 + t := by omega
  simp [zE, h, h1, h3]
theorem z_fs {b z n k : Nat} {g : Nat → Value} (hk : k < n) : ((List.range n).map (fun j => zV b z (g j)))[k]? = some (zV b z (g k)) := by
  simp [List.getElem?_map, List.getElem?_range hk]
theorem z_fs_set {b z n k : Nat} {g : Nat → Value} {v : Value} : ((List.range n).map (fun j => zV b z (g j))).set k (zV b z v) = (List.range n).map (fun j => zV b z (va_up g k v j)) := by
  apply List.ext_getElem?
  intro i
  by_cases hi : i < n
  · by_cases hia : i = k
    · subst hia
      rw [List.getElem?_set_self (by simpa using hi), z_fs hi, va_up_self]
    · rw [List.getElem?_set_ne (Ne.symm hia), z_fs hi, z_fs hi, va_up_ne _ _ hia]
  · rw [List.getElem?_eq_none (by simpa using hi), List.getElem?_eq_none (by simpa using hi)]
/-- what a field of a type may be given -/
def zOk (ty : FieldType) (v : Value) : Bool := match ty, v with
  | .int, .int _ => true
  | .boolean, .int x => x == 0 || x == 1
  | .char, .int x => decide (0 ≤ x) && decide (x ≤ 65535)
  | .object _, .ref _ => true
  | .array _, .ref _ => true
  | _, _ => false
theorem zOk_spec {ty : FieldType} {v : Value} {b z : Nat} (h : zOk ty v = true) : narrow ty (zV b z v) = zV b z v ∧ fits ty (zV b z v) = true := by
  cases ty <;> cases v <;> first | exact (Bool.false_ne_true h).elim | exact ⟨rfl, rfl⟩ | skip
  · rename_i x
    simp only [zOk, Bool.and_eq_true, decide_eq_true_eq] at h
    obtain ⟨j, hj, rfl⟩ := nI_of2 (M := 65535) (n := 65535) (by decide) (fun q => by
      have h1 := h.1
      rw [Int32.le_iff_toInt_le] at h1
      rw [Int32.lt_iff_toInt_lt] at q
      omega) h.2
    exact pk_charN (by omega)
  · rename_i x
    simp only [zOk, Bool.or_eq_true, beq_iff_eq] at h
    rcases h with rfl | rfl <;> exact ⟨rfl, rfl⟩
/-- a field's link: its class and place, its type, whether it is final -/
def zLF (own : String) (idx ci k : Nat) (ty : FieldType) (fin : Bool) : Prop := ∃ (C : String) (T : u_T) (N : Nat) (ty0 : Nat → FieldType), vwCl[ci]? = some (C, T, N) ∧ ci < 10 ∧ N = zF ci ∧ k < N ∧
  (Cond.fieldLink own idx (T k).1 (T k).2.1 (T k).2.2.1 ∈ zWd ∨ ∃ host : String, Cond.fieldLinkNest own idx (T k).1 (T k).2.1 (T k).2.2.1 host ∈ zNw) ∧ (∀ w ∈ u_ws C T N, w ∈ zWd) ∧
  (∀ k, k < N → parseFieldDescriptor (T k).2.2.1 = some (ty0 k)) ∧ (∀ a, a < N → ∀ b, b < N → a ≠ b → (T a).2.1 ≠ (T b).2.1) ∧ ty0 k = ty ∧ (T k).2.2.2 = fin ∧ (T k).1 = C
/-- a class's link, of which objects are made -/
def zLC (own : String) (idx ci : Nat) : Prop := ∃ (C : String) (T : u_T) (N : Nat) (ty0 : Nat → FieldType), vwCl[ci]? = some (C, T, N) ∧ ci < 10 ∧ N = zF ci ∧
  Cond.classLink own idx C ∈ zWd ∧ Cond.instantiable C N ∈ zWd ∧ Cond.initialized C ∈ zWd ∧ (∀ w ∈ u_ws C T N, w ∈ zWd) ∧ (∀ k, k < N → parseFieldDescriptor (T k).2.2.1 = some (ty0 k)) ∧ ∀ k, k < N → defaultValue (ty0 k) = .null ∨ defaultValue (ty0 k) = .int 0
section ZW
variable {X : Nat × (Nat → Int32)} {M : zM} {n0 pc : Nat} {ls st : List Value} {nx : Nat} {h : zH} {Q : zQt}
set_option maxHeartbeats 1000000 in
theorem j_get {ci k idx a : Nat} {v : Value} {ty : FieldType} {fin : Bool} (hd : decode (zMb M) pc = .ok (.getfield idx, 3)) (hl : zLF (zMo M) idx ci k ty fin) (hs : (zS a).1 = ci) (ha : a < nx) (hv : h a k = v) (kk : zJ X M n0 (pc + 3) ls (v :: st) nx h Q) : zJ X M n0 pc ls (.ref a :: st) nx h Q := by
  intro p l e R s m args below meth c D cA b z H locs Qm la C hX hll hw hS hend
  obtain ⟨CC, T, N, ty0, hc, hci, hN, hk, hlk, hin, hty, hnm, e1, e2, e3⟩ := hl
  obtain ⟨hx, hb, hml, hown, hini, hts, hnw, hao, hK, hz, hR⟩ := id C
  obtain ⟨hsz, hnx, hP⟩ := id hw
  subst hv
  have he : (zW cA b z nx h)[a]? = some (z + a, .inr (ci, (List.range (zF ci)).map (fun k => zV b z (h a k)))) := by rw [zW_get ha, zE_obj hs hci]
  have hv' : ((List.range (zF ci)).map (fun k => zV b z (h a k)))[k]? = some (zV b z (h a k)) := z_fs (by rw [← hN]; exact hk)
  have K := kk p l e R s m args below meth c D cA b z H locs Qm la C hX hll hw hS hend
  show W p l e R s m args below meth c H locs _ _ Qm (F0 m pc la (zV b z (.ref a) :: st.map (zV b z)))
  rw [zV_ref ha hnx]
  rcases hlk with hlk | ⟨host, hlk⟩
  · exact va_get (D := D) (ci := ci) (C := CC) (T := T) (N := N) hx hb hts hin hown hK hP a he hc k hk (hts _ hlk) (fun _ h9 => h9) hv' hd K
  · exact va_getN (D := D) (ci := ci) (C := CC) (T := T) (N := N) hx hb hts hin hown hK hP a he hc k hk (va_Nw.use rfl (hnw _ hlk)) (fun _ h9 => h9) hv' hd K
set_option maxHeartbeats 1000000 in
theorem j_put {ci k idx a : Nat} {v : Value} {ty : FieldType} (hd : decode (zMb M) pc = .ok (.putfield idx, 3)) (hl : zLF (zMo M) idx ci k ty false) (hs : (zS a).1 = ci) (ha : a < nx) (hv : zOk ty v = true) (kk : zJ X M n0 (pc + 3) ls st nx (va_up h a (va_up (h a) k v)) Q) : zJ X M n0 pc ls (v :: .ref a :: st) nx h Q := by
  intro p l e R s m args below meth c D cA b z H locs Qm la C hX hll hw hS hend
  obtain ⟨CC, T, N, ty0, hc, hci, hN, hk, hlk, hin, hty, hnm, e1, e2, e3⟩ := hl
  obtain ⟨hx, hb, hml, hown, hini, hts, hnw, hao, hK, hz, hR⟩ := id C
  obtain ⟨hsz, hnx, hP⟩ := id hw
  have he : (zW cA b z nx h)[a]? = some (z + a, .inr (ci, (List.range (zF ci)).map (fun k => zV b z (h a k)))) := by rw [zW_get ha, zE_obj hs hci]
  obtain ⟨hn1, hn2⟩ := zOk_spec (b := b) (z := z) hv
  have hap := va_apart (own := zMo M) hts hin ty0 hty hnm hK hc
  have hll0 : k < ((List.range (zF ci)).map (fun k => zV b z (h a k))).length := by simp [← hN, hk]
  obtain ⟨r, h1, cell, q1, q2, q3, q4⟩ := hP a _ he
  have hr : r = (CC, T, N) := Option.some.inj (h1.symm.trans hc)
  subst hr
  obtain ⟨hSS, hfc, kC, hkC, hkind⟩ := hK.1 ci _ hc
  obtain ⟨cf, kf, fi, f, hi, hsl⟩ := hSS k hk
  have hlay := hts _ (hin _ (u_in_lay hk))
  unfold u_lay at hlay
  rw [if_neg (by rw [e2]; decide)] at hlay
  have hst := (u_facts hfc hkC (u_lays hts hin hk) hi).1
  have h6 := u_store hfc hkC hkind hlay hi (by rw [hty k hk, e1]) hn1 hn2
  have fin : ∀ (H' : Heap), H'[z + a]? = some (cell.setSlot f.slot (zV b z v)) → H'.size = H.size → (∀ q, q ≠ z + a → H'[q]? = H[q]?) → W p l e R s m args below meth c H' (locs ++ [⟨z + a, f.slot⟩]) (nx - n0) (zN nx - zN n0) Qm (F0 m (pc + 3) la (st.map (zV b z))) := by
    intro H' g1 g2 g3
    refine kk p l e R s m args below meth c D cA b z H' _ Qm la C hX hll ⟨by rw [g2]; exact hsz, hnx, ?_⟩ (hS.put g2 g3 (Nat.le_add_right z a)) hend
    rw [hsl] at g1
    have hset : va_P D vwCl ((zW cA b z nx h).set a (z + a, .inr (ci, ((List.range (zF ci)).map (fun k => zV b z (h a k))).set k (zV b z v)))) H' := hP.set zW_D he ⟨_, hc, t_OB.to (V := updV (vp_V _) k (zV b z v)) ⟨_, g1, q2, q3, t_set q4 hap hk (zV b z v)⟩ (fun j _ => vp_updV_set hll0 (zV b z v) j)⟩ g3
    rw [z_fs_set, ← zE_obj (cA := cA) hs hci, zW_set] at hset
    exact hset
  show W p l e R s m args below meth c H locs _ _ Qm (F0 m pc la (zV b z v :: zV b z (.ref a) :: st.map (zV b z)))
  rw [zV_ref ha hnx]
  rcases hlk with hlk | ⟨host, hlk⟩
  · exact W.putK hx hb (f := f) ⟨hown, hts _ hlk, ⟨_, _, _, hi⟩, hst⟩ (by rw [q2]; exact h6) q1 q3 (by rw [hsl]; exact k2_hasslot (q4 k hk)) rfl rfl hd fin
  · exact va_WputK hx hb (f := f) hown (va_Nw.use rfl (hnw _ hlk)) hi hst (by rw [q2]; exact h6) q1 q3 (by rw [hsl]; exact k2_hasslot (q4 k hk)) rfl rfl hd fin
set_option maxHeartbeats 1000000 in
theorem j_putF {ci k idx a : Nat} {v : Value} {ty : FieldType} (hd : decode (zMb M) pc = .ok (.putfield idx, 3)) (hl : zLF (zMo M) idx ci k ty true) (hlo : ∃ T : u_T, ∃ N, vwCl[ci]? = some (zMo M, T, N) ∧ Cond.fieldLink (zMo M) idx (T k).1 (T k).2.1 (T k).2.2.1 ∈ zWd) (hnm0 : (zMn M).name = "<init>") (hs : (zS a).1 = ci) (ha : a < nx) (hv : zOk ty v = true) (kk : zJ X M n0 (pc + 3) ls st nx (va_up h a (va_up (h a) k v)) Q) : zJ X M n0 pc ls (v :: .ref a :: st) nx h Q := by
  intro p l e R s m args below meth c D cA b z H locs Qm la C hX hll hw hS hend
  obtain ⟨CC, T, N, ty0, hc, hci, hN, hk, hlk0, hin, hty, hnm, e1, e2, e3⟩ := hl
  obtain ⟨T', N', hc', hlk⟩ := hlo
  obtain ⟨hx, hb, hml, hown, hini, hts, hnw, hao, hK, hz, hR⟩ := id C
  obtain ⟨hsz, hnx, hP⟩ := id hw
  have hcc : (CC, T, N) = (zMo M, T', N') := Option.some.inj (hc.symm.trans hc')
  obtain ⟨rfl, rfl, rfl⟩ : CC = zMo M ∧ T = T' ∧ N = N' := by
    simp only [Prod.mk.injEq] at hcc
    exact hcc
  have he : (zW cA b z nx h)[a]? = some (z + a, .inr (ci, (List.range (zF ci)).map (fun k => zV b z (h a k)))) := by rw [zW_get ha, zE_obj hs hci]
  obtain ⟨hn1, hn2⟩ := zOk_spec (b := b) (z := z) hv
  have hap := va_apart (own := zMo M) hts hin ty0 hty hnm hK hc
  have hll0 : k < ((List.range (zF ci)).map (fun k => zV b z (h a k))).length := by simp [← hN, hk]
  obtain ⟨r, h1, cell, q1, q2, q3, q4⟩ := hP a _ he
  have hr : r = (zMo M, T, N) := Option.some.inj (h1.symm.trans hc)
  subst hr
  obtain ⟨hSS, hfc, kC, hkC, hkind⟩ := hK.1 ci _ hc
  obtain ⟨cf, kf, fi, f, hi, hsl⟩ := hSS k hk
  have hlay := hts _ (hin _ (u_in_lay hk))
  unfold u_lay at hlay
  rw [if_pos e2] at hlay
  have hst := (u_facts hfc hkC (u_lays hts hin hk) hi).1
  have hcf : m.cls = cf := by
    obtain ⟨_, _, c', _, _, _, -, -, hf', -, -, -, hown2, -⟩ := Cond.laysFinal_spec hlay
    have e1 : c' = cf := by have := hi.symm.trans hf'; simp at this; exact this.1.symm
    rw [e3] at hown2
    rw [← e1]; exact Option.some.inj (hown.symm.trans hown2)
  have h6 := u_fits hfc hkC hkind (Or.inr hlay) hi (by rw [hty k hk, e1]) hn1 hn2
  show W p l e R s m args below meth c H locs _ _ Qm (F0 m pc la (zV b z v :: zV b z (.ref a) :: st.map (zV b z)))
  rw [zV_ref ha hnx]
  refine W.putFinK hx hb hown (hts _ hlk) hi hst hcf (hini hnm0) (by rw [q2]; exact h6) q1 q3 (by rw [hsl]; exact k2_hasslot (q4 k hk)) rfl rfl hd fun H' g1 g2 g3 => ?_
  refine kk p l e R s m args below meth c D cA b z H' _ Qm la C hX hll ⟨by rw [g2]; exact hsz, hnx, ?_⟩ (hS.put g2 g3 (Nat.le_add_right z a)) hend
  rw [hsl] at g1
  have hset : va_P D vwCl ((zW cA b z nx h).set a (z + a, .inr (ci, ((List.range (zF ci)).map (fun k => zV b z (h a k))).set k (zV b z v)))) H' := hP.set zW_D he ⟨_, hc, t_OB.to (V := updV (vp_V _) k (zV b z v)) ⟨_, g1, q2, q3, t_set q4 hap hk (zV b z v)⟩ (fun j _ => vp_updV_set hll0 (zV b z v) j)⟩ g3
  rw [z_fs_set, ← zE_obj (cA := cA) hs hci, zW_set] at hset
  exact hset
theorem j_iald {a n : Nat} {i x : Int32} (hd : decode (zMb M) pc = .ok (.iaload, 1)) (hs : zS a = (10, n)) (ha : a < nx) (hin : vp_in i n) (hv : zI (h a i.toNatClampNeg) = x) (kk : zJ X M n0 (pc + 1) ls (.int x :: st) nx h Q) : zJ X M n0 pc ls (.int i :: .ref a :: st) nx h Q := by
  intro p l e R s m args below meth c D cA b z H locs Qm la C hX hll hw hS hend
  obtain ⟨hx, hb, hml, hown, hini, hts, hnw, hao, hK, hz, hR⟩ := id C
  obtain ⟨hsz, hnx, hP⟩ := id hw
  subst hv
  have he : (zW cA b z nx h)[a]? = some (z + a, .inl (cA 0, n, .inl (fun k => zI (h a k)))) := by rw [zW_get ha, zE_num (t := 0) hs (by omega)]
  have K := kk p l e R s m args below meth c D cA b z H locs Qm la C hX hll hw hS hend
  show W p l e R s m args below meth c H locs _ _ Qm (F0 m pc la (.int i :: zV b z (.ref a) :: st.map (zV b z)))
  rw [zV_ref ha hnx]
  exact va_iald hx hb hK hP a 0 he rfl hin hd K
theorem j_cald {a n : Nat} {i x : Int32} (hd : decode (zMb M) pc = .ok (.caload, 1)) (hs : zS a = (11, n)) (ha : a < nx) (hin : vp_in i n) (hv : zI (h a i.toNatClampNeg) = x) (kk : zJ X M n0 (pc + 1) ls (.int x :: st) nx h Q) : zJ X M n0 pc ls (.int i :: .ref a :: st) nx h Q := by
  intro p l e R s m args below meth c D cA b z H locs Qm la C hX hll hw hS hend
  obtain ⟨hx, hb, hml, hown, hini, hts, hnw, hao, hK, hz, hR⟩ := id C
  obtain ⟨hsz, hnx, hP⟩ := id hw
  subst hv
  have he : (zW cA b z nx h)[a]? = some (z + a, .inl (cA 1, n, .inl (fun k => zI (h a k)))) := by rw [zW_get ha, zE_num (t := 1) hs (by omega)]
  have K := kk p l e R s m args below meth c D cA b z H locs Qm la C hX hll hw hS hend
  show W p l e R s m args below meth c H locs _ _ Qm (F0 m pc la (.int i :: zV b z (.ref a) :: st.map (zV b z)))
  rw [zV_ref ha hnx]
  exact va_cald hx hb hK hP a 1 he rfl hin hd K
theorem zQ_rf {b z : Nat} {v : Value} {x : Option Nat} (h : v = va_rf x) : va_rf (zQ b z v) = zV b z v := by
  subst h
  cases x <;> rfl
theorem j_aald {a n t : Nat} {i : Int32} {r : Option Nat} (hd : decode (zMb M) pc = .ok (.aaload, 1)) (hs : zS a = (12 + t, n)) (ht : t < 3) (ha : a < nx) (hin : vp_in i n) (hv : h a i.toNatClampNeg = va_rf r) (kk : zJ X M n0 (pc + 1) ls (va_rf r :: st) nx h Q) : zJ X M n0 pc ls (.int i :: .ref a :: st) nx h Q := by
  intro p l e R s m args below meth c D cA b z H locs Qm la C hX hll hw hS hend
  obtain ⟨hx, hb, hml, hown, hini, hts, hnw, hao, hK, hz, hR⟩ := id C
  obtain ⟨hsz, hnx, hP⟩ := id hw
  have he : (zW cA b z nx h)[a]? = some (z + a, .inl (cA (2 + t), n, .inr (.inr (.inr (.inr (fun k => zQ b z (h a k))))))) := by rw [zW_get ha, zE_arr hs]
  have K := kk p l e R s m args below meth c D cA b z H locs Qm la C hX hll hw hS hend
  show W p l e R s m args below meth c H locs _ _ Qm (F0 m pc la (.int i :: zV b z (.ref a) :: st.map (zV b z)))
  rw [zV_ref ha hnx]
  have K2 : W p l e R s m args below meth c H locs (nx - n0) (zN nx - zN n0) Qm (F0 m (pc + 1) la (va_rf (zQ b z (h a i.toNatClampNeg)) :: st.map (zV b z))) := by
    rw [zQ_rf hv, hv]
    exact K
  obtain ⟨E, hE⟩ : ∃ E, (zT cA)[2 + t]? = some (cA (2 + t), .object E) := by
    rcases (show t = 0 ∨ t = 1 ∨ t = 2 by omega) with rfl | rfl | rfl <;> exact ⟨_, rfl⟩
  exact va_aldq hx hb hK hP a (2 + t) he hE hin hd K2
theorem z_num_set {g : Nat → Value} {j : Nat} {x : Int32} : upd (fun k => zI (g k)) j x = fun k => zI (va_up g j (.int x) k) := by
  funext k
  by_cases hk : k = j <;> simp [upd, va_up, hk, zI]
theorem j_iast {a n : Nat} {i x : Int32} (hd : decode (zMb M) pc = .ok (.iastore, 1)) (hs : zS a = (10, n)) (ha : a < nx) (hin : vp_in i n) (kk : zJ X M n0 (pc + 1) ls st nx (va_up h a (va_up (h a) i.toNatClampNeg (.int x))) Q) : zJ X M n0 pc ls (.int x :: .int i :: .ref a :: st) nx h Q := by
  intro p l e R s m args below meth c D cA b z H locs Qm la C hX hll hw hS hend
  obtain ⟨hx, hb, hml, hown, hini, hts, hnw, hao, hK, hz, hR⟩ := id C
  obtain ⟨hsz, hnx, hP⟩ := id hw
  have he : (zW cA b z nx h)[a]? = some (z + a, .inl (cA 0, n, .inl (fun k => zI (h a k)))) := by rw [zW_get ha, zE_num (t := 0) hs (by omega)]
  have ht : (zT cA)[0]? = some (cA 0, .int) := rfl
  show W p l e R s m args below meth c H locs _ _ Qm (F0 m pc la (.int x :: .int i :: zV b z (.ref a) :: st.map (zV b z)))
  rw [zV_ref ha hnx]
  refine W.iast hx hb (hP a _ he) ((hK.2 0 _ ht).1 n (fun j => .int (zI (h a j)))) (fun q => by cases q) (by show ¬ (i < 0 ∨ (arrV _ _ _).slots.size ≤ _); rw [arrV_size]; exact hin) rfl rfl hd fun H1 e1 z1 oq => ?_
  refine kk p l e R s m args below meth c D cA b z H1 _ Qm la C hX hll ⟨by rw [z1]; exact hsz, hnx, ?_⟩ (hS.put z1 oq (Nat.le_add_right z a)) hend
  rw [← zW_set, zE_num (t := 0) hs (by omega), ← z_num_set]
  refine hP.set zW_D he ?_ oq
  show H1[z + a]? = some (vp_cell _ _)
  rw [e1]
  rw [vp_cell_i, vp_cell_i, arrV_store]
  congr 2
  funext q
  by_cases hq : q = i.toNatClampNeg
  · subst hq
    simp [updV, upd]
  · simp [updV, upd, hq]
theorem j_cast {a n : Nat} {i x : Int32} (hd : decode (zMb M) pc = .ok (.castore, 1)) (hs : zS a = (11, n)) (ha : a < nx) (hin : vp_in i n) (hv : zOk .char (.int x) = true) (kk : zJ X M n0 (pc + 1) ls st nx (va_up h a (va_up (h a) i.toNatClampNeg (.int x))) Q) : zJ X M n0 pc ls (.int x :: .int i :: .ref a :: st) nx h Q := by
  intro p l e R s m args below meth c D cA b z H locs Qm la C hX hll hw hS hend
  obtain ⟨hx, hb, hml, hown, hini, hts, hnw, hao, hK, hz, hR⟩ := id C
  obtain ⟨hsz, hnx, hP⟩ := id hw
  have he : (zW cA b z nx h)[a]? = some (z + a, .inl (cA 1, n, .inl (fun k => zI (h a k)))) := by rw [zW_get ha, zE_num (t := 1) hs (by omega)]
  have ht : (zT cA)[1]? = some (cA 1, .char) := rfl
  have hnr : narrow .char (.int x) = .int x := (zOk_spec (b := 0) (z := 0) hv).1
  show W p l e R s m args below meth c H locs _ _ Qm (F0 m pc la (.int x :: .int i :: zV b z (.ref a) :: st.map (zV b z)))
  rw [zV_ref ha hnx]
  refine W.cast hx hb (hP a _ he) ((hK.2 1 _ ht).1 n (fun j => .int (zI (h a j)))) (fun q => by cases q) (by show ¬ (i < 0 ∨ (arrV _ _ _).slots.size ≤ _); rw [arrV_size]; exact hin) rfl rfl hd fun H1 e1 z1 oq => ?_
  refine kk p l e R s m args below meth c D cA b z H1 _ Qm la C hX hll ⟨by rw [z1]; exact hsz, hnx, ?_⟩ (hS.put z1 oq (Nat.le_add_right z a)) hend
  rw [← zW_set, zE_num (t := 1) hs (by omega), ← z_num_set]
  refine hP.set zW_D he ?_ oq
  show H1[z + a]? = some (vp_cell _ _)
  rw [e1]
  rw [vp_cell_i, vp_cell_i, arrV_store, hnr]
  congr 2
  funext q
  by_cases hq : q = i.toNatClampNeg
  · subst hq
    simp [updV, upd]
  · simp [updV, upd, hq]
theorem z_ref_set {b z : Nat} {g : Nat → Value} {j v : Nat} : va_up (fun k => zQ b z (g k)) j (zQ b z (.ref v)) = fun k => zQ b z (va_up g j (.ref v) k) := by
  funext k
  by_cases hk : k = j <;> simp [va_up, hk]
set_option maxHeartbeats 1000000 in
theorem j_aast {a n t v : Nat} {i : Int32} (hd : decode (zMb M) pc = .ok (.aastore, 1)) (hs : zS a = (12 + t, n)) (ht3 : t < 3) (ha : a < nx) (hin : vp_in i n) (hvs : (zS v).1 = t) (hvn : v < nx) (kk : zJ X M n0 (pc + 1) ls st nx (va_up h a (va_up (h a) i.toNatClampNeg (.ref v))) Q) : zJ X M n0 pc ls (.ref v :: .int i :: .ref a :: st) nx h Q := by
  intro p l e R s m args below meth c D cA b z H locs Qm la C hX hll hw hS hend
  obtain ⟨hx, hb, hml, hown, hini, hts, hnw, hao, hK, hz, hR⟩ := id C
  obtain ⟨hsz, hnx, hP⟩ := id hw
  have he : (zW cA b z nx h)[a]? = some (z + a, .inl (cA (2 + t), n, .inr (.inr (.inr (.inr (fun k => zQ b z (h a k))))))) := by rw [zW_get ha, zE_arr hs]
  have hev : (zW cA b z nx h)[v]? = some (z + v, .inr (t, (List.range (zF t)).map (fun k => zV b z (h v k)))) := by rw [zW_get hvn, zE_obj hvs (by omega)]
  obtain ⟨r, hc, hE⟩ : ∃ r : vw_C, vwCl[t]? = some r ∧ (zT cA)[2 + t]? = some (cA (2 + t), .object r.1) := by
    rcases (show t = 0 ∨ t = 1 ∨ t = 2 by omega) with rfl | rfl | rfl <;> exact ⟨_, rfl, rfl⟩
  show W p l e R s m args below meth c H locs _ _ Qm (F0 m pc la (zV b z (.ref v) :: .int i :: zV b z (.ref a) :: st.map (zV b z)))
  rw [zV_ref ha hnx, zV_ref hvn hnx]
  have hlt : i.toNatClampNeg < n := Nat.not_le.mp fun q => hin (Or.inr q)
  have h0 : ¬ i < 0 := fun q => hin (Or.inl q)
  obtain ⟨r', hr', cellV, g1, g2, g3, -⟩ := hP v _ hev
  have hcls := (hK.1 t r hc).2
  obtain ⟨kA, comp, k1, k2, k3, -⟩ := (hK.2 (2 + t) _ hE).2
  have hcomp : comp = D.1 t := Option.some.inj (k3.symm.trans hcls.1)
  subst hcomp
  obtain ⟨kC, hkC, -⟩ := hcls.2
  refine W.aast hx hb (hP a _ he) (fun q h => by cases h) (fun h => by cases h) k1 k2 rfl hkC ⟨h0, by show _ < (arrV _ _ _).slots.size; rw [arrV_size]; exact hlt⟩ g1 (fun q h => by rw [g3] at h; cases h) (by rw [g2]; exact hkC) (by rw [g2]; exact va_assign hcls) rfl rfl hd fun H1 e1 z1 oq => ?_
  refine kk p l e R s m args below meth c D cA b z H1 _ Qm la C hX hll ⟨by rw [z1]; exact hsz, hnx, ?_⟩ (hS.put z1 oq (Nat.le_add_right z a)) hend
  rw [← zW_set, zE_arr hs, ← z_ref_set]
  refine hP.set zW_D he ?_ oq
  show H1[z + a]? = some (vp_cell _ _)
  rw [e1]
  rw [vp_cell_q, vp_cell_q, arrV_store]
  have hv1 : zQ b z (.ref v) = some (z + v) := by
    have h9 : ¬ v = 1000 := by omega
    simp [zQ, h9]
  rw [hv1]
  congr 2
  funext q
  by_cases hq : q = i.toNatClampNeg
  · subst hq
    simp [updV, va_up, va_rf]
  · simp [updV, va_up, hq]
theorem j_alen {a n t : Nat} {v : Int32} (hd : decode (zMb M) pc = .ok (.arraylength, 1)) (hs : zS a = (10 + t, n)) (ht : t < 5) (ha : a < nx) (hv : Int32.ofNat n = v) (kk : zJ X M n0 (pc + 1) ls (.int v :: st) nx h Q) : zJ X M n0 pc ls (.ref a :: st) nx h Q := by
  intro p l e R s m args below meth c D cA b z H locs Qm la C hX hll hw hS hend
  obtain ⟨hx, hb, hml, hown, hini, hts, hnw, hao, hK, hz, hR⟩ := id C
  obtain ⟨hsz, hnx, hP⟩ := id hw
  have he : ∃ x : vp_A, x.1 = n ∧ (zW cA b z nx h)[a]? = some (z + a, .inl (cA t, x)) := by
    by_cases h2 : t < 2
    · exact ⟨_, rfl, by rw [zW_get ha, zE_num hs h2]⟩
    · obtain ⟨u, rfl⟩ : ∃ u, t = 2 + u := ⟨t - 2, by omega⟩
      exact ⟨_, rfl, by rw [zW_get ha, zE_arr (t := u) (by rw [hs]; congr 1; omega)]⟩
  obtain ⟨x, hx1, he⟩ := he
  obtain ⟨ty, hE⟩ : ∃ ty, (zT cA)[t]? = some (cA t, ty) := by
    rcases (show t = 0 ∨ t = 1 ∨ t = 2 ∨ t = 3 ∨ t = 4 by omega) with rfl | rfl | rfl | rfl | rfl <;> exact ⟨_, rfl⟩
  show W p l e R s m args below meth c H locs _ _ Qm (F0 m pc la (zV b z (.ref a) :: st.map (zV b z)))
  rw [zV_ref ha hnx]
  exact va_alen hx hb hK hP a t he hE (by rw [hx1]; exact hv) hd (kk p l e R s m args below meth c D cA b z H locs Qm la C hX hll hw hS hend)
end ZW
