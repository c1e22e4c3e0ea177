/-! THE CLAIM OUT OF ONE WALK OF THE LAW'S BODY. Your part is whole_start (and what it stands on); all else here is the same for every law, but numbers. -/
def R_law : String := "CoughBidsLaw"
def lw_P (b : Addr) (xs : List Int32) (args : Array Value) (s : State) : Prop := args = #[.ref b] ∧ s.IntsAt b xs ∧ xs.length ≤ 260 ∧ (Jvm.Cond.and given_1 narrow_1).before args s = true
def lw_Q (_ : Array Value) (s : State) (o : Outcome) (t : State) : Prop := o = .returned (some (.int 1)) ∧ Framed s o t [] 600000 7302250
def lw_Z (below : List Frame) (a : Array Value) (s : State) : State → Prop := fun t => ∃ o, t.status = .running ∧ Ended t below o ∧ lw_Q a s o t
/-- the law's own end, with 1 on the stack, nothing written that was there before, its room as the claim has it -/
theorem lw_ret {p : Program} {l : Launch} {e : Env} {s : State} {m : MethodId} {below : List Frame} {meth : Method} {c : Code} {b : Nat} (hx : p.tables.exec = Jvm.exec) (hb : c.code = code) (hr : meth.sig.returnType = ret) (hlocks : meth.locks = false) {pc : Nat} {H : Heap} {ls : Array Slot} (hdg : decode code pc = .ok (.ireturn, 1)) : W p l e room_1 s m #[Value.ref b] below meth c H [] 600000 7302250 (lw_Z below #[Value.ref b] s) (F0 m pc ls [.int 1]) := by
  intro T hT X
  obtain ⟨fs, hret, hrun, hended, hW, hframe⟩ := X.leave (v := some (.int 1)) (hlocks := hlocks) (fun h => by rw [hr] at h; cases h)
  have hmeth' : T.vm.method? m = some meth := X.method'
  refine ⟨T.setFrames fs, ?_, .returned (some (.int 1)), hrun, hended, rfl, ⟨_, rfl⟩, hW, hframe⟩
  jvm_step X.here [X.here.top, hx, hb, hdg, hmeth', hr, ret, narrow_b1]
  (try refine ⟨rfl, ?_⟩); (try refine ⟨rfl, ?_⟩)
  first | (intro acts; rw [hret _ acts rfl rfl rfl]) | rw [hret _ _ rfl rfl rfl]
  exact Steps.refl _
/-- what holds at the law's entry: the machine, the code, the tables' words (any of lw_tbl by 'hts w (by decide +kernel)'), the script of L ints xs at the cell b, what the Statement gives of the start (any of its parts by flat_of_before) -/
def lw_At (p : Program) (s : State) (m : MethodId) (meth : Method) (c : Code) (b L : Nat) (xs : Nat → Int32) : Prop :=
  p.tables.exec = Jvm.exec ∧ c.code = code ∧ meth.sig.returnType = ret ∧ c.maxLocals = 10 ∧ s.vm.findClass R_law = some m.cls ∧ (∀ w ∈ lw_tbl, w.before #[Value.ref b] s = true) ∧ va_X b L xs s s.heap ∧ b < s.heap.size ∧ meth.locks = false ∧ (Jvm.Cond.and given_1 narrow_1).before #[Value.ref b] s = true
-- ===== YOUR PART BEGINS =====
theorem zN_300 {n : Nat} (h : n ≤ 300) : zN n ≤ 7000 := by
  have h1 := zN_mono (show n ≤ 221 + 100 by omega)
  have h2 := zN_221
  rw [zN_j] at h1
  omega
theorem z_nest : ∀ w ∈ zNw, w ∈ lw_tbl := by
  intro w hw
  have hp : zNw.map some = ([32, 34, 36, 38, 40, 42, 44, 46, 48, 82, 83, 85, 87, 89, 91, 93, 96, 98, 100, 123, 125, 127, 131, 133, 135, 137, 139, 191, 27, 77, 185, 390, 391] : List Nat).map (fun i => tables_1[i]?) := by decide +kernel
  have h1 : some w ∈ zNw.map some := List.mem_map.mpr ⟨w, hw, rfl⟩
  rw [hp] at h1
  obtain ⟨i, -, hi⟩ := List.mem_map.mp h1
  exact List.mem_append_right _ (List.mem_of_getElem? hi)
theorem z_aos : ∀ C ∈ zAo, Cond.arrayOver (.object C) ∈ lw_tbl := by
  intro C hC
  have hp : zAo.map (fun C => some (Cond.arrayOver (.object C))) = ([18, 25, 75] : List Nat).map (fun i => tables_1[i]?) := by decide +kernel
  have h1 : some (Cond.arrayOver (.object C)) ∈ zAo.map (fun C => some (Cond.arrayOver (.object C))) := List.mem_map.mpr ⟨C, hC, rfl⟩
  rw [hp] at h1
  obtain ⟨i, -, hi⟩ := List.mem_map.mp h1
  exact List.mem_append_right _ (List.mem_of_getElem? hi)
theorem z_known {s : State} {args : Array Value} (hts : ∀ w ∈ zWd, w.before args s = true) {own : String} {idx ci : Nat} (hl : zLK own idx ci) : ∃ q : vw_C, vwCl[ci]? = some q ∧ ∃ (cC : ClassId) (iS : Nat → Nat), u_Kn s q.1 q.2.1 q.2.2 cC iS := by
  obtain ⟨C, T, N, ty0, h1, -, -, -, h5, -, h7, -, -⟩ := hl
  exact ⟨(C, T, N), h1, u_known hts h7 (hts _ h5)⟩
theorem z_kall {s : State} {args : Array Value} (hts : ∀ w ∈ zWd, w.before args s = true) : ∃ D : va_G, ∀ (c : Nat) (q : vw_C), vwCl[c]? = some q → u_Kn s q.1 q.2.1 q.2.2 (D.1 c) (D.2 c) := by
  have H : ∀ c : Nat, ∃ x : ClassId × (Nat → Nat), ∀ q : vw_C, vwCl[c]? = some q → u_Kn s q.1 q.2.1 q.2.2 x.1 x.2 := by
    intro c
    by_cases hc : c < 5
    · have hk : ∃ (own : String) (idx : Nat), zLK own idx c := by
        rcases (show c = 0 ∨ c = 1 ∨ c = 2 ∨ c = 3 ∨ c = 4 by omega) with rfl | rfl | rfl | rfl | rfl
        · exact ⟨_, _, kX4_9⟩
        · exact ⟨_, _, kX0_11⟩
        · exact ⟨_, _, kX0_18⟩
        · exact ⟨_, _, kX4_16⟩
        · exact ⟨_, _, kL_33⟩
      obtain ⟨own, idx, hl⟩ := hk
      obtain ⟨q, hq, cC, iS, hu⟩ := z_known hts hl
      exact ⟨(cC, iS), fun q' hq' => by rw [hq] at hq'; cases hq'; exact hu⟩
    · obtain ⟨q, hq, cC, iS, hu⟩ := z_known hts kX4_9
      exact ⟨(cC, iS), fun q' hq' => absurd (List.getElem?_eq_some_iff.mp hq').1 hc⟩
  exact ⟨(fun c => (Classical.choose (H c)).1, fun c => (Classical.choose (H c)).2), fun c q hq => Classical.choose_spec (H c) q hq⟩
theorem z_arr {s : State} {args : Array Value} (hts : ∀ w ∈ zWd, w.before args s = true) (hao : ∀ C ∈ zAo, va_AO C s) : ∃ cA : Nat → ClassId, ∀ (t : Nat) (q : ClassId × FieldType), (zT cA)[t]? = some q → ArrOfT s q.1 q.2 ∧ va_RA s q.1 q.2 := by
  obtain ⟨c0, k0, m0, a0, b0, d0⟩ := Cond.arrayClass_spec (hts _ z_arI)
  obtain ⟨c1, k1, m1, a1, b1, d1⟩ := Cond.arrayClass_spec (hts _ z_arC)
  obtain ⟨m2, c2, k2, a2, e2, b2, d2, f2⟩ := Cond.arrayOver_spec (hao RX0 List.mem_cons_self)
  obtain ⟨m3, c3, k3, a3, e3, b3, d3, f3⟩ := Cond.arrayOver_spec (hao RX1 (List.mem_cons_of_mem _ List.mem_cons_self))
  obtain ⟨m4, c4, k4, a4, e4, b4, d4, f4⟩ := Cond.arrayOver_spec (hao RX2 (List.mem_cons_of_mem _ (List.mem_cons_of_mem _ List.mem_cons_self)))
  refine ⟨fun t => if t = 0 then c0 else if t = 1 then c1 else if t = 2 then c2 else if t = 3 then c3 else c4, fun t q hq => ?_⟩
  have ht : t < 5 := (List.getElem?_eq_some_iff.mp hq).1
  rcases (show t = 0 ∨ t = 1 ∨ t = 2 ∨ t = 3 ∨ t = 4 by omega) with rfl | rfl | rfl | rfl | rfl
  · cases hq
    exact ⟨fun n z => ⟨fun k h => (by cases h), k0, b0, m0, d0⟩, a0⟩
  · cases hq
    exact ⟨fun n z => ⟨fun k h => (by cases h), k1, b1, m1, d1⟩, a1⟩
  · cases hq
    exact ⟨fun n z => ⟨fun k h => (by cases h), k2, b2, m2, d2⟩, k2, m2, b2, d2, a2, f2⟩
  · cases hq
    exact ⟨fun n z => ⟨fun k h => (by cases h), k3, b3, m3, d3⟩, k3, m3, b3, d3, a3, f3⟩
  · cases hq
    exact ⟨fun n z => ⟨fun k h => (by cases h), k4, b4, m4, d4⟩, k4, m4, b4, d4, a4, f4⟩
/-- YOUR PART: from the entry, for every script of at most 260 ints, the law comes to its end with true ('hflags': the launch's flags, for a law that throws: no stack traces) -/
theorem whole_start {p : Program} {e : Env} {s : State} {m : MethodId} {below : List Frame} {meth : Method} {c : Code} (l : Launch) (hflags : l.flags = flags0) {b L : Nat} {xs : Nat → Int32} (hL : L ≤ 260) (C0 : lw_At p s m meth c b L xs) : W p l e room_1 s m #[Value.ref b] below meth c s.heap [] 0 0 (lw_Z below #[Value.ref b] s) (entryFrame m ([Value.ref b] : List Value).toArray 10) := by
  obtain ⟨hx, hb, hr, hml, hown, hts, hX, hbl, hlocks, hg⟩ := C0
  have hw : ∀ w ∈ zWd, w.before #[Value.ref b] s = true := fun w h => hts w (List.mem_filter.mp h).1
  have hao : ∀ C ∈ zAo, va_AO C s := fun C h => va_AO.of (A := #[Value.ref b]) (hts _ (z_aos C h))
  have hnw : ∀ w ∈ zNw, va_Nw w s := fun w h => va_Nw.of (zNw_tab h) (hts _ (z_nest w h))
  obtain ⟨D, hD⟩ := z_kall hw
  obtain ⟨cA, hA⟩ := z_arr hw hao
  have hC : zCx mL_law p room_1 s m #[Value.ref b] meth c D cA s.heap.size :=
    ⟨hx, hb, hml, hown, fun q => absurd q (by decide), hw, hnw, hao, ⟨hD, hA⟩, Nat.le_refl _, by decide, by decide, by decide, by decide⟩
  rw [lg_entry_eq]
  have hent : zL b s.heap.size (zMl mL_law) ((lg_sl [Value.ref b] ++ List.replicate (10 - (lg_sl [Value.ref b]).length) Slot.unset).toArray) [.ref 1000, .null, .null, .null, .null, .null, .null, .null, .null, .null] :=
    z_entry (b := b) (z := s.heap.size) (nL := 10) (as := [.ref 1000]) (fun v hv => by rw [List.mem_singleton.mp hv]; rfl) (by decide)
  have hR : zR D cA b s.heap.size 0 (fun _ _ => .null) s.heap := ⟨rfl, by omega, fun k q hq => absurd (List.getElem?_eq_some_iff.mp hq).1 (Nat.not_lt_zero k)⟩
  have K := law_run (X := (L, xs)) (h := fun _ _ => .null) (Q := fun v n _ => v = some 1 ∧ n ≤ 300) hL (fun _ _ q => ⟨rfl, q⟩) p l e room_1 s m #[Value.ref b] below meth c D cA b s.heap.size s.heap [] (lw_Z below #[Value.ref b] s) _ hC (fun _ => ⟨hX, hbl, hbl⟩) hent hR va_S.rf ?_
  · exact W.cs (Nat.sub_self _).symm (Nat.sub_self _).symm K
  · rintro v nx' h' H' locs' pc' la' ⟨rfl, hn3⟩ hret hR' hS'
    obtain ⟨hd, ty, hr2, hnr⟩ := hret
    refine va_forget (fun q hq => hS'.2.2 q hq) ?_
    refine W.widen (show nx' - 0 ≤ 600000 by omega) (show zN nx' - zN 0 ≤ 7302250 by have := zN_300 hn3; omega) ?_
    exact lw_ret hx hb hr hlocks hd
-- ===== YOUR PART ENDS =====
set_option maxHeartbeats 4000000 in
theorem lw_walk (l : Launch) (hflags : l.flags = flags0) (b : Addr) (xs : List Int32) : MetFree l x (headSpec (Jvm.Cond.code x code maxLocals ret :: tables_1) room_1) (lw_P b xs) (fun _ _ _ _ _ => True) lw_Q := by
  refine MetFree.of_bodyS (code := code) (maxLocals := maxLocals) (ret := ret) (by decide) ?_ ?_
  · intro args s m h hn
    obtain ⟨meth, c, h1, h2, h3, h4, h5, h6, -, -⟩ := Cond.code_spec hn (atoms_spec (ws := Jvm.Cond.code x code maxLocals ret :: tables_1) h _ List.mem_cons_self)
    exact ⟨meth, c, h1, h2, h3, h4, h5, h6⟩
  · intro p e s m args below meth c s₁ B hml0 hP _
    obtain ⟨rfl, hx, hbd, hgv⟩ := hP
    obtain ⟨scr, harrAt, hlist, hof, hsmall⟩ := hx
    obtain ⟨hcb, hkn, -, -⟩ := State.arrayAt?_spec harrAt
    have hown : s.vm.findClass R_law = some m.cls := findClass_of_methodNamed B.named
    have hts0 : ∀ c ∈ (Jvm.Cond.code x code maxLocals ret :: tables_1), c.before #[Value.ref b] s = true := atoms_spec (ws := Jvm.Cond.code x code maxLocals ret :: tables_1) B.pre
    have hts : ∀ w ∈ lw_tbl, w.before #[Value.ref b] s = true := k2_hts_sels lw_privs (fun w hw => hts0 w (List.mem_cons_of_mem _ hw)) lw_privs_ok
    have hml : c.maxLocals = 10 := B.maxLocals_eq (hts0 _ List.mem_cons_self)
    have X₀ : Stand p l e room_1 s m #[Value.ref b] below meth c s₁ [] 0 0 := Stand.of_body B
    have hh0 : s₁.heap = s.heap := by rw [B.state]; rfl
    have hsz : scr.slots.size = xs.length := by rw [← Array.length_toList, hlist, List.length_map]
    have hval : ∀ j : Nat, j < xs.length → scr.slots[j]? = some (.int (xs.getD j 0)) := fun j hj => by
      rw [← Array.getElem?_toList, hlist]
      simp [hj]
    have hbl : b < s.heap.size := (Array.getElem?_eq_some_iff.mp hcb).1
    have hX : va_X b xs.length (fun j => xs.getD j 0) s s.heap := ⟨scr, hcb, hof, hkn, hsz, hval⟩
    have K : W p l e room_1 s m #[Value.ref b] below meth c s₁.heap [] 0 0 (lw_Z below #[Value.ref b] s) (entryFrame m ([Value.ref b] : List Value).toArray 10) := by
      rw [hh0]
      exact whole_start l hflags hbd ⟨B.exec, B.bytes, B.returns, hml, hown, hts, hX, hbl, B.notSynchronized, hgv⟩
    obtain ⟨t, a1, o, b1, b2, b3⟩ := K s₁ rfl X₀
    exact ⟨t, o, a1, b1, b2, b3⟩
theorem lw_pre_spec {args : Array Value} {s : State} (h : (Jvm.Cond.and given_1 narrow_1).before args s = true) (hr : rest_1_c.before args s = true) : ∃ (b : Addr) (xs : List Int32), lw_P b xs args s := by
  have hs := flat_of_before _ h
  have hq := flat_of_before _ hr
  have hc : (Cond.count 1).before args s = true := hs _ (by decide +kernel)
  have harr : (Cond.arrayOf (.arg 0) .int).before args s = true := hs _ (by decide +kernel)
  have hle : (Cond.le (.length (.arg 0)) (.int 260)).before args s = true := hs _ (by decide +kernel)
  have hlen : (Cond.isInt (.length (.arg 0))).before args s = true := hq _ (by decide +kernel)
  have hall : (Cond.all (.arg 0) (.isInt (.elem (.arg 0) (.index 0)))).before args s = true := hq _ (by decide +kernel)
  obtain ⟨b, xs, hb, hx⟩ := State.ints_of_pre rfl harr hlen hall
  have hsm : xs.length < 2 ^ 31 := hx.choose_spec.2.2.2
  have hev : (Term.length (.arg 0)).eval args s none [] s = some (.int xs.length.toInt32) := hx.length_eval hb
  have hv := Cond.le_ints hev (show (Term.int 260).eval args s none [] s = some (.int 260) from rfl)
  have hd : xs.length.toInt32 ≤ 260 := by
    simpa [Cond.before, Cond.holds, hv] using hle
  have hN : xs.length ≤ 260 := (Int32.ofNat_le_ofNat hsm (by decide)).mp (show Int32.ofNat xs.length ≤ Int32.ofNat 260 from hd)
  exact ⟨b, xs, Cond.one_arg hc (show args[0]? = some (.ref b) from hb), hx, hN, h⟩
theorem lw_comes (l : Launch) (hflags : l.flags = flags0) : Comes l x (Jvm.Cond.code x code maxLocals ret :: tables_1) room_1 (fun tb e args s => Calls_1 tb e args s ∧ rest_1 tb e args s ∧ Pre_1 tb e args s)
    (fun _ _ args s o t => lw_Q args s o t) := by
  intro p e ha hc hk s m args below hf hfit hheap happ hpre
  obtain ⟨b, xs, hP⟩ := lw_pre_spec hpre.2.2 hpre.2.1
  obtain ⟨k, o, h1, h2, h3, hQ⟩ := lw_walk l hflags b xs p e ha hc hk s m args below hf ((Spec.applies_iff_loose hf).mp happ).1 hP trivial
  exact ⟨k, o, h1, h2, h3, hQ⟩
theorem lw_frame {s t : State} {o : Outcome} {args : Array Value} (h : Framed s o t [] 600000 7302250) :
    Framed s o t (fieldLocs frame_1_writes args s ++ arrayLocs frame_1_arrays args s ++ staticLocs frame_1_statics s) 600000 7302250 := h
theorem lw_limb (L : Cond) (hL : ∀ (args : Array Value) (s t : State), L.after args s (.returned (some (.int 1))) t = true) :
    ArmFor flags0 classFile x code maxLocals ret World_1 tables_1 room_1 Calls_1 rest_1 Pre_1
      (fun tb e a s o t => postC L tb e a s o t ∧ Framed s o t (fieldLocs frame_1_writes a s ++ arrayLocs frame_1_arrays a s ++ staticLocs frame_1_statics s) 600000 7302250) := by
  intro l hflags _ _ p e ha hc hk s m args below hf hfit hheap happ hpre
  obtain ⟨k, o, h1, h2, h3, rfl, hF⟩ := lw_comes l hflags p e ha hc hk s m args below hf hfit hheap happ hpre
  exact ⟨k, _, h1, h2, h3, hL args s _, lw_frame hF⟩
theorem i_vc : Claimed_1_1 ∧ Claimed_1_2 := ⟨lw_limb limb_1_1 (fun args s t => by simp [limb_1_1, Cond.after, Cond.holds, Cond.value]), lw_limb limb_1_2 (fun args s t => Cond.after_iff.mpr (by
  first | (rw [show limb_1_2 = Cond.eq .result (.int 1) from rfl, Cond.eq_ints (x := 1) (y := 1) rfl rfl]; simp; done) | (simp [limb_1_2, Cond.value, Term.eval]; done)))⟩
