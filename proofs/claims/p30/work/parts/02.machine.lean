/-- the words of the tables that last -/
def zWd : List Cond := lw_tbl.filter goodWord
-- the abstract heap: objects numbered in the order in which they come; zS says what each is
abbrev zH : Type := Nat → Nat → Value
abbrev zM : Type := MethodName × ByteArray × Nat × Option FieldType × Nat × Nat × Nat
abbrev zMn (M : zM) : MethodName := M.1
abbrev zMb (M : zM) : ByteArray := M.2.1
abbrev zMl (M : zM) : Nat := M.2.2.1
abbrev zMr (M : zM) : Option FieldType := M.2.2.2.1
abbrev zMh (M : zM) : Nat := M.2.2.2.2.1
abbrev zMc (M : zM) : Nat := M.2.2.2.2.2.1
abbrev zMs (M : zM) : Nat := M.2.2.2.2.2.2
abbrev zMo (M : zM) : String := M.1.cls
/-- the methods that read the script -/
abbrev zLw (M : zM) : Prop := (zMn M).name = "law" ∨ (zMn M).name = "cell"
def zRm (M : zM) : Room := { frames := zMh M, cells := zMc M, slots := zMs M, locals := 33 * zMh M }
/-- the place o of an auction: what lies there (0 to 5 objects of the classes in vwCl, 10 int[], 11 char[], 12 to 14 arrays of auctions, bidders, lots), and how long it is -/
def zA (o : Nat) : Nat × Nat := if o = 0 then (0, 0) else if o = 1 then (13, 12) else if o < 14 then (1, 0) else if o = 14 then (14, 8) else if o < 23 then (2, 0) else if o = 23 then (14, 8) else if o < 32 then (2, 0) else if o = 32 then (10, 4) else if o = 33 then (10, 3) else (2, 0)
def zS (i : Nat) : Nat × Nat := if i = 0 then (4, 0) else if i = 1 then (12, 4) else if i < 142 then zA ((i - 2) % 35) else if i = 142 then (3, 0) else if i = 143 then (11, 60) else if i = 144 then (10, 4) else if i < 215 then zA ((i - 145) % 35) else if i < 217 then (10, 60) else if i = 217 then (10, 16) else if i = 218 then (10, 10) else if i = 219 then (10, 40) else if i = 220 then (10, 18) else (10, 12)
def zF (c : Nat) : Nat := if c = 0 then 17 else if c = 1 then 11 else if c = 2 then 10 else if c = 3 then 9 else if c = 4 then 5 else 15
def zZ (i : Nat) : Nat := if (zS i).1 < 10 then zF (zS i).1 else (zS i).2
def zN : Nat → Nat
  | 0 => 0
  | n + 1 => zN n + zZ n
/-- an abstract value at the machine: the script is number 1000 -/
def zV (b z : Nat) (v : Value) : Value := match v with
  | .ref a => .ref (if a = 1000 then b else z + a)
  | u => u
def zI (v : Value) : Int32 := match v with
  | .int x => x
  | _ => 0
def zQ (b z : Nat) (v : Value) : Option Nat := match v with
  | .ref a => some (if a = 1000 then b else z + a)
  | _ => none
def zE (cA : Nat → ClassId) (b z i : Nat) (g : Nat → Value) : va_E :=
  if (zS i).1 < 10 then .inr ((zS i).1, (List.range (zF (zS i).1)).map (fun k => zV b z (g k)))
  else if (zS i).1 < 12 then .inl (cA ((zS i).1 - 10), (zS i).2, .inl (fun k => zI (g k)))
  else .inl (cA ((zS i).1 - 10), (zS i).2, .inr (.inr (.inr (.inr (fun k => zQ b z (g k))))))
def zW (cA : Nat → ClassId) (b z nx : Nat) (h : zH) : va_W := (List.range nx).map (fun i => (z + i, zE cA b z i (h i)))
def zT (cA : Nat → ClassId) : List (ClassId × FieldType) := [(cA 0, .int), (cA 1, .char), (cA 2, .object RX0), (cA 3, .object RX1), (cA 4, .object RX2)]
/-- the words of private members of nest mates -/
def zNf : List (String × Nat × String × String × String × String) := [("CoughBids$Auction", 87, "CoughBids$Bidder", "row", "I", "CoughBids"), ("CoughBids$Auction", 90, "CoughBids$Bidder", "seat", "I", "CoughBids"), ("CoughBids$Auction", 144, "CoughBids$Bidder", "purse", "I", "CoughBids"), ("CoughBids$Auction", 228, "CoughBids$Bidder", "purseAtFirst", "I", "CoughBids"), ("CoughBids$Auction", 160, "CoughBids$Bidder", "strength", "I", "CoughBids"), ("CoughBids$Auction", 117, "CoughBids$Bidder", "cold", "I", "CoughBids"), ("CoughBids$Auction", 120, "CoughBids$Bidder", "muffler", "I", "CoughBids"), ("CoughBids$Auction", 150, "CoughBids$Bidder", "coughs", "I", "CoughBids"), ("CoughBids$Auction", 159, "CoughBids$Bidder", "bids", "I", "CoughBids"), ("CoughBids$Auction", 127, "CoughBids$Lot", "reserve", "I", "CoughBids"), ("CoughBids", 120, "CoughBids$Lot", "reserve", "I", "CoughBids"), ("CoughBids", 123, "CoughBids$Lot", "step", "I", "CoughBids"), ("CoughBids$Auction", 196, "CoughBids$Lot", "latestBid", "I", "CoughBids"), ("CoughBids$Auction", 141, "CoughBids$Lot", "latestBidder", "I", "CoughBids"), ("CoughBids$Auction", 193, "CoughBids$Lot", "isLatestForCold", "Z", "CoughBids"), ("CoughBids$Auction", 184, "CoughBids$Lot", "hasBidSinceBeat", "Z", "CoughBids"), ("CoughBids$Auction", 166, "CoughBids$Lot", "doubts", "I", "CoughBids"), ("CoughBids$Auction", 187, "CoughBids$Lot", "hush", "I", "CoughBids"), ("CoughBids$Auction", 130, "CoughBids$Lot", "fate", "I", "CoughBids"), ("CoughBids", 78, "CoughBids$Auction", "bidders", "[LCoughBids$Bidder;", "CoughBids"), ("CoughBids", 116, "CoughBids$Auction", "queue", "[LCoughBids$Lot;", "CoughBids"), ("CoughBids", 129, "CoughBids$Auction", "gone", "[LCoughBids$Lot;", "CoughBids"), ("CoughBids", 154, "CoughBids$Auction", "bidderCount", "I", "CoughBids"), ("CoughBids", 112, "CoughBids$Auction", "waitingCount", "I", "CoughBids"), ("CoughBids", 126, "CoughBids$Auction", "goneCount", "I", "CoughBids"), ("CoughBids", 98, "CoughBids$Auction", "isUp", "Z", "CoughBids"), ("CoughBids", 103, "CoughBids$Auction", "raised", "LCoughBids$Lot;", "CoughBids"), ("CoughBids", 178, "CoughBids$Script", "length", "I", "CoughBids")]
def zNm : List (String × Nat × MethodName × String) := [("CoughBids$Auction", 17, ⟨"CoughBids$Bidder", "<init>", "()V"⟩, "CoughBids"), ("CoughBids$Auction", 24, ⟨"CoughBids$Lot", "<init>", "()V"⟩, "CoughBids"), ("CoughBids", 18, ⟨"CoughBids$Script", "<init>", "()V"⟩, "CoughBids"), ("CoughBids$Auction", 94, ⟨"CoughBids", "isSeat", "(II)Z"⟩, "CoughBids"), ("CoughBids$Auction", 98, ⟨"CoughBids", "isWithin", "(III)Z"⟩, "CoughBids")]
def zNw : List Cond := zNf.map (fun q => Cond.fieldLinkNest q.1 q.2.1 q.2.2.1 q.2.2.2.1 q.2.2.2.2.1 q.2.2.2.2.2) ++ zNm.map (fun q => Cond.methodLinkNest q.1 q.2.1 q.2.2.1 q.2.2.2)
def zAo : List String := [RX0, RX1, RX2]
def zR (D : va_G) (cA : Nat → ClassId) (b z nx : Nat) (h : zH) (H : Heap) : Prop := H.size = z + nx ∧ nx ≤ 1000 ∧ va_P D vwCl (zW cA b z nx h) H
/-- locals: .null says nothing of a place -/
def zL (b z nL : Nat) (la : Array Slot) (ls : List Value) : Prop := la.size = nL ∧ lv_wf la ∧ ls.length = nL ∧ ∀ (i : Nat) (v : Value), ls[i]? = some v → v ≠ .null → v.category = 1 ∧ la[i]? = some (.val (zV b z v))
def zFc (M : zM) (R : Room) (s : State) (args : Array Value) (D : va_G) (cA : Nat → ClassId) (z : Nat) : Prop :=
  (∀ w ∈ zWd, w.before args s = true) ∧ (∀ w ∈ zNw, va_Nw w s) ∧ (∀ C ∈ zAo, va_AO C s) ∧ va_K D vwCl (zT cA) s ∧ z ≤ s.heap.size ∧ (zMh M ≤ R.frames ∧ 33 * zMh M ≤ R.locals ∧ zMc M ≤ R.cells ∧ zMs M ≤ R.slots)
def zCx (M : zM) (p : Program) (R : Room) (s : State) (m : MethodId) (args : Array Value) (meth : Method) (c : Code) (D : va_G) (cA : Nat → ClassId) (z : Nat) : Prop :=
  p.tables.exec = Jvm.exec ∧ c.code = zMb M ∧ c.maxLocals = zMl M ∧ s.vm.findClass (zMo M) = some m.cls ∧ ((zMn M).name = "<init>" → meth.name = "<init>") ∧ zFc M R s args D cA z
def zRet (M : zM) (pc : Nat) (v : Option Int32) : Prop := match v with
  | some x => decode (zMb M) pc = .ok (.ireturn, 1) ∧ ∃ ty, zMr M = some ty ∧ narrow ty (.int x) = .int x
  | none => decode (zMb M) pc = .ok (.return_, 1) ∧ zMr M = none
abbrev zQt : Type := Option Int32 → Nat → zH → Prop
def zJ (X : Nat × (Nat → Int32)) (M : zM) (n0 pc : Nat) (ls st : List Value) (nx : Nat) (h : zH) (Q : zQt) : Prop :=
  ∀ (p : Program) (l : Launch) (e : Env) (R : Room) (s : State) (m : MethodId) (args : Array Value) (below : List Frame) (meth : Method) (c : Code) (D : va_G) (cA : Nat → ClassId) (b z : Nat) (H : Heap) (locs : List Loc) (Qm : State → Prop) (la : Array Slot),
    zCx M p R s m args meth c D cA z → (zLw M → va_X b X.1 X.2 s s.heap ∧ b < s.heap.size ∧ b < z) → zL b z (zMl M) la ls → zR D cA b z nx h H → va_S (fun q => z ≤ q) s.heap H locs →
    (∀ (v : Option Int32) (nx' : Nat) (h' : zH) (H' : Heap) (locs' : List Loc) (pc' : Nat) (la' : Array Slot), Q v nx' h' → zRet M pc' v → zR D cA b z nx' h' H' → va_S (fun q => z ≤ q) s.heap H' locs' →
      W p l e R s m args below meth c H' locs' (nx' - n0) (zN nx' - zN n0) Qm (F0 m pc' la' ((v.map Value.int).toList))) →
    W p l e R s m args below meth c H locs (nx - n0) (zN nx - zN n0) Qm (F0 m pc la (st.map (zV b z)))
theorem z_cat {b z : Nat} {v : Value} (h : (zV 0 0 v).category = 1) : (zV b z v).category = 1 := by
  cases v <;> first | exact h | rfl
theorem z_cat1 {b z : Nat} {v : Value} (h : v.category = 1) : (zV b z v).category = 1 := by
  cases v <;> first | exact h | rfl
theorem z_at {b z nL i : Nat} {la : Array Slot} {ls : List Value} {v : Value} (hl : zL b z nL la ls) (hi : ls[i]? = some v) (hv : v ≠ .null) : la[i]? = some (.val (zV b z v)) := (hl.2.2.2 i v hi hv).2
/-- the locals as the kit has them -/
def z_lv (b z : Nat) (ls : List Value) : List (Nat × Value) := (List.range ls.length).filterMap (fun (i : Nat) => match (ls[i]? : Option Value) with
  | none => none
  | some Value.null => none
  | some v => some (i, zV b z v))
theorem z_lv_mem {b z : Nat} {ls : List Value} {q : Nat × Value} : q ∈ z_lv b z ls ↔ ∃ v, ls[q.1]? = some v ∧ v ≠ .null ∧ q.2 = zV b z v := by
  unfold z_lv
  rw [List.mem_filterMap]
  constructor
  · rintro ⟨i, hi, h⟩
    cases hv : ls[i]? with
    | none => rw [hv] at h; cases h
    | some v =>
      rw [hv] at h
      cases v <;> first | (simp only [Option.some.injEq] at h; subst h; exact ⟨_, hv, (fun w => by cases w), rfl⟩) | (exact absurd h (fun w => by cases w))
  · rintro ⟨v, h1, h2, h3⟩
    refine ⟨q.1, List.mem_range.mpr (List.getElem?_eq_some_iff.mp h1).1, ?_⟩
    rw [h1]
    obtain ⟨q1, q2⟩ := q
    subst h3
    cases v <;> first | exact absurd rfl h2 | rfl
theorem z_has {b z nL : Nat} {la : Array Slot} {ls : List Value} (hl : zL b z nL la ls) : lv_has la nL (z_lv b z ls) := by
  refine ⟨hl.1, hl.2.1, fun q hq => ?_⟩
  obtain ⟨v, h1, h2, h3⟩ := z_lv_mem.mp hq
  rw [h3]
  exact (hl.2.2.2 _ v h1 h2).2
theorem z_has_at {b z nL i : Nat} {la : Array Slot} {ls : List Value} {v : Value} (hl : zL b z nL la ls) (hi : ls[i]? = some v) (hv : v ≠ .null) : ∃ k : Nat, (z_lv b z ls)[k]? = some (i, zV b z v) :=
  List.getElem?_of_mem (z_lv_mem.mpr ⟨v, hi, hv, rfl⟩)
theorem z_put {b z nL i : Nat} {la la1 : Array Slot} {ls : List Value} {v : Value} (hl : zL b z nL la ls) (hn : i < nL) (hc : v.category = 1) (h1 : lv_has la1 nL ((i, zV b z v) :: (z_lv b z ls).filter (fun q => !(q.1 == i) && !(q.1 + 1 == i && q.2.category == 2)))) : zL b z nL la1 (ls.set i v) := by
  refine ⟨h1.1, h1.2.1, by rw [List.length_set]; exact hl.2.2.1, fun j u hu hnu => ?_⟩
  by_cases hj : j = i
  · subst hj
    rw [List.getElem?_set_self (by rw [hl.2.2.1]; exact hn)] at hu
    cases hu
    exact ⟨hc, h1.2.2 (j, zV b z v) List.mem_cons_self⟩
  · rw [List.getElem?_set_ne (Ne.symm hj)] at hu
    have h2 := hl.2.2.2 j u hu hnu
    refine ⟨h2.1, h1.2.2 (j, zV b z u) (List.mem_cons_of_mem _ (List.mem_filter.mpr ⟨z_lv_mem.mpr ⟨u, hu, hnu, rfl⟩, ?_⟩))⟩
    have h3 : (zV b z u).category = 1 := z_cat1 h2.1
    simp [hj, h3]
section ZJ
variable {X : Nat × (Nat → Int32)} {M : zM} {n0 pc : Nat} {ls st : List Value} {nx : Nat} {h : zH} {Q : zQt}
theorem j_iconst {n : Int} {v : Int32} (hd : decode (zMb M) pc = .ok (.iconst n, 1)) (hv : Int32.ofInt n = v) (kk : zJ X M n0 (pc + 1) ls (.int v :: st) nx h Q) : zJ X M n0 pc ls (st) nx h Q := by
  intro p l e R s m args below meth c D cA b z H locs Qm la C hX hl hw hS hend
  exact lv_iconst C.1 C.2.1 hd hv (kk p l e R s m args below meth c D cA b z H locs Qm la C hX hl hw hS hend)
theorem j_bipush {n : Int} {v : Int32} (hd : decode (zMb M) pc = .ok (.bipush n, 2)) (hv : (Int8.ofInt n).toInt32 = v) (kk : zJ X M n0 (pc + 2) ls (.int v :: st) nx h Q) : zJ X M n0 pc ls (st) nx h Q := by
  intro p l e R s m args below meth c D cA b z H locs Qm la C hX hl hw hS hend
  exact lv_bipush C.1 C.2.1 hd hv (kk p l e R s m args below meth c D cA b z H locs Qm la C hX hl hw hS hend)
theorem j_sipush {n : Int} {v : Int32} (hd : decode (zMb M) pc = .ok (.sipush n, 3)) (hv : (Int16.ofInt n).toInt32 = v) (kk : zJ X M n0 (pc + 3) ls (.int v :: st) nx h Q) : zJ X M n0 pc ls (st) nx h Q := by
  intro p l e R s m args below meth c D cA b z H locs Qm la C hX hl hw hS hend
  exact lv_sipush C.1 C.2.1 hd hv (kk p l e R s m args below meth c D cA b z H locs Qm la C hX hl hw hS hend)
theorem j_iadd {x y : Int32} (hd : decode (zMb M) pc = .ok (.iadd, 1))  (kk : zJ X M n0 (pc + 1) ls (.int (x + y) :: st) nx h Q) : zJ X M n0 pc ls (.int y :: .int x :: st) nx h Q := by
  intro p l e R s m args below meth c D cA b z H locs Qm la C hX hl hw hS hend
  exact lv_iadd C.1 C.2.1 hd (kk p l e R s m args below meth c D cA b z H locs Qm la C hX hl hw hS hend)
theorem j_isub {x y : Int32} (hd : decode (zMb M) pc = .ok (.isub, 1))  (kk : zJ X M n0 (pc + 1) ls (.int (x - y) :: st) nx h Q) : zJ X M n0 pc ls (.int y :: .int x :: st) nx h Q := by
  intro p l e R s m args below meth c D cA b z H locs Qm la C hX hl hw hS hend
  exact lv_isub C.1 C.2.1 hd (kk p l e R s m args below meth c D cA b z H locs Qm la C hX hl hw hS hend)
theorem j_imul {x y : Int32} (hd : decode (zMb M) pc = .ok (.imul, 1))  (kk : zJ X M n0 (pc + 1) ls (.int (x * y) :: st) nx h Q) : zJ X M n0 pc ls (.int y :: .int x :: st) nx h Q := by
  intro p l e R s m args below meth c D cA b z H locs Qm la C hX hl hw hS hend
  exact lv_imul C.1 C.2.1 hd (kk p l e R s m args below meth c D cA b z H locs Qm la C hX hl hw hS hend)
theorem j_iand {x y : Int32} (hd : decode (zMb M) pc = .ok (.iand, 1))  (kk : zJ X M n0 (pc + 1) ls (.int (x &&& y) :: st) nx h Q) : zJ X M n0 pc ls (.int y :: .int x :: st) nx h Q := by
  intro p l e R s m args below meth c D cA b z H locs Qm la C hX hl hw hS hend
  exact lv_iand C.1 C.2.1 hd (kk p l e R s m args below meth c D cA b z H locs Qm la C hX hl hw hS hend)
theorem j_ior {x y : Int32} (hd : decode (zMb M) pc = .ok (.ior, 1))  (kk : zJ X M n0 (pc + 1) ls (.int (x ||| y) :: st) nx h Q) : zJ X M n0 pc ls (.int y :: .int x :: st) nx h Q := by
  intro p l e R s m args below meth c D cA b z H locs Qm la C hX hl hw hS hend
  exact lv_ior C.1 C.2.1 hd (kk p l e R s m args below meth c D cA b z H locs Qm la C hX hl hw hS hend)
theorem j_ishl {x y : Int32} (hd : decode (zMb M) pc = .ok (.ishl, 1))  (kk : zJ X M n0 (pc + 1) ls (.int (x <<< (y &&& 31)) :: st) nx h Q) : zJ X M n0 pc ls (.int y :: .int x :: st) nx h Q := by
  intro p l e R s m args below meth c D cA b z H locs Qm la C hX hl hw hS hend
  exact lv_ishl C.1 C.2.1 hd (kk p l e R s m args below meth c D cA b z H locs Qm la C hX hl hw hS hend)
theorem j_ishr {x y : Int32} (hd : decode (zMb M) pc = .ok (.ishr, 1))  (kk : zJ X M n0 (pc + 1) ls (.int (x >>> (y &&& 31)) :: st) nx h Q) : zJ X M n0 pc ls (.int y :: .int x :: st) nx h Q := by
  intro p l e R s m args below meth c D cA b z H locs Qm la C hX hl hw hS hend
  exact lv_ishr C.1 C.2.1 hd (kk p l e R s m args below meth c D cA b z H locs Qm la C hX hl hw hS hend)
theorem j_iushr {x y : Int32} (hd : decode (zMb M) pc = .ok (.iushr, 1))  (kk : zJ X M n0 (pc + 1) ls (.int (x.toUInt32 >>> (y.toUInt32 &&& Int32.toUInt32 31)).toInt32 :: st) nx h Q) : zJ X M n0 pc ls (.int y :: .int x :: st) nx h Q := by
  intro p l e R s m args below meth c D cA b z H locs Qm la C hX hl hw hS hend
  exact lv_iushr C.1 C.2.1 hd rfl (kk p l e R s m args below meth c D cA b z H locs Qm la C hX hl hw hS hend)
theorem j_idiv {x y : Int32} (hd : decode (zMb M) pc = .ok (.idiv, 1)) (hne : ¬ y = 0) (kk : zJ X M n0 (pc + 1) ls (.int (x / y) :: st) nx h Q) : zJ X M n0 pc ls (.int y :: .int x :: st) nx h Q := by
  intro p l e R s m args below meth c D cA b z H locs Qm la C hX hl hw hS hend
  exact lv_idiv C.1 C.2.1 hd hne (kk p l e R s m args below meth c D cA b z H locs Qm la C hX hl hw hS hend)
theorem j_irem {x y : Int32} (hd : decode (zMb M) pc = .ok (.irem, 1)) (hne : ¬ y = 0) (kk : zJ X M n0 (pc + 1) ls (.int (x - x / y * y) :: st) nx h Q) : zJ X M n0 pc ls (.int y :: .int x :: st) nx h Q := by
  intro p l e R s m args below meth c D cA b z H locs Qm la C hX hl hw hS hend
  exact lv_irem C.1 C.2.1 hd hne (kk p l e R s m args below meth c D cA b z H locs Qm la C hX hl hw hS hend)
theorem j_ineg {x : Int32} (hd : decode (zMb M) pc = .ok (.ineg, 1))  (kk : zJ X M n0 (pc + 1) ls (.int (0 - x) :: st) nx h Q) : zJ X M n0 pc ls (.int x :: st) nx h Q := by
  intro p l e R s m args below meth c D cA b z H locs Qm la C hX hl hw hS hend
  exact lv_ineg C.1 C.2.1 hd (kk p l e R s m args below meth c D cA b z H locs Qm la C hX hl hw hS hend)
theorem j_i2c {x : Int32} (hd : decode (zMb M) pc = .ok (.i2c, 1))  (kk : zJ X M n0 (pc + 1) ls (.int (x.toUInt32 % 65536).toInt32 :: st) nx h Q) : zJ X M n0 pc ls (.int x :: st) nx h Q := by
  intro p l e R s m args below meth c D cA b z H locs Qm la C hX hl hw hS hend
  exact lv_i2c C.1 C.2.1 hd rfl (kk p l e R s m args below meth c D cA b z H locs Qm la C hX hl hw hS hend)
theorem j_i2f {x : Int32} (hd : decode (zMb M) pc = .ok (.i2f, 1))  (kk : zJ X M n0 (pc + 1) ls (.float (FP.i2f x) :: st) nx h Q) : zJ X M n0 pc ls (.int x :: st) nx h Q := by
  intro p l e R s m args below meth c D cA b z H locs Qm la C hX hl hw hS hend
  exact lv_i2f C.1 C.2.1 hd (kk p l e R s m args below meth c D cA b z H locs Qm la C hX hl hw hS hend)
theorem j_f2i {x : UInt32} (hd : decode (zMb M) pc = .ok (.f2i, 1))  (kk : zJ X M n0 (pc + 1) ls (.int (FP.f2i x) :: st) nx h Q) : zJ X M n0 pc ls (.float x :: st) nx h Q := by
  intro p l e R s m args below meth c D cA b z H locs Qm la C hX hl hw hS hend
  exact lv_f2i C.1 C.2.1 hd (kk p l e R s m args below meth c D cA b z H locs Qm la C hX hl hw hS hend)
theorem j_fcmp {x y : UInt32} {op : CmpOp} (hd : decode (zMb M) pc = .ok (.fcmp op, 1))  (kk : zJ X M n0 (pc + 1) ls (.int (Op.cmpValue (FP.fcmp x y) op) :: st) nx h Q) : zJ X M n0 pc ls (.float y :: .float x :: st) nx h Q := by
  intro p l e R s m args below meth c D cA b z H locs Qm la C hX hl hw hS hend
  exact lv_fcmp C.1 C.2.1 hd (kk p l e R s m args below meth c D cA b z H locs Qm la C hX hl hw hS hend)
theorem j_fsub {x y : UInt32} (hd : decode (zMb M) pc = .ok (.fsub, 1)) (hne : vf_n32 (FP.fsub x y)) (kk : zJ X M n0 (pc + 1) ls (.float (FP.fsub x y) :: st) nx h Q) : zJ X M n0 pc ls (.float y :: .float x :: st) nx h Q := by
  intro p l e R s m args below meth c D cA b z H locs Qm la C hX hl hw hS hend
  exact lv_fsub C.1 C.2.1 hd hne (kk p l e R s m args below meth c D cA b z H locs Qm la C hX hl hw hS hend)
theorem j_fmul {x y : UInt32} (hd : decode (zMb M) pc = .ok (.fmul, 1)) (hne : vf_n32 (FP.fmul x y)) (kk : zJ X M n0 (pc + 1) ls (.float (FP.fmul x y) :: st) nx h Q) : zJ X M n0 pc ls (.float y :: .float x :: st) nx h Q := by
  intro p l e R s m args below meth c D cA b z H locs Qm la C hX hl hw hS hend
  exact lv_fmul C.1 C.2.1 hd hne (kk p l e R s m args below meth c D cA b z H locs Qm la C hX hl hw hS hend)
theorem j_fdiv {x y : UInt32} (hd : decode (zMb M) pc = .ok (.fdiv, 1)) (hne : vf_n32 (FP.fdiv x y)) (kk : zJ X M n0 (pc + 1) ls (.float (FP.fdiv x y) :: st) nx h Q) : zJ X M n0 pc ls (.float y :: .float x :: st) nx h Q := by
  intro p l e R s m args below meth c D cA b z H locs Qm la C hX hl hw hS hend
  exact lv_fdiv C.1 C.2.1 hd hne (kk p l e R s m args below meth c D cA b z H locs Qm la C hX hl hw hS hend)
theorem j_fconst1  (hd : decode (zMb M) pc = .ok (.fconst 1, 1))  (kk : zJ X M n0 (pc + 1) ls (.float 0x3f800000 :: st) nx h Q) : zJ X M n0 pc ls (st) nx h Q := by
  intro p l e R s m args below meth c D cA b z H locs Qm la C hX hl hw hS hend
  exact lv_fconst1 C.1 C.2.1 hd (kk p l e R s m args below meth c D cA b z H locs Qm la C hX hl hw hS hend)
theorem j_fconst2  (hd : decode (zMb M) pc = .ok (.fconst 2, 1))  (kk : zJ X M n0 (pc + 1) ls (.float 0x40000000 :: st) nx h Q) : zJ X M n0 pc ls (st) nx h Q := by
  intro p l e R s m args below meth c D cA b z H locs Qm la C hX hl hw hS hend
  exact lv_fconst2 C.1 C.2.1 hd (kk p l e R s m args below meth c D cA b z H locs Qm la C hX hl hw hS hend)
theorem j_ldc {i : Nat} {v : Int32} (hd : decode (zMb M) pc = .ok (.ldc i, 2)) (hc : Cond.constant (zMo M) i v ∈ zWd) (kk : zJ X M n0 (pc + 2) ls (.int v :: st) nx h Q) : zJ X M n0 pc ls (st) nx h Q := by
  intro p l e R s m args below meth c D cA b z H locs Qm la C hX hl hw hS hend
  exact lv_ldc C.1 C.2.1 C.2.2.2.1 (C.2.2.2.2.2.1 _ hc) hd (kk p l e R s m args below meth c D cA b z H locs Qm la C hX hl hw hS hend)
theorem j_ldcf {i : Nat} {v : UInt32} (hd : decode (zMb M) pc = .ok (.ldc i, 2)) (hc : Cond.constantFloat (zMo M) i v ∈ zWd) (kk : zJ X M n0 (pc + 2) ls (.float v :: st) nx h Q) : zJ X M n0 pc ls (st) nx h Q := by
  intro p l e R s m args below meth c D cA b z H locs Qm la C hX hl hw hS hend
  exact lv_ldcf C.1 C.2.1 C.2.2.2.1 (C.2.2.2.2.2.1 _ hc) hd (kk p l e R s m args below meth c D cA b z H locs Qm la C hX hl hw hS hend)
theorem j_dup {v : Value} (hd : decode (zMb M) pc = .ok (.dup, 1)) (hv : (zV 0 0 v).category = 1) (kk : zJ X M n0 (pc + 1) ls (v :: v :: st) nx h Q) : zJ X M n0 pc ls (v :: st) nx h Q := by
  intro p l e R s m args below meth c D cA b z H locs Qm la C hX hl hw hS hend
  exact lv_dup C.1 C.2.1 hd (z_cat hv) (kk p l e R s m args below meth c D cA b z H locs Qm la C hX hl hw hS hend)
theorem j_pop {v : Value} (hd : decode (zMb M) pc = .ok (.pop, 1)) (hv : (zV 0 0 v).category = 1) (kk : zJ X M n0 (pc + 1) ls (st) nx h Q) : zJ X M n0 pc ls (v :: st) nx h Q := by
  intro p l e R s m args below meth c D cA b z H locs Qm la C hX hl hw hS hend
  exact lv_pop C.1 C.2.1 hd (z_cat hv) (kk p l e R s m args below meth c D cA b z H locs Qm la C hX hl hw hS hend)
theorem j_dup2 {v u : Value} (hd : decode (zMb M) pc = .ok (.dup2, 1)) (hv : (zV 0 0 v).category = 1) (hu : (zV 0 0 u).category = 1) (kk : zJ X M n0 (pc + 1) ls (v :: u :: v :: u :: st) nx h Q) : zJ X M n0 pc ls (v :: u :: st) nx h Q := by
  intro p l e R s m args below meth c D cA b z H locs Qm la C hX hl hw hS hend
  exact lv_dup2_11 C.1 C.2.1 hd (z_cat hv) (z_cat hu) (kk p l e R s m args below meth c D cA b z H locs Qm la C hX hl hw hS hend)
theorem j_iload_n {k : Fin 4} {x : Int32} (hd : decode (zMb M) pc = .ok (.iload_n k, 1)) (hi : ls[(k : Nat)]? = some (.int x)) (kk : zJ X M n0 (pc + 1) ls (.int x :: st) nx h Q) : zJ X M n0 pc ls (st) nx h Q := by
  intro p l e R s m args below meth c D cA b z H locs Qm la C hX hl hw hS hend
  exact lv_iload_n C.1 C.2.1 hd rfl (z_at hl hi (fun q => by cases q)) (kk p l e R s m args below meth c D cA b z H locs Qm la C hX hl hw hS hend)
theorem j_iload {i : Nat} {x : Int32} (hd : decode (zMb M) pc = .ok (.iload i, 2)) (hi : ls[i]? = some (.int x)) (kk : zJ X M n0 (pc + 2) ls (.int x :: st) nx h Q) : zJ X M n0 pc ls (st) nx h Q := by
  intro p l e R s m args below meth c D cA b z H locs Qm la C hX hl hw hS hend
  exact lv_iload C.1 C.2.1 hd (z_at hl hi (fun q => by cases q)) (kk p l e R s m args below meth c D cA b z H locs Qm la C hX hl hw hS hend)
theorem j_aload_n {k : Fin 4} {x : Nat} (hd : decode (zMb M) pc = .ok (.aload_n k, 1)) (hi : ls[(k : Nat)]? = some (.ref x)) (kk : zJ X M n0 (pc + 1) ls (.ref x :: st) nx h Q) : zJ X M n0 pc ls (st) nx h Q := by
  intro p l e R s m args below meth c D cA b z H locs Qm la C hX hl hw hS hend
  exact lv_aload_n C.1 C.2.1 hd rfl (z_at hl hi (fun q => by cases q)) (kk p l e R s m args below meth c D cA b z H locs Qm la C hX hl hw hS hend)
theorem j_aload {i : Nat} {x : Nat} (hd : decode (zMb M) pc = .ok (.aload i, 2)) (hi : ls[i]? = some (.ref x)) (kk : zJ X M n0 (pc + 2) ls (.ref x :: st) nx h Q) : zJ X M n0 pc ls (st) nx h Q := by
  intro p l e R s m args below meth c D cA b z H locs Qm la C hX hl hw hS hend
  exact lv_aload C.1 C.2.1 hd (z_at hl hi (fun q => by cases q)) (kk p l e R s m args below meth c D cA b z H locs Qm la C hX hl hw hS hend)
theorem j_fload_n {k : Fin 4} {x : UInt32} (hd : decode (zMb M) pc = .ok (.fload_n k, 1)) (hi : ls[(k : Nat)]? = some (.float x)) (kk : zJ X M n0 (pc + 1) ls (.float x :: st) nx h Q) : zJ X M n0 pc ls (st) nx h Q := by
  intro p l e R s m args below meth c D cA b z H locs Qm la C hX hl hw hS hend
  exact lv_fload_n C.1 C.2.1 hd rfl (z_at hl hi (fun q => by cases q)) (kk p l e R s m args below meth c D cA b z H locs Qm la C hX hl hw hS hend)
theorem j_fload {i : Nat} {x : UInt32} (hd : decode (zMb M) pc = .ok (.fload i, 2)) (hi : ls[i]? = some (.float x)) (kk : zJ X M n0 (pc + 2) ls (.float x :: st) nx h Q) : zJ X M n0 pc ls (st) nx h Q := by
  intro p l e R s m args below meth c D cA b z H locs Qm la C hX hl hw hS hend
  exact lv_fload C.1 C.2.1 hd (z_at hl hi (fun q => by cases q)) (kk p l e R s m args below meth c D cA b z H locs Qm la C hX hl hw hS hend)
theorem j_istore_n {k : Fin 4} {x : Int32} (hd : decode (zMb M) pc = .ok (.istore_n k, 1)) (hn : (k : Nat) < zMl M) (kk : zJ X M n0 (pc + 1) (ls.set k (.int x)) st nx h Q) : zJ X M n0 pc ls (.int x :: st) nx h Q := by
  intro p l e R s m args below meth c D cA b z H locs Qm la C hX hl hw hS hend
  exact lv_istore_n C.1 C.2.1 hd rfl (z_has hl) hn rfl (fun la1 h1 => kk p l e R s m args below meth c D cA b z H locs Qm la1 C hX (z_put hl hn rfl h1) hw hS hend)
theorem j_istore {i : Nat} {x : Int32} (hd : decode (zMb M) pc = .ok (.istore i, 2)) (hn : i < zMl M) (kk : zJ X M n0 (pc + 2) (ls.set i (.int x)) st nx h Q) : zJ X M n0 pc ls (.int x :: st) nx h Q := by
  intro p l e R s m args below meth c D cA b z H locs Qm la C hX hl hw hS hend
  exact lv_istore C.1 C.2.1 hd (z_has hl) hn rfl (fun la1 h1 => kk p l e R s m args below meth c D cA b z H locs Qm la1 C hX (z_put hl hn rfl h1) hw hS hend)
theorem j_astore_n {k : Fin 4} {x : Nat} (hd : decode (zMb M) pc = .ok (.astore_n k, 1)) (hn : (k : Nat) < zMl M) (kk : zJ X M n0 (pc + 1) (ls.set k (.ref x)) st nx h Q) : zJ X M n0 pc ls (.ref x :: st) nx h Q := by
  intro p l e R s m args below meth c D cA b z H locs Qm la C hX hl hw hS hend
  exact lv_astore_n C.1 C.2.1 hd rfl (z_has hl) hn rfl (fun la1 h1 => kk p l e R s m args below meth c D cA b z H locs Qm la1 C hX (z_put hl hn rfl h1) hw hS hend)
theorem j_astore {i : Nat} {x : Nat} (hd : decode (zMb M) pc = .ok (.astore i, 2)) (hn : i < zMl M) (kk : zJ X M n0 (pc + 2) (ls.set i (.ref x)) st nx h Q) : zJ X M n0 pc ls (.ref x :: st) nx h Q := by
  intro p l e R s m args below meth c D cA b z H locs Qm la C hX hl hw hS hend
  exact lv_astore C.1 C.2.1 hd (z_has hl) hn rfl (fun la1 h1 => kk p l e R s m args below meth c D cA b z H locs Qm la1 C hX (z_put hl hn rfl h1) hw hS hend)
theorem j_fstore_n {k : Fin 4} {x : UInt32} (hd : decode (zMb M) pc = .ok (.fstore_n k, 1)) (hn : (k : Nat) < zMl M) (kk : zJ X M n0 (pc + 1) (ls.set k (.float x)) st nx h Q) : zJ X M n0 pc ls (.float x :: st) nx h Q := by
  intro p l e R s m args below meth c D cA b z H locs Qm la C hX hl hw hS hend
  exact lv_fstore_n C.1 C.2.1 hd rfl (z_has hl) hn rfl (fun la1 h1 => kk p l e R s m args below meth c D cA b z H locs Qm la1 C hX (z_put hl hn rfl h1) hw hS hend)
theorem j_fstore {i : Nat} {x : UInt32} (hd : decode (zMb M) pc = .ok (.fstore i, 2)) (hn : i < zMl M) (kk : zJ X M n0 (pc + 2) (ls.set i (.float x)) st nx h Q) : zJ X M n0 pc ls (.float x :: st) nx h Q := by
  intro p l e R s m args below meth c D cA b z H locs Qm la C hX hl hw hS hend
  exact lv_fstore C.1 C.2.1 hd (z_has hl) hn rfl (fun la1 h1 => kk p l e R s m args below meth c D cA b z H locs Qm la1 C hX (z_put hl hn rfl h1) hw hS hend)
theorem j_iinc {i : Nat} {n : Int} {x v : Int32} (hd : decode (zMb M) pc = .ok (.iinc i n, 3)) (hi : ls[i]? = some (.int x)) (hv : x + Int32.ofInt n = v) (hn : i < zMl M) (kk : zJ X M n0 (pc + 3) (ls.set i (.int v)) st nx h Q) : zJ X M n0 pc ls st nx h Q := by
  intro p l e R s m args below meth c D cA b z H locs Qm la C hX hl hw hS hend
  obtain ⟨k, hk⟩ := z_has_at hl hi (fun q => by cases q)
  exact lv_iinc C.1 C.2.1 hd (z_has hl) hk hv hn rfl (fun la1 h1 => kk p l e R s m args below meth c D cA b z H locs Qm la1 C hX (z_put hl hn rfl h1) hw hS hend)
theorem j_if_eq {x : Int32} {off : Int} {tgt : Nat} (hd : decode (zMb M) pc = .ok (.ifCond .eq off, 3)) (ht : (pc : Int) + off = (tgt : Int)) (kt : (x = 0) → zJ X M n0 tgt ls st nx h Q) (kf : (¬ (x = 0)) → zJ X M n0 (pc + 3) ls st nx h Q) : zJ X M n0 pc ls (.int x :: st) nx h Q := by
  intro p l e R s m args below meth c D cA b z H locs Qm la C hX hl hw hS hend
  exact lv_if_eq C.1 C.2.1 hd ht (fun q => kt q p l e R s m args below meth c D cA b z H locs Qm la C hX hl hw hS hend) (fun q => kf q p l e R s m args below meth c D cA b z H locs Qm la C hX hl hw hS hend)
theorem j_icmp_eq {x y : Int32} {off : Int} {tgt : Nat} (hd : decode (zMb M) pc = .ok (.if_icmp .eq off, 3)) (ht : (pc : Int) + off = (tgt : Int)) (kt : (x = y) → zJ X M n0 tgt ls st nx h Q) (kf : (¬ (x = y)) → zJ X M n0 (pc + 3) ls st nx h Q) : zJ X M n0 pc ls (.int y :: .int x :: st) nx h Q := by
  intro p l e R s m args below meth c D cA b z H locs Qm la C hX hl hw hS hend
  exact lv_icmp_eq C.1 C.2.1 hd ht (fun q => kt q p l e R s m args below meth c D cA b z H locs Qm la C hX hl hw hS hend) (fun q => kf q p l e R s m args below meth c D cA b z H locs Qm la C hX hl hw hS hend)
theorem j_if_ne {x : Int32} {off : Int} {tgt : Nat} (hd : decode (zMb M) pc = .ok (.ifCond .ne off, 3)) (ht : (pc : Int) + off = (tgt : Int)) (kt : (¬ x = 0) → zJ X M n0 tgt ls st nx h Q) (kf : (x = 0) → zJ X M n0 (pc + 3) ls st nx h Q) : zJ X M n0 pc ls (.int x :: st) nx h Q := by
  intro p l e R s m args below meth c D cA b z H locs Qm la C hX hl hw hS hend
  exact lv_if_ne C.1 C.2.1 hd ht (fun q => kt q p l e R s m args below meth c D cA b z H locs Qm la C hX hl hw hS hend) (fun q => kf q p l e R s m args below meth c D cA b z H locs Qm la C hX hl hw hS hend)
theorem j_icmp_ne {x y : Int32} {off : Int} {tgt : Nat} (hd : decode (zMb M) pc = .ok (.if_icmp .ne off, 3)) (ht : (pc : Int) + off = (tgt : Int)) (kt : (¬ x = y) → zJ X M n0 tgt ls st nx h Q) (kf : (x = y) → zJ X M n0 (pc + 3) ls st nx h Q) : zJ X M n0 pc ls (.int y :: .int x :: st) nx h Q := by
  intro p l e R s m args below meth c D cA b z H locs Qm la C hX hl hw hS hend
  exact lv_icmp_ne C.1 C.2.1 hd ht (fun q => kt q p l e R s m args below meth c D cA b z H locs Qm la C hX hl hw hS hend) (fun q => kf q p l e R s m args below meth c D cA b z H locs Qm la C hX hl hw hS hend)
theorem j_if_lt {x : Int32} {off : Int} {tgt : Nat} (hd : decode (zMb M) pc = .ok (.ifCond .lt off, 3)) (ht : (pc : Int) + off = (tgt : Int)) (kt : (x < 0) → zJ X M n0 tgt ls st nx h Q) (kf : (¬ (x < 0)) → zJ X M n0 (pc + 3) ls st nx h Q) : zJ X M n0 pc ls (.int x :: st) nx h Q := by
  intro p l e R s m args below meth c D cA b z H locs Qm la C hX hl hw hS hend
  exact lv_if_lt C.1 C.2.1 hd ht (fun q => kt q p l e R s m args below meth c D cA b z H locs Qm la C hX hl hw hS hend) (fun q => kf q p l e R s m args below meth c D cA b z H locs Qm la C hX hl hw hS hend)
theorem j_icmp_lt {x y : Int32} {off : Int} {tgt : Nat} (hd : decode (zMb M) pc = .ok (.if_icmp .lt off, 3)) (ht : (pc : Int) + off = (tgt : Int)) (kt : (x < y) → zJ X M n0 tgt ls st nx h Q) (kf : (¬ (x < y)) → zJ X M n0 (pc + 3) ls st nx h Q) : zJ X M n0 pc ls (.int y :: .int x :: st) nx h Q := by
  intro p l e R s m args below meth c D cA b z H locs Qm la C hX hl hw hS hend
  exact lv_icmp_lt C.1 C.2.1 hd ht (fun q => kt q p l e R s m args below meth c D cA b z H locs Qm la C hX hl hw hS hend) (fun q => kf q p l e R s m args below meth c D cA b z H locs Qm la C hX hl hw hS hend)
theorem j_if_ge {x : Int32} {off : Int} {tgt : Nat} (hd : decode (zMb M) pc = .ok (.ifCond .ge off, 3)) (ht : (pc : Int) + off = (tgt : Int)) (kt : (0 ≤ x) → zJ X M n0 tgt ls st nx h Q) (kf : (¬ (0 ≤ x)) → zJ X M n0 (pc + 3) ls st nx h Q) : zJ X M n0 pc ls (.int x :: st) nx h Q := by
  intro p l e R s m args below meth c D cA b z H locs Qm la C hX hl hw hS hend
  exact lv_if_ge C.1 C.2.1 hd ht (fun q => kt q p l e R s m args below meth c D cA b z H locs Qm la C hX hl hw hS hend) (fun q => kf q p l e R s m args below meth c D cA b z H locs Qm la C hX hl hw hS hend)
theorem j_icmp_ge {x y : Int32} {off : Int} {tgt : Nat} (hd : decode (zMb M) pc = .ok (.if_icmp .ge off, 3)) (ht : (pc : Int) + off = (tgt : Int)) (kt : (y ≤ x) → zJ X M n0 tgt ls st nx h Q) (kf : (¬ (y ≤ x)) → zJ X M n0 (pc + 3) ls st nx h Q) : zJ X M n0 pc ls (.int y :: .int x :: st) nx h Q := by
  intro p l e R s m args below meth c D cA b z H locs Qm la C hX hl hw hS hend
  exact lv_icmp_ge C.1 C.2.1 hd ht (fun q => kt q p l e R s m args below meth c D cA b z H locs Qm la C hX hl hw hS hend) (fun q => kf q p l e R s m args below meth c D cA b z H locs Qm la C hX hl hw hS hend)
theorem j_if_gt {x : Int32} {off : Int} {tgt : Nat} (hd : decode (zMb M) pc = .ok (.ifCond .gt off, 3)) (ht : (pc : Int) + off = (tgt : Int)) (kt : (0 < x) → zJ X M n0 tgt ls st nx h Q) (kf : (¬ (0 < x)) → zJ X M n0 (pc + 3) ls st nx h Q) : zJ X M n0 pc ls (.int x :: st) nx h Q := by
  intro p l e R s m args below meth c D cA b z H locs Qm la C hX hl hw hS hend
  exact lv_if_gt C.1 C.2.1 hd ht (fun q => kt q p l e R s m args below meth c D cA b z H locs Qm la C hX hl hw hS hend) (fun q => kf q p l e R s m args below meth c D cA b z H locs Qm la C hX hl hw hS hend)
theorem j_icmp_gt {x y : Int32} {off : Int} {tgt : Nat} (hd : decode (zMb M) pc = .ok (.if_icmp .gt off, 3)) (ht : (pc : Int) + off = (tgt : Int)) (kt : (y < x) → zJ X M n0 tgt ls st nx h Q) (kf : (¬ (y < x)) → zJ X M n0 (pc + 3) ls st nx h Q) : zJ X M n0 pc ls (.int y :: .int x :: st) nx h Q := by
  intro p l e R s m args below meth c D cA b z H locs Qm la C hX hl hw hS hend
  exact lv_icmp_gt C.1 C.2.1 hd ht (fun q => kt q p l e R s m args below meth c D cA b z H locs Qm la C hX hl hw hS hend) (fun q => kf q p l e R s m args below meth c D cA b z H locs Qm la C hX hl hw hS hend)
theorem j_if_le {x : Int32} {off : Int} {tgt : Nat} (hd : decode (zMb M) pc = .ok (.ifCond .le off, 3)) (ht : (pc : Int) + off = (tgt : Int)) (kt : (x ≤ 0) → zJ X M n0 tgt ls st nx h Q) (kf : (¬ (x ≤ 0)) → zJ X M n0 (pc + 3) ls st nx h Q) : zJ X M n0 pc ls (.int x :: st) nx h Q := by
  intro p l e R s m args below meth c D cA b z H locs Qm la C hX hl hw hS hend
  exact lv_if_le C.1 C.2.1 hd ht (fun q => kt q p l e R s m args below meth c D cA b z H locs Qm la C hX hl hw hS hend) (fun q => kf q p l e R s m args below meth c D cA b z H locs Qm la C hX hl hw hS hend)
theorem j_icmp_le {x y : Int32} {off : Int} {tgt : Nat} (hd : decode (zMb M) pc = .ok (.if_icmp .le off, 3)) (ht : (pc : Int) + off = (tgt : Int)) (kt : (x ≤ y) → zJ X M n0 tgt ls st nx h Q) (kf : (¬ (x ≤ y)) → zJ X M n0 (pc + 3) ls st nx h Q) : zJ X M n0 pc ls (.int y :: .int x :: st) nx h Q := by
  intro p l e R s m args below meth c D cA b z H locs Qm la C hX hl hw hS hend
  exact lv_icmp_le C.1 C.2.1 hd ht (fun q => kt q p l e R s m args below meth c D cA b z H locs Qm la C hX hl hw hS hend) (fun q => kf q p l e R s m args below meth c D cA b z H locs Qm la C hX hl hw hS hend)
theorem j_goto {off : Int} {tgt : Nat} (hd : decode (zMb M) pc = .ok (.goto off, 3)) (ht : (pc : Int) + off = (tgt : Int)) (kk : zJ X M n0 tgt ls st nx h Q) : zJ X M n0 pc ls st nx h Q := by
  intro p l e R s m args below meth c D cA b z H locs Qm la C hX hl hw hS hend
  exact lv_goto C.1 C.2.1 hd ht (kk p l e R s m args below meth c D cA b z H locs Qm la C hX hl hw hS hend)
theorem j_lookup {dflt : Int} {ps : Array (Int × Int)} {len : Nat} {x : Int32} {off : Int} {tgt : Nat} (hd : decode (zMb M) pc = .ok (.lookupswitch dflt ps, len)) (hp : (ps.toList.zip (ps.toList.drop 1)).all (fun (a, next) => a.1 < next.1) = true) (ho : Op.lookupswitch.offset ps.toList dflt x.toInt = off) (ht : (pc : Int) + off = (tgt : Int)) (kk : zJ X M n0 tgt ls st nx h Q) : zJ X M n0 pc ls (.int x :: st) nx h Q := by
  intro p l e R s m args below meth c D cA b z H locs Qm la C hX hl hw hS hend
  exact lv_lookup C.1 C.2.1 hd hp ho ht (kk p l e R s m args below meth c D cA b z H locs Qm la C hX hl hw hS hend)
theorem j_tableOut {dflt lo hi : Int} {offs : Array Int} {len : Nat} {x : Int32} {tgt : Nat} (hd : decode (zMb M) pc = .ok (.tableswitch dflt lo hi offs, len)) (hx : x.toInt < lo ∨ hi < x.toInt) (ht : (pc : Int) + dflt = (tgt : Int)) (kk : zJ X M n0 tgt ls st nx h Q) : zJ X M n0 pc ls (.int x :: st) nx h Q := by
  intro p l e R s m args below meth c D cA b z H locs Qm la C hX hl hw hS hend
  exact lv_tableOut C.1 C.2.1 hd hx ht (kk p l e R s m args below meth c D cA b z H locs Qm la C hX hl hw hS hend)
theorem j_tableIn {dflt lo hi : Int} {offs : Array Int} {len : Nat} {x : Int32} {off : Int} {tgt : Nat} (hd : decode (zMb M) pc = .ok (.tableswitch dflt lo hi offs, len)) (h1 : ¬ x.toInt < lo) (h2 : ¬ hi < x.toInt) (ho : offs[(x.toInt - lo).toNat]? = some off) (ht : (pc : Int) + off = (tgt : Int)) (kk : zJ X M n0 tgt ls st nx h Q) : zJ X M n0 pc ls (.int x :: st) nx h Q := by
  intro p l e R s m args below meth c D cA b z H locs Qm la C hX hl hw hS hend
  exact lv_tableIn C.1 C.2.1 hd h1 h2 ho ht (kk p l e R s m args below meth c D cA b z H locs Qm la C hX hl hw hS hend)
theorem j_iret {x : Int32} {ty : FieldType} (hd : decode (zMb M) pc = .ok (.ireturn, 1)) (hr : zMr M = some ty) (hn : narrow ty (.int x) = .int x) (hQ : Q (some x) nx h) : zJ X M n0 pc ls [.int x] nx h Q := by
  intro p l e R s m args below meth c D cA b z H locs Qm la C hX hl hw hS hend
  exact hend (some x) nx h H locs pc la hQ ⟨hd, ty, hr, hn⟩ hw hS
theorem j_vret (hd : decode (zMb M) pc = .ok (.return_, 1)) (hr : zMr M = none) (hQ : Q none nx h) : zJ X M n0 pc ls [] nx h Q := by
  intro p l e R s m args below meth c D cA b z H locs Qm la C hX hl hw hS hend
  exact hend none nx h H locs pc la hQ ⟨hd, hr⟩ hw hS
end ZJ
