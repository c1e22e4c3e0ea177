section
-- begun from kit/laws/SKELETON.whole (PART A) and claim/NAMES.whole (printed): by wip/whole/mknames.py
-- ===== PART A: goes FIRST, ahead of the names: the tables' words, and 'selects' of the private methods out of them =====
/-- a private method of a class that the tables say can be made, by its rows of tables_1 -/
def lw_okq (q : MethodName × Nat) : Prop := (q.1.cls ≠ "java/lang/invoke/MethodHandle" ∧ q.1.cls ≠ "java/lang/invoke/VarHandle") ∧ Cond.instantiable q.1.cls q.2 ∈ tables_1 ∧ Cond.privateMethod q.1 ∈ tables_1 ∧ Cond.instanceMethod q.1 ∈ tables_1
theorem lw_p0 : lw_okq (⟨"CoughBids", "keep", "(I)I"⟩, 5) := ⟨⟨by decide +kernel, by decide +kernel⟩, List.mem_of_getElem? (i := 12) (by decide +kernel), List.mem_of_getElem? (i := 288) (by decide +kernel), List.mem_of_getElem? (i := 289) (by decide +kernel)⟩
theorem lw_p1 : lw_okq (⟨"CoughBids", "dropOldest", "()V"⟩, 5) := ⟨⟨by decide +kernel, by decide +kernel⟩, List.mem_of_getElem? (i := 12) (by decide +kernel), List.mem_of_getElem? (i := 292) (by decide +kernel), List.mem_of_getElem? (i := 293) (by decide +kernel)⟩
theorem lw_p2 : lw_okq (⟨"CoughBids$Auction", "doubtBid", "()V"⟩, 17) := ⟨⟨by decide +kernel, by decide +kernel⟩, List.mem_of_getElem? (i := 21) (by decide +kernel), List.mem_of_getElem? (i := 364) (by decide +kernel), List.mem_of_getElem? (i := 365) (by decide +kernel)⟩
theorem lw_p3 : lw_okq (⟨"CoughBids$Auction", "close", "(I)V"⟩, 17) := ⟨⟨by decide +kernel, by decide +kernel⟩, List.mem_of_getElem? (i := 21) (by decide +kernel), List.mem_of_getElem? (i := 368) (by decide +kernel), List.mem_of_getElem? (i := 369) (by decide +kernel)⟩
theorem lw_p4 : lw_okq (⟨"CoughBids$Auction", "hushOrHammer", "()V"⟩, 17) := ⟨⟨by decide +kernel, by decide +kernel⟩, List.mem_of_getElem? (i := 21) (by decide +kernel), List.mem_of_getElem? (i := 389) (by decide +kernel), List.mem_of_getElem? (i := 390) (by decide +kernel)⟩
theorem lw_p5 : lw_okq (⟨"CoughBids$Auction", "letHammerFall", "()V"⟩, 17) := ⟨⟨by decide +kernel, by decide +kernel⟩, List.mem_of_getElem? (i := 21) (by decide +kernel), List.mem_of_getElem? (i := 393) (by decide +kernel), List.mem_of_getElem? (i := 394) (by decide +kernel)⟩
theorem lw_p6 : lw_okq (⟨"CoughBids$Auction", "sitsBesideCold", "(LCoughBids$Bidder;)Z"⟩, 17) := ⟨⟨by decide +kernel, by decide +kernel⟩, List.mem_of_getElem? (i := 21) (by decide +kernel), List.mem_of_getElem? (i := 413) (by decide +kernel), List.mem_of_getElem? (i := 414) (by decide +kernel)⟩
theorem lw_p7 : lw_okq (⟨"CoughBids$Script", "readOrder", "()Z"⟩, 9) := ⟨⟨by decide +kernel, by decide +kernel⟩, List.mem_of_getElem? (i := 190) (by decide +kernel), List.mem_of_getElem? (i := 571) (by decide +kernel), List.mem_of_getElem? (i := 572) (by decide +kernel)⟩
theorem lw_p8 : lw_okq (⟨"CoughBids$Script", "next", "()C"⟩, 9) := ⟨⟨by decide +kernel, by decide +kernel⟩, List.mem_of_getElem? (i := 190) (by decide +kernel), List.mem_of_getElem? (i := 575) (by decide +kernel), List.mem_of_getElem? (i := 576) (by decide +kernel)⟩
theorem lw_p9 : lw_okq (⟨"CoughBids$Script", "readCharacter", "(C)Z"⟩, 9) := ⟨⟨by decide +kernel, by decide +kernel⟩, List.mem_of_getElem? (i := 190) (by decide +kernel), List.mem_of_getElem? (i := 582) (by decide +kernel), List.mem_of_getElem? (i := 583) (by decide +kernel)⟩
theorem lw_p10 : lw_okq (⟨"CoughBids$Script", "readNumber", "(I)Z"⟩, 9) := ⟨⟨by decide +kernel, by decide +kernel⟩, List.mem_of_getElem? (i := 190) (by decide +kernel), List.mem_of_getElem? (i := 586) (by decide +kernel), List.mem_of_getElem? (i := 587) (by decide +kernel)⟩
theorem lw_p11 : lw_okq (⟨"CoughBids$Script", "noteFault", "(III)V"⟩, 9) := ⟨⟨by decide +kernel, by decide +kernel⟩, List.mem_of_getElem? (i := 190) (by decide +kernel), List.mem_of_getElem? (i := 590) (by decide +kernel), List.mem_of_getElem? (i := 591) (by decide +kernel)⟩
theorem lw_p12 : lw_okq (⟨"CoughBidsModel", "seated", "(II)I"⟩, 15) := ⟨⟨by decide +kernel, by decide +kernel⟩, List.mem_of_getElem? (i := 609) (by decide +kernel), List.mem_of_getElem? (i := 672) (by decide +kernel), List.mem_of_getElem? (i := 673) (by decide +kernel)⟩
theorem lw_p13 : lw_okq (⟨"CoughBidsModel", "of", "(II)I"⟩, 15) := ⟨⟨by decide +kernel, by decide +kernel⟩, List.mem_of_getElem? (i := 609) (by decide +kernel), List.mem_of_getElem? (i := 676) (by decide +kernel), List.mem_of_getElem? (i := 677) (by decide +kernel)⟩
theorem lw_p14 : lw_okq (⟨"CoughBidsModel", "changes", "()V"⟩, 15) := ⟨⟨by decide +kernel, by decide +kernel⟩, List.mem_of_getElem? (i := 609) (by decide +kernel), List.mem_of_getElem? (i := 683) (by decide +kernel), List.mem_of_getElem? (i := 684) (by decide +kernel)⟩
theorem lw_p15 : lw_okq (⟨"CoughBidsModel", "lay", "(III)V"⟩, 15) := ⟨⟨by decide +kernel, by decide +kernel⟩, List.mem_of_getElem? (i := 609) (by decide +kernel), List.mem_of_getElem? (i := 687) (by decide +kernel), List.mem_of_getElem? (i := 688) (by decide +kernel)⟩
def lw_privs_1 : List (MethodName × Nat) := [(⟨"CoughBids", "keep", "(I)I"⟩, 5), (⟨"CoughBids", "dropOldest", "()V"⟩, 5), (⟨"CoughBids$Auction", "doubtBid", "()V"⟩, 17), (⟨"CoughBids$Auction", "close", "(I)V"⟩, 17), (⟨"CoughBids$Auction", "hushOrHammer", "()V"⟩, 17), (⟨"CoughBids$Auction", "letHammerFall", "()V"⟩, 17), (⟨"CoughBids$Auction", "sitsBesideCold", "(LCoughBids$Bidder;)Z"⟩, 17), (⟨"CoughBids$Script", "readOrder", "()Z"⟩, 9), (⟨"CoughBids$Script", "next", "()C"⟩, 9), (⟨"CoughBids$Script", "readCharacter", "(C)Z"⟩, 9), (⟨"CoughBids$Script", "readNumber", "(I)Z"⟩, 9), (⟨"CoughBids$Script", "noteFault", "(III)V"⟩, 9), (⟨"CoughBidsModel", "seated", "(II)I"⟩, 15), (⟨"CoughBidsModel", "of", "(II)I"⟩, 15), (⟨"CoughBidsModel", "changes", "()V"⟩, 15), (⟨"CoughBidsModel", "lay", "(III)V"⟩, 15)]
theorem lw_r1 : ∀ q ∈ lw_privs_1, lw_okq q := List.forall_mem_cons.mpr ⟨lw_p0, List.forall_mem_cons.mpr ⟨lw_p1, List.forall_mem_cons.mpr ⟨lw_p2, List.forall_mem_cons.mpr ⟨lw_p3, List.forall_mem_cons.mpr ⟨lw_p4, List.forall_mem_cons.mpr ⟨lw_p5, List.forall_mem_cons.mpr ⟨lw_p6, List.forall_mem_cons.mpr ⟨lw_p7, List.forall_mem_cons.mpr ⟨lw_p8, List.forall_mem_cons.mpr ⟨lw_p9, List.forall_mem_cons.mpr ⟨lw_p10, List.forall_mem_cons.mpr ⟨lw_p11, List.forall_mem_cons.mpr ⟨lw_p12, List.forall_mem_cons.mpr ⟨lw_p13, List.forall_mem_cons.mpr ⟨lw_p14, List.forall_mem_cons.mpr ⟨lw_p15, fun _ h => absurd h List.not_mem_nil⟩⟩⟩⟩⟩⟩⟩⟩⟩⟩⟩⟩⟩⟩⟩⟩
theorem lw_p16 : lw_okq (⟨"CoughBidsModel", "isBidder", "(I)Z"⟩, 15) := ⟨⟨by decide +kernel, by decide +kernel⟩, List.mem_of_getElem? (i := 609) (by decide +kernel), List.mem_of_getElem? (i := 695) (by decide +kernel), List.mem_of_getElem? (i := 696) (by decide +kernel)⟩
theorem lw_p17 : lw_okq (⟨"CoughBidsModel", "coughs", "(II)I"⟩, 15) := ⟨⟨by decide +kernel, by decide +kernel⟩, List.mem_of_getElem? (i := 609) (by decide +kernel), List.mem_of_getElem? (i := 715) (by decide +kernel), List.mem_of_getElem? (i := 716) (by decide +kernel)⟩
theorem lw_p18 : lw_okq (⟨"CoughBidsModel", "barred", "(I)I"⟩, 15) := ⟨⟨by decide +kernel, by decide +kernel⟩, List.mem_of_getElem? (i := 609) (by decide +kernel), List.mem_of_getElem? (i := 719) (by decide +kernel), List.mem_of_getElem? (i := 720) (by decide +kernel)⟩
theorem lw_p19 : lw_okq (⟨"CoughBidsModel", "loud", "(I)I"⟩, 15) := ⟨⟨by decide +kernel, by decide +kernel⟩, List.mem_of_getElem? (i := 609) (by decide +kernel), List.mem_of_getElem? (i := 723) (by decide +kernel), List.mem_of_getElem? (i := 724) (by decide +kernel)⟩
theorem lw_p20 : lw_okq (⟨"CoughBidsModel", "asked", "()I"⟩, 15) := ⟨⟨by decide +kernel, by decide +kernel⟩, List.mem_of_getElem? (i := 609) (by decide +kernel), List.mem_of_getElem? (i := 727) (by decide +kernel), List.mem_of_getElem? (i := 728) (by decide +kernel)⟩
theorem lw_p21 : lw_okq (⟨"CoughBidsModel", "adds", "(III)V"⟩, 15) := ⟨⟨by decide +kernel, by decide +kernel⟩, List.mem_of_getElem? (i := 609) (by decide +kernel), List.mem_of_getElem? (i := 731) (by decide +kernel), List.mem_of_getElem? (i := 732) (by decide +kernel)⟩
theorem lw_p22 : lw_okq (⟨"CoughBidsModel", "goes", "(I)V"⟩, 15) := ⟨⟨by decide +kernel, by decide +kernel⟩, List.mem_of_getElem? (i := 609) (by decide +kernel), List.mem_of_getElem? (i := 735) (by decide +kernel), List.mem_of_getElem? (i := 736) (by decide +kernel)⟩
theorem lw_p23 : lw_okq (⟨"CoughBidsModel", "gone", "()I"⟩, 15) := ⟨⟨by decide +kernel, by decide +kernel⟩, List.mem_of_getElem? (i := 609) (by decide +kernel), List.mem_of_getElem? (i := 743) (by decide +kernel), List.mem_of_getElem? (i := 744) (by decide +kernel)⟩
theorem lw_p24 : lw_okq (⟨"CoughBidsModel", "pass", "(I)V"⟩, 15) := ⟨⟨by decide +kernel, by decide +kernel⟩, List.mem_of_getElem? (i := 609) (by decide +kernel), List.mem_of_getElem? (i := 747) (by decide +kernel), List.mem_of_getElem? (i := 748) (by decide +kernel)⟩
theorem lw_p25 : lw_okq (⟨"CoughBidsModel", "beat", "()V"⟩, 15) := ⟨⟨by decide +kernel, by decide +kernel⟩, List.mem_of_getElem? (i := 609) (by decide +kernel), List.mem_of_getElem? (i := 751) (by decide +kernel), List.mem_of_getElem? (i := 752) (by decide +kernel)⟩
theorem lw_p26 : lw_okq (⟨"CoughBidsModel", "coughsNext", "(I)Z"⟩, 15) := ⟨⟨by decide +kernel, by decide +kernel⟩, List.mem_of_getElem? (i := 609) (by decide +kernel), List.mem_of_getElem? (i := 755) (by decide +kernel), List.mem_of_getElem? (i := 756) (by decide +kernel)⟩
theorem lw_p27 : lw_okq (⟨"CoughBidsModel", "hammers", "()V"⟩, 15) := ⟨⟨by decide +kernel, by decide +kernel⟩, List.mem_of_getElem? (i := 609) (by decide +kernel), List.mem_of_getElem? (i := 759) (by decide +kernel), List.mem_of_getElem? (i := 760) (by decide +kernel)⟩
theorem lw_p28 : lw_okq (⟨"CoughBidsModel", "nightPasses", "()V"⟩, 15) := ⟨⟨by decide +kernel, by decide +kernel⟩, List.mem_of_getElem? (i := 609) (by decide +kernel), List.mem_of_getElem? (i := 767) (by decide +kernel), List.mem_of_getElem? (i := 768) (by decide +kernel)⟩
theorem lw_p29 : lw_okq (⟨"CoughBidsModel", "catchesFrom", "(II)Z"⟩, 15) := ⟨⟨by decide +kernel, by decide +kernel⟩, List.mem_of_getElem? (i := 609) (by decide +kernel), List.mem_of_getElem? (i := 771) (by decide +kernel), List.mem_of_getElem? (i := 772) (by decide +kernel)⟩
theorem lw_p30 : lw_okq (⟨"CoughBidsModel", "colds", "()I"⟩, 15) := ⟨⟨by decide +kernel, by decide +kernel⟩, List.mem_of_getElem? (i := 609) (by decide +kernel), List.mem_of_getElem? (i := 775) (by decide +kernel), List.mem_of_getElem? (i := 776) (by decide +kernel)⟩
theorem lw_p31 : lw_okq (⟨"CoughBidsModel", "byPurses", "()I"⟩, 15) := ⟨⟨by decide +kernel, by decide +kernel⟩, List.mem_of_getElem? (i := 609) (by decide +kernel), List.mem_of_getElem? (i := 851) (by decide +kernel), List.mem_of_getElem? (i := 852) (by decide +kernel)⟩
def lw_privs_2 : List (MethodName × Nat) := [(⟨"CoughBidsModel", "isBidder", "(I)Z"⟩, 15), (⟨"CoughBidsModel", "coughs", "(II)I"⟩, 15), (⟨"CoughBidsModel", "barred", "(I)I"⟩, 15), (⟨"CoughBidsModel", "loud", "(I)I"⟩, 15), (⟨"CoughBidsModel", "asked", "()I"⟩, 15), (⟨"CoughBidsModel", "adds", "(III)V"⟩, 15), (⟨"CoughBidsModel", "goes", "(I)V"⟩, 15), (⟨"CoughBidsModel", "gone", "()I"⟩, 15), (⟨"CoughBidsModel", "pass", "(I)V"⟩, 15), (⟨"CoughBidsModel", "beat", "()V"⟩, 15), (⟨"CoughBidsModel", "coughsNext", "(I)Z"⟩, 15), (⟨"CoughBidsModel", "hammers", "()V"⟩, 15), (⟨"CoughBidsModel", "nightPasses", "()V"⟩, 15), (⟨"CoughBidsModel", "catchesFrom", "(II)Z"⟩, 15), (⟨"CoughBidsModel", "colds", "()I"⟩, 15), (⟨"CoughBidsModel", "byPurses", "()I"⟩, 15)]
theorem lw_r2 : ∀ q ∈ lw_privs_2, lw_okq q := List.forall_mem_cons.mpr ⟨lw_p16, List.forall_mem_cons.mpr ⟨lw_p17, List.forall_mem_cons.mpr ⟨lw_p18, List.forall_mem_cons.mpr ⟨lw_p19, List.forall_mem_cons.mpr ⟨lw_p20, List.forall_mem_cons.mpr ⟨lw_p21, List.forall_mem_cons.mpr ⟨lw_p22, List.forall_mem_cons.mpr ⟨lw_p23, List.forall_mem_cons.mpr ⟨lw_p24, List.forall_mem_cons.mpr ⟨lw_p25, List.forall_mem_cons.mpr ⟨lw_p26, List.forall_mem_cons.mpr ⟨lw_p27, List.forall_mem_cons.mpr ⟨lw_p28, List.forall_mem_cons.mpr ⟨lw_p29, List.forall_mem_cons.mpr ⟨lw_p30, List.forall_mem_cons.mpr ⟨lw_p31, fun _ h => absurd h List.not_mem_nil⟩⟩⟩⟩⟩⟩⟩⟩⟩⟩⟩⟩⟩⟩⟩⟩
theorem lw_p32 : lw_okq (⟨"CoughBidsModel", "plays", "()Z"⟩, 15) := ⟨⟨by decide +kernel, by decide +kernel⟩, List.mem_of_getElem? (i := 609) (by decide +kernel), List.mem_of_getElem? (i := 871) (by decide +kernel), List.mem_of_getElem? (i := 872) (by decide +kernel)⟩
theorem lw_p33 : lw_okq (⟨"CoughBidsModel", "parses", "()Z"⟩, 15) := ⟨⟨by decide +kernel, by decide +kernel⟩, List.mem_of_getElem? (i := 609) (by decide +kernel), List.mem_of_getElem? (i := 875) (by decide +kernel), List.mem_of_getElem? (i := 876) (by decide +kernel)⟩
theorem lw_p34 : lw_okq (⟨"CoughBidsModel", "isAt", "(II)Z"⟩, 15) := ⟨⟨by decide +kernel, by decide +kernel⟩, List.mem_of_getElem? (i := 609) (by decide +kernel), List.mem_of_getElem? (i := 879) (by decide +kernel), List.mem_of_getElem? (i := 880) (by decide +kernel)⟩
theorem lw_p35 : lw_okq (⟨"CoughBidsModel", "numbered", "(I)Z"⟩, 15) := ⟨⟨by decide +kernel, by decide +kernel⟩, List.mem_of_getElem? (i := 609) (by decide +kernel), List.mem_of_getElem? (i := 886) (by decide +kernel), List.mem_of_getElem? (i := 887) (by decide +kernel)⟩
theorem lw_p36 : lw_okq (⟨"CoughBidsModel", "sign", "(I)Z"⟩, 15) := ⟨⟨by decide +kernel, by decide +kernel⟩, List.mem_of_getElem? (i := 609) (by decide +kernel), List.mem_of_getElem? (i := 890) (by decide +kernel), List.mem_of_getElem? (i := 891) (by decide +kernel)⟩
theorem lw_p37 : lw_okq (⟨"CoughBidsModel", "does", "()I"⟩, 15) := ⟨⟨by decide +kernel, by decide +kernel⟩, List.mem_of_getElem? (i := 609) (by decide +kernel), List.mem_of_getElem? (i := 894) (by decide +kernel), List.mem_of_getElem? (i := 895) (by decide +kernel)⟩
def lw_privs_3 : List (MethodName × Nat) := [(⟨"CoughBidsModel", "plays", "()Z"⟩, 15), (⟨"CoughBidsModel", "parses", "()Z"⟩, 15), (⟨"CoughBidsModel", "isAt", "(II)Z"⟩, 15), (⟨"CoughBidsModel", "numbered", "(I)Z"⟩, 15), (⟨"CoughBidsModel", "sign", "(I)Z"⟩, 15), (⟨"CoughBidsModel", "does", "()I"⟩, 15)]
theorem lw_r3 : ∀ q ∈ lw_privs_3, lw_okq q := List.forall_mem_cons.mpr ⟨lw_p32, List.forall_mem_cons.mpr ⟨lw_p33, List.forall_mem_cons.mpr ⟨lw_p34, List.forall_mem_cons.mpr ⟨lw_p35, List.forall_mem_cons.mpr ⟨lw_p36, List.forall_mem_cons.mpr ⟨lw_p37, fun _ h => absurd h List.not_mem_nil⟩⟩⟩⟩⟩⟩
def lw_privs : List (MethodName × Nat) := lw_privs_1 ++ (lw_privs_2 ++ (lw_privs_3))
def lw_tbl : List Cond := k2_sels lw_privs ++ tables_1
theorem lw_privs_ok : ∀ q ∈ lw_privs, lw_okq q := by
  show ∀ q ∈ lw_privs_1 ++ (lw_privs_2 ++ (lw_privs_3)), lw_okq q
  exact List.forall_mem_append.mpr ⟨lw_r1, List.forall_mem_append.mpr ⟨lw_r2, lw_r3⟩⟩
/-- the streams that the claim lets the run draw from -/
abbrev lw_cs : List Choice := [Jvm.Choice.named "NaN.bits"]
theorem lw_bits : nanBits ∈ lw_cs := by first | decide | exact List.mem_cons_self | simp [lw_cs, nanBits]
-- ===== end of PART A; then your names; then what follows =====
/-! ===== BEGIN words of one list among another's, by their places ===== -/
/-! ===== END ===== -/

/-! ===== BEGIN printed: names, fields, word lists, decode rows ===== -/
def RX0 : String := "CoughBids$Auction"
def TX0 : u_T := fun k => match k with
  | 0 => ("CoughBids$Auction", "bidders", "[LCoughBids$Bidder;", true)
  | 1 => ("CoughBids$Auction", "queue", "[LCoughBids$Lot;", true)
  | 2 => ("CoughBids$Auction", "gone", "[LCoughBids$Lot;", true)
  | 3 => ("CoughBids$Auction", "fates", "[I", true)
  | 4 => ("CoughBids$Auction", "settings", "[I", true)
  | 5 => ("CoughBids$Auction", "bidderCount", "I", false)
  | 6 => ("CoughBids$Auction", "waitingCount", "I", false)
  | 7 => ("CoughBids$Auction", "goneCount", "I", false)
  | 8 => ("CoughBids$Auction", "isUp", "Z", false)
  | 9 => ("CoughBids$Auction", "raised", "LCoughBids$Lot;", false)
  | 10 => ("CoughBids$Auction", "beatsPassed", "I", false)
  | 11 => ("CoughBids$Auction", "nightsPassed", "I", false)
  | 12 => ("CoughBids$Auction", "lotsCame", "I", false)
  | 13 => ("CoughBids$Auction", "coinsPaid", "I", false)
  | 14 => ("CoughBids$Auction", "coughs", "I", false)
  | 15 => ("CoughBids$Auction", "bids", "I", false)
  | _ => ("CoughBids$Auction", "doubts", "I", false)
def tyX0 : Nat → FieldType := fun k => match k with
  | 0 => .array (.object "CoughBids$Bidder")
  | 1 => .array (.object "CoughBids$Lot")
  | 2 => .array (.object "CoughBids$Lot")
  | 3 => .array .int
  | 4 => .array .int
  | 5 => .int
  | 6 => .int
  | 7 => .int
  | 8 => .boolean
  | 9 => .object "CoughBids$Lot"
  | 10 => .int
  | 11 => .int
  | 12 => .int
  | 13 => .int
  | 14 => .int
  | 15 => .int
  | _ => .int
abbrev wsX00 : List Cond := u_ws RX0 TX0 17
theorem nmX0 : ∀ a, a < 17 → ∀ b, b < 17 → a ≠ b → (TX0 a).2.1 ≠ (TX0 b).2.1 := by decide +kernel
theorem tyX0_ok : ∀ k, k < 17 → parseFieldDescriptor (TX0 k).2.2.1 = some (tyX0 k) := by decide +kernel
abbrev cX0_init : ByteArray := prog_2_method_1_code
def yX0_init : MethodName := ⟨RX0, "<init>", "()V"⟩
abbrev cX0_copyFrom : ByteArray := prog_2_method_2_code
def yX0_copyFrom : MethodName := ⟨RX0, "copyFrom", "(LCoughBids$Auction;)V"⟩
abbrev cX0_hasBidder : ByteArray := prog_2_method_3_code
def yX0_hasBidder : MethodName := ⟨RX0, "hasBidder", "(I)Z"⟩
abbrev cX0_findSeated : ByteArray := prog_2_method_4_code
def yX0_findSeated : MethodName := ⟨RX0, "findSeated", "(II)I"⟩
abbrev cX0_seatBidder : ByteArray := prog_2_method_5_code
def yX0_seatBidder : MethodName := ⟨RX0, "seatBidder", "(IIII)I"⟩
abbrev cX0_changeCold : ByteArray := prog_2_method_6_code
def yX0_changeCold : MethodName := ⟨RX0, "changeCold", "(II)I"⟩
abbrev cX0_changeMuffler : ByteArray := prog_2_method_7_code
def yX0_changeMuffler : MethodName := ⟨RX0, "changeMuffler", "(II)I"⟩
abbrev cX0_bidderSetWithCold : ByteArray := prog_2_method_8_code
def yX0_bidderSetWithCold : MethodName := ⟨RX0, "bidderSetWithCold", "()I"⟩
abbrev cX0_changeSetting : ByteArray := prog_2_method_9_code
def yX0_changeSetting : MethodName := ⟨RX0, "changeSetting", "(II)I"⟩
abbrev cX0_addLot : ByteArray := prog_2_method_10_code
def yX0_addLot : MethodName := ⟨RX0, "addLot", "(II)I"⟩
abbrev cX0_raiseNextLot : ByteArray := prog_2_method_11_code
def yX0_raiseNextLot : MethodName := ⟨RX0, "raiseNextLot", "()I"⟩
abbrev cX0_close : ByteArray := prog_2_method_12_code
def yX0_close : MethodName := ⟨RX0, "close", "(I)V"⟩
abbrev cX0_reasonAgainst : ByteArray := prog_2_method_13_code
def yX0_reasonAgainst : MethodName := ⟨RX0, "reasonAgainst", "(I)I"⟩
abbrev cX0_takeCough : ByteArray := prog_2_method_14_code
def yX0_takeCough : MethodName := ⟨RX0, "takeCough", "(IZ)I"⟩
abbrev cX0_doubtBid : ByteArray := prog_2_method_15_code
def yX0_doubtBid : MethodName := ⟨RX0, "doubtBid", "()V"⟩
abbrev cX0_isDueToCough : ByteArray := prog_2_method_16_code
def yX0_isDueToCough : MethodName := ⟨RX0, "isDueToCough", "(I)Z"⟩
abbrev cX0_passBeats : ByteArray := prog_2_method_17_code
def yX0_passBeats : MethodName := ⟨RX0, "passBeats", "(I)I"⟩
abbrev cX0_passBeat : ByteArray := prog_2_method_18_code
def yX0_passBeat : MethodName := ⟨RX0, "passBeat", "()V"⟩
abbrev cX0_hushOrHammer : ByteArray := prog_2_method_19_code
def yX0_hushOrHammer : MethodName := ⟨RX0, "hushOrHammer", "()V"⟩
abbrev cX0_letHammerFall : ByteArray := prog_2_method_20_code
def yX0_letHammerFall : MethodName := ⟨RX0, "letHammerFall", "()V"⟩
abbrev cX0_passNight : ByteArray := prog_2_method_21_code
def yX0_passNight : MethodName := ⟨RX0, "passNight", "()I"⟩
abbrev cX0_spreadColds : ByteArray := prog_2_method_22_code
def yX0_spreadColds : MethodName := ⟨RX0, "spreadColds", "()V"⟩
abbrev cX0_sitsBesideCold : ByteArray := prog_2_method_23_code
def yX0_sitsBesideCold : MethodName := ⟨RX0, "sitsBesideCold", "(LCoughBids$Bidder;)Z"⟩
abbrev cX0_coinsGoneFromPurses : ByteArray := prog_2_method_24_code
def yX0_coinsGoneFromPurses : MethodName := ⟨RX0, "coinsGoneFromPurses", "()I"⟩
abbrev cX0_total : ByteArray := prog_2_method_25_code
def yX0_total : MethodName := ⟨RX0, "total", "(I)I"⟩
abbrev cX0_carryOut : ByteArray := prog_2_method_26_code
def yX0_carryOut : MethodName := ⟨RX0, "carryOut", "(C[I)I"⟩
def RX1 : String := "CoughBids$Bidder"
def TX1 : u_T := fun k => match k with
  | 0 => ("CoughBids$Bidder", "row", "I", false)
  | 1 => ("CoughBids$Bidder", "seat", "I", false)
  | 2 => ("CoughBids$Bidder", "purse", "I", false)
  | 3 => ("CoughBids$Bidder", "purseAtFirst", "I", false)
  | 4 => ("CoughBids$Bidder", "strength", "I", false)
  | 5 => ("CoughBids$Bidder", "cold", "I", false)
  | 6 => ("CoughBids$Bidder", "muffler", "I", false)
  | 7 => ("CoughBids$Bidder", "coughs", "I", false)
  | 8 => ("CoughBids$Bidder", "bids", "I", false)
  | 9 => ("CoughBids$Bidder", "lotsBought", "I", false)
  | _ => ("CoughBids$Bidder", "coinsPaid", "I", false)
def tyX1 : Nat → FieldType := fun k => match k with
  | 0 => .int
  | 1 => .int
  | 2 => .int
  | 3 => .int
  | 4 => .int
  | 5 => .int
  | 6 => .int
  | 7 => .int
  | 8 => .int
  | 9 => .int
  | _ => .int
abbrev wsX10 : List Cond := u_ws RX1 TX1 11
theorem nmX1 : ∀ a, a < 11 → ∀ b, b < 11 → a ≠ b → (TX1 a).2.1 ≠ (TX1 b).2.1 := by decide +kernel
theorem tyX1_ok : ∀ k, k < 11 → parseFieldDescriptor (TX1 k).2.2.1 = some (tyX1 k) := by decide +kernel
abbrev cX1_init : ByteArray := prog_3_method_1_code
def yX1_init : MethodName := ⟨RX1, "<init>", "()V"⟩
abbrev cX1_sitDown : ByteArray := prog_3_method_2_code
def yX1_sitDown : MethodName := ⟨RX1, "sitDown", "(IIII)V"⟩
abbrev cX1_copyFrom : ByteArray := prog_3_method_3_code
def yX1_copyFrom : MethodName := ⟨RX1, "copyFrom", "(LCoughBids$Bidder;)V"⟩
abbrev cX1_loudness : ByteArray := prog_3_method_4_code
def yX1_loudness : MethodName := ⟨RX1, "loudness", "()I"⟩
abbrev cX1_isBeside : ByteArray := prog_3_method_5_code
def yX1_isBeside : MethodName := ⟨RX1, "isBeside", "(LCoughBids$Bidder;)Z"⟩
abbrev cX1_pay : ByteArray := prog_3_method_6_code
def yX1_pay : MethodName := ⟨RX1, "pay", "(I)V"⟩
abbrev cX1_tell : ByteArray := prog_3_method_7_code
def yX1_tell : MethodName := ⟨RX1, "tell", "(I)I"⟩
def RX2 : String := "CoughBids$Lot"
def TX2 : u_T := fun k => match k with
  | 0 => ("CoughBids$Lot", "reserve", "I", false)
  | 1 => ("CoughBids$Lot", "step", "I", false)
  | 2 => ("CoughBids$Lot", "latestBid", "I", false)
  | 3 => ("CoughBids$Lot", "latestBidder", "I", false)
  | 4 => ("CoughBids$Lot", "isLatestForCold", "Z", false)
  | 5 => ("CoughBids$Lot", "hasBidSinceBeat", "Z", false)
  | 6 => ("CoughBids$Lot", "bids", "I", false)
  | 7 => ("CoughBids$Lot", "doubts", "I", false)
  | 8 => ("CoughBids$Lot", "hush", "I", false)
  | _ => ("CoughBids$Lot", "fate", "I", false)
def tyX2 : Nat → FieldType := fun k => match k with
  | 0 => .int
  | 1 => .int
  | 2 => .int
  | 3 => .int
  | 4 => .boolean
  | 5 => .boolean
  | 6 => .int
  | 7 => .int
  | 8 => .int
  | _ => .int
abbrev wsX20 : List Cond := u_ws RX2 TX2 10
theorem nmX2 : ∀ a, a < 10 → ∀ b, b < 10 → a ≠ b → (TX2 a).2.1 ≠ (TX2 b).2.1 := by decide +kernel
theorem tyX2_ok : ∀ k, k < 10 → parseFieldDescriptor (TX2 k).2.2.1 = some (tyX2 k) := by decide +kernel
abbrev cX2_init : ByteArray := prog_4_method_1_code
def yX2_init : MethodName := ⟨RX2, "<init>", "()V"⟩
abbrev cX2_come : ByteArray := prog_4_method_2_code
def yX2_come : MethodName := ⟨RX2, "come", "(II)V"⟩
abbrev cX2_copyFrom : ByteArray := prog_4_method_3_code
def yX2_copyFrom : MethodName := ⟨RX2, "copyFrom", "(LCoughBids$Lot;)V"⟩
abbrev cX2_hasBid : ByteArray := prog_4_method_4_code
def yX2_hasBid : MethodName := ⟨RX2, "hasBid", "()Z"⟩
abbrev cX2_asked : ByteArray := prog_4_method_5_code
def yX2_asked : MethodName := ⟨RX2, "asked", "()I"⟩
abbrev cX2_takeBid : ByteArray := prog_4_method_6_code
def yX2_takeBid : MethodName := ⟨RX2, "takeBid", "(IIZ)V"⟩
abbrev cX2_tellUp : ByteArray := prog_4_method_7_code
def yX2_tellUp : MethodName := ⟨RX2, "tellUp", "(I)I"⟩
abbrev cX2_tellGone : ByteArray := prog_4_method_8_code
def yX2_tellGone : MethodName := ⟨RX2, "tellGone", "(I)I"⟩
def RX3 : String := "CoughBids$Script"
def TX3 : u_T := fun k => match k with
  | 0 => ("CoughBids$Script", "characters", "[C", true)
  | 1 => ("CoughBids$Script", "numbers", "[I", true)
  | 2 => ("CoughBids$Script", "length", "I", false)
  | 3 => ("CoughBids$Script", "order", "C", false)
  | 4 => ("CoughBids$Script", "place", "I", false)
  | 5 => ("CoughBids$Script", "ordersDone", "I", false)
  | 6 => ("CoughBids$Script", "faultPosition", "I", false)
  | 7 => ("CoughBids$Script", "faultReason", "I", false)
  | _ => ("CoughBids$Script", "faultCause", "I", false)
def tyX3 : Nat → FieldType := fun k => match k with
  | 0 => .array .char
  | 1 => .array .int
  | 2 => .int
  | 3 => .char
  | 4 => .int
  | 5 => .int
  | 6 => .int
  | 7 => .int
  | _ => .int
abbrev wsX30 : List Cond := u_ws RX3 TX3 9
theorem nmX3 : ∀ a, a < 9 → ∀ b, b < 9 → a ≠ b → (TX3 a).2.1 ≠ (TX3 b).2.1 := by decide +kernel
theorem tyX3_ok : ∀ k, k < 9 → parseFieldDescriptor (TX3 k).2.2.1 = some (tyX3 k) := by decide +kernel
abbrev cX3_init : ByteArray := prog_5_method_1_code
def yX3_init : MethodName := ⟨RX3, "<init>", "()V"⟩
abbrev cX3_append : ByteArray := prog_5_method_2_code
def yX3_append : MethodName := ⟨RX3, "append", "(I)I"⟩
abbrev cX3_hasFault : ByteArray := prog_5_method_3_code
def yX3_hasFault : MethodName := ⟨RX3, "hasFault", "()Z"⟩
abbrev cX3_performOn : ByteArray := prog_5_method_4_code
def yX3_performOn : MethodName := ⟨RX3, "performOn", "(LCoughBids$Auction;)V"⟩
abbrev cX3_noteFault : ByteArray := prog_5_method_5_code
def yX3_noteFault : MethodName := ⟨RX3, "noteFault", "(III)V"⟩
abbrev cX3_numbersOf : ByteArray := prog_5_method_6_code
def yX3_numbersOf : MethodName := ⟨RX3, "numbersOf", "(C)I"⟩
abbrev cX3_readOrder : ByteArray := prog_5_method_7_code
def yX3_readOrder : MethodName := ⟨RX3, "readOrder", "()Z"⟩
abbrev cX3_next : ByteArray := prog_5_method_8_code
def yX3_next : MethodName := ⟨RX3, "next", "()C"⟩
abbrev cX3_readCharacter : ByteArray := prog_5_method_9_code
def yX3_readCharacter : MethodName := ⟨RX3, "readCharacter", "(C)Z"⟩
abbrev cX3_readNumber : ByteArray := prog_5_method_10_code
def yX3_readNumber : MethodName := ⟨RX3, "readNumber", "(I)Z"⟩
def RX4 : String := "CoughBids"
def TX4 : u_T := fun k => match k with
  | 0 => ("CoughBids", "history", "[LCoughBids$Auction;", true)
  | 1 => ("CoughBids", "script", "LCoughBids$Script;", true)
  | 2 => ("CoughBids", "recorded", "I", false)
  | 3 => ("CoughBids", "now", "LCoughBids$Auction;", false)
  | _ => ("CoughBids", "trial", "LCoughBids$Auction;", false)
def tyX4 : Nat → FieldType := fun k => match k with
  | 0 => .array (.object "CoughBids$Auction")
  | 1 => .object "CoughBids$Script"
  | 2 => .int
  | 3 => .object "CoughBids$Auction"
  | _ => .object "CoughBids$Auction"
abbrev wsX40 : List Cond := u_ws RX4 TX4 5
theorem nmX4 : ∀ a, a < 5 → ∀ b, b < 5 → a ≠ b → (TX4 a).2.1 ≠ (TX4 b).2.1 := by decide +kernel
theorem tyX4_ok : ∀ k, k < 5 → parseFieldDescriptor (TX4 k).2.2.1 = some (tyX4 k) := by decide +kernel
abbrev cX4_init : ByteArray := prog_1_method_1_code
def yX4_init : MethodName := ⟨RX4, "<init>", "()V"⟩
abbrev cX4_bidder : ByteArray := prog_1_method_2_code
def yX4_bidder : MethodName := ⟨RX4, "bidder", "(IIII)I"⟩
abbrev cX4_catches : ByteArray := prog_1_method_3_code
def yX4_catches : MethodName := ⟨RX4, "catches", "(II)I"⟩
abbrev cX4_muffle : ByteArray := prog_1_method_4_code
def yX4_muffle : MethodName := ⟨RX4, "muffle", "(II)I"⟩
abbrev cX4_lot : ByteArray := prog_1_method_5_code
def yX4_lot : MethodName := ⟨RX4, "lot", "(II)I"⟩
abbrev cX4_putUp : ByteArray := prog_1_method_6_code
def yX4_putUp : MethodName := ⟨RX4, "putUp", "()I"⟩
abbrev cX4_cough : ByteArray := prog_1_method_7_code
def yX4_cough : MethodName := ⟨RX4, "cough", "(I)I"⟩
abbrev cX4_beats : ByteArray := prog_1_method_8_code
def yX4_beats : MethodName := ⟨RX4, "beats", "(I)I"⟩
abbrev cX4_night : ByteArray := prog_1_method_9_code
def yX4_night : MethodName := ⟨RX4, "night", "()I"⟩
abbrev cX4_set : ByteArray := prog_1_method_10_code
def yX4_set : MethodName := ⟨RX4, "set", "(II)I"⟩
abbrev cX4_bidderOf : ByteArray := prog_1_method_11_code
def yX4_bidderOf : MethodName := ⟨RX4, "bidderOf", "(II)I"⟩
abbrev cX4_at : ByteArray := prog_1_method_12_code
def yX4_at : MethodName := ⟨RX4, "at", "(II)I"⟩
abbrev cX4_up : ByteArray := prog_1_method_13_code
def yX4_up : MethodName := ⟨RX4, "up", "(I)I"⟩
abbrev cX4_waiting : ByteArray := prog_1_method_14_code
def yX4_waiting : MethodName := ⟨RX4, "waiting", "(II)I"⟩
abbrev cX4_book : ByteArray := prog_1_method_15_code
def yX4_book : MethodName := ⟨RX4, "book", "(II)I"⟩
abbrev cX4_why : ByteArray := prog_1_method_16_code
def yX4_why : MethodName := ⟨RX4, "why", "(I)I"⟩
abbrev cX4_ifBeats : ByteArray := prog_1_method_17_code
def yX4_ifBeats : MethodName := ⟨RX4, "ifBeats", "(II)I"⟩
abbrev cX4_goneIn : ByteArray := prog_1_method_18_code
def yX4_goneIn : MethodName := ⟨RX4, "goneIn", "()I"⟩
abbrev cX4_coughing : ByteArray := prog_1_method_19_code
def yX4_coughing : MethodName := ⟨RX4, "coughing", "()I"⟩
abbrev cX4_loudest : ByteArray := prog_1_method_20_code
def yX4_loudest : MethodName := ⟨RX4, "loudest", "()I"⟩
abbrev cX4_ifNights : ByteArray := prog_1_method_21_code
def yX4_ifNights : MethodName := ⟨RX4, "ifNights", "(I)I"⟩
abbrev cX4_mean : ByteArray := prog_1_method_22_code
def yX4_mean : MethodName := ⟨RX4, "mean", "()I"⟩
abbrev cX4_count : ByteArray := prog_1_method_23_code
def yX4_count : MethodName := ⟨RX4, "count", "(I)I"⟩
abbrev cX4_undo : ByteArray := prog_1_method_24_code
def yX4_undo : MethodName := ⟨RX4, "undo", "()I"⟩
abbrev cX4_type : ByteArray := prog_1_method_25_code
def yX4_type : MethodName := ⟨RX4, "type", "(I)I"⟩
abbrev cX4_clearText : ByteArray := prog_1_method_26_code
def yX4_clearText : MethodName := ⟨RX4, "clearText", "()I"⟩
abbrev cX4_fault : ByteArray := prog_1_method_27_code
def yX4_fault : MethodName := ⟨RX4, "fault", "(I)I"⟩
abbrev cX4_play : ByteArray := prog_1_method_28_code
def yX4_play : MethodName := ⟨RX4, "play", "()I"⟩
abbrev cX4_keep : ByteArray := prog_1_method_29_code
def yX4_keep : MethodName := ⟨RX4, "keep", "(I)I"⟩
abbrev cX4_dropOldest : ByteArray := prog_1_method_30_code
def yX4_dropOldest : MethodName := ⟨RX4, "dropOldest", "()V"⟩
abbrev cX4_isWithin : ByteArray := prog_1_method_31_code
def yX4_isWithin : MethodName := ⟨RX4, "isWithin", "(III)Z"⟩
abbrev cX4_isSeat : ByteArray := prog_1_method_32_code
def yX4_isSeat : MethodName := ⟨RX4, "isSeat", "(II)Z"⟩
abbrev cX4_bitsOf : ByteArray := prog_1_method_33_code
def yX4_bitsOf : MethodName := ⟨RX4, "bitsOf", "(F)I"⟩
def RX5 : String := "CoughBidsModel"
def TX5 : u_T := fun k => match k with
  | 0 => ("CoughBidsModel", "s", "[I", true)
  | 1 => ("CoughBidsModel", "past", "[I", true)
  | 2 => ("CoughBidsModel", "held", "[I", true)
  | 3 => ("CoughBidsModel", "spare", "[I", true)
  | 4 => ("CoughBidsModel", "pasts", "I", false)
  | 5 => ("CoughBidsModel", "runs", "Z", false)
  | 6 => ("CoughBidsModel", "text", "[I", true)
  | 7 => ("CoughBidsModel", "typed", "I", false)
  | 8 => ("CoughBidsModel", "spot", "I", false)
  | 9 => ("CoughBidsModel", "from", "I", false)
  | 10 => ("CoughBidsModel", "reason", "I", false)
  | 11 => ("CoughBidsModel", "cause", "I", false)
  | 12 => ("CoughBidsModel", "orders", "I", false)
  | 13 => ("CoughBidsModel", "order", "I", false)
  | _ => ("CoughBidsModel", "numbers", "[I", true)
def tyX5 : Nat → FieldType := fun k => match k with
  | 0 => .array .int
  | 1 => .array .int
  | 2 => .array .int
  | 3 => .array .int
  | 4 => .int
  | 5 => .boolean
  | 6 => .array .int
  | 7 => .int
  | 8 => .int
  | 9 => .int
  | 10 => .int
  | 11 => .int
  | 12 => .int
  | 13 => .int
  | _ => .array .int
abbrev wsX50 : List Cond := u_ws RX5 TX5 15
theorem nmX5 : ∀ a, a < 15 → ∀ b, b < 15 → a ≠ b → (TX5 a).2.1 ≠ (TX5 b).2.1 := by decide +kernel
theorem tyX5_ok : ∀ k, k < 15 → parseFieldDescriptor (TX5 k).2.2.1 = some (tyX5 k) := by decide +kernel
abbrev cX5_init : ByteArray := prog_7_method_1_code
def yX5_init : MethodName := ⟨RX5, "<init>", "()V"⟩
abbrev cX5_in : ByteArray := prog_7_method_3_code
def yX5_in : MethodName := ⟨RX5, "in", "(III)Z"⟩
abbrev cX5_copies : ByteArray := prog_7_method_4_code
def yX5_copies : MethodName := ⟨RX5, "copies", "([I[I)V"⟩
abbrev cX5_changes : ByteArray := prog_7_method_5_code
def yX5_changes : MethodName := ⟨RX5, "changes", "()V"⟩
abbrev cX5_of : ByteArray := prog_7_method_6_code
def yX5_of : MethodName := ⟨RX5, "of", "(II)I"⟩
abbrev cX5_adds : ByteArray := prog_7_method_7_code
def yX5_adds : MethodName := ⟨RX5, "adds", "(III)V"⟩
abbrev cX5_lay : ByteArray := prog_7_method_8_code
def yX5_lay : MethodName := ⟨RX5, "lay", "(III)V"⟩
abbrev cX5_isBidder : ByteArray := prog_7_method_9_code
def yX5_isBidder : MethodName := ⟨RX5, "isBidder", "(I)Z"⟩
abbrev cX5_isSeat : ByteArray := prog_7_method_10_code
def yX5_isSeat : MethodName := ⟨RX5, "isSeat", "(II)Z"⟩
abbrev cX5_seated : ByteArray := prog_7_method_11_code
def yX5_seated : MethodName := ⟨RX5, "seated", "(II)I"⟩
abbrev cX5_loud : ByteArray := prog_7_method_12_code
def yX5_loud : MethodName := ⟨RX5, "loud", "(I)I"⟩
abbrev cX5_asked : ByteArray := prog_7_method_13_code
def yX5_asked : MethodName := ⟨RX5, "asked", "()I"⟩
abbrev cX5_barred : ByteArray := prog_7_method_14_code
def yX5_barred : MethodName := ⟨RX5, "barred", "(I)I"⟩
abbrev cX5_goes : ByteArray := prog_7_method_15_code
def yX5_goes : MethodName := ⟨RX5, "goes", "(I)V"⟩
abbrev cX5_coughs : ByteArray := prog_7_method_16_code
def yX5_coughs : MethodName := ⟨RX5, "coughs", "(II)I"⟩
abbrev cX5_coughsNext : ByteArray := prog_7_method_17_code
def yX5_coughsNext : MethodName := ⟨RX5, "coughsNext", "(I)Z"⟩
abbrev cX5_hammers : ByteArray := prog_7_method_18_code
def yX5_hammers : MethodName := ⟨RX5, "hammers", "()V"⟩
abbrev cX5_beat : ByteArray := prog_7_method_19_code
def yX5_beat : MethodName := ⟨RX5, "beat", "()V"⟩
abbrev cX5_bidder : ByteArray := prog_7_method_20_code
def yX5_bidder : MethodName := ⟨RX5, "bidder", "(IIII)I"⟩
abbrev cX5_catches : ByteArray := prog_7_method_21_code
def yX5_catches : MethodName := ⟨RX5, "catches", "(II)I"⟩
abbrev cX5_muffle : ByteArray := prog_7_method_22_code
def yX5_muffle : MethodName := ⟨RX5, "muffle", "(II)I"⟩
abbrev cX5_lot : ByteArray := prog_7_method_23_code
def yX5_lot : MethodName := ⟨RX5, "lot", "(II)I"⟩
abbrev cX5_putUp : ByteArray := prog_7_method_24_code
def yX5_putUp : MethodName := ⟨RX5, "putUp", "()I"⟩
abbrev cX5_cough : ByteArray := prog_7_method_25_code
def yX5_cough : MethodName := ⟨RX5, "cough", "(I)I"⟩
abbrev cX5_pass : ByteArray := prog_7_method_26_code
def yX5_pass : MethodName := ⟨RX5, "pass", "(I)V"⟩
abbrev cX5_gone : ByteArray := prog_7_method_27_code
def yX5_gone : MethodName := ⟨RX5, "gone", "()I"⟩
abbrev cX5_beats : ByteArray := prog_7_method_28_code
def yX5_beats : MethodName := ⟨RX5, "beats", "(I)I"⟩
abbrev cX5_catchesFrom : ByteArray := prog_7_method_29_code
def yX5_catchesFrom : MethodName := ⟨RX5, "catchesFrom", "(II)Z"⟩
abbrev cX5_nightPasses : ByteArray := prog_7_method_30_code
def yX5_nightPasses : MethodName := ⟨RX5, "nightPasses", "()V"⟩
abbrev cX5_colds : ByteArray := prog_7_method_31_code
def yX5_colds : MethodName := ⟨RX5, "colds", "()I"⟩
abbrev cX5_bits : ByteArray := prog_7_method_32_code
def yX5_bits : MethodName := ⟨RX5, "bits", "(I)I"⟩
abbrev cX5_night : ByteArray := prog_7_method_33_code
def yX5_night : MethodName := ⟨RX5, "night", "()I"⟩
abbrev cX5_set : ByteArray := prog_7_method_34_code
def yX5_set : MethodName := ⟨RX5, "set", "(II)I"⟩
abbrev cX5_bidderOf : ByteArray := prog_7_method_35_code
def yX5_bidderOf : MethodName := ⟨RX5, "bidderOf", "(II)I"⟩
abbrev cX5_at : ByteArray := prog_7_method_36_code
def yX5_at : MethodName := ⟨RX5, "at", "(II)I"⟩
abbrev cX5_up : ByteArray := prog_7_method_37_code
def yX5_up : MethodName := ⟨RX5, "up", "(I)I"⟩
abbrev cX5_waiting : ByteArray := prog_7_method_38_code
def yX5_waiting : MethodName := ⟨RX5, "waiting", "(II)I"⟩
abbrev cX5_book : ByteArray := prog_7_method_39_code
def yX5_book : MethodName := ⟨RX5, "book", "(II)I"⟩
abbrev cX5_why : ByteArray := prog_7_method_40_code
def yX5_why : MethodName := ⟨RX5, "why", "(I)I"⟩
abbrev cX5_ifBeats : ByteArray := prog_7_method_41_code
def yX5_ifBeats : MethodName := ⟨RX5, "ifBeats", "(II)I"⟩
abbrev cX5_goneIn : ByteArray := prog_7_method_42_code
def yX5_goneIn : MethodName := ⟨RX5, "goneIn", "()I"⟩
abbrev cX5_coughing : ByteArray := prog_7_method_43_code
def yX5_coughing : MethodName := ⟨RX5, "coughing", "()I"⟩
abbrev cX5_loudest : ByteArray := prog_7_method_44_code
def yX5_loudest : MethodName := ⟨RX5, "loudest", "()I"⟩
abbrev cX5_ifNights : ByteArray := prog_7_method_45_code
def yX5_ifNights : MethodName := ⟨RX5, "ifNights", "(I)I"⟩
abbrev cX5_mean : ByteArray := prog_7_method_46_code
def yX5_mean : MethodName := ⟨RX5, "mean", "()I"⟩
abbrev cX5_byPurses : ByteArray := prog_7_method_47_code
def yX5_byPurses : MethodName := ⟨RX5, "byPurses", "()I"⟩
abbrev cX5_count : ByteArray := prog_7_method_48_code
def yX5_count : MethodName := ⟨RX5, "count", "(I)I"⟩
abbrev cX5_undo : ByteArray := prog_7_method_49_code
def yX5_undo : MethodName := ⟨RX5, "undo", "()I"⟩
abbrev cX5_type : ByteArray := prog_7_method_50_code
def yX5_type : MethodName := ⟨RX5, "type", "(I)I"⟩
abbrev cX5_clearText : ByteArray := prog_7_method_51_code
def yX5_clearText : MethodName := ⟨RX5, "clearText", "()I"⟩
abbrev cX5_isAt : ByteArray := prog_7_method_52_code
def yX5_isAt : MethodName := ⟨RX5, "isAt", "(II)Z"⟩
abbrev cX5_sign : ByteArray := prog_7_method_53_code
def yX5_sign : MethodName := ⟨RX5, "sign", "(I)Z"⟩
abbrev cX5_numbered : ByteArray := prog_7_method_54_code
def yX5_numbered : MethodName := ⟨RX5, "numbered", "(I)Z"⟩
abbrev cX5_numbersOf : ByteArray := prog_7_method_55_code
def yX5_numbersOf : MethodName := ⟨RX5, "numbersOf", "(I)I"⟩
abbrev cX5_parses : ByteArray := prog_7_method_56_code
def yX5_parses : MethodName := ⟨RX5, "parses", "()Z"⟩
abbrev cX5_does : ByteArray := prog_7_method_57_code
def yX5_does : MethodName := ⟨RX5, "does", "()I"⟩
abbrev cX5_plays : ByteArray := prog_7_method_58_code
def yX5_plays : MethodName := ⟨RX5, "plays", "()Z"⟩
abbrev cX5_fault : ByteArray := prog_7_method_59_code
def yX5_fault : MethodName := ⟨RX5, "fault", "(I)I"⟩
abbrev cX5_play : ByteArray := prog_7_method_60_code
def yX5_play : MethodName := ⟨RX5, "play", "()I"⟩
def RJxf58ca : String := "java/lang/Float"
def TJxf58ca : u_T := fun k => match k with
  | _ => ("", "", "", false)
def tyJxf58ca : Nat → FieldType := fun k => match k with
  | _ => .int
abbrev wsJxf58ca0 : List Cond := u_ws RJxf58ca TJxf58ca 0
theorem nmJxf58ca : ∀ a, a < 0 → ∀ b, b < 0 → a ≠ b → (TJxf58ca a).2.1 ≠ (TJxf58ca b).2.1 := by decide +kernel
theorem tyJxf58ca_ok : ∀ k, k < 0 → parseFieldDescriptor (TJxf58ca k).2.2.1 = some (tyJxf58ca k) := by decide +kernel
abbrev cJxf58ca_isNaN_12338 : ByteArray := prog_8_method_6_code
def yJxf58ca_isNaN_12338 : MethodName := ⟨RJxf58ca, "isNaN", "(F)Z"⟩
abbrev cJxf58ca_floatToIntBits_5c35a : ByteArray := prog_8_method_24_code
def yJxf58ca_floatToIntBits_5c35a : MethodName := ⟨RJxf58ca, "floatToIntBits", "(F)I"⟩
def RJ6 : String := "java/lang/Integer"
def TJ6 : u_T := fun k => match k with
  | _ => ("", "", "", false)
def tyJ6 : Nat → FieldType := fun k => match k with
  | _ => .int
abbrev wsJ60 : List Cond := u_ws RJ6 TJ6 0
theorem nmJ6 : ∀ a, a < 0 → ∀ b, b < 0 → a ≠ b → (TJ6 a).2.1 ≠ (TJ6 b).2.1 := by decide +kernel
theorem tyJ6_ok : ∀ k, k < 0 → parseFieldDescriptor (TJ6 k).2.2.1 = some (tyJ6 k) := by decide +kernel
abbrev cJ6_bitCount_0f7a4 : ByteArray := prog_9_method_49_code
def yJ6_bitCount_0f7a4 : MethodName := ⟨RJ6, "bitCount", "(I)I"⟩
def RJ9 : String := "java/lang/Math"
def TJ9 : u_T := fun k => match k with
  | _ => ("", "", "", false)
def tyJ9 : Nat → FieldType := fun k => match k with
  | _ => .int
abbrev wsJ90 : List Cond := u_ws RJ9 TJ9 0
theorem nmJ9 : ∀ a, a < 0 → ∀ b, b < 0 → a ≠ b → (TJ9 a).2.1 ≠ (TJ9 b).2.1 := by decide +kernel
theorem tyJ9_ok : ∀ k, k < 0 → parseFieldDescriptor (TJ9 k).2.2.1 = some (tyJ9 k) := by decide +kernel
abbrev cJ9_max_7cf53 : ByteArray := prog_10_method_65_code
def yJ9_max_7cf53 : MethodName := ⟨RJ9, "max", "(II)I"⟩
abbrev cJ9_min_7cf53 : ByteArray := prog_10_method_69_code
def yJ9_min_7cf53 : MethodName := ⟨RJ9, "min", "(II)I"⟩
def RJ10 : String := "java/lang/System"
def TJ10 : u_T := fun k => match k with
  | _ => ("", "", "", false)
def tyJ10 : Nat → FieldType := fun k => match k with
  | _ => .int
abbrev wsJ100 : List Cond := u_ws RJ10 TJ10 0
theorem nmJ10 : ∀ a, a < 0 → ∀ b, b < 0 → a ≠ b → (TJ10 a).2.1 ≠ (TJ10 b).2.1 := by decide +kernel
theorem tyJ10_ok : ∀ k, k < 0 → parseFieldDescriptor (TJ10 k).2.2.1 = some (tyJ10 k) := by decide +kernel
def RL : String := "CoughBidsLaw"
abbrev cL_law : ByteArray := code
def yL_law : MethodName := ⟨RL, "law", "([I)Z"⟩
abbrev vwCl : List vw_C := [(RX0, TX0, 17), (RX1, TX1, 11), (RX2, TX2, 10), (RX3, TX3, 9), (RX4, TX4, 5), (RX5, TX5, 15)]
end
section
/-- the words of the tables that last -/
def zWd : List Cond := lw_tbl.filter goodWord
-- the abstract heap: objects numbered in the order in which they come; zS says what each is
abbrev zH : Type := Nat → Nat → Value
abbrev zM : Type := MethodName × ByteArray × Nat × Option FieldType × Nat × Nat × Nat
abbrev zMn (M : zM) : MethodName := M.1
abbrev zMb (M : zM) : ByteArray := M.2.1
abbrev zMl (M : zM) : Nat := M.2.2.1
abbrev zMr (M : zM) : Option FieldType := M.2.2.2.1
abbrev zMh (M : zM) : Nat := M.2.2.2.2.1
abbrev zMc (M : zM) : Nat := M.2.2.2.2.2.1
abbrev zMs (M : zM) : Nat := M.2.2.2.2.2.2
abbrev zMo (M : zM) : String := M.1.cls
def zRm (M : zM) : Room := { frames := zMh M, cells := zMc M, slots := zMs M, locals := 30 * zMh M }
/-- the place o of an auction: what lies there (0 to 5 objects of the classes in vwCl, 10 int[], 11 char[], 12 to 14 arrays of auctions, bidders, lots), and how long it is -/
def zA (o : Nat) : Nat × Nat := if o = 0 then (0, 0) else if o = 1 then (13, 12) else if o < 14 then (1, 0) else if o = 14 then (14, 8) else if o < 23 then (2, 0) else if o = 23 then (14, 8) else if o < 32 then (2, 0) else if o = 32 then (10, 4) else if o = 33 then (10, 3) else (2, 0)
def zS (i : Nat) : Nat × Nat := if i = 0 then (4, 0) else if i = 1 then (12, 4) else if i < 142 then zA ((i - 2) % 35) else if i = 142 then (3, 0) else if i = 143 then (11, 60) else if i = 144 then (10, 4) else if i < 215 then zA ((i - 145) % 35) else if i = 215 then (5, 0) else if i = 216 then (10, 215) else if i = 217 then (10, 860) else if i = 218 then (10, 215) else if i = 219 then (10, 215) else if i = 220 then (10, 60) else if i = 221 then (10, 4) else (99, 0)
def zF (c : Nat) : Nat := if c = 0 then 17 else if c = 1 then 11 else if c = 2 then 10 else if c = 3 then 9 else if c = 4 then 5 else 15
def zZ (i : Nat) : Nat := if (zS i).1 < 10 then zF (zS i).1 else (zS i).2
def zN : Nat → Nat
  | 0 => 0
  | n + 1 => zN n + zZ n
/-- an abstract value at the machine: the script is number 1000 -/
def zV (b z : Nat) (v : Value) : Value := match v with
  | .ref a => .ref (if a = 1000 then b else z + a)
  | u => u
def zI (v : Value) : Int32 := match v with
  | .int x => x
  | _ => 0
def zQ (b z : Nat) (v : Value) : Option Nat := match v with
  | .ref a => some (if a = 1000 then b else z + a)
  | _ => none
def zE (cA : Nat → ClassId) (b z i : Nat) (g : Nat → Value) : va_E :=
  if (zS i).1 < 10 then .inr ((zS i).1, (List.range (zF (zS i).1)).map (fun k => zV b z (g k)))
  else if (zS i).1 < 12 then .inl (cA ((zS i).1 - 10), (zS i).2, .inl (fun k => zI (g k)))
  else .inl (cA ((zS i).1 - 10), (zS i).2, .inr (.inr (.inr (.inr (fun k => zQ b z (g k))))))
def zW (cA : Nat → ClassId) (b z nx : Nat) (h : zH) : va_W := (List.range nx).map (fun i => (z + i, zE cA b z i (h i)))
def zT (cA : Nat → ClassId) : List (ClassId × FieldType) := [(cA 0, .int), (cA 1, .char), (cA 2, .object RX0), (cA 3, .object RX1), (cA 4, .object RX2)]
/-- the words of private members of nest mates -/
def zNf : List (String × Nat × String × String × String × String) := [("CoughBids$Auction", 87, "CoughBids$Bidder", "row", "I", "CoughBids"), ("CoughBids$Auction", 90, "CoughBids$Bidder", "seat", "I", "CoughBids"), ("CoughBids$Auction", 144, "CoughBids$Bidder", "purse", "I", "CoughBids"), ("CoughBids$Auction", 228, "CoughBids$Bidder", "purseAtFirst", "I", "CoughBids"), ("CoughBids$Auction", 160, "CoughBids$Bidder", "strength", "I", "CoughBids"), ("CoughBids$Auction", 117, "CoughBids$Bidder", "cold", "I", "CoughBids"), ("CoughBids$Auction", 120, "CoughBids$Bidder", "muffler", "I", "CoughBids"), ("CoughBids$Auction", 150, "CoughBids$Bidder", "coughs", "I", "CoughBids"), ("CoughBids$Auction", 159, "CoughBids$Bidder", "bids", "I", "CoughBids"), ("CoughBids$Auction", 127, "CoughBids$Lot", "reserve", "I", "CoughBids"), ("CoughBids", 120, "CoughBids$Lot", "reserve", "I", "CoughBids"), ("CoughBids", 123, "CoughBids$Lot", "step", "I", "CoughBids"), ("CoughBids$Auction", 196, "CoughBids$Lot", "latestBid", "I", "CoughBids"), ("CoughBids$Auction", 141, "CoughBids$Lot", "latestBidder", "I", "CoughBids"), ("CoughBids$Auction", 193, "CoughBids$Lot", "isLatestForCold", "Z", "CoughBids"), ("CoughBids$Auction", 184, "CoughBids$Lot", "hasBidSinceBeat", "Z", "CoughBids"), ("CoughBids$Auction", 166, "CoughBids$Lot", "doubts", "I", "CoughBids"), ("CoughBids$Auction", 187, "CoughBids$Lot", "hush", "I", "CoughBids"), ("CoughBids$Auction", 130, "CoughBids$Lot", "fate", "I", "CoughBids"), ("CoughBids", 78, "CoughBids$Auction", "bidders", "[LCoughBids$Bidder;", "CoughBids"), ("CoughBids", 116, "CoughBids$Auction", "queue", "[LCoughBids$Lot;", "CoughBids"), ("CoughBids", 129, "CoughBids$Auction", "gone", "[LCoughBids$Lot;", "CoughBids"), ("CoughBids", 147, "CoughBids$Auction", "fates", "[I", "CoughBids"), ("CoughBids", 154, "CoughBids$Auction", "bidderCount", "I", "CoughBids"), ("CoughBids", 112, "CoughBids$Auction", "waitingCount", "I", "CoughBids"), ("CoughBids", 126, "CoughBids$Auction", "goneCount", "I", "CoughBids"), ("CoughBids", 98, "CoughBids$Auction", "isUp", "Z", "CoughBids"), ("CoughBids", 103, "CoughBids$Auction", "raised", "LCoughBids$Lot;", "CoughBids"), ("CoughBids", 151, "CoughBids$Auction", "coinsPaid", "I", "CoughBids"), ("CoughBids", 141, "CoughBids$Auction", "bids", "I", "CoughBids"), ("CoughBids", 144, "CoughBids$Auction", "doubts", "I", "CoughBids"), ("CoughBids", 178, "CoughBids$Script", "length", "I", "CoughBids"), ("CoughBids", 203, "CoughBids$Script", "ordersDone", "I", "CoughBids"), ("CoughBids", 194, "CoughBids$Script", "faultPosition", "I", "CoughBids"), ("CoughBids", 197, "CoughBids$Script", "faultReason", "I", "CoughBids"), ("CoughBids", 200, "CoughBids$Script", "faultCause", "I", "CoughBids")]
def zNm : List (String × Nat × MethodName × String) := [("CoughBids$Auction", 17, ⟨"CoughBids$Bidder", "<init>", "()V"⟩, "CoughBids"), ("CoughBids$Auction", 24, ⟨"CoughBids$Lot", "<init>", "()V"⟩, "CoughBids"), ("CoughBids", 18, ⟨"CoughBids$Script", "<init>", "()V"⟩, "CoughBids"), ("CoughBids$Auction", 94, ⟨"CoughBids", "isSeat", "(II)Z"⟩, "CoughBids"), ("CoughBids$Auction", 98, ⟨"CoughBids", "isWithin", "(III)Z"⟩, "CoughBids"), ("CoughBids$Script", 23, ⟨"CoughBids", "isWithin", "(III)Z"⟩, "CoughBids")]
def zNw : List Cond := zNf.map (fun q => Cond.fieldLinkNest q.1 q.2.1 q.2.2.1 q.2.2.2.1 q.2.2.2.2.1 q.2.2.2.2.2) ++ zNm.map (fun q => Cond.methodLinkNest q.1 q.2.1 q.2.2.1 q.2.2.2)
def zAo : List String := [RX0, RX1, RX2]
def zR (D : va_G) (cA : Nat → ClassId) (b z nx : Nat) (h : zH) (H : Heap) : Prop := H.size = z + nx ∧ nx ≤ 1000 ∧ va_P D vwCl (zW cA b z nx h) H
/-- locals: .null says nothing of a place -/
def zL (b z nL : Nat) (la : Array Slot) (ls : List Value) : Prop := la.size = nL ∧ lv_wf la ∧ ls.length = nL ∧ ∀ (i : Nat) (v : Value), ls[i]? = some v → v ≠ .null → v.category = 1 ∧ la[i]? = some (.val (zV b z v))
def zFc (M : zM) (R : Room) (s : State) (args : Array Value) (D : va_G) (cA : Nat → ClassId) (z : Nat) : Prop :=
  (∀ w ∈ zWd, w.before args s = true) ∧ (∀ w ∈ zNw, va_Nw w s) ∧ (∀ C ∈ zAo, va_AO C s) ∧ va_K D vwCl (zT cA) s ∧ z ≤ s.heap.size ∧ (zMh M ≤ R.frames ∧ 30 * zMh M ≤ R.locals ∧ zMc M ≤ R.cells ∧ zMs M ≤ R.slots)
def zCx (M : zM) (p : Program) (R : Room) (s : State) (m : MethodId) (args : Array Value) (meth : Method) (c : Code) (D : va_G) (cA : Nat → ClassId) (z : Nat) : Prop :=
  p.tables.exec = Jvm.exec ∧ c.code = zMb M ∧ c.maxLocals = zMl M ∧ s.vm.findClass (zMo M) = some m.cls ∧ ((zMn M).name = "<init>" → meth.name = "<init>") ∧ zFc M R s args D cA z
def zRet (M : zM) (pc : Nat) (v : Option Int32) : Prop := match v with
  | some x => decode (zMb M) pc = .ok (.ireturn, 1) ∧ ∃ ty, zMr M = some ty ∧ narrow ty (.int x) = .int x
  | none => decode (zMb M) pc = .ok (.return_, 1) ∧ zMr M = none
abbrev zQt : Type := Option Int32 → Nat → zH → Prop
def zJ (X : Nat × (Nat → Int32)) (M : zM) (n0 pc : Nat) (ls st : List Value) (nx : Nat) (h : zH) (Q : zQt) : Prop :=
  ∀ (p : Program) (l : Launch) (e : Env) (R : Room) (s : State) (m : MethodId) (args : Array Value) (below : List Frame) (meth : Method) (c : Code) (D : va_G) (cA : Nat → ClassId) (b z : Nat) (H : Heap) (locs : List Loc) (Qm : State → Prop) (la : Array Slot),
    zCx M p R s m args meth c D cA z → ((zMn M).name = "law" → va_X b X.1 X.2 s s.heap ∧ b < s.heap.size ∧ b < z) → zL b z (zMl M) la ls → zR D cA b z nx h H → va_S (fun q => z ≤ q) s.heap H locs →
    (∀ (v : Option Int32) (nx' : Nat) (h' : zH) (H' : Heap) (locs' : List Loc) (pc' : Nat) (la' : Array Slot), Q v nx' h' → zRet M pc' v → zR D cA b z nx' h' H' → va_S (fun q => z ≤ q) s.heap H' locs' →
      W p l e R s m args below meth c H' locs' (nx' - n0) (zN nx' - zN n0) Qm (F0 m pc' la' ((v.map Value.int).toList))) →
    W p l e R s m args below meth c H locs (nx - n0) (zN nx - zN n0) Qm (F0 m pc la (st.map (zV b z)))
theorem z_cat {b z : Nat} {v : Value} (h : (zV 0 0 v).category = 1) : (zV b z v).category = 1 := by
  cases v <;> first | exact h | rfl
theorem z_cat1 {b z : Nat} {v : Value} (h : v.category = 1) : (zV b z v).category = 1 := by
  cases v <;> first | exact h | rfl
theorem z_at {b z nL i : Nat} {la : Array Slot} {ls : List Value} {v : Value} (hl : zL b z nL la ls) (hi : ls[i]? = some v) (hv : v ≠ .null) : la[i]? = some (.val (zV b z v)) := (hl.2.2.2 i v hi hv).2
/-- the locals as the kit has them -/
def z_lv (b z : Nat) (ls : List Value) : List (Nat × Value) := (List.range ls.length).filterMap (fun (i : Nat) => match (ls[i]? : Option Value) with
  | none => none
  | some Value.null => none
  | some v => some (i, zV b z v))
theorem z_lv_mem {b z : Nat} {ls : List Value} {q : Nat × Value} : q ∈ z_lv b z ls ↔ ∃ v, ls[q.1]? = some v ∧ v ≠ .null ∧ q.2 = zV b z v := by
  unfold z_lv
  rw [List.mem_filterMap]
  constructor
  · rintro ⟨i, hi, h⟩
    cases hv : ls[i]? with
    | none => rw [hv] at h; cases h
    | some v =>
      rw [hv] at h
      cases v <;> first | (simp only [Option.some.injEq] at h; subst h; exact ⟨_, hv, (fun w => by cases w), rfl⟩) | (exact absurd h (fun w => by cases w))
  · rintro ⟨v, h1, h2, h3⟩
    refine ⟨q.1, List.mem_range.mpr (List.getElem?_eq_some_iff.mp h1).1, ?_⟩
    rw [h1]
    obtain ⟨q1, q2⟩ := q
    subst h3
    cases v <;> first | exact absurd rfl h2 | rfl
theorem z_has {b z nL : Nat} {la : Array Slot} {ls : List Value} (hl : zL b z nL la ls) : lv_has la nL (z_lv b z ls) := by
  refine ⟨hl.1, hl.2.1, fun q hq => ?_⟩
  obtain ⟨v, h1, h2, h3⟩ := z_lv_mem.mp hq
  rw [h3]
  exact (hl.2.2.2 _ v h1 h2).2
theorem z_has_at {b z nL i : Nat} {la : Array Slot} {ls : List Value} {v : Value} (hl : zL b z nL la ls) (hi : ls[i]? = some v) (hv : v ≠ .null) : ∃ k : Nat, (z_lv b z ls)[k]? = some (i, zV b z v) :=
  List.getElem?_of_mem (z_lv_mem.mpr ⟨v, hi, hv, rfl⟩)
theorem z_put {b z nL i : Nat} {la la1 : Array Slot} {ls : List Value} {v : Value} (hl : zL b z nL la ls) (hn : i < nL) (hc : v.category = 1) (h1 : lv_has la1 nL ((i, zV b z v) :: (z_lv b z ls).filter (fun q => !(q.1 == i) && !(q.1 + 1 == i && q.2.category == 2)))) : zL b z nL la1 (ls.set i v) := by
  refine ⟨h1.1, h1.2.1, by rw [List.length_set]; exact hl.2.2.1, fun j u hu hnu => ?_⟩
  by_cases hj : j = i
  · subst hj
    rw [List.getElem?_set_self (by rw [hl.2.2.1]; exact hn)] at hu
    cases hu
    exact ⟨hc, h1.2.2 (j, zV b z v) List.mem_cons_self⟩
  · rw [List.getElem?_set_ne (Ne.symm hj)] at hu
    have h2 := hl.2.2.2 j u hu hnu
    refine ⟨h2.1, h1.2.2 (j, zV b z u) (List.mem_cons_of_mem _ (List.mem_filter.mpr ⟨z_lv_mem.mpr ⟨u, hu, hnu, rfl⟩, ?_⟩))⟩
    have h3 : (zV b z u).category = 1 := z_cat1 h2.1
    simp [hj, h3]
section ZJ
variable {X : Nat × (Nat → Int32)} {M : zM} {n0 pc : Nat} {ls st : List Value} {nx : Nat} {h : zH} {Q : zQt}
theorem j_iconst {n : Int} {v : Int32} (hd : decode (zMb M) pc = .ok (.iconst n, 1)) (hv : Int32.ofInt n = v) (kk : zJ X M n0 (pc + 1) ls (.int v :: st) nx h Q) : zJ X M n0 pc ls (st) nx h Q := by
  intro p l e R s m args below meth c D cA b z H locs Qm la C hX hl hw hS hend
  exact lv_iconst C.1 C.2.1 hd hv (kk p l e R s m args below meth c D cA b z H locs Qm la C hX hl hw hS hend)
theorem j_bipush {n : Int} {v : Int32} (hd : decode (zMb M) pc = .ok (.bipush n, 2)) (hv : (Int8.ofInt n).toInt32 = v) (kk : zJ X M n0 (pc + 2) ls (.int v :: st) nx h Q) : zJ X M n0 pc ls (st) nx h Q := by
  intro p l e R s m args below meth c D cA b z H locs Qm la C hX hl hw hS hend
  exact lv_bipush C.1 C.2.1 hd hv (kk p l e R s m args below meth c D cA b z H locs Qm la C hX hl hw hS hend)
theorem j_sipush {n : Int} {v : Int32} (hd : decode (zMb M) pc = .ok (.sipush n, 3)) (hv : (Int16.ofInt n).toInt32 = v) (kk : zJ X M n0 (pc + 3) ls (.int v :: st) nx h Q) : zJ X M n0 pc ls (st) nx h Q := by
  intro p l e R s m args below meth c D cA b z H locs Qm la C hX hl hw hS hend
  exact lv_sipush C.1 C.2.1 hd hv (kk p l e R s m args below meth c D cA b z H locs Qm la C hX hl hw hS hend)
theorem j_iadd {x y : Int32} (hd : decode (zMb M) pc = .ok (.iadd, 1))  (kk : zJ X M n0 (pc + 1) ls (.int (x + y) :: st) nx h Q) : zJ X M n0 pc ls (.int y :: .int x :: st) nx h Q := by
  intro p l e R s m args below meth c D cA b z H locs Qm la C hX hl hw hS hend
  exact lv_iadd C.1 C.2.1 hd (kk p l e R s m args below meth c D cA b z H locs Qm la C hX hl hw hS hend)
theorem j_isub {x y : Int32} (hd : decode (zMb M) pc = .ok (.isub, 1))  (kk : zJ X M n0 (pc + 1) ls (.int (x - y) :: st) nx h Q) : zJ X M n0 pc ls (.int y :: .int x :: st) nx h Q := by
  intro p l e R s m args below meth c D cA b z H locs Qm la C hX hl hw hS hend
  exact lv_isub C.1 C.2.1 hd (kk p l e R s m args below meth c D cA b z H locs Qm la C hX hl hw hS hend)
theorem j_imul {x y : Int32} (hd : decode (zMb M) pc = .ok (.imul, 1))  (kk : zJ X M n0 (pc + 1) ls (.int (x * y) :: st) nx h Q) : zJ X M n0 pc ls (.int y :: .int x :: st) nx h Q := by
  intro p l e R s m args below meth c D cA b z H locs Qm la C hX hl hw hS hend
  exact lv_imul C.1 C.2.1 hd (kk p l e R s m args below meth c D cA b z H locs Qm la C hX hl hw hS hend)
theorem j_iand {x y : Int32} (hd : decode (zMb M) pc = .ok (.iand, 1))  (kk : zJ X M n0 (pc + 1) ls (.int (x &&& y) :: st) nx h Q) : zJ X M n0 pc ls (.int y :: .int x :: st) nx h Q := by
  intro p l e R s m args below meth c D cA b z H locs Qm la C hX hl hw hS hend
  exact lv_iand C.1 C.2.1 hd (kk p l e R s m args below meth c D cA b z H locs Qm la C hX hl hw hS hend)
theorem j_ior {x y : Int32} (hd : decode (zMb M) pc = .ok (.ior, 1))  (kk : zJ X M n0 (pc + 1) ls (.int (x ||| y) :: st) nx h Q) : zJ X M n0 pc ls (.int y :: .int x :: st) nx h Q := by
  intro p l e R s m args below meth c D cA b z H locs Qm la C hX hl hw hS hend
  exact lv_ior C.1 C.2.1 hd (kk p l e R s m args below meth c D cA b z H locs Qm la C hX hl hw hS hend)
theorem j_ishl {x y : Int32} (hd : decode (zMb M) pc = .ok (.ishl, 1))  (kk : zJ X M n0 (pc + 1) ls (.int (x <<< (y &&& 31)) :: st) nx h Q) : zJ X M n0 pc ls (.int y :: .int x :: st) nx h Q := by
  intro p l e R s m args below meth c D cA b z H locs Qm la C hX hl hw hS hend
  exact lv_ishl C.1 C.2.1 hd (kk p l e R s m args below meth c D cA b z H locs Qm la C hX hl hw hS hend)
theorem j_ishr {x y : Int32} (hd : decode (zMb M) pc = .ok (.ishr, 1))  (kk : zJ X M n0 (pc + 1) ls (.int (x >>> (y &&& 31)) :: st) nx h Q) : zJ X M n0 pc ls (.int y :: .int x :: st) nx h Q := by
  intro p l e R s m args below meth c D cA b z H locs Qm la C hX hl hw hS hend
  exact lv_ishr C.1 C.2.1 hd (kk p l e R s m args below meth c D cA b z H locs Qm la C hX hl hw hS hend)
theorem j_iushr {x y : Int32} (hd : decode (zMb M) pc = .ok (.iushr, 1))  (kk : zJ X M n0 (pc + 1) ls (.int (x.toUInt32 >>> (y.toUInt32 &&& Int32.toUInt32 31)).toInt32 :: st) nx h Q) : zJ X M n0 pc ls (.int y :: .int x :: st) nx h Q := by
  intro p l e R s m args below meth c D cA b z H locs Qm la C hX hl hw hS hend
  exact lv_iushr C.1 C.2.1 hd rfl (kk p l e R s m args below meth c D cA b z H locs Qm la C hX hl hw hS hend)
theorem j_idiv {x y : Int32} (hd : decode (zMb M) pc = .ok (.idiv, 1)) (hne : ¬ y = 0) (kk : zJ X M n0 (pc + 1) ls (.int (x / y) :: st) nx h Q) : zJ X M n0 pc ls (.int y :: .int x :: st) nx h Q := by
  intro p l e R s m args below meth c D cA b z H locs Qm la C hX hl hw hS hend
  exact lv_idiv C.1 C.2.1 hd hne (kk p l e R s m args below meth c D cA b z H locs Qm la C hX hl hw hS hend)
theorem j_irem {x y : Int32} (hd : decode (zMb M) pc = .ok (.irem, 1)) (hne : ¬ y = 0) (kk : zJ X M n0 (pc + 1) ls (.int (x - x / y * y) :: st) nx h Q) : zJ X M n0 pc ls (.int y :: .int x :: st) nx h Q := by
  intro p l e R s m args below meth c D cA b z H locs Qm la C hX hl hw hS hend
  exact lv_irem C.1 C.2.1 hd hne (kk p l e R s m args below meth c D cA b z H locs Qm la C hX hl hw hS hend)
theorem j_ineg {x : Int32} (hd : decode (zMb M) pc = .ok (.ineg, 1))  (kk : zJ X M n0 (pc + 1) ls (.int (0 - x) :: st) nx h Q) : zJ X M n0 pc ls (.int x :: st) nx h Q := by
  intro p l e R s m args below meth c D cA b z H locs Qm la C hX hl hw hS hend
  exact lv_ineg C.1 C.2.1 hd (kk p l e R s m args below meth c D cA b z H locs Qm la C hX hl hw hS hend)
theorem j_i2c {x : Int32} (hd : decode (zMb M) pc = .ok (.i2c, 1))  (kk : zJ X M n0 (pc + 1) ls (.int (x.toUInt32 % 65536).toInt32 :: st) nx h Q) : zJ X M n0 pc ls (.int x :: st) nx h Q := by
  intro p l e R s m args below meth c D cA b z H locs Qm la C hX hl hw hS hend
  exact lv_i2c C.1 C.2.1 hd rfl (kk p l e R s m args below meth c D cA b z H locs Qm la C hX hl hw hS hend)
theorem j_i2f {x : Int32} (hd : decode (zMb M) pc = .ok (.i2f, 1))  (kk : zJ X M n0 (pc + 1) ls (.float (FP.i2f x) :: st) nx h Q) : zJ X M n0 pc ls (.int x :: st) nx h Q := by
  intro p l e R s m args below meth c D cA b z H locs Qm la C hX hl hw hS hend
  exact lv_i2f C.1 C.2.1 hd (kk p l e R s m args below meth c D cA b z H locs Qm la C hX hl hw hS hend)
theorem j_f2i {x : UInt32} (hd : decode (zMb M) pc = .ok (.f2i, 1))  (kk : zJ X M n0 (pc + 1) ls (.int (FP.f2i x) :: st) nx h Q) : zJ X M n0 pc ls (.float x :: st) nx h Q := by
  intro p l e R s m args below meth c D cA b z H locs Qm la C hX hl hw hS hend
  exact lv_f2i C.1 C.2.1 hd (kk p l e R s m args below meth c D cA b z H locs Qm la C hX hl hw hS hend)
theorem j_fcmp {x y : UInt32} {op : CmpOp} (hd : decode (zMb M) pc = .ok (.fcmp op, 1))  (kk : zJ X M n0 (pc + 1) ls (.int (Op.cmpValue (FP.fcmp x y) op) :: st) nx h Q) : zJ X M n0 pc ls (.float y :: .float x :: st) nx h Q := by
  intro p l e R s m args below meth c D cA b z H locs Qm la C hX hl hw hS hend
  exact lv_fcmp C.1 C.2.1 hd (kk p l e R s m args below meth c D cA b z H locs Qm la C hX hl hw hS hend)
theorem j_fsub {x y : UInt32} (hd : decode (zMb M) pc = .ok (.fsub, 1)) (hne : vf_n32 (FP.fsub x y)) (kk : zJ X M n0 (pc + 1) ls (.float (FP.fsub x y) :: st) nx h Q) : zJ X M n0 pc ls (.float y :: .float x :: st) nx h Q := by
  intro p l e R s m args below meth c D cA b z H locs Qm la C hX hl hw hS hend
  exact lv_fsub C.1 C.2.1 hd hne (kk p l e R s m args below meth c D cA b z H locs Qm la C hX hl hw hS hend)
theorem j_fmul {x y : UInt32} (hd : decode (zMb M) pc = .ok (.fmul, 1)) (hne : vf_n32 (FP.fmul x y)) (kk : zJ X M n0 (pc + 1) ls (.float (FP.fmul x y) :: st) nx h Q) : zJ X M n0 pc ls (.float y :: .float x :: st) nx h Q := by
  intro p l e R s m args below meth c D cA b z H locs Qm la C hX hl hw hS hend
  exact lv_fmul C.1 C.2.1 hd hne (kk p l e R s m args below meth c D cA b z H locs Qm la C hX hl hw hS hend)
theorem j_fdiv {x y : UInt32} (hd : decode (zMb M) pc = .ok (.fdiv, 1)) (hne : vf_n32 (FP.fdiv x y)) (kk : zJ X M n0 (pc + 1) ls (.float (FP.fdiv x y) :: st) nx h Q) : zJ X M n0 pc ls (.float y :: .float x :: st) nx h Q := by
  intro p l e R s m args below meth c D cA b z H locs Qm la C hX hl hw hS hend
  exact lv_fdiv C.1 C.2.1 hd hne (kk p l e R s m args below meth c D cA b z H locs Qm la C hX hl hw hS hend)
theorem j_fconst1  (hd : decode (zMb M) pc = .ok (.fconst 1, 1))  (kk : zJ X M n0 (pc + 1) ls (.float 0x3f800000 :: st) nx h Q) : zJ X M n0 pc ls (st) nx h Q := by
  intro p l e R s m args below meth c D cA b z H locs Qm la C hX hl hw hS hend
  exact lv_fconst1 C.1 C.2.1 hd (kk p l e R s m args below meth c D cA b z H locs Qm la C hX hl hw hS hend)
theorem j_fconst2  (hd : decode (zMb M) pc = .ok (.fconst 2, 1))  (kk : zJ X M n0 (pc + 1) ls (.float 0x40000000 :: st) nx h Q) : zJ X M n0 pc ls (st) nx h Q := by
  intro p l e R s m args below meth c D cA b z H locs Qm la C hX hl hw hS hend
  exact lv_fconst2 C.1 C.2.1 hd (kk p l e R s m args below meth c D cA b z H locs Qm la C hX hl hw hS hend)
theorem j_ldc {i : Nat} {v : Int32} (hd : decode (zMb M) pc = .ok (.ldc i, 2)) (hc : Cond.constant (zMo M) i v ∈ zWd) (kk : zJ X M n0 (pc + 2) ls (.int v :: st) nx h Q) : zJ X M n0 pc ls (st) nx h Q := by
  intro p l e R s m args below meth c D cA b z H locs Qm la C hX hl hw hS hend
  exact lv_ldc C.1 C.2.1 C.2.2.2.1 (C.2.2.2.2.2.1 _ hc) hd (kk p l e R s m args below meth c D cA b z H locs Qm la C hX hl hw hS hend)
theorem j_ldcf {i : Nat} {v : UInt32} (hd : decode (zMb M) pc = .ok (.ldc i, 2)) (hc : Cond.constantFloat (zMo M) i v ∈ zWd) (kk : zJ X M n0 (pc + 2) ls (.float v :: st) nx h Q) : zJ X M n0 pc ls (st) nx h Q := by
  intro p l e R s m args below meth c D cA b z H locs Qm la C hX hl hw hS hend
  exact lv_ldcf C.1 C.2.1 C.2.2.2.1 (C.2.2.2.2.2.1 _ hc) hd (kk p l e R s m args below meth c D cA b z H locs Qm la C hX hl hw hS hend)
theorem j_dup {v : Value} (hd : decode (zMb M) pc = .ok (.dup, 1)) (hv : (zV 0 0 v).category = 1) (kk : zJ X M n0 (pc + 1) ls (v :: v :: st) nx h Q) : zJ X M n0 pc ls (v :: st) nx h Q := by
  intro p l e R s m args below meth c D cA b z H locs Qm la C hX hl hw hS hend
  exact lv_dup C.1 C.2.1 hd (z_cat hv) (kk p l e R s m args below meth c D cA b z H locs Qm la C hX hl hw hS hend)
theorem j_pop {v : Value} (hd : decode (zMb M) pc = .ok (.pop, 1)) (hv : (zV 0 0 v).category = 1) (kk : zJ X M n0 (pc + 1) ls (st) nx h Q) : zJ X M n0 pc ls (v :: st) nx h Q := by
  intro p l e R s m args below meth c D cA b z H locs Qm la C hX hl hw hS hend
  exact lv_pop C.1 C.2.1 hd (z_cat hv) (kk p l e R s m args below meth c D cA b z H locs Qm la C hX hl hw hS hend)
theorem j_dup2 {v u : Value} (hd : decode (zMb M) pc = .ok (.dup2, 1)) (hv : (zV 0 0 v).category = 1) (hu : (zV 0 0 u).category = 1) (kk : zJ X M n0 (pc + 1) ls (v :: u :: v :: u :: st) nx h Q) : zJ X M n0 pc ls (v :: u :: st) nx h Q := by
  intro p l e R s m args below meth c D cA b z H locs Qm la C hX hl hw hS hend
  exact lv_dup2_11 C.1 C.2.1 hd (z_cat hv) (z_cat hu) (kk p l e R s m args below meth c D cA b z H locs Qm la C hX hl hw hS hend)
theorem j_iload_n {k : Fin 4} {x : Int32} (hd : decode (zMb M) pc = .ok (.iload_n k, 1)) (hi : ls[(k : Nat)]? = some (.int x)) (kk : zJ X M n0 (pc + 1) ls (.int x :: st) nx h Q) : zJ X M n0 pc ls (st) nx h Q := by
  intro p l e R s m args below meth c D cA b z H locs Qm la C hX hl hw hS hend
  exact lv_iload_n C.1 C.2.1 hd rfl (z_at hl hi (fun q => by cases q)) (kk p l e R s m args below meth c D cA b z H locs Qm la C hX hl hw hS hend)
theorem j_iload {i : Nat} {x : Int32} (hd : decode (zMb M) pc = .ok (.iload i, 2)) (hi : ls[i]? = some (.int x)) (kk : zJ X M n0 (pc + 2) ls (.int x :: st) nx h Q) : zJ X M n0 pc ls (st) nx h Q := by
  intro p l e R s m args below meth c D cA b z H locs Qm la C hX hl hw hS hend
  exact lv_iload C.1 C.2.1 hd (z_at hl hi (fun q => by cases q)) (kk p l e R s m args below meth c D cA b z H locs Qm la C hX hl hw hS hend)
theorem j_aload_n {k : Fin 4} {x : Nat} (hd : decode (zMb M) pc = .ok (.aload_n k, 1)) (hi : ls[(k : Nat)]? = some (.ref x)) (kk : zJ X M n0 (pc + 1) ls (.ref x :: st) nx h Q) : zJ X M n0 pc ls (st) nx h Q := by
  intro p l e R s m args below meth c D cA b z H locs Qm la C hX hl hw hS hend
  exact lv_aload_n C.1 C.2.1 hd rfl (z_at hl hi (fun q => by cases q)) (kk p l e R s m args below meth c D cA b z H locs Qm la C hX hl hw hS hend)
theorem j_aload {i : Nat} {x : Nat} (hd : decode (zMb M) pc = .ok (.aload i, 2)) (hi : ls[i]? = some (.ref x)) (kk : zJ X M n0 (pc + 2) ls (.ref x :: st) nx h Q) : zJ X M n0 pc ls (st) nx h Q := by
  intro p l e R s m args below meth c D cA b z H locs Qm la C hX hl hw hS hend
  exact lv_aload C.1 C.2.1 hd (z_at hl hi (fun q => by cases q)) (kk p l e R s m args below meth c D cA b z H locs Qm la C hX hl hw hS hend)
theorem j_fload_n {k : Fin 4} {x : UInt32} (hd : decode (zMb M) pc = .ok (.fload_n k, 1)) (hi : ls[(k : Nat)]? = some (.float x)) (kk : zJ X M n0 (pc + 1) ls (.float x :: st) nx h Q) : zJ X M n0 pc ls (st) nx h Q := by
  intro p l e R s m args below meth c D cA b z H locs Qm la C hX hl hw hS hend
  exact lv_fload_n C.1 C.2.1 hd rfl (z_at hl hi (fun q => by cases q)) (kk p l e R s m args below meth c D cA b z H locs Qm la C hX hl hw hS hend)
theorem j_fload {i : Nat} {x : UInt32} (hd : decode (zMb M) pc = .ok (.fload i, 2)) (hi : ls[i]? = some (.float x)) (kk : zJ X M n0 (pc + 2) ls (.float x :: st) nx h Q) : zJ X M n0 pc ls (st) nx h Q := by
  intro p l e R s m args below meth c D cA b z H locs Qm la C hX hl hw hS hend
  exact lv_fload C.1 C.2.1 hd (z_at hl hi (fun q => by cases q)) (kk p l e R s m args below meth c D cA b z H locs Qm la C hX hl hw hS hend)
theorem j_istore_n {k : Fin 4} {x : Int32} (hd : decode (zMb M) pc = .ok (.istore_n k, 1)) (hn : (k : Nat) < zMl M) (kk : zJ X M n0 (pc + 1) (ls.set k (.int x)) st nx h Q) : zJ X M n0 pc ls (.int x :: st) nx h Q := by
  intro p l e R s m args below meth c D cA b z H locs Qm la C hX hl hw hS hend
  exact lv_istore_n C.1 C.2.1 hd rfl (z_has hl) hn rfl (fun la1 h1 => kk p l e R s m args below meth c D cA b z H locs Qm la1 C hX (z_put hl hn rfl h1) hw hS hend)
theorem j_istore {i : Nat} {x : Int32} (hd : decode (zMb M) pc = .ok (.istore i, 2)) (hn : i < zMl M) (kk : zJ X M n0 (pc + 2) (ls.set i (.int x)) st nx h Q) : zJ X M n0 pc ls (.int x :: st) nx h Q := by
  intro p l e R s m args below meth c D cA b z H locs Qm la C hX hl hw hS hend
  exact lv_istore C.1 C.2.1 hd (z_has hl) hn rfl (fun la1 h1 => kk p l e R s m args below meth c D cA b z H locs Qm la1 C hX (z_put hl hn rfl h1) hw hS hend)
theorem j_astore_n {k : Fin 4} {x : Nat} (hd : decode (zMb M) pc = .ok (.astore_n k, 1)) (hn : (k : Nat) < zMl M) (kk : zJ X M n0 (pc + 1) (ls.set k (.ref x)) st nx h Q) : zJ X M n0 pc ls (.ref x :: st) nx h Q := by
  intro p l e R s m args below meth c D cA b z H locs Qm la C hX hl hw hS hend
  exact lv_astore_n C.1 C.2.1 hd rfl (z_has hl) hn rfl (fun la1 h1 => kk p l e R s m args below meth c D cA b z H locs Qm la1 C hX (z_put hl hn rfl h1) hw hS hend)
theorem j_astore {i : Nat} {x : Nat} (hd : decode (zMb M) pc = .ok (.astore i, 2)) (hn : i < zMl M) (kk : zJ X M n0 (pc + 2) (ls.set i (.ref x)) st nx h Q) : zJ X M n0 pc ls (.ref x :: st) nx h Q := by
  intro p l e R s m args below meth c D cA b z H locs Qm la C hX hl hw hS hend
  exact lv_astore C.1 C.2.1 hd (z_has hl) hn rfl (fun la1 h1 => kk p l e R s m args below meth c D cA b z H locs Qm la1 C hX (z_put hl hn rfl h1) hw hS hend)
theorem j_fstore_n {k : Fin 4} {x : UInt32} (hd : decode (zMb M) pc = .ok (.fstore_n k, 1)) (hn : (k : Nat) < zMl M) (kk : zJ X M n0 (pc + 1) (ls.set k (.float x)) st nx h Q) : zJ X M n0 pc ls (.float x :: st) nx h Q := by
  intro p l e R s m args below meth c D cA b z H locs Qm la C hX hl hw hS hend
  exact lv_fstore_n C.1 C.2.1 hd rfl (z_has hl) hn rfl (fun la1 h1 => kk p l e R s m args below meth c D cA b z H locs Qm la1 C hX (z_put hl hn rfl h1) hw hS hend)
theorem j_fstore {i : Nat} {x : UInt32} (hd : decode (zMb M) pc = .ok (.fstore i, 2)) (hn : i < zMl M) (kk : zJ X M n0 (pc + 2) (ls.set i (.float x)) st nx h Q) : zJ X M n0 pc ls (.float x :: st) nx h Q := by
  intro p l e R s m args below meth c D cA b z H locs Qm la C hX hl hw hS hend
  exact lv_fstore C.1 C.2.1 hd (z_has hl) hn rfl (fun la1 h1 => kk p l e R s m args below meth c D cA b z H locs Qm la1 C hX (z_put hl hn rfl h1) hw hS hend)
theorem j_iinc {i : Nat} {n : Int} {x v : Int32} (hd : decode (zMb M) pc = .ok (.iinc i n, 3)) (hi : ls[i]? = some (.int x)) (hv : x + Int32.ofInt n = v) (hn : i < zMl M) (kk : zJ X M n0 (pc + 3) (ls.set i (.int v)) st nx h Q) : zJ X M n0 pc ls st nx h Q := by
  intro p l e R s m args below meth c D cA b z H locs Qm la C hX hl hw hS hend
  obtain ⟨k, hk⟩ := z_has_at hl hi (fun q => by cases q)
  exact lv_iinc C.1 C.2.1 hd (z_has hl) hk hv hn rfl (fun la1 h1 => kk p l e R s m args below meth c D cA b z H locs Qm la1 C hX (z_put hl hn rfl h1) hw hS hend)
theorem j_if_eq {x : Int32} {off : Int} {tgt : Nat} (hd : decode (zMb M) pc = .ok (.ifCond .eq off, 3)) (ht : (pc : Int) + off = (tgt : Int)) (kt : (x = 0) → zJ X M n0 tgt ls st nx h Q) (kf : (¬ (x = 0)) → zJ X M n0 (pc + 3) ls st nx h Q) : zJ X M n0 pc ls (.int x :: st) nx h Q := by
  intro p l e R s m args below meth c D cA b z H locs Qm la C hX hl hw hS hend
  exact lv_if_eq C.1 C.2.1 hd ht (fun q => kt q p l e R s m args below meth c D cA b z H locs Qm la C hX hl hw hS hend) (fun q => kf q p l e R s m args below meth c D cA b z H locs Qm la C hX hl hw hS hend)
theorem j_icmp_eq {x y : Int32} {off : Int} {tgt : Nat} (hd : decode (zMb M) pc = .ok (.if_icmp .eq off, 3)) (ht : (pc : Int) + off = (tgt : Int)) (kt : (x = y) → zJ X M n0 tgt ls st nx h Q) (kf : (¬ (x = y)) → zJ X M n0 (pc + 3) ls st nx h Q) : zJ X M n0 pc ls (.int y :: .int x :: st) nx h Q := by
  intro p l e R s m args below meth c D cA b z H locs Qm la C hX hl hw hS hend
  exact lv_icmp_eq C.1 C.2.1 hd ht (fun q => kt q p l e R s m args below meth c D cA b z H locs Qm la C hX hl hw hS hend) (fun q => kf q p l e R s m args below meth c D cA b z H locs Qm la C hX hl hw hS hend)
theorem j_if_ne {x : Int32} {off : Int} {tgt : Nat} (hd : decode (zMb M) pc = .ok (.ifCond .ne off, 3)) (ht : (pc : Int) + off = (tgt : Int)) (kt : (¬ x = 0) → zJ X M n0 tgt ls st nx h Q) (kf : (x = 0) → zJ X M n0 (pc + 3) ls st nx h Q) : zJ X M n0 pc ls (.int x :: st) nx h Q := by
  intro p l e R s m args below meth c D cA b z H locs Qm la C hX hl hw hS hend
  exact lv_if_ne C.1 C.2.1 hd ht (fun q => kt q p l e R s m args below meth c D cA b z H locs Qm la C hX hl hw hS hend) (fun q => kf q p l e R s m args below meth c D cA b z H locs Qm la C hX hl hw hS hend)
theorem j_icmp_ne {x y : Int32} {off : Int} {tgt : Nat} (hd : decode (zMb M) pc = .ok (.if_icmp .ne off, 3)) (ht : (pc : Int) + off = (tgt : Int)) (kt : (¬ x = y) → zJ X M n0 tgt ls st nx h Q) (kf : (x = y) → zJ X M n0 (pc + 3) ls st nx h Q) : zJ X M n0 pc ls (.int y :: .int x :: st) nx h Q := by
  intro p l e R s m args below meth c D cA b z H locs Qm la C hX hl hw hS hend
  exact lv_icmp_ne C.1 C.2.1 hd ht (fun q => kt q p l e R s m args below meth c D cA b z H locs Qm la C hX hl hw hS hend) (fun q => kf q p l e R s m args below meth c D cA b z H locs Qm la C hX hl hw hS hend)
theorem j_if_lt {x : Int32} {off : Int} {tgt : Nat} (hd : decode (zMb M) pc = .ok (.ifCond .lt off, 3)) (ht : (pc : Int) + off = (tgt : Int)) (kt : (x < 0) → zJ X M n0 tgt ls st nx h Q) (kf : (¬ (x < 0)) → zJ X M n0 (pc + 3) ls st nx h Q) : zJ X M n0 pc ls (.int x :: st) nx h Q := by
  intro p l e R s m args below meth c D cA b z H locs Qm la C hX hl hw hS hend
  exact lv_if_lt C.1 C.2.1 hd ht (fun q => kt q p l e R s m args below meth c D cA b z H locs Qm la C hX hl hw hS hend) (fun q => kf q p l e R s m args below meth c D cA b z H locs Qm la C hX hl hw hS hend)
theorem j_icmp_lt {x y : Int32} {off : Int} {tgt : Nat} (hd : decode (zMb M) pc = .ok (.if_icmp .lt off, 3)) (ht : (pc : Int) + off = (tgt : Int)) (kt : (x < y) → zJ X M n0 tgt ls st nx h Q) (kf : (¬ (x < y)) → zJ X M n0 (pc + 3) ls st nx h Q) : zJ X M n0 pc ls (.int y :: .int x :: st) nx h Q := by
  intro p l e R s m args below meth c D cA b z H locs Qm la C hX hl hw hS hend
  exact lv_icmp_lt C.1 C.2.1 hd ht (fun q => kt q p l e R s m args below meth c D cA b z H locs Qm la C hX hl hw hS hend) (fun q => kf q p l e R s m args below meth c D cA b z H locs Qm la C hX hl hw hS hend)
theorem j_if_ge {x : Int32} {off : Int} {tgt : Nat} (hd : decode (zMb M) pc = .ok (.ifCond .ge off, 3)) (ht : (pc : Int) + off = (tgt : Int)) (kt : (0 ≤ x) → zJ X M n0 tgt ls st nx h Q) (kf : (¬ (0 ≤ x)) → zJ X M n0 (pc + 3) ls st nx h Q) : zJ X M n0 pc ls (.int x :: st) nx h Q := by
  intro p l e R s m args below meth c D cA b z H locs Qm la C hX hl hw hS hend
  exact lv_if_ge C.1 C.2.1 hd ht (fun q => kt q p l e R s m args below meth c D cA b z H locs Qm la C hX hl hw hS hend) (fun q => kf q p l e R s m args below meth c D cA b z H locs Qm la C hX hl hw hS hend)
theorem j_icmp_ge {x y : Int32} {off : Int} {tgt : Nat} (hd : decode (zMb M) pc = .ok (.if_icmp .ge off, 3)) (ht : (pc : Int) + off = (tgt : Int)) (kt : (y ≤ x) → zJ X M n0 tgt ls st nx h Q) (kf : (¬ (y ≤ x)) → zJ X M n0 (pc + 3) ls st nx h Q) : zJ X M n0 pc ls (.int y :: .int x :: st) nx h Q := by
  intro p l e R s m args below meth c D cA b z H locs Qm la C hX hl hw hS hend
  exact lv_icmp_ge C.1 C.2.1 hd ht (fun q => kt q p l e R s m args below meth c D cA b z H locs Qm la C hX hl hw hS hend) (fun q => kf q p l e R s m args below meth c D cA b z H locs Qm la C hX hl hw hS hend)
theorem j_if_gt {x : Int32} {off : Int} {tgt : Nat} (hd : decode (zMb M) pc = .ok (.ifCond .gt off, 3)) (ht : (pc : Int) + off = (tgt : Int)) (kt : (0 < x) → zJ X M n0 tgt ls st nx h Q) (kf : (¬ (0 < x)) → zJ X M n0 (pc + 3) ls st nx h Q) : zJ X M n0 pc ls (.int x :: st) nx h Q := by
  intro p l e R s m args below meth c D cA b z H locs Qm la C hX hl hw hS hend
  exact lv_if_gt C.1 C.2.1 hd ht (fun q => kt q p l e R s m args below meth c D cA b z H locs Qm la C hX hl hw hS hend) (fun q => kf q p l e R s m args below meth c D cA b z H locs Qm la C hX hl hw hS hend)
theorem j_icmp_gt {x y : Int32} {off : Int} {tgt : Nat} (hd : decode (zMb M) pc = .ok (.if_icmp .gt off, 3)) (ht : (pc : Int) + off = (tgt : Int)) (kt : (y < x) → zJ X M n0 tgt ls st nx h Q) (kf : (¬ (y < x)) → zJ X M n0 (pc + 3) ls st nx h Q) : zJ X M n0 pc ls (.int y :: .int x :: st) nx h Q := by
  intro p l e R s m args below meth c D cA b z H locs Qm la C hX hl hw hS hend
  exact lv_icmp_gt C.1 C.2.1 hd ht (fun q => kt q p l e R s m args below meth c D cA b z H locs Qm la C hX hl hw hS hend) (fun q => kf q p l e R s m args below meth c D cA b z H locs Qm la C hX hl hw hS hend)
theorem j_if_le {x : Int32} {off : Int} {tgt : Nat} (hd : decode (zMb M) pc = .ok (.ifCond .le off, 3)) (ht : (pc : Int) + off = (tgt : Int)) (kt : (x ≤ 0) → zJ X M n0 tgt ls st nx h Q) (kf : (¬ (x ≤ 0)) → zJ X M n0 (pc + 3) ls st nx h Q) : zJ X M n0 pc ls (.int x :: st) nx h Q := by
  intro p l e R s m args below meth c D cA b z H locs Qm la C hX hl hw hS hend
  exact lv_if_le C.1 C.2.1 hd ht (fun q => kt q p l e R s m args below meth c D cA b z H locs Qm la C hX hl hw hS hend) (fun q => kf q p l e R s m args below meth c D cA b z H locs Qm la C hX hl hw hS hend)
theorem j_icmp_le {x y : Int32} {off : Int} {tgt : Nat} (hd : decode (zMb M) pc = .ok (.if_icmp .le off, 3)) (ht : (pc : Int) + off = (tgt : Int)) (kt : (x ≤ y) → zJ X M n0 tgt ls st nx h Q) (kf : (¬ (x ≤ y)) → zJ X M n0 (pc + 3) ls st nx h Q) : zJ X M n0 pc ls (.int y :: .int x :: st) nx h Q := by
  intro p l e R s m args below meth c D cA b z H locs Qm la C hX hl hw hS hend
  exact lv_icmp_le C.1 C.2.1 hd ht (fun q => kt q p l e R s m args below meth c D cA b z H locs Qm la C hX hl hw hS hend) (fun q => kf q p l e R s m args below meth c D cA b z H locs Qm la C hX hl hw hS hend)
theorem j_goto {off : Int} {tgt : Nat} (hd : decode (zMb M) pc = .ok (.goto off, 3)) (ht : (pc : Int) + off = (tgt : Int)) (kk : zJ X M n0 tgt ls st nx h Q) : zJ X M n0 pc ls st nx h Q := by
  intro p l e R s m args below meth c D cA b z H locs Qm la C hX hl hw hS hend
  exact lv_goto C.1 C.2.1 hd ht (kk p l e R s m args below meth c D cA b z H locs Qm la C hX hl hw hS hend)
theorem j_lookup {dflt : Int} {ps : Array (Int × Int)} {len : Nat} {x : Int32} {off : Int} {tgt : Nat} (hd : decode (zMb M) pc = .ok (.lookupswitch dflt ps, len)) (hp : (ps.toList.zip (ps.toList.drop 1)).all (fun (a, next) => a.1 < next.1) = true) (ho : Op.lookupswitch.offset ps.toList dflt x.toInt = off) (ht : (pc : Int) + off = (tgt : Int)) (kk : zJ X M n0 tgt ls st nx h Q) : zJ X M n0 pc ls (.int x :: st) nx h Q := by
  intro p l e R s m args below meth c D cA b z H locs Qm la C hX hl hw hS hend
  exact lv_lookup C.1 C.2.1 hd hp ho ht (kk p l e R s m args below meth c D cA b z H locs Qm la C hX hl hw hS hend)
theorem j_tableOut {dflt lo hi : Int} {offs : Array Int} {len : Nat} {x : Int32} {tgt : Nat} (hd : decode (zMb M) pc = .ok (.tableswitch dflt lo hi offs, len)) (hx : x.toInt < lo ∨ hi < x.toInt) (ht : (pc : Int) + dflt = (tgt : Int)) (kk : zJ X M n0 tgt ls st nx h Q) : zJ X M n0 pc ls (.int x :: st) nx h Q := by
  intro p l e R s m args below meth c D cA b z H locs Qm la C hX hl hw hS hend
  exact lv_tableOut C.1 C.2.1 hd hx ht (kk p l e R s m args below meth c D cA b z H locs Qm la C hX hl hw hS hend)
theorem j_tableIn {dflt lo hi : Int} {offs : Array Int} {len : Nat} {x : Int32} {off : Int} {tgt : Nat} (hd : decode (zMb M) pc = .ok (.tableswitch dflt lo hi offs, len)) (h1 : ¬ x.toInt < lo) (h2 : ¬ hi < x.toInt) (ho : offs[(x.toInt - lo).toNat]? = some off) (ht : (pc : Int) + off = (tgt : Int)) (kk : zJ X M n0 tgt ls st nx h Q) : zJ X M n0 pc ls (.int x :: st) nx h Q := by
  intro p l e R s m args below meth c D cA b z H locs Qm la C hX hl hw hS hend
  exact lv_tableIn C.1 C.2.1 hd h1 h2 ho ht (kk p l e R s m args below meth c D cA b z H locs Qm la C hX hl hw hS hend)
theorem j_iret {x : Int32} {ty : FieldType} (hd : decode (zMb M) pc = .ok (.ireturn, 1)) (hr : zMr M = some ty) (hn : narrow ty (.int x) = .int x) (hQ : Q (some x) nx h) : zJ X M n0 pc ls [.int x] nx h Q := by
  intro p l e R s m args below meth c D cA b z H locs Qm la C hX hl hw hS hend
  exact hend (some x) nx h H locs pc la hQ ⟨hd, ty, hr, hn⟩ hw hS
theorem j_vret (hd : decode (zMb M) pc = .ok (.return_, 1)) (hr : zMr M = none) (hQ : Q none nx h) : zJ X M n0 pc ls [] nx h Q := by
  intro p l e R s m args below meth c D cA b z H locs Qm la C hX hl hw hS hend
  exact hend none nx h H locs pc la hQ ⟨hd, hr⟩ hw hS
end ZJ
end
section
-- the world of the numbered objects: what a field, an element, a new object is
theorem zV_ref {b z nx a : Nat} (ha : a < nx) (hn : nx ≤ 1000) : zV b z (.ref a) = .ref (z + a) := by
  have h : ¬ a = 1000 := by omega
  simp [zV, h]
theorem zW_get {cA : Nat → ClassId} {b z nx a : Nat} {h : zH} (ha : a < nx) : (zW cA b z nx h)[a]? = some (z + a, zE cA b z a (h a)) := by
  simp [zW, List.getElem?_map, List.getElem?_range ha]
theorem zW_of {cA : Nat → ClassId} {b z nx : Nat} {h : zH} {k : Nat} {q : Nat × va_E} (hq : (zW cA b z nx h)[k]? = some q) : k < nx ∧ q = (z + k, zE cA b z k (h k)) := by
  have hk : k < nx := by
    have h1 := (List.getElem?_eq_some_iff.mp hq).1
    simpa [zW] using h1
  rw [zW_get hk] at hq
  exact ⟨hk, (Option.some.inj hq).symm⟩
theorem zW_D {cA : Nat → ClassId} {b z nx : Nat} {h : zH} : va_D (fun q => z ≤ q) (zW cA b z nx h) := by
  refine ⟨fun i j p q hp hq hpq => ?_, fun k q hq => ?_⟩
  · obtain ⟨-, rfl⟩ := zW_of hp
    obtain ⟨-, rfl⟩ := zW_of hq
    simp at hpq
    exact hpq
  · obtain ⟨-, rfl⟩ := zW_of hq
    exact Nat.le_add_right z k
theorem zW_set {cA : Nat → ClassId} {b z nx a : Nat} {h : zH} {g : Nat → Value} : (zW cA b z nx h).set a (z + a, zE cA b z a g) = zW cA b z nx (va_up h a g) := by
  apply List.ext_getElem?
  intro i
  by_cases hi : i < nx
  · by_cases hia : i = a
    · subst hia
      rw [List.getElem?_set_self (by simpa [zW] using hi), zW_get hi, va_up_self]
    · rw [List.getElem?_set_ne (Ne.symm hia), zW_get hi, zW_get hi, va_up_ne _ _ hia]
  · rw [List.getElem?_eq_none (by simpa [zW] using hi), List.getElem?_eq_none (by simpa [zW] using hi)]
theorem zW_push {cA : Nat → ClassId} {b z nx : Nat} {h : zH} {g : Nat → Value} : zW cA b z nx h ++ [(z + nx, zE cA b z nx g)] = zW cA b z (nx + 1) (va_up h nx g) := by
  unfold zW
  rw [List.range_succ, List.map_append, List.map_singleton, va_up_self]
  congr 1
  apply List.map_congr_left
  intro i hi
  have h1 : i < nx := List.mem_range.mp hi
  rw [va_up_ne _ _ (by omega)]
theorem zE_obj {cA : Nat → ClassId} {b z i ci : Nat} {g : Nat → Value} (h : (zS i).1 = ci) (hc : ci < 10) : zE cA b z i g = .inr (ci, (List.range (zF ci)).map (fun k => zV b z (g k))) := by
  subst h
  simp [zE, hc]
theorem zE_num {cA : Nat → ClassId} {b z i t n : Nat} {g : Nat → Value} (h : zS i = (10 + t, n)) (ht : t < 2) : zE cA b z i g = .inl (cA t, n, .inl (fun k => zI (g k))) := by
  have h1 : ¬ 10 + t < 10 := by omega
  have h2 : 10 + t < 12 := by omega
  simp [zE, h, h2]
theorem zE_arr {cA : Nat → ClassId} {b z i t n : Nat} {g : Nat → Value} (h : zS i = (12 + t, n)) : zE cA b z i g = .inl (cA (2 + t), n, .inr (.inr (.inr (.inr (fun k => zQ b z (g k)))))) := by
  have h1 : ¬ 12 + t < 10 := by omega
  have h2 : ¬ 12 + t < 12 := by omega
  have h3 : 12 + t - 10 = 2 + t := by omega
  simp [zE, h, h1, h3]
theorem z_fs {b z n k : Nat} {g : Nat → Value} (hk : k < n) : ((List.range n).map (fun j => zV b z (g j)))[k]? = some (zV b z (g k)) := by
  simp [List.getElem?_map, List.getElem?_range hk]
theorem z_fs_set {b z n k : Nat} {g : Nat → Value} {v : Value} : ((List.range n).map (fun j => zV b z (g j))).set k (zV b z v) = (List.range n).map (fun j => zV b z (va_up g k v j)) := by
  apply List.ext_getElem?
  intro i
  by_cases hi : i < n
  · by_cases hia : i = k
    · subst hia
      rw [List.getElem?_set_self (by simpa using hi), z_fs hi, va_up_self]
    · rw [List.getElem?_set_ne (Ne.symm hia), z_fs hi, z_fs hi, va_up_ne _ _ hia]
  · rw [List.getElem?_eq_none (by simpa using hi), List.getElem?_eq_none (by simpa using hi)]
/-- what a field of a type may be given -/
def zOk (ty : FieldType) (v : Value) : Bool := match ty, v with
  | .int, .int _ => true
  | .boolean, .int x => x == 0 || x == 1
  | .char, .int x => decide (0 ≤ x) && decide (x ≤ 65535)
  | .object _, .ref _ => true
  | .array _, .ref _ => true
  | _, _ => false
theorem zOk_spec {ty : FieldType} {v : Value} {b z : Nat} (h : zOk ty v = true) : narrow ty (zV b z v) = zV b z v ∧ fits ty (zV b z v) = true := by
  cases ty <;> cases v <;> first | exact (Bool.false_ne_true h).elim | exact ⟨rfl, rfl⟩ | skip
  · rename_i x
    simp only [zOk, Bool.and_eq_true, decide_eq_true_eq] at h
    obtain ⟨j, hj, rfl⟩ := nI_of2 (M := 65535) (n := 65535) (by decide) (fun q => by
      have h1 := h.1
      rw [Int32.le_iff_toInt_le] at h1
      rw [Int32.lt_iff_toInt_lt] at q
      omega) h.2
    exact pk_charN (by omega)
  · rename_i x
    simp only [zOk, Bool.or_eq_true, beq_iff_eq] at h
    rcases h with rfl | rfl <;> exact ⟨rfl, rfl⟩
/-- a field's link: its class and place, its type, whether it is final -/
def zLF (own : String) (idx ci k : Nat) (ty : FieldType) (fin : Bool) : Prop := ∃ (C : String) (T : u_T) (N : Nat) (ty0 : Nat → FieldType), vwCl[ci]? = some (C, T, N) ∧ ci < 10 ∧ N = zF ci ∧ k < N ∧
  (Cond.fieldLink own idx (T k).1 (T k).2.1 (T k).2.2.1 ∈ zWd ∨ ∃ host : String, Cond.fieldLinkNest own idx (T k).1 (T k).2.1 (T k).2.2.1 host ∈ zNw) ∧ (∀ w ∈ u_ws C T N, w ∈ zWd) ∧
  (∀ k, k < N → parseFieldDescriptor (T k).2.2.1 = some (ty0 k)) ∧ (∀ a, a < N → ∀ b, b < N → a ≠ b → (T a).2.1 ≠ (T b).2.1) ∧ ty0 k = ty ∧ (T k).2.2.2 = fin ∧ (T k).1 = C
/-- a class's link, of which objects are made -/
def zLC (own : String) (idx ci : Nat) : Prop := ∃ (C : String) (T : u_T) (N : Nat) (ty0 : Nat → FieldType), vwCl[ci]? = some (C, T, N) ∧ ci < 10 ∧ N = zF ci ∧
  Cond.classLink own idx C ∈ zWd ∧ Cond.instantiable C N ∈ zWd ∧ Cond.initialized C ∈ zWd ∧ (∀ w ∈ u_ws C T N, w ∈ zWd) ∧ (∀ k, k < N → parseFieldDescriptor (T k).2.2.1 = some (ty0 k)) ∧ ∀ k, k < N → defaultValue (ty0 k) = .null ∨ defaultValue (ty0 k) = .int 0
section ZW
variable {X : Nat × (Nat → Int32)} {M : zM} {n0 pc : Nat} {ls st : List Value} {nx : Nat} {h : zH} {Q : zQt}
set_option maxHeartbeats 1000000 in
theorem j_get {ci k idx a : Nat} {v : Value} {ty : FieldType} {fin : Bool} (hd : decode (zMb M) pc = .ok (.getfield idx, 3)) (hl : zLF (zMo M) idx ci k ty fin) (hs : (zS a).1 = ci) (ha : a < nx) (hv : h a k = v) (kk : zJ X M n0 (pc + 3) ls (v :: st) nx h Q) : zJ X M n0 pc ls (.ref a :: st) nx h Q := by
  intro p l e R s m args below meth c D cA b z H locs Qm la C hX hll hw hS hend
  obtain ⟨CC, T, N, ty0, hc, hci, hN, hk, hlk, hin, hty, hnm, e1, e2, e3⟩ := hl
  obtain ⟨hx, hb, hml, hown, hini, hts, hnw, hao, hK, hz, hR⟩ := id C
  obtain ⟨hsz, hnx, hP⟩ := id hw
  subst hv
  have he : (zW cA b z nx h)[a]? = some (z + a, .inr (ci, (List.range (zF ci)).map (fun k => zV b z (h a k)))) := by rw [zW_get ha, zE_obj hs hci]
  have hv' : ((List.range (zF ci)).map (fun k => zV b z (h a k)))[k]? = some (zV b z (h a k)) := z_fs (by rw [← hN]; exact hk)
  have K := kk p l e R s m args below meth c D cA b z H locs Qm la C hX hll hw hS hend
  show W p l e R s m args below meth c H locs _ _ Qm (F0 m pc la (zV b z (.ref a) :: st.map (zV b z)))
  rw [zV_ref ha hnx]
  rcases hlk with hlk | ⟨host, hlk⟩
  · exact va_get (D := D) (ci := ci) (C := CC) (T := T) (N := N) hx hb hts hin hown hK hP a he hc k hk (hts _ hlk) (fun _ h9 => h9) hv' hd K
  · exact va_getN (D := D) (ci := ci) (C := CC) (T := T) (N := N) hx hb hts hin hown hK hP a he hc k hk (va_Nw.use rfl (hnw _ hlk)) (fun _ h9 => h9) hv' hd K
set_option maxHeartbeats 1000000 in
theorem j_put {ci k idx a : Nat} {v : Value} {ty : FieldType} (hd : decode (zMb M) pc = .ok (.putfield idx, 3)) (hl : zLF (zMo M) idx ci k ty false) (hs : (zS a).1 = ci) (ha : a < nx) (hv : zOk ty v = true) (kk : zJ X M n0 (pc + 3) ls st nx (va_up h a (va_up (h a) k v)) Q) : zJ X M n0 pc ls (v :: .ref a :: st) nx h Q := by
  intro p l e R s m args below meth c D cA b z H locs Qm la C hX hll hw hS hend
  obtain ⟨CC, T, N, ty0, hc, hci, hN, hk, hlk, hin, hty, hnm, e1, e2, e3⟩ := hl
  obtain ⟨hx, hb, hml, hown, hini, hts, hnw, hao, hK, hz, hR⟩ := id C
  obtain ⟨hsz, hnx, hP⟩ := id hw
  have he : (zW cA b z nx h)[a]? = some (z + a, .inr (ci, (List.range (zF ci)).map (fun k => zV b z (h a k)))) := by rw [zW_get ha, zE_obj hs hci]
  obtain ⟨hn1, hn2⟩ := zOk_spec (b := b) (z := z) hv
  have hap := va_apart (own := zMo M) hts hin ty0 hty hnm hK hc
  have hll0 : k < ((List.range (zF ci)).map (fun k => zV b z (h a k))).length := by simp [← hN, hk]
  obtain ⟨r, h1, cell, q1, q2, q3, q4⟩ := hP a _ he
  have hr : r = (CC, T, N) := Option.some.inj (h1.symm.trans hc)
  subst hr
  obtain ⟨hSS, hfc, kC, hkC, hkind⟩ := hK.1 ci _ hc
  obtain ⟨cf, kf, fi, f, hi, hsl⟩ := hSS k hk
  have hlay := hts _ (hin _ (u_in_lay hk))
  unfold u_lay at hlay
  rw [if_neg (by rw [e2]; decide)] at hlay
  have hst := (u_facts hfc hkC (u_lays hts hin hk) hi).1
  have h6 := u_store hfc hkC hkind hlay hi (by rw [hty k hk, e1]) hn1 hn2
  have fin : ∀ (H' : Heap), H'[z + a]? = some (cell.setSlot f.slot (zV b z v)) → H'.size = H.size → (∀ q, q ≠ z + a → H'[q]? = H[q]?) → W p l e R s m args below meth c H' (locs ++ [⟨z + a, f.slot⟩]) (nx - n0) (zN nx - zN n0) Qm (F0 m (pc + 3) la (st.map (zV b z))) := by
    intro H' g1 g2 g3
    refine kk p l e R s m args below meth c D cA b z H' _ Qm la C hX hll ⟨by rw [g2]; exact hsz, hnx, ?_⟩ (hS.put g2 g3 (Nat.le_add_right z a)) hend
    rw [hsl] at g1
    have hset : va_P D vwCl ((zW cA b z nx h).set a (z + a, .inr (ci, ((List.range (zF ci)).map (fun k => zV b z (h a k))).set k (zV b z v)))) H' := hP.set zW_D he ⟨_, hc, t_OB.to (V := updV (vp_V _) k (zV b z v)) ⟨_, g1, q2, q3, t_set q4 hap hk (zV b z v)⟩ (fun j _ => vp_updV_set hll0 (zV b z v) j)⟩ g3
    rw [z_fs_set, ← zE_obj (cA := cA) hs hci, zW_set] at hset
    exact hset
  show W p l e R s m args below meth c H locs _ _ Qm (F0 m pc la (zV b z v :: zV b z (.ref a) :: st.map (zV b z)))
  rw [zV_ref ha hnx]
  rcases hlk with hlk | ⟨host, hlk⟩
  · exact W.putK hx hb (f := f) ⟨hown, hts _ hlk, ⟨_, _, _, hi⟩, hst⟩ (by rw [q2]; exact h6) q1 q3 (by rw [hsl]; exact k2_hasslot (q4 k hk)) rfl rfl hd fin
  · exact va_WputK hx hb (f := f) hown (va_Nw.use rfl (hnw _ hlk)) hi hst (by rw [q2]; exact h6) q1 q3 (by rw [hsl]; exact k2_hasslot (q4 k hk)) rfl rfl hd fin
set_option maxHeartbeats 1000000 in
theorem j_putF {ci k idx a : Nat} {v : Value} {ty : FieldType} (hd : decode (zMb M) pc = .ok (.putfield idx, 3)) (hl : zLF (zMo M) idx ci k ty true) (hlo : ∃ T : u_T, ∃ N, vwCl[ci]? = some (zMo M, T, N) ∧ Cond.fieldLink (zMo M) idx (T k).1 (T k).2.1 (T k).2.2.1 ∈ zWd) (hnm0 : (zMn M).name = "<init>") (hs : (zS a).1 = ci) (ha : a < nx) (hv : zOk ty v = true) (kk : zJ X M n0 (pc + 3) ls st nx (va_up h a (va_up (h a) k v)) Q) : zJ X M n0 pc ls (v :: .ref a :: st) nx h Q := by
  intro p l e R s m args below meth c D cA b z H locs Qm la C hX hll hw hS hend
  obtain ⟨CC, T, N, ty0, hc, hci, hN, hk, hlk0, hin, hty, hnm, e1, e2, e3⟩ := hl
  obtain ⟨T', N', hc', hlk⟩ := hlo
  obtain ⟨hx, hb, hml, hown, hini, hts, hnw, hao, hK, hz, hR⟩ := id C
  obtain ⟨hsz, hnx, hP⟩ := id hw
  have hcc : (CC, T, N) = (zMo M, T', N') := Option.some.inj (hc.symm.trans hc')
  obtain ⟨rfl, rfl, rfl⟩ : CC = zMo M ∧ T = T' ∧ N = N' := by
    simp only [Prod.mk.injEq] at hcc
    exact hcc
  have he : (zW cA b z nx h)[a]? = some (z + a, .inr (ci, (List.range (zF ci)).map (fun k => zV b z (h a k)))) := by rw [zW_get ha, zE_obj hs hci]
  obtain ⟨hn1, hn2⟩ := zOk_spec (b := b) (z := z) hv
  have hap := va_apart (own := zMo M) hts hin ty0 hty hnm hK hc
  have hll0 : k < ((List.range (zF ci)).map (fun k => zV b z (h a k))).length := by simp [← hN, hk]
  obtain ⟨r, h1, cell, q1, q2, q3, q4⟩ := hP a _ he
  have hr : r = (zMo M, T, N) := Option.some.inj (h1.symm.trans hc)
  subst hr
  obtain ⟨hSS, hfc, kC, hkC, hkind⟩ := hK.1 ci _ hc
  obtain ⟨cf, kf, fi, f, hi, hsl⟩ := hSS k hk
  have hlay := hts _ (hin _ (u_in_lay hk))
  unfold u_lay at hlay
  rw [if_pos e2] at hlay
  have hst := (u_facts hfc hkC (u_lays hts hin hk) hi).1
  have hcf : m.cls = cf := by
    obtain ⟨_, _, c', _, _, _, -, -, hf', -, -, -, hown2, -⟩ := Cond.laysFinal_spec hlay
    have e1 : c' = cf := by have := hi.symm.trans hf'; simp at this; exact this.1.symm
    rw [e3] at hown2
    rw [← e1]; exact Option.some.inj (hown.symm.trans hown2)
  have h6 := u_fits hfc hkC hkind (Or.inr hlay) hi (by rw [hty k hk, e1]) hn1 hn2
  show W p l e R s m args below meth c H locs _ _ Qm (F0 m pc la (zV b z v :: zV b z (.ref a) :: st.map (zV b z)))
  rw [zV_ref ha hnx]
  refine W.putFinK hx hb hown (hts _ hlk) hi hst hcf (hini hnm0) (by rw [q2]; exact h6) q1 q3 (by rw [hsl]; exact k2_hasslot (q4 k hk)) rfl rfl hd fun H' g1 g2 g3 => ?_
  refine kk p l e R s m args below meth c D cA b z H' _ Qm la C hX hll ⟨by rw [g2]; exact hsz, hnx, ?_⟩ (hS.put g2 g3 (Nat.le_add_right z a)) hend
  rw [hsl] at g1
  have hset : va_P D vwCl ((zW cA b z nx h).set a (z + a, .inr (ci, ((List.range (zF ci)).map (fun k => zV b z (h a k))).set k (zV b z v)))) H' := hP.set zW_D he ⟨_, hc, t_OB.to (V := updV (vp_V _) k (zV b z v)) ⟨_, g1, q2, q3, t_set q4 hap hk (zV b z v)⟩ (fun j _ => vp_updV_set hll0 (zV b z v) j)⟩ g3
  rw [z_fs_set, ← zE_obj (cA := cA) hs hci, zW_set] at hset
  exact hset
theorem j_iald {a n : Nat} {i x : Int32} (hd : decode (zMb M) pc = .ok (.iaload, 1)) (hs : zS a = (10, n)) (ha : a < nx) (hin : vp_in i n) (hv : zI (h a i.toNatClampNeg) = x) (kk : zJ X M n0 (pc + 1) ls (.int x :: st) nx h Q) : zJ X M n0 pc ls (.int i :: .ref a :: st) nx h Q := by
  intro p l e R s m args below meth c D cA b z H locs Qm la C hX hll hw hS hend
  obtain ⟨hx, hb, hml, hown, hini, hts, hnw, hao, hK, hz, hR⟩ := id C
  obtain ⟨hsz, hnx, hP⟩ := id hw
  subst hv
  have he : (zW cA b z nx h)[a]? = some (z + a, .inl (cA 0, n, .inl (fun k => zI (h a k)))) := by rw [zW_get ha, zE_num (t := 0) hs (by omega)]
  have K := kk p l e R s m args below meth c D cA b z H locs Qm la C hX hll hw hS hend
  show W p l e R s m args below meth c H locs _ _ Qm (F0 m pc la (.int i :: zV b z (.ref a) :: st.map (zV b z)))
  rw [zV_ref ha hnx]
  exact va_iald hx hb hK hP a 0 he rfl hin hd K
theorem j_cald {a n : Nat} {i x : Int32} (hd : decode (zMb M) pc = .ok (.caload, 1)) (hs : zS a = (11, n)) (ha : a < nx) (hin : vp_in i n) (hv : zI (h a i.toNatClampNeg) = x) (kk : zJ X M n0 (pc + 1) ls (.int x :: st) nx h Q) : zJ X M n0 pc ls (.int i :: .ref a :: st) nx h Q := by
  intro p l e R s m args below meth c D cA b z H locs Qm la C hX hll hw hS hend
  obtain ⟨hx, hb, hml, hown, hini, hts, hnw, hao, hK, hz, hR⟩ := id C
  obtain ⟨hsz, hnx, hP⟩ := id hw
  subst hv
  have he : (zW cA b z nx h)[a]? = some (z + a, .inl (cA 1, n, .inl (fun k => zI (h a k)))) := by rw [zW_get ha, zE_num (t := 1) hs (by omega)]
  have K := kk p l e R s m args below meth c D cA b z H locs Qm la C hX hll hw hS hend
  show W p l e R s m args below meth c H locs _ _ Qm (F0 m pc la (.int i :: zV b z (.ref a) :: st.map (zV b z)))
  rw [zV_ref ha hnx]
  exact va_cald hx hb hK hP a 1 he rfl hin hd K
theorem zQ_rf {b z : Nat} {v : Value} {x : Option Nat} (h : v = va_rf x) : va_rf (zQ b z v) = zV b z v := by
  subst h
  cases x <;> rfl
theorem j_aald {a n t : Nat} {i : Int32} {r : Option Nat} (hd : decode (zMb M) pc = .ok (.aaload, 1)) (hs : zS a = (12 + t, n)) (ht : t < 3) (ha : a < nx) (hin : vp_in i n) (hv : h a i.toNatClampNeg = va_rf r) (kk : zJ X M n0 (pc + 1) ls (va_rf r :: st) nx h Q) : zJ X M n0 pc ls (.int i :: .ref a :: st) nx h Q := by
  intro p l e R s m args below meth c D cA b z H locs Qm la C hX hll hw hS hend
  obtain ⟨hx, hb, hml, hown, hini, hts, hnw, hao, hK, hz, hR⟩ := id C
  obtain ⟨hsz, hnx, hP⟩ := id hw
  have he : (zW cA b z nx h)[a]? = some (z + a, .inl (cA (2 + t), n, .inr (.inr (.inr (.inr (fun k => zQ b z (h a k))))))) := by rw [zW_get ha, zE_arr hs]
  have K := kk p l e R s m args below meth c D cA b z H locs Qm la C hX hll hw hS hend
  show W p l e R s m args below meth c H locs _ _ Qm (F0 m pc la (.int i :: zV b z (.ref a) :: st.map (zV b z)))
  rw [zV_ref ha hnx]
  have K2 : W p l e R s m args below meth c H locs (nx - n0) (zN nx - zN n0) Qm (F0 m (pc + 1) la (va_rf (zQ b z (h a i.toNatClampNeg)) :: st.map (zV b z))) := by
    rw [zQ_rf hv, hv]
    exact K
  obtain ⟨E, hE⟩ : ∃ E, (zT cA)[2 + t]? = some (cA (2 + t), .object E) := by
    rcases (show t = 0 ∨ t = 1 ∨ t = 2 by omega) with rfl | rfl | rfl <;> exact ⟨_, rfl⟩
  exact va_aldq hx hb hK hP a (2 + t) he hE hin hd K2
theorem z_num_set {g : Nat → Value} {j : Nat} {x : Int32} : upd (fun k => zI (g k)) j x = fun k => zI (va_up g j (.int x) k) := by
  funext k
  by_cases hk : k = j <;> simp [upd, va_up, hk, zI]
theorem j_iast {a n : Nat} {i x : Int32} (hd : decode (zMb M) pc = .ok (.iastore, 1)) (hs : zS a = (10, n)) (ha : a < nx) (hin : vp_in i n) (kk : zJ X M n0 (pc + 1) ls st nx (va_up h a (va_up (h a) i.toNatClampNeg (.int x))) Q) : zJ X M n0 pc ls (.int x :: .int i :: .ref a :: st) nx h Q := by
  intro p l e R s m args below meth c D cA b z H locs Qm la C hX hll hw hS hend
  obtain ⟨hx, hb, hml, hown, hini, hts, hnw, hao, hK, hz, hR⟩ := id C
  obtain ⟨hsz, hnx, hP⟩ := id hw
  have he : (zW cA b z nx h)[a]? = some (z + a, .inl (cA 0, n, .inl (fun k => zI (h a k)))) := by rw [zW_get ha, zE_num (t := 0) hs (by omega)]
  have ht : (zT cA)[0]? = some (cA 0, .int) := rfl
  show W p l e R s m args below meth c H locs _ _ Qm (F0 m pc la (.int x :: .int i :: zV b z (.ref a) :: st.map (zV b z)))
  rw [zV_ref ha hnx]
  refine W.iast hx hb (hP a _ he) ((hK.2 0 _ ht).1 n (fun j => .int (zI (h a j)))) (fun q => by cases q) (by show ¬ (i < 0 ∨ (arrV _ _ _).slots.size ≤ _); rw [arrV_size]; exact hin) rfl rfl hd fun H1 e1 z1 oq => ?_
  refine kk p l e R s m args below meth c D cA b z H1 _ Qm la C hX hll ⟨by rw [z1]; exact hsz, hnx, ?_⟩ (hS.put z1 oq (Nat.le_add_right z a)) hend
  rw [← zW_set, zE_num (t := 0) hs (by omega), ← z_num_set]
  refine hP.set zW_D he ?_ oq
  show H1[z + a]? = some (vp_cell _ _)
  rw [e1]
  rw [vp_cell_i, vp_cell_i, arrV_store]
  congr 2
  funext q
  by_cases hq : q = i.toNatClampNeg
  · subst hq
    simp [updV, upd]
  · simp [updV, upd, hq]
theorem j_cast {a n : Nat} {i x : Int32} (hd : decode (zMb M) pc = .ok (.castore, 1)) (hs : zS a = (11, n)) (ha : a < nx) (hin : vp_in i n) (hv : zOk .char (.int x) = true) (kk : zJ X M n0 (pc + 1) ls st nx (va_up h a (va_up (h a) i.toNatClampNeg (.int x))) Q) : zJ X M n0 pc ls (.int x :: .int i :: .ref a :: st) nx h Q := by
  intro p l e R s m args below meth c D cA b z H locs Qm la C hX hll hw hS hend
  obtain ⟨hx, hb, hml, hown, hini, hts, hnw, hao, hK, hz, hR⟩ := id C
  obtain ⟨hsz, hnx, hP⟩ := id hw
  have he : (zW cA b z nx h)[a]? = some (z + a, .inl (cA 1, n, .inl (fun k => zI (h a k)))) := by rw [zW_get ha, zE_num (t := 1) hs (by omega)]
  have ht : (zT cA)[1]? = some (cA 1, .char) := rfl
  have hnr : narrow .char (.int x) = .int x := (zOk_spec (b := 0) (z := 0) hv).1
  show W p l e R s m args below meth c H locs _ _ Qm (F0 m pc la (.int x :: .int i :: zV b z (.ref a) :: st.map (zV b z)))
  rw [zV_ref ha hnx]
  refine W.cast hx hb (hP a _ he) ((hK.2 1 _ ht).1 n (fun j => .int (zI (h a j)))) (fun q => by cases q) (by show ¬ (i < 0 ∨ (arrV _ _ _).slots.size ≤ _); rw [arrV_size]; exact hin) rfl rfl hd fun H1 e1 z1 oq => ?_
  refine kk p l e R s m args below meth c D cA b z H1 _ Qm la C hX hll ⟨by rw [z1]; exact hsz, hnx, ?_⟩ (hS.put z1 oq (Nat.le_add_right z a)) hend
  rw [← zW_set, zE_num (t := 1) hs (by omega), ← z_num_set]
  refine hP.set zW_D he ?_ oq
  show H1[z + a]? = some (vp_cell _ _)
  rw [e1]
  rw [vp_cell_i, vp_cell_i, arrV_store, hnr]
  congr 2
  funext q
  by_cases hq : q = i.toNatClampNeg
  · subst hq
    simp [updV, upd]
  · simp [updV, upd, hq]
theorem z_ref_set {b z : Nat} {g : Nat → Value} {j v : Nat} : va_up (fun k => zQ b z (g k)) j (zQ b z (.ref v)) = fun k => zQ b z (va_up g j (.ref v) k) := by
  funext k
  by_cases hk : k = j <;> simp [va_up, hk]
set_option maxHeartbeats 1000000 in
theorem j_aast {a n t v : Nat} {i : Int32} (hd : decode (zMb M) pc = .ok (.aastore, 1)) (hs : zS a = (12 + t, n)) (ht3 : t < 3) (ha : a < nx) (hin : vp_in i n) (hvs : (zS v).1 = t) (hvn : v < nx) (kk : zJ X M n0 (pc + 1) ls st nx (va_up h a (va_up (h a) i.toNatClampNeg (.ref v))) Q) : zJ X M n0 pc ls (.ref v :: .int i :: .ref a :: st) nx h Q := by
  intro p l e R s m args below meth c D cA b z H locs Qm la C hX hll hw hS hend
  obtain ⟨hx, hb, hml, hown, hini, hts, hnw, hao, hK, hz, hR⟩ := id C
  obtain ⟨hsz, hnx, hP⟩ := id hw
  have he : (zW cA b z nx h)[a]? = some (z + a, .inl (cA (2 + t), n, .inr (.inr (.inr (.inr (fun k => zQ b z (h a k))))))) := by rw [zW_get ha, zE_arr hs]
  have hev : (zW cA b z nx h)[v]? = some (z + v, .inr (t, (List.range (zF t)).map (fun k => zV b z (h v k)))) := by rw [zW_get hvn, zE_obj hvs (by omega)]
  obtain ⟨r, hc, hE⟩ : ∃ r : vw_C, vwCl[t]? = some r ∧ (zT cA)[2 + t]? = some (cA (2 + t), .object r.1) := by
    rcases (show t = 0 ∨ t = 1 ∨ t = 2 by omega) with rfl | rfl | rfl <;> exact ⟨_, rfl, rfl⟩
  show W p l e R s m args below meth c H locs _ _ Qm (F0 m pc la (zV b z (.ref v) :: .int i :: zV b z (.ref a) :: st.map (zV b z)))
  rw [zV_ref ha hnx, zV_ref hvn hnx]
  have hlt : i.toNatClampNeg < n := Nat.not_le.mp fun q => hin (Or.inr q)
  have h0 : ¬ i < 0 := fun q => hin (Or.inl q)
  obtain ⟨r', hr', cellV, g1, g2, g3, -⟩ := hP v _ hev
  have hcls := (hK.1 t r hc).2
  obtain ⟨kA, comp, k1, k2, k3, -⟩ := (hK.2 (2 + t) _ hE).2
  have hcomp : comp = D.1 t := Option.some.inj (k3.symm.trans hcls.1)
  subst hcomp
  obtain ⟨kC, hkC, -⟩ := hcls.2
  refine W.aast hx hb (hP a _ he) (fun q h => by cases h) (fun h => by cases h) k1 k2 rfl hkC ⟨h0, by show _ < (arrV _ _ _).slots.size; rw [arrV_size]; exact hlt⟩ g1 (fun q h => by rw [g3] at h; cases h) (by rw [g2]; exact hkC) (by rw [g2]; exact va_assign hcls) rfl rfl hd fun H1 e1 z1 oq => ?_
  refine kk p l e R s m args below meth c D cA b z H1 _ Qm la C hX hll ⟨by rw [z1]; exact hsz, hnx, ?_⟩ (hS.put z1 oq (Nat.le_add_right z a)) hend
  rw [← zW_set, zE_arr hs, ← z_ref_set]
  refine hP.set zW_D he ?_ oq
  show H1[z + a]? = some (vp_cell _ _)
  rw [e1]
  rw [vp_cell_q, vp_cell_q, arrV_store]
  have hv1 : zQ b z (.ref v) = some (z + v) := by
    have h9 : ¬ v = 1000 := by omega
    simp [zQ, h9]
  rw [hv1]
  congr 2
  funext q
  by_cases hq : q = i.toNatClampNeg
  · subst hq
    simp [updV, va_up, va_rf]
  · simp [updV, va_up, hq]
theorem j_alen {a n t : Nat} {v : Int32} (hd : decode (zMb M) pc = .ok (.arraylength, 1)) (hs : zS a = (10 + t, n)) (ht : t < 5) (ha : a < nx) (hv : Int32.ofNat n = v) (kk : zJ X M n0 (pc + 1) ls (.int v :: st) nx h Q) : zJ X M n0 pc ls (.ref a :: st) nx h Q := by
  intro p l e R s m args below meth c D cA b z H locs Qm la C hX hll hw hS hend
  obtain ⟨hx, hb, hml, hown, hini, hts, hnw, hao, hK, hz, hR⟩ := id C
  obtain ⟨hsz, hnx, hP⟩ := id hw
  have he : ∃ x : vp_A, x.1 = n ∧ (zW cA b z nx h)[a]? = some (z + a, .inl (cA t, x)) := by
    by_cases h2 : t < 2
    · exact ⟨_, rfl, by rw [zW_get ha, zE_num hs h2]⟩
    · obtain ⟨u, rfl⟩ : ∃ u, t = 2 + u := ⟨t - 2, by omega⟩
      exact ⟨_, rfl, by rw [zW_get ha, zE_arr (t := u) (by rw [hs]; congr 1; omega)]⟩
  obtain ⟨x, hx1, he⟩ := he
  obtain ⟨ty, hE⟩ : ∃ ty, (zT cA)[t]? = some (cA t, ty) := by
    rcases (show t = 0 ∨ t = 1 ∨ t = 2 ∨ t = 3 ∨ t = 4 by omega) with rfl | rfl | rfl | rfl | rfl <;> exact ⟨_, rfl⟩
  show W p l e R s m args below meth c H locs _ _ Qm (F0 m pc la (zV b z (.ref a) :: st.map (zV b z)))
  rw [zV_ref ha hnx]
  exact va_alen hx hb hK hP a t he hE (by rw [hx1]; exact hv) hd (kk p l e R s m args below meth c D cA b z H locs Qm la C hX hll hw hS hend)
end ZW
end
section
-- what is new, and calls
/-- an object at its start: its class's default values -/
def zB (ci k : Nat) : Value := if (ci = 0 ∧ (k < 5 ∨ k = 9)) ∨ (ci = 3 ∧ k < 2) ∨ (ci = 4 ∧ (k < 2 ∨ k = 3 ∨ k = 4)) ∨ (ci = 5 ∧ (k < 4 ∨ k = 6 ∨ k = 14)) then .null else .int 0
theorem zB_V {b z ci k : Nat} : zV b z (zB ci k) = zB ci k := by
  unfold zB
  split <;> rfl
theorem zN_mono {a b : Nat} (h : a ≤ b) : zN a ≤ zN b := by
  induction h with
  | refl => exact Nat.le_refl _
  | step _ ih => exact Nat.le_trans ih (Nat.le_add_right _ _)
section ZC
variable {X : Nat × (Nat → Int32)} {M : zM} {n0 pc : Nat} {ls st : List Value} {nx : Nat} {h : zH} {Q : zQt}
/-- a class's link, of which objects are made (with its default values) -/
def zLK (own : String) (idx ci : Nat) : Prop := ∃ (C : String) (T : u_T) (N : Nat) (ty0 : Nat → FieldType), vwCl[ci]? = some (C, T, N) ∧ ci < 10 ∧ N = zF ci ∧
  Cond.classLink own idx C ∈ zWd ∧ Cond.instantiable C N ∈ zWd ∧ Cond.initialized C ∈ zWd ∧ (∀ w ∈ u_ws C T N, w ∈ zWd) ∧ (∀ k, k < N → parseFieldDescriptor (T k).2.2.1 = some (ty0 k)) ∧ ∀ k, k < N → defaultValue (ty0 k) = zB ci k
set_option maxHeartbeats 1000000 in
theorem j_new {ci idx : Nat} (hd : decode (zMb M) pc = .ok (.new idx, 3)) (hl : zLK (zMo M) idx ci) (hs : (zS nx).1 = ci) (hnx1 : nx < 1000) (h0 : n0 ≤ nx) (hf1 : nx + 1 - n0 ≤ zMc M) (hf2 : zN (nx + 1) - zN n0 ≤ zMs M) (kk : zJ X M n0 (pc + 3) ls (.ref nx :: st) (nx + 1) (va_up h nx (zB ci)) Q) : zJ X M n0 pc ls st nx h Q := by
  intro p l e R s m args below meth c D cA b z H locs Qm la C hX hll hw hS hend
  obtain ⟨CC, T, N, ty0, hc, hci, hN, hcl, hinst, hini0, hin, hty, hdf⟩ := hl
  obtain ⟨hx, hb, hml, hown, hini, hts, hnw, hao, hK, hz, hR⟩ := id C
  obtain ⟨hsz, hnx, hP⟩ := id hw
  have hKn := hK.1 ci _ hc
  have hzz : zZ nx = N := by
    unfold zZ
    rw [hs, if_pos hci, hN]
  have hm := zN_mono h0
  have e1 : nx - n0 + 1 = nx + 1 - n0 := by omega
  have e2 : zN nx - zN n0 + N = zN (nx + 1) - zN n0 := by
    show _ = zN nx + zZ nx - zN n0
    omega
  refine W.newcK hx hb hown (hts _ hcl) (hts _ hinst) (hts _ hini0) rfl hd (by rw [e1]; exact Nat.le_trans hf1 hR.2.2.1) (by rw [e2]; exact Nat.le_trans hf2 hR.2.2.2) hKn.2.1 hsz fun H1 kC hkC g1 z1 o1 => ?_
  refine W.cs e1 e2 ?_
  have hr : zV b z (.ref nx) = .ref (z + nx) := zV_ref (nx := nx + 1) (by omega) (by omega)
  have K := kk p l e R s m args below meth c D cA b z H1 locs Qm la C hX hll ⟨z1, by omega, ?_⟩ ⟨Nat.le_trans hS.1 (by omega), fun x h1 h2 => (o1 x (by have := hS.1; omega)).trans (hS.2.1 x h1 h2), hS.2.2⟩ hend
  · have K : W p l e R s m args below meth c H1 locs _ _ Qm (F0 m (pc + 3) la (zV b z (.ref nx) :: st.map (zV b z))) := K
    rw [hr] at K
    exact K
  · rw [← zW_push]
    refine (hP.kept (fun k x hx => o1 x.1 ?_)).app (fun k x hx => ?_)
    · have := (hP k x hx).lt
      omega
    · have hz : k < 1 := (List.getElem?_eq_some_iff.mp hx).1
      rw [show k = 0 by omega] at hx
      cases hx
      show va_at D vwCl (z + nx, zE cA b z nx (zB ci)) H1
      rw [zE_obj hs hci]
      refine ⟨_, hc, (u_born ty0 hts hin hKn hkC g1 hty).to (fun j hj => ?_)⟩
      have h9 := z_fs (b := b) (z := z) (n := zF ci) (k := j) (g := zB ci) (by rw [← hN]; exact hj)
      unfold vp_V
      rw [List.getD_eq_getElem?_getD, h9, zB_V]
      exact hdf j hj
theorem zT_num {cA : Nat → ClassId} {s : State} {D : va_G} (hK : va_K D vwCl (zT cA) s) {t : Nat} {ty : FieldType} (h : (zT cA)[t]? = some (cA t, ty)) (hp : ty = .int ∨ ty = .char) : s.vm.findClass ("[" ++ ty.toString) = some (cA t) := by
  have h1 := (hK.2 t _ h).2
  rcases hp with rfl | rfl <;> exact h1
set_option maxHeartbeats 1000000 in
theorem j_newa {at0 : ArrayType} {t n : Nat} {i : Int32} (hd : decode (zMb M) pc = .ok (.newarray at0, 2)) (hat : (at0 = .int ∧ t = 0) ∨ (at0 = .char ∧ t = 1)) (hl : Cond.arrayClass (newarray.typeOf at0) ∈ zWd) (hs : zS nx = (10 + t, n)) (hn1 : ¬ i < 0) (hn2 : i.toNatClampNeg = n) (hn3 : n ≤ 1000) (hnx1 : nx < 1000) (h0 : n0 ≤ nx) (hf1 : nx + 1 - n0 ≤ zMc M) (hf2 : zN (nx + 1) - zN n0 ≤ zMs M) (kk : zJ X M n0 (pc + 2) ls (.ref nx :: st) (nx + 1) (va_up h nx (fun _ => .int 0)) Q) : zJ X M n0 pc ls (.int i :: st) nx h Q := by
  intro p l e R s m args below meth c D cA b z H locs Qm la C hX hll hw hS hend
  obtain ⟨hx, hb, hml, hown, hini, hts, hnw, hao, hK, hz, hR⟩ := id C
  obtain ⟨hsz, hnx, hP⟩ := id hw
  have ht2 : t < 2 := by rcases hat with ⟨-, rfl⟩ | ⟨-, rfl⟩ <;> omega
  have hzz : zZ nx = n := by
    unfold zZ
    rw [hs, if_neg (by show ¬ 10 + t < 10; omega)]
  have hm := zN_mono h0
  have e1 : nx - n0 + 1 = nx + 1 - n0 := by omega
  have e2 : zN nx - zN n0 + n = zN (nx + 1) - zN n0 := by
    show _ = zN nx + zZ nx - zN n0
    omega
  refine va_newaK hx hb (hts _ hl) rfl hd rfl hn1 hn2 (by rcases hat with ⟨rfl, -⟩ | ⟨rfl, -⟩ <;> simp [newarray.typeOf, componentBytes] <;> omega) (by rw [e1]; exact Nat.le_trans hf1 hR.2.2.1) (by rw [e2]; exact Nat.le_trans hf2 hR.2.2.2) hsz fun H1 cB g1 z1 o1 hAr hNm => ?_
  refine W.cs e1 e2 ?_
  have hr : zV b z (.ref nx) = .ref (z + nx) := zV_ref (nx := nx + 1) (by omega) (by omega)
  have hcB : cB = cA t := by
    rcases hat with ⟨rfl, rfl⟩ | ⟨rfl, rfl⟩
    · exact Option.some.inj (hNm.symm.trans (zT_num hK (t := 0) (ty := .int) rfl (Or.inl rfl)))
    · exact Option.some.inj (hNm.symm.trans (zT_num hK (t := 1) (ty := .char) rfl (Or.inr rfl)))
  have K := kk p l e R s m args below meth c D cA b z H1 locs Qm la C hX hll ⟨z1, by omega, ?_⟩ ⟨Nat.le_trans hS.1 (by omega), fun x h1 h2 => (o1 x (by have := hS.1; omega)).trans (hS.2.1 x h1 h2), hS.2.2⟩ hend
  · have K : W p l e R s m args below meth c H1 locs _ _ Qm (F0 m (pc + 2) la (zV b z (.ref nx) :: st.map (zV b z))) := K
    rw [hr] at K
    exact K
  · rw [← zW_push]
    refine (hP.kept (fun k x hx => o1 x.1 ?_)).app (fun k x hx => ?_)
    · have := (hP k x hx).lt
      omega
    · have hz : k < 1 := (List.getElem?_eq_some_iff.mp hx).1
      rw [show k = 0 by omega] at hx
      cases hx
      show va_at D vwCl (z + nx, zE cA b z nx (fun _ => .int 0)) H1
      rw [zE_num hs ht2]
      show H1[z + nx]? = some (vp_cell _ _)
      rw [vp_cell_i, g1, hcB]
      congr 2
      funext q
      rcases hat with ⟨rfl, -⟩ | ⟨rfl, -⟩ <;> rfl
set_option maxHeartbeats 1000000 in
theorem j_anew {idx t n : Nat} {i : Int32} (hd : decode (zMb M) pc = .ok (.anewarray idx, 3)) (ht3 : t < 3) (hl : ∀ r : vw_C, vwCl[t]? = some r → Cond.classLink (zMo M) idx r.1 ∈ zWd) (hs : zS nx = (12 + t, n)) (hn1 : ¬ i < 0) (hn2 : i.toNatClampNeg = n) (hn3 : n ≤ 1000) (hnx1 : nx < 1000) (h0 : n0 ≤ nx) (hf1 : nx + 1 - n0 ≤ zMc M) (hf2 : zN (nx + 1) - zN n0 ≤ zMs M) (kk : zJ X M n0 (pc + 3) ls (.ref nx :: st) (nx + 1) (va_up h nx (fun _ => .null)) Q) : zJ X M n0 pc ls (.int i :: st) nx h Q := by
  intro p l e R s m args below meth c D cA b z H locs Qm la C hX hll hw hS hend
  obtain ⟨hx, hb, hml, hown, hini, hts, hnw, hao, hK, hz, hR⟩ := id C
  obtain ⟨hsz, hnx, hP⟩ := id hw
  subst hn2
  have hzz : zZ nx = i.toNatClampNeg := by
    unfold zZ
    rw [hs, if_neg (by show ¬ 12 + t < 10; omega)]
  have hm := zN_mono h0
  have e1 : nx - n0 + 1 = nx + 1 - n0 := by omega
  have e2 : zN nx - zN n0 + i.toNatClampNeg = zN (nx + 1) - zN n0 := by
    show _ = zN nx + zZ nx - zN n0
    omega
  obtain ⟨r, hc, hE, hA⟩ : ∃ r : vw_C, vwCl[t]? = some r ∧ (zT cA)[2 + t]? = some (cA (2 + t), .object r.1) ∧ r.1 ∈ zAo := by
    rcases (show t = 0 ∨ t = 1 ∨ t = 2 by omega) with rfl | rfl | rfl
    · exact ⟨_, rfl, rfl, List.mem_cons_self⟩
    · exact ⟨_, rfl, rfl, List.mem_cons_of_mem _ List.mem_cons_self⟩
    · exact ⟨_, rfl, rfl, List.mem_cons_of_mem _ (List.mem_cons_of_mem _ List.mem_cons_self)⟩
  refine W.anew hx hb hown (hts _ (hl r hc)) (va_AO.use (hao _ hA)) rfl hd rfl hn1 (by omega) (by rw [e1]; exact Nat.le_trans hf1 hR.2.2.1) (by rw [e2]; exact Nat.le_trans hf2 hR.2.2.2) fun cB kB comp f1 f2 f3 f4 => ?_
  generalize hH1 : H.push ({ cls := cB, slots := Array.replicate i.toNatClampNeg .null, vm := .none } : Cell) = H1
  have z1 : H1.size = H.size + 1 := by rw [← hH1, Array.size_push]
  have g1 : H1[H.size]? = some (arrV cB i.toNatClampNeg (fun _ => .null)) := by rw [← hH1, Array.getElem?_push_size, ← arrV_new]
  have o1 : ∀ q : Nat, q < H.size → H1[q]? = H[q]? := fun q hq => by rw [← hH1, Array.getElem?_push, if_neg (Nat.ne_of_lt hq)]
  refine W.cs e1 e2 ?_
  have hr : zV b z (.ref nx) = .ref H.size := by rw [hsz]; exact zV_ref (nx := nx + 1) (by omega) (by omega)
  have hcB : cB = cA (2 + t) := by
    obtain ⟨kA, comp2, k1, k2, k3, k4⟩ := (hK.2 (2 + t) _ hE).2
    exact Option.some.inj (f1.symm.trans k4)
  have K := kk p l e R s m args below meth c D cA b z H1 locs Qm la C hX hll ⟨by rw [z1, hsz]; rfl, by omega, ?_⟩ ⟨Nat.le_trans hS.1 (by omega), fun x h1 h2 => (o1 x (by have := hS.1; omega)).trans (hS.2.1 x h1 h2), hS.2.2⟩ hend
  · have K : W p l e R s m args below meth c H1 locs _ _ Qm (F0 m (pc + 3) la (zV b z (.ref nx) :: st.map (zV b z))) := K
    rw [hr] at K
    exact K
  · rw [← zW_push]
    refine (hP.kept (fun k x hx => o1 x.1 ?_)).app (fun k x hx => ?_)
    · exact (hP k x hx).lt
    · have hz : k < 1 := (List.getElem?_eq_some_iff.mp hx).1
      rw [show k = 0 by omega] at hx
      cases hx
      show va_at D vwCl (z + nx, zE cA b z nx (fun _ => .null)) H1
      rw [zE_arr hs]
      show H1[z + nx]? = some (vp_cell _ _)
      rw [vp_cell_q, ← hsz, g1, hcB]
      rfl
/-- java.lang.Object's constructor -/
theorem j_objInit {idx a : Nat} (hd : decode (zMb M) pc = .ok (.invokespecial idx, 3)) (hl : Cond.methodLink (zMo M) idx Lib.objectInit ∈ zWd) (hi : Cond.instanceMethod Lib.objectInit ∈ zWd) (hcd : Cond.code Lib.objectInit ⟨#[0xb1]⟩ 1 none ∈ zWd) (hh : 1 ≤ zMh M) (hst : ((st.map (zV 0 0)).map fun v => v.category).sum ≤ 8) (kk : zJ X M n0 (pc + 3) ls st nx h Q) : zJ X M n0 pc ls (.ref a :: st) nx h Q := by
  intro p l e R s m args below meth c D cA b z H locs Qm la C hX hll hw hS hend
  obtain ⟨hx, hb, hml, hown, hini, hts, hnw, hao, hK, hz, hR⟩ := id C
  have hsum : ((st.map (zV b z)).map fun v => v.category) = ((st.map (zV 0 0)).map fun v => v.category) := by
    rw [List.map_map, List.map_map]
    apply List.map_congr_left
    intro v _
    cases v <;> rfl
  exact W.objInit hx hb hown (hts _ hl) (hts _ hi) (hts _ hcd) rfl (by rw [hml]; exact hll.1) rfl hd (by omega) (by show 2 * 0 + _ + 12 ≤ _; rw [hsum]; omega) (kk p l e R s m args below meth c D cA b z H locs Qm la C hX hll hw hS hend)
theorem z_sum {b z : Nat} (st : List Value) : ((st.map (zV b z)).map fun v => v.category) = st.map fun v => v.category := by
  rw [List.map_map]
  apply List.map_congr_left
  intro v _
  cases v <;> rfl
theorem j_mmin {idx : Nat} {x y : Int32} (hd : decode (zMb M) pc = .ok (.invokestatic idx, 3)) (h1 : Cond.methodLink (zMo M) idx Lib.Math.min.name ∈ zWd) (h2 : Cond.static Lib.Math.min.name ∈ zWd) (h3 : Cond.initialized "java/lang/Math" ∈ zWd) (h4 : Cond.code Lib.Math.min.name Lib.Math.min.code 2 (some .int) ∈ zWd) (hh : 1 ≤ zMh M) (hst : (st.map fun v => v.category).sum ≤ 8) (h0 : n0 ≤ nx) (hf1 : nx - n0 ≤ zMc M) (hf2 : zN nx - zN n0 ≤ zMs M) (kk : zJ X M n0 (pc + 3) ls (.int (if y < x then y else x) :: st) nx h Q) : zJ X M n0 pc ls (.int y :: .int x :: st) nx h Q := by
  intro p l e R s m args below meth c D cA b z H locs Qm la C hX hll hw hS hend
  obtain ⟨hx, hb, hml, hown, hini, hts, hnw, hao, hK, hz, hR⟩ := id C
  exact va_mmin hx hb (by rw [hml]; exact hll.1.symm) hown (hts _ h1) (hts _ h2) (hts _ h3) (hts _ h4) (by omega) (by rw [z_sum]; omega) (Nat.le_trans hf1 hR.2.2.1) (Nat.le_trans hf2 hR.2.2.2) hd (kk p l e R s m args below meth c D cA b z H locs Qm la C hX hll hw hS hend)
theorem j_mmax {idx : Nat} {x y : Int32} (hd : decode (zMb M) pc = .ok (.invokestatic idx, 3)) (h1 : Cond.methodLink (zMo M) idx Lib.Math.max.name ∈ zWd) (h2 : Cond.static Lib.Math.max.name ∈ zWd) (h3 : Cond.initialized "java/lang/Math" ∈ zWd) (h4 : Cond.code Lib.Math.max.name Lib.Math.max.code 2 (some .int) ∈ zWd) (hh : 1 ≤ zMh M) (hst : (st.map fun v => v.category).sum ≤ 8) (h0 : n0 ≤ nx) (hf1 : nx - n0 ≤ zMc M) (hf2 : zN nx - zN n0 ≤ zMs M) (kk : zJ X M n0 (pc + 3) ls (.int (if x < y then y else x) :: st) nx h Q) : zJ X M n0 pc ls (.int y :: .int x :: st) nx h Q := by
  intro p l e R s m args below meth c D cA b z H locs Qm la C hX hll hw hS hend
  obtain ⟨hx, hb, hml, hown, hini, hts, hnw, hao, hK, hz, hR⟩ := id C
  exact va_mmax hx hb (by rw [hml]; exact hll.1.symm) hown (hts _ h1) (hts _ h2) (hts _ h3) (hts _ h4) (by omega) (by rw [z_sum]; omega) (Nat.le_trans hf1 hR.2.2.1) (Nat.le_trans hf2 hR.2.2.2) hd (kk p l e R s m args below meth c D cA b z H locs Qm la C hX hll hw hS hend)
theorem j_f2bits {idx : Nat} {x : UInt32} (hd : decode (zMb M) pc = .ok (.invokestatic idx, 3)) (h1 : Cond.methodLink (zMo M) idx ⟨"java/lang/Float", "floatToRawIntBits", "(F)I"⟩ ∈ zWd) (h2 : Cond.native ⟨"java/lang/Float", "floatToRawIntBits", "(F)I"⟩ ∈ zWd) (h3 : Cond.static ⟨"java/lang/Float", "floatToRawIntBits", "(F)I"⟩ ∈ zWd) (h4 : Cond.initialized "java/lang/Float" ∈ zWd) (hh : 1 ≤ zMh M) (hst : (st.map fun v => v.category).sum ≤ 8) (kk : zJ X M n0 (pc + 3) ls (.int x.toInt32 :: st) nx h Q) : zJ X M n0 pc ls (.float x :: st) nx h Q := by
  intro p l e R s m args below meth c D cA b z H locs Qm la C hX hll hw hS hend
  obtain ⟨hx, hb, hml, hown, hini, hts, hnw, hao, hK, hz, hR⟩ := id C
  exact vn_f2i hx hb (by rw [hml]; exact hll.1.symm) hown (hts _ h1) (hts _ h2) (hts _ h3) (hts _ h4) (by omega) (by rw [z_sum]; omega) hd (kk p l e R s m args below meth c D cA b z H locs Qm la C hX hll hw hS hend)
/-- the script's ints and its length, in the law alone -/
theorem j_sld {i x : Int32} (hd : decode (zMb M) pc = .ok (.iaload, 1)) (hlw : (zMn M).name = "law") (hin : vp_in i X.1) (hv : X.2 i.toNatClampNeg = x) (kk : zJ X M n0 (pc + 1) ls (.int x :: st) nx h Q) : zJ X M n0 pc ls (.int i :: .ref 1000 :: st) nx h Q := by
  intro p l e R s m args below meth c D cA b z H locs Qm la C hX hll hw hS hend
  obtain ⟨hx, hb, hml, hown, hini, hts, hnw, hao, hK, hz, hR⟩ := id C
  subst hv
  obtain ⟨hXX, hbl, hbz⟩ := hX hlw
  exact va_sld hx hb hXX hbl (show ¬ z ≤ b by omega) hS hin hd (kk p l e R s m args below meth c D cA b z H locs Qm la C hX hll hw hS hend)
theorem j_slen (hd : decode (zMb M) pc = .ok (.arraylength, 1)) (hlw : (zMn M).name = "law") (kk : zJ X M n0 (pc + 1) ls (.int (Int32.ofNat X.1) :: st) nx h Q) : zJ X M n0 pc ls (.ref 1000 :: st) nx h Q := by
  intro p l e R s m args below meth c D cA b z H locs Qm la C hX hll hw hS hend
  obtain ⟨hx, hb, hml, hown, hini, hts, hnw, hao, hK, hz, hR⟩ := id C
  obtain ⟨hXX, hbl, hbz⟩ := hX hlw
  exact va_slen hx hb hXX hbl (show ¬ z ≤ b by omega) hS hd (kk p l e R s m args below meth c D cA b z H locs Qm la C hX hll hw hS hend)
/-- a method's contract: from the heap h, with these arguments, it comes to an end of which P says what it answers and what the heap is then -/
def zCT (M : zM) (as : List Value) (nx : Nat) (h : zH) (nx' : Nat) (P : Option Int32 → zH → Prop) : Prop :=
  ∀ (X : Nat × (Nat → Int32)) (Q : zQt), (∀ r h', P r h' → Q r nx' h') → zJ X M nx 0 (as ++ List.replicate (zMl M - as.length) .null) [] nx h Q
theorem zCT.to {M : zM} {as : List Value} {nx nx' : Nat} {h : zH} {P P' : Option Int32 → zH → Prop} (H : zCT M as nx h nx' P) (hP : ∀ r h', P r h' → P' r h') : zCT M as nx h nx' P' := fun X Q hQ => H X Q (fun r h' q => hQ r h' (hP r h' q))
/-- what a program decides of a method -/
def zOm (M : zM) (n : Nat) : Prop := plainFor (zMn M) = true ∧ n ≤ zMl M ∧ zMl M ≤ 11 ∧ (zMn M).name ≠ "law" ∧ Cond.code (zMn M) (zMb M) (zMl M) (zMr M) ∈ zWd ∧ Cond.initialized (zMo M) ∈ zWd ∧ (zMo M ≠ "java/lang/invoke/MethodHandle" ∧ zMo M ≠ "java/lang/invoke/VarHandle")
abbrev zWs (M : zM) : List Cond := Cond.code (zMn M) (zMb M) (zMl M) (zMr M) :: zWd
def zPs (D : va_G) (cA : Nat → ClassId) (b z : Nat) (o : Option FieldType) (nx' : Nat) (P : Option Int32 → zH → Prop) : Array Value → State → Outcome → State → Prop := match o with
  | some _ => va_Qi (fun (y : Int32) (g : zH) => P (some y) g) (fun g t => zR D cA b z nx' g t.heap) (fun q => z ≤ q)
  | none => va_Qv (fun (g : zH) => P none g) (fun g t => zR D cA b z nx' g t.heap) (fun q => z ≤ q)
theorem zMet_of {l : Launch} {y : MethodName} {ws ws' : List Cond} {rm : Room} {Pc : Array Value → State → Prop} {Qc : Array Value → State → Outcome → State → Prop} {mc ms : Nat} {free : Addr → Prop} {cc : ByteArray} {maxL : Nat} {ret : Option FieldType}
    (hy : plainFor y = true) (hw : ws = Cond.code y cc maxL ret :: ws')
    (body : ∀ p e s m args below meth c s₁, BodyLoose p l y (headSpec ws rm) cc maxL ret e s m args below meth c s₁ → c.maxLocals = maxL → Pc args s →
      W p l e (headSpec ws rm).room s m args below meth c s.heap [] 0 0 (MQ below Qc args s mc ms free) (entryFrame m args maxL)) : Met l y ws rm Pc Qc mc ms free := by
  refine MetFree.of_bodySF (code := cc) (maxLocals := maxL) (ret := ret) hy ?_ ?_
  · intro args s m h hn
    obtain ⟨meth, c, h1, h2, h3, h4, h5, h6, -, -⟩ := Cond.code_spec hn (atoms_spec (ws := ws) h _ (by rw [hw]; exact List.mem_cons_self))
    exact ⟨meth, c, h1, h2, h3, h4, h5, h6⟩
  · intro p e s m args below meth c s₁ B hml hP _
    have hh0 : s₁.heap = s.heap := by rw [B.state]; rfl
    obtain ⟨t, a1, o, b1, b2, b3⟩ := body p e s m args below meth c s₁ B hml hP s₁ hh0 (Stand.of_body B)
    exact ⟨t, o, a1, b1, b2, ⟨b3.1, b3.2⟩⟩
theorem z_args {vs : List Value} {i : Nat} {v : Value} (hc : ∀ v ∈ vs, v.category = 1) (h : vs[i]? = some v) : ∀ k : Nat, (k + i, v) ∈ lv_args k vs := by
  induction vs generalizing i with
  | nil => simp at h
  | cons u us ih =>
    intro k
    have hu : u.category = 1 := hc u List.mem_cons_self
    unfold lv_args
    rw [if_neg (by rw [hu]; decide)]
    cases i with
    | zero =>
      simp at h
      subst h
      exact List.mem_cons_self
    | succ j =>
      rw [List.getElem?_cons_succ] at h
      have h1 := ih (fun v hv => hc v (List.mem_cons_of_mem _ hv)) h (k + 1)
      rw [show k + 1 + j = k + (j + 1) by omega] at h1
      exact List.mem_cons_of_mem _ h1
theorem z_entry {b z nL : Nat} {as : List Value} (hc : ∀ v ∈ as, v.category = 1) (hn : as.length ≤ nL) : zL b z nL ((lg_sl (as.map (zV b z)) ++ List.replicate (nL - (lg_sl (as.map (zV b z))).length) Slot.unset).toArray) (as ++ List.replicate (nL - as.length) .null) := by
  have hc2 : ∀ v ∈ as.map (zV b z), v.category = 1 := by
    intro v hv
    obtain ⟨u, hu, rfl⟩ := List.mem_map.mp hv
    exact z_cat1 (hc u hu)
  have hlen : (lg_sl (as.map (zV b z))).length = as.length := by
    have : ∀ vs : List Value, (∀ v ∈ vs, v.category = 1) → (lg_sl vs).length = vs.length := by
      intro vs
      induction vs with
      | nil => intro _; rfl
      | cons u us ih =>
        intro h
        have hu : u.category = 1 := h u List.mem_cons_self
        have h2 := ih (fun v hv => h v (List.mem_cons_of_mem _ hv))
        unfold lg_sl at h2 ⊢
        rw [List.flatMap_cons, List.length_append, h2, if_neg (by rw [hu]; decide)]
        simp
        omega
    rw [this _ hc2, List.length_map]
  have h0 := lv_entry (as.map (zV b z)) (n := nL) (by rw [hlen]; exact hn)
  refine ⟨h0.1, h0.2.1, by simp; omega, fun i v hv hnv => ?_⟩
  by_cases hi : i < as.length
  · rw [List.getElem?_append_left hi] at hv
    have h1 : (as.map (zV b z))[i]? = some (zV b z v) := by rw [List.getElem?_map, hv]; rfl
    have h2 := z_args hc2 h1 0
    rw [Nat.zero_add] at h2
    exact ⟨hc v (List.mem_of_getElem? hv), h0.2.2 _ h2⟩
  · rw [List.getElem?_append_right (by omega)] at hv
    have h1 := List.mem_of_getElem? hv
    exact absurd (List.eq_of_mem_replicate h1) hnv
set_option maxHeartbeats 1000000 in
theorem zMet {M : zM} {as : List Value} {nx nx' : Nat} {h : zH} {P : Option Int32 → zH → Prop} (hO : zOm M as.length) (hc : ∀ v ∈ as, v.category = 1) (hf1 : nx' - nx ≤ zMc M) (hf2 : zN nx' - zN nx ≤ zMs M) (hT : zCT M as nx h nx' P) (l : Launch) (D : va_G) (cA : Nat → ClassId) (b z : Nat) :
    Met l (zMn M) (zWs M) (zRm M) (va_Pc (as.map (zV b z)) (fun U => zR D cA b z nx h U.heap ∧ va_K D vwCl (zT cA) U ∧ (∀ w ∈ zNw, va_Nw w U) ∧ (∀ C ∈ zAo, va_AO C U))) (zPs D cA b z (zMr M) nx' P) (zMc M) (zMs M) (fun q => z ≤ q) := by
  obtain ⟨hpl, hln, hml11, hlaw, hcw, hiw, hnm⟩ := hO
  refine zMet_of (cc := zMb M) (maxL := zMl M) (ret := zMr M) hpl rfl ?_
  intro p e s m args below meth c s₁ B hml hv
  obtain ⟨rfl, hR, hK, hN, hA⟩ := hv
  have hts := atoms_spec (ws := zWs M) B.pre
  have hlocks := B.notSynchronized
  have hrt := B.returns
  rw [lg_entry_eq]
  have hsz := hR.1
  have hC : zCx M p (headSpec (zWs M) (zRm M)).room s m (as.map (zV b z)).toArray meth c D cA z :=
    ⟨B.exec, B.bytes, hml, findClass_of_methodNamed B.named, fun q => by rw [← q]; exact (name_of_methodNamed B.named B.method).1, fun w hw => hts w (List.mem_cons_of_mem _ hw), hN, hA, hK, by omega, Nat.le_refl _, Nat.le_refl _, Nat.le_refl _, Nat.le_refl _⟩
  have K := hT (0, fun _ => 0) (fun v n g => n = nx' ∧ P v g) (fun r h' q => ⟨rfl, q⟩) p l e (headSpec (zWs M) (zRm M)).room s m (as.map (zV b z)).toArray below meth c D cA b z s.heap [] (MQ below (zPs D cA b z (zMr M) nx' P) (as.map (zV b z)).toArray s (zMc M) (zMs M) (fun q => z ≤ q)) _ hC (fun q => absurd q hlaw) (z_entry hc hln) hR va_S.rf ?_
  · exact W.cs (Nat.sub_self nx).symm (Nat.sub_self _).symm K
  · rintro v n g H' locs' pc' la' ⟨rfl, hPv⟩ hret hR' hS'
    refine W.widen hf1 hf2 ?_
    cases v with
    | none =>
      obtain ⟨hd, hr2⟩ := hret
      have e9 : zPs D cA b z (zMr M) n P = zPs D cA b z none n P := by rw [hr2]
      rw [e9]
      exact W.vret B.exec B.bytes (hrt.trans hr2) (fun t ht hW => ⟨⟨g, rfl, hPv, by show zR D cA b z n g t.heap; rw [ht]; exact hR'⟩, hS'.F ht⟩) hS'.2.2 hd
    | some x =>
      obtain ⟨hd, ty, hr2, hnr⟩ := hret
      have e9 : zPs D cA b z (zMr M) n P = zPs D cA b z (some ty) n P := by rw [hr2]
      rw [e9]
      exact W.zret (v := x) B.exec B.bytes (hrt.trans hr2) hnr (fun t ht hW => ⟨⟨x, g, rfl, hPv, by show zR D cA b z n g t.heap; rw [ht]; exact hR'⟩, hS'.F ht⟩) hS'.2.2 hd
theorem z_good {w : Cond} (h : w ∈ zWd) : w ∈ zWd ∧ ((w.onTables && w.keeps) = true ∨ ∃ ty, w = .arrayClass ty) := ⟨h, good_of_word (List.mem_filter.mp h).2⟩
theorem z_goodWs {M' : zM} (h : Cond.code (zMn M') (zMb M') (zMl M') (zMr M') ∈ zWd) : GoodIn zWd (zWs M') := fun w hw => by
  rcases List.mem_cons.mp hw with rfl | hw
  · exact z_good h
  · exact z_good hw
theorem zNw_warm {w : Cond} {s U : State} (h : w ∈ zNw) (hW : s.WarmedH U.vm) (hZ : va_Nw w s) : va_Nw w U := by
  rcases List.mem_append.mp h with h | h
  · obtain ⟨q, -, rfl⟩ := List.mem_map.mp h
    exact va_Nw.warmF hW hZ
  · obtain ⟨q, -, rfl⟩ := List.mem_map.mp h
    exact va_Nw.warmM hW hZ
theorem zNw_tab {w : Cond} (h : w ∈ zNw) : w.onTables = true := by
  rcases List.mem_append.mp h with h | h
  · obtain ⟨q, -, rfl⟩ := List.mem_map.mp h
    rfl
  · obtain ⟨q, -, rfl⟩ := List.mem_map.mp h
    rfl
theorem z_blind {as : List Value} {D : va_G} {cA : Nat → ClassId} {b z nx : Nat} {h : zH} : FrameBlind (va_Pc as (fun U => zR D cA b z nx h U.heap ∧ va_K D vwCl (zT cA) U ∧ (∀ w ∈ zNw, va_Nw w U) ∧ (∀ C ∈ zAo, va_AO C U))) :=
  fun a U g mk q => ⟨q.1, q.2.1, va_K.moved (u := U) (U := U.calling g mk a) (Vm.Alike.refl U.vm) q.2.2.1, fun w hw => va_Nw.same (u := U) (U := U.calling g mk a) (zNw_tab hw) rfl (q.2.2.2.1 w hw), fun C hC => va_AO.moved (u := U) (U := U.calling g mk a) (Vm.Alike.refl U.vm) (q.2.2.2.2 C hC)⟩
theorem z_pre {as : List Value} {D : va_G} {cA : Nat → ClassId} {b z nx : Nat} {h : zH} {s : State} {H : Heap} (hw : zR D cA b z nx h H) (hK : va_K D vwCl (zT cA) s) (hN : ∀ w ∈ zNw, va_Nw w s) (hA : ∀ C ∈ zAo, va_AO C s) : ∀ U : State, U.heap = H → s.WarmedH U.vm → va_Pc as (fun U => zR D cA b z nx h U.heap ∧ va_K D vwCl (zT cA) U ∧ (∀ w ∈ zNw, va_Nw w U) ∧ (∀ C ∈ zAo, va_AO C U)) as.toArray U :=
  fun U hU hW => ⟨rfl, by rw [hU]; exact hw, va_K.moved hW.alike hK, fun w h => zNw_warm h hW (hN w h), fun C hC => va_AO.moved hW.alike (hA C hC)⟩
/-- a call's end, in the caller -/
theorem z_back {p : Program} {l : Launch} {e : Env} {R : Room} {s : State} {m : MethodId} {args : Array Value} {below : List Frame} {meth : Method} {c : Code} {D : va_G} {cA : Nat → ClassId} {b z : Nat} {H : Heap} {locs : List Loc} {Qm : State → Prop} {la : Array Slot} {M' : zM} {nx' : Nat} {P : Option Int32 → zH → Prop} {mv : List Value} {av : Array Value}
    (he1 : nx' = nx + zMc M') (he2 : zN nx' = zN nx + zMs M') (h0 : n0 ≤ nx)
    (run : va_Run p l e R s m args below meth c H locs (nx - n0) (zN nx - zN n0) (zMc M') (zMs M') (F0 m pc la mv) (st.map (zV b z)) (zPs D cA b z (zMr M') nx' P av) (fun q => z ≤ q))
    (C : zCx M p R s m args meth c D cA z) (hX : (zMn M).name = "law" → va_X b X.1 X.2 s s.heap ∧ b < s.heap.size ∧ b < z) (hll : zL b z (zMl M) la ls) (hS : va_S (fun q => z ≤ q) s.heap H locs)
    (hend : ∀ (v : Option Int32) (nx' : Nat) (h' : zH) (H' : Heap) (locs' : List Loc) (pc' : Nat) (la' : Array Slot), Q v nx' h' → zRet M pc' v → zR D cA b z nx' h' H' → va_S (fun q => z ≤ q) s.heap H' locs' →
      W p l e R s m args below meth c H' locs' (nx' - n0) (zN nx' - zN n0) Qm (F0 m pc' la' ((v.map Value.int).toList)))
    (kk : ∀ r h', r.isSome = (zMr M').isSome → P r h' → zJ X M n0 (pc + 3) ls ((r.map Value.int).toList ++ st) nx' h' Q) : W p l e R s m args below meth c H locs (nx - n0) (zN nx - zN n0) Qm (F0 m pc la mv) := by
  have hm := zN_mono h0
  have e1 : nx - n0 + zMc M' = nx' - n0 := by omega
  have e2 : zN nx - zN n0 + zMs M' = zN nx' - zN n0 := by omega
  cases hr : zMr M' with
  | none =>
    rw [hr] at run
    refine va_callv (a := av) run hS (fun q _ h => h) (fun q h => h) (fun u t H1 locs1 ht hvm hw1 hB hz1 hk1 hS1 => ?_)
    have hB : zR D cA b z nx' u t.heap := hB
    rw [ht] at hB
    exact W.cs e1 e2 (kk none u (by rw [hr]; rfl) hw1 p l e R s m args below meth c D cA b z H1 locs1 Qm la C hX hll hB hS1 hend)
  | some ty =>
    rw [hr] at run
    refine va_calli (a := av) run hS (fun q _ h => h) (fun q h => h) (fun y u t H1 locs1 ht hvm hw1 hB hz1 hk1 hS1 => ?_)
    have hB : zR D cA b z nx' u t.heap := hB
    rw [ht] at hB
    exact W.cs e1 e2 (kk (some y) u (by rw [hr]; rfl) hw1 p l e R s m args below meth c D cA b z H1 locs1 Qm la C hX hll hB hS1 hend)
/-- what a program decides of a call: of the method, its height and room, its parameters -/
def zSc (M M' : zM) (n k : Nat) : Prop := zOm M' k ∧ (parseMethodDescriptor (zMn M').desc).map (fun d => d.parameters.length) = some n ∧ zMh M' + 1 ≤ zMh M
def zSV (M : zM) (idx : Nat) (M' : zM) (n ci : Nat) : Prop := zSc M M' n (n + 1) ∧ Cond.methodLink (zMo M) idx (zMn M') ∈ zWd ∧ Cond.instanceMethod (zMn M') ∈ zWd ∧ Cond.selects (zMo M') (zMn M') (zMn M') ∈ zWd ∧ ci < 10 ∧ ∃ (T : u_T) (N : Nat), vwCl[ci]? = some (zMo M', T, N)
def zSS (M : zM) (idx : Nat) (M' : zM) (n : Nat) : Prop := zSc M M' n n ∧ (Cond.methodLink (zMo M) idx (zMn M') ∈ zWd ∨ ∃ host : String, Cond.methodLinkNest (zMo M) idx (zMn M') host ∈ zNw) ∧ Cond.static (zMn M') ∈ zWd
def zSI (M : zM) (idx : Nat) (M' : zM) (n : Nat) : Prop := zSc M M' n (n + 1) ∧ (Cond.methodLink (zMo M) idx (zMn M') ∈ zWd ∨ ∃ host : String, Cond.methodLinkNest (zMo M) idx (zMn M') host ∈ zNw) ∧ Cond.instanceMethod (zMn M') ∈ zWd ∧ (zMn M').name = "<init>" ∧ zMr M' = none
theorem z_room {M M' : zM} {R : Room} (hh : zMh M' + 1 ≤ zMh M) (hl : zMl M' ≤ 11) (h1 : zMh M ≤ R.frames) (h2 : 30 * zMh M ≤ R.locals) : (zRm M').frames + 1 ≤ R.frames ∧ 8 + (zMl M' + 11) + (zRm M').locals ≤ R.locals := by
  refine ⟨?_, ?_⟩
  · show zMh M' + 1 ≤ R.frames
    omega
  · show 8 + (zMl M' + 11) + 30 * zMh M' ≤ R.locals
    omega
set_option maxHeartbeats 2000000 in
theorem j_callV {M' : zM} {As : List Value} {a idx n ci : Nat} {nx' : Nat} {P : Option Int32 → zH → Prop} (hd : decode (zMb M) pc = .ok (.invokevirtual idx, 3)) (hl : zSV M idx M' n ci) (hT : zCT M' (.ref a :: As) nx h nx' P) (hs : (zS a).1 = ci) (ha : a < nx) (hn : As.length = n) (hcat : ∀ v ∈ As, v.category = 1) (hst : (st.map fun v => v.category).sum ≤ 8) (h0 : n0 ≤ nx) (he1 : nx' = nx + zMc M') (he2 : zN nx' = zN nx + zMs M') (hg1 : nx - n0 + zMc M' ≤ zMc M) (hg2 : zN nx - zN n0 + zMs M' ≤ zMs M)
    (kk : ∀ r h', r.isSome = (zMr M').isSome → P r h' → zJ X M n0 (pc + 3) ls ((r.map Value.int).toList ++ st) nx' h' Q) : zJ X M n0 pc ls (As.reverse ++ .ref a :: st) nx h Q := by
  intro p l e R s m args below meth c D cA b z H locs Qm la C hX hll hw hS hend
  obtain ⟨⟨hO, hpar, hh⟩, hlk, hins, hsel, hci, T, N, hcl⟩ := hl
  obtain ⟨hx, hb, hml, hown, hini, hts, hnw, hao, hK, hz, hR⟩ := id C
  obtain ⟨hsz, hnx, hP⟩ := id hw
  obtain ⟨hpl, hln, hml11, hlaw, hcw, hiw, hnm⟩ := id hO
  subst hn
  have hM := zMet (M := M') (as := .ref a :: As) hO (fun v hv => by
    rcases List.mem_cons.mp hv with rfl | hv
    · rfl
    · exact hcat v hv) (by omega) (by omega) hT l D cA b z
  rw [List.map_cons, zV_ref ha hnx] at hM
  have he : (zW cA b z nx h)[a]? = some (z + a, .inr (ci, (List.range (zF ci)).map (fun k => zV b z (h a k)))) := by rw [zW_get ha, zE_obj hs hci]
  have G : GoodIn zWd (wsV (zMo M) idx (zMo M') (zMn M') (zWs M')) := by
    intro w hw
    rcases List.mem_append.mp hw with hw | hw
    · simp only [List.mem_cons, List.not_mem_nil, or_false] at hw
      rcases hw with rfl | rfl | rfl | rfl
      · exact z_good hlk
      · exact z_good hins
      · exact z_good hsel
      · exact z_good hiw
    · exact z_goodWs hcw w hw
  have run := va_runV (p := p) (l := l) (e := e) (R := R) (s := s) (m := m) (args := args) (below := below) (meth := meth) (c := c) (H := H) (locs := locs) (cells := nx - n0) (slots := zN nx - zN n0) (C := zMo M') (b := z + a) (As := As.map (zV b z)) (rest := st.map (zV b z)) (g := F0 m pc la ((As.reverse ++ .ref a :: st).map (zV b z))) (Ts := zWd) ⟨hx, hb, hml, hown, hts⟩ hM (cwV As.length hts G rfl rfl rfl ⟨rfl, hnm.1, hnm.2, hpar⟩ (z_room hh hml11 hR.1 hR.2.1))
    ⟨z_blind, va_recv hK hP hcl he, z_pre hw hK hnw hao⟩ rfl (by simp) hll.1 (by simp [zV_ref ha hnx]) (by show 2 * 0 + _ ≤ 8; rw [z_sum]; omega) hd ⟨Nat.le_trans hg1 hR.2.2.1, Nat.le_trans hg2 hR.2.2.2⟩
  exact z_back he1 he2 h0 run C hX hll hS hend kk
set_option maxHeartbeats 2000000 in
theorem j_callS {M' : zM} {As : List Value} {idx n : Nat} {nx' : Nat} {P : Option Int32 → zH → Prop} (hd : decode (zMb M) pc = .ok (.invokestatic idx, 3)) (hl : zSS M idx M' n) (hT : zCT M' As nx h nx' P) (hn : As.length = n) (hcat : ∀ v ∈ As, v.category = 1) (hst : (st.map fun v => v.category).sum ≤ 8) (h0 : n0 ≤ nx) (he1 : nx' = nx + zMc M') (he2 : zN nx' = zN nx + zMs M') (hg1 : nx - n0 + zMc M' ≤ zMc M) (hg2 : zN nx - zN n0 + zMs M' ≤ zMs M)
    (kk : ∀ r h', r.isSome = (zMr M').isSome → P r h' → zJ X M n0 (pc + 3) ls ((r.map Value.int).toList ++ st) nx' h' Q) : zJ X M n0 pc ls (As.reverse ++ st) nx h Q := by
  intro p l e R s m args below meth c D cA b z H locs Qm la C hX hll hw hS hend
  obtain ⟨⟨hO, hpar, hh⟩, hlk, hstt⟩ := hl
  obtain ⟨hx, hb, hml, hown, hini, hts, hnw, hao, hK, hz, hR⟩ := id C
  obtain ⟨hsz, hnx, hP⟩ := id hw
  obtain ⟨hpl, hln, hml11, hlaw, hcw, hiw, hnm⟩ := id hO
  subst hn
  have hM := zMet (M := M') (as := As) hO hcat (by omega) (by omega) hT l D cA b z
  rcases hlk with hlk | ⟨host, hlk⟩
  · have G : GoodIn zWd (va_wsS (zMo M) idx (zMn M') (zWs M')) := by
      intro w hw
      rcases List.mem_append.mp hw with hw | hw
      · simp only [List.mem_cons, List.not_mem_nil, or_false] at hw
        rcases hw with rfl | rfl | rfl
        · exact z_good hlk
        · exact z_good hstt
        · exact z_good hiw
      · exact z_goodWs hcw w hw
    have run := va_runS (p := p) (l := l) (e := e) (R := R) (s := s) (m := m) (args := args) (below := below) (meth := meth) (c := c) (H := H) (locs := locs) (cells := nx - n0) (slots := zN nx - zN n0) (As := As.map (zV b z)) (rest := st.map (zV b z)) (g := F0 m pc la ((As.reverse ++ st).map (zV b z))) (Ts := zWd) ⟨hx, hb, hml, hown, hts⟩ hM (va_cwS As.length hts G rfl rfl rfl ⟨hnm.1, hnm.2, hpar⟩ (z_room hh hml11 hR.1 hR.2.1))
      ⟨z_blind, z_pre hw hK hnw hao⟩ rfl (by simp) hll.1 (by simp) (by show 2 * 0 + _ ≤ 8; rw [z_sum]; omega) hd ⟨Nat.le_trans hg1 hR.2.2.1, Nat.le_trans hg2 hR.2.2.2⟩
    exact z_back he1 he2 h0 run C hX hll hS hend kk
  · have run := va_runSN (p := p) (l := l) (e := e) (R := R) (s := s) (m := m) (args := args) (below := below) (meth := meth) (c := c) (H := H) (locs := locs) (cells := nx - n0) (slots := zN nx - zN n0) (As := As.map (zV b z)) (rest := st.map (zV b z)) (g := F0 m pc la ((As.reverse ++ st).map (zV b z))) (Ts := zWd) ⟨hx, hb, hml, hown, hts⟩ hM ⟨va_cnB As.length hts (z_goodWs hcw) rfl rfl rfl (hnw _ hlk) (hts _ hiw) ⟨hnm.1, hnm.2, hpar⟩ (z_room hh hml11 hR.1 hR.2.1), hts _ hstt, trivial⟩
      ⟨z_blind, z_pre hw hK hnw hao⟩ rfl (by simp) hll.1 (by simp) (by show 2 * 0 + _ ≤ 8; rw [z_sum]; omega) hd ⟨Nat.le_trans hg1 hR.2.2.1, Nat.le_trans hg2 hR.2.2.2⟩
    exact z_back he1 he2 h0 run C hX hll hS hend kk
set_option maxHeartbeats 2000000 in
theorem j_callI {M' : zM} {As : List Value} {a idx n : Nat} {nx' : Nat} {P : Option Int32 → zH → Prop} (hd : decode (zMb M) pc = .ok (.invokespecial idx, 3)) (hl : zSI M idx M' n) (hT : zCT M' (.ref a :: As) nx h nx' P) (ha : a < nx) (hn : As.length = n) (hcat : ∀ v ∈ As, v.category = 1) (hst : (st.map fun v => v.category).sum ≤ 8) (h0 : n0 ≤ nx) (he1 : nx' = nx + zMc M') (he2 : zN nx' = zN nx + zMs M') (hg1 : nx - n0 + zMc M' ≤ zMc M) (hg2 : zN nx - zN n0 + zMs M' ≤ zMs M)
    (kk : ∀ h', P none h' → zJ X M n0 (pc + 3) ls st nx' h' Q) : zJ X M n0 pc ls (As.reverse ++ .ref a :: st) nx h Q := by
  intro p l e R s m args below meth c D cA b z H locs Qm la C hX hll hw hS hend
  obtain ⟨⟨hO, hpar, hh⟩, hlk, hins, hnn, hrn⟩ := hl
  obtain ⟨hx, hb, hml, hown, hini, hts, hnw, hao, hK, hz, hR⟩ := id C
  obtain ⟨hsz, hnx, hP⟩ := id hw
  obtain ⟨hpl, hln, hml11, hlaw, hcw, hiw, hnm⟩ := id hO
  subst hn
  have hM := zMet (M := M') (as := .ref a :: As) hO (fun v hv => by
    rcases List.mem_cons.mp hv with rfl | hv
    · rfl
    · exact hcat v hv) (by omega) (by omega) hT l D cA b z
  rw [List.map_cons, zV_ref ha hnx] at hM
  obtain ⟨y0, b0, l0, r0, h0', c0, s0⟩ := M'
  have hrn : r0 = none := hrn
  subst hrn
  rcases hlk with hlk | ⟨host, hlk⟩
  · have run := va_runI (p := p) (l := l) (e := e) (R := R) (s := s) (m := m) (args := args) (below := below) (meth := meth) (c := c) (H := H) (locs := locs) (cells := nx - n0) (slots := zN nx - zN n0) (b := z + a) (As := As.map (zV b z)) (rest := st.map (zV b z)) (g := F0 m pc la ((As.reverse ++ .ref a :: st).map (zV b z))) (Ts := zWd) ⟨hx, hb, hml, hown, hts⟩ hM (cwI As.length hts (z_goodWs hcw) rfl rfl rfl (hts _ hiw) (hts _ hlk) (hts _ hins) hnn ⟨hnm.1, hnm.2, hpar⟩ (z_room hh hml11 hR.1 hR.2.1))
      ⟨z_blind, z_pre hw hK hnw hao⟩ rfl (by simp) hll.1 (by simp [zV_ref ha hnx]) (by show 2 * 0 + _ ≤ 8; rw [z_sum]; omega) hd ⟨Nat.le_trans hg1 hR.2.2.1, Nat.le_trans hg2 hR.2.2.2⟩
    exact z_back he1 he2 h0 run C hX hll hS hend (fun r h' hr hp => by
      cases r with
      | none => exact kk h' hp
      | some x => exact absurd hr (by simp))
  · have run := va_runIN (p := p) (l := l) (e := e) (R := R) (s := s) (m := m) (args := args) (below := below) (meth := meth) (c := c) (H := H) (locs := locs) (cells := nx - n0) (slots := zN nx - zN n0) (b := z + a) (As := As.map (zV b z)) (rest := st.map (zV b z)) (g := F0 m pc la ((As.reverse ++ .ref a :: st).map (zV b z))) (Ts := zWd) ⟨hx, hb, hml, hown, hts⟩ hM ⟨va_cnB As.length hts (z_goodWs hcw) rfl rfl rfl (hnw _ hlk) (hts _ hiw) ⟨hnm.1, hnm.2, hpar⟩ (z_room hh hml11 hR.1 hR.2.1), hnn, hts _ hins⟩
      ⟨z_blind, z_pre hw hK hnw hao⟩ rfl (by simp) hll.1 (by simp [zV_ref ha hnx]) (by show 2 * 0 + _ ≤ 8; rw [z_sum]; omega) hd ⟨Nat.le_trans hg1 hR.2.2.1, Nat.le_trans hg2 hR.2.2.2⟩
    exact z_back he1 he2 h0 run C hX hll hS hend (fun r h' hr hp => by
      cases r with
      | none => exact kk h' hp
      | some x => exact absurd hr (by simp))
theorem j_callV0i {a idx ci : Nat} {M' : zM} {nx' : Nat} {P : Option Int32 → zH → Prop} (hd : decode (zMb M) pc = .ok (.invokevirtual idx, 3)) (hl : zSV M idx M' 0 ci) (hT : zCT M' (.ref a :: []) nx h nx' P) (hs : (zS a).1 = ci) (ha : a < nx)  (hst : (st.map fun v => v.category).sum ≤ 8) (h0 : n0 ≤ nx) (he1 : nx' = nx + zMc M') (he2 : zN nx' = zN nx + zMs M') (hg1 : nx - n0 + zMc M' ≤ zMc M) (hg2 : zN nx - zN n0 + zMs M' ≤ zMs M) (hr : (zMr M').isSome = true) (kk : ∀ x h', P (some x) h' → zJ X M n0 (pc + 3) ls (.int x :: st) nx' h' Q) : zJ X M n0 pc ls (.ref a :: st) nx h Q :=
  j_callV (As := []) hd hl hT hs ha rfl (fun v hv => by simp at hv) hst h0 he1 he2 hg1 hg2 (fun r h' hr2 hp => by
    cases r with
    | none => rw [hr] at hr2; cases hr2
    | some x => exact kk x h' hp)
theorem j_callV0v {a idx ci : Nat} {M' : zM} {nx' : Nat} {P : Option Int32 → zH → Prop} (hd : decode (zMb M) pc = .ok (.invokevirtual idx, 3)) (hl : zSV M idx M' 0 ci) (hT : zCT M' (.ref a :: []) nx h nx' P) (hs : (zS a).1 = ci) (ha : a < nx)  (hst : (st.map fun v => v.category).sum ≤ 8) (h0 : n0 ≤ nx) (he1 : nx' = nx + zMc M') (he2 : zN nx' = zN nx + zMs M') (hg1 : nx - n0 + zMc M' ≤ zMc M) (hg2 : zN nx - zN n0 + zMs M' ≤ zMs M) (hr : (zMr M').isSome = false) (kk : ∀ h', P none h' → zJ X M n0 (pc + 3) ls st nx' h' Q) : zJ X M n0 pc ls (.ref a :: st) nx h Q :=
  j_callV (As := []) hd hl hT hs ha rfl (fun v hv => by simp at hv) hst h0 he1 he2 hg1 hg2 (fun r h' hr2 hp => by
    cases r with
    | none => exact kk h' hp
    | some x => rw [hr] at hr2; cases hr2)
theorem j_callV1i {a idx ci : Nat} {v1 : Value} {M' : zM} {nx' : Nat} {P : Option Int32 → zH → Prop} (hd : decode (zMb M) pc = .ok (.invokevirtual idx, 3)) (hl : zSV M idx M' 1 ci) (hT : zCT M' (.ref a :: [v1]) nx h nx' P) (hs : (zS a).1 = ci) (ha : a < nx) (hc1 : v1.category = 1) (hst : (st.map fun v => v.category).sum ≤ 8) (h0 : n0 ≤ nx) (he1 : nx' = nx + zMc M') (he2 : zN nx' = zN nx + zMs M') (hg1 : nx - n0 + zMc M' ≤ zMc M) (hg2 : zN nx - zN n0 + zMs M' ≤ zMs M) (hr : (zMr M').isSome = true) (kk : ∀ x h', P (some x) h' → zJ X M n0 (pc + 3) ls (.int x :: st) nx' h' Q) : zJ X M n0 pc ls (v1 :: .ref a :: st) nx h Q :=
  j_callV (As := [v1]) hd hl hT hs ha rfl (fun v hv => by
    simp only [List.mem_cons, List.not_mem_nil, or_false] at hv
    rcases hv with rfl <;> assumption) hst h0 he1 he2 hg1 hg2 (fun r h' hr2 hp => by
    cases r with
    | none => rw [hr] at hr2; cases hr2
    | some x => exact kk x h' hp)
theorem j_callV1v {a idx ci : Nat} {v1 : Value} {M' : zM} {nx' : Nat} {P : Option Int32 → zH → Prop} (hd : decode (zMb M) pc = .ok (.invokevirtual idx, 3)) (hl : zSV M idx M' 1 ci) (hT : zCT M' (.ref a :: [v1]) nx h nx' P) (hs : (zS a).1 = ci) (ha : a < nx) (hc1 : v1.category = 1) (hst : (st.map fun v => v.category).sum ≤ 8) (h0 : n0 ≤ nx) (he1 : nx' = nx + zMc M') (he2 : zN nx' = zN nx + zMs M') (hg1 : nx - n0 + zMc M' ≤ zMc M) (hg2 : zN nx - zN n0 + zMs M' ≤ zMs M) (hr : (zMr M').isSome = false) (kk : ∀ h', P none h' → zJ X M n0 (pc + 3) ls st nx' h' Q) : zJ X M n0 pc ls (v1 :: .ref a :: st) nx h Q :=
  j_callV (As := [v1]) hd hl hT hs ha rfl (fun v hv => by
    simp only [List.mem_cons, List.not_mem_nil, or_false] at hv
    rcases hv with rfl <;> assumption) hst h0 he1 he2 hg1 hg2 (fun r h' hr2 hp => by
    cases r with
    | none => exact kk h' hp
    | some x => rw [hr] at hr2; cases hr2)
theorem j_callV2i {a idx ci : Nat} {v1 v2 : Value} {M' : zM} {nx' : Nat} {P : Option Int32 → zH → Prop} (hd : decode (zMb M) pc = .ok (.invokevirtual idx, 3)) (hl : zSV M idx M' 2 ci) (hT : zCT M' (.ref a :: [v1, v2]) nx h nx' P) (hs : (zS a).1 = ci) (ha : a < nx) (hc1 : v1.category = 1) (hc2 : v2.category = 1) (hst : (st.map fun v => v.category).sum ≤ 8) (h0 : n0 ≤ nx) (he1 : nx' = nx + zMc M') (he2 : zN nx' = zN nx + zMs M') (hg1 : nx - n0 + zMc M' ≤ zMc M) (hg2 : zN nx - zN n0 + zMs M' ≤ zMs M) (hr : (zMr M').isSome = true) (kk : ∀ x h', P (some x) h' → zJ X M n0 (pc + 3) ls (.int x :: st) nx' h' Q) : zJ X M n0 pc ls (v2 :: v1 :: .ref a :: st) nx h Q :=
  j_callV (As := [v1, v2]) hd hl hT hs ha rfl (fun v hv => by
    simp only [List.mem_cons, List.not_mem_nil, or_false] at hv
    rcases hv with rfl | rfl <;> assumption) hst h0 he1 he2 hg1 hg2 (fun r h' hr2 hp => by
    cases r with
    | none => rw [hr] at hr2; cases hr2
    | some x => exact kk x h' hp)
theorem j_callV2v {a idx ci : Nat} {v1 v2 : Value} {M' : zM} {nx' : Nat} {P : Option Int32 → zH → Prop} (hd : decode (zMb M) pc = .ok (.invokevirtual idx, 3)) (hl : zSV M idx M' 2 ci) (hT : zCT M' (.ref a :: [v1, v2]) nx h nx' P) (hs : (zS a).1 = ci) (ha : a < nx) (hc1 : v1.category = 1) (hc2 : v2.category = 1) (hst : (st.map fun v => v.category).sum ≤ 8) (h0 : n0 ≤ nx) (he1 : nx' = nx + zMc M') (he2 : zN nx' = zN nx + zMs M') (hg1 : nx - n0 + zMc M' ≤ zMc M) (hg2 : zN nx - zN n0 + zMs M' ≤ zMs M) (hr : (zMr M').isSome = false) (kk : ∀ h', P none h' → zJ X M n0 (pc + 3) ls st nx' h' Q) : zJ X M n0 pc ls (v2 :: v1 :: .ref a :: st) nx h Q :=
  j_callV (As := [v1, v2]) hd hl hT hs ha rfl (fun v hv => by
    simp only [List.mem_cons, List.not_mem_nil, or_false] at hv
    rcases hv with rfl | rfl <;> assumption) hst h0 he1 he2 hg1 hg2 (fun r h' hr2 hp => by
    cases r with
    | none => exact kk h' hp
    | some x => rw [hr] at hr2; cases hr2)
theorem j_callV3i {a idx ci : Nat} {v1 v2 v3 : Value} {M' : zM} {nx' : Nat} {P : Option Int32 → zH → Prop} (hd : decode (zMb M) pc = .ok (.invokevirtual idx, 3)) (hl : zSV M idx M' 3 ci) (hT : zCT M' (.ref a :: [v1, v2, v3]) nx h nx' P) (hs : (zS a).1 = ci) (ha : a < nx) (hc1 : v1.category = 1) (hc2 : v2.category = 1) (hc3 : v3.category = 1) (hst : (st.map fun v => v.category).sum ≤ 8) (h0 : n0 ≤ nx) (he1 : nx' = nx + zMc M') (he2 : zN nx' = zN nx + zMs M') (hg1 : nx - n0 + zMc M' ≤ zMc M) (hg2 : zN nx - zN n0 + zMs M' ≤ zMs M) (hr : (zMr M').isSome = true) (kk : ∀ x h', P (some x) h' → zJ X M n0 (pc + 3) ls (.int x :: st) nx' h' Q) : zJ X M n0 pc ls (v3 :: v2 :: v1 :: .ref a :: st) nx h Q :=
  j_callV (As := [v1, v2, v3]) hd hl hT hs ha rfl (fun v hv => by
    simp only [List.mem_cons, List.not_mem_nil, or_false] at hv
    rcases hv with rfl | rfl | rfl <;> assumption) hst h0 he1 he2 hg1 hg2 (fun r h' hr2 hp => by
    cases r with
    | none => rw [hr] at hr2; cases hr2
    | some x => exact kk x h' hp)
theorem j_callV3v {a idx ci : Nat} {v1 v2 v3 : Value} {M' : zM} {nx' : Nat} {P : Option Int32 → zH → Prop} (hd : decode (zMb M) pc = .ok (.invokevirtual idx, 3)) (hl : zSV M idx M' 3 ci) (hT : zCT M' (.ref a :: [v1, v2, v3]) nx h nx' P) (hs : (zS a).1 = ci) (ha : a < nx) (hc1 : v1.category = 1) (hc2 : v2.category = 1) (hc3 : v3.category = 1) (hst : (st.map fun v => v.category).sum ≤ 8) (h0 : n0 ≤ nx) (he1 : nx' = nx + zMc M') (he2 : zN nx' = zN nx + zMs M') (hg1 : nx - n0 + zMc M' ≤ zMc M) (hg2 : zN nx - zN n0 + zMs M' ≤ zMs M) (hr : (zMr M').isSome = false) (kk : ∀ h', P none h' → zJ X M n0 (pc + 3) ls st nx' h' Q) : zJ X M n0 pc ls (v3 :: v2 :: v1 :: .ref a :: st) nx h Q :=
  j_callV (As := [v1, v2, v3]) hd hl hT hs ha rfl (fun v hv => by
    simp only [List.mem_cons, List.not_mem_nil, or_false] at hv
    rcases hv with rfl | rfl | rfl <;> assumption) hst h0 he1 he2 hg1 hg2 (fun r h' hr2 hp => by
    cases r with
    | none => exact kk h' hp
    | some x => rw [hr] at hr2; cases hr2)
theorem j_callV4i {a idx ci : Nat} {v1 v2 v3 v4 : Value} {M' : zM} {nx' : Nat} {P : Option Int32 → zH → Prop} (hd : decode (zMb M) pc = .ok (.invokevirtual idx, 3)) (hl : zSV M idx M' 4 ci) (hT : zCT M' (.ref a :: [v1, v2, v3, v4]) nx h nx' P) (hs : (zS a).1 = ci) (ha : a < nx) (hc1 : v1.category = 1) (hc2 : v2.category = 1) (hc3 : v3.category = 1) (hc4 : v4.category = 1) (hst : (st.map fun v => v.category).sum ≤ 8) (h0 : n0 ≤ nx) (he1 : nx' = nx + zMc M') (he2 : zN nx' = zN nx + zMs M') (hg1 : nx - n0 + zMc M' ≤ zMc M) (hg2 : zN nx - zN n0 + zMs M' ≤ zMs M) (hr : (zMr M').isSome = true) (kk : ∀ x h', P (some x) h' → zJ X M n0 (pc + 3) ls (.int x :: st) nx' h' Q) : zJ X M n0 pc ls (v4 :: v3 :: v2 :: v1 :: .ref a :: st) nx h Q :=
  j_callV (As := [v1, v2, v3, v4]) hd hl hT hs ha rfl (fun v hv => by
    simp only [List.mem_cons, List.not_mem_nil, or_false] at hv
    rcases hv with rfl | rfl | rfl | rfl <;> assumption) hst h0 he1 he2 hg1 hg2 (fun r h' hr2 hp => by
    cases r with
    | none => rw [hr] at hr2; cases hr2
    | some x => exact kk x h' hp)
theorem j_callV4v {a idx ci : Nat} {v1 v2 v3 v4 : Value} {M' : zM} {nx' : Nat} {P : Option Int32 → zH → Prop} (hd : decode (zMb M) pc = .ok (.invokevirtual idx, 3)) (hl : zSV M idx M' 4 ci) (hT : zCT M' (.ref a :: [v1, v2, v3, v4]) nx h nx' P) (hs : (zS a).1 = ci) (ha : a < nx) (hc1 : v1.category = 1) (hc2 : v2.category = 1) (hc3 : v3.category = 1) (hc4 : v4.category = 1) (hst : (st.map fun v => v.category).sum ≤ 8) (h0 : n0 ≤ nx) (he1 : nx' = nx + zMc M') (he2 : zN nx' = zN nx + zMs M') (hg1 : nx - n0 + zMc M' ≤ zMc M) (hg2 : zN nx - zN n0 + zMs M' ≤ zMs M) (hr : (zMr M').isSome = false) (kk : ∀ h', P none h' → zJ X M n0 (pc + 3) ls st nx' h' Q) : zJ X M n0 pc ls (v4 :: v3 :: v2 :: v1 :: .ref a :: st) nx h Q :=
  j_callV (As := [v1, v2, v3, v4]) hd hl hT hs ha rfl (fun v hv => by
    simp only [List.mem_cons, List.not_mem_nil, or_false] at hv
    rcases hv with rfl | rfl | rfl | rfl <;> assumption) hst h0 he1 he2 hg1 hg2 (fun r h' hr2 hp => by
    cases r with
    | none => exact kk h' hp
    | some x => rw [hr] at hr2; cases hr2)
theorem j_callS0i {idx : Nat} {M' : zM} {nx' : Nat} {P : Option Int32 → zH → Prop} (hd : decode (zMb M) pc = .ok (.invokestatic idx, 3)) (hl : zSS M idx M' 0) (hT : zCT M' ([]) nx h nx' P)  (hst : (st.map fun v => v.category).sum ≤ 8) (h0 : n0 ≤ nx) (he1 : nx' = nx + zMc M') (he2 : zN nx' = zN nx + zMs M') (hg1 : nx - n0 + zMc M' ≤ zMc M) (hg2 : zN nx - zN n0 + zMs M' ≤ zMs M) (hr : (zMr M').isSome = true) (kk : ∀ x h', P (some x) h' → zJ X M n0 (pc + 3) ls (.int x :: st) nx' h' Q) : zJ X M n0 pc ls (st) nx h Q :=
  j_callS (As := []) hd hl hT rfl (fun v hv => by simp at hv) hst h0 he1 he2 hg1 hg2 (fun r h' hr2 hp => by
    cases r with
    | none => rw [hr] at hr2; cases hr2
    | some x => exact kk x h' hp)
theorem j_callS0v {idx : Nat} {M' : zM} {nx' : Nat} {P : Option Int32 → zH → Prop} (hd : decode (zMb M) pc = .ok (.invokestatic idx, 3)) (hl : zSS M idx M' 0) (hT : zCT M' ([]) nx h nx' P)  (hst : (st.map fun v => v.category).sum ≤ 8) (h0 : n0 ≤ nx) (he1 : nx' = nx + zMc M') (he2 : zN nx' = zN nx + zMs M') (hg1 : nx - n0 + zMc M' ≤ zMc M) (hg2 : zN nx - zN n0 + zMs M' ≤ zMs M) (hr : (zMr M').isSome = false) (kk : ∀ h', P none h' → zJ X M n0 (pc + 3) ls st nx' h' Q) : zJ X M n0 pc ls (st) nx h Q :=
  j_callS (As := []) hd hl hT rfl (fun v hv => by simp at hv) hst h0 he1 he2 hg1 hg2 (fun r h' hr2 hp => by
    cases r with
    | none => exact kk h' hp
    | some x => rw [hr] at hr2; cases hr2)
theorem j_callS1i {idx : Nat} {v1 : Value} {M' : zM} {nx' : Nat} {P : Option Int32 → zH → Prop} (hd : decode (zMb M) pc = .ok (.invokestatic idx, 3)) (hl : zSS M idx M' 1) (hT : zCT M' ([v1]) nx h nx' P) (hc1 : v1.category = 1) (hst : (st.map fun v => v.category).sum ≤ 8) (h0 : n0 ≤ nx) (he1 : nx' = nx + zMc M') (he2 : zN nx' = zN nx + zMs M') (hg1 : nx - n0 + zMc M' ≤ zMc M) (hg2 : zN nx - zN n0 + zMs M' ≤ zMs M) (hr : (zMr M').isSome = true) (kk : ∀ x h', P (some x) h' → zJ X M n0 (pc + 3) ls (.int x :: st) nx' h' Q) : zJ X M n0 pc ls (v1 :: st) nx h Q :=
  j_callS (As := [v1]) hd hl hT rfl (fun v hv => by
    simp only [List.mem_cons, List.not_mem_nil, or_false] at hv
    rcases hv with rfl <;> assumption) hst h0 he1 he2 hg1 hg2 (fun r h' hr2 hp => by
    cases r with
    | none => rw [hr] at hr2; cases hr2
    | some x => exact kk x h' hp)
theorem j_callS1v {idx : Nat} {v1 : Value} {M' : zM} {nx' : Nat} {P : Option Int32 → zH → Prop} (hd : decode (zMb M) pc = .ok (.invokestatic idx, 3)) (hl : zSS M idx M' 1) (hT : zCT M' ([v1]) nx h nx' P) (hc1 : v1.category = 1) (hst : (st.map fun v => v.category).sum ≤ 8) (h0 : n0 ≤ nx) (he1 : nx' = nx + zMc M') (he2 : zN nx' = zN nx + zMs M') (hg1 : nx - n0 + zMc M' ≤ zMc M) (hg2 : zN nx - zN n0 + zMs M' ≤ zMs M) (hr : (zMr M').isSome = false) (kk : ∀ h', P none h' → zJ X M n0 (pc + 3) ls st nx' h' Q) : zJ X M n0 pc ls (v1 :: st) nx h Q :=
  j_callS (As := [v1]) hd hl hT rfl (fun v hv => by
    simp only [List.mem_cons, List.not_mem_nil, or_false] at hv
    rcases hv with rfl <;> assumption) hst h0 he1 he2 hg1 hg2 (fun r h' hr2 hp => by
    cases r with
    | none => exact kk h' hp
    | some x => rw [hr] at hr2; cases hr2)
theorem j_callS2i {idx : Nat} {v1 v2 : Value} {M' : zM} {nx' : Nat} {P : Option Int32 → zH → Prop} (hd : decode (zMb M) pc = .ok (.invokestatic idx, 3)) (hl : zSS M idx M' 2) (hT : zCT M' ([v1, v2]) nx h nx' P) (hc1 : v1.category = 1) (hc2 : v2.category = 1) (hst : (st.map fun v => v.category).sum ≤ 8) (h0 : n0 ≤ nx) (he1 : nx' = nx + zMc M') (he2 : zN nx' = zN nx + zMs M') (hg1 : nx - n0 + zMc M' ≤ zMc M) (hg2 : zN nx - zN n0 + zMs M' ≤ zMs M) (hr : (zMr M').isSome = true) (kk : ∀ x h', P (some x) h' → zJ X M n0 (pc + 3) ls (.int x :: st) nx' h' Q) : zJ X M n0 pc ls (v2 :: v1 :: st) nx h Q :=
  j_callS (As := [v1, v2]) hd hl hT rfl (fun v hv => by
    simp only [List.mem_cons, List.not_mem_nil, or_false] at hv
    rcases hv with rfl | rfl <;> assumption) hst h0 he1 he2 hg1 hg2 (fun r h' hr2 hp => by
    cases r with
    | none => rw [hr] at hr2; cases hr2
    | some x => exact kk x h' hp)
theorem j_callS2v {idx : Nat} {v1 v2 : Value} {M' : zM} {nx' : Nat} {P : Option Int32 → zH → Prop} (hd : decode (zMb M) pc = .ok (.invokestatic idx, 3)) (hl : zSS M idx M' 2) (hT : zCT M' ([v1, v2]) nx h nx' P) (hc1 : v1.category = 1) (hc2 : v2.category = 1) (hst : (st.map fun v => v.category).sum ≤ 8) (h0 : n0 ≤ nx) (he1 : nx' = nx + zMc M') (he2 : zN nx' = zN nx + zMs M') (hg1 : nx - n0 + zMc M' ≤ zMc M) (hg2 : zN nx - zN n0 + zMs M' ≤ zMs M) (hr : (zMr M').isSome = false) (kk : ∀ h', P none h' → zJ X M n0 (pc + 3) ls st nx' h' Q) : zJ X M n0 pc ls (v2 :: v1 :: st) nx h Q :=
  j_callS (As := [v1, v2]) hd hl hT rfl (fun v hv => by
    simp only [List.mem_cons, List.not_mem_nil, or_false] at hv
    rcases hv with rfl | rfl <;> assumption) hst h0 he1 he2 hg1 hg2 (fun r h' hr2 hp => by
    cases r with
    | none => exact kk h' hp
    | some x => rw [hr] at hr2; cases hr2)
theorem j_callS3i {idx : Nat} {v1 v2 v3 : Value} {M' : zM} {nx' : Nat} {P : Option Int32 → zH → Prop} (hd : decode (zMb M) pc = .ok (.invokestatic idx, 3)) (hl : zSS M idx M' 3) (hT : zCT M' ([v1, v2, v3]) nx h nx' P) (hc1 : v1.category = 1) (hc2 : v2.category = 1) (hc3 : v3.category = 1) (hst : (st.map fun v => v.category).sum ≤ 8) (h0 : n0 ≤ nx) (he1 : nx' = nx + zMc M') (he2 : zN nx' = zN nx + zMs M') (hg1 : nx - n0 + zMc M' ≤ zMc M) (hg2 : zN nx - zN n0 + zMs M' ≤ zMs M) (hr : (zMr M').isSome = true) (kk : ∀ x h', P (some x) h' → zJ X M n0 (pc + 3) ls (.int x :: st) nx' h' Q) : zJ X M n0 pc ls (v3 :: v2 :: v1 :: st) nx h Q :=
  j_callS (As := [v1, v2, v3]) hd hl hT rfl (fun v hv => by
    simp only [List.mem_cons, List.not_mem_nil, or_false] at hv
    rcases hv with rfl | rfl | rfl <;> assumption) hst h0 he1 he2 hg1 hg2 (fun r h' hr2 hp => by
    cases r with
    | none => rw [hr] at hr2; cases hr2
    | some x => exact kk x h' hp)
theorem j_callS3v {idx : Nat} {v1 v2 v3 : Value} {M' : zM} {nx' : Nat} {P : Option Int32 → zH → Prop} (hd : decode (zMb M) pc = .ok (.invokestatic idx, 3)) (hl : zSS M idx M' 3) (hT : zCT M' ([v1, v2, v3]) nx h nx' P) (hc1 : v1.category = 1) (hc2 : v2.category = 1) (hc3 : v3.category = 1) (hst : (st.map fun v => v.category).sum ≤ 8) (h0 : n0 ≤ nx) (he1 : nx' = nx + zMc M') (he2 : zN nx' = zN nx + zMs M') (hg1 : nx - n0 + zMc M' ≤ zMc M) (hg2 : zN nx - zN n0 + zMs M' ≤ zMs M) (hr : (zMr M').isSome = false) (kk : ∀ h', P none h' → zJ X M n0 (pc + 3) ls st nx' h' Q) : zJ X M n0 pc ls (v3 :: v2 :: v1 :: st) nx h Q :=
  j_callS (As := [v1, v2, v3]) hd hl hT rfl (fun v hv => by
    simp only [List.mem_cons, List.not_mem_nil, or_false] at hv
    rcases hv with rfl | rfl | rfl <;> assumption) hst h0 he1 he2 hg1 hg2 (fun r h' hr2 hp => by
    cases r with
    | none => exact kk h' hp
    | some x => rw [hr] at hr2; cases hr2)
theorem j_callS4i {idx : Nat} {v1 v2 v3 v4 : Value} {M' : zM} {nx' : Nat} {P : Option Int32 → zH → Prop} (hd : decode (zMb M) pc = .ok (.invokestatic idx, 3)) (hl : zSS M idx M' 4) (hT : zCT M' ([v1, v2, v3, v4]) nx h nx' P) (hc1 : v1.category = 1) (hc2 : v2.category = 1) (hc3 : v3.category = 1) (hc4 : v4.category = 1) (hst : (st.map fun v => v.category).sum ≤ 8) (h0 : n0 ≤ nx) (he1 : nx' = nx + zMc M') (he2 : zN nx' = zN nx + zMs M') (hg1 : nx - n0 + zMc M' ≤ zMc M) (hg2 : zN nx - zN n0 + zMs M' ≤ zMs M) (hr : (zMr M').isSome = true) (kk : ∀ x h', P (some x) h' → zJ X M n0 (pc + 3) ls (.int x :: st) nx' h' Q) : zJ X M n0 pc ls (v4 :: v3 :: v2 :: v1 :: st) nx h Q :=
  j_callS (As := [v1, v2, v3, v4]) hd hl hT rfl (fun v hv => by
    simp only [List.mem_cons, List.not_mem_nil, or_false] at hv
    rcases hv with rfl | rfl | rfl | rfl <;> assumption) hst h0 he1 he2 hg1 hg2 (fun r h' hr2 hp => by
    cases r with
    | none => rw [hr] at hr2; cases hr2
    | some x => exact kk x h' hp)
theorem j_callS4v {idx : Nat} {v1 v2 v3 v4 : Value} {M' : zM} {nx' : Nat} {P : Option Int32 → zH → Prop} (hd : decode (zMb M) pc = .ok (.invokestatic idx, 3)) (hl : zSS M idx M' 4) (hT : zCT M' ([v1, v2, v3, v4]) nx h nx' P) (hc1 : v1.category = 1) (hc2 : v2.category = 1) (hc3 : v3.category = 1) (hc4 : v4.category = 1) (hst : (st.map fun v => v.category).sum ≤ 8) (h0 : n0 ≤ nx) (he1 : nx' = nx + zMc M') (he2 : zN nx' = zN nx + zMs M') (hg1 : nx - n0 + zMc M' ≤ zMc M) (hg2 : zN nx - zN n0 + zMs M' ≤ zMs M) (hr : (zMr M').isSome = false) (kk : ∀ h', P none h' → zJ X M n0 (pc + 3) ls st nx' h' Q) : zJ X M n0 pc ls (v4 :: v3 :: v2 :: v1 :: st) nx h Q :=
  j_callS (As := [v1, v2, v3, v4]) hd hl hT rfl (fun v hv => by
    simp only [List.mem_cons, List.not_mem_nil, or_false] at hv
    rcases hv with rfl | rfl | rfl | rfl <;> assumption) hst h0 he1 he2 hg1 hg2 (fun r h' hr2 hp => by
    cases r with
    | none => exact kk h' hp
    | some x => rw [hr] at hr2; cases hr2)
theorem z_cpy {g0 g : Nat → Value} {n : Nat} : va_cpy (fun k => zI (g0 k)) (fun k => zI (g k)) 0 0 n = fun k => zI (if k < n then .int (zI (g0 k)) else g k) := by
  funext k
  unfold va_cpy
  by_cases hk : k < n
  · rw [if_pos ⟨Nat.zero_le k, by omega⟩, if_pos hk]
    simp [zI]
  · rw [if_neg (by omega), if_neg hk]
set_option maxHeartbeats 1000000 in
/-- System.arraycopy of the first n ints, in a method that has made nothing -/
theorem j_acopy {idx a0 a m0 m1 n : Nat} {i : Int32} (hd : decode (zMb M) pc = .ok (.invokestatic idx, 3)) (h1 : Cond.methodLink (zMo M) idx arraycopyName ∈ zWd) (h2 : Cond.native arraycopyName ∈ zWd) (h3 : Cond.static arraycopyName ∈ zWd) (h4 : Cond.initialized "java/lang/System" ∈ zWd) (hs0 : zS a0 = (10, m0)) (hs1 : zS a = (10, m1)) (ha0 : a0 < nx) (ha : a < nx) (hi1 : ¬ i < 0) (hi2 : i.toNatClampNeg = n) (hm0 : n ≤ m0) (hm1 : n ≤ m1) (hh : 1 ≤ zMh M) (hst : (st.map fun v => v.category).sum ≤ 8) (hnn : nx = n0)
    (kk : zJ X M n0 (pc + 3) ls st nx (va_up h a (fun k => if k < n then .int (zI (h a0 k)) else h a k)) Q) : zJ X M n0 pc ls (.int i :: .int 0 :: .ref a :: .int 0 :: .ref a0 :: st) nx h Q := by
  intro p l e R s m args below meth c D cA b z H locs Qm la C hX hll hw hS hend
  obtain ⟨hx, hb, hml, hown, hini, hts, hnw, hao, hK, hz, hR⟩ := id C
  obtain ⟨hsz, hnx, hP⟩ := id hw
  have he0 : (zW cA b z nx h)[a0]? = some (z + a0, .inl (cA 0, m0, .inl (fun k => zI (h a0 k)))) := by rw [zW_get ha0, zE_num (t := 0) hs0 (by omega)]
  have he : (zW cA b z nx h)[a]? = some (z + a, .inl (cA 0, m1, .inl (fun k => zI (h a k)))) := by rw [zW_get ha, zE_num (t := 0) hs1 (by omega)]
  have ht : (zT cA)[0]? = some (cA 0, .int) := rfl
  show W p l e R s m args below meth c H locs _ _ Qm (F0 m pc la (.int i :: .int 0 :: zV b z (.ref a) :: .int 0 :: zV b z (.ref a0) :: st.map (zV b z)))
  rw [zV_ref ha hnx, zV_ref ha0 hnx]
  intro T hT X0
  have hs1' : s.heap.size = H.size := by
    have q1 : H.size ≤ s.heap.size + (nx - n0) := by rw [← hT]; exact X0.same.2.2.1
    have q2 := hS.1
    omega
  have z0 : (0 : Int32).toNatClampNeg = 0 := by decide
  have hw7 : nativeFrameWords "java/lang/System" "arraycopy" 5 + 11 ≤ 22 := by decide
  refine va_copyi hx hb (by rw [hml]; exact hll.1.symm) hown (hts _ h1) (hts _ h2) (hts _ h3) (hts _ h4) hK hP zW_D hS a0 a 0 0 he0 he ht ht rfl (by decide) (by decide) hi1 (by rw [z0, hi2]; omega) (by rw [z0, hi2]; omega) (fun _ _ => rfl) (by omega) (by rw [z_sum]; omega) hd (fun H1 locs1 hP1 hD1 hS1 => ?_) T hT X0
  intro T1 hT1 X1
  have z1 : H1.size = H.size := by
    have q1 : H1.size ≤ s.heap.size + (nx - n0) := by rw [← hT1]; exact X1.same.2.2.1
    have q2 := hS1.1
    omega
  rw [z0, hi2, z_cpy, ← zE_num (cA := cA) (b := b) (z := z) (g := fun k => if k < n then .int (zI (h a0 k)) else h a k) (t := 0) hs1 (by omega), zW_set] at hP1
  exact kk p l e R s m args below meth c D cA b z H1 locs1 Qm la C hX hll ⟨by rw [z1]; exact hsz, hnx, hP1⟩ hS1 hend T1 hT1 X1
end ZC
end
