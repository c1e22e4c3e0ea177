section
-- begun from kit/laws/SKELETON.whole (PART A) and claim/NAMES.whole (printed): by wip/whole/mknames.py
-- ===== PART A: goes FIRST, ahead of the names: the tables' words, and 'selects' of the private methods out of them =====
/-- a private method of a class that the tables say can be made, by its rows of tables_1 -/
def lw_okq (q : MethodName × Nat) : Prop := (q.1.cls ≠ "java/lang/invoke/MethodHandle" ∧ q.1.cls ≠ "java/lang/invoke/VarHandle") ∧ Cond.instantiable q.1.cls q.2 ∈ tables_1 ∧ Cond.privateMethod q.1 ∈ tables_1 ∧ Cond.instanceMethod q.1 ∈ tables_1
theorem lw_p0 : lw_okq (⟨"CoughBids", "keep", "(I)I"⟩, 5) := ⟨⟨by decide +kernel, by decide +kernel⟩, List.mem_of_getElem? (i := 12) (by decide +kernel), List.mem_of_getElem? (i := 288) (by decide +kernel), List.mem_of_getElem? (i := 289) (by decide +kernel)⟩
theorem lw_p1 : lw_okq (⟨"CoughBids", "dropOldest", "()V"⟩, 5) := ⟨⟨by decide +kernel, by decide +kernel⟩, List.mem_of_getElem? (i := 12) (by decide +kernel), List.mem_of_getElem? (i := 292) (by decide +kernel), List.mem_of_getElem? (i := 293) (by decide +kernel)⟩
theorem lw_p2 : lw_okq (⟨"CoughBids$Auction", "doubtBid", "()V"⟩, 17) := ⟨⟨by decide +kernel, by decide +kernel⟩, List.mem_of_getElem? (i := 21) (by decide +kernel), List.mem_of_getElem? (i := 364) (by decide +kernel), List.mem_of_getElem? (i := 365) (by decide +kernel)⟩
theorem lw_p3 : lw_okq (⟨"CoughBids$Auction", "close", "(I)V"⟩, 17) := ⟨⟨by decide +kernel, by decide +kernel⟩, List.mem_of_getElem? (i := 21) (by decide +kernel), List.mem_of_getElem? (i := 368) (by decide +kernel), List.mem_of_getElem? (i := 369) (by decide +kernel)⟩
theorem lw_p4 : lw_okq (⟨"CoughBids$Auction", "hushOrHammer", "()V"⟩, 17) := ⟨⟨by decide +kernel, by decide +kernel⟩, List.mem_of_getElem? (i := 21) (by decide +kernel), List.mem_of_getElem? (i := 389) (by decide +kernel), List.mem_of_getElem? (i := 390) (by decide +kernel)⟩
theorem lw_p5 : lw_okq (⟨"CoughBids$Auction", "letHammerFall", "()V"⟩, 17) := ⟨⟨by decide +kernel, by decide +kernel⟩, List.mem_of_getElem? (i := 21) (by decide +kernel), List.mem_of_getElem? (i := 393) (by decide +kernel), List.mem_of_getElem? (i := 394) (by decide +kernel)⟩
theorem lw_p6 : lw_okq (⟨"CoughBids$Auction", "sitsBesideCold", "(LCoughBids$Bidder;)Z"⟩, 17) := ⟨⟨by decide +kernel, by decide +kernel⟩, List.mem_of_getElem? (i := 21) (by decide +kernel), List.mem_of_getElem? (i := 413) (by decide +kernel), List.mem_of_getElem? (i := 414) (by decide +kernel)⟩
theorem lw_p7 : lw_okq (⟨"CoughBids$Script", "readOrder", "()Z"⟩, 9) := ⟨⟨by decide +kernel, by decide +kernel⟩, List.mem_of_getElem? (i := 190) (by decide +kernel), List.mem_of_getElem? (i := 571) (by decide +kernel), List.mem_of_getElem? (i := 572) (by decide +kernel)⟩
theorem lw_p8 : lw_okq (⟨"CoughBids$Script", "next", "()C"⟩, 9) := ⟨⟨by decide +kernel, by decide +kernel⟩, List.mem_of_getElem? (i := 190) (by decide +kernel), List.mem_of_getElem? (i := 575) (by decide +kernel), List.mem_of_getElem? (i := 576) (by decide +kernel)⟩
theorem lw_p9 : lw_okq (⟨"CoughBids$Script", "readCharacter", "(C)Z"⟩, 9) := ⟨⟨by decide +kernel, by decide +kernel⟩, List.mem_of_getElem? (i := 190) (by decide +kernel), List.mem_of_getElem? (i := 582) (by decide +kernel), List.mem_of_getElem? (i := 583) (by decide +kernel)⟩
theorem lw_p10 : lw_okq (⟨"CoughBids$Script", "readNumber", "(I)Z"⟩, 9) := ⟨⟨by decide +kernel, by decide +kernel⟩, List.mem_of_getElem? (i := 190) (by decide +kernel), List.mem_of_getElem? (i := 586) (by decide +kernel), List.mem_of_getElem? (i := 587) (by decide +kernel)⟩
theorem lw_p11 : lw_okq (⟨"CoughBids$Script", "noteFault", "(III)V"⟩, 9) := ⟨⟨by decide +kernel, by decide +kernel⟩, List.mem_of_getElem? (i := 190) (by decide +kernel), List.mem_of_getElem? (i := 590) (by decide +kernel), List.mem_of_getElem? (i := 591) (by decide +kernel)⟩
theorem lw_p12 : lw_okq (⟨"CoughBidsModel", "seated", "(II)I"⟩, 15) := ⟨⟨by decide +kernel, by decide +kernel⟩, List.mem_of_getElem? (i := 609) (by decide +kernel), List.mem_of_getElem? (i := 672) (by decide +kernel), List.mem_of_getElem? (i := 673) (by decide +kernel)⟩
theorem lw_p13 : lw_okq (⟨"CoughBidsModel", "of", "(II)I"⟩, 15) := ⟨⟨by decide +kernel, by decide +kernel⟩, List.mem_of_getElem? (i := 609) (by decide +kernel), List.mem_of_getElem? (i := 676) (by decide +kernel), List.mem_of_getElem? (i := 677) (by decide +kernel)⟩
theorem lw_p14 : lw_okq (⟨"CoughBidsModel", "changes", "()V"⟩, 15) := ⟨⟨by decide +kernel, by decide +kernel⟩, List.mem_of_getElem? (i := 609) (by decide +kernel), List.mem_of_getElem? (i := 683) (by decide +kernel), List.mem_of_getElem? (i := 684) (by decide +kernel)⟩
theorem lw_p15 : lw_okq (⟨"CoughBidsModel", "lay", "(III)V"⟩, 15) := ⟨⟨by decide +kernel, by decide +kernel⟩, List.mem_of_getElem? (i := 609) (by decide +kernel), List.mem_of_getElem? (i := 687) (by decide +kernel), List.mem_of_getElem? (i := 688) (by decide +kernel)⟩
def lw_privs_1 : List (MethodName × Nat) := [(⟨"CoughBids", "keep", "(I)I"⟩, 5), (⟨"CoughBids", "dropOldest", "()V"⟩, 5), (⟨"CoughBids$Auction", "doubtBid", "()V"⟩, 17), (⟨"CoughBids$Auction", "close", "(I)V"⟩, 17), (⟨"CoughBids$Auction", "hushOrHammer", "()V"⟩, 17), (⟨"CoughBids$Auction", "letHammerFall", "()V"⟩, 17), (⟨"CoughBids$Auction", "sitsBesideCold", "(LCoughBids$Bidder;)Z"⟩, 17), (⟨"CoughBids$Script", "readOrder", "()Z"⟩, 9), (⟨"CoughBids$Script", "next", "()C"⟩, 9), (⟨"CoughBids$Script", "readCharacter", "(C)Z"⟩, 9), (⟨"CoughBids$Script", "readNumber", "(I)Z"⟩, 9), (⟨"CoughBids$Script", "noteFault", "(III)V"⟩, 9), (⟨"CoughBidsModel", "seated", "(II)I"⟩, 15), (⟨"CoughBidsModel", "of", "(II)I"⟩, 15), (⟨"CoughBidsModel", "changes", "()V"⟩, 15), (⟨"CoughBidsModel", "lay", "(III)V"⟩, 15)]
theorem lw_r1 : ∀ q ∈ lw_privs_1, lw_okq q := List.forall_mem_cons.mpr ⟨lw_p0, List.forall_mem_cons.mpr ⟨lw_p1, List.forall_mem_cons.mpr ⟨lw_p2, List.forall_mem_cons.mpr ⟨lw_p3, List.forall_mem_cons.mpr ⟨lw_p4, List.forall_mem_cons.mpr ⟨lw_p5, List.forall_mem_cons.mpr ⟨lw_p6, List.forall_mem_cons.mpr ⟨lw_p7, List.forall_mem_cons.mpr ⟨lw_p8, List.forall_mem_cons.mpr ⟨lw_p9, List.forall_mem_cons.mpr ⟨lw_p10, List.forall_mem_cons.mpr ⟨lw_p11, List.forall_mem_cons.mpr ⟨lw_p12, List.forall_mem_cons.mpr ⟨lw_p13, List.forall_mem_cons.mpr ⟨lw_p14, List.forall_mem_cons.mpr ⟨lw_p15, fun _ h => absurd h List.not_mem_nil⟩⟩⟩⟩⟩⟩⟩⟩⟩⟩⟩⟩⟩⟩⟩⟩
theorem lw_p16 : lw_okq (⟨"CoughBidsModel", "isBidder", "(I)Z"⟩, 15) := ⟨⟨by decide +kernel, by decide +kernel⟩, List.mem_of_getElem? (i := 609) (by decide +kernel), List.mem_of_getElem? (i := 695) (by decide +kernel), List.mem_of_getElem? (i := 696) (by decide +kernel)⟩
theorem lw_p17 : lw_okq (⟨"CoughBidsModel", "coughs", "(II)I"⟩, 15) := ⟨⟨by decide +kernel, by decide +kernel⟩, List.mem_of_getElem? (i := 609) (by decide +kernel), List.mem_of_getElem? (i := 715) (by decide +kernel), List.mem_of_getElem? (i := 716) (by decide +kernel)⟩
theorem lw_p18 : lw_okq (⟨"CoughBidsModel", "barred", "(I)I"⟩, 15) := ⟨⟨by decide +kernel, by decide +kernel⟩, List.mem_of_getElem? (i := 609) (by decide +kernel), List.mem_of_getElem? (i := 719) (by decide +kernel), List.mem_of_getElem? (i := 720) (by decide +kernel)⟩
theorem lw_p19 : lw_okq (⟨"CoughBidsModel", "loud", "(I)I"⟩, 15) := ⟨⟨by decide +kernel, by decide +kernel⟩, List.mem_of_getElem? (i := 609) (by decide +kernel), List.mem_of_getElem? (i := 723) (by decide +kernel), List.mem_of_getElem? (i := 724) (by decide +kernel)⟩
theorem lw_p20 : lw_okq (⟨"CoughBidsModel", "asked", "()I"⟩, 15) := ⟨⟨by decide +kernel, by decide +kernel⟩, List.mem_of_getElem? (i := 609) (by decide +kernel), List.mem_of_getElem? (i := 727) (by decide +kernel), List.mem_of_getElem? (i := 728) (by decide +kernel)⟩
theorem lw_p21 : lw_okq (⟨"CoughBidsModel", "adds", "(III)V"⟩, 15) := ⟨⟨by decide +kernel, by decide +kernel⟩, List.mem_of_getElem? (i := 609) (by decide +kernel), List.mem_of_getElem? (i := 731) (by decide +kernel), List.mem_of_getElem? (i := 732) (by decide +kernel)⟩
theorem lw_p22 : lw_okq (⟨"CoughBidsModel", "goes", "(I)V"⟩, 15) := ⟨⟨by decide +kernel, by decide +kernel⟩, List.mem_of_getElem? (i := 609) (by decide +kernel), List.mem_of_getElem? (i := 735) (by decide +kernel), List.mem_of_getElem? (i := 736) (by decide +kernel)⟩
theorem lw_p23 : lw_okq (⟨"CoughBidsModel", "gone", "()I"⟩, 15) := ⟨⟨by decide +kernel, by decide +kernel⟩, List.mem_of_getElem? (i := 609) (by decide +kernel), List.mem_of_getElem? (i := 743) (by decide +kernel), List.mem_of_getElem? (i := 744) (by decide +kernel)⟩
theorem lw_p24 : lw_okq (⟨"CoughBidsModel", "pass", "(I)V"⟩, 15) := ⟨⟨by decide +kernel, by decide +kernel⟩, List.mem_of_getElem? (i := 609) (by decide +kernel), List.mem_of_getElem? (i := 747) (by decide +kernel), List.mem_of_getElem? (i := 748) (by decide +kernel)⟩
theorem lw_p25 : lw_okq (⟨"CoughBidsModel", "beat", "()V"⟩, 15) := ⟨⟨by decide +kernel, by decide +kernel⟩, List.mem_of_getElem? (i := 609) (by decide +kernel), List.mem_of_getElem? (i := 751) (by decide +kernel), List.mem_of_getElem? (i := 752) (by decide +kernel)⟩
theorem lw_p26 : lw_okq (⟨"CoughBidsModel", "coughsNext", "(I)Z"⟩, 15) := ⟨⟨by decide +kernel, by decide +kernel⟩, List.mem_of_getElem? (i := 609) (by decide +kernel), List.mem_of_getElem? (i := 755) (by decide +kernel), List.mem_of_getElem? (i := 756) (by decide +kernel)⟩
theorem lw_p27 : lw_okq (⟨"CoughBidsModel", "hammers", "()V"⟩, 15) := ⟨⟨by decide +kernel, by decide +kernel⟩, List.mem_of_getElem? (i := 609) (by decide +kernel), List.mem_of_getElem? (i := 759) (by decide +kernel), List.mem_of_getElem? (i := 760) (by decide +kernel)⟩
theorem lw_p28 : lw_okq (⟨"CoughBidsModel", "nightPasses", "()V"⟩, 15) := ⟨⟨by decide +kernel, by decide +kernel⟩, List.mem_of_getElem? (i := 609) (by decide +kernel), List.mem_of_getElem? (i := 767) (by decide +kernel), List.mem_of_getElem? (i := 768) (by decide +kernel)⟩
theorem lw_p29 : lw_okq (⟨"CoughBidsModel", "catchesFrom", "(II)Z"⟩, 15) := ⟨⟨by decide +kernel, by decide +kernel⟩, List.mem_of_getElem? (i := 609) (by decide +kernel), List.mem_of_getElem? (i := 771) (by decide +kernel), List.mem_of_getElem? (i := 772) (by decide +kernel)⟩
theorem lw_p30 : lw_okq (⟨"CoughBidsModel", "colds", "()I"⟩, 15) := ⟨⟨by decide +kernel, by decide +kernel⟩, List.mem_of_getElem? (i := 609) (by decide +kernel), List.mem_of_getElem? (i := 775) (by decide +kernel), List.mem_of_getElem? (i := 776) (by decide +kernel)⟩
theorem lw_p31 : lw_okq (⟨"CoughBidsModel", "byPurses", "()I"⟩, 15) := ⟨⟨by decide +kernel, by decide +kernel⟩, List.mem_of_getElem? (i := 609) (by decide +kernel), List.mem_of_getElem? (i := 851) (by decide +kernel), List.mem_of_getElem? (i := 852) (by decide +kernel)⟩
def lw_privs_2 : List (MethodName × Nat) := [(⟨"CoughBidsModel", "isBidder", "(I)Z"⟩, 15), (⟨"CoughBidsModel", "coughs", "(II)I"⟩, 15), (⟨"CoughBidsModel", "barred", "(I)I"⟩, 15), (⟨"CoughBidsModel", "loud", "(I)I"⟩, 15), (⟨"CoughBidsModel", "asked", "()I"⟩, 15), (⟨"CoughBidsModel", "adds", "(III)V"⟩, 15), (⟨"CoughBidsModel", "goes", "(I)V"⟩, 15), (⟨"CoughBidsModel", "gone", "()I"⟩, 15), (⟨"CoughBidsModel", "pass", "(I)V"⟩, 15), (⟨"CoughBidsModel", "beat", "()V"⟩, 15), (⟨"CoughBidsModel", "coughsNext", "(I)Z"⟩, 15), (⟨"CoughBidsModel", "hammers", "()V"⟩, 15), (⟨"CoughBidsModel", "nightPasses", "()V"⟩, 15), (⟨"CoughBidsModel", "catchesFrom", "(II)Z"⟩, 15), (⟨"CoughBidsModel", "colds", "()I"⟩, 15), (⟨"CoughBidsModel", "byPurses", "()I"⟩, 15)]
theorem lw_r2 : ∀ q ∈ lw_privs_2, lw_okq q := List.forall_mem_cons.mpr ⟨lw_p16, List.forall_mem_cons.mpr ⟨lw_p17, List.forall_mem_cons.mpr ⟨lw_p18, List.forall_mem_cons.mpr ⟨lw_p19, List.forall_mem_cons.mpr ⟨lw_p20, List.forall_mem_cons.mpr ⟨lw_p21, List.forall_mem_cons.mpr ⟨lw_p22, List.forall_mem_cons.mpr ⟨lw_p23, List.forall_mem_cons.mpr ⟨lw_p24, List.forall_mem_cons.mpr ⟨lw_p25, List.forall_mem_cons.mpr ⟨lw_p26, List.forall_mem_cons.mpr ⟨lw_p27, List.forall_mem_cons.mpr ⟨lw_p28, List.forall_mem_cons.mpr ⟨lw_p29, List.forall_mem_cons.mpr ⟨lw_p30, List.forall_mem_cons.mpr ⟨lw_p31, fun _ h => absurd h List.not_mem_nil⟩⟩⟩⟩⟩⟩⟩⟩⟩⟩⟩⟩⟩⟩⟩⟩
theorem lw_p32 : lw_okq (⟨"CoughBidsModel", "plays", "()Z"⟩, 15) := ⟨⟨by decide +kernel, by decide +kernel⟩, List.mem_of_getElem? (i := 609) (by decide +kernel), List.mem_of_getElem? (i := 871) (by decide +kernel), List.mem_of_getElem? (i := 872) (by decide +kernel)⟩
theorem lw_p33 : lw_okq (⟨"CoughBidsModel", "parses", "()Z"⟩, 15) := ⟨⟨by decide +kernel, by decide +kernel⟩, List.mem_of_getElem? (i := 609) (by decide +kernel), List.mem_of_getElem? (i := 875) (by decide +kernel), List.mem_of_getElem? (i := 876) (by decide +kernel)⟩
theorem lw_p34 : lw_okq (⟨"CoughBidsModel", "isAt", "(II)Z"⟩, 15) := ⟨⟨by decide +kernel, by decide +kernel⟩, List.mem_of_getElem? (i := 609) (by decide +kernel), List.mem_of_getElem? (i := 879) (by decide +kernel), List.mem_of_getElem? (i := 880) (by decide +kernel)⟩
theorem lw_p35 : lw_okq (⟨"CoughBidsModel", "numbered", "(I)Z"⟩, 15) := ⟨⟨by decide +kernel, by decide +kernel⟩, List.mem_of_getElem? (i := 609) (by decide +kernel), List.mem_of_getElem? (i := 886) (by decide +kernel), List.mem_of_getElem? (i := 887) (by decide +kernel)⟩
theorem lw_p36 : lw_okq (⟨"CoughBidsModel", "sign", "(I)Z"⟩, 15) := ⟨⟨by decide +kernel, by decide +kernel⟩, List.mem_of_getElem? (i := 609) (by decide +kernel), List.mem_of_getElem? (i := 890) (by decide +kernel), List.mem_of_getElem? (i := 891) (by decide +kernel)⟩
theorem lw_p37 : lw_okq (⟨"CoughBidsModel", "does", "()I"⟩, 15) := ⟨⟨by decide +kernel, by decide +kernel⟩, List.mem_of_getElem? (i := 609) (by decide +kernel), List.mem_of_getElem? (i := 894) (by decide +kernel), List.mem_of_getElem? (i := 895) (by decide +kernel)⟩
def lw_privs_3 : List (MethodName × Nat) := [(⟨"CoughBidsModel", "plays", "()Z"⟩, 15), (⟨"CoughBidsModel", "parses", "()Z"⟩, 15), (⟨"CoughBidsModel", "isAt", "(II)Z"⟩, 15), (⟨"CoughBidsModel", "numbered", "(I)Z"⟩, 15), (⟨"CoughBidsModel", "sign", "(I)Z"⟩, 15), (⟨"CoughBidsModel", "does", "()I"⟩, 15)]
theorem lw_r3 : ∀ q ∈ lw_privs_3, lw_okq q := List.forall_mem_cons.mpr ⟨lw_p32, List.forall_mem_cons.mpr ⟨lw_p33, List.forall_mem_cons.mpr ⟨lw_p34, List.forall_mem_cons.mpr ⟨lw_p35, List.forall_mem_cons.mpr ⟨lw_p36, List.forall_mem_cons.mpr ⟨lw_p37, fun _ h => absurd h List.not_mem_nil⟩⟩⟩⟩⟩⟩
def lw_privs : List (MethodName × Nat) := lw_privs_1 ++ (lw_privs_2 ++ (lw_privs_3))
def lw_tbl : List Cond := k2_sels lw_privs ++ tables_1
theorem lw_privs_ok : ∀ q ∈ lw_privs, lw_okq q := by
  show ∀ q ∈ lw_privs_1 ++ (lw_privs_2 ++ (lw_privs_3)), lw_okq q
  exact List.forall_mem_append.mpr ⟨lw_r1, List.forall_mem_append.mpr ⟨lw_r2, lw_r3⟩⟩
/-- the streams that the claim lets the run draw from -/
abbrev lw_cs : List Choice := [Jvm.Choice.named "NaN.bits"]
theorem lw_bits : nanBits ∈ lw_cs := by first | decide | exact List.mem_cons_self | simp [lw_cs, nanBits]
-- ===== end of PART A; then your names; then what follows =====
/-! ===== BEGIN words of one list among another's, by their places ===== -/
/-! ===== END ===== -/

/-! ===== BEGIN printed: names, fields, word lists, decode rows ===== -/
def RX0 : String := "CoughBids$Auction"
def TX0 : u_T := fun k => match k with
  | 0 => ("CoughBids$Auction", "bidders", "[LCoughBids$Bidder;", true)
  | 1 => ("CoughBids$Auction", "queue", "[LCoughBids$Lot;", true)
  | 2 => ("CoughBids$Auction", "gone", "[LCoughBids$Lot;", true)
  | 3 => ("CoughBids$Auction", "fates", "[I", true)
  | 4 => ("CoughBids$Auction", "settings", "[I", true)
  | 5 => ("CoughBids$Auction", "bidderCount", "I", false)
  | 6 => ("CoughBids$Auction", "waitingCount", "I", false)
  | 7 => ("CoughBids$Auction", "goneCount", "I", false)
  | 8 => ("CoughBids$Auction", "isUp", "Z", false)
  | 9 => ("CoughBids$Auction", "raised", "LCoughBids$Lot;", false)
  | 10 => ("CoughBids$Auction", "beatsPassed", "I", false)
  | 11 => ("CoughBids$Auction", "nightsPassed", "I", false)
  | 12 => ("CoughBids$Auction", "lotsCame", "I", false)
  | 13 => ("CoughBids$Auction", "coinsPaid", "I", false)
  | 14 => ("CoughBids$Auction", "coughs", "I", false)
  | 15 => ("CoughBids$Auction", "bids", "I", false)
  | _ => ("CoughBids$Auction", "doubts", "I", false)
def tyX0 : Nat → FieldType := fun k => match k with
  | 0 => .array (.object "CoughBids$Bidder")
  | 1 => .array (.object "CoughBids$Lot")
  | 2 => .array (.object "CoughBids$Lot")
  | 3 => .array .int
  | 4 => .array .int
  | 5 => .int
  | 6 => .int
  | 7 => .int
  | 8 => .boolean
  | 9 => .object "CoughBids$Lot"
  | 10 => .int
  | 11 => .int
  | 12 => .int
  | 13 => .int
  | 14 => .int
  | 15 => .int
  | _ => .int
abbrev wsX00 : List Cond := u_ws RX0 TX0 17
theorem nmX0 : ∀ a, a < 17 → ∀ b, b < 17 → a ≠ b → (TX0 a).2.1 ≠ (TX0 b).2.1 := by decide +kernel
theorem tyX0_ok : ∀ k, k < 17 → parseFieldDescriptor (TX0 k).2.2.1 = some (tyX0 k) := by decide +kernel
abbrev cX0_init : ByteArray := prog_2_method_1_code
def yX0_init : MethodName := ⟨RX0, "<init>", "()V"⟩
abbrev cX0_copyFrom : ByteArray := prog_2_method_2_code
def yX0_copyFrom : MethodName := ⟨RX0, "copyFrom", "(LCoughBids$Auction;)V"⟩
abbrev cX0_hasBidder : ByteArray := prog_2_method_3_code
def yX0_hasBidder : MethodName := ⟨RX0, "hasBidder", "(I)Z"⟩
abbrev cX0_findSeated : ByteArray := prog_2_method_4_code
def yX0_findSeated : MethodName := ⟨RX0, "findSeated", "(II)I"⟩
abbrev cX0_seatBidder : ByteArray := prog_2_method_5_code
def yX0_seatBidder : MethodName := ⟨RX0, "seatBidder", "(IIII)I"⟩
abbrev cX0_changeCold : ByteArray := prog_2_method_6_code
def yX0_changeCold : MethodName := ⟨RX0, "changeCold", "(II)I"⟩
abbrev cX0_changeMuffler : ByteArray := prog_2_method_7_code
def yX0_changeMuffler : MethodName := ⟨RX0, "changeMuffler", "(II)I"⟩
abbrev cX0_bidderSetWithCold : ByteArray := prog_2_method_8_code
def yX0_bidderSetWithCold : MethodName := ⟨RX0, "bidderSetWithCold", "()I"⟩
abbrev cX0_changeSetting : ByteArray := prog_2_method_9_code
def yX0_changeSetting : MethodName := ⟨RX0, "changeSetting", "(II)I"⟩
abbrev cX0_addLot : ByteArray := prog_2_method_10_code
def yX0_addLot : MethodName := ⟨RX0, "addLot", "(II)I"⟩
abbrev cX0_raiseNextLot : ByteArray := prog_2_method_11_code
def yX0_raiseNextLot : MethodName := ⟨RX0, "raiseNextLot", "()I"⟩
abbrev cX0_close : ByteArray := prog_2_method_12_code
def yX0_close : MethodName := ⟨RX0, "close", "(I)V"⟩
abbrev cX0_reasonAgainst : ByteArray := prog_2_method_13_code
def yX0_reasonAgainst : MethodName := ⟨RX0, "reasonAgainst", "(I)I"⟩
abbrev cX0_takeCough : ByteArray := prog_2_method_14_code
def yX0_takeCough : MethodName := ⟨RX0, "takeCough", "(IZ)I"⟩
abbrev cX0_doubtBid : ByteArray := prog_2_method_15_code
def yX0_doubtBid : MethodName := ⟨RX0, "doubtBid", "()V"⟩
abbrev cX0_isDueToCough : ByteArray := prog_2_method_16_code
def yX0_isDueToCough : MethodName := ⟨RX0, "isDueToCough", "(I)Z"⟩
abbrev cX0_passBeats : ByteArray := prog_2_method_17_code
def yX0_passBeats : MethodName := ⟨RX0, "passBeats", "(I)I"⟩
abbrev cX0_passBeat : ByteArray := prog_2_method_18_code
def yX0_passBeat : MethodName := ⟨RX0, "passBeat", "()V"⟩
abbrev cX0_hushOrHammer : ByteArray := prog_2_method_19_code
def yX0_hushOrHammer : MethodName := ⟨RX0, "hushOrHammer", "()V"⟩
abbrev cX0_letHammerFall : ByteArray := prog_2_method_20_code
def yX0_letHammerFall : MethodName := ⟨RX0, "letHammerFall", "()V"⟩
abbrev cX0_passNight : ByteArray := prog_2_method_21_code
def yX0_passNight : MethodName := ⟨RX0, "passNight", "()I"⟩
abbrev cX0_spreadColds : ByteArray := prog_2_method_22_code
def yX0_spreadColds : MethodName := ⟨RX0, "spreadColds", "()V"⟩
abbrev cX0_sitsBesideCold : ByteArray := prog_2_method_23_code
def yX0_sitsBesideCold : MethodName := ⟨RX0, "sitsBesideCold", "(LCoughBids$Bidder;)Z"⟩
abbrev cX0_coinsGoneFromPurses : ByteArray := prog_2_method_24_code
def yX0_coinsGoneFromPurses : MethodName := ⟨RX0, "coinsGoneFromPurses", "()I"⟩
abbrev cX0_total : ByteArray := prog_2_method_25_code
def yX0_total : MethodName := ⟨RX0, "total", "(I)I"⟩
abbrev cX0_carryOut : ByteArray := prog_2_method_26_code
def yX0_carryOut : MethodName := ⟨RX0, "carryOut", "(C[I)I"⟩
def RX1 : String := "CoughBids$Bidder"
def TX1 : u_T := fun k => match k with
  | 0 => ("CoughBids$Bidder", "row", "I", false)
  | 1 => ("CoughBids$Bidder", "seat", "I", false)
  | 2 => ("CoughBids$Bidder", "purse", "I", false)
  | 3 => ("CoughBids$Bidder", "purseAtFirst", "I", false)
  | 4 => ("CoughBids$Bidder", "strength", "I", false)
  | 5 => ("CoughBids$Bidder", "cold", "I", false)
  | 6 => ("CoughBids$Bidder", "muffler", "I", false)
  | 7 => ("CoughBids$Bidder", "coughs", "I", false)
  | 8 => ("CoughBids$Bidder", "bids", "I", false)
  | 9 => ("CoughBids$Bidder", "lotsBought", "I", false)
  | _ => ("CoughBids$Bidder", "coinsPaid", "I", false)
def tyX1 : Nat → FieldType := fun k => match k with
  | 0 => .int
  | 1 => .int
  | 2 => .int
  | 3 => .int
  | 4 => .int
  | 5 => .int
  | 6 => .int
  | 7 => .int
  | 8 => .int
  | 9 => .int
  | _ => .int
abbrev wsX10 : List Cond := u_ws RX1 TX1 11
theorem nmX1 : ∀ a, a < 11 → ∀ b, b < 11 → a ≠ b → (TX1 a).2.1 ≠ (TX1 b).2.1 := by decide +kernel
theorem tyX1_ok : ∀ k, k < 11 → parseFieldDescriptor (TX1 k).2.2.1 = some (tyX1 k) := by decide +kernel
abbrev cX1_init : ByteArray := prog_3_method_1_code
def yX1_init : MethodName := ⟨RX1, "<init>", "()V"⟩
abbrev cX1_sitDown : ByteArray := prog_3_method_2_code
def yX1_sitDown : MethodName := ⟨RX1, "sitDown", "(IIII)V"⟩
abbrev cX1_copyFrom : ByteArray := prog_3_method_3_code
def yX1_copyFrom : MethodName := ⟨RX1, "copyFrom", "(LCoughBids$Bidder;)V"⟩
abbrev cX1_loudness : ByteArray := prog_3_method_4_code
def yX1_loudness : MethodName := ⟨RX1, "loudness", "()I"⟩
abbrev cX1_isBeside : ByteArray := prog_3_method_5_code
def yX1_isBeside : MethodName := ⟨RX1, "isBeside", "(LCoughBids$Bidder;)Z"⟩
abbrev cX1_pay : ByteArray := prog_3_method_6_code
def yX1_pay : MethodName := ⟨RX1, "pay", "(I)V"⟩
abbrev cX1_tell : ByteArray := prog_3_method_7_code
def yX1_tell : MethodName := ⟨RX1, "tell", "(I)I"⟩
def RX2 : String := "CoughBids$Lot"
def TX2 : u_T := fun k => match k with
  | 0 => ("CoughBids$Lot", "reserve", "I", false)
  | 1 => ("CoughBids$Lot", "step", "I", false)
  | 2 => ("CoughBids$Lot", "latestBid", "I", false)
  | 3 => ("CoughBids$Lot", "latestBidder", "I", false)
  | 4 => ("CoughBids$Lot", "isLatestForCold", "Z", false)
  | 5 => ("CoughBids$Lot", "hasBidSinceBeat", "Z", false)
  | 6 => ("CoughBids$Lot", "bids", "I", false)
  | 7 => ("CoughBids$Lot", "doubts", "I", false)
  | 8 => ("CoughBids$Lot", "hush", "I", false)
  | _ => ("CoughBids$Lot", "fate", "I", false)
def tyX2 : Nat → FieldType := fun k => match k with
  | 0 => .int
  | 1 => .int
  | 2 => .int
  | 3 => .int
  | 4 => .boolean
  | 5 => .boolean
  | 6 => .int
  | 7 => .int
  | 8 => .int
  | _ => .int
abbrev wsX20 : List Cond := u_ws RX2 TX2 10
theorem nmX2 : ∀ a, a < 10 → ∀ b, b < 10 → a ≠ b → (TX2 a).2.1 ≠ (TX2 b).2.1 := by decide +kernel
theorem tyX2_ok : ∀ k, k < 10 → parseFieldDescriptor (TX2 k).2.2.1 = some (tyX2 k) := by decide +kernel
abbrev cX2_init : ByteArray := prog_4_method_1_code
def yX2_init : MethodName := ⟨RX2, "<init>", "()V"⟩
abbrev cX2_come : ByteArray := prog_4_method_2_code
def yX2_come : MethodName := ⟨RX2, "come", "(II)V"⟩
abbrev cX2_copyFrom : ByteArray := prog_4_method_3_code
def yX2_copyFrom : MethodName := ⟨RX2, "copyFrom", "(LCoughBids$Lot;)V"⟩
abbrev cX2_hasBid : ByteArray := prog_4_method_4_code
def yX2_hasBid : MethodName := ⟨RX2, "hasBid", "()Z"⟩
abbrev cX2_asked : ByteArray := prog_4_method_5_code
def yX2_asked : MethodName := ⟨RX2, "asked", "()I"⟩
abbrev cX2_takeBid : ByteArray := prog_4_method_6_code
def yX2_takeBid : MethodName := ⟨RX2, "takeBid", "(IIZ)V"⟩
abbrev cX2_tellUp : ByteArray := prog_4_method_7_code
def yX2_tellUp : MethodName := ⟨RX2, "tellUp", "(I)I"⟩
abbrev cX2_tellGone : ByteArray := prog_4_method_8_code
def yX2_tellGone : MethodName := ⟨RX2, "tellGone", "(I)I"⟩
def RX3 : String := "CoughBids$Script"
def TX3 : u_T := fun k => match k with
  | 0 => ("CoughBids$Script", "characters", "[C", true)
  | 1 => ("CoughBids$Script", "numbers", "[I", true)
  | 2 => ("CoughBids$Script", "length", "I", false)
  | 3 => ("CoughBids$Script", "order", "C", false)
  | 4 => ("CoughBids$Script", "place", "I", false)
  | 5 => ("CoughBids$Script", "ordersDone", "I", false)
  | 6 => ("CoughBids$Script", "faultPosition", "I", false)
  | 7 => ("CoughBids$Script", "faultReason", "I", false)
  | _ => ("CoughBids$Script", "faultCause", "I", false)
def tyX3 : Nat → FieldType := fun k => match k with
  | 0 => .array .char
  | 1 => .array .int
  | 2 => .int
  | 3 => .char
  | 4 => .int
  | 5 => .int
  | 6 => .int
  | 7 => .int
  | _ => .int
abbrev wsX30 : List Cond := u_ws RX3 TX3 9
theorem nmX3 : ∀ a, a < 9 → ∀ b, b < 9 → a ≠ b → (TX3 a).2.1 ≠ (TX3 b).2.1 := by decide +kernel
theorem tyX3_ok : ∀ k, k < 9 → parseFieldDescriptor (TX3 k).2.2.1 = some (tyX3 k) := by decide +kernel
abbrev cX3_init : ByteArray := prog_5_method_1_code
def yX3_init : MethodName := ⟨RX3, "<init>", "()V"⟩
abbrev cX3_append : ByteArray := prog_5_method_2_code
def yX3_append : MethodName := ⟨RX3, "append", "(I)I"⟩
abbrev cX3_hasFault : ByteArray := prog_5_method_3_code
def yX3_hasFault : MethodName := ⟨RX3, "hasFault", "()Z"⟩
abbrev cX3_performOn : ByteArray := prog_5_method_4_code
def yX3_performOn : MethodName := ⟨RX3, "performOn", "(LCoughBids$Auction;)V"⟩
abbrev cX3_noteFault : ByteArray := prog_5_method_5_code
def yX3_noteFault : MethodName := ⟨RX3, "noteFault", "(III)V"⟩
abbrev cX3_numbersOf : ByteArray := prog_5_method_6_code
def yX3_numbersOf : MethodName := ⟨RX3, "numbersOf", "(C)I"⟩
abbrev cX3_readOrder : ByteArray := prog_5_method_7_code
def yX3_readOrder : MethodName := ⟨RX3, "readOrder", "()Z"⟩
abbrev cX3_next : ByteArray := prog_5_method_8_code
def yX3_next : MethodName := ⟨RX3, "next", "()C"⟩
abbrev cX3_readCharacter : ByteArray := prog_5_method_9_code
def yX3_readCharacter : MethodName := ⟨RX3, "readCharacter", "(C)Z"⟩
abbrev cX3_readNumber : ByteArray := prog_5_method_10_code
def yX3_readNumber : MethodName := ⟨RX3, "readNumber", "(I)Z"⟩
def RX4 : String := "CoughBids"
def TX4 : u_T := fun k => match k with
  | 0 => ("CoughBids", "history", "[LCoughBids$Auction;", true)
  | 1 => ("CoughBids", "script", "LCoughBids$Script;", true)
  | 2 => ("CoughBids", "recorded", "I", false)
  | 3 => ("CoughBids", "now", "LCoughBids$Auction;", false)
  | _ => ("CoughBids", "trial", "LCoughBids$Auction;", false)
def tyX4 : Nat → FieldType := fun k => match k with
  | 0 => .array (.object "CoughBids$Auction")
  | 1 => .object "CoughBids$Script"
  | 2 => .int
  | 3 => .object "CoughBids$Auction"
  | _ => .object "CoughBids$Auction"
abbrev wsX40 : List Cond := u_ws RX4 TX4 5
theorem nmX4 : ∀ a, a < 5 → ∀ b, b < 5 → a ≠ b → (TX4 a).2.1 ≠ (TX4 b).2.1 := by decide +kernel
theorem tyX4_ok : ∀ k, k < 5 → parseFieldDescriptor (TX4 k).2.2.1 = some (tyX4 k) := by decide +kernel
abbrev cX4_init : ByteArray := prog_1_method_1_code
def yX4_init : MethodName := ⟨RX4, "<init>", "()V"⟩
abbrev cX4_bidder : ByteArray := prog_1_method_2_code
def yX4_bidder : MethodName := ⟨RX4, "bidder", "(IIII)I"⟩
abbrev cX4_catches : ByteArray := prog_1_method_3_code
def yX4_catches : MethodName := ⟨RX4, "catches", "(II)I"⟩
abbrev cX4_muffle : ByteArray := prog_1_method_4_code
def yX4_muffle : MethodName := ⟨RX4, "muffle", "(II)I"⟩
abbrev cX4_lot : ByteArray := prog_1_method_5_code
def yX4_lot : MethodName := ⟨RX4, "lot", "(II)I"⟩
abbrev cX4_putUp : ByteArray := prog_1_method_6_code
def yX4_putUp : MethodName := ⟨RX4, "putUp", "()I"⟩
abbrev cX4_cough : ByteArray := prog_1_method_7_code
def yX4_cough : MethodName := ⟨RX4, "cough", "(I)I"⟩
abbrev cX4_beats : ByteArray := prog_1_method_8_code
def yX4_beats : MethodName := ⟨RX4, "beats", "(I)I"⟩
abbrev cX4_night : ByteArray := prog_1_method_9_code
def yX4_night : MethodName := ⟨RX4, "night", "()I"⟩
abbrev cX4_set : ByteArray := prog_1_method_10_code
def yX4_set : MethodName := ⟨RX4, "set", "(II)I"⟩
abbrev cX4_bidderOf : ByteArray := prog_1_method_11_code
def yX4_bidderOf : MethodName := ⟨RX4, "bidderOf", "(II)I"⟩
abbrev cX4_at : ByteArray := prog_1_method_12_code
def yX4_at : MethodName := ⟨RX4, "at", "(II)I"⟩
abbrev cX4_up : ByteArray := prog_1_method_13_code
def yX4_up : MethodName := ⟨RX4, "up", "(I)I"⟩
abbrev cX4_waiting : ByteArray := prog_1_method_14_code
def yX4_waiting : MethodName := ⟨RX4, "waiting", "(II)I"⟩
abbrev cX4_book : ByteArray := prog_1_method_15_code
def yX4_book : MethodName := ⟨RX4, "book", "(II)I"⟩
abbrev cX4_why : ByteArray := prog_1_method_16_code
def yX4_why : MethodName := ⟨RX4, "why", "(I)I"⟩
abbrev cX4_ifBeats : ByteArray := prog_1_method_17_code
def yX4_ifBeats : MethodName := ⟨RX4, "ifBeats", "(II)I"⟩
abbrev cX4_goneIn : ByteArray := prog_1_method_18_code
def yX4_goneIn : MethodName := ⟨RX4, "goneIn", "()I"⟩
abbrev cX4_coughing : ByteArray := prog_1_method_19_code
def yX4_coughing : MethodName := ⟨RX4, "coughing", "()I"⟩
abbrev cX4_loudest : ByteArray := prog_1_method_20_code
def yX4_loudest : MethodName := ⟨RX4, "loudest", "()I"⟩
abbrev cX4_ifNights : ByteArray := prog_1_method_21_code
def yX4_ifNights : MethodName := ⟨RX4, "ifNights", "(I)I"⟩
abbrev cX4_mean : ByteArray := prog_1_method_22_code
def yX4_mean : MethodName := ⟨RX4, "mean", "()I"⟩
abbrev cX4_count : ByteArray := prog_1_method_23_code
def yX4_count : MethodName := ⟨RX4, "count", "(I)I"⟩
abbrev cX4_undo : ByteArray := prog_1_method_24_code
def yX4_undo : MethodName := ⟨RX4, "undo", "()I"⟩
abbrev cX4_type : ByteArray := prog_1_method_25_code
def yX4_type : MethodName := ⟨RX4, "type", "(I)I"⟩
abbrev cX4_clearText : ByteArray := prog_1_method_26_code
def yX4_clearText : MethodName := ⟨RX4, "clearText", "()I"⟩
abbrev cX4_fault : ByteArray := prog_1_method_27_code
def yX4_fault : MethodName := ⟨RX4, "fault", "(I)I"⟩
abbrev cX4_play : ByteArray := prog_1_method_28_code
def yX4_play : MethodName := ⟨RX4, "play", "()I"⟩
abbrev cX4_keep : ByteArray := prog_1_method_29_code
def yX4_keep : MethodName := ⟨RX4, "keep", "(I)I"⟩
abbrev cX4_dropOldest : ByteArray := prog_1_method_30_code
def yX4_dropOldest : MethodName := ⟨RX4, "dropOldest", "()V"⟩
abbrev cX4_isWithin : ByteArray := prog_1_method_31_code
def yX4_isWithin : MethodName := ⟨RX4, "isWithin", "(III)Z"⟩
abbrev cX4_isSeat : ByteArray := prog_1_method_32_code
def yX4_isSeat : MethodName := ⟨RX4, "isSeat", "(II)Z"⟩
abbrev cX4_bitsOf : ByteArray := prog_1_method_33_code
def yX4_bitsOf : MethodName := ⟨RX4, "bitsOf", "(F)I"⟩
def RX5 : String := "CoughBidsModel"
def TX5 : u_T := fun k => match k with
  | 0 => ("CoughBidsModel", "s", "[I", true)
  | 1 => ("CoughBidsModel", "past", "[I", true)
  | 2 => ("CoughBidsModel", "held", "[I", true)
  | 3 => ("CoughBidsModel", "spare", "[I", true)
  | 4 => ("CoughBidsModel", "pasts", "I", false)
  | 5 => ("CoughBidsModel", "runs", "Z", false)
  | 6 => ("CoughBidsModel", "text", "[I", true)
  | 7 => ("CoughBidsModel", "typed", "I", false)
  | 8 => ("CoughBidsModel", "spot", "I", false)
  | 9 => ("CoughBidsModel", "from", "I", false)
  | 10 => ("CoughBidsModel", "reason", "I", false)
  | 11 => ("CoughBidsModel", "cause", "I", false)
  | 12 => ("CoughBidsModel", "orders", "I", false)
  | 13 => ("CoughBidsModel", "order", "I", false)
  | _ => ("CoughBidsModel", "numbers", "[I", true)
def tyX5 : Nat → FieldType := fun k => match k with
  | 0 => .array .int
  | 1 => .array .int
  | 2 => .array .int
  | 3 => .array .int
  | 4 => .int
  | 5 => .boolean
  | 6 => .array .int
  | 7 => .int
  | 8 => .int
  | 9 => .int
  | 10 => .int
  | 11 => .int
  | 12 => .int
  | 13 => .int
  | _ => .array .int
abbrev wsX50 : List Cond := u_ws RX5 TX5 15
theorem nmX5 : ∀ a, a < 15 → ∀ b, b < 15 → a ≠ b → (TX5 a).2.1 ≠ (TX5 b).2.1 := by decide +kernel
theorem tyX5_ok : ∀ k, k < 15 → parseFieldDescriptor (TX5 k).2.2.1 = some (tyX5 k) := by decide +kernel
abbrev cX5_init : ByteArray := prog_7_method_1_code
def yX5_init : MethodName := ⟨RX5, "<init>", "()V"⟩
abbrev cX5_in : ByteArray := prog_7_method_3_code
def yX5_in : MethodName := ⟨RX5, "in", "(III)Z"⟩
abbrev cX5_copies : ByteArray := prog_7_method_4_code
def yX5_copies : MethodName := ⟨RX5, "copies", "([I[I)V"⟩
abbrev cX5_changes : ByteArray := prog_7_method_5_code
def yX5_changes : MethodName := ⟨RX5, "changes", "()V"⟩
abbrev cX5_of : ByteArray := prog_7_method_6_code
def yX5_of : MethodName := ⟨RX5, "of", "(II)I"⟩
abbrev cX5_adds : ByteArray := prog_7_method_7_code
def yX5_adds : MethodName := ⟨RX5, "adds", "(III)V"⟩
abbrev cX5_lay : ByteArray := prog_7_method_8_code
def yX5_lay : MethodName := ⟨RX5, "lay", "(III)V"⟩
abbrev cX5_isBidder : ByteArray := prog_7_method_9_code
def yX5_isBidder : MethodName := ⟨RX5, "isBidder", "(I)Z"⟩
abbrev cX5_isSeat : ByteArray := prog_7_method_10_code
def yX5_isSeat : MethodName := ⟨RX5, "isSeat", "(II)Z"⟩
abbrev cX5_seated : ByteArray := prog_7_method_11_code
def yX5_seated : MethodName := ⟨RX5, "seated", "(II)I"⟩
abbrev cX5_loud : ByteArray := prog_7_method_12_code
def yX5_loud : MethodName := ⟨RX5, "loud", "(I)I"⟩
abbrev cX5_asked : ByteArray := prog_7_method_13_code
def yX5_asked : MethodName := ⟨RX5, "asked", "()I"⟩
abbrev cX5_barred : ByteArray := prog_7_method_14_code
def yX5_barred : MethodName := ⟨RX5, "barred", "(I)I"⟩
abbrev cX5_goes : ByteArray := prog_7_method_15_code
def yX5_goes : MethodName := ⟨RX5, "goes", "(I)V"⟩
abbrev cX5_coughs : ByteArray := prog_7_method_16_code
def yX5_coughs : MethodName := ⟨RX5, "coughs", "(II)I"⟩
abbrev cX5_coughsNext : ByteArray := prog_7_method_17_code
def yX5_coughsNext : MethodName := ⟨RX5, "coughsNext", "(I)Z"⟩
abbrev cX5_hammers : ByteArray := prog_7_method_18_code
def yX5_hammers : MethodName := ⟨RX5, "hammers", "()V"⟩
abbrev cX5_beat : ByteArray := prog_7_method_19_code
def yX5_beat : MethodName := ⟨RX5, "beat", "()V"⟩
abbrev cX5_bidder : ByteArray := prog_7_method_20_code
def yX5_bidder : MethodName := ⟨RX5, "bidder", "(IIII)I"⟩
abbrev cX5_catches : ByteArray := prog_7_method_21_code
def yX5_catches : MethodName := ⟨RX5, "catches", "(II)I"⟩
abbrev cX5_muffle : ByteArray := prog_7_method_22_code
def yX5_muffle : MethodName := ⟨RX5, "muffle", "(II)I"⟩
abbrev cX5_lot : ByteArray := prog_7_method_23_code
def yX5_lot : MethodName := ⟨RX5, "lot", "(II)I"⟩
abbrev cX5_putUp : ByteArray := prog_7_method_24_code
def yX5_putUp : MethodName := ⟨RX5, "putUp", "()I"⟩
abbrev cX5_cough : ByteArray := prog_7_method_25_code
def yX5_cough : MethodName := ⟨RX5, "cough", "(I)I"⟩
abbrev cX5_pass : ByteArray := prog_7_method_26_code
def yX5_pass : MethodName := ⟨RX5, "pass", "(I)V"⟩
abbrev cX5_gone : ByteArray := prog_7_method_27_code
def yX5_gone : MethodName := ⟨RX5, "gone", "()I"⟩
abbrev cX5_beats : ByteArray := prog_7_method_28_code
def yX5_beats : MethodName := ⟨RX5, "beats", "(I)I"⟩
abbrev cX5_catchesFrom : ByteArray := prog_7_method_29_code
def yX5_catchesFrom : MethodName := ⟨RX5, "catchesFrom", "(II)Z"⟩
abbrev cX5_nightPasses : ByteArray := prog_7_method_30_code
def yX5_nightPasses : MethodName := ⟨RX5, "nightPasses", "()V"⟩
abbrev cX5_colds : ByteArray := prog_7_method_31_code
def yX5_colds : MethodName := ⟨RX5, "colds", "()I"⟩
abbrev cX5_bits : ByteArray := prog_7_method_32_code
def yX5_bits : MethodName := ⟨RX5, "bits", "(I)I"⟩
abbrev cX5_night : ByteArray := prog_7_method_33_code
def yX5_night : MethodName := ⟨RX5, "night", "()I"⟩
abbrev cX5_set : ByteArray := prog_7_method_34_code
def yX5_set : MethodName := ⟨RX5, "set", "(II)I"⟩
abbrev cX5_bidderOf : ByteArray := prog_7_method_35_code
def yX5_bidderOf : MethodName := ⟨RX5, "bidderOf", "(II)I"⟩
abbrev cX5_at : ByteArray := prog_7_method_36_code
def yX5_at : MethodName := ⟨RX5, "at", "(II)I"⟩
abbrev cX5_up : ByteArray := prog_7_method_37_code
def yX5_up : MethodName := ⟨RX5, "up", "(I)I"⟩
abbrev cX5_waiting : ByteArray := prog_7_method_38_code
def yX5_waiting : MethodName := ⟨RX5, "waiting", "(II)I"⟩
abbrev cX5_book : ByteArray := prog_7_method_39_code
def yX5_book : MethodName := ⟨RX5, "book", "(II)I"⟩
abbrev cX5_why : ByteArray := prog_7_method_40_code
def yX5_why : MethodName := ⟨RX5, "why", "(I)I"⟩
abbrev cX5_ifBeats : ByteArray := prog_7_method_41_code
def yX5_ifBeats : MethodName := ⟨RX5, "ifBeats", "(II)I"⟩
abbrev cX5_goneIn : ByteArray := prog_7_method_42_code
def yX5_goneIn : MethodName := ⟨RX5, "goneIn", "()I"⟩
abbrev cX5_coughing : ByteArray := prog_7_method_43_code
def yX5_coughing : MethodName := ⟨RX5, "coughing", "()I"⟩
abbrev cX5_loudest : ByteArray := prog_7_method_44_code
def yX5_loudest : MethodName := ⟨RX5, "loudest", "()I"⟩
abbrev cX5_ifNights : ByteArray := prog_7_method_45_code
def yX5_ifNights : MethodName := ⟨RX5, "ifNights", "(I)I"⟩
abbrev cX5_mean : ByteArray := prog_7_method_46_code
def yX5_mean : MethodName := ⟨RX5, "mean", "()I"⟩
abbrev cX5_byPurses : ByteArray := prog_7_method_47_code
def yX5_byPurses : MethodName := ⟨RX5, "byPurses", "()I"⟩
abbrev cX5_count : ByteArray := prog_7_method_48_code
def yX5_count : MethodName := ⟨RX5, "count", "(I)I"⟩
abbrev cX5_undo : ByteArray := prog_7_method_49_code
def yX5_undo : MethodName := ⟨RX5, "undo", "()I"⟩
abbrev cX5_type : ByteArray := prog_7_method_50_code
def yX5_type : MethodName := ⟨RX5, "type", "(I)I"⟩
abbrev cX5_clearText : ByteArray := prog_7_method_51_code
def yX5_clearText : MethodName := ⟨RX5, "clearText", "()I"⟩
abbrev cX5_isAt : ByteArray := prog_7_method_52_code
def yX5_isAt : MethodName := ⟨RX5, "isAt", "(II)Z"⟩
abbrev cX5_sign : ByteArray := prog_7_method_53_code
def yX5_sign : MethodName := ⟨RX5, "sign", "(I)Z"⟩
abbrev cX5_numbered : ByteArray := prog_7_method_54_code
def yX5_numbered : MethodName := ⟨RX5, "numbered", "(I)Z"⟩
abbrev cX5_numbersOf : ByteArray := prog_7_method_55_code
def yX5_numbersOf : MethodName := ⟨RX5, "numbersOf", "(I)I"⟩
abbrev cX5_parses : ByteArray := prog_7_method_56_code
def yX5_parses : MethodName := ⟨RX5, "parses", "()Z"⟩
abbrev cX5_does : ByteArray := prog_7_method_57_code
def yX5_does : MethodName := ⟨RX5, "does", "()I"⟩
abbrev cX5_plays : ByteArray := prog_7_method_58_code
def yX5_plays : MethodName := ⟨RX5, "plays", "()Z"⟩
abbrev cX5_fault : ByteArray := prog_7_method_59_code
def yX5_fault : MethodName := ⟨RX5, "fault", "(I)I"⟩
abbrev cX5_play : ByteArray := prog_7_method_60_code
def yX5_play : MethodName := ⟨RX5, "play", "()I"⟩
def RJxf58ca : String := "java/lang/Float"
def TJxf58ca : u_T := fun k => match k with
  | _ => ("", "", "", false)
def tyJxf58ca : Nat → FieldType := fun k => match k with
  | _ => .int
abbrev wsJxf58ca0 : List Cond := u_ws RJxf58ca TJxf58ca 0
theorem nmJxf58ca : ∀ a, a < 0 → ∀ b, b < 0 → a ≠ b → (TJxf58ca a).2.1 ≠ (TJxf58ca b).2.1 := by decide +kernel
theorem tyJxf58ca_ok : ∀ k, k < 0 → parseFieldDescriptor (TJxf58ca k).2.2.1 = some (tyJxf58ca k) := by decide +kernel
abbrev cJxf58ca_isNaN_12338 : ByteArray := prog_8_method_6_code
def yJxf58ca_isNaN_12338 : MethodName := ⟨RJxf58ca, "isNaN", "(F)Z"⟩
abbrev cJxf58ca_floatToIntBits_5c35a : ByteArray := prog_8_method_24_code
def yJxf58ca_floatToIntBits_5c35a : MethodName := ⟨RJxf58ca, "floatToIntBits", "(F)I"⟩
def RJ6 : String := "java/lang/Integer"
def TJ6 : u_T := fun k => match k with
  | _ => ("", "", "", false)
def tyJ6 : Nat → FieldType := fun k => match k with
  | _ => .int
abbrev wsJ60 : List Cond := u_ws RJ6 TJ6 0
theorem nmJ6 : ∀ a, a < 0 → ∀ b, b < 0 → a ≠ b → (TJ6 a).2.1 ≠ (TJ6 b).2.1 := by decide +kernel
theorem tyJ6_ok : ∀ k, k < 0 → parseFieldDescriptor (TJ6 k).2.2.1 = some (tyJ6 k) := by decide +kernel
abbrev cJ6_bitCount_0f7a4 : ByteArray := prog_9_method_49_code
def yJ6_bitCount_0f7a4 : MethodName := ⟨RJ6, "bitCount", "(I)I"⟩
def RJ9 : String := "java/lang/Math"
def TJ9 : u_T := fun k => match k with
  | _ => ("", "", "", false)
def tyJ9 : Nat → FieldType := fun k => match k with
  | _ => .int
abbrev wsJ90 : List Cond := u_ws RJ9 TJ9 0
theorem nmJ9 : ∀ a, a < 0 → ∀ b, b < 0 → a ≠ b → (TJ9 a).2.1 ≠ (TJ9 b).2.1 := by decide +kernel
theorem tyJ9_ok : ∀ k, k < 0 → parseFieldDescriptor (TJ9 k).2.2.1 = some (tyJ9 k) := by decide +kernel
abbrev cJ9_max_7cf53 : ByteArray := prog_10_method_65_code
def yJ9_max_7cf53 : MethodName := ⟨RJ9, "max", "(II)I"⟩
abbrev cJ9_min_7cf53 : ByteArray := prog_10_method_69_code
def yJ9_min_7cf53 : MethodName := ⟨RJ9, "min", "(II)I"⟩
def RJ10 : String := "java/lang/System"
def TJ10 : u_T := fun k => match k with
  | _ => ("", "", "", false)
def tyJ10 : Nat → FieldType := fun k => match k with
  | _ => .int
abbrev wsJ100 : List Cond := u_ws RJ10 TJ10 0
theorem nmJ10 : ∀ a, a < 0 → ∀ b, b < 0 → a ≠ b → (TJ10 a).2.1 ≠ (TJ10 b).2.1 := by decide +kernel
theorem tyJ10_ok : ∀ k, k < 0 → parseFieldDescriptor (TJ10 k).2.2.1 = some (tyJ10 k) := by decide +kernel
def RL : String := "CoughBidsLaw"
abbrev cL_law : ByteArray := code
def yL_law : MethodName := ⟨RL, "law", "([I)Z"⟩
abbrev vwCl : List vw_C := [(RX0, TX0, 17), (RX1, TX1, 11), (RX2, TX2, 10), (RX3, TX3, 9), (RX4, TX4, 5), (RX5, TX5, 15)]
end
section
/-- the words of the tables that last -/
def zWd : List Cond := lw_tbl.filter goodWord
-- the abstract heap: objects numbered in the order in which they come; zS says what each is
abbrev zH : Type := Nat → Nat → Value
abbrev zM : Type := MethodName × ByteArray × Nat × Option FieldType × Nat × Nat × Nat
abbrev zMn (M : zM) : MethodName := M.1
abbrev zMb (M : zM) : ByteArray := M.2.1
abbrev zMl (M : zM) : Nat := M.2.2.1
abbrev zMr (M : zM) : Option FieldType := M.2.2.2.1
abbrev zMh (M : zM) : Nat := M.2.2.2.2.1
abbrev zMc (M : zM) : Nat := M.2.2.2.2.2.1
abbrev zMs (M : zM) : Nat := M.2.2.2.2.2.2
abbrev zMo (M : zM) : String := M.1.cls
def zRm (M : zM) : Room := { frames := zMh M, cells := zMc M, slots := zMs M, locals := 30 * zMh M }
/-- the place o of an auction: what lies there (0 to 5 objects of the classes in vwCl, 10 int[], 11 char[], 12 to 14 arrays of auctions, bidders, lots), and how long it is -/
def zA (o : Nat) : Nat × Nat := if o = 0 then (0, 0) else if o = 1 then (13, 12) else if o < 14 then (1, 0) else if o = 14 then (14, 8) else if o < 23 then (2, 0) else if o = 23 then (14, 8) else if o < 32 then (2, 0) else if o = 32 then (10, 4) else if o = 33 then (10, 3) else (2, 0)
def zS (i : Nat) : Nat × Nat := if i = 0 then (4, 0) else if i = 1 then (12, 4) else if i < 142 then zA ((i - 2) % 35) else if i = 142 then (3, 0) else if i = 143 then (11, 60) else if i = 144 then (10, 4) else if i < 215 then zA ((i - 145) % 35) else if i = 215 then (5, 0) else if i = 216 then (10, 215) else if i = 217 then (10, 860) else if i = 218 then (10, 215) else if i = 219 then (10, 215) else if i = 220 then (10, 60) else if i = 221 then (10, 4) else (99, 0)
def zF (c : Nat) : Nat := if c = 0 then 17 else if c = 1 then 11 else if c = 2 then 10 else if c = 3 then 9 else if c = 4 then 5 else 15
def zZ (i : Nat) : Nat := if (zS i).1 < 10 then zF (zS i).1 else (zS i).2
def zN : Nat → Nat
  | 0 => 0
  | n + 1 => zN n + zZ n
/-- an abstract value at the machine: the script is number 1000 -/
def zV (b z : Nat) (v : Value) : Value := match v with
  | .ref a => .ref (if a = 1000 then b else z + a)
  | u => u
def zI (v : Value) : Int32 := match v with
  | .int x => x
  | _ => 0
def zQ (b z : Nat) (v : Value) : Option Nat := match v with
  | .ref a => some (if a = 1000 then b else z + a)
  | _ => none
def zE (cA : Nat → ClassId) (b z i : Nat) (g : Nat → Value) : va_E :=
  if (zS i).1 < 10 then .inr ((zS i).1, (List.range (zF (zS i).1)).map (fun k => zV b z (g k)))
  else if (zS i).1 < 12 then .inl (cA ((zS i).1 - 10), (zS i).2, .inl (fun k => zI (g k)))
  else .inl (cA ((zS i).1 - 10), (zS i).2, .inr (.inr (.inr (.inr (fun k => zQ b z (g k))))))
def zW (cA : Nat → ClassId) (b z nx : Nat) (h : zH) : va_W := (List.range nx).map (fun i => (z + i, zE cA b z i (h i)))
def zT (cA : Nat → ClassId) : List (ClassId × FieldType) := [(cA 0, .int), (cA 1, .char), (cA 2, .object RX0), (cA 3, .object RX1), (cA 4, .object RX2)]
/-- the words of private members of nest mates -/
def zNf : List (String × Nat × String × String × String × String) := [("CoughBids$Auction", 87, "CoughBids$Bidder", "row", "I", "CoughBids"), ("CoughBids$Auction", 90, "CoughBids$Bidder", "seat", "I", "CoughBids"), ("CoughBids$Auction", 144, "CoughBids$Bidder", "purse", "I", "CoughBids"), ("CoughBids$Auction", 228, "CoughBids$Bidder", "purseAtFirst", "I", "CoughBids"), ("CoughBids$Auction", 160, "CoughBids$Bidder", "strength", "I", "CoughBids"), ("CoughBids$Auction", 117, "CoughBids$Bidder", "cold", "I", "CoughBids"), ("CoughBids$Auction", 120, "CoughBids$Bidder", "muffler", "I", "CoughBids"), ("CoughBids$Auction", 150, "CoughBids$Bidder", "coughs", "I", "CoughBids"), ("CoughBids$Auction", 159, "CoughBids$Bidder", "bids", "I", "CoughBids"), ("CoughBids$Auction", 127, "CoughBids$Lot", "reserve", "I", "CoughBids"), ("CoughBids", 120, "CoughBids$Lot", "reserve", "I", "CoughBids"), ("CoughBids", 123, "CoughBids$Lot", "step", "I", "CoughBids"), ("CoughBids$Auction", 196, "CoughBids$Lot", "latestBid", "I", "CoughBids"), ("CoughBids$Auction", 141, "CoughBids$Lot", "latestBidder", "I", "CoughBids"), ("CoughBids$Auction", 193, "CoughBids$Lot", "isLatestForCold", "Z", "CoughBids"), ("CoughBids$Auction", 184, "CoughBids$Lot", "hasBidSinceBeat", "Z", "CoughBids"), ("CoughBids$Auction", 166, "CoughBids$Lot", "doubts", "I", "CoughBids"), ("CoughBids$Auction", 187, "CoughBids$Lot", "hush", "I", "CoughBids"), ("CoughBids$Auction", 130, "CoughBids$Lot", "fate", "I", "CoughBids"), ("CoughBids", 78, "CoughBids$Auction", "bidders", "[LCoughBids$Bidder;", "CoughBids"), ("CoughBids", 116, "CoughBids$Auction", "queue", "[LCoughBids$Lot;", "CoughBids"), ("CoughBids", 129, "CoughBids$Auction", "gone", "[LCoughBids$Lot;", "CoughBids"), ("CoughBids", 147, "CoughBids$Auction", "fates", "[I", "CoughBids"), ("CoughBids", 154, "CoughBids$Auction", "bidderCount", "I", "CoughBids"), ("CoughBids", 112, "CoughBids$Auction", "waitingCount", "I", "CoughBids"), ("CoughBids", 126, "CoughBids$Auction", "goneCount", "I", "CoughBids"), ("CoughBids", 98, "CoughBids$Auction", "isUp", "Z", "CoughBids"), ("CoughBids", 103, "CoughBids$Auction", "raised", "LCoughBids$Lot;", "CoughBids"), ("CoughBids", 151, "CoughBids$Auction", "coinsPaid", "I", "CoughBids"), ("CoughBids", 141, "CoughBids$Auction", "bids", "I", "CoughBids"), ("CoughBids", 144, "CoughBids$Auction", "doubts", "I", "CoughBids"), ("CoughBids", 178, "CoughBids$Script", "length", "I", "CoughBids"), ("CoughBids", 203, "CoughBids$Script", "ordersDone", "I", "CoughBids"), ("CoughBids", 194, "CoughBids$Script", "faultPosition", "I", "CoughBids"), ("CoughBids", 197, "CoughBids$Script", "faultReason", "I", "CoughBids"), ("CoughBids", 200, "CoughBids$Script", "faultCause", "I", "CoughBids")]
def zNm : List (String × Nat × MethodName × String) := [("CoughBids$Auction", 17, ⟨"CoughBids$Bidder", "<init>", "()V"⟩, "CoughBids"), ("CoughBids$Auction", 24, ⟨"CoughBids$Lot", "<init>", "()V"⟩, "CoughBids"), ("CoughBids", 18, ⟨"CoughBids$Script", "<init>", "()V"⟩, "CoughBids"), ("CoughBids$Auction", 94, ⟨"CoughBids", "isSeat", "(II)Z"⟩, "CoughBids"), ("CoughBids$Auction", 98, ⟨"CoughBids", "isWithin", "(III)Z"⟩, "CoughBids"), ("CoughBids$Script", 23, ⟨"CoughBids", "isWithin", "(III)Z"⟩, "CoughBids")]
def zNw : List Cond := zNf.map (fun q => Cond.fieldLinkNest q.1 q.2.1 q.2.2.1 q.2.2.2.1 q.2.2.2.2.1 q.2.2.2.2.2) ++ zNm.map (fun q => Cond.methodLinkNest q.1 q.2.1 q.2.2.1 q.2.2.2)
def zAo : List String := [RX0, RX1, RX2]
def zR (D : va_G) (cA : Nat → ClassId) (b z nx : Nat) (h : zH) (H : Heap) : Prop := H.size = z + nx ∧ nx ≤ 1000 ∧ va_P D vwCl (zW cA b z nx h) H
/-- locals: .null says nothing of a place -/
def zL (b z nL : Nat) (la : Array Slot) (ls : List Value) : Prop := la.size = nL ∧ lv_wf la ∧ ls.length = nL ∧ ∀ (i : Nat) (v : Value), ls[i]? = some v → v ≠ .null → v.category = 1 ∧ la[i]? = some (.val (zV b z v))
def zFc (M : zM) (R : Room) (s : State) (args : Array Value) (D : va_G) (cA : Nat → ClassId) (z : Nat) : Prop :=
  (∀ w ∈ zWd, w.before args s = true) ∧ (∀ w ∈ zNw, va_Nw w s) ∧ (∀ C ∈ zAo, va_AO C s) ∧ va_K D vwCl (zT cA) s ∧ z ≤ s.heap.size ∧ (zMh M ≤ R.frames ∧ 30 * zMh M ≤ R.locals ∧ zMc M ≤ R.cells ∧ zMs M ≤ R.slots)
def zCx (M : zM) (p : Program) (R : Room) (s : State) (m : MethodId) (args : Array Value) (meth : Method) (c : Code) (D : va_G) (cA : Nat → ClassId) (z : Nat) : Prop :=
  p.tables.exec = Jvm.exec ∧ c.code = zMb M ∧ c.maxLocals = zMl M ∧ s.vm.findClass (zMo M) = some m.cls ∧ ((zMn M).name = "<init>" → meth.name = "<init>") ∧ zFc M R s args D cA z
def zRet (M : zM) (pc : Nat) (v : Option Int32) : Prop := match v with
  | some x => decode (zMb M) pc = .ok (.ireturn, 1) ∧ ∃ ty, zMr M = some ty ∧ narrow ty (.int x) = .int x
  | none => decode (zMb M) pc = .ok (.return_, 1) ∧ zMr M = none
abbrev zQt : Type := Option Int32 → Nat → zH → Prop
def zJ (X : Nat × (Nat → Int32)) (M : zM) (n0 pc : Nat) (ls st : List Value) (nx : Nat) (h : zH) (Q : zQt) : Prop :=
  ∀ (p : Program) (l : Launch) (e : Env) (R : Room) (s : State) (m : MethodId) (args : Array Value) (below : List Frame) (meth : Method) (c : Code) (D : va_G) (cA : Nat → ClassId) (b z : Nat) (H : Heap) (locs : List Loc) (Qm : State → Prop) (la : Array Slot),
    zCx M p R s m args meth c D cA z → ((zMn M).name = "law" → va_X b X.1 X.2 s s.heap ∧ b < s.heap.size ∧ b < z) → zL b z (zMl M) la ls → zR D cA b z nx h H → va_S (fun q => z ≤ q) s.heap H locs →
    (∀ (v : Option Int32) (nx' : Nat) (h' : zH) (H' : Heap) (locs' : List Loc) (pc' : Nat) (la' : Array Slot), Q v nx' h' → zRet M pc' v → zR D cA b z nx' h' H' → va_S (fun q => z ≤ q) s.heap H' locs' →
      W p l e R s m args below meth c H' locs' (nx' - n0) (zN nx' - zN n0) Qm (F0 m pc' la' ((v.map Value.int).toList))) →
    W p l e R s m args below meth c H locs (nx - n0) (zN nx - zN n0) Qm (F0 m pc la (st.map (zV b z)))
theorem z_cat {b z : Nat} {v : Value} (h : (zV 0 0 v).category = 1) : (zV b z v).category = 1 := by
  cases v <;> first | exact h | rfl
theorem z_cat1 {b z : Nat} {v : Value} (h : v.category = 1) : (zV b z v).category = 1 := by
  cases v <;> first | exact h | rfl
theorem z_at {b z nL i : Nat} {la : Array Slot} {ls : List Value} {v : Value} (hl : zL b z nL la ls) (hi : ls[i]? = some v) (hv : v ≠ .null) : la[i]? = some (.val (zV b z v)) := (hl.2.2.2 i v hi hv).2
/-- the locals as the kit has them -/
def z_lv (b z : Nat) (ls : List Value) : List (Nat × Value) := (List.range ls.length).filterMap (fun (i : Nat) => match (ls[i]? : Option Value) with
  | none => none
  | some Value.null => none
  | some v => some (i, zV b z v))
theorem z_lv_mem {b z : Nat} {ls : List Value} {q : Nat × Value} : q ∈ z_lv b z ls ↔ ∃ v, ls[q.1]? = some v ∧ v ≠ .null ∧ q.2 = zV b z v := by
  unfold z_lv
  rw [List.mem_filterMap]
  constructor
  · rintro ⟨i, hi, h⟩
    cases hv : ls[i]? with
    | none => rw [hv] at h; cases h
    | some v =>
      rw [hv] at h
      cases v <;> first | (simp only [Option.some.injEq] at h; subst h; exact ⟨_, hv, (fun w => by cases w), rfl⟩) | (exact absurd h (fun w => by cases w))
  · rintro ⟨v, h1, h2, h3⟩
    refine ⟨q.1, List.mem_range.mpr (List.getElem?_eq_some_iff.mp h1).1, ?_⟩
    rw [h1]
    obtain ⟨q1, q2⟩ := q
    subst h3
    cases v <;> first | exact absurd rfl h2 | rfl
theorem z_has {b z nL : Nat} {la : Array Slot} {ls : List Value} (hl : zL b z nL la ls) : lv_has la nL (z_lv b z ls) := by
  refine ⟨hl.1, hl.2.1, fun q hq => ?_⟩
  obtain ⟨v, h1, h2, h3⟩ := z_lv_mem.mp hq
  rw [h3]
  exact (hl.2.2.2 _ v h1 h2).2
theorem z_has_at {b z nL i : Nat} {la : Array Slot} {ls : List Value} {v : Value} (hl : zL b z nL la ls) (hi : ls[i]? = some v) (hv : v ≠ .null) : ∃ k : Nat, (z_lv b z ls)[k]? = some (i, zV b z v) :=
  List.getElem?_of_mem (z_lv_mem.mpr ⟨v, hi, hv, rfl⟩)
theorem z_put {b z nL i : Nat} {la la1 : Array Slot} {ls : List Value} {v : Value} (hl : zL b z nL la ls) (hn : i < nL) (hc : v.category = 1) (h1 : lv_has la1 nL ((i, zV b z v) :: (z_lv b z ls).filter (fun q => !(q.1 == i) && !(q.1 + 1 == i && q.2.category == 2)))) : zL b z nL la1 (ls.set i v) := by
  refine ⟨h1.1, h1.2.1, by rw [List.length_set]; exact hl.2.2.1, fun j u hu hnu => ?_⟩
  by_cases hj : j = i
  · subst hj
    rw [List.getElem?_set_self (by rw [hl.2.2.1]; exact hn)] at hu
    cases hu
    exact ⟨hc, h1.2.2 (j, zV b z v) List.mem_cons_self⟩
  · rw [List.getElem?_set_ne (Ne.symm hj)] at hu
    have h2 := hl.2.2.2 j u hu hnu
    refine ⟨h2.1, h1.2.2 (j, zV b z u) (List.mem_cons_of_mem _ (List.mem_filter.mpr ⟨z_lv_mem.mpr ⟨u, hu, hnu, rfl⟩, ?_⟩))⟩
    have h3 : (zV b z u).category = 1 := z_cat1 h2.1
    simp [hj, h3]
section ZJ
variable {X : Nat × (Nat → Int32)} {M : zM} {n0 pc : Nat} {ls st : List Value} {nx : Nat} {h : zH} {Q : zQt}
theorem j_iconst {n : Int} {v : Int32} (hd : decode (zMb M) pc = .ok (.iconst n, 1)) (hv : Int32.ofInt n = v) (kk : zJ X M n0 (pc + 1) ls (.int v :: st) nx h Q) : zJ X M n0 pc ls (st) nx h Q := by
  intro p l e R s m args below meth c D cA b z H locs Qm la C hX hl hw hS hend
  exact lv_iconst C.1 C.2.1 hd hv (kk p l e R s m args below meth c D cA b z H locs Qm la C hX hl hw hS hend)
theorem j_bipush {n : Int} {v : Int32} (hd : decode (zMb M) pc = .ok (.bipush n, 2)) (hv : (Int8.ofInt n).toInt32 = v) (kk : zJ X M n0 (pc + 2) ls (.int v :: st) nx h Q) : zJ X M n0 pc ls (st) nx h Q := by
  intro p l e R s m args below meth c D cA b z H locs Qm la C hX hl hw hS hend
  exact lv_bipush C.1 C.2.1 hd hv (kk p l e R s m args below meth c D cA b z H locs Qm la C hX hl hw hS hend)
theorem j_sipush {n : Int} {v : Int32} (hd : decode (zMb M) pc = .ok (.sipush n, 3)) (hv : (Int16.ofInt n).toInt32 = v) (kk : zJ X M n0 (pc + 3) ls (.int v :: st) nx h Q) : zJ X M n0 pc ls (st) nx h Q := by
  intro p l e R s m args below meth c D cA b z H locs Qm la C hX hl hw hS hend
  exact lv_sipush C.1 C.2.1 hd hv (kk p l e R s m args below meth c D cA b z H locs Qm la C hX hl hw hS hend)
theorem j_iadd {x y : Int32} (hd : decode (zMb M) pc = .ok (.iadd, 1))  (kk : zJ X M n0 (pc + 1) ls (.int (x + y) :: st) nx h Q) : zJ X M n0 pc ls (.int y :: .int x :: st) nx h Q := by
  intro p l e R s m args below meth c D cA b z H locs Qm la C hX hl hw hS hend
  exact lv_iadd C.1 C.2.1 hd (kk p l e R s m args below meth c D cA b z H locs Qm la C hX hl hw hS hend)
theorem j_isub {x y : Int32} (hd : decode (zMb M) pc = .ok (.isub, 1))  (kk : zJ X M n0 (pc + 1) ls (.int (x - y) :: st) nx h Q) : zJ X M n0 pc ls (.int y :: .int x :: st) nx h Q := by
  intro p l e R s m args below meth c D cA b z H locs Qm la C hX hl hw hS hend
  exact lv_isub C.1 C.2.1 hd (kk p l e R s m args below meth c D cA b z H locs Qm la C hX hl hw hS hend)
theorem j_imul {x y : Int32} (hd : decode (zMb M) pc = .ok (.imul, 1))  (kk : zJ X M n0 (pc + 1) ls (.int (x * y) :: st) nx h Q) : zJ X M n0 pc ls (.int y :: .int x :: st) nx h Q := by
  intro p l e R s m args below meth c D cA b z H locs Qm la C hX hl hw hS hend
  exact lv_imul C.1 C.2.1 hd (kk p l e R s m args below meth c D cA b z H locs Qm la C hX hl hw hS hend)
theorem j_iand {x y : Int32} (hd : decode (zMb M) pc = .ok (.iand, 1))  (kk : zJ X M n0 (pc + 1) ls (.int (x &&& y) :: st) nx h Q) : zJ X M n0 pc ls (.int y :: .int x :: st) nx h Q := by
  intro p l e R s m args below meth c D cA b z H locs Qm la C hX hl hw hS hend
  exact lv_iand C.1 C.2.1 hd (kk p l e R s m args below meth c D cA b z H locs Qm la C hX hl hw hS hend)
theorem j_ior {x y : Int32} (hd : decode (zMb M) pc = .ok (.ior, 1))  (kk : zJ X M n0 (pc + 1) ls (.int (x ||| y) :: st) nx h Q) : zJ X M n0 pc ls (.int y :: .int x :: st) nx h Q := by
  intro p l e R s m args below meth c D cA b z H locs Qm la C hX hl hw hS hend
  exact lv_ior C.1 C.2.1 hd (kk p l e R s m args below meth c D cA b z H locs Qm la C hX hl hw hS hend)
theorem j_ishl {x y : Int32} (hd : decode (zMb M) pc = .ok (.ishl, 1))  (kk : zJ X M n0 (pc + 1) ls (.int (x <<< (y &&& 31)) :: st) nx h Q) : zJ X M n0 pc ls (.int y :: .int x :: st) nx h Q := by
  intro p l e R s m args below meth c D cA b z H locs Qm la C hX hl hw hS hend
  exact lv_ishl C.1 C.2.1 hd (kk p l e R s m args below meth c D cA b z H locs Qm la C hX hl hw hS hend)
theorem j_ishr {x y : Int32} (hd : decode (zMb M) pc = .ok (.ishr, 1))  (kk : zJ X M n0 (pc + 1) ls (.int (x >>> (y &&& 31)) :: st) nx h Q) : zJ X M n0 pc ls (.int y :: .int x :: st) nx h Q := by
  intro p l e R s m args below meth c D cA b z H locs Qm la C hX hl hw hS hend
  exact lv_ishr C.1 C.2.1 hd (kk p l e R s m args below meth c D cA b z H locs Qm la C hX hl hw hS hend)
theorem j_iushr {x y : Int32} (hd : decode (zMb M) pc = .ok (.iushr, 1))  (kk : zJ X M n0 (pc + 1) ls (.int (x.toUInt32 >>> (y.toUInt32 &&& Int32.toUInt32 31)).toInt32 :: st) nx h Q) : zJ X M n0 pc ls (.int y :: .int x :: st) nx h Q := by
  intro p l e R s m args below meth c D cA b z H locs Qm la C hX hl hw hS hend
  exact lv_iushr C.1 C.2.1 hd rfl (kk p l e R s m args below meth c D cA b z H locs Qm la C hX hl hw hS hend)
theorem j_idiv {x y : Int32} (hd : decode (zMb M) pc = .ok (.idiv, 1)) (hne : ¬ y = 0) (kk : zJ X M n0 (pc + 1) ls (.int (x / y) :: st) nx h Q) : zJ X M n0 pc ls (.int y :: .int x :: st) nx h Q := by
  intro p l e R s m args below meth c D cA b z H locs Qm la C hX hl hw hS hend
  exact lv_idiv C.1 C.2.1 hd hne (kk p l e R s m args below meth c D cA b z H locs Qm la C hX hl hw hS hend)
theorem j_irem {x y : Int32} (hd : decode (zMb M) pc = .ok (.irem, 1)) (hne : ¬ y = 0) (kk : zJ X M n0 (pc + 1) ls (.int (x - x / y * y) :: st) nx h Q) : zJ X M n0 pc ls (.int y :: .int x :: st) nx h Q := by
  intro p l e R s m args below meth c D cA b z H locs Qm la C hX hl hw hS hend
  exact lv_irem C.1 C.2.1 hd hne (kk p l e R s m args below meth c D cA b z H locs Qm la C hX hl hw hS hend)
theorem j_ineg {x : Int32} (hd : decode (zMb M) pc = .ok (.ineg, 1))  (kk : zJ X M n0 (pc + 1) ls (.int (0 - x) :: st) nx h Q) : zJ X M n0 pc ls (.int x :: st) nx h Q := by
  intro p l e R s m args below meth c D cA b z H locs Qm la C hX hl hw hS hend
  exact lv_ineg C.1 C.2.1 hd (kk p l e R s m args below meth c D cA b z H locs Qm la C hX hl hw hS hend)
theorem j_i2c {x : Int32} (hd : decode (zMb M) pc = .ok (.i2c, 1))  (kk : zJ X M n0 (pc + 1) ls (.int (x.toUInt32 % 65536).toInt32 :: st) nx h Q) : zJ X M n0 pc ls (.int x :: st) nx h Q := by
  intro p l e R s m args below meth c D cA b z H locs Qm la C hX hl hw hS hend
  exact lv_i2c C.1 C.2.1 hd rfl (kk p l e R s m args below meth c D cA b z H locs Qm la C hX hl hw hS hend)
theorem j_i2f {x : Int32} (hd : decode (zMb M) pc = .ok (.i2f, 1))  (kk : zJ X M n0 (pc + 1) ls (.float (FP.i2f x) :: st) nx h Q) : zJ X M n0 pc ls (.int x :: st) nx h Q := by
  intro p l e R s m args below meth c D cA b z H locs Qm la C hX hl hw hS hend
  exact lv_i2f C.1 C.2.1 hd (kk p l e R s m args below meth c D cA b z H locs Qm la C hX hl hw hS hend)
theorem j_f2i {x : UInt32} (hd : decode (zMb M) pc = .ok (.f2i, 1))  (kk : zJ X M n0 (pc + 1) ls (.int (FP.f2i x) :: st) nx h Q) : zJ X M n0 pc ls (.float x :: st) nx h Q := by
  intro p l e R s m args below meth c D cA b z H locs Qm la C hX hl hw hS hend
  exact lv_f2i C.1 C.2.1 hd (kk p l e R s m args below meth c D cA b z H locs Qm la C hX hl hw hS hend)
theorem j_fcmp {x y : UInt32} {op : CmpOp} (hd : decode (zMb M) pc = .ok (.fcmp op, 1))  (kk : zJ X M n0 (pc + 1) ls (.int (Op.cmpValue (FP.fcmp x y) op) :: st) nx h Q) : zJ X M n0 pc ls (.float y :: .float x :: st) nx h Q := by
  intro p l e R s m args below meth c D cA b z H locs Qm la C hX hl hw hS hend
  exact lv_fcmp C.1 C.2.1 hd (kk p l e R s m args below meth c D cA b z H locs Qm la C hX hl hw hS hend)
theorem j_fsub {x y : UInt32} (hd : decode (zMb M) pc = .ok (.fsub, 1)) (hne : vf_n32 (FP.fsub x y)) (kk : zJ X M n0 (pc + 1) ls (.float (FP.fsub x y) :: st) nx h Q) : zJ X M n0 pc ls (.float y :: .float x :: st) nx h Q := by
  intro p l e R s m args below meth c D cA b z H locs Qm la C hX hl hw hS hend
  exact lv_fsub C.1 C.2.1 hd hne (kk p l e R s m args below meth c D cA b z H locs Qm la C hX hl hw hS hend)
theorem j_fmul {x y : UInt32} (hd : decode (zMb M) pc = .ok (.fmul, 1)) (hne : vf_n32 (FP.fmul x y)) (kk : zJ X M n0 (pc + 1) ls (.float (FP.fmul x y) :: st) nx h Q) : zJ X M n0 pc ls (.float y :: .float x :: st) nx h Q := by
  intro p l e R s m args below meth c D cA b z H locs Qm la C hX hl hw hS hend
  exact lv_fmul C.1 C.2.1 hd hne (kk p l e R s m args below meth c D cA b z H locs Qm la C hX hl hw hS hend)
theorem j_fdiv {x y : UInt32} (hd : decode (zMb M) pc = .ok (.fdiv, 1)) (hne : vf_n32 (FP.fdiv x y)) (kk : zJ X M n0 (pc + 1) ls (.float (FP.fdiv x y) :: st) nx h Q) : zJ X M n0 pc ls (.float y :: .float x :: st) nx h Q := by
  intro p l e R s m args below meth c D cA b z H locs Qm la C hX hl hw hS hend
  exact lv_fdiv C.1 C.2.1 hd hne (kk p l e R s m args below meth c D cA b z H locs Qm la C hX hl hw hS hend)
theorem j_fconst1  (hd : decode (zMb M) pc = .ok (.fconst 1, 1))  (kk : zJ X M n0 (pc + 1) ls (.float 0x3f800000 :: st) nx h Q) : zJ X M n0 pc ls (st) nx h Q := by
  intro p l e R s m args below meth c D cA b z H locs Qm la C hX hl hw hS hend
  exact lv_fconst1 C.1 C.2.1 hd (kk p l e R s m args below meth c D cA b z H locs Qm la C hX hl hw hS hend)
theorem j_fconst2  (hd : decode (zMb M) pc = .ok (.fconst 2, 1))  (kk : zJ X M n0 (pc + 1) ls (.float 0x40000000 :: st) nx h Q) : zJ X M n0 pc ls (st) nx h Q := by
  intro p l e R s m args below meth c D cA b z H locs Qm la C hX hl hw hS hend
  exact lv_fconst2 C.1 C.2.1 hd (kk p l e R s m args below meth c D cA b z H locs Qm la C hX hl hw hS hend)
theorem j_ldc {i : Nat} {v : Int32} (hd : decode (zMb M) pc = .ok (.ldc i, 2)) (hc : Cond.constant (zMo M) i v ∈ zWd) (kk : zJ X M n0 (pc + 2) ls (.int v :: st) nx h Q) : zJ X M n0 pc ls (st) nx h Q := by
  intro p l e R s m args below meth c D cA b z H locs Qm la C hX hl hw hS hend
  exact lv_ldc C.1 C.2.1 C.2.2.2.1 (C.2.2.2.2.2.1 _ hc) hd (kk p l e R s m args below meth c D cA b z H locs Qm la C hX hl hw hS hend)
theorem j_ldcf {i : Nat} {v : UInt32} (hd : decode (zMb M) pc = .ok (.ldc i, 2)) (hc : Cond.constantFloat (zMo M) i v ∈ zWd) (kk : zJ X M n0 (pc + 2) ls (.float v :: st) nx h Q) : zJ X M n0 pc ls (st) nx h Q := by
  intro p l e R s m args below meth c D cA b z H locs Qm la C hX hl hw hS hend
  exact lv_ldcf C.1 C.2.1 C.2.2.2.1 (C.2.2.2.2.2.1 _ hc) hd (kk p l e R s m args below meth c D cA b z H locs Qm la C hX hl hw hS hend)
theorem j_dup {v : Value} (hd : decode (zMb M) pc = .ok (.dup, 1)) (hv : (zV 0 0 v).category = 1) (kk : zJ X M n0 (pc + 1) ls (v :: v :: st) nx h Q) : zJ X M n0 pc ls (v :: st) nx h Q := by
  intro p l e R s m args below meth c D cA b z H locs Qm la C hX hl hw hS hend
  exact lv_dup C.1 C.2.1 hd (z_cat hv) (kk p l e R s m args below meth c D cA b z H locs Qm la C hX hl hw hS hend)
theorem j_pop {v : Value} (hd : decode (zMb M) pc = .ok (.pop, 1)) (hv : (zV 0 0 v).category = 1) (kk : zJ X M n0 (pc + 1) ls (st) nx h Q) : zJ X M n0 pc ls (v :: st) nx h Q := by
  intro p l e R s m args below meth c D cA b z H locs Qm la C hX hl hw hS hend
  exact lv_pop C.1 C.2.1 hd (z_cat hv) (kk p l e R s m args below meth c D cA b z H locs Qm la C hX hl hw hS hend)
theorem j_dup2 {v u : Value} (hd : decode (zMb M) pc = .ok (.dup2, 1)) (hv : (zV 0 0 v).category = 1) (hu : (zV 0 0 u).category = 1) (kk : zJ X M n0 (pc + 1) ls (v :: u :: v :: u :: st) nx h Q) : zJ X M n0 pc ls (v :: u :: st) nx h Q := by
  intro p l e R s m args below meth c D cA b z H locs Qm la C hX hl hw hS hend
  exact lv_dup2_11 C.1 C.2.1 hd (z_cat hv) (z_cat hu) (kk p l e R s m args below meth c D cA b z H locs Qm la C hX hl hw hS hend)
theorem j_iload_n {k : Fin 4} {x : Int32} (hd : decode (zMb M) pc = .ok (.iload_n k, 1)) (hi : ls[(k : Nat)]? = some (.int x)) (kk : zJ X M n0 (pc + 1) ls (.int x :: st) nx h Q) : zJ X M n0 pc ls (st) nx h Q := by
  intro p l e R s m args below meth c D cA b z H locs Qm la C hX hl hw hS hend
  exact lv_iload_n C.1 C.2.1 hd rfl (z_at hl hi (fun q => by cases q)) (kk p l e R s m args below meth c D cA b z H locs Qm la C hX hl hw hS hend)
theorem j_iload {i : Nat} {x : Int32} (hd : decode (zMb M) pc = .ok (.iload i, 2)) (hi : ls[i]? = some (.int x)) (kk : zJ X M n0 (pc + 2) ls (.int x :: st) nx h Q) : zJ X M n0 pc ls (st) nx h Q := by
  intro p l e R s m args below meth c D cA b z H locs Qm la C hX hl hw hS hend
  exact lv_iload C.1 C.2.1 hd (z_at hl hi (fun q => by cases q)) (kk p l e R s m args below meth c D cA b z H locs Qm la C hX hl hw hS hend)
theorem j_aload_n {k : Fin 4} {x : Nat} (hd : decode (zMb M) pc = .ok (.aload_n k, 1)) (hi : ls[(k : Nat)]? = some (.ref x)) (kk : zJ X M n0 (pc + 1) ls (.ref x :: st) nx h Q) : zJ X M n0 pc ls (st) nx h Q := by
  intro p l e R s m args below meth c D cA b z H locs Qm la C hX hl hw hS hend
  exact lv_aload_n C.1 C.2.1 hd rfl (z_at hl hi (fun q => by cases q)) (kk p l e R s m args below meth c D cA b z H locs Qm la C hX hl hw hS hend)
theorem j_aload {i : Nat} {x : Nat} (hd : decode (zMb M) pc = .ok (.aload i, 2)) (hi : ls[i]? = some (.ref x)) (kk : zJ X M n0 (pc + 2) ls (.ref x :: st) nx h Q) : zJ X M n0 pc ls (st) nx h Q := by
  intro p l e R s m args below meth c D cA b z H locs Qm la C hX hl hw hS hend
  exact lv_aload C.1 C.2.1 hd (z_at hl hi (fun q => by cases q)) (kk p l e R s m args below meth c D cA b z H locs Qm la C hX hl hw hS hend)
theorem j_fload_n {k : Fin 4} {x : UInt32} (hd : decode (zMb M) pc = .ok (.fload_n k, 1)) (hi : ls[(k : Nat)]? = some (.float x)) (kk : zJ X M n0 (pc + 1) ls (.float x :: st) nx h Q) : zJ X M n0 pc ls (st) nx h Q := by
  intro p l e R s m args below meth c D cA b z H locs Qm la C hX hl hw hS hend
  exact lv_fload_n C.1 C.2.1 hd rfl (z_at hl hi (fun q => by cases q)) (kk p l e R s m args below meth c D cA b z H locs Qm la C hX hl hw hS hend)
theorem j_fload {i : Nat} {x : UInt32} (hd : decode (zMb M) pc = .ok (.fload i, 2)) (hi : ls[i]? = some (.float x)) (kk : zJ X M n0 (pc + 2) ls (.float x :: st) nx h Q) : zJ X M n0 pc ls (st) nx h Q := by
  intro p l e R s m args below meth c D cA b z H locs Qm la C hX hl hw hS hend
  exact lv_fload C.1 C.2.1 hd (z_at hl hi (fun q => by cases q)) (kk p l e R s m args below meth c D cA b z H locs Qm la C hX hl hw hS hend)
theorem j_istore_n {k : Fin 4} {x : Int32} (hd : decode (zMb M) pc = .ok (.istore_n k, 1)) (hn : (k : Nat) < zMl M) (kk : zJ X M n0 (pc + 1) (ls.set k (.int x)) st nx h Q) : zJ X M n0 pc ls (.int x :: st) nx h Q := by
  intro p l e R s m args below meth c D cA b z H locs Qm la C hX hl hw hS hend
  exact lv_istore_n C.1 C.2.1 hd rfl (z_has hl) hn rfl (fun la1 h1 => kk p l e R s m args below meth c D cA b z H locs Qm la1 C hX (z_put hl hn rfl h1) hw hS hend)
theorem j_istore {i : Nat} {x : Int32} (hd : decode (zMb M) pc = .ok (.istore i, 2)) (hn : i < zMl M) (kk : zJ X M n0 (pc + 2) (ls.set i (.int x)) st nx h Q) : zJ X M n0 pc ls (.int x :: st) nx h Q := by
  intro p l e R s m args below meth c D cA b z H locs Qm la C hX hl hw hS hend
  exact lv_istore C.1 C.2.1 hd (z_has hl) hn rfl (fun la1 h1 => kk p l e R s m args below meth c D cA b z H locs Qm la1 C hX (z_put hl hn rfl h1) hw hS hend)
theorem j_astore_n {k : Fin 4} {x : Nat} (hd : decode (zMb M) pc = .ok (.astore_n k, 1)) (hn : (k : Nat) < zMl M) (kk : zJ X M n0 (pc + 1) (ls.set k (.ref x)) st nx h Q) : zJ X M n0 pc ls (.ref x :: st) nx h Q := by
  intro p l e R s m args below meth c D cA b z H locs Qm la C hX hl hw hS hend
  exact lv_astore_n C.1 C.2.1 hd rfl (z_has hl) hn rfl (fun la1 h1 => kk p l e R s m args below meth c D cA b z H locs Qm la1 C hX (z_put hl hn rfl h1) hw hS hend)
theorem j_astore {i : Nat} {x : Nat} (hd : decode (zMb M) pc = .ok (.astore i, 2)) (hn : i < zMl M) (kk : zJ X M n0 (pc + 2) (ls.set i (.ref x)) st nx h Q) : zJ X M n0 pc ls (.ref x :: st) nx h Q := by
  intro p l e R s m args below meth c D cA b z H locs Qm la C hX hl hw hS hend
  exact lv_astore C.1 C.2.1 hd (z_has hl) hn rfl (fun la1 h1 => kk p l e R s m args below meth c D cA b z H locs Qm la1 C hX (z_put hl hn rfl h1) hw hS hend)
theorem j_fstore_n {k : Fin 4} {x : UInt32} (hd : decode (zMb M) pc = .ok (.fstore_n k, 1)) (hn : (k : Nat) < zMl M) (kk : zJ X M n0 (pc + 1) (ls.set k (.float x)) st nx h Q) : zJ X M n0 pc ls (.float x :: st) nx h Q := by
  intro p l e R s m args below meth c D cA b z H locs Qm la C hX hl hw hS hend
  exact lv_fstore_n C.1 C.2.1 hd rfl (z_has hl) hn rfl (fun la1 h1 => kk p l e R s m args below meth c D cA b z H locs Qm la1 C hX (z_put hl hn rfl h1) hw hS hend)
theorem j_fstore {i : Nat} {x : UInt32} (hd : decode (zMb M) pc = .ok (.fstore i, 2)) (hn : i < zMl M) (kk : zJ X M n0 (pc + 2) (ls.set i (.float x)) st nx h Q) : zJ X M n0 pc ls (.float x :: st) nx h Q := by
  intro p l e R s m args below meth c D cA b z H locs Qm la C hX hl hw hS hend
  exact lv_fstore C.1 C.2.1 hd (z_has hl) hn rfl (fun la1 h1 => kk p l e R s m args below meth c D cA b z H locs Qm la1 C hX (z_put hl hn rfl h1) hw hS hend)
theorem j_iinc {i : Nat} {n : Int} {x v : Int32} (hd : decode (zMb M) pc = .ok (.iinc i n, 3)) (hi : ls[i]? = some (.int x)) (hv : x + Int32.ofInt n = v) (hn : i < zMl M) (kk : zJ X M n0 (pc + 3) (ls.set i (.int v)) st nx h Q) : zJ X M n0 pc ls st nx h Q := by
  intro p l e R s m args below meth c D cA b z H locs Qm la C hX hl hw hS hend
  obtain ⟨k, hk⟩ := z_has_at hl hi (fun q => by cases q)
  exact lv_iinc C.1 C.2.1 hd (z_has hl) hk hv hn rfl (fun la1 h1 => kk p l e R s m args below meth c D cA b z H locs Qm la1 C hX (z_put hl hn rfl h1) hw hS hend)
theorem j_if_eq {x : Int32} {off : Int} {tgt : Nat} (hd : decode (zMb M) pc = .ok (.ifCond .eq off, 3)) (ht : (pc : Int) + off = (tgt : Int)) (kt : (x = 0) → zJ X M n0 tgt ls st nx h Q) (kf : (¬ (x = 0)) → zJ X M n0 (pc + 3) ls st nx h Q) : zJ X M n0 pc ls (.int x :: st) nx h Q := by
  intro p l e R s m args below meth c D cA b z H locs Qm la C hX hl hw hS hend
  exact lv_if_eq C.1 C.2.1 hd ht (fun q => kt q p l e R s m args below meth c D cA b z H locs Qm la C hX hl hw hS hend) (fun q => kf q p l e R s m args below meth c D cA b z H locs Qm la C hX hl hw hS hend)
theorem j_icmp_eq {x y : Int32} {off : Int} {tgt : Nat} (hd : decode (zMb M) pc = .ok (.if_icmp .eq off, 3)) (ht : (pc : Int) + off = (tgt : Int)) (kt : (x = y) → zJ X M n0 tgt ls st nx h Q) (kf : (¬ (x = y)) → zJ X M n0 (pc + 3) ls st nx h Q) : zJ X M n0 pc ls (.int y :: .int x :: st) nx h Q := by
  intro p l e R s m args below meth c D cA b z H locs Qm la C hX hl hw hS hend
  exact lv_icmp_eq C.1 C.2.1 hd ht (fun q => kt q p l e R s m args below meth c D cA b z H locs Qm la C hX hl hw hS hend) (fun q => kf q p l e R s m args below meth c D cA b z H locs Qm la C hX hl hw hS hend)
theorem j_if_ne {x : Int32} {off : Int} {tgt : Nat} (hd : decode (zMb M) pc = .ok (.ifCond .ne off, 3)) (ht : (pc : Int) + off = (tgt : Int)) (kt : (¬ x = 0) → zJ X M n0 tgt ls st nx h Q) (kf : (x = 0) → zJ X M n0 (pc + 3) ls st nx h Q) : zJ X M n0 pc ls (.int x :: st) nx h Q := by
  intro p l e R s m args below meth c D cA b z H locs Qm la C hX hl hw hS hend
  exact lv_if_ne C.1 C.2.1 hd ht (fun q => kt q p l e R s m args below meth c D cA b z H locs Qm la C hX hl hw hS hend) (fun q => kf q p l e R s m args below meth c D cA b z H locs Qm la C hX hl hw hS hend)
theorem j_icmp_ne {x y : Int32} {off : Int} {tgt : Nat} (hd : decode (zMb M) pc = .ok (.if_icmp .ne off, 3)) (ht : (pc : Int) + off = (tgt : Int)) (kt : (¬ x = y) → zJ X M n0 tgt ls st nx h Q) (kf : (x = y) → zJ X M n0 (pc + 3) ls st nx h Q) : zJ X M n0 pc ls (.int y :: .int x :: st) nx h Q := by
  intro p l e R s m args below meth c D cA b z H locs Qm la C hX hl hw hS hend
  exact lv_icmp_ne C.1 C.2.1 hd ht (fun q => kt q p l e R s m args below meth c D cA b z H locs Qm la C hX hl hw hS hend) (fun q => kf q p l e R s m args below meth c D cA b z H locs Qm la C hX hl hw hS hend)
theorem j_if_lt {x : Int32} {off : Int} {tgt : Nat} (hd : decode (zMb M) pc = .ok (.ifCond .lt off, 3)) (ht : (pc : Int) + off = (tgt : Int)) (kt : (x < 0) → zJ X M n0 tgt ls st nx h Q) (kf : (¬ (x < 0)) → zJ X M n0 (pc + 3) ls st nx h Q) : zJ X M n0 pc ls (.int x :: st) nx h Q := by
  intro p l e R s m args below meth c D cA b z H locs Qm la C hX hl hw hS hend
  exact lv_if_lt C.1 C.2.1 hd ht (fun q => kt q p l e R s m args below meth c D cA b z H locs Qm la C hX hl hw hS hend) (fun q => kf q p l e R s m args below meth c D cA b z H locs Qm la C hX hl hw hS hend)
theorem j_icmp_lt {x y : Int32} {off : Int} {tgt : Nat} (hd : decode (zMb M) pc = .ok (.if_icmp .lt off, 3)) (ht : (pc : Int) + off = (tgt : Int)) (kt : (x < y) → zJ X M n0 tgt ls st nx h Q) (kf : (¬ (x < y)) → zJ X M n0 (pc + 3) ls st nx h Q) : zJ X M n0 pc ls (.int y :: .int x :: st) nx h Q := by
  intro p l e R s m args below meth c D cA b z H locs Qm la C hX hl hw hS hend
  exact lv_icmp_lt C.1 C.2.1 hd ht (fun q => kt q p l e R s m args below meth c D cA b z H locs Qm la C hX hl hw hS hend) (fun q => kf q p l e R s m args below meth c D cA b z H locs Qm la C hX hl hw hS hend)
theorem j_if_ge {x : Int32} {off : Int} {tgt : Nat} (hd : decode (zMb M) pc = .ok (.ifCond .ge off, 3)) (ht : (pc : Int) + off = (tgt : Int)) (kt : (0 ≤ x) → zJ X M n0 tgt ls st nx h Q) (kf : (¬ (0 ≤ x)) → zJ X M n0 (pc + 3) ls st nx h Q) : zJ X M n0 pc ls (.int x :: st) nx h Q := by
  intro p l e R s m args below meth c D cA b z H locs Qm la C hX hl hw hS hend
  exact lv_if_ge C.1 C.2.1 hd ht (fun q => kt q p l e R s m args below meth c D cA b z H locs Qm la C hX hl hw hS hend) (fun q => kf q p l e R s m args below meth c D cA b z H locs Qm la C hX hl hw hS hend)
theorem j_icmp_ge {x y : Int32} {off : Int} {tgt : Nat} (hd : decode (zMb M) pc = .ok (.if_icmp .ge off, 3)) (ht : (pc : Int) + off = (tgt : Int)) (kt : (y ≤ x) → zJ X M n0 tgt ls st nx h Q) (kf : (¬ (y ≤ x)) → zJ X M n0 (pc + 3) ls st nx h Q) : zJ X M n0 pc ls (.int y :: .int x :: st) nx h Q := by
  intro p l e R s m args below meth c D cA b z H locs Qm la C hX hl hw hS hend
  exact lv_icmp_ge C.1 C.2.1 hd ht (fun q => kt q p l e R s m args below meth c D cA b z H locs Qm la C hX hl hw hS hend) (fun q => kf q p l e R s m args below meth c D cA b z H locs Qm la C hX hl hw hS hend)
theorem j_if_gt {x : Int32} {off : Int} {tgt : Nat} (hd : decode (zMb M) pc = .ok (.ifCond .gt off, 3)) (ht : (pc : Int) + off = (tgt : Int)) (kt : (0 < x) → zJ X M n0 tgt ls st nx h Q) (kf : (¬ (0 < x)) → zJ X M n0 (pc + 3) ls st nx h Q) : zJ X M n0 pc ls (.int x :: st) nx h Q := by
  intro p l e R s m args below meth c D cA b z H locs Qm la C hX hl hw hS hend
  exact lv_if_gt C.1 C.2.1 hd ht (fun q => kt q p l e R s m args below meth c D cA b z H locs Qm la C hX hl hw hS hend) (fun q => kf q p l e R s m args below meth c D cA b z H locs Qm la C hX hl hw hS hend)
theorem j_icmp_gt {x y : Int32} {off : Int} {tgt : Nat} (hd : decode (zMb M) pc = .ok (.if_icmp .gt off, 3)) (ht : (pc : Int) + off = (tgt : Int)) (kt : (y < x) → zJ X M n0 tgt ls st nx h Q) (kf : (¬ (y < x)) → zJ X M n0 (pc + 3) ls st nx h Q) : zJ X M n0 pc ls (.int y :: .int x :: st) nx h Q := by
  intro p l e R s m args below meth c D cA b z H locs Qm la C hX hl hw hS hend
  exact lv_icmp_gt C.1 C.2.1 hd ht (fun q => kt q p l e R s m args below meth c D cA b z H locs Qm la C hX hl hw hS hend) (fun q => kf q p l e R s m args below meth c D cA b z H locs Qm la C hX hl hw hS hend)
theorem j_if_le {x : Int32} {off : Int} {tgt : Nat} (hd : decode (zMb M) pc = .ok (.ifCond .le off, 3)) (ht : (pc : Int) + off = (tgt : Int)) (kt : (x ≤ 0) → zJ X M n0 tgt ls st nx h Q) (kf : (¬ (x ≤ 0)) → zJ X M n0 (pc + 3) ls st nx h Q) : zJ X M n0 pc ls (.int x :: st) nx h Q := by
  intro p l e R s m args below meth c D cA b z H locs Qm la C hX hl hw hS hend
  exact lv_if_le C.1 C.2.1 hd ht (fun q => kt q p l e R s m args below meth c D cA b z H locs Qm la C hX hl hw hS hend) (fun q => kf q p l e R s m args below meth c D cA b z H locs Qm la C hX hl hw hS hend)
theorem j_icmp_le {x y : Int32} {off : Int} {tgt : Nat} (hd : decode (zMb M) pc = .ok (.if_icmp .le off, 3)) (ht : (pc : Int) + off = (tgt : Int)) (kt : (x ≤ y) → zJ X M n0 tgt ls st nx h Q) (kf : (¬ (x ≤ y)) → zJ X M n0 (pc + 3) ls st nx h Q) : zJ X M n0 pc ls (.int y :: .int x :: st) nx h Q := by
  intro p l e R s m args below meth c D cA b z H locs Qm la C hX hl hw hS hend
  exact lv_icmp_le C.1 C.2.1 hd ht (fun q => kt q p l e R s m args below meth c D cA b z H locs Qm la C hX hl hw hS hend) (fun q => kf q p l e R s m args below meth c D cA b z H locs Qm la C hX hl hw hS hend)
theorem j_goto {off : Int} {tgt : Nat} (hd : decode (zMb M) pc = .ok (.goto off, 3)) (ht : (pc : Int) + off = (tgt : Int)) (kk : zJ X M n0 tgt ls st nx h Q) : zJ X M n0 pc ls st nx h Q := by
  intro p l e R s m args below meth c D cA b z H locs Qm la C hX hl hw hS hend
  exact lv_goto C.1 C.2.1 hd ht (kk p l e R s m args below meth c D cA b z H locs Qm la C hX hl hw hS hend)
theorem j_lookup {dflt : Int} {ps : Array (Int × Int)} {len : Nat} {x : Int32} {off : Int} {tgt : Nat} (hd : decode (zMb M) pc = .ok (.lookupswitch dflt ps, len)) (hp : (ps.toList.zip (ps.toList.drop 1)).all (fun (a, next) => a.1 < next.1) = true) (ho : Op.lookupswitch.offset ps.toList dflt x.toInt = off) (ht : (pc : Int) + off = (tgt : Int)) (kk : zJ X M n0 tgt ls st nx h Q) : zJ X M n0 pc ls (.int x :: st) nx h Q := by
  intro p l e R s m args below meth c D cA b z H locs Qm la C hX hl hw hS hend
  exact lv_lookup C.1 C.2.1 hd hp ho ht (kk p l e R s m args below meth c D cA b z H locs Qm la C hX hl hw hS hend)
theorem j_tableOut {dflt lo hi : Int} {offs : Array Int} {len : Nat} {x : Int32} {tgt : Nat} (hd : decode (zMb M) pc = .ok (.tableswitch dflt lo hi offs, len)) (hx : x.toInt < lo ∨ hi < x.toInt) (ht : (pc : Int) + dflt = (tgt : Int)) (kk : zJ X M n0 tgt ls st nx h Q) : zJ X M n0 pc ls (.int x :: st) nx h Q := by
  intro p l e R s m args below meth c D cA b z H locs Qm la C hX hl hw hS hend
  exact lv_tableOut C.1 C.2.1 hd hx ht (kk p l e R s m args below meth c D cA b z H locs Qm la C hX hl hw hS hend)
theorem j_tableIn {dflt lo hi : Int} {offs : Array Int} {len : Nat} {x : Int32} {off : Int} {tgt : Nat} (hd : decode (zMb M) pc = .ok (.tableswitch dflt lo hi offs, len)) (h1 : ¬ x.toInt < lo) (h2 : ¬ hi < x.toInt) (ho : offs[(x.toInt - lo).toNat]? = some off) (ht : (pc : Int) + off = (tgt : Int)) (kk : zJ X M n0 tgt ls st nx h Q) : zJ X M n0 pc ls (.int x :: st) nx h Q := by
  intro p l e R s m args below meth c D cA b z H locs Qm la C hX hl hw hS hend
  exact lv_tableIn C.1 C.2.1 hd h1 h2 ho ht (kk p l e R s m args below meth c D cA b z H locs Qm la C hX hl hw hS hend)
theorem j_iret {x : Int32} {ty : FieldType} (hd : decode (zMb M) pc = .ok (.ireturn, 1)) (hr : zMr M = some ty) (hn : narrow ty (.int x) = .int x) (hQ : Q (some x) nx h) : zJ X M n0 pc ls [.int x] nx h Q := by
  intro p l e R s m args below meth c D cA b z H locs Qm la C hX hl hw hS hend
  exact hend (some x) nx h H locs pc la hQ ⟨hd, ty, hr, hn⟩ hw hS
theorem j_vret (hd : decode (zMb M) pc = .ok (.return_, 1)) (hr : zMr M = none) (hQ : Q none nx h) : zJ X M n0 pc ls [] nx h Q := by
  intro p l e R s m args below meth c D cA b z H locs Qm la C hX hl hw hS hend
  exact hend none nx h H locs pc la hQ ⟨hd, hr⟩ hw hS
end ZJ
end
section
-- the world of the numbered objects: what a field, an element, a new object is
theorem zV_ref {b z nx a : Nat} (ha : a < nx) (hn : nx ≤ 1000) : zV b z (.ref a) = .ref (z + a) := by
  have h : ¬ a = 1000 := by omega
  simp [zV, h]
theorem zW_get {cA : Nat → ClassId} {b z nx a : Nat} {h : zH} (ha : a < nx) : (zW cA b z nx h)[a]? = some (z + a, zE cA b z a (h a)) := by
  simp [zW, List.getElem?_map, List.getElem?_range ha]
theorem zW_of {cA : Nat → ClassId} {b z nx : Nat} {h : zH} {k : Nat} {q : Nat × va_E} (hq : (zW cA b z nx h)[k]? = some q) : k < nx ∧ q = (z + k, zE cA b z k (h k)) := by
  have hk : k < nx := by
    have h1 := (List.getElem?_eq_some_iff.mp hq).1
    simpa [zW] using h1
  rw [zW_get hk] at hq
  exact ⟨hk, (Option.some.inj hq).symm⟩
theorem zW_D {cA : Nat → ClassId} {b z nx : Nat} {h : zH} : va_D (fun q => z ≤ q) (zW cA b z nx h) := by
  refine ⟨fun i j p q hp hq hpq => ?_, fun k q hq => ?_⟩
  · obtain ⟨-, rfl⟩ := zW_of hp
    obtain ⟨-, rfl⟩ := zW_of hq
    simp at hpq
    exact hpq
  · obtain ⟨-, rfl⟩ := zW_of hq
    exact Nat.le_add_right z k
theorem zW_set {cA : Nat → ClassId} {b z nx a : Nat} {h : zH} {g : Nat → Value} : (zW cA b z nx h).set a (z + a, zE cA b z a g) = zW cA b z nx (va_up h a g) := by
  apply List.ext_getElem?
  intro i
  by_cases hi : i < nx
  · by_cases hia : i = a
    · subst hia
      rw [List.getElem?_set_self (by simpa [zW] using hi), zW_get hi, va_up_self]
    · rw [List.getElem?_set_ne (Ne.symm hia), zW_get hi, zW_get hi, va_up_ne _ _ hia]
  · rw [List.getElem?_eq_none (by simpa [zW] using hi), List.getElem?_eq_none (by simpa [zW] using hi)]
theorem zW_push {cA : Nat → ClassId} {b z nx : Nat} {h : zH} {g : Nat → Value} : zW cA b z nx h ++ [(z + nx, zE cA b z nx g)] = zW cA b z (nx + 1) (va_up h nx g) := by
  unfold zW
  rw [List.range_succ, List.map_append, List.map_singleton, va_up_self]
  congr 1
  apply List.map_congr_left
  intro i hi
  have h1 : i < nx := List.mem_range.mp hi
  rw [va_up_ne _ _ (by omega)]
theorem zE_obj {cA : Nat → ClassId} {b z i ci : Nat} {g : Nat → Value} (h : (zS i).1 = ci) (hc : ci < 10) : zE cA b z i g = .inr (ci, (List.range (zF ci)).map (fun k => zV b z (g k))) := by
  subst h
  simp [zE, hc]
theorem zE_num {cA : Nat → ClassId} {b z i t n : Nat} {g : Nat → Value} (h : zS i = (10 + t, n)) (ht : t < 2) : zE cA b z i g = .inl (cA t, n, .inl (fun k => zI (g k))) := by
  have h1 : ¬ 10 + t < 10 := by omega
  have h2 : 10 + t < 12 := by omega
  simp [zE, h, h2]
theorem zE_arr {cA : Nat → ClassId} {b z i t n : Nat} {g : Nat → Value} (h : zS i = (12 + t, n)) : zE cA b z i g = .inl (cA (2 + t), n, .inr (.inr (.inr (.inr (fun k => zQ b z (g k)))))) := by
  have h1 : ¬ 12 + t < 10 := by omega
  have h2 : ¬ 12 + t < 12 := by omega
  have h3 : 12 + t - 10 = 2 + t := by omega
  simp [zE, h, h1, h3]
theorem z_fs {b z n k : Nat} {g : Nat → Value} (hk : k < n) : ((List.range n).map (fun j => zV b z (g j)))[k]? = some (zV b z (g k)) := by
  simp [List.getElem?_map, List.getElem?_range hk]
theorem z_fs_set {b z n k : Nat} {g : Nat → Value} {v : Value} : ((List.range n).map (fun j => zV b z (g j))).set k (zV b z v) = (List.range n).map (fun j => zV b z (va_up g k v j)) := by
  apply List.ext_getElem?
  intro i
  by_cases hi : i < n
  · by_cases hia : i = k
    · subst hia
      rw [List.getElem?_set_self (by simpa using hi), z_fs hi, va_up_self]
    · rw [List.getElem?_set_ne (Ne.symm hia), z_fs hi, z_fs hi, va_up_ne _ _ hia]
  · rw [List.getElem?_eq_none (by simpa using hi), List.getElem?_eq_none (by simpa using hi)]
/-- what a field of a type may be given -/
def zOk (ty : FieldType) (v : Value) : Bool := match ty, v with
  | .int, .int _ => true
  | .boolean, .int x => x == 0 || x == 1
  | .char, .int x => decide (0 ≤ x) && decide (x ≤ 65535)
  | .object _, .ref _ => true
  | .array _, .ref _ => true
  | _, _ => false
theorem zOk_spec {ty : FieldType} {v : Value} {b z : Nat} (h : zOk ty v = true) : narrow ty (zV b z v) = zV b z v ∧ fits ty (zV b z v) = true := by
  cases ty <;> cases v <;> first | exact (Bool.false_ne_true h).elim | exact ⟨rfl, rfl⟩ | skip
  · rename_i x
    simp only [zOk, Bool.and_eq_true, decide_eq_true_eq] at h
    obtain ⟨j, hj, rfl⟩ := nI_of2 (M := 65535) (n := 65535) (by decide) (fun q => by
      have h1 := h.1
      rw [Int32.le_iff_toInt_le] at h1
      rw [Int32.lt_iff_toInt_lt] at q
      omega) h.2
    exact pk_charN (by omega)
  · rename_i x
    simp only [zOk, Bool.or_eq_true, beq_iff_eq] at h
    rcases h with rfl | rfl <;> exact ⟨rfl, rfl⟩
/-- a field's link: its class and place, its type, whether it is final -/
def zLF (own : String) (idx ci k : Nat) (ty : FieldType) (fin : Bool) : Prop := ∃ (C : String) (T : u_T) (N : Nat) (ty0 : Nat → FieldType), vwCl[ci]? = some (C, T, N) ∧ ci < 10 ∧ N = zF ci ∧ k < N ∧
  (Cond.fieldLink own idx (T k).1 (T k).2.1 (T k).2.2.1 ∈ zWd ∨ ∃ host : String, Cond.fieldLinkNest own idx (T k).1 (T k).2.1 (T k).2.2.1 host ∈ zNw) ∧ (∀ w ∈ u_ws C T N, w ∈ zWd) ∧
  (∀ k, k < N → parseFieldDescriptor (T k).2.2.1 = some (ty0 k)) ∧ (∀ a, a < N → ∀ b, b < N → a ≠ b → (T a).2.1 ≠ (T b).2.1) ∧ ty0 k = ty ∧ (T k).2.2.2 = fin ∧ (T k).1 = C
/-- a class's link, of which objects are made -/
def zLC (own : String) (idx ci : Nat) : Prop := ∃ (C : String) (T : u_T) (N : Nat) (ty0 : Nat → FieldType), vwCl[ci]? = some (C, T, N) ∧ ci < 10 ∧ N = zF ci ∧
  Cond.classLink own idx C ∈ zWd ∧ Cond.instantiable C N ∈ zWd ∧ Cond.initialized C ∈ zWd ∧ (∀ w ∈ u_ws C T N, w ∈ zWd) ∧ (∀ k, k < N → parseFieldDescriptor (T k).2.2.1 = some (ty0 k)) ∧ ∀ k, k < N → defaultValue (ty0 k) = .null ∨ defaultValue (ty0 k) = .int 0
section ZW
variable {X : Nat × (Nat → Int32)} {M : zM} {n0 pc : Nat} {ls st : List Value} {nx : Nat} {h : zH} {Q : zQt}
set_option maxHeartbeats 1000000 in
theorem j_get {ci k idx a : Nat} {v : Value} {ty : FieldType} {fin : Bool} (hd : decode (zMb M) pc = .ok (.getfield idx, 3)) (hl : zLF (zMo M) idx ci k ty fin) (hs : (zS a).1 = ci) (ha : a < nx) (hv : h a k = v) (kk : zJ X M n0 (pc + 3) ls (v :: st) nx h Q) : zJ X M n0 pc ls (.ref a :: st) nx h Q := by
  intro p l e R s m args below meth c D cA b z H locs Qm la C hX hll hw hS hend
  obtain ⟨CC, T, N, ty0, hc, hci, hN, hk, hlk, hin, hty, hnm, e1, e2, e3⟩ := hl
  obtain ⟨hx, hb, hml, hown, hini, hts, hnw, hao, hK, hz, hR⟩ := id C
  obtain ⟨hsz, hnx, hP⟩ := id hw
  subst hv
  have he : (zW cA b z nx h)[a]? = some (z + a, .inr (ci, (List.range (zF ci)).map (fun k => zV b z (h a k)))) := by rw [zW_get ha, zE_obj hs hci]
  have hv' : ((List.range (zF ci)).map (fun k => zV b z (h a k)))[k]? = some (zV b z (h a k)) := z_fs (by rw [← hN]; exact hk)
  have K := kk p l e R s m args below meth c D cA b z H locs Qm la C hX hll hw hS hend
  show W p l e R s m args below meth c H locs _ _ Qm (F0 m pc la (zV b z (.ref a) :: st.map (zV b z)))
  rw [zV_ref ha hnx]
  rcases hlk with hlk | ⟨host, hlk⟩
  · exact va_get (D := D) (ci := ci) (C := CC) (T := T) (N := N) hx hb hts hin hown hK hP a he hc k hk (hts _ hlk) (fun _ h9 => h9) hv' hd K
  · exact va_getN (D := D) (ci := ci) (C := CC) (T := T) (N := N) hx hb hts hin hown hK hP a he hc k hk (va_Nw.use rfl (hnw _ hlk)) (fun _ h9 => h9) hv' hd K
set_option maxHeartbeats 1000000 in
theorem j_put {ci k idx a : Nat} {v : Value} {ty : FieldType} (hd : decode (zMb M) pc = .ok (.putfield idx, 3)) (hl : zLF (zMo M) idx ci k ty false) (hs : (zS a).1 = ci) (ha : a < nx) (hv : zOk ty v = true) (kk : zJ X M n0 (pc + 3) ls st nx (va_up h a (va_up (h a) k v)) Q) : zJ X M n0 pc ls (v :: .ref a :: st) nx h Q := by
  intro p l e R s m args below meth c D cA b z H locs Qm la C hX hll hw hS hend
  obtain ⟨CC, T, N, ty0, hc, hci, hN, hk, hlk, hin, hty, hnm, e1, e2, e3⟩ := hl
  obtain ⟨hx, hb, hml, hown, hini, hts, hnw, hao, hK, hz, hR⟩ := id C
  obtain ⟨hsz, hnx, hP⟩ := id hw
  have he : (zW cA b z nx h)[a]? = some (z + a, .inr (ci, (List.range (zF ci)).map (fun k => zV b z (h a k)))) := by rw [zW_get ha, zE_obj hs hci]
  obtain ⟨hn1, hn2⟩ := zOk_spec (b := b) (z := z) hv
  have hap := va_apart (own := zMo M) hts hin ty0 hty hnm hK hc
  have hll0 : k < ((List.range (zF ci)).map (fun k => zV b z (h a k))).length := by simp [← hN, hk]
  obtain ⟨r, h1, cell, q1, q2, q3, q4⟩ := hP a _ he
  have hr : r = (CC, T, N) := Option.some.inj (h1.symm.trans hc)
  subst hr
  obtain ⟨hSS, hfc, kC, hkC, hkind⟩ := hK.1 ci _ hc
  obtain ⟨cf, kf, fi, f, hi, hsl⟩ := hSS k hk
  have hlay := hts _ (hin _ (u_in_lay hk))
  unfold u_lay at hlay
  rw [if_neg (by rw [e2]; decide)] at hlay
  have hst := (u_facts hfc hkC (u_lays hts hin hk) hi).1
  have h6 := u_store hfc hkC hkind hlay hi (by rw [hty k hk, e1]) hn1 hn2
  have fin : ∀ (H' : Heap), H'[z + a]? = some (cell.setSlot f.slot (zV b z v)) → H'.size = H.size → (∀ q, q ≠ z + a → H'[q]? = H[q]?) → W p l e R s m args below meth c H' (locs ++ [⟨z + a, f.slot⟩]) (nx - n0) (zN nx - zN n0) Qm (F0 m (pc + 3) la (st.map (zV b z))) := by
    intro H' g1 g2 g3
    refine kk p l e R s m args below meth c D cA b z H' _ Qm la C hX hll ⟨by rw [g2]; exact hsz, hnx, ?_⟩ (hS.put g2 g3 (Nat.le_add_right z a)) hend
    rw [hsl] at g1
    have hset : va_P D vwCl ((zW cA b z nx h).set a (z + a, .inr (ci, ((List.range (zF ci)).map (fun k => zV b z (h a k))).set k (zV b z v)))) H' := hP.set zW_D he ⟨_, hc, t_OB.to (V := updV (vp_V _) k (zV b z v)) ⟨_, g1, q2, q3, t_set q4 hap hk (zV b z v)⟩ (fun j _ => vp_updV_set hll0 (zV b z v) j)⟩ g3
    rw [z_fs_set, ← zE_obj (cA := cA) hs hci, zW_set] at hset
    exact hset
  show W p l e R s m args below meth c H locs _ _ Qm (F0 m pc la (zV b z v :: zV b z (.ref a) :: st.map (zV b z)))
  rw [zV_ref ha hnx]
  rcases hlk with hlk | ⟨host, hlk⟩
  · exact W.putK hx hb (f := f) ⟨hown, hts _ hlk, ⟨_, _, _, hi⟩, hst⟩ (by rw [q2]; exact h6) q1 q3 (by rw [hsl]; exact k2_hasslot (q4 k hk)) rfl rfl hd fin
  · exact va_WputK hx hb (f := f) hown (va_Nw.use rfl (hnw _ hlk)) hi hst (by rw [q2]; exact h6) q1 q3 (by rw [hsl]; exact k2_hasslot (q4 k hk)) rfl rfl hd fin
set_option maxHeartbeats 1000000 in
theorem j_putF {ci k idx a : Nat} {v : Value} {ty : FieldType} (hd : decode (zMb M) pc = .ok (.putfield idx, 3)) (hl : zLF (zMo M) idx ci k ty true) (hlo : ∃ T : u_T, ∃ N, vwCl[ci]? = some (zMo M, T, N) ∧ Cond.fieldLink (zMo M) idx (T k).1 (T k).2.1 (T k).2.2.1 ∈ zWd) (hnm0 : (zMn M).name = "<init>") (hs : (zS a).1 = ci) (ha : a < nx) (hv : zOk ty v = true) (kk : zJ X M n0 (pc + 3) ls st nx (va_up h a (va_up (h a) k v)) Q) : zJ X M n0 pc ls (v :: .ref a :: st) nx h Q := by
  intro p l e R s m args below meth c D cA b z H locs Qm la C hX hll hw hS hend
  obtain ⟨CC, T, N, ty0, hc, hci, hN, hk, hlk0, hin, hty, hnm, e1, e2, e3⟩ := hl
  obtain ⟨T', N', hc', hlk⟩ := hlo
  obtain ⟨hx, hb, hml, hown, hini, hts, hnw, hao, hK, hz, hR⟩ := id C
  obtain ⟨hsz, hnx, hP⟩ := id hw
  have hcc : (CC, T, N) = (zMo M, T', N') := Option.some.inj (hc.symm.trans hc')
  obtain ⟨rfl, rfl, rfl⟩ : CC = zMo M ∧ T = T' ∧ N = N' := by
    simp only [Prod.mk.injEq] at hcc
    exact hcc
  have he : (zW cA b z nx h)[a]? = some (z + a, .inr (ci, (List.range (zF ci)).map (fun k => zV b z (h a k)))) := by rw [zW_get ha, zE_obj hs hci]
  obtain ⟨hn1, hn2⟩ := zOk_spec (b := b) (z := z) hv
  have hap := va_apart (own := zMo M) hts hin ty0 hty hnm hK hc
  have hll0 : k < ((List.range (zF ci)).map (fun k => zV b z (h a k))).length := by simp [← hN, hk]
  obtain ⟨r, h1, cell, q1, q2, q3, q4⟩ := hP a _ he
  have hr : r = (zMo M, T, N) := Option.some.inj (h1.symm.trans hc)
  subst hr
  obtain ⟨hSS, hfc, kC, hkC, hkind⟩ := hK.1 ci _ hc
  obtain ⟨cf, kf, fi, f, hi, hsl⟩ := hSS k hk
  have hlay := hts _ (hin _ (u_in_lay hk))
  unfold u_lay at hlay
  rw [if_pos e2] at hlay
  have hst := (u_facts hfc hkC (u_lays hts hin hk) hi).1
  have hcf : m.cls = cf := by
    obtain ⟨_, _, c', _, _, _, -, -, hf', -, -, -, hown2, -⟩ := Cond.laysFinal_spec hlay
    have e1 : c' = cf := by have := hi.symm.trans hf'; simp at this; exact this.1.symm
    rw [e3] at hown2
    rw [← e1]; exact Option.some.inj (hown.symm.trans hown2)
  have h6 := u_fits hfc hkC hkind (Or.inr hlay) hi (by rw [hty k hk, e1]) hn1 hn2
  show W p l e R s m args below meth c H locs _ _ Qm (F0 m pc la (zV b z v :: zV b z (.ref a) :: st.map (zV b z)))
  rw [zV_ref ha hnx]
  refine W.putFinK hx hb hown (hts _ hlk) hi hst hcf (hini hnm0) (by rw [q2]; exact h6) q1 q3 (by rw [hsl]; exact k2_hasslot (q4 k hk)) rfl rfl hd fun H' g1 g2 g3 => ?_
  refine kk p l e R s m args below meth c D cA b z H' _ Qm la C hX hll ⟨by rw [g2]; exact hsz, hnx, ?_⟩ (hS.put g2 g3 (Nat.le_add_right z a)) hend
  rw [hsl] at g1
  have hset : va_P D vwCl ((zW cA b z nx h).set a (z + a, .inr (ci, ((List.range (zF ci)).map (fun k => zV b z (h a k))).set k (zV b z v)))) H' := hP.set zW_D he ⟨_, hc, t_OB.to (V := updV (vp_V _) k (zV b z v)) ⟨_, g1, q2, q3, t_set q4 hap hk (zV b z v)⟩ (fun j _ => vp_updV_set hll0 (zV b z v) j)⟩ g3
  rw [z_fs_set, ← zE_obj (cA := cA) hs hci, zW_set] at hset
  exact hset
theorem j_iald {a n : Nat} {i x : Int32} (hd : decode (zMb M) pc = .ok (.iaload, 1)) (hs : zS a = (10, n)) (ha : a < nx) (hin : vp_in i n) (hv : zI (h a i.toNatClampNeg) = x) (kk : zJ X M n0 (pc + 1) ls (.int x :: st) nx h Q) : zJ X M n0 pc ls (.int i :: .ref a :: st) nx h Q := by
  intro p l e R s m args below meth c D cA b z H locs Qm la C hX hll hw hS hend
  obtain ⟨hx, hb, hml, hown, hini, hts, hnw, hao, hK, hz, hR⟩ := id C
  obtain ⟨hsz, hnx, hP⟩ := id hw
  subst hv
  have he : (zW cA b z nx h)[a]? = some (z + a, .inl (cA 0, n, .inl (fun k => zI (h a k)))) := by rw [zW_get ha, zE_num (t := 0) hs (by omega)]
  have K := kk p l e R s m args below meth c D cA b z H locs Qm la C hX hll hw hS hend
  show W p l e R s m args below meth c H locs _ _ Qm (F0 m pc la (.int i :: zV b z (.ref a) :: st.map (zV b z)))
  rw [zV_ref ha hnx]
  exact va_iald hx hb hK hP a 0 he rfl hin hd K
theorem j_cald {a n : Nat} {i x : Int32} (hd : decode (zMb M) pc = .ok (.caload, 1)) (hs : zS a = (11, n)) (ha : a < nx) (hin : vp_in i n) (hv : zI (h a i.toNatClampNeg) = x) (kk : zJ X M n0 (pc + 1) ls (.int x :: st) nx h Q) : zJ X M n0 pc ls (.int i :: .ref a :: st) nx h Q := by
  intro p l e R s m args below meth c D cA b z H locs Qm la C hX hll hw hS hend
  obtain ⟨hx, hb, hml, hown, hini, hts, hnw, hao, hK, hz, hR⟩ := id C
  obtain ⟨hsz, hnx, hP⟩ := id hw
  subst hv
  have he : (zW cA b z nx h)[a]? = some (z + a, .inl (cA 1, n, .inl (fun k => zI (h a k)))) := by rw [zW_get ha, zE_num (t := 1) hs (by omega)]
  have K := kk p l e R s m args below meth c D cA b z H locs Qm la C hX hll hw hS hend
  show W p l e R s m args below meth c H locs _ _ Qm (F0 m pc la (.int i :: zV b z (.ref a) :: st.map (zV b z)))
  rw [zV_ref ha hnx]
  exact va_cald hx hb hK hP a 1 he rfl hin hd K
theorem zQ_rf {b z : Nat} {v : Value} {x : Option Nat} (h : v = va_rf x) : va_rf (zQ b z v) = zV b z v := by
  subst h
  cases x <;> rfl
theorem j_aald {a n t : Nat} {i : Int32} {r : Option Nat} (hd : decode (zMb M) pc = .ok (.aaload, 1)) (hs : zS a = (12 + t, n)) (ht : t < 3) (ha : a < nx) (hin : vp_in i n) (hv : h a i.toNatClampNeg = va_rf r) (kk : zJ X M n0 (pc + 1) ls (va_rf r :: st) nx h Q) : zJ X M n0 pc ls (.int i :: .ref a :: st) nx h Q := by
  intro p l e R s m args below meth c D cA b z H locs Qm la C hX hll hw hS hend
  obtain ⟨hx, hb, hml, hown, hini, hts, hnw, hao, hK, hz, hR⟩ := id C
  obtain ⟨hsz, hnx, hP⟩ := id hw
  have he : (zW cA b z nx h)[a]? = some (z + a, .inl (cA (2 + t), n, .inr (.inr (.inr (.inr (fun k => zQ b z (h a k))))))) := by rw [zW_get ha, zE_arr hs]
  have K := kk p l e R s m args below meth c D cA b z H locs Qm la C hX hll hw hS hend
  show W p l e R s m args below meth c H locs _ _ Qm (F0 m pc la (.int i :: zV b z (.ref a) :: st.map (zV b z)))
  rw [zV_ref ha hnx]
  have K2 : W p l e R s m args below meth c H locs (nx - n0) (zN nx - zN n0) Qm (F0 m (pc + 1) la (va_rf (zQ b z (h a i.toNatClampNeg)) :: st.map (zV b z))) := by
    rw [zQ_rf hv, hv]
    exact K
  obtain ⟨E, hE⟩ : ∃ E, (zT cA)[2 + t]? = some (cA (2 + t), .object E) := by
    rcases (show t = 0 ∨ t = 1 ∨ t = 2 by omega) with rfl | rfl | rfl <;> exact ⟨_, rfl⟩
  exact va_aldq hx hb hK hP a (2 + t) he hE hin hd K2
theorem z_num_set {g : Nat → Value} {j : Nat} {x : Int32} : upd (fun k => zI (g k)) j x = fun k => zI (va_up g j (.int x) k) := by
  funext k
  by_cases hk : k = j <;> simp [upd, va_up, hk, zI]
theorem j_iast {a n : Nat} {i x : Int32} (hd : decode (zMb M) pc = .ok (.iastore, 1)) (hs : zS a = (10, n)) (ha : a < nx) (hin : vp_in i n) (kk : zJ X M n0 (pc + 1) ls st nx (va_up h a (va_up (h a) i.toNatClampNeg (.int x))) Q) : zJ X M n0 pc ls (.int x :: .int i :: .ref a :: st) nx h Q := by
  intro p l e R s m args below meth c D cA b z H locs Qm la C hX hll hw hS hend
  obtain ⟨hx, hb, hml, hown, hini, hts, hnw, hao, hK, hz, hR⟩ := id C
  obtain ⟨hsz, hnx, hP⟩ := id hw
  have he : (zW cA b z nx h)[a]? = some (z + a, .inl (cA 0, n, .inl (fun k => zI (h a k)))) := by rw [zW_get ha, zE_num (t := 0) hs (by omega)]
  have ht : (zT cA)[0]? = some (cA 0, .int) := rfl
  show W p l e R s m args below meth c H locs _ _ Qm (F0 m pc la (.int x :: .int i :: zV b z (.ref a) :: st.map (zV b z)))
  rw [zV_ref ha hnx]
  refine W.iast hx hb (hP a _ he) ((hK.2 0 _ ht).1 n (fun j => .int (zI (h a j)))) (fun q => by cases q) (by show ¬ (i < 0 ∨ (arrV _ _ _).slots.size ≤ _); rw [arrV_size]; exact hin) rfl rfl hd fun H1 e1 z1 oq => ?_
  refine kk p l e R s m args below meth c D cA b z H1 _ Qm la C hX hll ⟨by rw [z1]; exact hsz, hnx, ?_⟩ (hS.put z1 oq (Nat.le_add_right z a)) hend
  rw [← zW_set, zE_num (t := 0) hs (by omega), ← z_num_set]
  refine hP.set zW_D he ?_ oq
  show H1[z + a]? = some (vp_cell _ _)
  rw [e1]
  rw [vp_cell_i, vp_cell_i, arrV_store]
  congr 2
  funext q
  by_cases hq : q = i.toNatClampNeg
  · subst hq
    simp [updV, upd]
  · simp [updV, upd, hq]
theorem j_cast {a n : Nat} {i x : Int32} (hd : decode (zMb M) pc = .ok (.castore, 1)) (hs : zS a = (11, n)) (ha : a < nx) (hin : vp_in i n) (hv : zOk .char (.int x) = true) (kk : zJ X M n0 (pc + 1) ls st nx (va_up h a (va_up (h a) i.toNatClampNeg (.int x))) Q) : zJ X M n0 pc ls (.int x :: .int i :: .ref a :: st) nx h Q := by
  intro p l e R s m args below meth c D cA b z H locs Qm la C hX hll hw hS hend
  obtain ⟨hx, hb, hml, hown, hini, hts, hnw, hao, hK, hz, hR⟩ := id C
  obtain ⟨hsz, hnx, hP⟩ := id hw
  have he : (zW cA b z nx h)[a]? = some (z + a, .inl (cA 1, n, .inl (fun k => zI (h a k)))) := by rw [zW_get ha, zE_num (t := 1) hs (by omega)]
  have ht : (zT cA)[1]? = some (cA 1, .char) := rfl
  have hnr : narrow .char (.int x) = .int x := (zOk_spec (b := 0) (z := 0) hv).1
  show W p l e R s m args below meth c H locs _ _ Qm (F0 m pc la (.int x :: .int i :: zV b z (.ref a) :: st.map (zV b z)))
  rw [zV_ref ha hnx]
  refine W.cast hx hb (hP a _ he) ((hK.2 1 _ ht).1 n (fun j => .int (zI (h a j)))) (fun q => by cases q) (by show ¬ (i < 0 ∨ (arrV _ _ _).slots.size ≤ _); rw [arrV_size]; exact hin) rfl rfl hd fun H1 e1 z1 oq => ?_
  refine kk p l e R s m args below meth c D cA b z H1 _ Qm la C hX hll ⟨by rw [z1]; exact hsz, hnx, ?_⟩ (hS.put z1 oq (Nat.le_add_right z a)) hend
  rw [← zW_set, zE_num (t := 1) hs (by omega), ← z_num_set]
  refine hP.set zW_D he ?_ oq
  show H1[z + a]? = some (vp_cell _ _)
  rw [e1]
  rw [vp_cell_i, vp_cell_i, arrV_store, hnr]
  congr 2
  funext q
  by_cases hq : q = i.toNatClampNeg
  · subst hq
    simp [updV, upd]
  · simp [updV, upd, hq]
theorem z_ref_set {b z : Nat} {g : Nat → Value} {j v : Nat} : va_up (fun k => zQ b z (g k)) j (zQ b z (.ref v)) = fun k => zQ b z (va_up g j (.ref v) k) := by
  funext k
  by_cases hk : k = j <;> simp [va_up, hk]
set_option maxHeartbeats 1000000 in
theorem j_aast {a n t v : Nat} {i : Int32} (hd : decode (zMb M) pc = .ok (.aastore, 1)) (hs : zS a = (12 + t, n)) (ht3 : t < 3) (ha : a < nx) (hin : vp_in i n) (hvs : (zS v).1 = t) (hvn : v < nx) (kk : zJ X M n0 (pc + 1) ls st nx (va_up h a (va_up (h a) i.toNatClampNeg (.ref v))) Q) : zJ X M n0 pc ls (.ref v :: .int i :: .ref a :: st) nx h Q := by
  intro p l e R s m args below meth c D cA b z H locs Qm la C hX hll hw hS hend
  obtain ⟨hx, hb, hml, hown, hini, hts, hnw, hao, hK, hz, hR⟩ := id C
  obtain ⟨hsz, hnx, hP⟩ := id hw
  have he : (zW cA b z nx h)[a]? = some (z + a, .inl (cA (2 + t), n, .inr (.inr (.inr (.inr (fun k => zQ b z (h a k))))))) := by rw [zW_get ha, zE_arr hs]
  have hev : (zW cA b z nx h)[v]? = some (z + v, .inr (t, (List.range (zF t)).map (fun k => zV b z (h v k)))) := by rw [zW_get hvn, zE_obj hvs (by omega)]
  obtain ⟨r, hc, hE⟩ : ∃ r : vw_C, vwCl[t]? = some r ∧ (zT cA)[2 + t]? = some (cA (2 + t), .object r.1) := by
    rcases (show t = 0 ∨ t = 1 ∨ t = 2 by omega) with rfl | rfl | rfl <;> exact ⟨_, rfl, rfl⟩
  show W p l e R s m args below meth c H locs _ _ Qm (F0 m pc la (zV b z (.ref v) :: .int i :: zV b z (.ref a) :: st.map (zV b z)))
  rw [zV_ref ha hnx, zV_ref hvn hnx]
  have hlt : i.toNatClampNeg < n := Nat.not_le.mp fun q => hin (Or.inr q)
  have h0 : ¬ i < 0 := fun q => hin (Or.inl q)
  obtain ⟨r', hr', cellV, g1, g2, g3, -⟩ := hP v _ hev
  have hcls := (hK.1 t r hc).2
  obtain ⟨kA, comp, k1, k2, k3, -⟩ := (hK.2 (2 + t) _ hE).2
  have hcomp : comp = D.1 t := Option.some.inj (k3.symm.trans hcls.1)
  subst hcomp
  obtain ⟨kC, hkC, -⟩ := hcls.2
  refine W.aast hx hb (hP a _ he) (fun q h => by cases h) (fun h => by cases h) k1 k2 rfl hkC ⟨h0, by show _ < (arrV _ _ _).slots.size; rw [arrV_size]; exact hlt⟩ g1 (fun q h => by rw [g3] at h; cases h) (by rw [g2]; exact hkC) (by rw [g2]; exact va_assign hcls) rfl rfl hd fun H1 e1 z1 oq => ?_
  refine kk p l e R s m args below meth c D cA b z H1 _ Qm la C hX hll ⟨by rw [z1]; exact hsz, hnx, ?_⟩ (hS.put z1 oq (Nat.le_add_right z a)) hend
  rw [← zW_set, zE_arr hs, ← z_ref_set]
  refine hP.set zW_D he ?_ oq
  show H1[z + a]? = some (vp_cell _ _)
  rw [e1]
  rw [vp_cell_q, vp_cell_q, arrV_store]
  have hv1 : zQ b z (.ref v) = some (z + v) := by
    have h9 : ¬ v = 1000 := by omega
    simp [zQ, h9]
  rw [hv1]
  congr 2
  funext q
  by_cases hq : q = i.toNatClampNeg
  · subst hq
    simp [updV, va_up, va_rf]
  · simp [updV, va_up, hq]
theorem j_alen {a n t : Nat} {v : Int32} (hd : decode (zMb M) pc = .ok (.arraylength, 1)) (hs : zS a = (10 + t, n)) (ht : t < 5) (ha : a < nx) (hv : Int32.ofNat n = v) (kk : zJ X M n0 (pc + 1) ls (.int v :: st) nx h Q) : zJ X M n0 pc ls (.ref a :: st) nx h Q := by
  intro p l e R s m args below meth c D cA b z H locs Qm la C hX hll hw hS hend
  obtain ⟨hx, hb, hml, hown, hini, hts, hnw, hao, hK, hz, hR⟩ := id C
  obtain ⟨hsz, hnx, hP⟩ := id hw
  have he : ∃ x : vp_A, x.1 = n ∧ (zW cA b z nx h)[a]? = some (z + a, .inl (cA t, x)) := by
    by_cases h2 : t < 2
    · exact ⟨_, rfl, by rw [zW_get ha, zE_num hs h2]⟩
    · obtain ⟨u, rfl⟩ : ∃ u, t = 2 + u := ⟨t - 2, by omega⟩
      exact ⟨_, rfl, by rw [zW_get ha, zE_arr (t := u) (by rw [hs]; congr 1; omega)]⟩
  obtain ⟨x, hx1, he⟩ := he
  obtain ⟨ty, hE⟩ : ∃ ty, (zT cA)[t]? = some (cA t, ty) := by
    rcases (show t = 0 ∨ t = 1 ∨ t = 2 ∨ t = 3 ∨ t = 4 by omega) with rfl | rfl | rfl | rfl | rfl <;> exact ⟨_, rfl⟩
  show W p l e R s m args below meth c H locs _ _ Qm (F0 m pc la (zV b z (.ref a) :: st.map (zV b z)))
  rw [zV_ref ha hnx]
  exact va_alen hx hb hK hP a t he hE (by rw [hx1]; exact hv) hd (kk p l e R s m args below meth c D cA b z H locs Qm la C hX hll hw hS hend)
end ZW
end
section
-- what is new, and calls
/-- an object at its start: its class's default values -/
def zB (ci k : Nat) : Value := if (ci = 0 ∧ (k < 5 ∨ k = 9)) ∨ (ci = 3 ∧ k < 2) ∨ (ci = 4 ∧ (k < 2 ∨ k = 3 ∨ k = 4)) ∨ (ci = 5 ∧ (k < 4 ∨ k = 6 ∨ k = 14)) then .null else .int 0
theorem zB_V {b z ci k : Nat} : zV b z (zB ci k) = zB ci k := by
  unfold zB
  split <;> rfl
theorem zN_mono {a b : Nat} (h : a ≤ b) : zN a ≤ zN b := by
  induction h with
  | refl => exact Nat.le_refl _
  | step _ ih => exact Nat.le_trans ih (Nat.le_add_right _ _)
section ZC
variable {X : Nat × (Nat → Int32)} {M : zM} {n0 pc : Nat} {ls st : List Value} {nx : Nat} {h : zH} {Q : zQt}
/-- a class's link, of which objects are made (with its default values) -/
def zLK (own : String) (idx ci : Nat) : Prop := ∃ (C : String) (T : u_T) (N : Nat) (ty0 : Nat → FieldType), vwCl[ci]? = some (C, T, N) ∧ ci < 10 ∧ N = zF ci ∧
  Cond.classLink own idx C ∈ zWd ∧ Cond.instantiable C N ∈ zWd ∧ Cond.initialized C ∈ zWd ∧ (∀ w ∈ u_ws C T N, w ∈ zWd) ∧ (∀ k, k < N → parseFieldDescriptor (T k).2.2.1 = some (ty0 k)) ∧ ∀ k, k < N → defaultValue (ty0 k) = zB ci k
set_option maxHeartbeats 1000000 in
theorem j_new {ci idx : Nat} (hd : decode (zMb M) pc = .ok (.new idx, 3)) (hl : zLK (zMo M) idx ci) (hs : (zS nx).1 = ci) (hnx1 : nx < 1000) (h0 : n0 ≤ nx) (hf1 : nx + 1 - n0 ≤ zMc M) (hf2 : zN (nx + 1) - zN n0 ≤ zMs M) (kk : zJ X M n0 (pc + 3) ls (.ref nx :: st) (nx + 1) (va_up h nx (zB ci)) Q) : zJ X M n0 pc ls st nx h Q := by
  intro p l e R s m args below meth c D cA b z H locs Qm la C hX hll hw hS hend
  obtain ⟨CC, T, N, ty0, hc, hci, hN, hcl, hinst, hini0, hin, hty, hdf⟩ := hl
  obtain ⟨hx, hb, hml, hown, hini, hts, hnw, hao, hK, hz, hR⟩ := id C
  obtain ⟨hsz, hnx, hP⟩ := id hw
  have hKn := hK.1 ci _ hc
  have hzz : zZ nx = N := by
    unfold zZ
    rw [hs, if_pos hci, hN]
  have hm := zN_mono h0
  have e1 : nx - n0 + 1 = nx + 1 - n0 := by omega
  have e2 : zN nx - zN n0 + N = zN (nx + 1) - zN n0 := by
    show _ = zN nx + zZ nx - zN n0
    omega
  refine W.newcK hx hb hown (hts _ hcl) (hts _ hinst) (hts _ hini0) rfl hd (by rw [e1]; exact Nat.le_trans hf1 hR.2.2.1) (by rw [e2]; exact Nat.le_trans hf2 hR.2.2.2) hKn.2.1 hsz fun H1 kC hkC g1 z1 o1 => ?_
  refine W.cs e1 e2 ?_
  have hr : zV b z (.ref nx) = .ref (z + nx) := zV_ref (nx := nx + 1) (by omega) (by omega)
  have K := kk p l e R s m args below meth c D cA b z H1 locs Qm la C hX hll ⟨z1, by omega, ?_⟩ ⟨Nat.le_trans hS.1 (by omega), fun x h1 h2 => (o1 x (by have := hS.1; omega)).trans (hS.2.1 x h1 h2), hS.2.2⟩ hend
  · have K : W p l e R s m args below meth c H1 locs _ _ Qm (F0 m (pc + 3) la (zV b z (.ref nx) :: st.map (zV b z))) := K
    rw [hr] at K
    exact K
  · rw [← zW_push]
    refine (hP.kept (fun k x hx => o1 x.1 ?_)).app (fun k x hx => ?_)
    · have := (hP k x hx).lt
      omega
    · have hz : k < 1 := (List.getElem?_eq_some_iff.mp hx).1
      rw [show k = 0 by omega] at hx
      cases hx
      show va_at D vwCl (z + nx, zE cA b z nx (zB ci)) H1
      rw [zE_obj hs hci]
      refine ⟨_, hc, (u_born ty0 hts hin hKn hkC g1 hty).to (fun j hj => ?_)⟩
      have h9 := z_fs (b := b) (z := z) (n := zF ci) (k := j) (g := zB ci) (by rw [← hN]; exact hj)
      unfold vp_V
      rw [List.getD_eq_getElem?_getD, h9, zB_V]
      exact hdf j hj
theorem zT_num {cA : Nat → ClassId} {s : State} {D : va_G} (hK : va_K D vwCl (zT cA) s) {t : Nat} {ty : FieldType} (h : (zT cA)[t]? = some (cA t, ty)) (hp : ty = .int ∨ ty = .char) : s.vm.findClass ("[" ++ ty.toString) = some (cA t) := by
  have h1 := (hK.2 t _ h).2
  rcases hp with rfl | rfl <;> exact h1
set_option maxHeartbeats 1000000 in
theorem j_newa {at0 : ArrayType} {t n : Nat} {i : Int32} (hd : decode (zMb M) pc = .ok (.newarray at0, 2)) (hat : (at0 = .int ∧ t = 0) ∨ (at0 = .char ∧ t = 1)) (hl : Cond.arrayClass (newarray.typeOf at0) ∈ zWd) (hs : zS nx = (10 + t, n)) (hn1 : ¬ i < 0) (hn2 : i.toNatClampNeg = n) (hn3 : n ≤ 1000) (hnx1 : nx < 1000) (h0 : n0 ≤ nx) (hf1 : nx + 1 - n0 ≤ zMc M) (hf2 : zN (nx + 1) - zN n0 ≤ zMs M) (kk : zJ X M n0 (pc + 2) ls (.ref nx :: st) (nx + 1) (va_up h nx (fun _ => .int 0)) Q) : zJ X M n0 pc ls (.int i :: st) nx h Q := by
  intro p l e R s m args below meth c D cA b z H locs Qm la C hX hll hw hS hend
  obtain ⟨hx, hb, hml, hown, hini, hts, hnw, hao, hK, hz, hR⟩ := id C
  obtain ⟨hsz, hnx, hP⟩ := id hw
  have ht2 : t < 2 := by rcases hat with ⟨-, rfl⟩ | ⟨-, rfl⟩ <;> omega
  have hzz : zZ nx = n := by
    unfold zZ
    rw [hs, if_neg (by show ¬ 10 + t < 10; omega)]
  have hm := zN_mono h0
  have e1 : nx - n0 + 1 = nx + 1 - n0 := by omega
  have e2 : zN nx - zN n0 + n = zN (nx + 1) - zN n0 := by
    show _ = zN nx + zZ nx - zN n0
    omega
  refine va_newaK hx hb (hts _ hl) rfl hd rfl hn1 hn2 (by rcases hat with ⟨rfl, -⟩ | ⟨rfl, -⟩ <;> simp [newarray.typeOf, componentBytes] <;> omega) (by rw [e1]; exact Nat.le_trans hf1 hR.2.2.1) (by rw [e2]; exact Nat.le_trans hf2 hR.2.2.2) hsz fun H1 cB g1 z1 o1 hAr hNm => ?_
  refine W.cs e1 e2 ?_
  have hr : zV b z (.ref nx) = .ref (z + nx) := zV_ref (nx := nx + 1) (by omega) (by omega)
  have hcB : cB = cA t := by
    rcases hat with ⟨rfl, rfl⟩ | ⟨rfl, rfl⟩
    · exact Option.some.inj (hNm.symm.trans (zT_num hK (t := 0) (ty := .int) rfl (Or.inl rfl)))
    · exact Option.some.inj (hNm.symm.trans (zT_num hK (t := 1) (ty := .char) rfl (Or.inr rfl)))
  have K := kk p l e R s m args below meth c D cA b z H1 locs Qm la C hX hll ⟨z1, by omega, ?_⟩ ⟨Nat.le_trans hS.1 (by omega), fun x h1 h2 => (o1 x (by have := hS.1; omega)).trans (hS.2.1 x h1 h2), hS.2.2⟩ hend
  · have K : W p l e R s m args below meth c H1 locs _ _ Qm (F0 m (pc + 2) la (zV b z (.ref nx) :: st.map (zV b z))) := K
    rw [hr] at K
    exact K
  · rw [← zW_push]
    refine (hP.kept (fun k x hx => o1 x.1 ?_)).app (fun k x hx => ?_)
    · have := (hP k x hx).lt
      omega
    · have hz : k < 1 := (List.getElem?_eq_some_iff.mp hx).1
      rw [show k = 0 by omega] at hx
      cases hx
      show va_at D vwCl (z + nx, zE cA b z nx (fun _ => .int 0)) H1
      rw [zE_num hs ht2]
      show H1[z + nx]? = some (vp_cell _ _)
      rw [vp_cell_i, g1, hcB]
      congr 2
      funext q
      rcases hat with ⟨rfl, -⟩ | ⟨rfl, -⟩ <;> rfl
set_option maxHeartbeats 1000000 in
theorem j_anew {idx t n : Nat} {i : Int32} (hd : decode (zMb M) pc = .ok (.anewarray idx, 3)) (ht3 : t < 3) (hl : ∀ r : vw_C, vwCl[t]? = some r → Cond.classLink (zMo M) idx r.1 ∈ zWd) (hs : zS nx = (12 + t, n)) (hn1 : ¬ i < 0) (hn2 : i.toNatClampNeg = n) (hn3 : n ≤ 1000) (hnx1 : nx < 1000) (h0 : n0 ≤ nx) (hf1 : nx + 1 - n0 ≤ zMc M) (hf2 : zN (nx + 1) - zN n0 ≤ zMs M) (kk : zJ X M n0 (pc + 3) ls (.ref nx :: st) (nx + 1) (va_up h nx (fun _ => .null)) Q) : zJ X M n0 pc ls (.int i :: st) nx h Q := by
  intro p l e R s m args below meth c D cA b z H locs Qm la C hX hll hw hS hend
  obtain ⟨hx, hb, hml, hown, hini, hts, hnw, hao, hK, hz, hR⟩ := id C
  obtain ⟨hsz, hnx, hP⟩ := id hw
  subst hn2
  have hzz : zZ nx = i.toNatClampNeg := by
    unfold zZ
    rw [hs, if_neg (by show ¬ 12 + t < 10; omega)]
  have hm := zN_mono h0
  have e1 : nx - n0 + 1 = nx + 1 - n0 := by omega
  have e2 : zN nx - zN n0 + i.toNatClampNeg = zN (nx + 1) - zN n0 := by
    show _ = zN nx + zZ nx - zN n0
    omega
  obtain ⟨r, hc, hE, hA⟩ : ∃ r : vw_C, vwCl[t]? = some r ∧ (zT cA)[2 + t]? = some (cA (2 + t), .object r.1) ∧ r.1 ∈ zAo := by
    rcases (show t = 0 ∨ t = 1 ∨ t = 2 by omega) with rfl | rfl | rfl
    · exact ⟨_, rfl, rfl, List.mem_cons_self⟩
    · exact ⟨_, rfl, rfl, List.mem_cons_of_mem _ List.mem_cons_self⟩
    · exact ⟨_, rfl, rfl, List.mem_cons_of_mem _ (List.mem_cons_of_mem _ List.mem_cons_self)⟩
  refine W.anew hx hb hown (hts _ (hl r hc)) (va_AO.use (hao _ hA)) rfl hd rfl hn1 (by omega) (by rw [e1]; exact Nat.le_trans hf1 hR.2.2.1) (by rw [e2]; exact Nat.le_trans hf2 hR.2.2.2) fun cB kB comp f1 f2 f3 f4 => ?_
  generalize hH1 : H.push ({ cls := cB, slots := Array.replicate i.toNatClampNeg .null, vm := .none } : Cell) = H1
  have z1 : H1.size = H.size + 1 := by rw [← hH1, Array.size_push]
  have g1 : H1[H.size]? = some (arrV cB i.toNatClampNeg (fun _ => .null)) := by rw [← hH1, Array.getElem?_push_size, ← arrV_new]
  have o1 : ∀ q : Nat, q < H.size → H1[q]? = H[q]? := fun q hq => by rw [← hH1, Array.getElem?_push, if_neg (Nat.ne_of_lt hq)]
  refine W.cs e1 e2 ?_
  have hr : zV b z (.ref nx) = .ref H.size := by rw [hsz]; exact zV_ref (nx := nx + 1) (by omega) (by omega)
  have hcB : cB = cA (2 + t) := by
    obtain ⟨kA, comp2, k1, k2, k3, k4⟩ := (hK.2 (2 + t) _ hE).2
    exact Option.some.inj (f1.symm.trans k4)
  have K := kk p l e R s m args below meth c D cA b z H1 locs Qm la C hX hll ⟨by rw [z1, hsz]; rfl, by omega, ?_⟩ ⟨Nat.le_trans hS.1 (by omega), fun x h1 h2 => (o1 x (by have := hS.1; omega)).trans (hS.2.1 x h1 h2), hS.2.2⟩ hend
  · have K : W p l e R s m args below meth c H1 locs _ _ Qm (F0 m (pc + 3) la (zV b z (.ref nx) :: st.map (zV b z))) := K
    rw [hr] at K
    exact K
  · rw [← zW_push]
    refine (hP.kept (fun k x hx => o1 x.1 ?_)).app (fun k x hx => ?_)
    · exact (hP k x hx).lt
    · have hz : k < 1 := (List.getElem?_eq_some_iff.mp hx).1
      rw [show k = 0 by omega] at hx
      cases hx
      show va_at D vwCl (z + nx, zE cA b z nx (fun _ => .null)) H1
      rw [zE_arr hs]
      show H1[z + nx]? = some (vp_cell _ _)
      rw [vp_cell_q, ← hsz, g1, hcB]
      rfl
/-- java.lang.Object's constructor -/
theorem j_objInit {idx a : Nat} (hd : decode (zMb M) pc = .ok (.invokespecial idx, 3)) (hl : Cond.methodLink (zMo M) idx Lib.objectInit ∈ zWd) (hi : Cond.instanceMethod Lib.objectInit ∈ zWd) (hcd : Cond.code Lib.objectInit ⟨#[0xb1]⟩ 1 none ∈ zWd) (hh : 1 ≤ zMh M) (hst : ((st.map (zV 0 0)).map fun v => v.category).sum ≤ 8) (kk : zJ X M n0 (pc + 3) ls st nx h Q) : zJ X M n0 pc ls (.ref a :: st) nx h Q := by
  intro p l e R s m args below meth c D cA b z H locs Qm la C hX hll hw hS hend
  obtain ⟨hx, hb, hml, hown, hini, hts, hnw, hao, hK, hz, hR⟩ := id C
  have hsum : ((st.map (zV b z)).map fun v => v.category) = ((st.map (zV 0 0)).map fun v => v.category) := by
    rw [List.map_map, List.map_map]
    apply List.map_congr_left
    intro v _
    cases v <;> rfl
  exact W.objInit hx hb hown (hts _ hl) (hts _ hi) (hts _ hcd) rfl (by rw [hml]; exact hll.1) rfl hd (by omega) (by show 2 * 0 + _ + 12 ≤ _; rw [hsum]; omega) (kk p l e R s m args below meth c D cA b z H locs Qm la C hX hll hw hS hend)
theorem z_sum {b z : Nat} (st : List Value) : ((st.map (zV b z)).map fun v => v.category) = st.map fun v => v.category := by
  rw [List.map_map]
  apply List.map_congr_left
  intro v _
  cases v <;> rfl
theorem j_mmin {idx : Nat} {x y : Int32} (hd : decode (zMb M) pc = .ok (.invokestatic idx, 3)) (h1 : Cond.methodLink (zMo M) idx Lib.Math.min.name ∈ zWd) (h2 : Cond.static Lib.Math.min.name ∈ zWd) (h3 : Cond.initialized "java/lang/Math" ∈ zWd) (h4 : Cond.code Lib.Math.min.name Lib.Math.min.code 2 (some .int) ∈ zWd) (hh : 1 ≤ zMh M) (hst : (st.map fun v => v.category).sum ≤ 8) (h0 : n0 ≤ nx) (hf1 : nx - n0 ≤ zMc M) (hf2 : zN nx - zN n0 ≤ zMs M) (kk : zJ X M n0 (pc + 3) ls (.int (if y < x then y else x) :: st) nx h Q) : zJ X M n0 pc ls (.int y :: .int x :: st) nx h Q := by
  intro p l e R s m args below meth c D cA b z H locs Qm la C hX hll hw hS hend
  obtain ⟨hx, hb, hml, hown, hini, hts, hnw, hao, hK, hz, hR⟩ := id C
  exact va_mmin hx hb (by rw [hml]; exact hll.1.symm) hown (hts _ h1) (hts _ h2) (hts _ h3) (hts _ h4) (by omega) (by rw [z_sum]; omega) (Nat.le_trans hf1 hR.2.2.1) (Nat.le_trans hf2 hR.2.2.2) hd (kk p l e R s m args below meth c D cA b z H locs Qm la C hX hll hw hS hend)
theorem j_mmax {idx : Nat} {x y : Int32} (hd : decode (zMb M) pc = .ok (.invokestatic idx, 3)) (h1 : Cond.methodLink (zMo M) idx Lib.Math.max.name ∈ zWd) (h2 : Cond.static Lib.Math.max.name ∈ zWd) (h3 : Cond.initialized "java/lang/Math" ∈ zWd) (h4 : Cond.code Lib.Math.max.name Lib.Math.max.code 2 (some .int) ∈ zWd) (hh : 1 ≤ zMh M) (hst : (st.map fun v => v.category).sum ≤ 8) (h0 : n0 ≤ nx) (hf1 : nx - n0 ≤ zMc M) (hf2 : zN nx - zN n0 ≤ zMs M) (kk : zJ X M n0 (pc + 3) ls (.int (if x < y then y else x) :: st) nx h Q) : zJ X M n0 pc ls (.int y :: .int x :: st) nx h Q := by
  intro p l e R s m args below meth c D cA b z H locs Qm la C hX hll hw hS hend
  obtain ⟨hx, hb, hml, hown, hini, hts, hnw, hao, hK, hz, hR⟩ := id C
  exact va_mmax hx hb (by rw [hml]; exact hll.1.symm) hown (hts _ h1) (hts _ h2) (hts _ h3) (hts _ h4) (by omega) (by rw [z_sum]; omega) (Nat.le_trans hf1 hR.2.2.1) (Nat.le_trans hf2 hR.2.2.2) hd (kk p l e R s m args below meth c D cA b z H locs Qm la C hX hll hw hS hend)
theorem j_f2bits {idx : Nat} {x : UInt32} (hd : decode (zMb M) pc = .ok (.invokestatic idx, 3)) (h1 : Cond.methodLink (zMo M) idx ⟨"java/lang/Float", "floatToRawIntBits", "(F)I"⟩ ∈ zWd) (h2 : Cond.native ⟨"java/lang/Float", "floatToRawIntBits", "(F)I"⟩ ∈ zWd) (h3 : Cond.static ⟨"java/lang/Float", "floatToRawIntBits", "(F)I"⟩ ∈ zWd) (h4 : Cond.initialized "java/lang/Float" ∈ zWd) (hh : 1 ≤ zMh M) (hst : (st.map fun v => v.category).sum ≤ 8) (kk : zJ X M n0 (pc + 3) ls (.int x.toInt32 :: st) nx h Q) : zJ X M n0 pc ls (.float x :: st) nx h Q := by
  intro p l e R s m args below meth c D cA b z H locs Qm la C hX hll hw hS hend
  obtain ⟨hx, hb, hml, hown, hini, hts, hnw, hao, hK, hz, hR⟩ := id C
  exact vn_f2i hx hb (by rw [hml]; exact hll.1.symm) hown (hts _ h1) (hts _ h2) (hts _ h3) (hts _ h4) (by omega) (by rw [z_sum]; omega) hd (kk p l e R s m args below meth c D cA b z H locs Qm la C hX hll hw hS hend)
/-- the script's ints and its length, in the law alone -/
theorem j_sld {i x : Int32} (hd : decode (zMb M) pc = .ok (.iaload, 1)) (hlw : (zMn M).name = "law") (hin : vp_in i X.1) (hv : X.2 i.toNatClampNeg = x) (kk : zJ X M n0 (pc + 1) ls (.int x :: st) nx h Q) : zJ X M n0 pc ls (.int i :: .ref 1000 :: st) nx h Q := by
  intro p l e R s m args below meth c D cA b z H locs Qm la C hX hll hw hS hend
  obtain ⟨hx, hb, hml, hown, hini, hts, hnw, hao, hK, hz, hR⟩ := id C
  subst hv
  obtain ⟨hXX, hbl, hbz⟩ := hX hlw
  exact va_sld hx hb hXX hbl (show ¬ z ≤ b by omega) hS hin hd (kk p l e R s m args below meth c D cA b z H locs Qm la C hX hll hw hS hend)
theorem j_slen (hd : decode (zMb M) pc = .ok (.arraylength, 1)) (hlw : (zMn M).name = "law") (kk : zJ X M n0 (pc + 1) ls (.int (Int32.ofNat X.1) :: st) nx h Q) : zJ X M n0 pc ls (.ref 1000 :: st) nx h Q := by
  intro p l e R s m args below meth c D cA b z H locs Qm la C hX hll hw hS hend
  obtain ⟨hx, hb, hml, hown, hini, hts, hnw, hao, hK, hz, hR⟩ := id C
  obtain ⟨hXX, hbl, hbz⟩ := hX hlw
  exact va_slen hx hb hXX hbl (show ¬ z ≤ b by omega) hS hd (kk p l e R s m args below meth c D cA b z H locs Qm la C hX hll hw hS hend)
/-- a method's contract: from the heap h, with these arguments, it comes to an end of which P says what it answers and what the heap is then -/
def zCT (M : zM) (as : List Value) (nx : Nat) (h : zH) (nx' : Nat) (P : Option Int32 → zH → Prop) : Prop :=
  ∀ (X : Nat × (Nat → Int32)) (Q : zQt), (∀ r h', P r h' → Q r nx' h') → zJ X M nx 0 (as ++ List.replicate (zMl M - as.length) .null) [] nx h Q
theorem zCT.to {M : zM} {as : List Value} {nx nx' : Nat} {h : zH} {P P' : Option Int32 → zH → Prop} (H : zCT M as nx h nx' P) (hP : ∀ r h', P r h' → P' r h') : zCT M as nx h nx' P' := fun X Q hQ => H X Q (fun r h' q => hQ r h' (hP r h' q))
/-- what a program decides of a method -/
def zOm (M : zM) (n : Nat) : Prop := plainFor (zMn M) = true ∧ n ≤ zMl M ∧ zMl M ≤ 11 ∧ (zMn M).name ≠ "law" ∧ Cond.code (zMn M) (zMb M) (zMl M) (zMr M) ∈ zWd ∧ Cond.initialized (zMo M) ∈ zWd ∧ (zMo M ≠ "java/lang/invoke/MethodHandle" ∧ zMo M ≠ "java/lang/invoke/VarHandle")
abbrev zWs (M : zM) : List Cond := Cond.code (zMn M) (zMb M) (zMl M) (zMr M) :: zWd
def zPs (D : va_G) (cA : Nat → ClassId) (b z : Nat) (o : Option FieldType) (nx' : Nat) (P : Option Int32 → zH → Prop) : Array Value → State → Outcome → State → Prop := match o with
  | some _ => va_Qi (fun (y : Int32) (g : zH) => P (some y) g) (fun g t => zR D cA b z nx' g t.heap) (fun q => z ≤ q)
  | none => va_Qv (fun (g : zH) => P none g) (fun g t => zR D cA b z nx' g t.heap) (fun q => z ≤ q)
theorem zMet_of {l : Launch} {y : MethodName} {ws ws' : List Cond} {rm : Room} {Pc : Array Value → State → Prop} {Qc : Array Value → State → Outcome → State → Prop} {mc ms : Nat} {free : Addr → Prop} {cc : ByteArray} {maxL : Nat} {ret : Option FieldType}
    (hy : plainFor y = true) (hw : ws = Cond.code y cc maxL ret :: ws')
    (body : ∀ p e s m args below meth c s₁, BodyLoose p l y (headSpec ws rm) cc maxL ret e s m args below meth c s₁ → c.maxLocals = maxL → Pc args s →
      W p l e (headSpec ws rm).room s m args below meth c s.heap [] 0 0 (MQ below Qc args s mc ms free) (entryFrame m args maxL)) : Met l y ws rm Pc Qc mc ms free := by
  refine MetFree.of_bodySF (code := cc) (maxLocals := maxL) (ret := ret) hy ?_ ?_
  · intro args s m h hn
    obtain ⟨meth, c, h1, h2, h3, h4, h5, h6, -, -⟩ := Cond.code_spec hn (atoms_spec (ws := ws) h _ (by rw [hw]; exact List.mem_cons_self))
    exact ⟨meth, c, h1, h2, h3, h4, h5, h6⟩
  · intro p e s m args below meth c s₁ B hml hP _
    have hh0 : s₁.heap = s.heap := by rw [B.state]; rfl
    obtain ⟨t, a1, o, b1, b2, b3⟩ := body p e s m args below meth c s₁ B hml hP s₁ hh0 (Stand.of_body B)
    exact ⟨t, o, a1, b1, b2, ⟨b3.1, b3.2⟩⟩
theorem z_args {vs : List Value} {i : Nat} {v : Value} (hc : ∀ v ∈ vs, v.category = 1) (h : vs[i]? = some v) : ∀ k : Nat, (k + i, v) ∈ lv_args k vs := by
  induction vs generalizing i with
  | nil => simp at h
  | cons u us ih =>
    intro k
    have hu : u.category = 1 := hc u List.mem_cons_self
    unfold lv_args
    rw [if_neg (by rw [hu]; decide)]
    cases i with
    | zero =>
      simp at h
      subst h
      exact List.mem_cons_self
    | succ j =>
      rw [List.getElem?_cons_succ] at h
      have h1 := ih (fun v hv => hc v (List.mem_cons_of_mem _ hv)) h (k + 1)
      rw [show k + 1 + j = k + (j + 1) by omega] at h1
      exact List.mem_cons_of_mem _ h1
theorem z_entry {b z nL : Nat} {as : List Value} (hc : ∀ v ∈ as, v.category = 1) (hn : as.length ≤ nL) : zL b z nL ((lg_sl (as.map (zV b z)) ++ List.replicate (nL - (lg_sl (as.map (zV b z))).length) Slot.unset).toArray) (as ++ List.replicate (nL - as.length) .null) := by
  have hc2 : ∀ v ∈ as.map (zV b z), v.category = 1 := by
    intro v hv
    obtain ⟨u, hu, rfl⟩ := List.mem_map.mp hv
    exact z_cat1 (hc u hu)
  have hlen : (lg_sl (as.map (zV b z))).length = as.length := by
    have : ∀ vs : List Value, (∀ v ∈ vs, v.category = 1) → (lg_sl vs).length = vs.length := by
      intro vs
      induction vs with
      | nil => intro _; rfl
      | cons u us ih =>
        intro h
        have hu : u.category = 1 := h u List.mem_cons_self
        have h2 := ih (fun v hv => h v (List.mem_cons_of_mem _ hv))
        unfold lg_sl at h2 ⊢
        rw [List.flatMap_cons, List.length_append, h2, if_neg (by rw [hu]; decide)]
        simp
        omega
    rw [this _ hc2, List.length_map]
  have h0 := lv_entry (as.map (zV b z)) (n := nL) (by rw [hlen]; exact hn)
  refine ⟨h0.1, h0.2.1, by simp; omega, fun i v hv hnv => ?_⟩
  by_cases hi : i < as.length
  · rw [List.getElem?_append_left hi] at hv
    have h1 : (as.map (zV b z))[i]? = some (zV b z v) := by rw [List.getElem?_map, hv]; rfl
    have h2 := z_args hc2 h1 0
    rw [Nat.zero_add] at h2
    exact ⟨hc v (List.mem_of_getElem? hv), h0.2.2 _ h2⟩
  · rw [List.getElem?_append_right (by omega)] at hv
    have h1 := List.mem_of_getElem? hv
    exact absurd (List.eq_of_mem_replicate h1) hnv
set_option maxHeartbeats 1000000 in
theorem zMet {M : zM} {as : List Value} {nx nx' : Nat} {h : zH} {P : Option Int32 → zH → Prop} (hO : zOm M as.length) (hc : ∀ v ∈ as, v.category = 1) (hf1 : nx' - nx ≤ zMc M) (hf2 : zN nx' - zN nx ≤ zMs M) (hT : zCT M as nx h nx' P) (l : Launch) (D : va_G) (cA : Nat → ClassId) (b z : Nat) :
    Met l (zMn M) (zWs M) (zRm M) (va_Pc (as.map (zV b z)) (fun U => zR D cA b z nx h U.heap ∧ va_K D vwCl (zT cA) U ∧ (∀ w ∈ zNw, va_Nw w U) ∧ (∀ C ∈ zAo, va_AO C U))) (zPs D cA b z (zMr M) nx' P) (zMc M) (zMs M) (fun q => z ≤ q) := by
  obtain ⟨hpl, hln, hml11, hlaw, hcw, hiw, hnm⟩ := hO
  refine zMet_of (cc := zMb M) (maxL := zMl M) (ret := zMr M) hpl rfl ?_
  intro p e s m args below meth c s₁ B hml hv
  obtain ⟨rfl, hR, hK, hN, hA⟩ := hv
  have hts := atoms_spec (ws := zWs M) B.pre
  have hlocks := B.notSynchronized
  have hrt := B.returns
  rw [lg_entry_eq]
  have hsz := hR.1
  have hC : zCx M p (headSpec (zWs M) (zRm M)).room s m (as.map (zV b z)).toArray meth c D cA z :=
    ⟨B.exec, B.bytes, hml, findClass_of_methodNamed B.named, fun q => by rw [← q]; exact (name_of_methodNamed B.named B.method).1, fun w hw => hts w (List.mem_cons_of_mem _ hw), hN, hA, hK, by omega, Nat.le_refl _, Nat.le_refl _, Nat.le_refl _, Nat.le_refl _⟩
  have K := hT (0, fun _ => 0) (fun v n g => n = nx' ∧ P v g) (fun r h' q => ⟨rfl, q⟩) p l e (headSpec (zWs M) (zRm M)).room s m (as.map (zV b z)).toArray below meth c D cA b z s.heap [] (MQ below (zPs D cA b z (zMr M) nx' P) (as.map (zV b z)).toArray s (zMc M) (zMs M) (fun q => z ≤ q)) _ hC (fun q => absurd q hlaw) (z_entry hc hln) hR va_S.rf ?_
  · exact W.cs (Nat.sub_self nx).symm (Nat.sub_self _).symm K
  · rintro v n g H' locs' pc' la' ⟨rfl, hPv⟩ hret hR' hS'
    refine W.widen hf1 hf2 ?_
    cases v with
    | none =>
      obtain ⟨hd, hr2⟩ := hret
      have e9 : zPs D cA b z (zMr M) n P = zPs D cA b z none n P := by rw [hr2]
      rw [e9]
      exact W.vret B.exec B.bytes (hrt.trans hr2) (fun t ht hW => ⟨⟨g, rfl, hPv, by show zR D cA b z n g t.heap; rw [ht]; exact hR'⟩, hS'.F ht⟩) hS'.2.2 hd
    | some x =>
      obtain ⟨hd, ty, hr2, hnr⟩ := hret
      have e9 : zPs D cA b z (zMr M) n P = zPs D cA b z (some ty) n P := by rw [hr2]
      rw [e9]
      exact W.zret (v := x) B.exec B.bytes (hrt.trans hr2) hnr (fun t ht hW => ⟨⟨x, g, rfl, hPv, by show zR D cA b z n g t.heap; rw [ht]; exact hR'⟩, hS'.F ht⟩) hS'.2.2 hd
theorem z_good {w : Cond} (h : w ∈ zWd) : w ∈ zWd ∧ ((w.onTables && w.keeps) = true ∨ ∃ ty, w = .arrayClass ty) := ⟨h, good_of_word (List.mem_filter.mp h).2⟩
theorem z_goodWs {M' : zM} (h : Cond.code (zMn M') (zMb M') (zMl M') (zMr M') ∈ zWd) : GoodIn zWd (zWs M') := fun w hw => by
  rcases List.mem_cons.mp hw with rfl | hw
  · exact z_good h
  · exact z_good hw
theorem zNw_warm {w : Cond} {s U : State} (h : w ∈ zNw) (hW : s.WarmedH U.vm) (hZ : va_Nw w s) : va_Nw w U := by
  rcases List.mem_append.mp h with h | h
  · obtain ⟨q, -, rfl⟩ := List.mem_map.mp h
    exact va_Nw.warmF hW hZ
  · obtain ⟨q, -, rfl⟩ := List.mem_map.mp h
    exact va_Nw.warmM hW hZ
theorem zNw_tab {w : Cond} (h : w ∈ zNw) : w.onTables = true := by
  rcases List.mem_append.mp h with h | h
  · obtain ⟨q, -, rfl⟩ := List.mem_map.mp h
    rfl
  · obtain ⟨q, -, rfl⟩ := List.mem_map.mp h
    rfl
theorem z_blind {as : List Value} {D : va_G} {cA : Nat → ClassId} {b z nx : Nat} {h : zH} : FrameBlind (va_Pc as (fun U => zR D cA b z nx h U.heap ∧ va_K D vwCl (zT cA) U ∧ (∀ w ∈ zNw, va_Nw w U) ∧ (∀ C ∈ zAo, va_AO C U))) :=
  fun a U g mk q => ⟨q.1, q.2.1, va_K.moved (u := U) (U := U.calling g mk a) (Vm.Alike.refl U.vm) q.2.2.1, fun w hw => va_Nw.same (u := U) (U := U.calling g mk a) (zNw_tab hw) rfl (q.2.2.2.1 w hw), fun C hC => va_AO.moved (u := U) (U := U.calling g mk a) (Vm.Alike.refl U.vm) (q.2.2.2.2 C hC)⟩
theorem z_pre {as : List Value} {D : va_G} {cA : Nat → ClassId} {b z nx : Nat} {h : zH} {s : State} {H : Heap} (hw : zR D cA b z nx h H) (hK : va_K D vwCl (zT cA) s) (hN : ∀ w ∈ zNw, va_Nw w s) (hA : ∀ C ∈ zAo, va_AO C s) : ∀ U : State, U.heap = H → s.WarmedH U.vm → va_Pc as (fun U => zR D cA b z nx h U.heap ∧ va_K D vwCl (zT cA) U ∧ (∀ w ∈ zNw, va_Nw w U) ∧ (∀ C ∈ zAo, va_AO C U)) as.toArray U :=
  fun U hU hW => ⟨rfl, by rw [hU]; exact hw, va_K.moved hW.alike hK, fun w h => zNw_warm h hW (hN w h), fun C hC => va_AO.moved hW.alike (hA C hC)⟩
/-- a call's end, in the caller -/
theorem z_back {p : Program} {l : Launch} {e : Env} {R : Room} {s : State} {m : MethodId} {args : Array Value} {below : List Frame} {meth : Method} {c : Code} {D : va_G} {cA : Nat → ClassId} {b z : Nat} {H : Heap} {locs : List Loc} {Qm : State → Prop} {la : Array Slot} {M' : zM} {nx' : Nat} {P : Option Int32 → zH → Prop} {mv : List Value} {av : Array Value}
    (he1 : nx' = nx + zMc M') (he2 : zN nx' = zN nx + zMs M') (h0 : n0 ≤ nx)
    (run : va_Run p l e R s m args below meth c H locs (nx - n0) (zN nx - zN n0) (zMc M') (zMs M') (F0 m pc la mv) (st.map (zV b z)) (zPs D cA b z (zMr M') nx' P av) (fun q => z ≤ q))
    (C : zCx M p R s m args meth c D cA z) (hX : (zMn M).name = "law" → va_X b X.1 X.2 s s.heap ∧ b < s.heap.size ∧ b < z) (hll : zL b z (zMl M) la ls) (hS : va_S (fun q => z ≤ q) s.heap H locs)
    (hend : ∀ (v : Option Int32) (nx' : Nat) (h' : zH) (H' : Heap) (locs' : List Loc) (pc' : Nat) (la' : Array Slot), Q v nx' h' → zRet M pc' v → zR D cA b z nx' h' H' → va_S (fun q => z ≤ q) s.heap H' locs' →
      W p l e R s m args below meth c H' locs' (nx' - n0) (zN nx' - zN n0) Qm (F0 m pc' la' ((v.map Value.int).toList)))
    (kk : ∀ r h', r.isSome = (zMr M').isSome → P r h' → zJ X M n0 (pc + 3) ls ((r.map Value.int).toList ++ st) nx' h' Q) : W p l e R s m args below meth c H locs (nx - n0) (zN nx - zN n0) Qm (F0 m pc la mv) := by
  have hm := zN_mono h0
  have e1 : nx - n0 + zMc M' = nx' - n0 := by omega
  have e2 : zN nx - zN n0 + zMs M' = zN nx' - zN n0 := by omega
  cases hr : zMr M' with
  | none =>
    rw [hr] at run
    refine va_callv (a := av) run hS (fun q _ h => h) (fun q h => h) (fun u t H1 locs1 ht hvm hw1 hB hz1 hk1 hS1 => ?_)
    have hB : zR D cA b z nx' u t.heap := hB
    rw [ht] at hB
    exact W.cs e1 e2 (kk none u (by rw [hr]; rfl) hw1 p l e R s m args below meth c D cA b z H1 locs1 Qm la C hX hll hB hS1 hend)
  | some ty =>
    rw [hr] at run
    refine va_calli (a := av) run hS (fun q _ h => h) (fun q h => h) (fun y u t H1 locs1 ht hvm hw1 hB hz1 hk1 hS1 => ?_)
    have hB : zR D cA b z nx' u t.heap := hB
    rw [ht] at hB
    exact W.cs e1 e2 (kk (some y) u (by rw [hr]; rfl) hw1 p l e R s m args below meth c D cA b z H1 locs1 Qm la C hX hll hB hS1 hend)
/-- what a program decides of a call: of the method, its height and room, its parameters -/
def zSc (M M' : zM) (n k : Nat) : Prop := zOm M' k ∧ (parseMethodDescriptor (zMn M').desc).map (fun d => d.parameters.length) = some n ∧ zMh M' + 1 ≤ zMh M
def zSV (M : zM) (idx : Nat) (M' : zM) (n ci : Nat) : Prop := zSc M M' n (n + 1) ∧ Cond.methodLink (zMo M) idx (zMn M') ∈ zWd ∧ Cond.instanceMethod (zMn M') ∈ zWd ∧ Cond.selects (zMo M') (zMn M') (zMn M') ∈ zWd ∧ ci < 10 ∧ ∃ (T : u_T) (N : Nat), vwCl[ci]? = some (zMo M', T, N)
def zSS (M : zM) (idx : Nat) (M' : zM) (n : Nat) : Prop := zSc M M' n n ∧ (Cond.methodLink (zMo M) idx (zMn M') ∈ zWd ∨ ∃ host : String, Cond.methodLinkNest (zMo M) idx (zMn M') host ∈ zNw) ∧ Cond.static (zMn M') ∈ zWd
def zSI (M : zM) (idx : Nat) (M' : zM) (n : Nat) : Prop := zSc M M' n (n + 1) ∧ (Cond.methodLink (zMo M) idx (zMn M') ∈ zWd ∨ ∃ host : String, Cond.methodLinkNest (zMo M) idx (zMn M') host ∈ zNw) ∧ Cond.instanceMethod (zMn M') ∈ zWd ∧ (zMn M').name = "<init>" ∧ zMr M' = none
theorem z_room {M M' : zM} {R : Room} (hh : zMh M' + 1 ≤ zMh M) (hl : zMl M' ≤ 11) (h1 : zMh M ≤ R.frames) (h2 : 30 * zMh M ≤ R.locals) : (zRm M').frames + 1 ≤ R.frames ∧ 8 + (zMl M' + 11) + (zRm M').locals ≤ R.locals := by
  refine ⟨?_, ?_⟩
  · show zMh M' + 1 ≤ R.frames
    omega
  · show 8 + (zMl M' + 11) + 30 * zMh M' ≤ R.locals
    omega
set_option maxHeartbeats 2000000 in
theorem j_callV {M' : zM} {As : List Value} {a idx n ci : Nat} {nx' : Nat} {P : Option Int32 → zH → Prop} (hd : decode (zMb M) pc = .ok (.invokevirtual idx, 3)) (hl : zSV M idx M' n ci) (hT : zCT M' (.ref a :: As) nx h nx' P) (hs : (zS a).1 = ci) (ha : a < nx) (hn : As.length = n) (hcat : ∀ v ∈ As, v.category = 1) (hst : (st.map fun v => v.category).sum ≤ 8) (h0 : n0 ≤ nx) (he1 : nx' = nx + zMc M') (he2 : zN nx' = zN nx + zMs M') (hg1 : nx - n0 + zMc M' ≤ zMc M) (hg2 : zN nx - zN n0 + zMs M' ≤ zMs M)
    (kk : ∀ r h', r.isSome = (zMr M').isSome → P r h' → zJ X M n0 (pc + 3) ls ((r.map Value.int).toList ++ st) nx' h' Q) : zJ X M n0 pc ls (As.reverse ++ .ref a :: st) nx h Q := by
  intro p l e R s m args below meth c D cA b z H locs Qm la C hX hll hw hS hend
  obtain ⟨⟨hO, hpar, hh⟩, hlk, hins, hsel, hci, T, N, hcl⟩ := hl
  obtain ⟨hx, hb, hml, hown, hini, hts, hnw, hao, hK, hz, hR⟩ := id C
  obtain ⟨hsz, hnx, hP⟩ := id hw
  obtain ⟨hpl, hln, hml11, hlaw, hcw, hiw, hnm⟩ := id hO
  subst hn
  have hM := zMet (M := M') (as := .ref a :: As) hO (fun v hv => by
    rcases List.mem_cons.mp hv with rfl | hv
    · rfl
    · exact hcat v hv) (by omega) (by omega) hT l D cA b z
  rw [List.map_cons, zV_ref ha hnx] at hM
  have he : (zW cA b z nx h)[a]? = some (z + a, .inr (ci, (List.range (zF ci)).map (fun k => zV b z (h a k)))) := by rw [zW_get ha, zE_obj hs hci]
  have G : GoodIn zWd (wsV (zMo M) idx (zMo M') (zMn M') (zWs M')) := by
    intro w hw
    rcases List.mem_append.mp hw with hw | hw
    · simp only [List.mem_cons, List.not_mem_nil, or_false] at hw
      rcases hw with rfl | rfl | rfl | rfl
      · exact z_good hlk
      · exact z_good hins
      · exact z_good hsel
      · exact z_good hiw
    · exact z_goodWs hcw w hw
  have run := va_runV (p := p) (l := l) (e := e) (R := R) (s := s) (m := m) (args := args) (below := below) (meth := meth) (c := c) (H := H) (locs := locs) (cells := nx - n0) (slots := zN nx - zN n0) (C := zMo M') (b := z + a) (As := As.map (zV b z)) (rest := st.map (zV b z)) (g := F0 m pc la ((As.reverse ++ .ref a :: st).map (zV b z))) (Ts := zWd) ⟨hx, hb, hml, hown, hts⟩ hM (cwV As.length hts G rfl rfl rfl ⟨rfl, hnm.1, hnm.2, hpar⟩ (z_room hh hml11 hR.1 hR.2.1))
    ⟨z_blind, va_recv hK hP hcl he, z_pre hw hK hnw hao⟩ rfl (by simp) hll.1 (by simp [zV_ref ha hnx]) (by show 2 * 0 + _ ≤ 8; rw [z_sum]; omega) hd ⟨Nat.le_trans hg1 hR.2.2.1, Nat.le_trans hg2 hR.2.2.2⟩
  exact z_back he1 he2 h0 run C hX hll hS hend kk
set_option maxHeartbeats 2000000 in
theorem j_callS {M' : zM} {As : List Value} {idx n : Nat} {nx' : Nat} {P : Option Int32 → zH → Prop} (hd : decode (zMb M) pc = .ok (.invokestatic idx, 3)) (hl : zSS M idx M' n) (hT : zCT M' As nx h nx' P) (hn : As.length = n) (hcat : ∀ v ∈ As, v.category = 1) (hst : (st.map fun v => v.category).sum ≤ 8) (h0 : n0 ≤ nx) (he1 : nx' = nx + zMc M') (he2 : zN nx' = zN nx + zMs M') (hg1 : nx - n0 + zMc M' ≤ zMc M) (hg2 : zN nx - zN n0 + zMs M' ≤ zMs M)
    (kk : ∀ r h', r.isSome = (zMr M').isSome → P r h' → zJ X M n0 (pc + 3) ls ((r.map Value.int).toList ++ st) nx' h' Q) : zJ X M n0 pc ls (As.reverse ++ st) nx h Q := by
  intro p l e R s m args below meth c D cA b z H locs Qm la C hX hll hw hS hend
  obtain ⟨⟨hO, hpar, hh⟩, hlk, hstt⟩ := hl
  obtain ⟨hx, hb, hml, hown, hini, hts, hnw, hao, hK, hz, hR⟩ := id C
  obtain ⟨hsz, hnx, hP⟩ := id hw
  obtain ⟨hpl, hln, hml11, hlaw, hcw, hiw, hnm⟩ := id hO
  subst hn
  have hM := zMet (M := M') (as := As) hO hcat (by omega) (by omega) hT l D cA b z
  rcases hlk with hlk | ⟨host, hlk⟩
  · have G : GoodIn zWd (va_wsS (zMo M) idx (zMn M') (zWs M')) := by
      intro w hw
      rcases List.mem_append.mp hw with hw | hw
      · simp only [List.mem_cons, List.not_mem_nil, or_false] at hw
        rcases hw with rfl | rfl | rfl
        · exact z_good hlk
        · exact z_good hstt
        · exact z_good hiw
      · exact z_goodWs hcw w hw
    have run := va_runS (p := p) (l := l) (e := e) (R := R) (s := s) (m := m) (args := args) (below := below) (meth := meth) (c := c) (H := H) (locs := locs) (cells := nx - n0) (slots := zN nx - zN n0) (As := As.map (zV b z)) (rest := st.map (zV b z)) (g := F0 m pc la ((As.reverse ++ st).map (zV b z))) (Ts := zWd) ⟨hx, hb, hml, hown, hts⟩ hM (va_cwS As.length hts G rfl rfl rfl ⟨hnm.1, hnm.2, hpar⟩ (z_room hh hml11 hR.1 hR.2.1))
      ⟨z_blind, z_pre hw hK hnw hao⟩ rfl (by simp) hll.1 (by simp) (by show 2 * 0 + _ ≤ 8; rw [z_sum]; omega) hd ⟨Nat.le_trans hg1 hR.2.2.1, Nat.le_trans hg2 hR.2.2.2⟩
    exact z_back he1 he2 h0 run C hX hll hS hend kk
  · have run := va_runSN (p := p) (l := l) (e := e) (R := R) (s := s) (m := m) (args := args) (below := below) (meth := meth) (c := c) (H := H) (locs := locs) (cells := nx - n0) (slots := zN nx - zN n0) (As := As.map (zV b z)) (rest := st.map (zV b z)) (g := F0 m pc la ((As.reverse ++ st).map (zV b z))) (Ts := zWd) ⟨hx, hb, hml, hown, hts⟩ hM ⟨va_cnB As.length hts (z_goodWs hcw) rfl rfl rfl (hnw _ hlk) (hts _ hiw) ⟨hnm.1, hnm.2, hpar⟩ (z_room hh hml11 hR.1 hR.2.1), hts _ hstt, trivial⟩
      ⟨z_blind, z_pre hw hK hnw hao⟩ rfl (by simp) hll.1 (by simp) (by show 2 * 0 + _ ≤ 8; rw [z_sum]; omega) hd ⟨Nat.le_trans hg1 hR.2.2.1, Nat.le_trans hg2 hR.2.2.2⟩
    exact z_back he1 he2 h0 run C hX hll hS hend kk
set_option maxHeartbeats 2000000 in
theorem j_callI {M' : zM} {As : List Value} {a idx n : Nat} {nx' : Nat} {P : Option Int32 → zH → Prop} (hd : decode (zMb M) pc = .ok (.invokespecial idx, 3)) (hl : zSI M idx M' n) (hT : zCT M' (.ref a :: As) nx h nx' P) (ha : a < nx) (hn : As.length = n) (hcat : ∀ v ∈ As, v.category = 1) (hst : (st.map fun v => v.category).sum ≤ 8) (h0 : n0 ≤ nx) (he1 : nx' = nx + zMc M') (he2 : zN nx' = zN nx + zMs M') (hg1 : nx - n0 + zMc M' ≤ zMc M) (hg2 : zN nx - zN n0 + zMs M' ≤ zMs M)
    (kk : ∀ h', P none h' → zJ X M n0 (pc + 3) ls st nx' h' Q) : zJ X M n0 pc ls (As.reverse ++ .ref a :: st) nx h Q := by
  intro p l e R s m args below meth c D cA b z H locs Qm la C hX hll hw hS hend
  obtain ⟨⟨hO, hpar, hh⟩, hlk, hins, hnn, hrn⟩ := hl
  obtain ⟨hx, hb, hml, hown, hini, hts, hnw, hao, hK, hz, hR⟩ := id C
  obtain ⟨hsz, hnx, hP⟩ := id hw
  obtain ⟨hpl, hln, hml11, hlaw, hcw, hiw, hnm⟩ := id hO
  subst hn
  have hM := zMet (M := M') (as := .ref a :: As) hO (fun v hv => by
    rcases List.mem_cons.mp hv with rfl | hv
    · rfl
    · exact hcat v hv) (by omega) (by omega) hT l D cA b z
  rw [List.map_cons, zV_ref ha hnx] at hM
  obtain ⟨y0, b0, l0, r0, h0', c0, s0⟩ := M'
  have hrn : r0 = none := hrn
  subst hrn
  rcases hlk with hlk | ⟨host, hlk⟩
  · have run := va_runI (p := p) (l := l) (e := e) (R := R) (s := s) (m := m) (args := args) (below := below) (meth := meth) (c := c) (H := H) (locs := locs) (cells := nx - n0) (slots := zN nx - zN n0) (b := z + a) (As := As.map (zV b z)) (rest := st.map (zV b z)) (g := F0 m pc la ((As.reverse ++ .ref a :: st).map (zV b z))) (Ts := zWd) ⟨hx, hb, hml, hown, hts⟩ hM (cwI As.length hts (z_goodWs hcw) rfl rfl rfl (hts _ hiw) (hts _ hlk) (hts _ hins) hnn ⟨hnm.1, hnm.2, hpar⟩ (z_room hh hml11 hR.1 hR.2.1))
      ⟨z_blind, z_pre hw hK hnw hao⟩ rfl (by simp) hll.1 (by simp [zV_ref ha hnx]) (by show 2 * 0 + _ ≤ 8; rw [z_sum]; omega) hd ⟨Nat.le_trans hg1 hR.2.2.1, Nat.le_trans hg2 hR.2.2.2⟩
    exact z_back he1 he2 h0 run C hX hll hS hend (fun r h' hr hp => by
      cases r with
      | none => exact kk h' hp
      | some x => exact absurd hr (by simp))
  · have run := va_runIN (p := p) (l := l) (e := e) (R := R) (s := s) (m := m) (args := args) (below := below) (meth := meth) (c := c) (H := H) (locs := locs) (cells := nx - n0) (slots := zN nx - zN n0) (b := z + a) (As := As.map (zV b z)) (rest := st.map (zV b z)) (g := F0 m pc la ((As.reverse ++ .ref a :: st).map (zV b z))) (Ts := zWd) ⟨hx, hb, hml, hown, hts⟩ hM ⟨va_cnB As.length hts (z_goodWs hcw) rfl rfl rfl (hnw _ hlk) (hts _ hiw) ⟨hnm.1, hnm.2, hpar⟩ (z_room hh hml11 hR.1 hR.2.1), hnn, hts _ hins⟩
      ⟨z_blind, z_pre hw hK hnw hao⟩ rfl (by simp) hll.1 (by simp [zV_ref ha hnx]) (by show 2 * 0 + _ ≤ 8; rw [z_sum]; omega) hd ⟨Nat.le_trans hg1 hR.2.2.1, Nat.le_trans hg2 hR.2.2.2⟩
    exact z_back he1 he2 h0 run C hX hll hS hend (fun r h' hr hp => by
      cases r with
      | none => exact kk h' hp
      | some x => exact absurd hr (by simp))
theorem j_callV0i {a idx ci : Nat} {M' : zM} {nx' : Nat} {P : Option Int32 → zH → Prop} (hd : decode (zMb M) pc = .ok (.invokevirtual idx, 3)) (hl : zSV M idx M' 0 ci) (hT : zCT M' (.ref a :: []) nx h nx' P) (hs : (zS a).1 = ci) (ha : a < nx)  (hst : (st.map fun v => v.category).sum ≤ 8) (h0 : n0 ≤ nx) (he1 : nx' = nx + zMc M') (he2 : zN nx' = zN nx + zMs M') (hg1 : nx - n0 + zMc M' ≤ zMc M) (hg2 : zN nx - zN n0 + zMs M' ≤ zMs M) (hr : (zMr M').isSome = true) (kk : ∀ x h', P (some x) h' → zJ X M n0 (pc + 3) ls (.int x :: st) nx' h' Q) : zJ X M n0 pc ls (.ref a :: st) nx h Q :=
  j_callV (As := []) hd hl hT hs ha rfl (fun v hv => by simp at hv) hst h0 he1 he2 hg1 hg2 (fun r h' hr2 hp => by
    cases r with
    | none => rw [hr] at hr2; cases hr2
    | some x => exact kk x h' hp)
theorem j_callV0v {a idx ci : Nat} {M' : zM} {nx' : Nat} {P : Option Int32 → zH → Prop} (hd : decode (zMb M) pc = .ok (.invokevirtual idx, 3)) (hl : zSV M idx M' 0 ci) (hT : zCT M' (.ref a :: []) nx h nx' P) (hs : (zS a).1 = ci) (ha : a < nx)  (hst : (st.map fun v => v.category).sum ≤ 8) (h0 : n0 ≤ nx) (he1 : nx' = nx + zMc M') (he2 : zN nx' = zN nx + zMs M') (hg1 : nx - n0 + zMc M' ≤ zMc M) (hg2 : zN nx - zN n0 + zMs M' ≤ zMs M) (hr : (zMr M').isSome = false) (kk : ∀ h', P none h' → zJ X M n0 (pc + 3) ls st nx' h' Q) : zJ X M n0 pc ls (.ref a :: st) nx h Q :=
  j_callV (As := []) hd hl hT hs ha rfl (fun v hv => by simp at hv) hst h0 he1 he2 hg1 hg2 (fun r h' hr2 hp => by
    cases r with
    | none => exact kk h' hp
    | some x => rw [hr] at hr2; cases hr2)
theorem j_callV1i {a idx ci : Nat} {v1 : Value} {M' : zM} {nx' : Nat} {P : Option Int32 → zH → Prop} (hd : decode (zMb M) pc = .ok (.invokevirtual idx, 3)) (hl : zSV M idx M' 1 ci) (hT : zCT M' (.ref a :: [v1]) nx h nx' P) (hs : (zS a).1 = ci) (ha : a < nx) (hc1 : v1.category = 1) (hst : (st.map fun v => v.category).sum ≤ 8) (h0 : n0 ≤ nx) (he1 : nx' = nx + zMc M') (he2 : zN nx' = zN nx + zMs M') (hg1 : nx - n0 + zMc M' ≤ zMc M) (hg2 : zN nx - zN n0 + zMs M' ≤ zMs M) (hr : (zMr M').isSome = true) (kk : ∀ x h', P (some x) h' → zJ X M n0 (pc + 3) ls (.int x :: st) nx' h' Q) : zJ X M n0 pc ls (v1 :: .ref a :: st) nx h Q :=
  j_callV (As := [v1]) hd hl hT hs ha rfl (fun v hv => by
    simp only [List.mem_cons, List.not_mem_nil, or_false] at hv
    rcases hv with rfl <;> assumption) hst h0 he1 he2 hg1 hg2 (fun r h' hr2 hp => by
    cases r with
    | none => rw [hr] at hr2; cases hr2
    | some x => exact kk x h' hp)
theorem j_callV1v {a idx ci : Nat} {v1 : Value} {M' : zM} {nx' : Nat} {P : Option Int32 → zH → Prop} (hd : decode (zMb M) pc = .ok (.invokevirtual idx, 3)) (hl : zSV M idx M' 1 ci) (hT : zCT M' (.ref a :: [v1]) nx h nx' P) (hs : (zS a).1 = ci) (ha : a < nx) (hc1 : v1.category = 1) (hst : (st.map fun v => v.category).sum ≤ 8) (h0 : n0 ≤ nx) (he1 : nx' = nx + zMc M') (he2 : zN nx' = zN nx + zMs M') (hg1 : nx - n0 + zMc M' ≤ zMc M) (hg2 : zN nx - zN n0 + zMs M' ≤ zMs M) (hr : (zMr M').isSome = false) (kk : ∀ h', P none h' → zJ X M n0 (pc + 3) ls st nx' h' Q) : zJ X M n0 pc ls (v1 :: .ref a :: st) nx h Q :=
  j_callV (As := [v1]) hd hl hT hs ha rfl (fun v hv => by
    simp only [List.mem_cons, List.not_mem_nil, or_false] at hv
    rcases hv with rfl <;> assumption) hst h0 he1 he2 hg1 hg2 (fun r h' hr2 hp => by
    cases r with
    | none => exact kk h' hp
    | some x => rw [hr] at hr2; cases hr2)
theorem j_callV2i {a idx ci : Nat} {v1 v2 : Value} {M' : zM} {nx' : Nat} {P : Option Int32 → zH → Prop} (hd : decode (zMb M) pc = .ok (.invokevirtual idx, 3)) (hl : zSV M idx M' 2 ci) (hT : zCT M' (.ref a :: [v1, v2]) nx h nx' P) (hs : (zS a).1 = ci) (ha : a < nx) (hc1 : v1.category = 1) (hc2 : v2.category = 1) (hst : (st.map fun v => v.category).sum ≤ 8) (h0 : n0 ≤ nx) (he1 : nx' = nx + zMc M') (he2 : zN nx' = zN nx + zMs M') (hg1 : nx - n0 + zMc M' ≤ zMc M) (hg2 : zN nx - zN n0 + zMs M' ≤ zMs M) (hr : (zMr M').isSome = true) (kk : ∀ x h', P (some x) h' → zJ X M n0 (pc + 3) ls (.int x :: st) nx' h' Q) : zJ X M n0 pc ls (v2 :: v1 :: .ref a :: st) nx h Q :=
  j_callV (As := [v1, v2]) hd hl hT hs ha rfl (fun v hv => by
    simp only [List.mem_cons, List.not_mem_nil, or_false] at hv
    rcases hv with rfl | rfl <;> assumption) hst h0 he1 he2 hg1 hg2 (fun r h' hr2 hp => by
    cases r with
    | none => rw [hr] at hr2; cases hr2
    | some x => exact kk x h' hp)
theorem j_callV2v {a idx ci : Nat} {v1 v2 : Value} {M' : zM} {nx' : Nat} {P : Option Int32 → zH → Prop} (hd : decode (zMb M) pc = .ok (.invokevirtual idx, 3)) (hl : zSV M idx M' 2 ci) (hT : zCT M' (.ref a :: [v1, v2]) nx h nx' P) (hs : (zS a).1 = ci) (ha : a < nx) (hc1 : v1.category = 1) (hc2 : v2.category = 1) (hst : (st.map fun v => v.category).sum ≤ 8) (h0 : n0 ≤ nx) (he1 : nx' = nx + zMc M') (he2 : zN nx' = zN nx + zMs M') (hg1 : nx - n0 + zMc M' ≤ zMc M) (hg2 : zN nx - zN n0 + zMs M' ≤ zMs M) (hr : (zMr M').isSome = false) (kk : ∀ h', P none h' → zJ X M n0 (pc + 3) ls st nx' h' Q) : zJ X M n0 pc ls (v2 :: v1 :: .ref a :: st) nx h Q :=
  j_callV (As := [v1, v2]) hd hl hT hs ha rfl (fun v hv => by
    simp only [List.mem_cons, List.not_mem_nil, or_false] at hv
    rcases hv with rfl | rfl <;> assumption) hst h0 he1 he2 hg1 hg2 (fun r h' hr2 hp => by
    cases r with
    | none => exact kk h' hp
    | some x => rw [hr] at hr2; cases hr2)
theorem j_callV3i {a idx ci : Nat} {v1 v2 v3 : Value} {M' : zM} {nx' : Nat} {P : Option Int32 → zH → Prop} (hd : decode (zMb M) pc = .ok (.invokevirtual idx, 3)) (hl : zSV M idx M' 3 ci) (hT : zCT M' (.ref a :: [v1, v2, v3]) nx h nx' P) (hs : (zS a).1 = ci) (ha : a < nx) (hc1 : v1.category = 1) (hc2 : v2.category = 1) (hc3 : v3.category = 1) (hst : (st.map fun v => v.category).sum ≤ 8) (h0 : n0 ≤ nx) (he1 : nx' = nx + zMc M') (he2 : zN nx' = zN nx + zMs M') (hg1 : nx - n0 + zMc M' ≤ zMc M) (hg2 : zN nx - zN n0 + zMs M' ≤ zMs M) (hr : (zMr M').isSome = true) (kk : ∀ x h', P (some x) h' → zJ X M n0 (pc + 3) ls (.int x :: st) nx' h' Q) : zJ X M n0 pc ls (v3 :: v2 :: v1 :: .ref a :: st) nx h Q :=
  j_callV (As := [v1, v2, v3]) hd hl hT hs ha rfl (fun v hv => by
    simp only [List.mem_cons, List.not_mem_nil, or_false] at hv
    rcases hv with rfl | rfl | rfl <;> assumption) hst h0 he1 he2 hg1 hg2 (fun r h' hr2 hp => by
    cases r with
    | none => rw [hr] at hr2; cases hr2
    | some x => exact kk x h' hp)
theorem j_callV3v {a idx ci : Nat} {v1 v2 v3 : Value} {M' : zM} {nx' : Nat} {P : Option Int32 → zH → Prop} (hd : decode (zMb M) pc = .ok (.invokevirtual idx, 3)) (hl : zSV M idx M' 3 ci) (hT : zCT M' (.ref a :: [v1, v2, v3]) nx h nx' P) (hs : (zS a).1 = ci) (ha : a < nx) (hc1 : v1.category = 1) (hc2 : v2.category = 1) (hc3 : v3.category = 1) (hst : (st.map fun v => v.category).sum ≤ 8) (h0 : n0 ≤ nx) (he1 : nx' = nx + zMc M') (he2 : zN nx' = zN nx + zMs M') (hg1 : nx - n0 + zMc M' ≤ zMc M) (hg2 : zN nx - zN n0 + zMs M' ≤ zMs M) (hr : (zMr M').isSome = false) (kk : ∀ h', P none h' → zJ X M n0 (pc + 3) ls st nx' h' Q) : zJ X M n0 pc ls (v3 :: v2 :: v1 :: .ref a :: st) nx h Q :=
  j_callV (As := [v1, v2, v3]) hd hl hT hs ha rfl (fun v hv => by
    simp only [List.mem_cons, List.not_mem_nil, or_false] at hv
    rcases hv with rfl | rfl | rfl <;> assumption) hst h0 he1 he2 hg1 hg2 (fun r h' hr2 hp => by
    cases r with
    | none => exact kk h' hp
    | some x => rw [hr] at hr2; cases hr2)
theorem j_callV4i {a idx ci : Nat} {v1 v2 v3 v4 : Value} {M' : zM} {nx' : Nat} {P : Option Int32 → zH → Prop} (hd : decode (zMb M) pc = .ok (.invokevirtual idx, 3)) (hl : zSV M idx M' 4 ci) (hT : zCT M' (.ref a :: [v1, v2, v3, v4]) nx h nx' P) (hs : (zS a).1 = ci) (ha : a < nx) (hc1 : v1.category = 1) (hc2 : v2.category = 1) (hc3 : v3.category = 1) (hc4 : v4.category = 1) (hst : (st.map fun v => v.category).sum ≤ 8) (h0 : n0 ≤ nx) (he1 : nx' = nx + zMc M') (he2 : zN nx' = zN nx + zMs M') (hg1 : nx - n0 + zMc M' ≤ zMc M) (hg2 : zN nx - zN n0 + zMs M' ≤ zMs M) (hr : (zMr M').isSome = true) (kk : ∀ x h', P (some x) h' → zJ X M n0 (pc + 3) ls (.int x :: st) nx' h' Q) : zJ X M n0 pc ls (v4 :: v3 :: v2 :: v1 :: .ref a :: st) nx h Q :=
  j_callV (As := [v1, v2, v3, v4]) hd hl hT hs ha rfl (fun v hv => by
    simp only [List.mem_cons, List.not_mem_nil, or_false] at hv
    rcases hv with rfl | rfl | rfl | rfl <;> assumption) hst h0 he1 he2 hg1 hg2 (fun r h' hr2 hp => by
    cases r with
    | none => rw [hr] at hr2; cases hr2
    | some x => exact kk x h' hp)
theorem j_callV4v {a idx ci : Nat} {v1 v2 v3 v4 : Value} {M' : zM} {nx' : Nat} {P : Option Int32 → zH → Prop} (hd : decode (zMb M) pc = .ok (.invokevirtual idx, 3)) (hl : zSV M idx M' 4 ci) (hT : zCT M' (.ref a :: [v1, v2, v3, v4]) nx h nx' P) (hs : (zS a).1 = ci) (ha : a < nx) (hc1 : v1.category = 1) (hc2 : v2.category = 1) (hc3 : v3.category = 1) (hc4 : v4.category = 1) (hst : (st.map fun v => v.category).sum ≤ 8) (h0 : n0 ≤ nx) (he1 : nx' = nx + zMc M') (he2 : zN nx' = zN nx + zMs M') (hg1 : nx - n0 + zMc M' ≤ zMc M) (hg2 : zN nx - zN n0 + zMs M' ≤ zMs M) (hr : (zMr M').isSome = false) (kk : ∀ h', P none h' → zJ X M n0 (pc + 3) ls st nx' h' Q) : zJ X M n0 pc ls (v4 :: v3 :: v2 :: v1 :: .ref a :: st) nx h Q :=
  j_callV (As := [v1, v2, v3, v4]) hd hl hT hs ha rfl (fun v hv => by
    simp only [List.mem_cons, List.not_mem_nil, or_false] at hv
    rcases hv with rfl | rfl | rfl | rfl <;> assumption) hst h0 he1 he2 hg1 hg2 (fun r h' hr2 hp => by
    cases r with
    | none => exact kk h' hp
    | some x => rw [hr] at hr2; cases hr2)
theorem j_callS0i {idx : Nat} {M' : zM} {nx' : Nat} {P : Option Int32 → zH → Prop} (hd : decode (zMb M) pc = .ok (.invokestatic idx, 3)) (hl : zSS M idx M' 0) (hT : zCT M' ([]) nx h nx' P)  (hst : (st.map fun v => v.category).sum ≤ 8) (h0 : n0 ≤ nx) (he1 : nx' = nx + zMc M') (he2 : zN nx' = zN nx + zMs M') (hg1 : nx - n0 + zMc M' ≤ zMc M) (hg2 : zN nx - zN n0 + zMs M' ≤ zMs M) (hr : (zMr M').isSome = true) (kk : ∀ x h', P (some x) h' → zJ X M n0 (pc + 3) ls (.int x :: st) nx' h' Q) : zJ X M n0 pc ls (st) nx h Q :=
  j_callS (As := []) hd hl hT rfl (fun v hv => by simp at hv) hst h0 he1 he2 hg1 hg2 (fun r h' hr2 hp => by
    cases r with
    | none => rw [hr] at hr2; cases hr2
    | some x => exact kk x h' hp)
theorem j_callS0v {idx : Nat} {M' : zM} {nx' : Nat} {P : Option Int32 → zH → Prop} (hd : decode (zMb M) pc = .ok (.invokestatic idx, 3)) (hl : zSS M idx M' 0) (hT : zCT M' ([]) nx h nx' P)  (hst : (st.map fun v => v.category).sum ≤ 8) (h0 : n0 ≤ nx) (he1 : nx' = nx + zMc M') (he2 : zN nx' = zN nx + zMs M') (hg1 : nx - n0 + zMc M' ≤ zMc M) (hg2 : zN nx - zN n0 + zMs M' ≤ zMs M) (hr : (zMr M').isSome = false) (kk : ∀ h', P none h' → zJ X M n0 (pc + 3) ls st nx' h' Q) : zJ X M n0 pc ls (st) nx h Q :=
  j_callS (As := []) hd hl hT rfl (fun v hv => by simp at hv) hst h0 he1 he2 hg1 hg2 (fun r h' hr2 hp => by
    cases r with
    | none => exact kk h' hp
    | some x => rw [hr] at hr2; cases hr2)
theorem j_callS1i {idx : Nat} {v1 : Value} {M' : zM} {nx' : Nat} {P : Option Int32 → zH → Prop} (hd : decode (zMb M) pc = .ok (.invokestatic idx, 3)) (hl : zSS M idx M' 1) (hT : zCT M' ([v1]) nx h nx' P) (hc1 : v1.category = 1) (hst : (st.map fun v => v.category).sum ≤ 8) (h0 : n0 ≤ nx) (he1 : nx' = nx + zMc M') (he2 : zN nx' = zN nx + zMs M') (hg1 : nx - n0 + zMc M' ≤ zMc M) (hg2 : zN nx - zN n0 + zMs M' ≤ zMs M) (hr : (zMr M').isSome = true) (kk : ∀ x h', P (some x) h' → zJ X M n0 (pc + 3) ls (.int x :: st) nx' h' Q) : zJ X M n0 pc ls (v1 :: st) nx h Q :=
  j_callS (As := [v1]) hd hl hT rfl (fun v hv => by
    simp only [List.mem_cons, List.not_mem_nil, or_false] at hv
    rcases hv with rfl <;> assumption) hst h0 he1 he2 hg1 hg2 (fun r h' hr2 hp => by
    cases r with
    | none => rw [hr] at hr2; cases hr2
    | some x => exact kk x h' hp)
theorem j_callS1v {idx : Nat} {v1 : Value} {M' : zM} {nx' : Nat} {P : Option Int32 → zH → Prop} (hd : decode (zMb M) pc = .ok (.invokestatic idx, 3)) (hl : zSS M idx M' 1) (hT : zCT M' ([v1]) nx h nx' P) (hc1 : v1.category = 1) (hst : (st.map fun v => v.category).sum ≤ 8) (h0 : n0 ≤ nx) (he1 : nx' = nx + zMc M') (he2 : zN nx' = zN nx + zMs M') (hg1 : nx - n0 + zMc M' ≤ zMc M) (hg2 : zN nx - zN n0 + zMs M' ≤ zMs M) (hr : (zMr M').isSome = false) (kk : ∀ h', P none h' → zJ X M n0 (pc + 3) ls st nx' h' Q) : zJ X M n0 pc ls (v1 :: st) nx h Q :=
  j_callS (As := [v1]) hd hl hT rfl (fun v hv => by
    simp only [List.mem_cons, List.not_mem_nil, or_false] at hv
    rcases hv with rfl <;> assumption) hst h0 he1 he2 hg1 hg2 (fun r h' hr2 hp => by
    cases r with
    | none => exact kk h' hp
    | some x => rw [hr] at hr2; cases hr2)
theorem j_callS2i {idx : Nat} {v1 v2 : Value} {M' : zM} {nx' : Nat} {P : Option Int32 → zH → Prop} (hd : decode (zMb M) pc = .ok (.invokestatic idx, 3)) (hl : zSS M idx M' 2) (hT : zCT M' ([v1, v2]) nx h nx' P) (hc1 : v1.category = 1) (hc2 : v2.category = 1) (hst : (st.map fun v => v.category).sum ≤ 8) (h0 : n0 ≤ nx) (he1 : nx' = nx + zMc M') (he2 : zN nx' = zN nx + zMs M') (hg1 : nx - n0 + zMc M' ≤ zMc M) (hg2 : zN nx - zN n0 + zMs M' ≤ zMs M) (hr : (zMr M').isSome = true) (kk : ∀ x h', P (some x) h' → zJ X M n0 (pc + 3) ls (.int x :: st) nx' h' Q) : zJ X M n0 pc ls (v2 :: v1 :: st) nx h Q :=
  j_callS (As := [v1, v2]) hd hl hT rfl (fun v hv => by
    simp only [List.mem_cons, List.not_mem_nil, or_false] at hv
    rcases hv with rfl | rfl <;> assumption) hst h0 he1 he2 hg1 hg2 (fun r h' hr2 hp => by
    cases r with
    | none => rw [hr] at hr2; cases hr2
    | some x => exact kk x h' hp)
theorem j_callS2v {idx : Nat} {v1 v2 : Value} {M' : zM} {nx' : Nat} {P : Option Int32 → zH → Prop} (hd : decode (zMb M) pc = .ok (.invokestatic idx, 3)) (hl : zSS M idx M' 2) (hT : zCT M' ([v1, v2]) nx h nx' P) (hc1 : v1.category = 1) (hc2 : v2.category = 1) (hst : (st.map fun v => v.category).sum ≤ 8) (h0 : n0 ≤ nx) (he1 : nx' = nx + zMc M') (he2 : zN nx' = zN nx + zMs M') (hg1 : nx - n0 + zMc M' ≤ zMc M) (hg2 : zN nx - zN n0 + zMs M' ≤ zMs M) (hr : (zMr M').isSome = false) (kk : ∀ h', P none h' → zJ X M n0 (pc + 3) ls st nx' h' Q) : zJ X M n0 pc ls (v2 :: v1 :: st) nx h Q :=
  j_callS (As := [v1, v2]) hd hl hT rfl (fun v hv => by
    simp only [List.mem_cons, List.not_mem_nil, or_false] at hv
    rcases hv with rfl | rfl <;> assumption) hst h0 he1 he2 hg1 hg2 (fun r h' hr2 hp => by
    cases r with
    | none => exact kk h' hp
    | some x => rw [hr] at hr2; cases hr2)
theorem j_callS3i {idx : Nat} {v1 v2 v3 : Value} {M' : zM} {nx' : Nat} {P : Option Int32 → zH → Prop} (hd : decode (zMb M) pc = .ok (.invokestatic idx, 3)) (hl : zSS M idx M' 3) (hT : zCT M' ([v1, v2, v3]) nx h nx' P) (hc1 : v1.category = 1) (hc2 : v2.category = 1) (hc3 : v3.category = 1) (hst : (st.map fun v => v.category).sum ≤ 8) (h0 : n0 ≤ nx) (he1 : nx' = nx + zMc M') (he2 : zN nx' = zN nx + zMs M') (hg1 : nx - n0 + zMc M' ≤ zMc M) (hg2 : zN nx - zN n0 + zMs M' ≤ zMs M) (hr : (zMr M').isSome = true) (kk : ∀ x h', P (some x) h' → zJ X M n0 (pc + 3) ls (.int x :: st) nx' h' Q) : zJ X M n0 pc ls (v3 :: v2 :: v1 :: st) nx h Q :=
  j_callS (As := [v1, v2, v3]) hd hl hT rfl (fun v hv => by
    simp only [List.mem_cons, List.not_mem_nil, or_false] at hv
    rcases hv with rfl | rfl | rfl <;> assumption) hst h0 he1 he2 hg1 hg2 (fun r h' hr2 hp => by
    cases r with
    | none => rw [hr] at hr2; cases hr2
    | some x => exact kk x h' hp)
theorem j_callS3v {idx : Nat} {v1 v2 v3 : Value} {M' : zM} {nx' : Nat} {P : Option Int32 → zH → Prop} (hd : decode (zMb M) pc = .ok (.invokestatic idx, 3)) (hl : zSS M idx M' 3) (hT : zCT M' ([v1, v2, v3]) nx h nx' P) (hc1 : v1.category = 1) (hc2 : v2.category = 1) (hc3 : v3.category = 1) (hst : (st.map fun v => v.category).sum ≤ 8) (h0 : n0 ≤ nx) (he1 : nx' = nx + zMc M') (he2 : zN nx' = zN nx + zMs M') (hg1 : nx - n0 + zMc M' ≤ zMc M) (hg2 : zN nx - zN n0 + zMs M' ≤ zMs M) (hr : (zMr M').isSome = false) (kk : ∀ h', P none h' → zJ X M n0 (pc + 3) ls st nx' h' Q) : zJ X M n0 pc ls (v3 :: v2 :: v1 :: st) nx h Q :=
  j_callS (As := [v1, v2, v3]) hd hl hT rfl (fun v hv => by
    simp only [List.mem_cons, List.not_mem_nil, or_false] at hv
    rcases hv with rfl | rfl | rfl <;> assumption) hst h0 he1 he2 hg1 hg2 (fun r h' hr2 hp => by
    cases r with
    | none => exact kk h' hp
    | some x => rw [hr] at hr2; cases hr2)
theorem j_callS4i {idx : Nat} {v1 v2 v3 v4 : Value} {M' : zM} {nx' : Nat} {P : Option Int32 → zH → Prop} (hd : decode (zMb M) pc = .ok (.invokestatic idx, 3)) (hl : zSS M idx M' 4) (hT : zCT M' ([v1, v2, v3, v4]) nx h nx' P) (hc1 : v1.category = 1) (hc2 : v2.category = 1) (hc3 : v3.category = 1) (hc4 : v4.category = 1) (hst : (st.map fun v => v.category).sum ≤ 8) (h0 : n0 ≤ nx) (he1 : nx' = nx + zMc M') (he2 : zN nx' = zN nx + zMs M') (hg1 : nx - n0 + zMc M' ≤ zMc M) (hg2 : zN nx - zN n0 + zMs M' ≤ zMs M) (hr : (zMr M').isSome = true) (kk : ∀ x h', P (some x) h' → zJ X M n0 (pc + 3) ls (.int x :: st) nx' h' Q) : zJ X M n0 pc ls (v4 :: v3 :: v2 :: v1 :: st) nx h Q :=
  j_callS (As := [v1, v2, v3, v4]) hd hl hT rfl (fun v hv => by
    simp only [List.mem_cons, List.not_mem_nil, or_false] at hv
    rcases hv with rfl | rfl | rfl | rfl <;> assumption) hst h0 he1 he2 hg1 hg2 (fun r h' hr2 hp => by
    cases r with
    | none => rw [hr] at hr2; cases hr2
    | some x => exact kk x h' hp)
theorem j_callS4v {idx : Nat} {v1 v2 v3 v4 : Value} {M' : zM} {nx' : Nat} {P : Option Int32 → zH → Prop} (hd : decode (zMb M) pc = .ok (.invokestatic idx, 3)) (hl : zSS M idx M' 4) (hT : zCT M' ([v1, v2, v3, v4]) nx h nx' P) (hc1 : v1.category = 1) (hc2 : v2.category = 1) (hc3 : v3.category = 1) (hc4 : v4.category = 1) (hst : (st.map fun v => v.category).sum ≤ 8) (h0 : n0 ≤ nx) (he1 : nx' = nx + zMc M') (he2 : zN nx' = zN nx + zMs M') (hg1 : nx - n0 + zMc M' ≤ zMc M) (hg2 : zN nx - zN n0 + zMs M' ≤ zMs M) (hr : (zMr M').isSome = false) (kk : ∀ h', P none h' → zJ X M n0 (pc + 3) ls st nx' h' Q) : zJ X M n0 pc ls (v4 :: v3 :: v2 :: v1 :: st) nx h Q :=
  j_callS (As := [v1, v2, v3, v4]) hd hl hT rfl (fun v hv => by
    simp only [List.mem_cons, List.not_mem_nil, or_false] at hv
    rcases hv with rfl | rfl | rfl | rfl <;> assumption) hst h0 he1 he2 hg1 hg2 (fun r h' hr2 hp => by
    cases r with
    | none => exact kk h' hp
    | some x => rw [hr] at hr2; cases hr2)
theorem z_cpy {g0 g : Nat → Value} {n : Nat} : va_cpy (fun k => zI (g0 k)) (fun k => zI (g k)) 0 0 n = fun k => zI (if k < n then .int (zI (g0 k)) else g k) := by
  funext k
  unfold va_cpy
  by_cases hk : k < n
  · rw [if_pos ⟨Nat.zero_le k, by omega⟩, if_pos hk]
    simp [zI]
  · rw [if_neg (by omega), if_neg hk]
set_option maxHeartbeats 1000000 in
/-- System.arraycopy of the first n ints, in a method that has made nothing -/
theorem j_acopy {idx a0 a m0 m1 n : Nat} {i : Int32} (hd : decode (zMb M) pc = .ok (.invokestatic idx, 3)) (h1 : Cond.methodLink (zMo M) idx arraycopyName ∈ zWd) (h2 : Cond.native arraycopyName ∈ zWd) (h3 : Cond.static arraycopyName ∈ zWd) (h4 : Cond.initialized "java/lang/System" ∈ zWd) (hs0 : zS a0 = (10, m0)) (hs1 : zS a = (10, m1)) (ha0 : a0 < nx) (ha : a < nx) (hi1 : ¬ i < 0) (hi2 : i.toNatClampNeg = n) (hm0 : n ≤ m0) (hm1 : n ≤ m1) (hh : 1 ≤ zMh M) (hst : (st.map fun v => v.category).sum ≤ 8) (hnn : nx = n0)
    (kk : zJ X M n0 (pc + 3) ls st nx (va_up h a (fun k => if k < n then .int (zI (h a0 k)) else h a k)) Q) : zJ X M n0 pc ls (.int i :: .int 0 :: .ref a :: .int 0 :: .ref a0 :: st) nx h Q := by
  intro p l e R s m args below meth c D cA b z H locs Qm la C hX hll hw hS hend
  obtain ⟨hx, hb, hml, hown, hini, hts, hnw, hao, hK, hz, hR⟩ := id C
  obtain ⟨hsz, hnx, hP⟩ := id hw
  have he0 : (zW cA b z nx h)[a0]? = some (z + a0, .inl (cA 0, m0, .inl (fun k => zI (h a0 k)))) := by rw [zW_get ha0, zE_num (t := 0) hs0 (by omega)]
  have he : (zW cA b z nx h)[a]? = some (z + a, .inl (cA 0, m1, .inl (fun k => zI (h a k)))) := by rw [zW_get ha, zE_num (t := 0) hs1 (by omega)]
  have ht : (zT cA)[0]? = some (cA 0, .int) := rfl
  show W p l e R s m args below meth c H locs _ _ Qm (F0 m pc la (.int i :: .int 0 :: zV b z (.ref a) :: .int 0 :: zV b z (.ref a0) :: st.map (zV b z)))
  rw [zV_ref ha hnx, zV_ref ha0 hnx]
  intro T hT X0
  have hs1' : s.heap.size = H.size := by
    have q1 : H.size ≤ s.heap.size + (nx - n0) := by rw [← hT]; exact X0.same.2.2.1
    have q2 := hS.1
    omega
  have z0 : (0 : Int32).toNatClampNeg = 0 := by decide
  have hw7 : nativeFrameWords "java/lang/System" "arraycopy" 5 + 11 ≤ 22 := by decide
  refine va_copyi hx hb (by rw [hml]; exact hll.1.symm) hown (hts _ h1) (hts _ h2) (hts _ h3) (hts _ h4) hK hP zW_D hS a0 a 0 0 he0 he ht ht rfl (by decide) (by decide) hi1 (by rw [z0, hi2]; omega) (by rw [z0, hi2]; omega) (fun _ _ => rfl) (by omega) (by rw [z_sum]; omega) hd (fun H1 locs1 hP1 hD1 hS1 => ?_) T hT X0
  intro T1 hT1 X1
  have z1 : H1.size = H.size := by
    have q1 : H1.size ≤ s.heap.size + (nx - n0) := by rw [← hT1]; exact X1.same.2.2.1
    have q2 := hS1.1
    omega
  rw [z0, hi2, z_cpy, ← zE_num (cA := cA) (b := b) (z := z) (g := fun k => if k < n then .int (zI (h a0 k)) else h a k) (t := 0) hs1 (by omega), zW_set] at hP1
  exact kk p l e R s m args below meth c D cA b z H1 locs1 Qm la C hX hll ⟨by rw [z1]; exact hsz, hnx, hP1⟩ hS1 hend T1 hT1 X1
end ZC
end
section
theorem z_tb {w : Cond} (i : Nat) (h : tables_1[i]? = some w) (g : goodWord w = true) : w ∈ zWd := List.mem_filter.mpr ⟨List.mem_append_right _ (List.mem_of_getElem? h), g⟩
theorem z_sl {w : Cond} (i : Nat) (h : (k2_sels lw_privs)[i]? = some w) (g : goodWord w = true) : w ∈ zWd := List.mem_filter.mpr ⟨List.mem_append_left _ (List.mem_of_getElem? h), g⟩
theorem z_us {C : String} {T : u_T} {N : Nat} (ps : List Nat) (hp : (u_ws C T N).map some = ps.map (fun i => tables_1[i]?)) (hg : (u_ws C T N).all goodWord = true) : ∀ w ∈ u_ws C T N, w ∈ zWd := by
  intro w hw
  have h1 : some w ∈ (u_ws C T N).map some := List.mem_map.mpr ⟨w, hw, rfl⟩
  rw [hp] at h1
  obtain ⟨i, -, hi⟩ := List.mem_map.mp h1
  exact z_tb i hi (List.all_eq_true.mp hg w hw)
theorem uX0 : ∀ w ∈ u_ws RX0 TX0 17, w ∈ zWd := z_us [153, 155, 157, 159, 161, 163, 165, 167, 169, 171, 173, 175, 177, 179, 181, 183, 185] (by decide +kernel) (by decide +kernel)
theorem uX1 : ∀ w ∈ u_ws RX1 TX1 11, w ∈ zWd := z_us [53, 55, 57, 59, 61, 63, 65, 67, 69, 71, 73] (by decide +kernel) (by decide +kernel)
theorem uX2 : ∀ w ∈ u_ws RX2 TX2 10, w ∈ zWd := z_us [103, 105, 107, 109, 111, 113, 115, 117, 119, 121] (by decide +kernel) (by decide +kernel)
theorem uX3 : ∀ w ∈ u_ws RX3 TX3 9, w ∈ zWd := z_us [209, 211, 213, 215, 217, 219, 221, 223, 225] (by decide +kernel) (by decide +kernel)
theorem uX4 : ∀ w ∈ u_ws RX4 TX4 5, w ∈ zWd := z_us [234, 236, 238, 240, 242] (by decide +kernel) (by decide +kernel)
theorem uX5 : ∀ w ∈ u_ws RX5 TX5 15, w ∈ zWd := z_us [629, 631, 633, 635, 637, 639, 641, 643, 645, 647, 649, 651, 653, 655, 657] (by decide +kernel) (by decide +kernel)
def mX0_init : zM := (yX0_init, cX0_init, 2, none, 2, 34, 337)
def mX0_copyFrom : zM := (yX0_copyFrom, cX0_copyFrom, 3, none, 1, 0, 0)
def mX0_hasBidder : zM := (yX0_hasBidder, cX0_hasBidder, 2, some .boolean, 0, 0, 0)
def mX0_findSeated : zM := (yX0_findSeated, cX0_findSeated, 4, some .int, 0, 0, 0)
def mX0_seatBidder : zM := (yX0_seatBidder, cX0_seatBidder, 5, some .int, 2, 0, 0)
def mX0_changeCold : zM := (yX0_changeCold, cX0_changeCold, 4, some .int, 1, 0, 0)
def mX0_changeMuffler : zM := (yX0_changeMuffler, cX0_changeMuffler, 4, some .int, 1, 0, 0)
def mX0_bidderSetWithCold : zM := (yX0_bidderSetWithCold, cX0_bidderSetWithCold, 3, some .int, 0, 0, 0)
def mX0_changeSetting : zM := (yX0_changeSetting, cX0_changeSetting, 4, some .int, 1, 0, 0)
def mX0_addLot : zM := (yX0_addLot, cX0_addLot, 3, some .int, 1, 0, 0)
def mX0_raiseNextLot : zM := (yX0_raiseNextLot, cX0_raiseNextLot, 3, some .int, 0, 0, 0)
def mX0_close : zM := (yX0_close, cX0_close, 4, none, 0, 0, 0)
def mX0_reasonAgainst : zM := (yX0_reasonAgainst, cX0_reasonAgainst, 2, some .int, 1, 0, 0)
def mX0_takeCough : zM := (yX0_takeCough, cX0_takeCough, 4, some .int, 2, 0, 0)
def mX0_doubtBid : zM := (yX0_doubtBid, cX0_doubtBid, 1, none, 1, 0, 0)
def mX0_isDueToCough : zM := (yX0_isDueToCough, cX0_isDueToCough, 4, some .boolean, 0, 0, 0)
def mX0_passBeats : zM := (yX0_passBeats, cX0_passBeats, 4, some .int, 4, 0, 0)
def mX0_passBeat : zM := (yX0_passBeat, cX0_passBeat, 2, none, 3, 0, 0)
def mX0_hushOrHammer : zM := (yX0_hushOrHammer, cX0_hushOrHammer, 1, none, 2, 0, 0)
def mX0_letHammerFall : zM := (yX0_letHammerFall, cX0_letHammerFall, 1, none, 1, 0, 0)
def mX0_passNight : zM := (yX0_passNight, cX0_passNight, 1, some .int, 3, 0, 0)
def mX0_spreadColds : zM := (yX0_spreadColds, cX0_spreadColds, 4, none, 2, 0, 0)
def mX0_sitsBesideCold : zM := (yX0_sitsBesideCold, cX0_sitsBesideCold, 4, some .boolean, 1, 0, 0)
def mX0_coinsGoneFromPurses : zM := (yX0_coinsGoneFromPurses, cX0_coinsGoneFromPurses, 3, some .int, 0, 0, 0)
def mX0_total : zM := (yX0_total, cX0_total, 2, some .int, 1, 0, 0)
def mX0_carryOut : zM := (yX0_carryOut, cX0_carryOut, 3, some .int, 5, 0, 0)
def mX1_init : zM := (yX1_init, cX1_init, 1, none, 1, 0, 0)
def mX1_sitDown : zM := (yX1_sitDown, cX1_sitDown, 5, none, 0, 0, 0)
def mX1_copyFrom : zM := (yX1_copyFrom, cX1_copyFrom, 2, none, 0, 0, 0)
def mX1_loudness : zM := (yX1_loudness, cX1_loudness, 1, some .int, 0, 0, 0)
def mX1_isBeside : zM := (yX1_isBeside, cX1_isBeside, 2, some .boolean, 0, 0, 0)
def mX1_pay : zM := (yX1_pay, cX1_pay, 2, none, 0, 0, 0)
def mX1_tell : zM := (yX1_tell, cX1_tell, 2, some .int, 1, 0, 0)
def mX2_init : zM := (yX2_init, cX2_init, 1, none, 1, 0, 0)
def mX2_come : zM := (yX2_come, cX2_come, 3, none, 0, 0, 0)
def mX2_copyFrom : zM := (yX2_copyFrom, cX2_copyFrom, 2, none, 0, 0, 0)
def mX2_hasBid : zM := (yX2_hasBid, cX2_hasBid, 1, some .boolean, 0, 0, 0)
def mX2_asked : zM := (yX2_asked, cX2_asked, 1, some .int, 0, 0, 0)
def mX2_takeBid : zM := (yX2_takeBid, cX2_takeBid, 4, none, 0, 0, 0)
def mX2_tellUp : zM := (yX2_tellUp, cX2_tellUp, 2, some .int, 1, 0, 0)
def mX2_tellGone : zM := (yX2_tellGone, cX2_tellGone, 2, some .int, 1, 0, 0)
def mX3_init : zM := (yX3_init, cX3_init, 1, none, 1, 2, 64)
def mX3_append : zM := (yX3_append, cX3_append, 2, some .int, 1, 0, 0)
def mX3_hasFault : zM := (yX3_hasFault, cX3_hasFault, 1, some .boolean, 0, 0, 0)
def mX3_performOn : zM := (yX3_performOn, cX3_performOn, 5, none, 6, 0, 0)
def mX3_noteFault : zM := (yX3_noteFault, cX3_noteFault, 4, none, 0, 0, 0)
def mX3_numbersOf : zM := (yX3_numbersOf, cX3_numbersOf, 1, some .int, 0, 0, 0)
def mX3_readOrder : zM := (yX3_readOrder, cX3_readOrder, 3, some .boolean, 2, 0, 0)
def mX3_next : zM := (yX3_next, cX3_next, 1, some .char, 0, 0, 0)
def mX3_readCharacter : zM := (yX3_readCharacter, cX3_readCharacter, 2, some .boolean, 1, 0, 0)
def mX3_readNumber : zM := (yX3_readNumber, cX3_readNumber, 4, some .boolean, 1, 0, 0)
def mX4_init : zM := (yX4_init, cX4_init, 2, none, 3, 214, 2201)
def mX4_bidder : zM := (yX4_bidder, cX4_bidder, 5, some .int, 3, 0, 0)
def mX4_catches : zM := (yX4_catches, cX4_catches, 3, some .int, 2, 0, 0)
def mX4_muffle : zM := (yX4_muffle, cX4_muffle, 3, some .int, 2, 0, 0)
def mX4_lot : zM := (yX4_lot, cX4_lot, 3, some .int, 2, 0, 0)
def mX4_putUp : zM := (yX4_putUp, cX4_putUp, 1, some .int, 2, 0, 0)
def mX4_cough : zM := (yX4_cough, cX4_cough, 2, some .int, 3, 0, 0)
def mX4_beats : zM := (yX4_beats, cX4_beats, 2, some .int, 5, 0, 0)
def mX4_night : zM := (yX4_night, cX4_night, 1, some .int, 4, 0, 0)
def mX4_set : zM := (yX4_set, cX4_set, 3, some .int, 2, 0, 0)
def mX4_bidderOf : zM := (yX4_bidderOf, cX4_bidderOf, 3, some .int, 2, 0, 0)
def mX4_at : zM := (yX4_at, cX4_at, 3, some .int, 2, 0, 0)
def mX4_up : zM := (yX4_up, cX4_up, 2, some .int, 2, 0, 0)
def mX4_waiting : zM := (yX4_waiting, cX4_waiting, 4, some .int, 1, 0, 0)
def mX4_book : zM := (yX4_book, cX4_book, 3, some .int, 2, 0, 0)
def mX4_why : zM := (yX4_why, cX4_why, 2, some .int, 2, 0, 0)
def mX4_ifBeats : zM := (yX4_ifBeats, cX4_ifBeats, 4, some .int, 4, 0, 0)
def mX4_goneIn : zM := (yX4_goneIn, cX4_goneIn, 2, some .int, 4, 0, 0)
def mX4_coughing : zM := (yX4_coughing, cX4_coughing, 3, some .int, 1, 0, 0)
def mX4_loudest : zM := (yX4_loudest, cX4_loudest, 5, some .int, 1, 0, 0)
def mX4_ifNights : zM := (yX4_ifNights, cX4_ifNights, 3, some .int, 3, 0, 0)
def mX4_mean : zM := (yX4_mean, cX4_mean, 2, some .int, 1, 0, 0)
def mX4_count : zM := (yX4_count, cX4_count, 2, some .int, 2, 0, 0)
def mX4_undo : zM := (yX4_undo, cX4_undo, 2, some .int, 0, 0, 0)
def mX4_type : zM := (yX4_type, cX4_type, 2, some .int, 2, 0, 0)
def mX4_clearText : zM := (yX4_clearText, cX4_clearText, 2, some .int, 0, 0, 0)
def mX4_fault : zM := (yX4_fault, cX4_fault, 2, some .int, 7, 0, 0)
def mX4_play : zM := (yX4_play, cX4_play, 1, some .int, 7, 0, 0)
def mX4_keep : zM := (yX4_keep, cX4_keep, 3, some .int, 1, 0, 0)
def mX4_dropOldest : zM := (yX4_dropOldest, cX4_dropOldest, 3, none, 0, 0, 0)
def mX4_isWithin : zM := (yX4_isWithin, cX4_isWithin, 3, some .boolean, 0, 0, 0)
def mX4_isSeat : zM := (yX4_isSeat, cX4_isSeat, 2, some .boolean, 1, 0, 0)
def mX4_bitsOf : zM := (yX4_bitsOf, cX4_bitsOf, 4, some .int, 0, 0, 0)
def mX5_init : zM := (yX5_init, cX5_init, 1, none, 1, 6, 1569)
def mX5_in : zM := (yX5_in, cX5_in, 3, some .boolean, 0, 0, 0)
def mX5_copies : zM := (yX5_copies, cX5_copies, 3, none, 0, 0, 0)
def mX5_changes : zM := (yX5_changes, cX5_changes, 2, none, 0, 0, 0)
def mX5_of : zM := (yX5_of, cX5_of, 3, some .int, 0, 0, 0)
def mX5_adds : zM := (yX5_adds, cX5_adds, 4, none, 0, 0, 0)
def mX5_lay : zM := (yX5_lay, cX5_lay, 4, none, 0, 0, 0)
def mX5_isBidder : zM := (yX5_isBidder, cX5_isBidder, 2, some .boolean, 1, 0, 0)
def mX5_isSeat : zM := (yX5_isSeat, cX5_isSeat, 2, some .boolean, 1, 0, 0)
def mX5_seated : zM := (yX5_seated, cX5_seated, 4, some .int, 1, 0, 0)
def mX5_loud : zM := (yX5_loud, cX5_loud, 2, some .int, 1, 0, 0)
def mX5_asked : zM := (yX5_asked, cX5_asked, 1, some .int, 0, 0, 0)
def mX5_barred : zM := (yX5_barred, cX5_barred, 2, some .int, 2, 0, 0)
def mX5_goes : zM := (yX5_goes, cX5_goes, 3, none, 0, 0, 0)
def mX5_coughs : zM := (yX5_coughs, cX5_coughs, 4, some .int, 3, 0, 0)
def mX5_coughsNext : zM := (yX5_coughsNext, cX5_coughsNext, 3, some .boolean, 1, 0, 0)
def mX5_hammers : zM := (yX5_hammers, cX5_hammers, 2, none, 1, 0, 0)
def mX5_beat : zM := (yX5_beat, cX5_beat, 4, none, 4, 0, 0)
def mX5_bidder : zM := (yX5_bidder, cX5_bidder, 6, some .int, 2, 0, 0)
def mX5_catches : zM := (yX5_catches, cX5_catches, 4, some .int, 2, 0, 0)
def mX5_muffle : zM := (yX5_muffle, cX5_muffle, 4, some .int, 2, 0, 0)
def mX5_lot : zM := (yX5_lot, cX5_lot, 3, some .int, 1, 0, 0)
def mX5_putUp : zM := (yX5_putUp, cX5_putUp, 2, some .int, 1, 0, 0)
def mX5_cough : zM := (yX5_cough, cX5_cough, 2, some .int, 4, 0, 0)
def mX5_pass : zM := (yX5_pass, cX5_pass, 3, none, 5, 0, 0)
def mX5_gone : zM := (yX5_gone, cX5_gone, 1, some .int, 0, 0, 0)
def mX5_beats : zM := (yX5_beats, cX5_beats, 3, some .int, 6, 0, 0)
def mX5_catchesFrom : zM := (yX5_catchesFrom, cX5_catchesFrom, 4, some .boolean, 2, 0, 0)
def mX5_nightPasses : zM := (yX5_nightPasses, cX5_nightPasses, 5, none, 3, 0, 0)
def mX5_colds : zM := (yX5_colds, cX5_colds, 3, some .int, 1, 0, 0)
def mX5_bits : zM := (yX5_bits, cX5_bits, 3, some .int, 0, 0, 0)
def mX5_night : zM := (yX5_night, cX5_night, 1, some .int, 4, 0, 0)
def mX5_set : zM := (yX5_set, cX5_set, 4, some .int, 1, 0, 0)
def mX5_bidderOf : zM := (yX5_bidderOf, cX5_bidderOf, 3, some .int, 2, 0, 0)
def mX5_at : zM := (yX5_at, cX5_at, 3, some .int, 2, 0, 0)
def mX5_up : zM := (yX5_up, cX5_up, 2, some .int, 1, 0, 0)
def mX5_waiting : zM := (yX5_waiting, cX5_waiting, 3, some .int, 1, 0, 0)
def mX5_book : zM := (yX5_book, cX5_book, 4, some .int, 1, 0, 0)
def mX5_why : zM := (yX5_why, cX5_why, 2, some .int, 3, 0, 0)
def mX5_ifBeats : zM := (yX5_ifBeats, cX5_ifBeats, 5, some .int, 6, 0, 0)
def mX5_goneIn : zM := (yX5_goneIn, cX5_goneIn, 2, some .int, 5, 0, 0)
def mX5_coughing : zM := (yX5_coughing, cX5_coughing, 3, some .int, 2, 0, 0)
def mX5_loudest : zM := (yX5_loudest, cX5_loudest, 3, some .int, 2, 0, 0)
def mX5_ifNights : zM := (yX5_ifNights, cX5_ifNights, 3, some .int, 4, 0, 0)
def mX5_mean : zM := (yX5_mean, cX5_mean, 3, some .int, 2, 0, 0)
def mX5_byPurses : zM := (yX5_byPurses, cX5_byPurses, 3, some .int, 1, 0, 0)
def mX5_count : zM := (yX5_count, cX5_count, 2, some .int, 2, 0, 0)
def mX5_undo : zM := (yX5_undo, cX5_undo, 2, some .int, 0, 0, 0)
def mX5_type : zM := (yX5_type, cX5_type, 2, some .int, 1, 0, 0)
def mX5_clearText : zM := (yX5_clearText, cX5_clearText, 2, some .int, 0, 0, 0)
def mX5_isAt : zM := (yX5_isAt, cX5_isAt, 3, some .boolean, 1, 0, 0)
def mX5_sign : zM := (yX5_sign, cX5_sign, 3, some .boolean, 2, 0, 0)
def mX5_numbered : zM := (yX5_numbered, cX5_numbered, 3, some .boolean, 2, 0, 0)
def mX5_numbersOf : zM := (yX5_numbersOf, cX5_numbersOf, 1, some .int, 0, 0, 0)
def mX5_parses : zM := (yX5_parses, cX5_parses, 4, some .boolean, 3, 0, 0)
def mX5_does : zM := (yX5_does, cX5_does, 1, some .int, 7, 0, 0)
def mX5_plays : zM := (yX5_plays, cX5_plays, 4, some .boolean, 8, 0, 0)
def mX5_fault : zM := (yX5_fault, cX5_fault, 3, some .int, 9, 0, 0)
def mX5_play : zM := (yX5_play, cX5_play, 2, some .int, 9, 0, 0)
def mJxf58ca_isNaN_12338 : zM := (yJxf58ca_isNaN_12338, cJxf58ca_isNaN_12338, 1, some .boolean, 0, 0, 0)
def mJxf58ca_floatToIntBits_5c35a : zM := (yJxf58ca_floatToIntBits_5c35a, cJxf58ca_floatToIntBits_5c35a, 1, some .int, 1, 0, 0)
def mJ6_bitCount_0f7a4 : zM := (yJ6_bitCount_0f7a4, cJ6_bitCount_0f7a4, 1, some .int, 0, 0, 0)
def mL_law : zM := (yL_law, cL_law, 4, some .boolean, 11, 600000, 7302250)
theorem t_0 : Cond.code (zMn mX0_init) (zMb mX0_init) (zMl mX0_init) (zMr mX0_init) ∈ zWd := z_tb 24 (by decide +kernel) (by decide +kernel)
theorem t_1 : Cond.initialized "CoughBids$Auction" ∈ zWd := z_tb 2 (by decide +kernel) (by decide +kernel)
theorem oX0_init : zOm mX0_init 1 := ⟨by decide +kernel, by decide, by decide, by decide +kernel, t_0, t_1, by decide +kernel⟩
theorem t_2 : Cond.code (zMn mX0_copyFrom) (zMb mX0_copyFrom) (zMl mX0_copyFrom) (zMr mX0_copyFrom) ∈ zWd := z_tb 252 (by decide +kernel) (by decide +kernel)
theorem oX0_copyFrom : zOm mX0_copyFrom 2 := ⟨by decide +kernel, by decide, by decide, by decide +kernel, t_2, t_1, by decide +kernel⟩
theorem t_3 : Cond.code (zMn mX0_hasBidder) (zMb mX0_hasBidder) (zMl mX0_hasBidder) (zMr mX0_hasBidder) ∈ zWd := z_tb 306 (by decide +kernel) (by decide +kernel)
theorem oX0_hasBidder : zOm mX0_hasBidder 2 := ⟨by decide +kernel, by decide, by decide, by decide +kernel, t_3, t_1, by decide +kernel⟩
theorem t_4 : Cond.code (zMn mX0_findSeated) (zMb mX0_findSeated) (zMl mX0_findSeated) (zMr mX0_findSeated) ∈ zWd := z_tb 279 (by decide +kernel) (by decide +kernel)
theorem oX0_findSeated : zOm mX0_findSeated 3 := ⟨by decide +kernel, by decide, by decide, by decide +kernel, t_4, t_1, by decide +kernel⟩
theorem t_5 : Cond.code (zMn mX0_seatBidder) (zMb mX0_seatBidder) (zMl mX0_seatBidder) (zMr mX0_seatBidder) ∈ zWd := z_tb 267 (by decide +kernel) (by decide +kernel)
theorem oX0_seatBidder : zOm mX0_seatBidder 5 := ⟨by decide +kernel, by decide, by decide, by decide +kernel, t_5, t_1, by decide +kernel⟩
theorem t_6 : Cond.code (zMn mX0_changeCold) (zMb mX0_changeCold) (zMl mX0_changeCold) (zMr mX0_changeCold) ∈ zWd := z_tb 302 (by decide +kernel) (by decide +kernel)
theorem oX0_changeCold : zOm mX0_changeCold 3 := ⟨by decide +kernel, by decide, by decide, by decide +kernel, t_6, t_1, by decide +kernel⟩
theorem t_7 : Cond.code (zMn mX0_changeMuffler) (zMb mX0_changeMuffler) (zMl mX0_changeMuffler) (zMr mX0_changeMuffler) ∈ zWd := z_tb 314 (by decide +kernel) (by decide +kernel)
theorem oX0_changeMuffler : zOm mX0_changeMuffler 3 := ⟨by decide +kernel, by decide, by decide, by decide +kernel, t_7, t_1, by decide +kernel⟩
theorem t_8 : Cond.code (zMn mX0_bidderSetWithCold) (zMb mX0_bidderSetWithCold) (zMl mX0_bidderSetWithCold) (zMr mX0_bidderSetWithCold) ∈ zWd := z_tb 429 (by decide +kernel) (by decide +kernel)
theorem oX0_bidderSetWithCold : zOm mX0_bidderSetWithCold 1 := ⟨by decide +kernel, by decide, by decide, by decide +kernel, t_8, t_1, by decide +kernel⟩
theorem t_9 : Cond.code (zMn mX0_changeSetting) (zMb mX0_changeSetting) (zMl mX0_changeSetting) (zMr mX0_changeSetting) ∈ zWd := z_tb 443 (by decide +kernel) (by decide +kernel)
theorem oX0_changeSetting : zOm mX0_changeSetting 3 := ⟨by decide +kernel, by decide, by decide, by decide +kernel, t_9, t_1, by decide +kernel⟩
theorem t_10 : Cond.code (zMn mX0_addLot) (zMb mX0_addLot) (zMl mX0_addLot) (zMr mX0_addLot) ∈ zWd := z_tb 322 (by decide +kernel) (by decide +kernel)
theorem oX0_addLot : zOm mX0_addLot 3 := ⟨by decide +kernel, by decide, by decide, by decide +kernel, t_10, t_1, by decide +kernel⟩
theorem t_11 : Cond.code (zMn mX0_raiseNextLot) (zMb mX0_raiseNextLot) (zMl mX0_raiseNextLot) (zMr mX0_raiseNextLot) ∈ zWd := z_tb 334 (by decide +kernel) (by decide +kernel)
theorem oX0_raiseNextLot : zOm mX0_raiseNextLot 1 := ⟨by decide +kernel, by decide, by decide, by decide +kernel, t_11, t_1, by decide +kernel⟩
theorem t_12 : Cond.code (zMn mX0_close) (zMb mX0_close) (zMl mX0_close) (zMr mX0_close) ∈ zWd := z_tb 370 (by decide +kernel) (by decide +kernel)
theorem oX0_close : zOm mX0_close 2 := ⟨by decide +kernel, by decide, by decide, by decide +kernel, t_12, t_1, by decide +kernel⟩
theorem t_13 : Cond.code (zMn mX0_reasonAgainst) (zMb mX0_reasonAgainst) (zMl mX0_reasonAgainst) (zMr mX0_reasonAgainst) ∈ zWd := z_tb 346 (by decide +kernel) (by decide +kernel)
theorem oX0_reasonAgainst : zOm mX0_reasonAgainst 2 := ⟨by decide +kernel, by decide, by decide, by decide +kernel, t_13, t_1, by decide +kernel⟩
theorem t_14 : Cond.code (zMn mX0_takeCough) (zMb mX0_takeCough) (zMl mX0_takeCough) (zMr mX0_takeCough) ∈ zWd := z_tb 342 (by decide +kernel) (by decide +kernel)
theorem oX0_takeCough : zOm mX0_takeCough 3 := ⟨by decide +kernel, by decide, by decide, by decide +kernel, t_14, t_1, by decide +kernel⟩
theorem t_15 : Cond.code (zMn mX0_doubtBid) (zMb mX0_doubtBid) (zMl mX0_doubtBid) (zMr mX0_doubtBid) ∈ zWd := z_tb 366 (by decide +kernel) (by decide +kernel)
theorem oX0_doubtBid : zOm mX0_doubtBid 1 := ⟨by decide +kernel, by decide, by decide, by decide +kernel, t_15, t_1, by decide +kernel⟩
theorem t_16 : Cond.code (zMn mX0_isDueToCough) (zMb mX0_isDueToCough) (zMl mX0_isDueToCough) (zMr mX0_isDueToCough) ∈ zWd := z_tb 386 (by decide +kernel) (by decide +kernel)
theorem oX0_isDueToCough : zOm mX0_isDueToCough 2 := ⟨by decide +kernel, by decide, by decide, by decide +kernel, t_16, t_1, by decide +kernel⟩
theorem t_17 : Cond.code (zMn mX0_passBeats) (zMb mX0_passBeats) (zMl mX0_passBeats) (zMr mX0_passBeats) ∈ zWd := z_tb 378 (by decide +kernel) (by decide +kernel)
theorem oX0_passBeats : zOm mX0_passBeats 2 := ⟨by decide +kernel, by decide, by decide, by decide +kernel, t_17, t_1, by decide +kernel⟩
theorem t_18 : Cond.code (zMn mX0_passBeat) (zMb mX0_passBeat) (zMl mX0_passBeat) (zMr mX0_passBeat) ∈ zWd := z_tb 382 (by decide +kernel) (by decide +kernel)
theorem oX0_passBeat : zOm mX0_passBeat 1 := ⟨by decide +kernel, by decide, by decide, by decide +kernel, t_18, t_1, by decide +kernel⟩
theorem t_19 : Cond.code (zMn mX0_hushOrHammer) (zMb mX0_hushOrHammer) (zMl mX0_hushOrHammer) (zMr mX0_hushOrHammer) ∈ zWd := z_tb 391 (by decide +kernel) (by decide +kernel)
theorem oX0_hushOrHammer : zOm mX0_hushOrHammer 1 := ⟨by decide +kernel, by decide, by decide, by decide +kernel, t_19, t_1, by decide +kernel⟩
theorem t_20 : Cond.code (zMn mX0_letHammerFall) (zMb mX0_letHammerFall) (zMl mX0_letHammerFall) (zMr mX0_letHammerFall) ∈ zWd := z_tb 395 (by decide +kernel) (by decide +kernel)
theorem oX0_letHammerFall : zOm mX0_letHammerFall 1 := ⟨by decide +kernel, by decide, by decide, by decide +kernel, t_20, t_1, by decide +kernel⟩
theorem t_21 : Cond.code (zMn mX0_passNight) (zMb mX0_passNight) (zMl mX0_passNight) (zMr mX0_passNight) ∈ zWd := z_tb 407 (by decide +kernel) (by decide +kernel)
theorem oX0_passNight : zOm mX0_passNight 1 := ⟨by decide +kernel, by decide, by decide, by decide +kernel, t_21, t_1, by decide +kernel⟩
theorem t_22 : Cond.code (zMn mX0_spreadColds) (zMb mX0_spreadColds) (zMl mX0_spreadColds) (zMr mX0_spreadColds) ∈ zWd := z_tb 411 (by decide +kernel) (by decide +kernel)
theorem oX0_spreadColds : zOm mX0_spreadColds 1 := ⟨by decide +kernel, by decide, by decide, by decide +kernel, t_22, t_1, by decide +kernel⟩
theorem t_23 : Cond.code (zMn mX0_sitsBesideCold) (zMb mX0_sitsBesideCold) (zMl mX0_sitsBesideCold) (zMr mX0_sitsBesideCold) ∈ zWd := z_tb 415 (by decide +kernel) (by decide +kernel)
theorem oX0_sitsBesideCold : zOm mX0_sitsBesideCold 2 := ⟨by decide +kernel, by decide, by decide, by decide +kernel, t_23, t_1, by decide +kernel⟩
theorem t_24 : Cond.code (zMn mX0_coinsGoneFromPurses) (zMb mX0_coinsGoneFromPurses) (zMl mX0_coinsGoneFromPurses) (zMr mX0_coinsGoneFromPurses) ∈ zWd := z_tb 538 (by decide +kernel) (by decide +kernel)
theorem oX0_coinsGoneFromPurses : zOm mX0_coinsGoneFromPurses 1 := ⟨by decide +kernel, by decide, by decide, by decide +kernel, t_24, t_1, by decide +kernel⟩
theorem t_25 : Cond.code (zMn mX0_total) (zMb mX0_total) (zMl mX0_total) (zMr mX0_total) ∈ zWd := z_tb 534 (by decide +kernel) (by decide +kernel)
theorem oX0_total : zOm mX0_total 2 := ⟨by decide +kernel, by decide, by decide, by decide +kernel, t_25, t_1, by decide +kernel⟩
theorem t_26 : Cond.code (zMn mX0_carryOut) (zMb mX0_carryOut) (zMl mX0_carryOut) (zMr mX0_carryOut) ∈ zWd := z_tb 596 (by decide +kernel) (by decide +kernel)
theorem oX0_carryOut : zOm mX0_carryOut 3 := ⟨by decide +kernel, by decide, by decide, by decide +kernel, t_26, t_1, by decide +kernel⟩
theorem t_27 : Cond.code (zMn mX1_init) (zMb mX1_init) (zMl mX1_init) (zMr mX1_init) ∈ zWd := z_tb 31 (by decide +kernel) (by decide +kernel)
theorem t_28 : Cond.initialized "CoughBids$Bidder" ∈ zWd := z_tb 3 (by decide +kernel) (by decide +kernel)
theorem oX1_init : zOm mX1_init 1 := ⟨by decide +kernel, by decide, by decide, by decide +kernel, t_27, t_28, by decide +kernel⟩
theorem t_29 : Cond.code (zMn mX1_sitDown) (zMb mX1_sitDown) (zMl mX1_sitDown) (zMr mX1_sitDown) ∈ zWd := z_tb 286 (by decide +kernel) (by decide +kernel)
theorem oX1_sitDown : zOm mX1_sitDown 5 := ⟨by decide +kernel, by decide, by decide, by decide +kernel, t_29, t_28, by decide +kernel⟩
theorem t_30 : Cond.code (zMn mX1_copyFrom) (zMb mX1_copyFrom) (zMl mX1_copyFrom) (zMr mX1_copyFrom) ∈ zWd := z_tb 256 (by decide +kernel) (by decide +kernel)
theorem oX1_copyFrom : zOm mX1_copyFrom 2 := ⟨by decide +kernel, by decide, by decide, by decide +kernel, t_30, t_28, by decide +kernel⟩
theorem t_31 : Cond.code (zMn mX1_loudness) (zMb mX1_loudness) (zMl mX1_loudness) (zMr mX1_loudness) ∈ zWd := z_tb 350 (by decide +kernel) (by decide +kernel)
theorem oX1_loudness : zOm mX1_loudness 1 := ⟨by decide +kernel, by decide, by decide, by decide +kernel, t_31, t_28, by decide +kernel⟩
theorem t_32 : Cond.code (zMn mX1_isBeside) (zMb mX1_isBeside) (zMl mX1_isBeside) (zMr mX1_isBeside) ∈ zWd := z_tb 419 (by decide +kernel) (by decide +kernel)
theorem oX1_isBeside : zOm mX1_isBeside 2 := ⟨by decide +kernel, by decide, by decide, by decide +kernel, t_32, t_28, by decide +kernel⟩
theorem t_33 : Cond.code (zMn mX1_pay) (zMb mX1_pay) (zMl mX1_pay) (zMr mX1_pay) ∈ zWd := z_tb 399 (by decide +kernel) (by decide +kernel)
theorem oX1_pay : zOm mX1_pay 2 := ⟨by decide +kernel, by decide, by decide, by decide +kernel, t_33, t_28, by decide +kernel⟩
theorem t_34 : Cond.code (zMn mX1_tell) (zMb mX1_tell) (zMl mX1_tell) (zMr mX1_tell) ∈ zWd := z_tb 453 (by decide +kernel) (by decide +kernel)
theorem oX1_tell : zOm mX1_tell 2 := ⟨by decide +kernel, by decide, by decide, by decide +kernel, t_34, t_28, by decide +kernel⟩
theorem t_35 : Cond.code (zMn mX2_init) (zMb mX2_init) (zMl mX2_init) (zMr mX2_init) ∈ zWd := z_tb 81 (by decide +kernel) (by decide +kernel)
theorem t_36 : Cond.initialized "CoughBids$Lot" ∈ zWd := z_tb 4 (by decide +kernel) (by decide +kernel)
theorem oX2_init : zOm mX2_init 1 := ⟨by decide +kernel, by decide, by decide, by decide +kernel, t_35, t_36, by decide +kernel⟩
theorem t_37 : Cond.code (zMn mX2_come) (zMb mX2_come) (zMl mX2_come) (zMr mX2_come) ∈ zWd := z_tb 326 (by decide +kernel) (by decide +kernel)
theorem oX2_come : zOm mX2_come 3 := ⟨by decide +kernel, by decide, by decide, by decide +kernel, t_37, t_36, by decide +kernel⟩
theorem t_38 : Cond.code (zMn mX2_copyFrom) (zMb mX2_copyFrom) (zMl mX2_copyFrom) (zMr mX2_copyFrom) ∈ zWd := z_tb 260 (by decide +kernel) (by decide +kernel)
theorem oX2_copyFrom : zOm mX2_copyFrom 2 := ⟨by decide +kernel, by decide, by decide, by decide +kernel, t_38, t_36, by decide +kernel⟩
theorem t_39 : Cond.code (zMn mX2_hasBid) (zMb mX2_hasBid) (zMl mX2_hasBid) (zMr mX2_hasBid) ∈ zWd := z_tb 354 (by decide +kernel) (by decide +kernel)
theorem oX2_hasBid : zOm mX2_hasBid 1 := ⟨by decide +kernel, by decide, by decide, by decide +kernel, t_39, t_36, by decide +kernel⟩
theorem t_40 : Cond.code (zMn mX2_asked) (zMb mX2_asked) (zMl mX2_asked) (zMr mX2_asked) ∈ zWd := z_tb 358 (by decide +kernel) (by decide +kernel)
theorem oX2_asked : zOm mX2_asked 1 := ⟨by decide +kernel, by decide, by decide, by decide +kernel, t_40, t_36, by decide +kernel⟩
theorem t_41 : Cond.code (zMn mX2_takeBid) (zMb mX2_takeBid) (zMl mX2_takeBid) (zMr mX2_takeBid) ∈ zWd := z_tb 362 (by decide +kernel) (by decide +kernel)
theorem oX2_takeBid : zOm mX2_takeBid 4 := ⟨by decide +kernel, by decide, by decide, by decide +kernel, t_41, t_36, by decide +kernel⟩
theorem t_42 : Cond.code (zMn mX2_tellUp) (zMb mX2_tellUp) (zMl mX2_tellUp) (zMr mX2_tellUp) ∈ zWd := z_tb 470 (by decide +kernel) (by decide +kernel)
theorem oX2_tellUp : zOm mX2_tellUp 2 := ⟨by decide +kernel, by decide, by decide, by decide +kernel, t_42, t_36, by decide +kernel⟩
theorem t_43 : Cond.code (zMn mX2_tellGone) (zMb mX2_tellGone) (zMl mX2_tellGone) (zMr mX2_tellGone) ∈ zWd := z_tb 487 (by decide +kernel) (by decide +kernel)
theorem oX2_tellGone : zOm mX2_tellGone 2 := ⟨by decide +kernel, by decide, by decide, by decide +kernel, t_43, t_36, by decide +kernel⟩
theorem t_44 : Cond.code (zMn mX3_init) (zMb mX3_init) (zMl mX3_init) (zMr mX3_init) ∈ zWd := z_tb 193 (by decide +kernel) (by decide +kernel)
theorem t_45 : Cond.initialized "CoughBids$Script" ∈ zWd := z_tb 5 (by decide +kernel) (by decide +kernel)
theorem oX3_init : zOm mX3_init 1 := ⟨by decide +kernel, by decide, by decide, by decide +kernel, t_44, t_45, by decide +kernel⟩
theorem t_46 : Cond.code (zMn mX3_append) (zMb mX3_append) (zMl mX3_append) (zMr mX3_append) ∈ zWd := z_tb 550 (by decide +kernel) (by decide +kernel)
theorem oX3_append : zOm mX3_append 2 := ⟨by decide +kernel, by decide, by decide, by decide +kernel, t_46, t_45, by decide +kernel⟩
theorem t_47 : Cond.code (zMn mX3_hasFault) (zMb mX3_hasFault) (zMl mX3_hasFault) (zMr mX3_hasFault) ∈ zWd := z_tb 569 (by decide +kernel) (by decide +kernel)
theorem oX3_hasFault : zOm mX3_hasFault 1 := ⟨by decide +kernel, by decide, by decide, by decide +kernel, t_47, t_45, by decide +kernel⟩
theorem t_48 : Cond.code (zMn mX3_performOn) (zMb mX3_performOn) (zMl mX3_performOn) (zMr mX3_performOn) ∈ zWd := z_tb 565 (by decide +kernel) (by decide +kernel)
theorem oX3_performOn : zOm mX3_performOn 2 := ⟨by decide +kernel, by decide, by decide, by decide +kernel, t_48, t_45, by decide +kernel⟩
theorem t_49 : Cond.code (zMn mX3_noteFault) (zMb mX3_noteFault) (zMl mX3_noteFault) (zMr mX3_noteFault) ∈ zWd := z_tb 592 (by decide +kernel) (by decide +kernel)
theorem oX3_noteFault : zOm mX3_noteFault 4 := ⟨by decide +kernel, by decide, by decide, by decide +kernel, t_49, t_45, by decide +kernel⟩
theorem t_50 : Cond.code (zMn mX3_numbersOf) (zMb mX3_numbersOf) (zMl mX3_numbersOf) (zMr mX3_numbersOf) ∈ zWd := z_tb 580 (by decide +kernel) (by decide +kernel)
theorem oX3_numbersOf : zOm mX3_numbersOf 1 := ⟨by decide +kernel, by decide, by decide, by decide +kernel, t_50, t_45, by decide +kernel⟩
theorem t_51 : Cond.code (zMn mX3_readOrder) (zMb mX3_readOrder) (zMl mX3_readOrder) (zMr mX3_readOrder) ∈ zWd := z_tb 573 (by decide +kernel) (by decide +kernel)
theorem oX3_readOrder : zOm mX3_readOrder 1 := ⟨by decide +kernel, by decide, by decide, by decide +kernel, t_51, t_45, by decide +kernel⟩
theorem t_52 : Cond.code (zMn mX3_next) (zMb mX3_next) (zMl mX3_next) (zMr mX3_next) ∈ zWd := z_tb 577 (by decide +kernel) (by decide +kernel)
theorem oX3_next : zOm mX3_next 1 := ⟨by decide +kernel, by decide, by decide, by decide +kernel, t_52, t_45, by decide +kernel⟩
theorem t_53 : Cond.code (zMn mX3_readCharacter) (zMb mX3_readCharacter) (zMl mX3_readCharacter) (zMr mX3_readCharacter) ∈ zWd := z_tb 584 (by decide +kernel) (by decide +kernel)
theorem oX3_readCharacter : zOm mX3_readCharacter 2 := ⟨by decide +kernel, by decide, by decide, by decide +kernel, t_53, t_45, by decide +kernel⟩
theorem t_54 : Cond.code (zMn mX3_readNumber) (zMb mX3_readNumber) (zMl mX3_readNumber) (zMr mX3_readNumber) ∈ zWd := z_tb 588 (by decide +kernel) (by decide +kernel)
theorem oX3_readNumber : zOm mX3_readNumber 2 := ⟨by decide +kernel, by decide, by decide, by decide +kernel, t_54, t_45, by decide +kernel⟩
theorem t_55 : Cond.code (zMn mX4_init) (zMb mX4_init) (zMl mX4_init) (zMr mX4_init) ∈ zWd := z_tb 15 (by decide +kernel) (by decide +kernel)
theorem t_56 : Cond.initialized "CoughBids" ∈ zWd := z_tb 1 (by decide +kernel) (by decide +kernel)
theorem oX4_init : zOm mX4_init 1 := ⟨by decide +kernel, by decide, by decide, by decide +kernel, t_55, t_56, by decide +kernel⟩
theorem t_57 : Cond.code (zMn mX4_bidder) (zMb mX4_bidder) (zMl mX4_bidder) (zMr mX4_bidder) ∈ zWd := z_tb 248 (by decide +kernel) (by decide +kernel)
theorem oX4_bidder : zOm mX4_bidder 5 := ⟨by decide +kernel, by decide, by decide, by decide +kernel, t_57, t_56, by decide +kernel⟩
theorem t_58 : Cond.code (zMn mX4_catches) (zMb mX4_catches) (zMl mX4_catches) (zMr mX4_catches) ∈ zWd := z_tb 298 (by decide +kernel) (by decide +kernel)
theorem oX4_catches : zOm mX4_catches 3 := ⟨by decide +kernel, by decide, by decide, by decide +kernel, t_58, t_56, by decide +kernel⟩
theorem t_59 : Cond.code (zMn mX4_muffle) (zMb mX4_muffle) (zMl mX4_muffle) (zMr mX4_muffle) ∈ zWd := z_tb 310 (by decide +kernel) (by decide +kernel)
theorem oX4_muffle : zOm mX4_muffle 3 := ⟨by decide +kernel, by decide, by decide, by decide +kernel, t_59, t_56, by decide +kernel⟩
theorem t_60 : Cond.code (zMn mX4_lot) (zMb mX4_lot) (zMl mX4_lot) (zMr mX4_lot) ∈ zWd := z_tb 318 (by decide +kernel) (by decide +kernel)
theorem oX4_lot : zOm mX4_lot 3 := ⟨by decide +kernel, by decide, by decide, by decide +kernel, t_60, t_56, by decide +kernel⟩
theorem t_61 : Cond.code (zMn mX4_putUp) (zMb mX4_putUp) (zMl mX4_putUp) (zMr mX4_putUp) ∈ zWd := z_tb 330 (by decide +kernel) (by decide +kernel)
theorem oX4_putUp : zOm mX4_putUp 1 := ⟨by decide +kernel, by decide, by decide, by decide +kernel, t_61, t_56, by decide +kernel⟩
theorem t_62 : Cond.code (zMn mX4_cough) (zMb mX4_cough) (zMl mX4_cough) (zMr mX4_cough) ∈ zWd := z_tb 338 (by decide +kernel) (by decide +kernel)
theorem oX4_cough : zOm mX4_cough 2 := ⟨by decide +kernel, by decide, by decide, by decide +kernel, t_62, t_56, by decide +kernel⟩
theorem t_63 : Cond.code (zMn mX4_beats) (zMb mX4_beats) (zMl mX4_beats) (zMr mX4_beats) ∈ zWd := z_tb 374 (by decide +kernel) (by decide +kernel)
theorem oX4_beats : zOm mX4_beats 2 := ⟨by decide +kernel, by decide, by decide, by decide +kernel, t_63, t_56, by decide +kernel⟩
theorem t_64 : Cond.code (zMn mX4_night) (zMb mX4_night) (zMl mX4_night) (zMr mX4_night) ∈ zWd := z_tb 403 (by decide +kernel) (by decide +kernel)
theorem oX4_night : zOm mX4_night 1 := ⟨by decide +kernel, by decide, by decide, by decide +kernel, t_64, t_56, by decide +kernel⟩
theorem t_65 : Cond.code (zMn mX4_set) (zMb mX4_set) (zMl mX4_set) (zMr mX4_set) ∈ zWd := z_tb 439 (by decide +kernel) (by decide +kernel)
theorem oX4_set : zOm mX4_set 3 := ⟨by decide +kernel, by decide, by decide, by decide +kernel, t_65, t_56, by decide +kernel⟩
theorem t_66 : Cond.code (zMn mX4_bidderOf) (zMb mX4_bidderOf) (zMl mX4_bidderOf) (zMr mX4_bidderOf) ∈ zWd := z_tb 447 (by decide +kernel) (by decide +kernel)
theorem oX4_bidderOf : zOm mX4_bidderOf 3 := ⟨by decide +kernel, by decide, by decide, by decide +kernel, t_66, t_56, by decide +kernel⟩
theorem t_67 : Cond.code (zMn mX4_at) (zMb mX4_at) (zMl mX4_at) (zMr mX4_at) ∈ zWd := z_tb 459 (by decide +kernel) (by decide +kernel)
theorem oX4_at : zOm mX4_at 3 := ⟨by decide +kernel, by decide, by decide, by decide +kernel, t_67, t_56, by decide +kernel⟩
theorem t_68 : Cond.code (zMn mX4_up) (zMb mX4_up) (zMl mX4_up) (zMr mX4_up) ∈ zWd := z_tb 465 (by decide +kernel) (by decide +kernel)
theorem oX4_up : zOm mX4_up 2 := ⟨by decide +kernel, by decide, by decide, by decide +kernel, t_68, t_56, by decide +kernel⟩
theorem t_69 : Cond.code (zMn mX4_waiting) (zMb mX4_waiting) (zMl mX4_waiting) (zMr mX4_waiting) ∈ zWd := z_tb 478 (by decide +kernel) (by decide +kernel)
theorem oX4_waiting : zOm mX4_waiting 3 := ⟨by decide +kernel, by decide, by decide, by decide +kernel, t_69, t_56, by decide +kernel⟩
theorem t_70 : Cond.code (zMn mX4_book) (zMb mX4_book) (zMl mX4_book) (zMr mX4_book) ∈ zWd := z_tb 483 (by decide +kernel) (by decide +kernel)
theorem oX4_book : zOm mX4_book 3 := ⟨by decide +kernel, by decide, by decide, by decide +kernel, t_70, t_56, by decide +kernel⟩
theorem t_71 : Cond.code (zMn mX4_why) (zMb mX4_why) (zMl mX4_why) (zMr mX4_why) ∈ zWd := z_tb 491 (by decide +kernel) (by decide +kernel)
theorem oX4_why : zOm mX4_why 2 := ⟨by decide +kernel, by decide, by decide, by decide +kernel, t_71, t_56, by decide +kernel⟩
theorem t_72 : Cond.code (zMn mX4_ifBeats) (zMb mX4_ifBeats) (zMl mX4_ifBeats) (zMr mX4_ifBeats) ∈ zWd := z_tb 496 (by decide +kernel) (by decide +kernel)
theorem oX4_ifBeats : zOm mX4_ifBeats 3 := ⟨by decide +kernel, by decide, by decide, by decide +kernel, t_72, t_56, by decide +kernel⟩
theorem t_73 : Cond.code (zMn mX4_goneIn) (zMb mX4_goneIn) (zMl mX4_goneIn) (zMr mX4_goneIn) ∈ zWd := z_tb 501 (by decide +kernel) (by decide +kernel)
theorem oX4_goneIn : zOm mX4_goneIn 1 := ⟨by decide +kernel, by decide, by decide, by decide +kernel, t_73, t_56, by decide +kernel⟩
theorem t_74 : Cond.code (zMn mX4_coughing) (zMb mX4_coughing) (zMl mX4_coughing) (zMr mX4_coughing) ∈ zWd := z_tb 505 (by decide +kernel) (by decide +kernel)
theorem oX4_coughing : zOm mX4_coughing 1 := ⟨by decide +kernel, by decide, by decide, by decide +kernel, t_74, t_56, by decide +kernel⟩
theorem t_75 : Cond.code (zMn mX4_loudest) (zMb mX4_loudest) (zMl mX4_loudest) (zMr mX4_loudest) ∈ zWd := z_tb 510 (by decide +kernel) (by decide +kernel)
theorem oX4_loudest : zOm mX4_loudest 1 := ⟨by decide +kernel, by decide, by decide, by decide +kernel, t_75, t_56, by decide +kernel⟩
theorem t_76 : Cond.code (zMn mX4_ifNights) (zMb mX4_ifNights) (zMl mX4_ifNights) (zMr mX4_ifNights) ∈ zWd := z_tb 515 (by decide +kernel) (by decide +kernel)
theorem oX4_ifNights : zOm mX4_ifNights 2 := ⟨by decide +kernel, by decide, by decide, by decide +kernel, t_76, t_56, by decide +kernel⟩
theorem t_77 : Cond.code (zMn mX4_mean) (zMb mX4_mean) (zMl mX4_mean) (zMr mX4_mean) ∈ zWd := z_tb 522 (by decide +kernel) (by decide +kernel)
theorem oX4_mean : zOm mX4_mean 1 := ⟨by decide +kernel, by decide, by decide, by decide +kernel, t_77, t_56, by decide +kernel⟩
theorem t_78 : Cond.code (zMn mX4_count) (zMb mX4_count) (zMl mX4_count) (zMr mX4_count) ∈ zWd := z_tb 530 (by decide +kernel) (by decide +kernel)
theorem oX4_count : zOm mX4_count 2 := ⟨by decide +kernel, by decide, by decide, by decide +kernel, t_78, t_56, by decide +kernel⟩
theorem t_79 : Cond.code (zMn mX4_undo) (zMb mX4_undo) (zMl mX4_undo) (zMr mX4_undo) ∈ zWd := z_tb 542 (by decide +kernel) (by decide +kernel)
theorem oX4_undo : zOm mX4_undo 1 := ⟨by decide +kernel, by decide, by decide, by decide +kernel, t_79, t_56, by decide +kernel⟩
theorem t_80 : Cond.code (zMn mX4_type) (zMb mX4_type) (zMl mX4_type) (zMr mX4_type) ∈ zWd := z_tb 546 (by decide +kernel) (by decide +kernel)
theorem oX4_type : zOm mX4_type 2 := ⟨by decide +kernel, by decide, by decide, by decide +kernel, t_80, t_56, by decide +kernel⟩
theorem t_81 : Cond.code (zMn mX4_clearText) (zMb mX4_clearText) (zMl mX4_clearText) (zMr mX4_clearText) ∈ zWd := z_tb 557 (by decide +kernel) (by decide +kernel)
theorem oX4_clearText : zOm mX4_clearText 1 := ⟨by decide +kernel, by decide, by decide, by decide +kernel, t_81, t_56, by decide +kernel⟩
theorem t_82 : Cond.code (zMn mX4_fault) (zMb mX4_fault) (zMl mX4_fault) (zMr mX4_fault) ∈ zWd := z_tb 561 (by decide +kernel) (by decide +kernel)
theorem oX4_fault : zOm mX4_fault 2 := ⟨by decide +kernel, by decide, by decide, by decide +kernel, t_82, t_56, by decide +kernel⟩
theorem t_83 : Cond.code (zMn mX4_play) (zMb mX4_play) (zMl mX4_play) (zMr mX4_play) ∈ zWd := z_tb 607 (by decide +kernel) (by decide +kernel)
theorem oX4_play : zOm mX4_play 1 := ⟨by decide +kernel, by decide, by decide, by decide +kernel, t_83, t_56, by decide +kernel⟩
theorem t_84 : Cond.code (zMn mX4_keep) (zMb mX4_keep) (zMl mX4_keep) (zMr mX4_keep) ∈ zWd := z_tb 290 (by decide +kernel) (by decide +kernel)
theorem oX4_keep : zOm mX4_keep 2 := ⟨by decide +kernel, by decide, by decide, by decide +kernel, t_84, t_56, by decide +kernel⟩
theorem t_85 : Cond.code (zMn mX4_dropOldest) (zMb mX4_dropOldest) (zMl mX4_dropOldest) (zMr mX4_dropOldest) ∈ zWd := z_tb 294 (by decide +kernel) (by decide +kernel)
theorem oX4_dropOldest : zOm mX4_dropOldest 1 := ⟨by decide +kernel, by decide, by decide, by decide +kernel, t_85, t_56, by decide +kernel⟩
theorem t_86 : Cond.code (zMn mX4_isWithin) (zMb mX4_isWithin) (zMl mX4_isWithin) (zMr mX4_isWithin) ∈ zWd := z_tb 273 (by decide +kernel) (by decide +kernel)
theorem oX4_isWithin : zOm mX4_isWithin 3 := ⟨by decide +kernel, by decide, by decide, by decide +kernel, t_86, t_56, by decide +kernel⟩
theorem t_87 : Cond.code (zMn mX4_isSeat) (zMb mX4_isSeat) (zMl mX4_isSeat) (zMr mX4_isSeat) ∈ zWd := z_tb 270 (by decide +kernel) (by decide +kernel)
theorem oX4_isSeat : zOm mX4_isSeat 2 := ⟨by decide +kernel, by decide, by decide, by decide +kernel, t_87, t_56, by decide +kernel⟩
theorem t_88 : Cond.code (zMn mX4_bitsOf) (zMb mX4_bitsOf) (zMl mX4_bitsOf) (zMr mX4_bitsOf) ∈ zWd := z_tb 525 (by decide +kernel) (by decide +kernel)
theorem oX4_bitsOf : zOm mX4_bitsOf 1 := ⟨by decide +kernel, by decide, by decide, by decide +kernel, t_88, t_56, by decide +kernel⟩
theorem t_89 : Cond.code (zMn mX5_init) (zMb mX5_init) (zMl mX5_init) (zMr mX5_init) ∈ zWd := z_tb 612 (by decide +kernel) (by decide +kernel)
theorem t_90 : Cond.initialized "CoughBidsModel" ∈ zWd := z_tb 6 (by decide +kernel) (by decide +kernel)
theorem oX5_init : zOm mX5_init 1 := ⟨by decide +kernel, by decide, by decide, by decide +kernel, t_89, t_90, by decide +kernel⟩
theorem t_91 : Cond.code (zMn mX5_in) (zMb mX5_in) (zMl mX5_in) (zMr mX5_in) ∈ zWd := z_tb 669 (by decide +kernel) (by decide +kernel)
theorem oX5_in : zOm mX5_in 3 := ⟨by decide +kernel, by decide, by decide, by decide +kernel, t_91, t_90, by decide +kernel⟩
theorem t_92 : Cond.code (zMn mX5_copies) (zMb mX5_copies) (zMl mX5_copies) (zMr mX5_copies) ∈ zWd := z_tb 815 (by decide +kernel) (by decide +kernel)
theorem oX5_copies : zOm mX5_copies 2 := ⟨by decide +kernel, by decide, by decide, by decide +kernel, t_92, t_90, by decide +kernel⟩
theorem t_93 : Cond.code (zMn mX5_changes) (zMb mX5_changes) (zMl mX5_changes) (zMr mX5_changes) ∈ zWd := z_tb 685 (by decide +kernel) (by decide +kernel)
theorem oX5_changes : zOm mX5_changes 1 := ⟨by decide +kernel, by decide, by decide, by decide +kernel, t_93, t_90, by decide +kernel⟩
theorem t_94 : Cond.code (zMn mX5_of) (zMb mX5_of) (zMl mX5_of) (zMr mX5_of) ∈ zWd := z_tb 678 (by decide +kernel) (by decide +kernel)
theorem oX5_of : zOm mX5_of 3 := ⟨by decide +kernel, by decide, by decide, by decide +kernel, t_94, t_90, by decide +kernel⟩
theorem t_95 : Cond.code (zMn mX5_adds) (zMb mX5_adds) (zMl mX5_adds) (zMr mX5_adds) ∈ zWd := z_tb 733 (by decide +kernel) (by decide +kernel)
theorem oX5_adds : zOm mX5_adds 4 := ⟨by decide +kernel, by decide, by decide, by decide +kernel, t_95, t_90, by decide +kernel⟩
theorem t_96 : Cond.code (zMn mX5_lay) (zMb mX5_lay) (zMl mX5_lay) (zMr mX5_lay) ∈ zWd := z_tb 689 (by decide +kernel) (by decide +kernel)
theorem oX5_lay : zOm mX5_lay 4 := ⟨by decide +kernel, by decide, by decide, by decide +kernel, t_96, t_90, by decide +kernel⟩
theorem t_97 : Cond.code (zMn mX5_isBidder) (zMb mX5_isBidder) (zMl mX5_isBidder) (zMr mX5_isBidder) ∈ zWd := z_tb 697 (by decide +kernel) (by decide +kernel)
theorem oX5_isBidder : zOm mX5_isBidder 2 := ⟨by decide +kernel, by decide, by decide, by decide +kernel, t_97, t_90, by decide +kernel⟩
theorem t_98 : Cond.code (zMn mX5_isSeat) (zMb mX5_isSeat) (zMl mX5_isSeat) (zMr mX5_isSeat) ∈ zWd := z_tb 666 (by decide +kernel) (by decide +kernel)
theorem oX5_isSeat : zOm mX5_isSeat 2 := ⟨by decide +kernel, by decide, by decide, by decide +kernel, t_98, t_90, by decide +kernel⟩
theorem t_99 : Cond.code (zMn mX5_seated) (zMb mX5_seated) (zMl mX5_seated) (zMr mX5_seated) ∈ zWd := z_tb 674 (by decide +kernel) (by decide +kernel)
theorem oX5_seated : zOm mX5_seated 3 := ⟨by decide +kernel, by decide, by decide, by decide +kernel, t_99, t_90, by decide +kernel⟩
theorem t_100 : Cond.code (zMn mX5_loud) (zMb mX5_loud) (zMl mX5_loud) (zMr mX5_loud) ∈ zWd := z_tb 725 (by decide +kernel) (by decide +kernel)
theorem oX5_loud : zOm mX5_loud 2 := ⟨by decide +kernel, by decide, by decide, by decide +kernel, t_100, t_90, by decide +kernel⟩
theorem t_101 : Cond.code (zMn mX5_asked) (zMb mX5_asked) (zMl mX5_asked) (zMr mX5_asked) ∈ zWd := z_tb 729 (by decide +kernel) (by decide +kernel)
theorem oX5_asked : zOm mX5_asked 1 := ⟨by decide +kernel, by decide, by decide, by decide +kernel, t_101, t_90, by decide +kernel⟩
theorem t_102 : Cond.code (zMn mX5_barred) (zMb mX5_barred) (zMl mX5_barred) (zMr mX5_barred) ∈ zWd := z_tb 721 (by decide +kernel) (by decide +kernel)
theorem oX5_barred : zOm mX5_barred 2 := ⟨by decide +kernel, by decide, by decide, by decide +kernel, t_102, t_90, by decide +kernel⟩
theorem t_103 : Cond.code (zMn mX5_goes) (zMb mX5_goes) (zMl mX5_goes) (zMr mX5_goes) ∈ zWd := z_tb 737 (by decide +kernel) (by decide +kernel)
theorem oX5_goes : zOm mX5_goes 2 := ⟨by decide +kernel, by decide, by decide, by decide +kernel, t_103, t_90, by decide +kernel⟩
theorem t_104 : Cond.code (zMn mX5_coughs) (zMb mX5_coughs) (zMl mX5_coughs) (zMr mX5_coughs) ∈ zWd := z_tb 717 (by decide +kernel) (by decide +kernel)
theorem oX5_coughs : zOm mX5_coughs 3 := ⟨by decide +kernel, by decide, by decide, by decide +kernel, t_104, t_90, by decide +kernel⟩
theorem t_105 : Cond.code (zMn mX5_coughsNext) (zMb mX5_coughsNext) (zMl mX5_coughsNext) (zMr mX5_coughsNext) ∈ zWd := z_tb 757 (by decide +kernel) (by decide +kernel)
theorem oX5_coughsNext : zOm mX5_coughsNext 2 := ⟨by decide +kernel, by decide, by decide, by decide +kernel, t_105, t_90, by decide +kernel⟩
theorem t_106 : Cond.code (zMn mX5_hammers) (zMb mX5_hammers) (zMl mX5_hammers) (zMr mX5_hammers) ∈ zWd := z_tb 761 (by decide +kernel) (by decide +kernel)
theorem oX5_hammers : zOm mX5_hammers 1 := ⟨by decide +kernel, by decide, by decide, by decide +kernel, t_106, t_90, by decide +kernel⟩
theorem t_107 : Cond.code (zMn mX5_beat) (zMb mX5_beat) (zMl mX5_beat) (zMr mX5_beat) ∈ zWd := z_tb 753 (by decide +kernel) (by decide +kernel)
theorem oX5_beat : zOm mX5_beat 1 := ⟨by decide +kernel, by decide, by decide, by decide +kernel, t_107, t_90, by decide +kernel⟩
theorem t_108 : Cond.code (zMn mX5_bidder) (zMb mX5_bidder) (zMl mX5_bidder) (zMr mX5_bidder) ∈ zWd := z_tb 663 (by decide +kernel) (by decide +kernel)
theorem oX5_bidder : zOm mX5_bidder 5 := ⟨by decide +kernel, by decide, by decide, by decide +kernel, t_108, t_90, by decide +kernel⟩
theorem t_109 : Cond.code (zMn mX5_catches) (zMb mX5_catches) (zMl mX5_catches) (zMr mX5_catches) ∈ zWd := z_tb 693 (by decide +kernel) (by decide +kernel)
theorem oX5_catches : zOm mX5_catches 3 := ⟨by decide +kernel, by decide, by decide, by decide +kernel, t_109, t_90, by decide +kernel⟩
theorem t_110 : Cond.code (zMn mX5_muffle) (zMb mX5_muffle) (zMl mX5_muffle) (zMr mX5_muffle) ∈ zWd := z_tb 701 (by decide +kernel) (by decide +kernel)
theorem oX5_muffle : zOm mX5_muffle 3 := ⟨by decide +kernel, by decide, by decide, by decide +kernel, t_110, t_90, by decide +kernel⟩
theorem t_111 : Cond.code (zMn mX5_lot) (zMb mX5_lot) (zMl mX5_lot) (zMr mX5_lot) ∈ zWd := z_tb 705 (by decide +kernel) (by decide +kernel)
theorem oX5_lot : zOm mX5_lot 3 := ⟨by decide +kernel, by decide, by decide, by decide +kernel, t_111, t_90, by decide +kernel⟩
theorem t_112 : Cond.code (zMn mX5_putUp) (zMb mX5_putUp) (zMl mX5_putUp) (zMr mX5_putUp) ∈ zWd := z_tb 709 (by decide +kernel) (by decide +kernel)
theorem oX5_putUp : zOm mX5_putUp 1 := ⟨by decide +kernel, by decide, by decide, by decide +kernel, t_112, t_90, by decide +kernel⟩
theorem t_113 : Cond.code (zMn mX5_cough) (zMb mX5_cough) (zMl mX5_cough) (zMr mX5_cough) ∈ zWd := z_tb 713 (by decide +kernel) (by decide +kernel)
theorem oX5_cough : zOm mX5_cough 2 := ⟨by decide +kernel, by decide, by decide, by decide +kernel, t_113, t_90, by decide +kernel⟩
theorem t_114 : Cond.code (zMn mX5_pass) (zMb mX5_pass) (zMl mX5_pass) (zMr mX5_pass) ∈ zWd := z_tb 749 (by decide +kernel) (by decide +kernel)
theorem oX5_pass : zOm mX5_pass 2 := ⟨by decide +kernel, by decide, by decide, by decide +kernel, t_114, t_90, by decide +kernel⟩
theorem t_115 : Cond.code (zMn mX5_gone) (zMb mX5_gone) (zMl mX5_gone) (zMr mX5_gone) ∈ zWd := z_tb 745 (by decide +kernel) (by decide +kernel)
theorem oX5_gone : zOm mX5_gone 1 := ⟨by decide +kernel, by decide, by decide, by decide +kernel, t_115, t_90, by decide +kernel⟩
theorem t_116 : Cond.code (zMn mX5_beats) (zMb mX5_beats) (zMl mX5_beats) (zMr mX5_beats) ∈ zWd := z_tb 741 (by decide +kernel) (by decide +kernel)
theorem oX5_beats : zOm mX5_beats 2 := ⟨by decide +kernel, by decide, by decide, by decide +kernel, t_116, t_90, by decide +kernel⟩
theorem t_117 : Cond.code (zMn mX5_catchesFrom) (zMb mX5_catchesFrom) (zMl mX5_catchesFrom) (zMr mX5_catchesFrom) ∈ zWd := z_tb 773 (by decide +kernel) (by decide +kernel)
theorem oX5_catchesFrom : zOm mX5_catchesFrom 3 := ⟨by decide +kernel, by decide, by decide, by decide +kernel, t_117, t_90, by decide +kernel⟩
theorem t_118 : Cond.code (zMn mX5_nightPasses) (zMb mX5_nightPasses) (zMl mX5_nightPasses) (zMr mX5_nightPasses) ∈ zWd := z_tb 769 (by decide +kernel) (by decide +kernel)
theorem oX5_nightPasses : zOm mX5_nightPasses 1 := ⟨by decide +kernel, by decide, by decide, by decide +kernel, t_118, t_90, by decide +kernel⟩
theorem t_119 : Cond.code (zMn mX5_colds) (zMb mX5_colds) (zMl mX5_colds) (zMr mX5_colds) ∈ zWd := z_tb 777 (by decide +kernel) (by decide +kernel)
theorem oX5_colds : zOm mX5_colds 1 := ⟨by decide +kernel, by decide, by decide, by decide +kernel, t_119, t_90, by decide +kernel⟩
theorem t_120 : Cond.code (zMn mX5_bits) (zMb mX5_bits) (zMl mX5_bits) (zMr mX5_bits) ∈ zWd := z_tb 780 (by decide +kernel) (by decide +kernel)
theorem oX5_bits : zOm mX5_bits 1 := ⟨by decide +kernel, by decide, by decide, by decide +kernel, t_120, t_90, by decide +kernel⟩
theorem t_121 : Cond.code (zMn mX5_night) (zMb mX5_night) (zMl mX5_night) (zMr mX5_night) ∈ zWd := z_tb 765 (by decide +kernel) (by decide +kernel)
theorem oX5_night : zOm mX5_night 1 := ⟨by decide +kernel, by decide, by decide, by decide +kernel, t_121, t_90, by decide +kernel⟩
theorem t_122 : Cond.code (zMn mX5_set) (zMb mX5_set) (zMl mX5_set) (zMr mX5_set) ∈ zWd := z_tb 784 (by decide +kernel) (by decide +kernel)
theorem oX5_set : zOm mX5_set 3 := ⟨by decide +kernel, by decide, by decide, by decide +kernel, t_122, t_90, by decide +kernel⟩
theorem t_123 : Cond.code (zMn mX5_bidderOf) (zMb mX5_bidderOf) (zMl mX5_bidderOf) (zMr mX5_bidderOf) ∈ zWd := z_tb 788 (by decide +kernel) (by decide +kernel)
theorem oX5_bidderOf : zOm mX5_bidderOf 3 := ⟨by decide +kernel, by decide, by decide, by decide +kernel, t_123, t_90, by decide +kernel⟩
theorem t_124 : Cond.code (zMn mX5_at) (zMb mX5_at) (zMl mX5_at) (zMr mX5_at) ∈ zWd := z_tb 792 (by decide +kernel) (by decide +kernel)
theorem oX5_at : zOm mX5_at 3 := ⟨by decide +kernel, by decide, by decide, by decide +kernel, t_124, t_90, by decide +kernel⟩
theorem t_125 : Cond.code (zMn mX5_up) (zMb mX5_up) (zMl mX5_up) (zMr mX5_up) ∈ zWd := z_tb 796 (by decide +kernel) (by decide +kernel)
theorem oX5_up : zOm mX5_up 2 := ⟨by decide +kernel, by decide, by decide, by decide +kernel, t_125, t_90, by decide +kernel⟩
theorem t_126 : Cond.code (zMn mX5_waiting) (zMb mX5_waiting) (zMl mX5_waiting) (zMr mX5_waiting) ∈ zWd := z_tb 800 (by decide +kernel) (by decide +kernel)
theorem oX5_waiting : zOm mX5_waiting 3 := ⟨by decide +kernel, by decide, by decide, by decide +kernel, t_126, t_90, by decide +kernel⟩
theorem t_127 : Cond.code (zMn mX5_book) (zMb mX5_book) (zMl mX5_book) (zMr mX5_book) ∈ zWd := z_tb 804 (by decide +kernel) (by decide +kernel)
theorem oX5_book : zOm mX5_book 3 := ⟨by decide +kernel, by decide, by decide, by decide +kernel, t_127, t_90, by decide +kernel⟩
theorem t_128 : Cond.code (zMn mX5_why) (zMb mX5_why) (zMl mX5_why) (zMr mX5_why) ∈ zWd := z_tb 808 (by decide +kernel) (by decide +kernel)
theorem oX5_why : zOm mX5_why 2 := ⟨by decide +kernel, by decide, by decide, by decide +kernel, t_128, t_90, by decide +kernel⟩
theorem t_129 : Cond.code (zMn mX5_ifBeats) (zMb mX5_ifBeats) (zMl mX5_ifBeats) (zMr mX5_ifBeats) ∈ zWd := z_tb 812 (by decide +kernel) (by decide +kernel)
theorem oX5_ifBeats : zOm mX5_ifBeats 3 := ⟨by decide +kernel, by decide, by decide, by decide +kernel, t_129, t_90, by decide +kernel⟩
theorem t_130 : Cond.code (zMn mX5_goneIn) (zMb mX5_goneIn) (zMl mX5_goneIn) (zMr mX5_goneIn) ∈ zWd := z_tb 819 (by decide +kernel) (by decide +kernel)
theorem oX5_goneIn : zOm mX5_goneIn 1 := ⟨by decide +kernel, by decide, by decide, by decide +kernel, t_130, t_90, by decide +kernel⟩
theorem t_131 : Cond.code (zMn mX5_coughing) (zMb mX5_coughing) (zMl mX5_coughing) (zMr mX5_coughing) ∈ zWd := z_tb 823 (by decide +kernel) (by decide +kernel)
theorem oX5_coughing : zOm mX5_coughing 1 := ⟨by decide +kernel, by decide, by decide, by decide +kernel, t_131, t_90, by decide +kernel⟩
theorem t_132 : Cond.code (zMn mX5_loudest) (zMb mX5_loudest) (zMl mX5_loudest) (zMr mX5_loudest) ∈ zWd := z_tb 827 (by decide +kernel) (by decide +kernel)
theorem oX5_loudest : zOm mX5_loudest 1 := ⟨by decide +kernel, by decide, by decide, by decide +kernel, t_132, t_90, by decide +kernel⟩
theorem t_133 : Cond.code (zMn mX5_ifNights) (zMb mX5_ifNights) (zMl mX5_ifNights) (zMr mX5_ifNights) ∈ zWd := z_tb 831 (by decide +kernel) (by decide +kernel)
theorem oX5_ifNights : zOm mX5_ifNights 2 := ⟨by decide +kernel, by decide, by decide, by decide +kernel, t_133, t_90, by decide +kernel⟩
theorem t_134 : Cond.code (zMn mX5_mean) (zMb mX5_mean) (zMl mX5_mean) (zMr mX5_mean) ∈ zWd := z_tb 835 (by decide +kernel) (by decide +kernel)
theorem oX5_mean : zOm mX5_mean 1 := ⟨by decide +kernel, by decide, by decide, by decide +kernel, t_134, t_90, by decide +kernel⟩
theorem t_135 : Cond.code (zMn mX5_byPurses) (zMb mX5_byPurses) (zMl mX5_byPurses) (zMr mX5_byPurses) ∈ zWd := z_tb 853 (by decide +kernel) (by decide +kernel)
theorem oX5_byPurses : zOm mX5_byPurses 1 := ⟨by decide +kernel, by decide, by decide, by decide +kernel, t_135, t_90, by decide +kernel⟩
theorem t_136 : Cond.code (zMn mX5_count) (zMb mX5_count) (zMl mX5_count) (zMr mX5_count) ∈ zWd := z_tb 849 (by decide +kernel) (by decide +kernel)
theorem oX5_count : zOm mX5_count 2 := ⟨by decide +kernel, by decide, by decide, by decide +kernel, t_136, t_90, by decide +kernel⟩
theorem t_137 : Cond.code (zMn mX5_undo) (zMb mX5_undo) (zMl mX5_undo) (zMr mX5_undo) ∈ zWd := z_tb 857 (by decide +kernel) (by decide +kernel)
theorem oX5_undo : zOm mX5_undo 1 := ⟨by decide +kernel, by decide, by decide, by decide +kernel, t_137, t_90, by decide +kernel⟩
theorem t_138 : Cond.code (zMn mX5_type) (zMb mX5_type) (zMl mX5_type) (zMr mX5_type) ∈ zWd := z_tb 861 (by decide +kernel) (by decide +kernel)
theorem oX5_type : zOm mX5_type 2 := ⟨by decide +kernel, by decide, by decide, by decide +kernel, t_138, t_90, by decide +kernel⟩
theorem t_139 : Cond.code (zMn mX5_clearText) (zMb mX5_clearText) (zMl mX5_clearText) (zMr mX5_clearText) ∈ zWd := z_tb 865 (by decide +kernel) (by decide +kernel)
theorem oX5_clearText : zOm mX5_clearText 1 := ⟨by decide +kernel, by decide, by decide, by decide +kernel, t_139, t_90, by decide +kernel⟩
theorem t_140 : Cond.code (zMn mX5_isAt) (zMb mX5_isAt) (zMl mX5_isAt) (zMr mX5_isAt) ∈ zWd := z_tb 881 (by decide +kernel) (by decide +kernel)
theorem oX5_isAt : zOm mX5_isAt 3 := ⟨by decide +kernel, by decide, by decide, by decide +kernel, t_140, t_90, by decide +kernel⟩
theorem t_141 : Cond.code (zMn mX5_sign) (zMb mX5_sign) (zMl mX5_sign) (zMr mX5_sign) ∈ zWd := z_tb 892 (by decide +kernel) (by decide +kernel)
theorem oX5_sign : zOm mX5_sign 2 := ⟨by decide +kernel, by decide, by decide, by decide +kernel, t_141, t_90, by decide +kernel⟩
theorem t_142 : Cond.code (zMn mX5_numbered) (zMb mX5_numbered) (zMl mX5_numbered) (zMr mX5_numbered) ∈ zWd := z_tb 888 (by decide +kernel) (by decide +kernel)
theorem oX5_numbered : zOm mX5_numbered 2 := ⟨by decide +kernel, by decide, by decide, by decide +kernel, t_142, t_90, by decide +kernel⟩
theorem t_143 : Cond.code (zMn mX5_numbersOf) (zMb mX5_numbersOf) (zMl mX5_numbersOf) (zMr mX5_numbersOf) ∈ zWd := z_tb 884 (by decide +kernel) (by decide +kernel)
theorem oX5_numbersOf : zOm mX5_numbersOf 1 := ⟨by decide +kernel, by decide, by decide, by decide +kernel, t_143, t_90, by decide +kernel⟩
theorem t_144 : Cond.code (zMn mX5_parses) (zMb mX5_parses) (zMl mX5_parses) (zMr mX5_parses) ∈ zWd := z_tb 877 (by decide +kernel) (by decide +kernel)
theorem oX5_parses : zOm mX5_parses 1 := ⟨by decide +kernel, by decide, by decide, by decide +kernel, t_144, t_90, by decide +kernel⟩
theorem t_145 : Cond.code (zMn mX5_does) (zMb mX5_does) (zMl mX5_does) (zMr mX5_does) ∈ zWd := z_tb 896 (by decide +kernel) (by decide +kernel)
theorem oX5_does : zOm mX5_does 1 := ⟨by decide +kernel, by decide, by decide, by decide +kernel, t_145, t_90, by decide +kernel⟩
theorem t_146 : Cond.code (zMn mX5_plays) (zMb mX5_plays) (zMl mX5_plays) (zMr mX5_plays) ∈ zWd := z_tb 873 (by decide +kernel) (by decide +kernel)
theorem oX5_plays : zOm mX5_plays 1 := ⟨by decide +kernel, by decide, by decide, by decide +kernel, t_146, t_90, by decide +kernel⟩
theorem t_147 : Cond.code (zMn mX5_fault) (zMb mX5_fault) (zMl mX5_fault) (zMr mX5_fault) ∈ zWd := z_tb 869 (by decide +kernel) (by decide +kernel)
theorem oX5_fault : zOm mX5_fault 2 := ⟨by decide +kernel, by decide, by decide, by decide +kernel, t_147, t_90, by decide +kernel⟩
theorem t_148 : Cond.code (zMn mX5_play) (zMb mX5_play) (zMl mX5_play) (zMr mX5_play) ∈ zWd := z_tb 907 (by decide +kernel) (by decide +kernel)
theorem oX5_play : zOm mX5_play 1 := ⟨by decide +kernel, by decide, by decide, by decide +kernel, t_148, t_90, by decide +kernel⟩
theorem t_149 : Cond.code (zMn mJxf58ca_isNaN_12338) (zMb mJxf58ca_isNaN_12338) (zMl mJxf58ca_isNaN_12338) (zMr mJxf58ca_isNaN_12338) ∈ zWd := z_tb 841 (by decide +kernel) (by decide +kernel)
theorem t_150 : Cond.initialized "java/lang/Float" ∈ zWd := z_tb 10 (by decide +kernel) (by decide +kernel)
theorem oJxf58ca_isNaN_12338 : zOm mJxf58ca_isNaN_12338 1 := ⟨by decide +kernel, by decide, by decide, by decide +kernel, t_149, t_150, by decide +kernel⟩
theorem t_151 : Cond.code (zMn mJxf58ca_floatToIntBits_5c35a) (zMb mJxf58ca_floatToIntBits_5c35a) (zMl mJxf58ca_floatToIntBits_5c35a) (zMr mJxf58ca_floatToIntBits_5c35a) ∈ zWd := z_tb 838 (by decide +kernel) (by decide +kernel)
theorem oJxf58ca_floatToIntBits_5c35a : zOm mJxf58ca_floatToIntBits_5c35a 1 := ⟨by decide +kernel, by decide, by decide, by decide +kernel, t_151, t_150, by decide +kernel⟩
theorem t_152 : Cond.code (zMn mJ6_bitCount_0f7a4) (zMb mJ6_bitCount_0f7a4) (zMl mJ6_bitCount_0f7a4) (zMr mJ6_bitCount_0f7a4) ∈ zWd := z_tb 432 (by decide +kernel) (by decide +kernel)
theorem t_153 : Cond.initialized "java/lang/Integer" ∈ zWd := z_tb 9 (by decide +kernel) (by decide +kernel)
theorem oJ6_bitCount_0f7a4 : zOm mJ6_bitCount_0f7a4 1 := ⟨by decide +kernel, by decide, by decide, by decide +kernel, t_152, t_153, by decide +kernel⟩
theorem t_154 : Cond.fieldLink "CoughBids$Bidder" 9 "CoughBids$Bidder" "row" "I" ∈ zWd := z_tb 33 (by decide +kernel) (by decide +kernel)
theorem fX1_9 : zLF "CoughBids$Bidder" 9 1 0 .int false := ⟨RX1, TX1, 11, tyX1, rfl, by decide, rfl, by decide, Or.inl t_154, uX1, tyX1_ok, nmX1, rfl, rfl, rfl⟩
theorem t_155 : Cond.fieldLink "CoughBids$Bidder" 15 "CoughBids$Bidder" "seat" "I" ∈ zWd := z_tb 35 (by decide +kernel) (by decide +kernel)
theorem fX1_15 : zLF "CoughBids$Bidder" 15 1 1 .int false := ⟨RX1, TX1, 11, tyX1, rfl, by decide, rfl, by decide, Or.inl t_155, uX1, tyX1_ok, nmX1, rfl, rfl, rfl⟩
theorem t_156 : Cond.fieldLink "CoughBids$Bidder" 18 "CoughBids$Bidder" "purse" "I" ∈ zWd := z_tb 37 (by decide +kernel) (by decide +kernel)
theorem fX1_18 : zLF "CoughBids$Bidder" 18 1 2 .int false := ⟨RX1, TX1, 11, tyX1, rfl, by decide, rfl, by decide, Or.inl t_156, uX1, tyX1_ok, nmX1, rfl, rfl, rfl⟩
theorem t_157 : Cond.fieldLink "CoughBids$Bidder" 21 "CoughBids$Bidder" "purseAtFirst" "I" ∈ zWd := z_tb 39 (by decide +kernel) (by decide +kernel)
theorem fX1_21 : zLF "CoughBids$Bidder" 21 1 3 .int false := ⟨RX1, TX1, 11, tyX1, rfl, by decide, rfl, by decide, Or.inl t_157, uX1, tyX1_ok, nmX1, rfl, rfl, rfl⟩
theorem t_158 : Cond.fieldLink "CoughBids$Bidder" 24 "CoughBids$Bidder" "strength" "I" ∈ zWd := z_tb 41 (by decide +kernel) (by decide +kernel)
theorem fX1_24 : zLF "CoughBids$Bidder" 24 1 4 .int false := ⟨RX1, TX1, 11, tyX1, rfl, by decide, rfl, by decide, Or.inl t_158, uX1, tyX1_ok, nmX1, rfl, rfl, rfl⟩
theorem t_159 : Cond.fieldLink "CoughBids$Bidder" 27 "CoughBids$Bidder" "cold" "I" ∈ zWd := z_tb 43 (by decide +kernel) (by decide +kernel)
theorem fX1_27 : zLF "CoughBids$Bidder" 27 1 5 .int false := ⟨RX1, TX1, 11, tyX1, rfl, by decide, rfl, by decide, Or.inl t_159, uX1, tyX1_ok, nmX1, rfl, rfl, rfl⟩
theorem t_160 : Cond.fieldLink "CoughBids$Bidder" 30 "CoughBids$Bidder" "muffler" "I" ∈ zWd := z_tb 45 (by decide +kernel) (by decide +kernel)
theorem fX1_30 : zLF "CoughBids$Bidder" 30 1 6 .int false := ⟨RX1, TX1, 11, tyX1, rfl, by decide, rfl, by decide, Or.inl t_160, uX1, tyX1_ok, nmX1, rfl, rfl, rfl⟩
theorem t_161 : Cond.fieldLink "CoughBids$Bidder" 33 "CoughBids$Bidder" "coughs" "I" ∈ zWd := z_tb 47 (by decide +kernel) (by decide +kernel)
theorem fX1_33 : zLF "CoughBids$Bidder" 33 1 7 .int false := ⟨RX1, TX1, 11, tyX1, rfl, by decide, rfl, by decide, Or.inl t_161, uX1, tyX1_ok, nmX1, rfl, rfl, rfl⟩
theorem t_162 : Cond.fieldLink "CoughBids$Bidder" 36 "CoughBids$Bidder" "bids" "I" ∈ zWd := z_tb 49 (by decide +kernel) (by decide +kernel)
theorem fX1_36 : zLF "CoughBids$Bidder" 36 1 8 .int false := ⟨RX1, TX1, 11, tyX1, rfl, by decide, rfl, by decide, Or.inl t_162, uX1, tyX1_ok, nmX1, rfl, rfl, rfl⟩
theorem t_163 : Cond.fieldLink "CoughBids$Bidder" 39 "CoughBids$Bidder" "lotsBought" "I" ∈ zWd := z_tb 51 (by decide +kernel) (by decide +kernel)
theorem fX1_39 : zLF "CoughBids$Bidder" 39 1 9 .int false := ⟨RX1, TX1, 11, tyX1, rfl, by decide, rfl, by decide, Or.inl t_163, uX1, tyX1_ok, nmX1, rfl, rfl, rfl⟩
theorem t_164 : Cond.fieldLink "CoughBids$Bidder" 42 "CoughBids$Bidder" "coinsPaid" "I" ∈ zWd := z_tb 52 (by decide +kernel) (by decide +kernel)
theorem fX1_42 : zLF "CoughBids$Bidder" 42 1 10 .int false := ⟨RX1, TX1, 11, tyX1, rfl, by decide, rfl, by decide, Or.inl t_164, uX1, tyX1_ok, nmX1, rfl, rfl, rfl⟩
theorem t_165 : Cond.fieldLink "CoughBids$Lot" 9 "CoughBids$Lot" "reserve" "I" ∈ zWd := z_tb 83 (by decide +kernel) (by decide +kernel)
theorem fX2_9 : zLF "CoughBids$Lot" 9 2 0 .int false := ⟨RX2, TX2, 10, tyX2, rfl, by decide, rfl, by decide, Or.inl t_165, uX2, tyX2_ok, nmX2, rfl, rfl, rfl⟩
theorem t_166 : Cond.fieldLink "CoughBids$Lot" 15 "CoughBids$Lot" "step" "I" ∈ zWd := z_tb 86 (by decide +kernel) (by decide +kernel)
theorem fX2_15 : zLF "CoughBids$Lot" 15 2 1 .int false := ⟨RX2, TX2, 10, tyX2, rfl, by decide, rfl, by decide, Or.inl t_166, uX2, tyX2_ok, nmX2, rfl, rfl, rfl⟩
theorem t_167 : Cond.fieldLink "CoughBids$Lot" 18 "CoughBids$Lot" "latestBid" "I" ∈ zWd := z_tb 88 (by decide +kernel) (by decide +kernel)
theorem fX2_18 : zLF "CoughBids$Lot" 18 2 2 .int false := ⟨RX2, TX2, 10, tyX2, rfl, by decide, rfl, by decide, Or.inl t_167, uX2, tyX2_ok, nmX2, rfl, rfl, rfl⟩
theorem t_168 : Cond.fieldLink "CoughBids$Lot" 21 "CoughBids$Lot" "latestBidder" "I" ∈ zWd := z_tb 90 (by decide +kernel) (by decide +kernel)
theorem fX2_21 : zLF "CoughBids$Lot" 21 2 3 .int false := ⟨RX2, TX2, 10, tyX2, rfl, by decide, rfl, by decide, Or.inl t_168, uX2, tyX2_ok, nmX2, rfl, rfl, rfl⟩
theorem t_169 : Cond.fieldLink "CoughBids$Lot" 24 "CoughBids$Lot" "isLatestForCold" "Z" ∈ zWd := z_tb 92 (by decide +kernel) (by decide +kernel)
theorem fX2_24 : zLF "CoughBids$Lot" 24 2 4 .boolean false := ⟨RX2, TX2, 10, tyX2, rfl, by decide, rfl, by decide, Or.inl t_169, uX2, tyX2_ok, nmX2, rfl, rfl, rfl⟩
theorem t_170 : Cond.fieldLink "CoughBids$Lot" 28 "CoughBids$Lot" "hasBidSinceBeat" "Z" ∈ zWd := z_tb 94 (by decide +kernel) (by decide +kernel)
theorem fX2_28 : zLF "CoughBids$Lot" 28 2 5 .boolean false := ⟨RX2, TX2, 10, tyX2, rfl, by decide, rfl, by decide, Or.inl t_170, uX2, tyX2_ok, nmX2, rfl, rfl, rfl⟩
theorem t_171 : Cond.fieldLink "CoughBids$Lot" 31 "CoughBids$Lot" "bids" "I" ∈ zWd := z_tb 96 (by decide +kernel) (by decide +kernel)
theorem fX2_31 : zLF "CoughBids$Lot" 31 2 6 .int false := ⟨RX2, TX2, 10, tyX2, rfl, by decide, rfl, by decide, Or.inl t_171, uX2, tyX2_ok, nmX2, rfl, rfl, rfl⟩
theorem t_172 : Cond.fieldLink "CoughBids$Lot" 34 "CoughBids$Lot" "doubts" "I" ∈ zWd := z_tb 97 (by decide +kernel) (by decide +kernel)
theorem fX2_34 : zLF "CoughBids$Lot" 34 2 7 .int false := ⟨RX2, TX2, 10, tyX2, rfl, by decide, rfl, by decide, Or.inl t_172, uX2, tyX2_ok, nmX2, rfl, rfl, rfl⟩
theorem t_173 : Cond.fieldLink "CoughBids$Lot" 37 "CoughBids$Lot" "hush" "I" ∈ zWd := z_tb 99 (by decide +kernel) (by decide +kernel)
theorem fX2_37 : zLF "CoughBids$Lot" 37 2 8 .int false := ⟨RX2, TX2, 10, tyX2, rfl, by decide, rfl, by decide, Or.inl t_173, uX2, tyX2_ok, nmX2, rfl, rfl, rfl⟩
theorem t_174 : Cond.fieldLink "CoughBids$Lot" 40 "CoughBids$Lot" "fate" "I" ∈ zWd := z_tb 101 (by decide +kernel) (by decide +kernel)
theorem fX2_40 : zLF "CoughBids$Lot" 40 2 9 .int false := ⟨RX2, TX2, 10, tyX2, rfl, by decide, rfl, by decide, Or.inl t_174, uX2, tyX2_ok, nmX2, rfl, rfl, rfl⟩
theorem t_175 : Cond.fieldLink "CoughBids$Auction" 13 "CoughBids$Auction" "bidders" "[LCoughBids$Bidder;" ∈ zWd := z_tb 124 (by decide +kernel) (by decide +kernel)
theorem fX0_13 : zLF "CoughBids$Auction" 13 0 0 (.array (.object "CoughBids$Bidder")) true := ⟨RX0, TX0, 17, tyX0, rfl, by decide, rfl, by decide, Or.inl t_175, uX0, tyX0_ok, nmX0, rfl, rfl, rfl⟩
theorem fX0_13F : ∃ T : u_T, ∃ N, vwCl[0]? = some ("CoughBids$Auction", T, N) ∧ Cond.fieldLink "CoughBids$Auction" 13 (T 0).1 (T 0).2.1 (T 0).2.2.1 ∈ zWd := ⟨TX0, 17, rfl, t_175⟩
theorem t_176 : Cond.fieldLink "CoughBids$Auction" 20 "CoughBids$Auction" "queue" "[LCoughBids$Lot;" ∈ zWd := z_tb 126 (by decide +kernel) (by decide +kernel)
theorem fX0_20 : zLF "CoughBids$Auction" 20 0 1 (.array (.object "CoughBids$Lot")) true := ⟨RX0, TX0, 17, tyX0, rfl, by decide, rfl, by decide, Or.inl t_176, uX0, tyX0_ok, nmX0, rfl, rfl, rfl⟩
theorem fX0_20F : ∃ T : u_T, ∃ N, vwCl[0]? = some ("CoughBids$Auction", T, N) ∧ Cond.fieldLink "CoughBids$Auction" 20 (T 1).1 (T 1).2.1 (T 1).2.2.1 ∈ zWd := ⟨TX0, 17, rfl, t_176⟩
theorem t_177 : Cond.fieldLink "CoughBids$Auction" 25 "CoughBids$Auction" "gone" "[LCoughBids$Lot;" ∈ zWd := z_tb 128 (by decide +kernel) (by decide +kernel)
theorem fX0_25 : zLF "CoughBids$Auction" 25 0 2 (.array (.object "CoughBids$Lot")) true := ⟨RX0, TX0, 17, tyX0, rfl, by decide, rfl, by decide, Or.inl t_177, uX0, tyX0_ok, nmX0, rfl, rfl, rfl⟩
theorem fX0_25F : ∃ T : u_T, ∃ N, vwCl[0]? = some ("CoughBids$Auction", T, N) ∧ Cond.fieldLink "CoughBids$Auction" 25 (T 2).1 (T 2).2.1 (T 2).2.2.1 ∈ zWd := ⟨TX0, 17, rfl, t_177⟩
theorem t_178 : Cond.fieldLink "CoughBids$Auction" 28 "CoughBids$Auction" "fates" "[I" ∈ zWd := z_tb 130 (by decide +kernel) (by decide +kernel)
theorem fX0_28 : zLF "CoughBids$Auction" 28 0 3 (.array .int) true := ⟨RX0, TX0, 17, tyX0, rfl, by decide, rfl, by decide, Or.inl t_178, uX0, tyX0_ok, nmX0, rfl, rfl, rfl⟩
theorem fX0_28F : ∃ T : u_T, ∃ N, vwCl[0]? = some ("CoughBids$Auction", T, N) ∧ Cond.fieldLink "CoughBids$Auction" 28 (T 3).1 (T 3).2.1 (T 3).2.2.1 ∈ zWd := ⟨TX0, 17, rfl, t_178⟩
theorem t_179 : Cond.fieldLink "CoughBids$Auction" 32 "CoughBids$Auction" "settings" "[I" ∈ zWd := z_tb 132 (by decide +kernel) (by decide +kernel)
theorem fX0_32 : zLF "CoughBids$Auction" 32 0 4 (.array .int) true := ⟨RX0, TX0, 17, tyX0, rfl, by decide, rfl, by decide, Or.inl t_179, uX0, tyX0_ok, nmX0, rfl, rfl, rfl⟩
theorem fX0_32F : ∃ T : u_T, ∃ N, vwCl[0]? = some ("CoughBids$Auction", T, N) ∧ Cond.fieldLink "CoughBids$Auction" 32 (T 4).1 (T 4).2.1 (T 4).2.2.1 ∈ zWd := ⟨TX0, 17, rfl, t_179⟩
theorem t_180 : Cond.fieldLink "CoughBids$Auction" 39 "CoughBids$Auction" "bidderCount" "I" ∈ zWd := z_tb 133 (by decide +kernel) (by decide +kernel)
theorem fX0_39 : zLF "CoughBids$Auction" 39 0 5 .int false := ⟨RX0, TX0, 17, tyX0, rfl, by decide, rfl, by decide, Or.inl t_180, uX0, tyX0_ok, nmX0, rfl, rfl, rfl⟩
theorem t_181 : Cond.fieldLink "CoughBids$Auction" 47 "CoughBids$Auction" "waitingCount" "I" ∈ zWd := z_tb 135 (by decide +kernel) (by decide +kernel)
theorem fX0_47 : zLF "CoughBids$Auction" 47 0 6 .int false := ⟨RX0, TX0, 17, tyX0, rfl, by decide, rfl, by decide, Or.inl t_181, uX0, tyX0_ok, nmX0, rfl, rfl, rfl⟩
theorem t_182 : Cond.fieldLink "CoughBids$Auction" 53 "CoughBids$Auction" "goneCount" "I" ∈ zWd := z_tb 137 (by decide +kernel) (by decide +kernel)
theorem fX0_53 : zLF "CoughBids$Auction" 53 0 7 .int false := ⟨RX0, TX0, 17, tyX0, rfl, by decide, rfl, by decide, Or.inl t_182, uX0, tyX0_ok, nmX0, rfl, rfl, rfl⟩
theorem t_183 : Cond.fieldLink "CoughBids$Auction" 56 "CoughBids$Auction" "isUp" "Z" ∈ zWd := z_tb 139 (by decide +kernel) (by decide +kernel)
theorem fX0_56 : zLF "CoughBids$Auction" 56 0 8 .boolean false := ⟨RX0, TX0, 17, tyX0, rfl, by decide, rfl, by decide, Or.inl t_183, uX0, tyX0_ok, nmX0, rfl, rfl, rfl⟩
theorem t_184 : Cond.fieldLink "CoughBids$Auction" 35 "CoughBids$Auction" "raised" "LCoughBids$Lot;" ∈ zWd := z_tb 141 (by decide +kernel) (by decide +kernel)
theorem fX0_35 : zLF "CoughBids$Auction" 35 0 9 (.object "CoughBids$Lot") false := ⟨RX0, TX0, 17, tyX0, rfl, by decide, rfl, by decide, Or.inl t_184, uX0, tyX0_ok, nmX0, rfl, rfl, rfl⟩
theorem t_185 : Cond.fieldLink "CoughBids$Auction" 66 "CoughBids$Auction" "beatsPassed" "I" ∈ zWd := z_tb 143 (by decide +kernel) (by decide +kernel)
theorem fX0_66 : zLF "CoughBids$Auction" 66 0 10 .int false := ⟨RX0, TX0, 17, tyX0, rfl, by decide, rfl, by decide, Or.inl t_185, uX0, tyX0_ok, nmX0, rfl, rfl, rfl⟩
theorem t_186 : Cond.fieldLink "CoughBids$Auction" 69 "CoughBids$Auction" "nightsPassed" "I" ∈ zWd := z_tb 144 (by decide +kernel) (by decide +kernel)
theorem fX0_69 : zLF "CoughBids$Auction" 69 0 11 .int false := ⟨RX0, TX0, 17, tyX0, rfl, by decide, rfl, by decide, Or.inl t_186, uX0, tyX0_ok, nmX0, rfl, rfl, rfl⟩
theorem t_187 : Cond.fieldLink "CoughBids$Auction" 72 "CoughBids$Auction" "lotsCame" "I" ∈ zWd := z_tb 145 (by decide +kernel) (by decide +kernel)
theorem fX0_72 : zLF "CoughBids$Auction" 72 0 12 .int false := ⟨RX0, TX0, 17, tyX0, rfl, by decide, rfl, by decide, Or.inl t_187, uX0, tyX0_ok, nmX0, rfl, rfl, rfl⟩
theorem t_188 : Cond.fieldLink "CoughBids$Auction" 75 "CoughBids$Auction" "coinsPaid" "I" ∈ zWd := z_tb 146 (by decide +kernel) (by decide +kernel)
theorem fX0_75 : zLF "CoughBids$Auction" 75 0 13 .int false := ⟨RX0, TX0, 17, tyX0, rfl, by decide, rfl, by decide, Or.inl t_188, uX0, tyX0_ok, nmX0, rfl, rfl, rfl⟩
theorem t_189 : Cond.fieldLink "CoughBids$Auction" 78 "CoughBids$Auction" "coughs" "I" ∈ zWd := z_tb 148 (by decide +kernel) (by decide +kernel)
theorem fX0_78 : zLF "CoughBids$Auction" 78 0 14 .int false := ⟨RX0, TX0, 17, tyX0, rfl, by decide, rfl, by decide, Or.inl t_189, uX0, tyX0_ok, nmX0, rfl, rfl, rfl⟩
theorem t_190 : Cond.fieldLink "CoughBids$Auction" 81 "CoughBids$Auction" "bids" "I" ∈ zWd := z_tb 149 (by decide +kernel) (by decide +kernel)
theorem fX0_81 : zLF "CoughBids$Auction" 81 0 15 .int false := ⟨RX0, TX0, 17, tyX0, rfl, by decide, rfl, by decide, Or.inl t_190, uX0, tyX0_ok, nmX0, rfl, rfl, rfl⟩
theorem t_191 : Cond.fieldLink "CoughBids$Auction" 84 "CoughBids$Auction" "doubts" "I" ∈ zWd := z_tb 151 (by decide +kernel) (by decide +kernel)
theorem fX0_84 : zLF "CoughBids$Auction" 84 0 16 .int false := ⟨RX0, TX0, 17, tyX0, rfl, by decide, rfl, by decide, Or.inl t_191, uX0, tyX0_ok, nmX0, rfl, rfl, rfl⟩
theorem t_192 : Cond.fieldLink "CoughBids$Script" 11 "CoughBids$Script" "characters" "[C" ∈ zWd := z_tb 195 (by decide +kernel) (by decide +kernel)
theorem fX3_11 : zLF "CoughBids$Script" 11 3 0 (.array .char) true := ⟨RX3, TX3, 9, tyX3, rfl, by decide, rfl, by decide, Or.inl t_192, uX3, tyX3_ok, nmX3, rfl, rfl, rfl⟩
theorem fX3_11F : ∃ T : u_T, ∃ N, vwCl[3]? = some ("CoughBids$Script", T, N) ∧ Cond.fieldLink "CoughBids$Script" 11 (T 0).1 (T 0).2.1 (T 0).2.2.1 ∈ zWd := ⟨TX3, 9, rfl, t_192⟩
theorem t_193 : Cond.fieldLink "CoughBids$Script" 15 "CoughBids$Script" "numbers" "[I" ∈ zWd := z_tb 196 (by decide +kernel) (by decide +kernel)
theorem fX3_15 : zLF "CoughBids$Script" 15 3 1 (.array .int) true := ⟨RX3, TX3, 9, tyX3, rfl, by decide, rfl, by decide, Or.inl t_193, uX3, tyX3_ok, nmX3, rfl, rfl, rfl⟩
theorem fX3_15F : ∃ T : u_T, ∃ N, vwCl[3]? = some ("CoughBids$Script", T, N) ∧ Cond.fieldLink "CoughBids$Script" 15 (T 1).1 (T 1).2.1 (T 1).2.2.1 ∈ zWd := ⟨TX3, 9, rfl, t_193⟩
theorem t_194 : Cond.fieldLink "CoughBids$Script" 28 "CoughBids$Script" "length" "I" ∈ zWd := z_tb 197 (by decide +kernel) (by decide +kernel)
theorem fX3_28 : zLF "CoughBids$Script" 28 3 2 .int false := ⟨RX3, TX3, 9, tyX3, rfl, by decide, rfl, by decide, Or.inl t_194, uX3, tyX3_ok, nmX3, rfl, rfl, rfl⟩
theorem t_195 : Cond.fieldLink "CoughBids$Script" 49 "CoughBids$Script" "order" "C" ∈ zWd := z_tb 199 (by decide +kernel) (by decide +kernel)
theorem fX3_49 : zLF "CoughBids$Script" 49 3 3 .char false := ⟨RX3, TX3, 9, tyX3, rfl, by decide, rfl, by decide, Or.inl t_195, uX3, tyX3_ok, nmX3, rfl, rfl, rfl⟩
theorem t_196 : Cond.fieldLink "CoughBids$Script" 32 "CoughBids$Script" "place" "I" ∈ zWd := z_tb 200 (by decide +kernel) (by decide +kernel)
theorem fX3_32 : zLF "CoughBids$Script" 32 3 4 .int false := ⟨RX3, TX3, 9, tyX3, rfl, by decide, rfl, by decide, Or.inl t_196, uX3, tyX3_ok, nmX3, rfl, rfl, rfl⟩
theorem t_197 : Cond.fieldLink "CoughBids$Script" 35 "CoughBids$Script" "ordersDone" "I" ∈ zWd := z_tb 201 (by decide +kernel) (by decide +kernel)
theorem fX3_35 : zLF "CoughBids$Script" 35 3 5 .int false := ⟨RX3, TX3, 9, tyX3, rfl, by decide, rfl, by decide, Or.inl t_197, uX3, tyX3_ok, nmX3, rfl, rfl, rfl⟩
theorem t_198 : Cond.fieldLink "CoughBids$Script" 19 "CoughBids$Script" "faultPosition" "I" ∈ zWd := z_tb 203 (by decide +kernel) (by decide +kernel)
theorem fX3_19 : zLF "CoughBids$Script" 19 3 6 .int false := ⟨RX3, TX3, 9, tyX3, rfl, by decide, rfl, by decide, Or.inl t_198, uX3, tyX3_ok, nmX3, rfl, rfl, rfl⟩
theorem t_199 : Cond.fieldLink "CoughBids$Script" 59 "CoughBids$Script" "faultReason" "I" ∈ zWd := z_tb 205 (by decide +kernel) (by decide +kernel)
theorem fX3_59 : zLF "CoughBids$Script" 59 3 7 .int false := ⟨RX3, TX3, 9, tyX3, rfl, by decide, rfl, by decide, Or.inl t_199, uX3, tyX3_ok, nmX3, rfl, rfl, rfl⟩
theorem t_200 : Cond.fieldLink "CoughBids$Script" 62 "CoughBids$Script" "faultCause" "I" ∈ zWd := z_tb 207 (by decide +kernel) (by decide +kernel)
theorem fX3_62 : zLF "CoughBids$Script" 62 3 8 .int false := ⟨RX3, TX3, 9, tyX3, rfl, by decide, rfl, by decide, Or.inl t_200, uX3, tyX3_ok, nmX3, rfl, rfl, rfl⟩
theorem t_201 : Cond.fieldLink "CoughBids" 11 "CoughBids" "history" "[LCoughBids$Auction;" ∈ zWd := z_tb 229 (by decide +kernel) (by decide +kernel)
theorem fX4_11 : zLF "CoughBids" 11 4 0 (.array (.object "CoughBids$Auction")) true := ⟨RX4, TX4, 5, tyX4, rfl, by decide, rfl, by decide, Or.inl t_201, uX4, tyX4_ok, nmX4, rfl, rfl, rfl⟩
theorem fX4_11F : ∃ T : u_T, ∃ N, vwCl[4]? = some ("CoughBids", T, N) ∧ Cond.fieldLink "CoughBids" 11 (T 0).1 (T 0).2.1 (T 0).2.2.1 ∈ zWd := ⟨TX4, 5, rfl, t_201⟩
theorem t_202 : Cond.fieldLink "CoughBids" 19 "CoughBids" "script" "LCoughBids$Script;" ∈ zWd := z_tb 230 (by decide +kernel) (by decide +kernel)
theorem fX4_19 : zLF "CoughBids" 19 4 1 (.object "CoughBids$Script") true := ⟨RX4, TX4, 5, tyX4, rfl, by decide, rfl, by decide, Or.inl t_202, uX4, tyX4_ok, nmX4, rfl, rfl, rfl⟩
theorem fX4_19F : ∃ T : u_T, ∃ N, vwCl[4]? = some ("CoughBids", T, N) ∧ Cond.fieldLink "CoughBids" 19 (T 1).1 (T 1).2.1 (T 1).2.2.1 ∈ zWd := ⟨TX4, 5, rfl, t_202⟩
theorem t_203 : Cond.fieldLink "CoughBids" 23 "CoughBids" "recorded" "I" ∈ zWd := z_tb 231 (by decide +kernel) (by decide +kernel)
theorem fX4_23 : zLF "CoughBids" 23 4 2 .int false := ⟨RX4, TX4, 5, tyX4, rfl, by decide, rfl, by decide, Or.inl t_203, uX4, tyX4_ok, nmX4, rfl, rfl, rfl⟩
theorem t_204 : Cond.fieldLink "CoughBids" 27 "CoughBids" "now" "LCoughBids$Auction;" ∈ zWd := z_tb 232 (by decide +kernel) (by decide +kernel)
theorem fX4_27 : zLF "CoughBids" 27 4 3 (.object "CoughBids$Auction") false := ⟨RX4, TX4, 5, tyX4, rfl, by decide, rfl, by decide, Or.inl t_204, uX4, tyX4_ok, nmX4, rfl, rfl, rfl⟩
theorem t_205 : Cond.fieldLink "CoughBids" 31 "CoughBids" "trial" "LCoughBids$Auction;" ∈ zWd := z_tb 233 (by decide +kernel) (by decide +kernel)
theorem fX4_31 : zLF "CoughBids" 31 4 4 (.object "CoughBids$Auction") false := ⟨RX4, TX4, 5, tyX4, rfl, by decide, rfl, by decide, Or.inl t_205, uX4, tyX4_ok, nmX4, rfl, rfl, rfl⟩
theorem t_206 : Cond.fieldLink "CoughBidsModel" 7 "CoughBidsModel" "s" "[I" ∈ zWd := z_tb 614 (by decide +kernel) (by decide +kernel)
theorem fX5_7 : zLF "CoughBidsModel" 7 5 0 (.array .int) true := ⟨RX5, TX5, 15, tyX5, rfl, by decide, rfl, by decide, Or.inl t_206, uX5, tyX5_ok, nmX5, rfl, rfl, rfl⟩
theorem fX5_7F : ∃ T : u_T, ∃ N, vwCl[5]? = some ("CoughBidsModel", T, N) ∧ Cond.fieldLink "CoughBidsModel" 7 (T 0).1 (T 0).2.1 (T 0).2.2.1 ∈ zWd := ⟨TX5, 15, rfl, t_206⟩
theorem t_207 : Cond.fieldLink "CoughBidsModel" 13 "CoughBidsModel" "past" "[I" ∈ zWd := z_tb 615 (by decide +kernel) (by decide +kernel)
theorem fX5_13 : zLF "CoughBidsModel" 13 5 1 (.array .int) true := ⟨RX5, TX5, 15, tyX5, rfl, by decide, rfl, by decide, Or.inl t_207, uX5, tyX5_ok, nmX5, rfl, rfl, rfl⟩
theorem fX5_13F : ∃ T : u_T, ∃ N, vwCl[5]? = some ("CoughBidsModel", T, N) ∧ Cond.fieldLink "CoughBidsModel" 13 (T 1).1 (T 1).2.1 (T 1).2.2.1 ∈ zWd := ⟨TX5, 15, rfl, t_207⟩
theorem t_208 : Cond.fieldLink "CoughBidsModel" 16 "CoughBidsModel" "held" "[I" ∈ zWd := z_tb 616 (by decide +kernel) (by decide +kernel)
theorem fX5_16 : zLF "CoughBidsModel" 16 5 2 (.array .int) true := ⟨RX5, TX5, 15, tyX5, rfl, by decide, rfl, by decide, Or.inl t_208, uX5, tyX5_ok, nmX5, rfl, rfl, rfl⟩
theorem fX5_16F : ∃ T : u_T, ∃ N, vwCl[5]? = some ("CoughBidsModel", T, N) ∧ Cond.fieldLink "CoughBidsModel" 16 (T 2).1 (T 2).2.1 (T 2).2.2.1 ∈ zWd := ⟨TX5, 15, rfl, t_208⟩
theorem t_209 : Cond.fieldLink "CoughBidsModel" 19 "CoughBidsModel" "spare" "[I" ∈ zWd := z_tb 617 (by decide +kernel) (by decide +kernel)
theorem fX5_19 : zLF "CoughBidsModel" 19 5 3 (.array .int) true := ⟨RX5, TX5, 15, tyX5, rfl, by decide, rfl, by decide, Or.inl t_209, uX5, tyX5_ok, nmX5, rfl, rfl, rfl⟩
theorem fX5_19F : ∃ T : u_T, ∃ N, vwCl[5]? = some ("CoughBidsModel", T, N) ∧ Cond.fieldLink "CoughBidsModel" 19 (T 3).1 (T 3).2.1 (T 3).2.2.1 ∈ zWd := ⟨TX5, 15, rfl, t_209⟩
theorem t_210 : Cond.fieldLink "CoughBidsModel" 32 "CoughBidsModel" "pasts" "I" ∈ zWd := z_tb 618 (by decide +kernel) (by decide +kernel)
theorem fX5_32 : zLF "CoughBidsModel" 32 5 4 .int false := ⟨RX5, TX5, 15, tyX5, rfl, by decide, rfl, by decide, Or.inl t_210, uX5, tyX5_ok, nmX5, rfl, rfl, rfl⟩
theorem t_211 : Cond.fieldLink "CoughBidsModel" 28 "CoughBidsModel" "runs" "Z" ∈ zWd := z_tb 619 (by decide +kernel) (by decide +kernel)
theorem fX5_28 : zLF "CoughBidsModel" 28 5 5 .boolean false := ⟨RX5, TX5, 15, tyX5, rfl, by decide, rfl, by decide, Or.inl t_211, uX5, tyX5_ok, nmX5, rfl, rfl, rfl⟩
theorem t_212 : Cond.fieldLink "CoughBidsModel" 22 "CoughBidsModel" "text" "[I" ∈ zWd := z_tb 620 (by decide +kernel) (by decide +kernel)
theorem fX5_22 : zLF "CoughBidsModel" 22 5 6 (.array .int) true := ⟨RX5, TX5, 15, tyX5, rfl, by decide, rfl, by decide, Or.inl t_212, uX5, tyX5_ok, nmX5, rfl, rfl, rfl⟩
theorem fX5_22F : ∃ T : u_T, ∃ N, vwCl[5]? = some ("CoughBidsModel", T, N) ∧ Cond.fieldLink "CoughBidsModel" 22 (T 6).1 (T 6).2.1 (T 6).2.2.1 ∈ zWd := ⟨TX5, 15, rfl, t_212⟩
theorem t_213 : Cond.fieldLink "CoughBidsModel" 127 "CoughBidsModel" "typed" "I" ∈ zWd := z_tb 621 (by decide +kernel) (by decide +kernel)
theorem fX5_127 : zLF "CoughBidsModel" 127 5 7 .int false := ⟨RX5, TX5, 15, tyX5, rfl, by decide, rfl, by decide, Or.inl t_213, uX5, tyX5_ok, nmX5, rfl, rfl, rfl⟩
theorem t_214 : Cond.fieldLink "CoughBidsModel" 130 "CoughBidsModel" "spot" "I" ∈ zWd := z_tb 622 (by decide +kernel) (by decide +kernel)
theorem fX5_130 : zLF "CoughBidsModel" 130 5 8 .int false := ⟨RX5, TX5, 15, tyX5, rfl, by decide, rfl, by decide, Or.inl t_214, uX5, tyX5_ok, nmX5, rfl, rfl, rfl⟩
theorem t_215 : Cond.fieldLink "CoughBidsModel" 170 "CoughBidsModel" "from" "I" ∈ zWd := z_tb 623 (by decide +kernel) (by decide +kernel)
theorem fX5_170 : zLF "CoughBidsModel" 170 5 9 .int false := ⟨RX5, TX5, 15, tyX5, rfl, by decide, rfl, by decide, Or.inl t_215, uX5, tyX5_ok, nmX5, rfl, rfl, rfl⟩
theorem t_216 : Cond.fieldLink "CoughBidsModel" 183 "CoughBidsModel" "reason" "I" ∈ zWd := z_tb 624 (by decide +kernel) (by decide +kernel)
theorem fX5_183 : zLF "CoughBidsModel" 183 5 10 .int false := ⟨RX5, TX5, 15, tyX5, rfl, by decide, rfl, by decide, Or.inl t_216, uX5, tyX5_ok, nmX5, rfl, rfl, rfl⟩
theorem t_217 : Cond.fieldLink "CoughBidsModel" 186 "CoughBidsModel" "cause" "I" ∈ zWd := z_tb 625 (by decide +kernel) (by decide +kernel)
theorem fX5_186 : zLF "CoughBidsModel" 186 5 11 .int false := ⟨RX5, TX5, 15, tyX5, rfl, by decide, rfl, by decide, Or.inl t_217, uX5, tyX5_ok, nmX5, rfl, rfl, rfl⟩
theorem t_218 : Cond.fieldLink "CoughBidsModel" 173 "CoughBidsModel" "orders" "I" ∈ zWd := z_tb 626 (by decide +kernel) (by decide +kernel)
theorem fX5_173 : zLF "CoughBidsModel" 173 5 12 .int false := ⟨RX5, TX5, 15, tyX5, rfl, by decide, rfl, by decide, Or.inl t_218, uX5, tyX5_ok, nmX5, rfl, rfl, rfl⟩
theorem t_219 : Cond.fieldLink "CoughBidsModel" 136 "CoughBidsModel" "order" "I" ∈ zWd := z_tb 627 (by decide +kernel) (by decide +kernel)
theorem fX5_136 : zLF "CoughBidsModel" 136 5 13 .int false := ⟨RX5, TX5, 15, tyX5, rfl, by decide, rfl, by decide, Or.inl t_219, uX5, tyX5_ok, nmX5, rfl, rfl, rfl⟩
theorem t_220 : Cond.fieldLink "CoughBidsModel" 25 "CoughBidsModel" "numbers" "[I" ∈ zWd := z_tb 628 (by decide +kernel) (by decide +kernel)
theorem fX5_25 : zLF "CoughBidsModel" 25 5 14 (.array .int) true := ⟨RX5, TX5, 15, tyX5, rfl, by decide, rfl, by decide, Or.inl t_220, uX5, tyX5_ok, nmX5, rfl, rfl, rfl⟩
theorem fX5_25F : ∃ T : u_T, ∃ N, vwCl[5]? = some ("CoughBidsModel", T, N) ∧ Cond.fieldLink "CoughBidsModel" 25 (T 14).1 (T 14).2.1 (T 14).2.2.1 ∈ zWd := ⟨TX5, 15, rfl, t_220⟩
theorem fX0_87 : zLF "CoughBids$Auction" 87 1 0 .int false := ⟨RX1, TX1, 11, tyX1, rfl, by decide, rfl, by decide, Or.inr ⟨"CoughBids", by decide +kernel⟩, uX1, tyX1_ok, nmX1, rfl, rfl, rfl⟩
theorem fX0_90 : zLF "CoughBids$Auction" 90 1 1 .int false := ⟨RX1, TX1, 11, tyX1, rfl, by decide, rfl, by decide, Or.inr ⟨"CoughBids", by decide +kernel⟩, uX1, tyX1_ok, nmX1, rfl, rfl, rfl⟩
theorem fX0_144 : zLF "CoughBids$Auction" 144 1 2 .int false := ⟨RX1, TX1, 11, tyX1, rfl, by decide, rfl, by decide, Or.inr ⟨"CoughBids", by decide +kernel⟩, uX1, tyX1_ok, nmX1, rfl, rfl, rfl⟩
theorem fX0_228 : zLF "CoughBids$Auction" 228 1 3 .int false := ⟨RX1, TX1, 11, tyX1, rfl, by decide, rfl, by decide, Or.inr ⟨"CoughBids", by decide +kernel⟩, uX1, tyX1_ok, nmX1, rfl, rfl, rfl⟩
theorem fX0_160 : zLF "CoughBids$Auction" 160 1 4 .int false := ⟨RX1, TX1, 11, tyX1, rfl, by decide, rfl, by decide, Or.inr ⟨"CoughBids", by decide +kernel⟩, uX1, tyX1_ok, nmX1, rfl, rfl, rfl⟩
theorem fX0_117 : zLF "CoughBids$Auction" 117 1 5 .int false := ⟨RX1, TX1, 11, tyX1, rfl, by decide, rfl, by decide, Or.inr ⟨"CoughBids", by decide +kernel⟩, uX1, tyX1_ok, nmX1, rfl, rfl, rfl⟩
theorem fX0_120 : zLF "CoughBids$Auction" 120 1 6 .int false := ⟨RX1, TX1, 11, tyX1, rfl, by decide, rfl, by decide, Or.inr ⟨"CoughBids", by decide +kernel⟩, uX1, tyX1_ok, nmX1, rfl, rfl, rfl⟩
theorem fX0_150 : zLF "CoughBids$Auction" 150 1 7 .int false := ⟨RX1, TX1, 11, tyX1, rfl, by decide, rfl, by decide, Or.inr ⟨"CoughBids", by decide +kernel⟩, uX1, tyX1_ok, nmX1, rfl, rfl, rfl⟩
theorem fX0_159 : zLF "CoughBids$Auction" 159 1 8 .int false := ⟨RX1, TX1, 11, tyX1, rfl, by decide, rfl, by decide, Or.inr ⟨"CoughBids", by decide +kernel⟩, uX1, tyX1_ok, nmX1, rfl, rfl, rfl⟩
theorem fX0_127 : zLF "CoughBids$Auction" 127 2 0 .int false := ⟨RX2, TX2, 10, tyX2, rfl, by decide, rfl, by decide, Or.inr ⟨"CoughBids", by decide +kernel⟩, uX2, tyX2_ok, nmX2, rfl, rfl, rfl⟩
theorem fX4_120 : zLF "CoughBids" 120 2 0 .int false := ⟨RX2, TX2, 10, tyX2, rfl, by decide, rfl, by decide, Or.inr ⟨"CoughBids", by decide +kernel⟩, uX2, tyX2_ok, nmX2, rfl, rfl, rfl⟩
theorem fX4_123 : zLF "CoughBids" 123 2 1 .int false := ⟨RX2, TX2, 10, tyX2, rfl, by decide, rfl, by decide, Or.inr ⟨"CoughBids", by decide +kernel⟩, uX2, tyX2_ok, nmX2, rfl, rfl, rfl⟩
theorem fX0_196 : zLF "CoughBids$Auction" 196 2 2 .int false := ⟨RX2, TX2, 10, tyX2, rfl, by decide, rfl, by decide, Or.inr ⟨"CoughBids", by decide +kernel⟩, uX2, tyX2_ok, nmX2, rfl, rfl, rfl⟩
theorem fX0_141 : zLF "CoughBids$Auction" 141 2 3 .int false := ⟨RX2, TX2, 10, tyX2, rfl, by decide, rfl, by decide, Or.inr ⟨"CoughBids", by decide +kernel⟩, uX2, tyX2_ok, nmX2, rfl, rfl, rfl⟩
theorem fX0_193 : zLF "CoughBids$Auction" 193 2 4 .boolean false := ⟨RX2, TX2, 10, tyX2, rfl, by decide, rfl, by decide, Or.inr ⟨"CoughBids", by decide +kernel⟩, uX2, tyX2_ok, nmX2, rfl, rfl, rfl⟩
theorem fX0_184 : zLF "CoughBids$Auction" 184 2 5 .boolean false := ⟨RX2, TX2, 10, tyX2, rfl, by decide, rfl, by decide, Or.inr ⟨"CoughBids", by decide +kernel⟩, uX2, tyX2_ok, nmX2, rfl, rfl, rfl⟩
theorem fX0_166 : zLF "CoughBids$Auction" 166 2 7 .int false := ⟨RX2, TX2, 10, tyX2, rfl, by decide, rfl, by decide, Or.inr ⟨"CoughBids", by decide +kernel⟩, uX2, tyX2_ok, nmX2, rfl, rfl, rfl⟩
theorem fX0_187 : zLF "CoughBids$Auction" 187 2 8 .int false := ⟨RX2, TX2, 10, tyX2, rfl, by decide, rfl, by decide, Or.inr ⟨"CoughBids", by decide +kernel⟩, uX2, tyX2_ok, nmX2, rfl, rfl, rfl⟩
theorem fX0_130 : zLF "CoughBids$Auction" 130 2 9 .int false := ⟨RX2, TX2, 10, tyX2, rfl, by decide, rfl, by decide, Or.inr ⟨"CoughBids", by decide +kernel⟩, uX2, tyX2_ok, nmX2, rfl, rfl, rfl⟩
theorem fX4_78 : zLF "CoughBids" 78 0 0 (.array (.object "CoughBids$Bidder")) true := ⟨RX0, TX0, 17, tyX0, rfl, by decide, rfl, by decide, Or.inr ⟨"CoughBids", by decide +kernel⟩, uX0, tyX0_ok, nmX0, rfl, rfl, rfl⟩
theorem fX4_116 : zLF "CoughBids" 116 0 1 (.array (.object "CoughBids$Lot")) true := ⟨RX0, TX0, 17, tyX0, rfl, by decide, rfl, by decide, Or.inr ⟨"CoughBids", by decide +kernel⟩, uX0, tyX0_ok, nmX0, rfl, rfl, rfl⟩
theorem fX4_129 : zLF "CoughBids" 129 0 2 (.array (.object "CoughBids$Lot")) true := ⟨RX0, TX0, 17, tyX0, rfl, by decide, rfl, by decide, Or.inr ⟨"CoughBids", by decide +kernel⟩, uX0, tyX0_ok, nmX0, rfl, rfl, rfl⟩
theorem fX4_147 : zLF "CoughBids" 147 0 3 (.array .int) true := ⟨RX0, TX0, 17, tyX0, rfl, by decide, rfl, by decide, Or.inr ⟨"CoughBids", by decide +kernel⟩, uX0, tyX0_ok, nmX0, rfl, rfl, rfl⟩
theorem fX4_154 : zLF "CoughBids" 154 0 5 .int false := ⟨RX0, TX0, 17, tyX0, rfl, by decide, rfl, by decide, Or.inr ⟨"CoughBids", by decide +kernel⟩, uX0, tyX0_ok, nmX0, rfl, rfl, rfl⟩
theorem fX4_112 : zLF "CoughBids" 112 0 6 .int false := ⟨RX0, TX0, 17, tyX0, rfl, by decide, rfl, by decide, Or.inr ⟨"CoughBids", by decide +kernel⟩, uX0, tyX0_ok, nmX0, rfl, rfl, rfl⟩
theorem fX4_126 : zLF "CoughBids" 126 0 7 .int false := ⟨RX0, TX0, 17, tyX0, rfl, by decide, rfl, by decide, Or.inr ⟨"CoughBids", by decide +kernel⟩, uX0, tyX0_ok, nmX0, rfl, rfl, rfl⟩
theorem fX4_98 : zLF "CoughBids" 98 0 8 .boolean false := ⟨RX0, TX0, 17, tyX0, rfl, by decide, rfl, by decide, Or.inr ⟨"CoughBids", by decide +kernel⟩, uX0, tyX0_ok, nmX0, rfl, rfl, rfl⟩
theorem fX4_103 : zLF "CoughBids" 103 0 9 (.object "CoughBids$Lot") false := ⟨RX0, TX0, 17, tyX0, rfl, by decide, rfl, by decide, Or.inr ⟨"CoughBids", by decide +kernel⟩, uX0, tyX0_ok, nmX0, rfl, rfl, rfl⟩
theorem fX4_151 : zLF "CoughBids" 151 0 13 .int false := ⟨RX0, TX0, 17, tyX0, rfl, by decide, rfl, by decide, Or.inr ⟨"CoughBids", by decide +kernel⟩, uX0, tyX0_ok, nmX0, rfl, rfl, rfl⟩
theorem fX4_141 : zLF "CoughBids" 141 0 15 .int false := ⟨RX0, TX0, 17, tyX0, rfl, by decide, rfl, by decide, Or.inr ⟨"CoughBids", by decide +kernel⟩, uX0, tyX0_ok, nmX0, rfl, rfl, rfl⟩
theorem fX4_144 : zLF "CoughBids" 144 0 16 .int false := ⟨RX0, TX0, 17, tyX0, rfl, by decide, rfl, by decide, Or.inr ⟨"CoughBids", by decide +kernel⟩, uX0, tyX0_ok, nmX0, rfl, rfl, rfl⟩
theorem fX4_178 : zLF "CoughBids" 178 3 2 .int false := ⟨RX3, TX3, 9, tyX3, rfl, by decide, rfl, by decide, Or.inr ⟨"CoughBids", by decide +kernel⟩, uX3, tyX3_ok, nmX3, rfl, rfl, rfl⟩
theorem fX4_203 : zLF "CoughBids" 203 3 5 .int false := ⟨RX3, TX3, 9, tyX3, rfl, by decide, rfl, by decide, Or.inr ⟨"CoughBids", by decide +kernel⟩, uX3, tyX3_ok, nmX3, rfl, rfl, rfl⟩
theorem fX4_194 : zLF "CoughBids" 194 3 6 .int false := ⟨RX3, TX3, 9, tyX3, rfl, by decide, rfl, by decide, Or.inr ⟨"CoughBids", by decide +kernel⟩, uX3, tyX3_ok, nmX3, rfl, rfl, rfl⟩
theorem fX4_197 : zLF "CoughBids" 197 3 7 .int false := ⟨RX3, TX3, 9, tyX3, rfl, by decide, rfl, by decide, Or.inr ⟨"CoughBids", by decide +kernel⟩, uX3, tyX3_ok, nmX3, rfl, rfl, rfl⟩
theorem fX4_200 : zLF "CoughBids" 200 3 8 .int false := ⟨RX3, TX3, 9, tyX3, rfl, by decide, rfl, by decide, Or.inr ⟨"CoughBids", by decide +kernel⟩, uX3, tyX3_ok, nmX3, rfl, rfl, rfl⟩
theorem t_221 : Cond.instanceMethod ⟨"CoughBids$Bidder", "<init>", "()V"⟩ ∈ zWd := z_tb 30 (by decide +kernel) (by decide +kernel)
theorem vX0_init_17 : zSI mX0_init 17 mX1_init 0 := ⟨⟨oX1_init, by decide +kernel, by decide⟩, Or.inr ⟨"CoughBids", by decide +kernel⟩, t_221, rfl, rfl⟩
theorem t_222 : Cond.instanceMethod ⟨"CoughBids$Lot", "<init>", "()V"⟩ ∈ zWd := z_tb 80 (by decide +kernel) (by decide +kernel)
theorem vX0_init_24 : zSI mX0_init 24 mX2_init 0 := ⟨⟨oX2_init, by decide +kernel, by decide⟩, Or.inr ⟨"CoughBids", by decide +kernel⟩, t_222, rfl, rfl⟩
theorem t_223 : Cond.methodLink "CoughBids$Auction" 43 ⟨"CoughBids$Bidder", "copyFrom", "(LCoughBids$Bidder;)V"⟩ ∈ zWd := z_tb 253 (by decide +kernel) (by decide +kernel)
theorem t_224 : Cond.instanceMethod ⟨"CoughBids$Bidder", "copyFrom", "(LCoughBids$Bidder;)V"⟩ ∈ zWd := z_tb 254 (by decide +kernel) (by decide +kernel)
theorem t_225 : Cond.selects "CoughBids$Bidder" ⟨"CoughBids$Bidder", "copyFrom", "(LCoughBids$Bidder;)V"⟩ ⟨"CoughBids$Bidder", "copyFrom", "(LCoughBids$Bidder;)V"⟩ ∈ zWd := z_tb 255 (by decide +kernel) (by decide +kernel)
theorem vX0_copyFrom_43 : zSV mX0_copyFrom 43 mX1_copyFrom 1 1 := ⟨⟨oX1_copyFrom, by decide +kernel, by decide⟩, t_223, t_224, t_225, by decide, TX1, 11, rfl⟩
theorem t_226 : Cond.methodLink "CoughBids$Auction" 50 ⟨"CoughBids$Lot", "copyFrom", "(LCoughBids$Lot;)V"⟩ ∈ zWd := z_tb 257 (by decide +kernel) (by decide +kernel)
theorem t_227 : Cond.instanceMethod ⟨"CoughBids$Lot", "copyFrom", "(LCoughBids$Lot;)V"⟩ ∈ zWd := z_tb 258 (by decide +kernel) (by decide +kernel)
theorem t_228 : Cond.selects "CoughBids$Lot" ⟨"CoughBids$Lot", "copyFrom", "(LCoughBids$Lot;)V"⟩ ⟨"CoughBids$Lot", "copyFrom", "(LCoughBids$Lot;)V"⟩ ∈ zWd := z_tb 259 (by decide +kernel) (by decide +kernel)
theorem vX0_copyFrom_50 : zSV mX0_copyFrom 50 mX2_copyFrom 1 2 := ⟨⟨oX2_copyFrom, by decide +kernel, by decide⟩, t_226, t_227, t_228, by decide, TX2, 10, rfl⟩
theorem t_229 : Cond.static ⟨"CoughBids", "isSeat", "(II)Z"⟩ ∈ zWd := z_tb 269 (by decide +kernel) (by decide +kernel)
theorem vX0_seatBidder_94 : zSS mX0_seatBidder 94 mX4_isSeat 2 := ⟨⟨oX4_isSeat, by decide +kernel, by decide⟩, Or.inr ⟨"CoughBids", by decide +kernel⟩, t_229⟩
theorem t_230 : Cond.static ⟨"CoughBids", "isWithin", "(III)Z"⟩ ∈ zWd := z_tb 272 (by decide +kernel) (by decide +kernel)
theorem vX0_seatBidder_98 : zSS mX0_seatBidder 98 mX4_isWithin 3 := ⟨⟨oX4_isWithin, by decide +kernel, by decide⟩, Or.inr ⟨"CoughBids", by decide +kernel⟩, t_230⟩
theorem t_231 : Cond.methodLink "CoughBids$Auction" 103 ⟨"CoughBids$Auction", "findSeated", "(II)I"⟩ ∈ zWd := z_tb 276 (by decide +kernel) (by decide +kernel)
theorem t_232 : Cond.instanceMethod ⟨"CoughBids$Auction", "findSeated", "(II)I"⟩ ∈ zWd := z_tb 277 (by decide +kernel) (by decide +kernel)
theorem t_233 : Cond.selects "CoughBids$Auction" ⟨"CoughBids$Auction", "findSeated", "(II)I"⟩ ⟨"CoughBids$Auction", "findSeated", "(II)I"⟩ ∈ zWd := z_tb 278 (by decide +kernel) (by decide +kernel)
theorem vX0_seatBidder_103 : zSV mX0_seatBidder 103 mX0_findSeated 2 0 := ⟨⟨oX0_findSeated, by decide +kernel, by decide⟩, t_231, t_232, t_233, by decide, TX0, 17, rfl⟩
theorem t_234 : Cond.methodLink "CoughBids$Auction" 109 ⟨"CoughBids$Bidder", "sitDown", "(IIII)V"⟩ ∈ zWd := z_tb 283 (by decide +kernel) (by decide +kernel)
theorem t_235 : Cond.instanceMethod ⟨"CoughBids$Bidder", "sitDown", "(IIII)V"⟩ ∈ zWd := z_tb 284 (by decide +kernel) (by decide +kernel)
theorem t_236 : Cond.selects "CoughBids$Bidder" ⟨"CoughBids$Bidder", "sitDown", "(IIII)V"⟩ ⟨"CoughBids$Bidder", "sitDown", "(IIII)V"⟩ ∈ zWd := z_tb 285 (by decide +kernel) (by decide +kernel)
theorem vX0_seatBidder_109 : zSV mX0_seatBidder 109 mX1_sitDown 4 1 := ⟨⟨oX1_sitDown, by decide +kernel, by decide⟩, t_234, t_235, t_236, by decide, TX1, 11, rfl⟩
theorem t_237 : Cond.methodLink "CoughBids$Auction" 113 ⟨"CoughBids$Auction", "hasBidder", "(I)Z"⟩ ∈ zWd := z_tb 303 (by decide +kernel) (by decide +kernel)
theorem t_238 : Cond.instanceMethod ⟨"CoughBids$Auction", "hasBidder", "(I)Z"⟩ ∈ zWd := z_tb 304 (by decide +kernel) (by decide +kernel)
theorem t_239 : Cond.selects "CoughBids$Auction" ⟨"CoughBids$Auction", "hasBidder", "(I)Z"⟩ ⟨"CoughBids$Auction", "hasBidder", "(I)Z"⟩ ∈ zWd := z_tb 305 (by decide +kernel) (by decide +kernel)
theorem vX0_changeCold_113 : zSV mX0_changeCold 113 mX0_hasBidder 1 0 := ⟨⟨oX0_hasBidder, by decide +kernel, by decide⟩, t_237, t_238, t_239, by decide, TX0, 17, rfl⟩
theorem vX0_changeCold_98 : zSS mX0_changeCold 98 mX4_isWithin 3 := ⟨⟨oX4_isWithin, by decide +kernel, by decide⟩, Or.inr ⟨"CoughBids", by decide +kernel⟩, t_230⟩
theorem vX0_changeMuffler_113 : zSV mX0_changeMuffler 113 mX0_hasBidder 1 0 := ⟨⟨oX0_hasBidder, by decide +kernel, by decide⟩, t_237, t_238, t_239, by decide, TX0, 17, rfl⟩
theorem vX0_changeMuffler_98 : zSS mX0_changeMuffler 98 mX4_isWithin 3 := ⟨⟨oX4_isWithin, by decide +kernel, by decide⟩, Or.inr ⟨"CoughBids", by decide +kernel⟩, t_230⟩
theorem vX0_changeSetting_98 : zSS mX0_changeSetting 98 mX4_isWithin 3 := ⟨⟨oX4_isWithin, by decide +kernel, by decide⟩, Or.inr ⟨"CoughBids", by decide +kernel⟩, t_230⟩
theorem vX0_addLot_98 : zSS mX0_addLot 98 mX4_isWithin 3 := ⟨⟨oX4_isWithin, by decide +kernel, by decide⟩, Or.inr ⟨"CoughBids", by decide +kernel⟩, t_230⟩
theorem t_240 : Cond.methodLink "CoughBids$Auction" 123 ⟨"CoughBids$Lot", "come", "(II)V"⟩ ∈ zWd := z_tb 323 (by decide +kernel) (by decide +kernel)
theorem t_241 : Cond.instanceMethod ⟨"CoughBids$Lot", "come", "(II)V"⟩ ∈ zWd := z_tb 324 (by decide +kernel) (by decide +kernel)
theorem t_242 : Cond.selects "CoughBids$Lot" ⟨"CoughBids$Lot", "come", "(II)V"⟩ ⟨"CoughBids$Lot", "come", "(II)V"⟩ ∈ zWd := z_tb 325 (by decide +kernel) (by decide +kernel)
theorem vX0_addLot_123 : zSV mX0_addLot 123 mX2_come 2 2 := ⟨⟨oX2_come, by decide +kernel, by decide⟩, t_240, t_241, t_242, by decide, TX2, 10, rfl⟩
theorem t_243 : Cond.methodLink "CoughBids$Auction" 133 ⟨"CoughBids$Bidder", "loudness", "()I"⟩ ∈ zWd := z_tb 347 (by decide +kernel) (by decide +kernel)
theorem t_244 : Cond.instanceMethod ⟨"CoughBids$Bidder", "loudness", "()I"⟩ ∈ zWd := z_tb 348 (by decide +kernel) (by decide +kernel)
theorem t_245 : Cond.selects "CoughBids$Bidder" ⟨"CoughBids$Bidder", "loudness", "()I"⟩ ⟨"CoughBids$Bidder", "loudness", "()I"⟩ ∈ zWd := z_tb 349 (by decide +kernel) (by decide +kernel)
theorem vX0_reasonAgainst_133 : zSV mX0_reasonAgainst 133 mX1_loudness 0 1 := ⟨⟨oX1_loudness, by decide +kernel, by decide⟩, t_243, t_244, t_245, by decide, TX1, 11, rfl⟩
theorem t_246 : Cond.methodLink "CoughBids$Auction" 137 ⟨"CoughBids$Lot", "hasBid", "()Z"⟩ ∈ zWd := z_tb 351 (by decide +kernel) (by decide +kernel)
theorem t_247 : Cond.instanceMethod ⟨"CoughBids$Lot", "hasBid", "()Z"⟩ ∈ zWd := z_tb 352 (by decide +kernel) (by decide +kernel)
theorem t_248 : Cond.selects "CoughBids$Lot" ⟨"CoughBids$Lot", "hasBid", "()Z"⟩ ⟨"CoughBids$Lot", "hasBid", "()Z"⟩ ∈ zWd := z_tb 353 (by decide +kernel) (by decide +kernel)
theorem vX0_reasonAgainst_137 : zSV mX0_reasonAgainst 137 mX2_hasBid 0 2 := ⟨⟨oX2_hasBid, by decide +kernel, by decide⟩, t_246, t_247, t_248, by decide, TX2, 10, rfl⟩
theorem t_249 : Cond.methodLink "CoughBids$Auction" 147 ⟨"CoughBids$Lot", "asked", "()I"⟩ ∈ zWd := z_tb 355 (by decide +kernel) (by decide +kernel)
theorem t_250 : Cond.instanceMethod ⟨"CoughBids$Lot", "asked", "()I"⟩ ∈ zWd := z_tb 356 (by decide +kernel) (by decide +kernel)
theorem t_251 : Cond.selects "CoughBids$Lot" ⟨"CoughBids$Lot", "asked", "()I"⟩ ⟨"CoughBids$Lot", "asked", "()I"⟩ ∈ zWd := z_tb 357 (by decide +kernel) (by decide +kernel)
theorem vX0_reasonAgainst_147 : zSV mX0_reasonAgainst 147 mX2_asked 0 2 := ⟨⟨oX2_asked, by decide +kernel, by decide⟩, t_249, t_250, t_251, by decide, TX2, 10, rfl⟩
theorem vX0_takeCough_113 : zSV mX0_takeCough 113 mX0_hasBidder 1 0 := ⟨⟨oX0_hasBidder, by decide +kernel, by decide⟩, t_237, t_238, t_239, by decide, TX0, 17, rfl⟩
theorem t_252 : Cond.methodLink "CoughBids$Auction" 151 ⟨"CoughBids$Auction", "reasonAgainst", "(I)I"⟩ ∈ zWd := z_tb 343 (by decide +kernel) (by decide +kernel)
theorem t_253 : Cond.instanceMethod ⟨"CoughBids$Auction", "reasonAgainst", "(I)I"⟩ ∈ zWd := z_tb 344 (by decide +kernel) (by decide +kernel)
theorem t_254 : Cond.selects "CoughBids$Auction" ⟨"CoughBids$Auction", "reasonAgainst", "(I)I"⟩ ⟨"CoughBids$Auction", "reasonAgainst", "(I)I"⟩ ∈ zWd := z_tb 345 (by decide +kernel) (by decide +kernel)
theorem vX0_takeCough_151 : zSV mX0_takeCough 151 mX0_reasonAgainst 1 0 := ⟨⟨oX0_reasonAgainst, by decide +kernel, by decide⟩, t_252, t_253, t_254, by decide, TX0, 17, rfl⟩
theorem vX0_takeCough_147 : zSV mX0_takeCough 147 mX2_asked 0 2 := ⟨⟨oX2_asked, by decide +kernel, by decide⟩, t_249, t_250, t_251, by decide, TX2, 10, rfl⟩
theorem t_255 : Cond.methodLink "CoughBids$Auction" 155 ⟨"CoughBids$Lot", "takeBid", "(IIZ)V"⟩ ∈ zWd := z_tb 359 (by decide +kernel) (by decide +kernel)
theorem t_256 : Cond.instanceMethod ⟨"CoughBids$Lot", "takeBid", "(IIZ)V"⟩ ∈ zWd := z_tb 360 (by decide +kernel) (by decide +kernel)
theorem t_257 : Cond.selects "CoughBids$Lot" ⟨"CoughBids$Lot", "takeBid", "(IIZ)V"⟩ ⟨"CoughBids$Lot", "takeBid", "(IIZ)V"⟩ ∈ zWd := z_tb 361 (by decide +kernel) (by decide +kernel)
theorem vX0_takeCough_155 : zSV mX0_takeCough 155 mX2_takeBid 3 2 := ⟨⟨oX2_takeBid, by decide +kernel, by decide⟩, t_255, t_256, t_257, by decide, TX2, 10, rfl⟩
theorem t_258 : Cond.methodLink "CoughBids$Auction" 163 ⟨"CoughBids$Auction", "doubtBid", "()V"⟩ ∈ zWd := z_tb 363 (by decide +kernel) (by decide +kernel)
theorem t_259 : Cond.instanceMethod ⟨"CoughBids$Auction", "doubtBid", "()V"⟩ ∈ zWd := z_tb 365 (by decide +kernel) (by decide +kernel)
theorem t_260 : Cond.selects "CoughBids$Auction" ⟨"CoughBids$Auction", "doubtBid", "()V"⟩ ⟨"CoughBids$Auction", "doubtBid", "()V"⟩ ∈ zWd := z_sl 2 (by decide +kernel) (by decide +kernel)
theorem vX0_takeCough_163 : zSV mX0_takeCough 163 mX0_doubtBid 0 0 := ⟨⟨oX0_doubtBid, by decide +kernel, by decide⟩, t_258, t_259, t_260, by decide, TX0, 17, rfl⟩
theorem t_261 : Cond.methodLink "CoughBids$Auction" 167 ⟨"CoughBids$Auction", "close", "(I)V"⟩ ∈ zWd := z_tb 367 (by decide +kernel) (by decide +kernel)
theorem t_262 : Cond.instanceMethod ⟨"CoughBids$Auction", "close", "(I)V"⟩ ∈ zWd := z_tb 369 (by decide +kernel) (by decide +kernel)
theorem t_263 : Cond.selects "CoughBids$Auction" ⟨"CoughBids$Auction", "close", "(I)V"⟩ ⟨"CoughBids$Auction", "close", "(I)V"⟩ ∈ zWd := z_sl 3 (by decide +kernel) (by decide +kernel)
theorem vX0_doubtBid_167 : zSV mX0_doubtBid 167 mX0_close 1 0 := ⟨⟨oX0_close, by decide +kernel, by decide⟩, t_261, t_262, t_263, by decide, TX0, 17, rfl⟩
theorem vX0_passBeats_98 : zSS mX0_passBeats 98 mX4_isWithin 3 := ⟨⟨oX4_isWithin, by decide +kernel, by decide⟩, Or.inr ⟨"CoughBids", by decide +kernel⟩, t_230⟩
theorem t_264 : Cond.methodLink "CoughBids$Auction" 171 ⟨"CoughBids$Auction", "passBeat", "()V"⟩ ∈ zWd := z_tb 379 (by decide +kernel) (by decide +kernel)
theorem t_265 : Cond.instanceMethod ⟨"CoughBids$Auction", "passBeat", "()V"⟩ ∈ zWd := z_tb 380 (by decide +kernel) (by decide +kernel)
theorem t_266 : Cond.selects "CoughBids$Auction" ⟨"CoughBids$Auction", "passBeat", "()V"⟩ ⟨"CoughBids$Auction", "passBeat", "()V"⟩ ∈ zWd := z_tb 381 (by decide +kernel) (by decide +kernel)
theorem vX0_passBeats_171 : zSV mX0_passBeats 171 mX0_passBeat 0 0 := ⟨⟨oX0_passBeat, by decide +kernel, by decide⟩, t_264, t_265, t_266, by decide, TX0, 17, rfl⟩
theorem t_267 : Cond.methodLink "CoughBids$Auction" 174 ⟨"CoughBids$Auction", "isDueToCough", "(I)Z"⟩ ∈ zWd := z_tb 383 (by decide +kernel) (by decide +kernel)
theorem t_268 : Cond.instanceMethod ⟨"CoughBids$Auction", "isDueToCough", "(I)Z"⟩ ∈ zWd := z_tb 384 (by decide +kernel) (by decide +kernel)
theorem t_269 : Cond.selects "CoughBids$Auction" ⟨"CoughBids$Auction", "isDueToCough", "(I)Z"⟩ ⟨"CoughBids$Auction", "isDueToCough", "(I)Z"⟩ ∈ zWd := z_tb 385 (by decide +kernel) (by decide +kernel)
theorem vX0_passBeat_174 : zSV mX0_passBeat 174 mX0_isDueToCough 1 0 := ⟨⟨oX0_isDueToCough, by decide +kernel, by decide⟩, t_267, t_268, t_269, by decide, TX0, 17, rfl⟩
theorem t_270 : Cond.methodLink "CoughBids$Auction" 177 ⟨"CoughBids$Auction", "takeCough", "(IZ)I"⟩ ∈ zWd := z_tb 387 (by decide +kernel) (by decide +kernel)
theorem t_271 : Cond.instanceMethod ⟨"CoughBids$Auction", "takeCough", "(IZ)I"⟩ ∈ zWd := z_tb 340 (by decide +kernel) (by decide +kernel)
theorem t_272 : Cond.selects "CoughBids$Auction" ⟨"CoughBids$Auction", "takeCough", "(IZ)I"⟩ ⟨"CoughBids$Auction", "takeCough", "(IZ)I"⟩ ∈ zWd := z_tb 341 (by decide +kernel) (by decide +kernel)
theorem vX0_passBeat_177 : zSV mX0_passBeat 177 mX0_takeCough 2 0 := ⟨⟨oX0_takeCough, by decide +kernel, by decide⟩, t_270, t_271, t_272, by decide, TX0, 17, rfl⟩
theorem t_273 : Cond.methodLink "CoughBids$Auction" 181 ⟨"CoughBids$Auction", "hushOrHammer", "()V"⟩ ∈ zWd := z_tb 388 (by decide +kernel) (by decide +kernel)
theorem t_274 : Cond.instanceMethod ⟨"CoughBids$Auction", "hushOrHammer", "()V"⟩ ∈ zWd := z_tb 390 (by decide +kernel) (by decide +kernel)
theorem t_275 : Cond.selects "CoughBids$Auction" ⟨"CoughBids$Auction", "hushOrHammer", "()V"⟩ ⟨"CoughBids$Auction", "hushOrHammer", "()V"⟩ ∈ zWd := z_sl 4 (by decide +kernel) (by decide +kernel)
theorem vX0_passBeat_181 : zSV mX0_passBeat 181 mX0_hushOrHammer 0 0 := ⟨⟨oX0_hushOrHammer, by decide +kernel, by decide⟩, t_273, t_274, t_275, by decide, TX0, 17, rfl⟩
theorem t_276 : Cond.methodLink "CoughBids$Auction" 190 ⟨"CoughBids$Auction", "letHammerFall", "()V"⟩ ∈ zWd := z_tb 392 (by decide +kernel) (by decide +kernel)
theorem t_277 : Cond.instanceMethod ⟨"CoughBids$Auction", "letHammerFall", "()V"⟩ ∈ zWd := z_tb 394 (by decide +kernel) (by decide +kernel)
theorem t_278 : Cond.selects "CoughBids$Auction" ⟨"CoughBids$Auction", "letHammerFall", "()V"⟩ ⟨"CoughBids$Auction", "letHammerFall", "()V"⟩ ∈ zWd := z_sl 5 (by decide +kernel) (by decide +kernel)
theorem vX0_hushOrHammer_190 : zSV mX0_hushOrHammer 190 mX0_letHammerFall 0 0 := ⟨⟨oX0_letHammerFall, by decide +kernel, by decide⟩, t_276, t_277, t_278, by decide, TX0, 17, rfl⟩
theorem vX0_letHammerFall_137 : zSV mX0_letHammerFall 137 mX2_hasBid 0 2 := ⟨⟨oX2_hasBid, by decide +kernel, by decide⟩, t_246, t_247, t_248, by decide, TX2, 10, rfl⟩
theorem vX0_letHammerFall_113 : zSV mX0_letHammerFall 113 mX0_hasBidder 1 0 := ⟨⟨oX0_hasBidder, by decide +kernel, by decide⟩, t_237, t_238, t_239, by decide, TX0, 17, rfl⟩
theorem vX0_letHammerFall_167 : zSV mX0_letHammerFall 167 mX0_close 1 0 := ⟨⟨oX0_close, by decide +kernel, by decide⟩, t_261, t_262, t_263, by decide, TX0, 17, rfl⟩
theorem t_279 : Cond.methodLink "CoughBids$Auction" 199 ⟨"CoughBids$Bidder", "pay", "(I)V"⟩ ∈ zWd := z_tb 396 (by decide +kernel) (by decide +kernel)
theorem t_280 : Cond.instanceMethod ⟨"CoughBids$Bidder", "pay", "(I)V"⟩ ∈ zWd := z_tb 397 (by decide +kernel) (by decide +kernel)
theorem t_281 : Cond.selects "CoughBids$Bidder" ⟨"CoughBids$Bidder", "pay", "(I)V"⟩ ⟨"CoughBids$Bidder", "pay", "(I)V"⟩ ∈ zWd := z_tb 398 (by decide +kernel) (by decide +kernel)
theorem vX0_letHammerFall_199 : zSV mX0_letHammerFall 199 mX1_pay 1 1 := ⟨⟨oX1_pay, by decide +kernel, by decide⟩, t_279, t_280, t_281, by decide, TX1, 11, rfl⟩
theorem t_282 : Cond.methodLink "CoughBids$Auction" 202 ⟨"CoughBids$Auction", "spreadColds", "()V"⟩ ∈ zWd := z_tb 408 (by decide +kernel) (by decide +kernel)
theorem t_283 : Cond.instanceMethod ⟨"CoughBids$Auction", "spreadColds", "()V"⟩ ∈ zWd := z_tb 409 (by decide +kernel) (by decide +kernel)
theorem t_284 : Cond.selects "CoughBids$Auction" ⟨"CoughBids$Auction", "spreadColds", "()V"⟩ ⟨"CoughBids$Auction", "spreadColds", "()V"⟩ ∈ zWd := z_tb 410 (by decide +kernel) (by decide +kernel)
theorem vX0_passNight_202 : zSV mX0_passNight 202 mX0_spreadColds 0 0 := ⟨⟨oX0_spreadColds, by decide +kernel, by decide⟩, t_282, t_283, t_284, by decide, TX0, 17, rfl⟩
theorem t_285 : Cond.methodLink "CoughBids$Auction" 205 ⟨"CoughBids$Auction", "bidderSetWithCold", "()I"⟩ ∈ zWd := z_tb 426 (by decide +kernel) (by decide +kernel)
theorem t_286 : Cond.instanceMethod ⟨"CoughBids$Auction", "bidderSetWithCold", "()I"⟩ ∈ zWd := z_tb 427 (by decide +kernel) (by decide +kernel)
theorem t_287 : Cond.selects "CoughBids$Auction" ⟨"CoughBids$Auction", "bidderSetWithCold", "()I"⟩ ⟨"CoughBids$Auction", "bidderSetWithCold", "()I"⟩ ∈ zWd := z_tb 428 (by decide +kernel) (by decide +kernel)
theorem vX0_passNight_205 : zSV mX0_passNight 205 mX0_bidderSetWithCold 0 0 := ⟨⟨oX0_bidderSetWithCold, by decide +kernel, by decide⟩, t_285, t_286, t_287, by decide, TX0, 17, rfl⟩
theorem t_288 : Cond.methodLink "CoughBids$Auction" 208 ⟨"java/lang/Integer", "bitCount", "(I)I"⟩ ∈ zWd := z_tb 430 (by decide +kernel) (by decide +kernel)
theorem t_289 : Cond.static ⟨"java/lang/Integer", "bitCount", "(I)I"⟩ ∈ zWd := z_tb 431 (by decide +kernel) (by decide +kernel)
theorem vX0_passNight_208 : zSS mX0_passNight 208 mJ6_bitCount_0f7a4 1 := ⟨⟨oJ6_bitCount_0f7a4, by decide +kernel, by decide⟩, Or.inl t_288, t_289⟩
theorem t_290 : Cond.methodLink "CoughBids$Auction" 213 ⟨"CoughBids$Auction", "sitsBesideCold", "(LCoughBids$Bidder;)Z"⟩ ∈ zWd := z_tb 412 (by decide +kernel) (by decide +kernel)
theorem t_291 : Cond.instanceMethod ⟨"CoughBids$Auction", "sitsBesideCold", "(LCoughBids$Bidder;)Z"⟩ ∈ zWd := z_tb 414 (by decide +kernel) (by decide +kernel)
theorem t_292 : Cond.selects "CoughBids$Auction" ⟨"CoughBids$Auction", "sitsBesideCold", "(LCoughBids$Bidder;)Z"⟩ ⟨"CoughBids$Auction", "sitsBesideCold", "(LCoughBids$Bidder;)Z"⟩ ∈ zWd := z_sl 6 (by decide +kernel) (by decide +kernel)
theorem vX0_spreadColds_213 : zSV mX0_spreadColds 213 mX0_sitsBesideCold 1 0 := ⟨⟨oX0_sitsBesideCold, by decide +kernel, by decide⟩, t_290, t_291, t_292, by decide, TX0, 17, rfl⟩
theorem t_293 : Cond.methodLink "CoughBids$Auction" 225 ⟨"CoughBids$Bidder", "isBeside", "(LCoughBids$Bidder;)Z"⟩ ∈ zWd := z_tb 416 (by decide +kernel) (by decide +kernel)
theorem t_294 : Cond.instanceMethod ⟨"CoughBids$Bidder", "isBeside", "(LCoughBids$Bidder;)Z"⟩ ∈ zWd := z_tb 417 (by decide +kernel) (by decide +kernel)
theorem t_295 : Cond.selects "CoughBids$Bidder" ⟨"CoughBids$Bidder", "isBeside", "(LCoughBids$Bidder;)Z"⟩ ⟨"CoughBids$Bidder", "isBeside", "(LCoughBids$Bidder;)Z"⟩ ∈ zWd := z_tb 418 (by decide +kernel) (by decide +kernel)
theorem vX0_sitsBesideCold_225 : zSV mX0_sitsBesideCold 225 mX1_isBeside 1 1 := ⟨⟨oX1_isBeside, by decide +kernel, by decide⟩, t_293, t_294, t_295, by decide, TX1, 11, rfl⟩
theorem t_296 : Cond.methodLink "CoughBids$Auction" 231 ⟨"CoughBids$Auction", "coinsGoneFromPurses", "()I"⟩ ∈ zWd := z_tb 535 (by decide +kernel) (by decide +kernel)
theorem t_297 : Cond.instanceMethod ⟨"CoughBids$Auction", "coinsGoneFromPurses", "()I"⟩ ∈ zWd := z_tb 536 (by decide +kernel) (by decide +kernel)
theorem t_298 : Cond.selects "CoughBids$Auction" ⟨"CoughBids$Auction", "coinsGoneFromPurses", "()I"⟩ ⟨"CoughBids$Auction", "coinsGoneFromPurses", "()I"⟩ ∈ zWd := z_tb 537 (by decide +kernel) (by decide +kernel)
theorem vX0_total_231 : zSV mX0_total 231 mX0_coinsGoneFromPurses 0 0 := ⟨⟨oX0_coinsGoneFromPurses, by decide +kernel, by decide⟩, t_296, t_297, t_298, by decide, TX0, 17, rfl⟩
theorem vX0_total_205 : zSV mX0_total 205 mX0_bidderSetWithCold 0 0 := ⟨⟨oX0_bidderSetWithCold, by decide +kernel, by decide⟩, t_285, t_286, t_287, by decide, TX0, 17, rfl⟩
theorem t_299 : Cond.methodLink "CoughBids$Auction" 234 ⟨"CoughBids$Auction", "seatBidder", "(IIII)I"⟩ ∈ zWd := z_tb 597 (by decide +kernel) (by decide +kernel)
theorem t_300 : Cond.instanceMethod ⟨"CoughBids$Auction", "seatBidder", "(IIII)I"⟩ ∈ zWd := z_tb 265 (by decide +kernel) (by decide +kernel)
theorem t_301 : Cond.selects "CoughBids$Auction" ⟨"CoughBids$Auction", "seatBidder", "(IIII)I"⟩ ⟨"CoughBids$Auction", "seatBidder", "(IIII)I"⟩ ∈ zWd := z_tb 266 (by decide +kernel) (by decide +kernel)
theorem vX0_carryOut_234 : zSV mX0_carryOut 234 mX0_seatBidder 4 0 := ⟨⟨oX0_seatBidder, by decide +kernel, by decide⟩, t_299, t_300, t_301, by decide, TX0, 17, rfl⟩
theorem t_302 : Cond.methodLink "CoughBids$Auction" 238 ⟨"CoughBids$Auction", "addLot", "(II)I"⟩ ∈ zWd := z_tb 598 (by decide +kernel) (by decide +kernel)
theorem t_303 : Cond.instanceMethod ⟨"CoughBids$Auction", "addLot", "(II)I"⟩ ∈ zWd := z_tb 320 (by decide +kernel) (by decide +kernel)
theorem t_304 : Cond.selects "CoughBids$Auction" ⟨"CoughBids$Auction", "addLot", "(II)I"⟩ ⟨"CoughBids$Auction", "addLot", "(II)I"⟩ ∈ zWd := z_tb 321 (by decide +kernel) (by decide +kernel)
theorem vX0_carryOut_238 : zSV mX0_carryOut 238 mX0_addLot 2 0 := ⟨⟨oX0_addLot, by decide +kernel, by decide⟩, t_302, t_303, t_304, by decide, TX0, 17, rfl⟩
theorem vX0_carryOut_177 : zSV mX0_carryOut 177 mX0_takeCough 2 0 := ⟨⟨oX0_takeCough, by decide +kernel, by decide⟩, t_270, t_271, t_272, by decide, TX0, 17, rfl⟩
theorem t_305 : Cond.methodLink "CoughBids$Auction" 241 ⟨"CoughBids$Auction", "changeMuffler", "(II)I"⟩ ∈ zWd := z_tb 599 (by decide +kernel) (by decide +kernel)
theorem t_306 : Cond.instanceMethod ⟨"CoughBids$Auction", "changeMuffler", "(II)I"⟩ ∈ zWd := z_tb 312 (by decide +kernel) (by decide +kernel)
theorem t_307 : Cond.selects "CoughBids$Auction" ⟨"CoughBids$Auction", "changeMuffler", "(II)I"⟩ ⟨"CoughBids$Auction", "changeMuffler", "(II)I"⟩ ∈ zWd := z_tb 313 (by decide +kernel) (by decide +kernel)
theorem vX0_carryOut_241 : zSV mX0_carryOut 241 mX0_changeMuffler 2 0 := ⟨⟨oX0_changeMuffler, by decide +kernel, by decide⟩, t_305, t_306, t_307, by decide, TX0, 17, rfl⟩
theorem t_308 : Cond.methodLink "CoughBids$Auction" 244 ⟨"CoughBids$Auction", "passBeats", "(I)I"⟩ ∈ zWd := z_tb 600 (by decide +kernel) (by decide +kernel)
theorem t_309 : Cond.instanceMethod ⟨"CoughBids$Auction", "passBeats", "(I)I"⟩ ∈ zWd := z_tb 376 (by decide +kernel) (by decide +kernel)
theorem t_310 : Cond.selects "CoughBids$Auction" ⟨"CoughBids$Auction", "passBeats", "(I)I"⟩ ⟨"CoughBids$Auction", "passBeats", "(I)I"⟩ ∈ zWd := z_tb 377 (by decide +kernel) (by decide +kernel)
theorem vX0_carryOut_244 : zSV mX0_carryOut 244 mX0_passBeats 1 0 := ⟨⟨oX0_passBeats, by decide +kernel, by decide⟩, t_308, t_309, t_310, by decide, TX0, 17, rfl⟩
theorem t_311 : Cond.methodLink "CoughBids$Auction" 247 ⟨"CoughBids$Auction", "raiseNextLot", "()I"⟩ ∈ zWd := z_tb 601 (by decide +kernel) (by decide +kernel)
theorem t_312 : Cond.instanceMethod ⟨"CoughBids$Auction", "raiseNextLot", "()I"⟩ ∈ zWd := z_tb 332 (by decide +kernel) (by decide +kernel)
theorem t_313 : Cond.selects "CoughBids$Auction" ⟨"CoughBids$Auction", "raiseNextLot", "()I"⟩ ⟨"CoughBids$Auction", "raiseNextLot", "()I"⟩ ∈ zWd := z_tb 333 (by decide +kernel) (by decide +kernel)
theorem vX0_carryOut_247 : zSV mX0_carryOut 247 mX0_raiseNextLot 0 0 := ⟨⟨oX0_raiseNextLot, by decide +kernel, by decide⟩, t_311, t_312, t_313, by decide, TX0, 17, rfl⟩
theorem t_314 : Cond.methodLink "CoughBids$Auction" 250 ⟨"CoughBids$Auction", "passNight", "()I"⟩ ∈ zWd := z_tb 602 (by decide +kernel) (by decide +kernel)
theorem t_315 : Cond.instanceMethod ⟨"CoughBids$Auction", "passNight", "()I"⟩ ∈ zWd := z_tb 405 (by decide +kernel) (by decide +kernel)
theorem t_316 : Cond.selects "CoughBids$Auction" ⟨"CoughBids$Auction", "passNight", "()I"⟩ ⟨"CoughBids$Auction", "passNight", "()I"⟩ ∈ zWd := z_tb 406 (by decide +kernel) (by decide +kernel)
theorem vX0_carryOut_250 : zSV mX0_carryOut 250 mX0_passNight 0 0 := ⟨⟨oX0_passNight, by decide +kernel, by decide⟩, t_314, t_315, t_316, by decide, TX0, 17, rfl⟩
theorem t_317 : Cond.methodLink "CoughBids$Bidder" 45 ⟨"CoughBids$Bidder", "loudness", "()I"⟩ ∈ zWd := z_tb 454 (by decide +kernel) (by decide +kernel)
theorem vX1_tell_45 : zSV mX1_tell 45 mX1_loudness 0 1 := ⟨⟨oX1_loudness, by decide +kernel, by decide⟩, t_317, t_244, t_245, by decide, TX1, 11, rfl⟩
theorem t_318 : Cond.methodLink "CoughBids$Lot" 43 ⟨"CoughBids$Lot", "hasBid", "()Z"⟩ ∈ zWd := z_tb 471 (by decide +kernel) (by decide +kernel)
theorem vX2_tellUp_43 : zSV mX2_tellUp 43 mX2_hasBid 0 2 := ⟨⟨oX2_hasBid, by decide +kernel, by decide⟩, t_318, t_247, t_248, by decide, TX2, 10, rfl⟩
theorem t_319 : Cond.methodLink "CoughBids$Lot" 48 ⟨"CoughBids$Lot", "asked", "()I"⟩ ∈ zWd := z_tb 473 (by decide +kernel) (by decide +kernel)
theorem vX2_tellUp_48 : zSV mX2_tellUp 48 mX2_asked 0 2 := ⟨⟨oX2_asked, by decide +kernel, by decide⟩, t_319, t_250, t_251, by decide, TX2, 10, rfl⟩
theorem vX2_tellGone_43 : zSV mX2_tellGone 43 mX2_hasBid 0 2 := ⟨⟨oX2_hasBid, by decide +kernel, by decide⟩, t_318, t_247, t_248, by decide, TX2, 10, rfl⟩
theorem vX3_append_23 : zSS mX3_append 23 mX4_isWithin 3 := ⟨⟨oX4_isWithin, by decide +kernel, by decide⟩, Or.inr ⟨"CoughBids", by decide +kernel⟩, t_230⟩
theorem t_320 : Cond.methodLink "CoughBids$Script" 38 ⟨"CoughBids$Script", "hasFault", "()Z"⟩ ∈ zWd := z_tb 566 (by decide +kernel) (by decide +kernel)
theorem t_321 : Cond.instanceMethod ⟨"CoughBids$Script", "hasFault", "()Z"⟩ ∈ zWd := z_tb 567 (by decide +kernel) (by decide +kernel)
theorem t_322 : Cond.selects "CoughBids$Script" ⟨"CoughBids$Script", "hasFault", "()Z"⟩ ⟨"CoughBids$Script", "hasFault", "()Z"⟩ ∈ zWd := z_tb 568 (by decide +kernel) (by decide +kernel)
theorem vX3_performOn_38 : zSV mX3_performOn 38 mX3_hasFault 0 3 := ⟨⟨oX3_hasFault, by decide +kernel, by decide⟩, t_320, t_321, t_322, by decide, TX3, 9, rfl⟩
theorem t_323 : Cond.methodLink "CoughBids$Script" 42 ⟨"CoughBids$Script", "readOrder", "()Z"⟩ ∈ zWd := z_tb 570 (by decide +kernel) (by decide +kernel)
theorem t_324 : Cond.instanceMethod ⟨"CoughBids$Script", "readOrder", "()Z"⟩ ∈ zWd := z_tb 572 (by decide +kernel) (by decide +kernel)
theorem t_325 : Cond.selects "CoughBids$Script" ⟨"CoughBids$Script", "readOrder", "()Z"⟩ ⟨"CoughBids$Script", "readOrder", "()Z"⟩ ∈ zWd := z_sl 7 (by decide +kernel) (by decide +kernel)
theorem vX3_performOn_42 : zSV mX3_performOn 42 mX3_readOrder 0 3 := ⟨⟨oX3_readOrder, by decide +kernel, by decide⟩, t_323, t_324, t_325, by decide, TX3, 9, rfl⟩
theorem t_326 : Cond.methodLink "CoughBids$Script" 45 ⟨"CoughBids$Script", "noteFault", "(III)V"⟩ ∈ zWd := z_tb 589 (by decide +kernel) (by decide +kernel)
theorem t_327 : Cond.instanceMethod ⟨"CoughBids$Script", "noteFault", "(III)V"⟩ ∈ zWd := z_tb 591 (by decide +kernel) (by decide +kernel)
theorem t_328 : Cond.selects "CoughBids$Script" ⟨"CoughBids$Script", "noteFault", "(III)V"⟩ ⟨"CoughBids$Script", "noteFault", "(III)V"⟩ ∈ zWd := z_sl 11 (by decide +kernel) (by decide +kernel)
theorem vX3_performOn_45 : zSV mX3_performOn 45 mX3_noteFault 3 3 := ⟨⟨oX3_noteFault, by decide +kernel, by decide⟩, t_326, t_327, t_328, by decide, TX3, 9, rfl⟩
theorem t_329 : Cond.methodLink "CoughBids$Script" 53 ⟨"CoughBids$Auction", "carryOut", "(C[I)I"⟩ ∈ zWd := z_tb 593 (by decide +kernel) (by decide +kernel)
theorem t_330 : Cond.instanceMethod ⟨"CoughBids$Auction", "carryOut", "(C[I)I"⟩ ∈ zWd := z_tb 594 (by decide +kernel) (by decide +kernel)
theorem t_331 : Cond.selects "CoughBids$Auction" ⟨"CoughBids$Auction", "carryOut", "(C[I)I"⟩ ⟨"CoughBids$Auction", "carryOut", "(C[I)I"⟩ ∈ zWd := z_tb 595 (by decide +kernel) (by decide +kernel)
theorem vX3_performOn_53 : zSV mX3_performOn 53 mX0_carryOut 2 0 := ⟨⟨oX0_carryOut, by decide +kernel, by decide⟩, t_329, t_330, t_331, by decide, TX0, 17, rfl⟩
theorem t_332 : Cond.methodLink "CoughBids$Script" 65 ⟨"CoughBids$Script", "next", "()C"⟩ ∈ zWd := z_tb 574 (by decide +kernel) (by decide +kernel)
theorem t_333 : Cond.instanceMethod ⟨"CoughBids$Script", "next", "()C"⟩ ∈ zWd := z_tb 576 (by decide +kernel) (by decide +kernel)
theorem t_334 : Cond.selects "CoughBids$Script" ⟨"CoughBids$Script", "next", "()C"⟩ ⟨"CoughBids$Script", "next", "()C"⟩ ∈ zWd := z_sl 8 (by decide +kernel) (by decide +kernel)
theorem vX3_readOrder_65 : zSV mX3_readOrder 65 mX3_next 0 3 := ⟨⟨oX3_next, by decide +kernel, by decide⟩, t_332, t_333, t_334, by decide, TX3, 9, rfl⟩
theorem t_335 : Cond.methodLink "CoughBids$Script" 69 ⟨"CoughBids$Script", "numbersOf", "(C)I"⟩ ∈ zWd := z_tb 578 (by decide +kernel) (by decide +kernel)
theorem t_336 : Cond.static ⟨"CoughBids$Script", "numbersOf", "(C)I"⟩ ∈ zWd := z_tb 579 (by decide +kernel) (by decide +kernel)
theorem vX3_readOrder_69 : zSS mX3_readOrder 69 mX3_numbersOf 1 := ⟨⟨oX3_numbersOf, by decide +kernel, by decide⟩, Or.inl t_335, t_336⟩
theorem t_337 : Cond.methodLink "CoughBids$Script" 73 ⟨"CoughBids$Script", "readCharacter", "(C)Z"⟩ ∈ zWd := z_tb 581 (by decide +kernel) (by decide +kernel)
theorem t_338 : Cond.instanceMethod ⟨"CoughBids$Script", "readCharacter", "(C)Z"⟩ ∈ zWd := z_tb 583 (by decide +kernel) (by decide +kernel)
theorem t_339 : Cond.selects "CoughBids$Script" ⟨"CoughBids$Script", "readCharacter", "(C)Z"⟩ ⟨"CoughBids$Script", "readCharacter", "(C)Z"⟩ ∈ zWd := z_sl 9 (by decide +kernel) (by decide +kernel)
theorem vX3_readOrder_73 : zSV mX3_readOrder 73 mX3_readCharacter 1 3 := ⟨⟨oX3_readCharacter, by decide +kernel, by decide⟩, t_337, t_338, t_339, by decide, TX3, 9, rfl⟩
theorem t_340 : Cond.methodLink "CoughBids$Script" 77 ⟨"CoughBids$Script", "readNumber", "(I)Z"⟩ ∈ zWd := z_tb 585 (by decide +kernel) (by decide +kernel)
theorem t_341 : Cond.instanceMethod ⟨"CoughBids$Script", "readNumber", "(I)Z"⟩ ∈ zWd := z_tb 587 (by decide +kernel) (by decide +kernel)
theorem t_342 : Cond.selects "CoughBids$Script" ⟨"CoughBids$Script", "readNumber", "(I)Z"⟩ ⟨"CoughBids$Script", "readNumber", "(I)Z"⟩ ∈ zWd := z_sl 10 (by decide +kernel) (by decide +kernel)
theorem vX3_readOrder_77 : zSV mX3_readOrder 77 mX3_readNumber 1 3 := ⟨⟨oX3_readNumber, by decide +kernel, by decide⟩, t_340, t_341, t_342, by decide, TX3, 9, rfl⟩
theorem vX3_readCharacter_65 : zSV mX3_readCharacter 65 mX3_next 0 3 := ⟨⟨oX3_next, by decide +kernel, by decide⟩, t_332, t_333, t_334, by decide, TX3, 9, rfl⟩
theorem vX3_readNumber_65 : zSV mX3_readNumber 65 mX3_next 0 3 := ⟨⟨oX3_next, by decide +kernel, by decide⟩, t_332, t_333, t_334, by decide, TX3, 9, rfl⟩
theorem vX3_readNumber_23 : zSS mX3_readNumber 23 mX4_isWithin 3 := ⟨⟨oX4_isWithin, by decide +kernel, by decide⟩, Or.inr ⟨"CoughBids", by decide +kernel⟩, t_230⟩
theorem t_343 : Cond.methodLink "CoughBids" 15 ⟨"CoughBids$Auction", "<init>", "()V"⟩ ∈ zWd := z_tb 22 (by decide +kernel) (by decide +kernel)
theorem t_344 : Cond.instanceMethod ⟨"CoughBids$Auction", "<init>", "()V"⟩ ∈ zWd := z_tb 23 (by decide +kernel) (by decide +kernel)
theorem vX4_init_15 : zSI mX4_init 15 mX0_init 0 := ⟨⟨oX0_init, by decide +kernel, by decide⟩, Or.inl t_343, t_344, rfl, rfl⟩
theorem t_345 : Cond.instanceMethod ⟨"CoughBids$Script", "<init>", "()V"⟩ ∈ zWd := z_tb 192 (by decide +kernel) (by decide +kernel)
theorem vX4_init_18 : zSI mX4_init 18 mX3_init 0 := ⟨⟨oX3_init, by decide +kernel, by decide⟩, Or.inr ⟨"CoughBids", by decide +kernel⟩, t_345, rfl, rfl⟩
theorem t_346 : Cond.methodLink "CoughBids" 34 ⟨"CoughBids$Auction", "copyFrom", "(LCoughBids$Auction;)V"⟩ ∈ zWd := z_tb 249 (by decide +kernel) (by decide +kernel)
theorem t_347 : Cond.instanceMethod ⟨"CoughBids$Auction", "copyFrom", "(LCoughBids$Auction;)V"⟩ ∈ zWd := z_tb 250 (by decide +kernel) (by decide +kernel)
theorem t_348 : Cond.selects "CoughBids$Auction" ⟨"CoughBids$Auction", "copyFrom", "(LCoughBids$Auction;)V"⟩ ⟨"CoughBids$Auction", "copyFrom", "(LCoughBids$Auction;)V"⟩ ∈ zWd := z_tb 251 (by decide +kernel) (by decide +kernel)
theorem vX4_bidder_34 : zSV mX4_bidder 34 mX0_copyFrom 1 0 := ⟨⟨oX0_copyFrom, by decide +kernel, by decide⟩, t_346, t_347, t_348, by decide, TX0, 17, rfl⟩
theorem t_349 : Cond.methodLink "CoughBids" 38 ⟨"CoughBids$Auction", "seatBidder", "(IIII)I"⟩ ∈ zWd := z_tb 264 (by decide +kernel) (by decide +kernel)
theorem vX4_bidder_38 : zSV mX4_bidder 38 mX0_seatBidder 4 0 := ⟨⟨oX0_seatBidder, by decide +kernel, by decide⟩, t_349, t_300, t_301, by decide, TX0, 17, rfl⟩
theorem t_350 : Cond.methodLink "CoughBids" 42 ⟨"CoughBids", "keep", "(I)I"⟩ ∈ zWd := z_tb 287 (by decide +kernel) (by decide +kernel)
theorem t_351 : Cond.instanceMethod ⟨"CoughBids", "keep", "(I)I"⟩ ∈ zWd := z_tb 289 (by decide +kernel) (by decide +kernel)
theorem t_352 : Cond.selects "CoughBids" ⟨"CoughBids", "keep", "(I)I"⟩ ⟨"CoughBids", "keep", "(I)I"⟩ ∈ zWd := z_sl 0 (by decide +kernel) (by decide +kernel)
theorem vX4_bidder_42 : zSV mX4_bidder 42 mX4_keep 1 4 := ⟨⟨oX4_keep, by decide +kernel, by decide⟩, t_350, t_351, t_352, by decide, TX4, 5, rfl⟩
theorem vX4_catches_34 : zSV mX4_catches 34 mX0_copyFrom 1 0 := ⟨⟨oX0_copyFrom, by decide +kernel, by decide⟩, t_346, t_347, t_348, by decide, TX0, 17, rfl⟩
theorem t_353 : Cond.methodLink "CoughBids" 46 ⟨"CoughBids$Auction", "changeCold", "(II)I"⟩ ∈ zWd := z_tb 299 (by decide +kernel) (by decide +kernel)
theorem t_354 : Cond.instanceMethod ⟨"CoughBids$Auction", "changeCold", "(II)I"⟩ ∈ zWd := z_tb 300 (by decide +kernel) (by decide +kernel)
theorem t_355 : Cond.selects "CoughBids$Auction" ⟨"CoughBids$Auction", "changeCold", "(II)I"⟩ ⟨"CoughBids$Auction", "changeCold", "(II)I"⟩ ∈ zWd := z_tb 301 (by decide +kernel) (by decide +kernel)
theorem vX4_catches_46 : zSV mX4_catches 46 mX0_changeCold 2 0 := ⟨⟨oX0_changeCold, by decide +kernel, by decide⟩, t_353, t_354, t_355, by decide, TX0, 17, rfl⟩
theorem vX4_catches_42 : zSV mX4_catches 42 mX4_keep 1 4 := ⟨⟨oX4_keep, by decide +kernel, by decide⟩, t_350, t_351, t_352, by decide, TX4, 5, rfl⟩
theorem vX4_muffle_34 : zSV mX4_muffle 34 mX0_copyFrom 1 0 := ⟨⟨oX0_copyFrom, by decide +kernel, by decide⟩, t_346, t_347, t_348, by decide, TX0, 17, rfl⟩
theorem t_356 : Cond.methodLink "CoughBids" 50 ⟨"CoughBids$Auction", "changeMuffler", "(II)I"⟩ ∈ zWd := z_tb 311 (by decide +kernel) (by decide +kernel)
theorem vX4_muffle_50 : zSV mX4_muffle 50 mX0_changeMuffler 2 0 := ⟨⟨oX0_changeMuffler, by decide +kernel, by decide⟩, t_356, t_306, t_307, by decide, TX0, 17, rfl⟩
theorem vX4_muffle_42 : zSV mX4_muffle 42 mX4_keep 1 4 := ⟨⟨oX4_keep, by decide +kernel, by decide⟩, t_350, t_351, t_352, by decide, TX4, 5, rfl⟩
theorem vX4_lot_34 : zSV mX4_lot 34 mX0_copyFrom 1 0 := ⟨⟨oX0_copyFrom, by decide +kernel, by decide⟩, t_346, t_347, t_348, by decide, TX0, 17, rfl⟩
theorem t_357 : Cond.methodLink "CoughBids" 53 ⟨"CoughBids$Auction", "addLot", "(II)I"⟩ ∈ zWd := z_tb 319 (by decide +kernel) (by decide +kernel)
theorem vX4_lot_53 : zSV mX4_lot 53 mX0_addLot 2 0 := ⟨⟨oX0_addLot, by decide +kernel, by decide⟩, t_357, t_303, t_304, by decide, TX0, 17, rfl⟩
theorem vX4_lot_42 : zSV mX4_lot 42 mX4_keep 1 4 := ⟨⟨oX4_keep, by decide +kernel, by decide⟩, t_350, t_351, t_352, by decide, TX4, 5, rfl⟩
theorem vX4_putUp_34 : zSV mX4_putUp 34 mX0_copyFrom 1 0 := ⟨⟨oX0_copyFrom, by decide +kernel, by decide⟩, t_346, t_347, t_348, by decide, TX0, 17, rfl⟩
theorem t_358 : Cond.methodLink "CoughBids" 56 ⟨"CoughBids$Auction", "raiseNextLot", "()I"⟩ ∈ zWd := z_tb 331 (by decide +kernel) (by decide +kernel)
theorem vX4_putUp_56 : zSV mX4_putUp 56 mX0_raiseNextLot 0 0 := ⟨⟨oX0_raiseNextLot, by decide +kernel, by decide⟩, t_358, t_312, t_313, by decide, TX0, 17, rfl⟩
theorem vX4_putUp_42 : zSV mX4_putUp 42 mX4_keep 1 4 := ⟨⟨oX4_keep, by decide +kernel, by decide⟩, t_350, t_351, t_352, by decide, TX4, 5, rfl⟩
theorem vX4_cough_34 : zSV mX4_cough 34 mX0_copyFrom 1 0 := ⟨⟨oX0_copyFrom, by decide +kernel, by decide⟩, t_346, t_347, t_348, by decide, TX0, 17, rfl⟩
theorem t_359 : Cond.methodLink "CoughBids" 60 ⟨"CoughBids$Auction", "takeCough", "(IZ)I"⟩ ∈ zWd := z_tb 339 (by decide +kernel) (by decide +kernel)
theorem vX4_cough_60 : zSV mX4_cough 60 mX0_takeCough 2 0 := ⟨⟨oX0_takeCough, by decide +kernel, by decide⟩, t_359, t_271, t_272, by decide, TX0, 17, rfl⟩
theorem vX4_cough_42 : zSV mX4_cough 42 mX4_keep 1 4 := ⟨⟨oX4_keep, by decide +kernel, by decide⟩, t_350, t_351, t_352, by decide, TX4, 5, rfl⟩
theorem vX4_beats_34 : zSV mX4_beats 34 mX0_copyFrom 1 0 := ⟨⟨oX0_copyFrom, by decide +kernel, by decide⟩, t_346, t_347, t_348, by decide, TX0, 17, rfl⟩
theorem t_360 : Cond.methodLink "CoughBids" 64 ⟨"CoughBids$Auction", "passBeats", "(I)I"⟩ ∈ zWd := z_tb 375 (by decide +kernel) (by decide +kernel)
theorem vX4_beats_64 : zSV mX4_beats 64 mX0_passBeats 1 0 := ⟨⟨oX0_passBeats, by decide +kernel, by decide⟩, t_360, t_309, t_310, by decide, TX0, 17, rfl⟩
theorem vX4_beats_42 : zSV mX4_beats 42 mX4_keep 1 4 := ⟨⟨oX4_keep, by decide +kernel, by decide⟩, t_350, t_351, t_352, by decide, TX4, 5, rfl⟩
theorem vX4_night_34 : zSV mX4_night 34 mX0_copyFrom 1 0 := ⟨⟨oX0_copyFrom, by decide +kernel, by decide⟩, t_346, t_347, t_348, by decide, TX0, 17, rfl⟩
theorem t_361 : Cond.methodLink "CoughBids" 67 ⟨"CoughBids$Auction", "passNight", "()I"⟩ ∈ zWd := z_tb 404 (by decide +kernel) (by decide +kernel)
theorem vX4_night_67 : zSV mX4_night 67 mX0_passNight 0 0 := ⟨⟨oX0_passNight, by decide +kernel, by decide⟩, t_361, t_315, t_316, by decide, TX0, 17, rfl⟩
theorem vX4_night_42 : zSV mX4_night 42 mX4_keep 1 4 := ⟨⟨oX4_keep, by decide +kernel, by decide⟩, t_350, t_351, t_352, by decide, TX4, 5, rfl⟩
theorem vX4_set_34 : zSV mX4_set 34 mX0_copyFrom 1 0 := ⟨⟨oX0_copyFrom, by decide +kernel, by decide⟩, t_346, t_347, t_348, by decide, TX0, 17, rfl⟩
theorem t_362 : Cond.methodLink "CoughBids" 70 ⟨"CoughBids$Auction", "changeSetting", "(II)I"⟩ ∈ zWd := z_tb 440 (by decide +kernel) (by decide +kernel)
theorem t_363 : Cond.instanceMethod ⟨"CoughBids$Auction", "changeSetting", "(II)I"⟩ ∈ zWd := z_tb 441 (by decide +kernel) (by decide +kernel)
theorem t_364 : Cond.selects "CoughBids$Auction" ⟨"CoughBids$Auction", "changeSetting", "(II)I"⟩ ⟨"CoughBids$Auction", "changeSetting", "(II)I"⟩ ∈ zWd := z_tb 442 (by decide +kernel) (by decide +kernel)
theorem vX4_set_70 : zSV mX4_set 70 mX0_changeSetting 2 0 := ⟨⟨oX0_changeSetting, by decide +kernel, by decide⟩, t_362, t_363, t_364, by decide, TX0, 17, rfl⟩
theorem vX4_set_42 : zSV mX4_set 42 mX4_keep 1 4 := ⟨⟨oX4_keep, by decide +kernel, by decide⟩, t_350, t_351, t_352, by decide, TX4, 5, rfl⟩
theorem t_365 : Cond.methodLink "CoughBids" 73 ⟨"CoughBids$Auction", "hasBidder", "(I)Z"⟩ ∈ zWd := z_tb 448 (by decide +kernel) (by decide +kernel)
theorem vX4_bidderOf_73 : zSV mX4_bidderOf 73 mX0_hasBidder 1 0 := ⟨⟨oX0_hasBidder, by decide +kernel, by decide⟩, t_365, t_238, t_239, by decide, TX0, 17, rfl⟩
theorem t_366 : Cond.methodLink "CoughBids" 82 ⟨"CoughBids$Bidder", "tell", "(I)I"⟩ ∈ zWd := z_tb 450 (by decide +kernel) (by decide +kernel)
theorem t_367 : Cond.instanceMethod ⟨"CoughBids$Bidder", "tell", "(I)I"⟩ ∈ zWd := z_tb 451 (by decide +kernel) (by decide +kernel)
theorem t_368 : Cond.selects "CoughBids$Bidder" ⟨"CoughBids$Bidder", "tell", "(I)I"⟩ ⟨"CoughBids$Bidder", "tell", "(I)I"⟩ ∈ zWd := z_tb 452 (by decide +kernel) (by decide +kernel)
theorem vX4_bidderOf_82 : zSV mX4_bidderOf 82 mX1_tell 1 1 := ⟨⟨oX1_tell, by decide +kernel, by decide⟩, t_366, t_367, t_368, by decide, TX1, 11, rfl⟩
theorem t_369 : Cond.methodLink "CoughBids" 87 ⟨"CoughBids", "isSeat", "(II)Z"⟩ ∈ zWd := z_tb 460 (by decide +kernel) (by decide +kernel)
theorem vX4_at_87 : zSS mX4_at 87 mX4_isSeat 2 := ⟨⟨oX4_isSeat, by decide +kernel, by decide⟩, Or.inl t_369, t_229⟩
theorem t_370 : Cond.methodLink "CoughBids" 91 ⟨"CoughBids$Auction", "findSeated", "(II)I"⟩ ∈ zWd := z_tb 461 (by decide +kernel) (by decide +kernel)
theorem vX4_at_91 : zSV mX4_at 91 mX0_findSeated 2 0 := ⟨⟨oX0_findSeated, by decide +kernel, by decide⟩, t_370, t_232, t_233, by decide, TX0, 17, rfl⟩
theorem t_371 : Cond.methodLink "CoughBids" 94 ⟨"CoughBids", "isWithin", "(III)Z"⟩ ∈ zWd := z_tb 271 (by decide +kernel) (by decide +kernel)
theorem vX4_up_94 : zSS mX4_up 94 mX4_isWithin 3 := ⟨⟨oX4_isWithin, by decide +kernel, by decide⟩, Or.inl t_371, t_230⟩
theorem t_372 : Cond.methodLink "CoughBids" 107 ⟨"CoughBids$Lot", "tellUp", "(I)I"⟩ ∈ zWd := z_tb 467 (by decide +kernel) (by decide +kernel)
theorem t_373 : Cond.instanceMethod ⟨"CoughBids$Lot", "tellUp", "(I)I"⟩ ∈ zWd := z_tb 468 (by decide +kernel) (by decide +kernel)
theorem t_374 : Cond.selects "CoughBids$Lot" ⟨"CoughBids$Lot", "tellUp", "(I)I"⟩ ⟨"CoughBids$Lot", "tellUp", "(I)I"⟩ ∈ zWd := z_tb 469 (by decide +kernel) (by decide +kernel)
theorem vX4_up_107 : zSV mX4_up 107 mX2_tellUp 1 2 := ⟨⟨oX2_tellUp, by decide +kernel, by decide⟩, t_372, t_373, t_374, by decide, TX2, 10, rfl⟩
theorem vX4_waiting_94 : zSS mX4_waiting 94 mX4_isWithin 3 := ⟨⟨oX4_isWithin, by decide +kernel, by decide⟩, Or.inl t_371, t_230⟩
theorem vX4_book_94 : zSS mX4_book 94 mX4_isWithin 3 := ⟨⟨oX4_isWithin, by decide +kernel, by decide⟩, Or.inl t_371, t_230⟩
theorem t_375 : Cond.methodLink "CoughBids" 132 ⟨"CoughBids$Lot", "tellGone", "(I)I"⟩ ∈ zWd := z_tb 484 (by decide +kernel) (by decide +kernel)
theorem t_376 : Cond.instanceMethod ⟨"CoughBids$Lot", "tellGone", "(I)I"⟩ ∈ zWd := z_tb 485 (by decide +kernel) (by decide +kernel)
theorem t_377 : Cond.selects "CoughBids$Lot" ⟨"CoughBids$Lot", "tellGone", "(I)I"⟩ ⟨"CoughBids$Lot", "tellGone", "(I)I"⟩ ∈ zWd := z_tb 486 (by decide +kernel) (by decide +kernel)
theorem vX4_book_132 : zSV mX4_book 132 mX2_tellGone 1 2 := ⟨⟨oX2_tellGone, by decide +kernel, by decide⟩, t_375, t_376, t_377, by decide, TX2, 10, rfl⟩
theorem vX4_why_73 : zSV mX4_why 73 mX0_hasBidder 1 0 := ⟨⟨oX0_hasBidder, by decide +kernel, by decide⟩, t_365, t_238, t_239, by decide, TX0, 17, rfl⟩
theorem t_378 : Cond.methodLink "CoughBids" 135 ⟨"CoughBids$Auction", "reasonAgainst", "(I)I"⟩ ∈ zWd := z_tb 492 (by decide +kernel) (by decide +kernel)
theorem vX4_why_135 : zSV mX4_why 135 mX0_reasonAgainst 1 0 := ⟨⟨oX0_reasonAgainst, by decide +kernel, by decide⟩, t_378, t_253, t_254, by decide, TX0, 17, rfl⟩
theorem vX4_ifBeats_94 : zSS mX4_ifBeats 94 mX4_isWithin 3 := ⟨⟨oX4_isWithin, by decide +kernel, by decide⟩, Or.inl t_371, t_230⟩
theorem vX4_ifBeats_34 : zSV mX4_ifBeats 34 mX0_copyFrom 1 0 := ⟨⟨oX0_copyFrom, by decide +kernel, by decide⟩, t_346, t_347, t_348, by decide, TX0, 17, rfl⟩
theorem t_379 : Cond.methodLink "CoughBids" 138 ⟨"CoughBids$Auction", "passBeat", "()V"⟩ ∈ zWd := z_tb 497 (by decide +kernel) (by decide +kernel)
theorem vX4_ifBeats_138 : zSV mX4_ifBeats 138 mX0_passBeat 0 0 := ⟨⟨oX0_passBeat, by decide +kernel, by decide⟩, t_379, t_265, t_266, by decide, TX0, 17, rfl⟩
theorem vX4_goneIn_34 : zSV mX4_goneIn 34 mX0_copyFrom 1 0 := ⟨⟨oX0_copyFrom, by decide +kernel, by decide⟩, t_346, t_347, t_348, by decide, TX0, 17, rfl⟩
theorem vX4_goneIn_138 : zSV mX4_goneIn 138 mX0_passBeat 0 0 := ⟨⟨oX0_passBeat, by decide +kernel, by decide⟩, t_379, t_265, t_266, by decide, TX0, 17, rfl⟩
theorem t_380 : Cond.methodLink "CoughBids" 157 ⟨"CoughBids$Auction", "isDueToCough", "(I)Z"⟩ ∈ zWd := z_tb 506 (by decide +kernel) (by decide +kernel)
theorem vX4_coughing_157 : zSV mX4_coughing 157 mX0_isDueToCough 1 0 := ⟨⟨oX0_isDueToCough, by decide +kernel, by decide⟩, t_380, t_268, t_269, by decide, TX0, 17, rfl⟩
theorem t_381 : Cond.methodLink "CoughBids" 160 ⟨"CoughBids$Bidder", "loudness", "()I"⟩ ∈ zWd := z_tb 511 (by decide +kernel) (by decide +kernel)
theorem vX4_loudest_160 : zSV mX4_loudest 160 mX1_loudness 0 1 := ⟨⟨oX1_loudness, by decide +kernel, by decide⟩, t_381, t_244, t_245, by decide, TX1, 11, rfl⟩
theorem vX4_ifNights_94 : zSS mX4_ifNights 94 mX4_isWithin 3 := ⟨⟨oX4_isWithin, by decide +kernel, by decide⟩, Or.inl t_371, t_230⟩
theorem vX4_ifNights_34 : zSV mX4_ifNights 34 mX0_copyFrom 1 0 := ⟨⟨oX0_copyFrom, by decide +kernel, by decide⟩, t_346, t_347, t_348, by decide, TX0, 17, rfl⟩
theorem t_382 : Cond.methodLink "CoughBids" 163 ⟨"CoughBids$Auction", "spreadColds", "()V"⟩ ∈ zWd := z_tb 516 (by decide +kernel) (by decide +kernel)
theorem vX4_ifNights_163 : zSV mX4_ifNights 163 mX0_spreadColds 0 0 := ⟨⟨oX0_spreadColds, by decide +kernel, by decide⟩, t_382, t_283, t_284, by decide, TX0, 17, rfl⟩
theorem t_383 : Cond.methodLink "CoughBids" 166 ⟨"CoughBids$Auction", "bidderSetWithCold", "()I"⟩ ∈ zWd := z_tb 517 (by decide +kernel) (by decide +kernel)
theorem vX4_ifNights_166 : zSV mX4_ifNights 166 mX0_bidderSetWithCold 0 0 := ⟨⟨oX0_bidderSetWithCold, by decide +kernel, by decide⟩, t_383, t_286, t_287, by decide, TX0, 17, rfl⟩
theorem t_384 : Cond.methodLink "CoughBids" 169 ⟨"java/lang/Integer", "bitCount", "(I)I"⟩ ∈ zWd := z_tb 518 (by decide +kernel) (by decide +kernel)
theorem vX4_ifNights_169 : zSS mX4_ifNights 169 mJ6_bitCount_0f7a4 1 := ⟨⟨oJ6_bitCount_0f7a4, by decide +kernel, by decide⟩, Or.inl t_384, t_289⟩
theorem t_385 : Cond.methodLink "CoughBids" 174 ⟨"CoughBids", "bitsOf", "(F)I"⟩ ∈ zWd := z_tb 523 (by decide +kernel) (by decide +kernel)
theorem t_386 : Cond.static ⟨"CoughBids", "bitsOf", "(F)I"⟩ ∈ zWd := z_tb 524 (by decide +kernel) (by decide +kernel)
theorem vX4_mean_174 : zSS mX4_mean 174 mX4_bitsOf 1 := ⟨⟨oX4_bitsOf, by decide +kernel, by decide⟩, Or.inl t_385, t_386⟩
theorem t_387 : Cond.methodLink "CoughBids" 181 ⟨"CoughBids$Auction", "total", "(I)I"⟩ ∈ zWd := z_tb 531 (by decide +kernel) (by decide +kernel)
theorem t_388 : Cond.instanceMethod ⟨"CoughBids$Auction", "total", "(I)I"⟩ ∈ zWd := z_tb 532 (by decide +kernel) (by decide +kernel)
theorem t_389 : Cond.selects "CoughBids$Auction" ⟨"CoughBids$Auction", "total", "(I)I"⟩ ⟨"CoughBids$Auction", "total", "(I)I"⟩ ∈ zWd := z_tb 533 (by decide +kernel) (by decide +kernel)
theorem vX4_count_181 : zSV mX4_count 181 mX0_total 1 0 := ⟨⟨oX0_total, by decide +kernel, by decide⟩, t_387, t_388, t_389, by decide, TX0, 17, rfl⟩
theorem t_390 : Cond.methodLink "CoughBids" 184 ⟨"CoughBids$Script", "append", "(I)I"⟩ ∈ zWd := z_tb 547 (by decide +kernel) (by decide +kernel)
theorem t_391 : Cond.instanceMethod ⟨"CoughBids$Script", "append", "(I)I"⟩ ∈ zWd := z_tb 548 (by decide +kernel) (by decide +kernel)
theorem t_392 : Cond.selects "CoughBids$Script" ⟨"CoughBids$Script", "append", "(I)I"⟩ ⟨"CoughBids$Script", "append", "(I)I"⟩ ∈ zWd := z_tb 549 (by decide +kernel) (by decide +kernel)
theorem vX4_type_184 : zSV mX4_type 184 mX3_append 1 3 := ⟨⟨oX3_append, by decide +kernel, by decide⟩, t_390, t_391, t_392, by decide, TX3, 9, rfl⟩
theorem vX4_fault_94 : zSS mX4_fault 94 mX4_isWithin 3 := ⟨⟨oX4_isWithin, by decide +kernel, by decide⟩, Or.inl t_371, t_230⟩
theorem vX4_fault_34 : zSV mX4_fault 34 mX0_copyFrom 1 0 := ⟨⟨oX0_copyFrom, by decide +kernel, by decide⟩, t_346, t_347, t_348, by decide, TX0, 17, rfl⟩
theorem t_393 : Cond.methodLink "CoughBids" 187 ⟨"CoughBids$Script", "performOn", "(LCoughBids$Auction;)V"⟩ ∈ zWd := z_tb 562 (by decide +kernel) (by decide +kernel)
theorem t_394 : Cond.instanceMethod ⟨"CoughBids$Script", "performOn", "(LCoughBids$Auction;)V"⟩ ∈ zWd := z_tb 563 (by decide +kernel) (by decide +kernel)
theorem t_395 : Cond.selects "CoughBids$Script" ⟨"CoughBids$Script", "performOn", "(LCoughBids$Auction;)V"⟩ ⟨"CoughBids$Script", "performOn", "(LCoughBids$Auction;)V"⟩ ∈ zWd := z_tb 564 (by decide +kernel) (by decide +kernel)
theorem vX4_fault_187 : zSV mX4_fault 187 mX3_performOn 1 3 := ⟨⟨oX3_performOn, by decide +kernel, by decide⟩, t_393, t_394, t_395, by decide, TX3, 9, rfl⟩
theorem t_396 : Cond.methodLink "CoughBids" 190 ⟨"CoughBids$Script", "hasFault", "()Z"⟩ ∈ zWd := z_tb 603 (by decide +kernel) (by decide +kernel)
theorem vX4_fault_190 : zSV mX4_fault 190 mX3_hasFault 0 3 := ⟨⟨oX3_hasFault, by decide +kernel, by decide⟩, t_396, t_321, t_322, by decide, TX3, 9, rfl⟩
theorem vX4_play_34 : zSV mX4_play 34 mX0_copyFrom 1 0 := ⟨⟨oX0_copyFrom, by decide +kernel, by decide⟩, t_346, t_347, t_348, by decide, TX0, 17, rfl⟩
theorem vX4_play_187 : zSV mX4_play 187 mX3_performOn 1 3 := ⟨⟨oX3_performOn, by decide +kernel, by decide⟩, t_393, t_394, t_395, by decide, TX3, 9, rfl⟩
theorem vX4_play_190 : zSV mX4_play 190 mX3_hasFault 0 3 := ⟨⟨oX3_hasFault, by decide +kernel, by decide⟩, t_396, t_321, t_322, by decide, TX3, 9, rfl⟩
theorem vX4_play_42 : zSV mX4_play 42 mX4_keep 1 4 := ⟨⟨oX4_keep, by decide +kernel, by decide⟩, t_350, t_351, t_352, by decide, TX4, 5, rfl⟩
theorem t_397 : Cond.methodLink "CoughBids" 206 ⟨"CoughBids", "dropOldest", "()V"⟩ ∈ zWd := z_tb 291 (by decide +kernel) (by decide +kernel)
theorem t_398 : Cond.instanceMethod ⟨"CoughBids", "dropOldest", "()V"⟩ ∈ zWd := z_tb 293 (by decide +kernel) (by decide +kernel)
theorem t_399 : Cond.selects "CoughBids" ⟨"CoughBids", "dropOldest", "()V"⟩ ⟨"CoughBids", "dropOldest", "()V"⟩ ∈ zWd := z_sl 1 (by decide +kernel) (by decide +kernel)
theorem vX4_keep_206 : zSV mX4_keep 206 mX4_dropOldest 0 4 := ⟨⟨oX4_dropOldest, by decide +kernel, by decide⟩, t_397, t_398, t_399, by decide, TX4, 5, rfl⟩
theorem vX4_isSeat_94 : zSS mX4_isSeat 94 mX4_isWithin 3 := ⟨⟨oX4_isWithin, by decide +kernel, by decide⟩, Or.inl t_371, t_230⟩
theorem t_400 : Cond.methodLink "CoughBidsModel" 36 ⟨"CoughBidsModel", "in", "(III)Z"⟩ ∈ zWd := z_tb 667 (by decide +kernel) (by decide +kernel)
theorem t_401 : Cond.static ⟨"CoughBidsModel", "in", "(III)Z"⟩ ∈ zWd := z_tb 668 (by decide +kernel) (by decide +kernel)
theorem vX5_isBidder_36 : zSS mX5_isBidder 36 mX5_in 3 := ⟨⟨oX5_in, by decide +kernel, by decide⟩, Or.inl t_400, t_401⟩
theorem vX5_isSeat_36 : zSS mX5_isSeat 36 mX5_in 3 := ⟨⟨oX5_in, by decide +kernel, by decide⟩, Or.inl t_400, t_401⟩
theorem t_402 : Cond.methodLink "CoughBidsModel" 40 ⟨"CoughBidsModel", "of", "(II)I"⟩ ∈ zWd := z_tb 675 (by decide +kernel) (by decide +kernel)
theorem t_403 : Cond.instanceMethod ⟨"CoughBidsModel", "of", "(II)I"⟩ ∈ zWd := z_tb 677 (by decide +kernel) (by decide +kernel)
theorem t_404 : Cond.selects "CoughBidsModel" ⟨"CoughBidsModel", "of", "(II)I"⟩ ⟨"CoughBidsModel", "of", "(II)I"⟩ ∈ zWd := z_sl 13 (by decide +kernel) (by decide +kernel)
theorem vX5_seated_40 : zSV mX5_seated 40 mX5_of 2 5 := ⟨⟨oX5_of, by decide +kernel, by decide⟩, t_402, t_403, t_404, by decide, TX5, 15, rfl⟩
theorem vX5_loud_40 : zSV mX5_loud 40 mX5_of 2 5 := ⟨⟨oX5_of, by decide +kernel, by decide⟩, t_402, t_403, t_404, by decide, TX5, 15, rfl⟩
theorem t_405 : Cond.methodLink "CoughBidsModel" 45 ⟨"CoughBidsModel", "loud", "(I)I"⟩ ∈ zWd := z_tb 722 (by decide +kernel) (by decide +kernel)
theorem t_406 : Cond.instanceMethod ⟨"CoughBidsModel", "loud", "(I)I"⟩ ∈ zWd := z_tb 724 (by decide +kernel) (by decide +kernel)
theorem t_407 : Cond.selects "CoughBidsModel" ⟨"CoughBidsModel", "loud", "(I)I"⟩ ⟨"CoughBidsModel", "loud", "(I)I"⟩ ∈ zWd := z_sl 19 (by decide +kernel) (by decide +kernel)
theorem vX5_barred_45 : zSV mX5_barred 45 mX5_loud 1 5 := ⟨⟨oX5_loud, by decide +kernel, by decide⟩, t_405, t_406, t_407, by decide, TX5, 15, rfl⟩
theorem vX5_barred_40 : zSV mX5_barred 40 mX5_of 2 5 := ⟨⟨oX5_of, by decide +kernel, by decide⟩, t_402, t_403, t_404, by decide, TX5, 15, rfl⟩
theorem t_408 : Cond.methodLink "CoughBidsModel" 49 ⟨"CoughBidsModel", "asked", "()I"⟩ ∈ zWd := z_tb 726 (by decide +kernel) (by decide +kernel)
theorem t_409 : Cond.instanceMethod ⟨"CoughBidsModel", "asked", "()I"⟩ ∈ zWd := z_tb 728 (by decide +kernel) (by decide +kernel)
theorem t_410 : Cond.selects "CoughBidsModel" ⟨"CoughBidsModel", "asked", "()I"⟩ ⟨"CoughBidsModel", "asked", "()I"⟩ ∈ zWd := z_sl 20 (by decide +kernel) (by decide +kernel)
theorem vX5_barred_49 : zSV mX5_barred 49 mX5_asked 0 5 := ⟨⟨oX5_asked, by decide +kernel, by decide⟩, t_408, t_409, t_410, by decide, TX5, 15, rfl⟩
theorem t_411 : Cond.methodLink "CoughBidsModel" 53 ⟨"CoughBidsModel", "barred", "(I)I"⟩ ∈ zWd := z_tb 718 (by decide +kernel) (by decide +kernel)
theorem t_412 : Cond.instanceMethod ⟨"CoughBidsModel", "barred", "(I)I"⟩ ∈ zWd := z_tb 720 (by decide +kernel) (by decide +kernel)
theorem t_413 : Cond.selects "CoughBidsModel" ⟨"CoughBidsModel", "barred", "(I)I"⟩ ⟨"CoughBidsModel", "barred", "(I)I"⟩ ∈ zWd := z_sl 18 (by decide +kernel) (by decide +kernel)
theorem vX5_coughs_53 : zSV mX5_coughs 53 mX5_barred 1 5 := ⟨⟨oX5_barred, by decide +kernel, by decide⟩, t_411, t_412, t_413, by decide, TX5, 15, rfl⟩
theorem t_414 : Cond.methodLink "CoughBidsModel" 56 ⟨"CoughBidsModel", "adds", "(III)V"⟩ ∈ zWd := z_tb 730 (by decide +kernel) (by decide +kernel)
theorem t_415 : Cond.instanceMethod ⟨"CoughBidsModel", "adds", "(III)V"⟩ ∈ zWd := z_tb 732 (by decide +kernel) (by decide +kernel)
theorem t_416 : Cond.selects "CoughBidsModel" ⟨"CoughBidsModel", "adds", "(III)V"⟩ ⟨"CoughBidsModel", "adds", "(III)V"⟩ ∈ zWd := z_sl 21 (by decide +kernel) (by decide +kernel)
theorem vX5_coughs_56 : zSV mX5_coughs 56 mX5_adds 3 5 := ⟨⟨oX5_adds, by decide +kernel, by decide⟩, t_414, t_415, t_416, by decide, TX5, 15, rfl⟩
theorem vX5_coughs_49 : zSV mX5_coughs 49 mX5_asked 0 5 := ⟨⟨oX5_asked, by decide +kernel, by decide⟩, t_408, t_409, t_410, by decide, TX5, 15, rfl⟩
theorem vX5_coughs_40 : zSV mX5_coughs 40 mX5_of 2 5 := ⟨⟨oX5_of, by decide +kernel, by decide⟩, t_402, t_403, t_404, by decide, TX5, 15, rfl⟩
theorem t_417 : Cond.methodLink "CoughBidsModel" 60 ⟨"CoughBidsModel", "goes", "(I)V"⟩ ∈ zWd := z_tb 734 (by decide +kernel) (by decide +kernel)
theorem t_418 : Cond.instanceMethod ⟨"CoughBidsModel", "goes", "(I)V"⟩ ∈ zWd := z_tb 736 (by decide +kernel) (by decide +kernel)
theorem t_419 : Cond.selects "CoughBidsModel" ⟨"CoughBidsModel", "goes", "(I)V"⟩ ⟨"CoughBidsModel", "goes", "(I)V"⟩ ∈ zWd := z_sl 22 (by decide +kernel) (by decide +kernel)
theorem vX5_coughs_60 : zSV mX5_coughs 60 mX5_goes 1 5 := ⟨⟨oX5_goes, by decide +kernel, by decide⟩, t_417, t_418, t_419, by decide, TX5, 15, rfl⟩
theorem vX5_coughsNext_40 : zSV mX5_coughsNext 40 mX5_of 2 5 := ⟨⟨oX5_of, by decide +kernel, by decide⟩, t_402, t_403, t_404, by decide, TX5, 15, rfl⟩
theorem vX5_hammers_60 : zSV mX5_hammers 60 mX5_goes 1 5 := ⟨⟨oX5_goes, by decide +kernel, by decide⟩, t_417, t_418, t_419, by decide, TX5, 15, rfl⟩
theorem vX5_hammers_56 : zSV mX5_hammers 56 mX5_adds 3 5 := ⟨⟨oX5_adds, by decide +kernel, by decide⟩, t_414, t_415, t_416, by decide, TX5, 15, rfl⟩
theorem t_420 : Cond.methodLink "CoughBidsModel" 64 ⟨"CoughBidsModel", "coughsNext", "(I)Z"⟩ ∈ zWd := z_tb 754 (by decide +kernel) (by decide +kernel)
theorem t_421 : Cond.instanceMethod ⟨"CoughBidsModel", "coughsNext", "(I)Z"⟩ ∈ zWd := z_tb 756 (by decide +kernel) (by decide +kernel)
theorem t_422 : Cond.selects "CoughBidsModel" ⟨"CoughBidsModel", "coughsNext", "(I)Z"⟩ ⟨"CoughBidsModel", "coughsNext", "(I)Z"⟩ ∈ zWd := z_sl 26 (by decide +kernel) (by decide +kernel)
theorem vX5_beat_64 : zSV mX5_beat 64 mX5_coughsNext 1 5 := ⟨⟨oX5_coughsNext, by decide +kernel, by decide⟩, t_420, t_421, t_422, by decide, TX5, 15, rfl⟩
theorem t_423 : Cond.methodLink "CoughBidsModel" 68 ⟨"CoughBidsModel", "coughs", "(II)I"⟩ ∈ zWd := z_tb 714 (by decide +kernel) (by decide +kernel)
theorem t_424 : Cond.instanceMethod ⟨"CoughBidsModel", "coughs", "(II)I"⟩ ∈ zWd := z_tb 716 (by decide +kernel) (by decide +kernel)
theorem t_425 : Cond.selects "CoughBidsModel" ⟨"CoughBidsModel", "coughs", "(II)I"⟩ ⟨"CoughBidsModel", "coughs", "(II)I"⟩ ∈ zWd := z_sl 17 (by decide +kernel) (by decide +kernel)
theorem vX5_beat_68 : zSV mX5_beat 68 mX5_coughs 2 5 := ⟨⟨oX5_coughs, by decide +kernel, by decide⟩, t_423, t_424, t_425, by decide, TX5, 15, rfl⟩
theorem t_426 : Cond.methodLink "CoughBidsModel" 71 ⟨"CoughBidsModel", "hammers", "()V"⟩ ∈ zWd := z_tb 758 (by decide +kernel) (by decide +kernel)
theorem t_427 : Cond.instanceMethod ⟨"CoughBidsModel", "hammers", "()V"⟩ ∈ zWd := z_tb 760 (by decide +kernel) (by decide +kernel)
theorem t_428 : Cond.selects "CoughBidsModel" ⟨"CoughBidsModel", "hammers", "()V"⟩ ⟨"CoughBidsModel", "hammers", "()V"⟩ ∈ zWd := z_sl 27 (by decide +kernel) (by decide +kernel)
theorem vX5_beat_71 : zSV mX5_beat 71 mX5_hammers 0 5 := ⟨⟨oX5_hammers, by decide +kernel, by decide⟩, t_426, t_427, t_428, by decide, TX5, 15, rfl⟩
theorem t_429 : Cond.methodLink "CoughBidsModel" 74 ⟨"CoughBidsModel", "isSeat", "(II)Z"⟩ ∈ zWd := z_tb 664 (by decide +kernel) (by decide +kernel)
theorem t_430 : Cond.static ⟨"CoughBidsModel", "isSeat", "(II)Z"⟩ ∈ zWd := z_tb 665 (by decide +kernel) (by decide +kernel)
theorem vX5_bidder_74 : zSS mX5_bidder 74 mX5_isSeat 2 := ⟨⟨oX5_isSeat, by decide +kernel, by decide⟩, Or.inl t_429, t_430⟩
theorem vX5_bidder_36 : zSS mX5_bidder 36 mX5_in 3 := ⟨⟨oX5_in, by decide +kernel, by decide⟩, Or.inl t_400, t_401⟩
theorem t_431 : Cond.methodLink "CoughBidsModel" 79 ⟨"CoughBidsModel", "seated", "(II)I"⟩ ∈ zWd := z_tb 671 (by decide +kernel) (by decide +kernel)
theorem t_432 : Cond.instanceMethod ⟨"CoughBidsModel", "seated", "(II)I"⟩ ∈ zWd := z_tb 673 (by decide +kernel) (by decide +kernel)
theorem t_433 : Cond.selects "CoughBidsModel" ⟨"CoughBidsModel", "seated", "(II)I"⟩ ⟨"CoughBidsModel", "seated", "(II)I"⟩ ∈ zWd := z_sl 12 (by decide +kernel) (by decide +kernel)
theorem vX5_bidder_79 : zSV mX5_bidder 79 mX5_seated 2 5 := ⟨⟨oX5_seated, by decide +kernel, by decide⟩, t_431, t_432, t_433, by decide, TX5, 15, rfl⟩
theorem t_434 : Cond.methodLink "CoughBidsModel" 84 ⟨"CoughBidsModel", "changes", "()V"⟩ ∈ zWd := z_tb 682 (by decide +kernel) (by decide +kernel)
theorem t_435 : Cond.instanceMethod ⟨"CoughBidsModel", "changes", "()V"⟩ ∈ zWd := z_tb 684 (by decide +kernel) (by decide +kernel)
theorem t_436 : Cond.selects "CoughBidsModel" ⟨"CoughBidsModel", "changes", "()V"⟩ ⟨"CoughBidsModel", "changes", "()V"⟩ ∈ zWd := z_sl 14 (by decide +kernel) (by decide +kernel)
theorem vX5_bidder_84 : zSV mX5_bidder 84 mX5_changes 0 5 := ⟨⟨oX5_changes, by decide +kernel, by decide⟩, t_434, t_435, t_436, by decide, TX5, 15, rfl⟩
theorem t_437 : Cond.methodLink "CoughBidsModel" 87 ⟨"CoughBidsModel", "lay", "(III)V"⟩ ∈ zWd := z_tb 686 (by decide +kernel) (by decide +kernel)
theorem t_438 : Cond.instanceMethod ⟨"CoughBidsModel", "lay", "(III)V"⟩ ∈ zWd := z_tb 688 (by decide +kernel) (by decide +kernel)
theorem t_439 : Cond.selects "CoughBidsModel" ⟨"CoughBidsModel", "lay", "(III)V"⟩ ⟨"CoughBidsModel", "lay", "(III)V"⟩ ∈ zWd := z_sl 15 (by decide +kernel) (by decide +kernel)
theorem vX5_bidder_87 : zSV mX5_bidder 87 mX5_lay 3 5 := ⟨⟨oX5_lay, by decide +kernel, by decide⟩, t_437, t_438, t_439, by decide, TX5, 15, rfl⟩
theorem t_440 : Cond.methodLink "CoughBidsModel" 90 ⟨"CoughBidsModel", "isBidder", "(I)Z"⟩ ∈ zWd := z_tb 694 (by decide +kernel) (by decide +kernel)
theorem t_441 : Cond.instanceMethod ⟨"CoughBidsModel", "isBidder", "(I)Z"⟩ ∈ zWd := z_tb 696 (by decide +kernel) (by decide +kernel)
theorem t_442 : Cond.selects "CoughBidsModel" ⟨"CoughBidsModel", "isBidder", "(I)Z"⟩ ⟨"CoughBidsModel", "isBidder", "(I)Z"⟩ ∈ zWd := z_sl 16 (by decide +kernel) (by decide +kernel)
theorem vX5_catches_90 : zSV mX5_catches 90 mX5_isBidder 1 5 := ⟨⟨oX5_isBidder, by decide +kernel, by decide⟩, t_440, t_441, t_442, by decide, TX5, 15, rfl⟩
theorem vX5_catches_36 : zSS mX5_catches 36 mX5_in 3 := ⟨⟨oX5_in, by decide +kernel, by decide⟩, Or.inl t_400, t_401⟩
theorem vX5_catches_84 : zSV mX5_catches 84 mX5_changes 0 5 := ⟨⟨oX5_changes, by decide +kernel, by decide⟩, t_434, t_435, t_436, by decide, TX5, 15, rfl⟩
theorem vX5_catches_40 : zSV mX5_catches 40 mX5_of 2 5 := ⟨⟨oX5_of, by decide +kernel, by decide⟩, t_402, t_403, t_404, by decide, TX5, 15, rfl⟩
theorem vX5_catches_87 : zSV mX5_catches 87 mX5_lay 3 5 := ⟨⟨oX5_lay, by decide +kernel, by decide⟩, t_437, t_438, t_439, by decide, TX5, 15, rfl⟩
theorem vX5_muffle_90 : zSV mX5_muffle 90 mX5_isBidder 1 5 := ⟨⟨oX5_isBidder, by decide +kernel, by decide⟩, t_440, t_441, t_442, by decide, TX5, 15, rfl⟩
theorem vX5_muffle_36 : zSS mX5_muffle 36 mX5_in 3 := ⟨⟨oX5_in, by decide +kernel, by decide⟩, Or.inl t_400, t_401⟩
theorem vX5_muffle_84 : zSV mX5_muffle 84 mX5_changes 0 5 := ⟨⟨oX5_changes, by decide +kernel, by decide⟩, t_434, t_435, t_436, by decide, TX5, 15, rfl⟩
theorem vX5_muffle_40 : zSV mX5_muffle 40 mX5_of 2 5 := ⟨⟨oX5_of, by decide +kernel, by decide⟩, t_402, t_403, t_404, by decide, TX5, 15, rfl⟩
theorem vX5_muffle_87 : zSV mX5_muffle 87 mX5_lay 3 5 := ⟨⟨oX5_lay, by decide +kernel, by decide⟩, t_437, t_438, t_439, by decide, TX5, 15, rfl⟩
theorem vX5_lot_36 : zSS mX5_lot 36 mX5_in 3 := ⟨⟨oX5_in, by decide +kernel, by decide⟩, Or.inl t_400, t_401⟩
theorem vX5_lot_84 : zSV mX5_lot 84 mX5_changes 0 5 := ⟨⟨oX5_changes, by decide +kernel, by decide⟩, t_434, t_435, t_436, by decide, TX5, 15, rfl⟩
theorem vX5_putUp_84 : zSV mX5_putUp 84 mX5_changes 0 5 := ⟨⟨oX5_changes, by decide +kernel, by decide⟩, t_434, t_435, t_436, by decide, TX5, 15, rfl⟩
theorem vX5_cough_90 : zSV mX5_cough 90 mX5_isBidder 1 5 := ⟨⟨oX5_isBidder, by decide +kernel, by decide⟩, t_440, t_441, t_442, by decide, TX5, 15, rfl⟩
theorem vX5_cough_84 : zSV mX5_cough 84 mX5_changes 0 5 := ⟨⟨oX5_changes, by decide +kernel, by decide⟩, t_434, t_435, t_436, by decide, TX5, 15, rfl⟩
theorem vX5_cough_68 : zSV mX5_cough 68 mX5_coughs 2 5 := ⟨⟨oX5_coughs, by decide +kernel, by decide⟩, t_423, t_424, t_425, by decide, TX5, 15, rfl⟩
theorem t_443 : Cond.methodLink "CoughBidsModel" 93 ⟨"CoughBidsModel", "beat", "()V"⟩ ∈ zWd := z_tb 750 (by decide +kernel) (by decide +kernel)
theorem t_444 : Cond.instanceMethod ⟨"CoughBidsModel", "beat", "()V"⟩ ∈ zWd := z_tb 752 (by decide +kernel) (by decide +kernel)
theorem t_445 : Cond.selects "CoughBidsModel" ⟨"CoughBidsModel", "beat", "()V"⟩ ⟨"CoughBidsModel", "beat", "()V"⟩ ∈ zWd := z_sl 25 (by decide +kernel) (by decide +kernel)
theorem vX5_pass_93 : zSV mX5_pass 93 mX5_beat 0 5 := ⟨⟨oX5_beat, by decide +kernel, by decide⟩, t_443, t_444, t_445, by decide, TX5, 15, rfl⟩
theorem vX5_beats_36 : zSS mX5_beats 36 mX5_in 3 := ⟨⟨oX5_in, by decide +kernel, by decide⟩, Or.inl t_400, t_401⟩
theorem vX5_beats_84 : zSV mX5_beats 84 mX5_changes 0 5 := ⟨⟨oX5_changes, by decide +kernel, by decide⟩, t_434, t_435, t_436, by decide, TX5, 15, rfl⟩
theorem t_446 : Cond.methodLink "CoughBidsModel" 96 ⟨"CoughBidsModel", "gone", "()I"⟩ ∈ zWd := z_tb 742 (by decide +kernel) (by decide +kernel)
theorem t_447 : Cond.instanceMethod ⟨"CoughBidsModel", "gone", "()I"⟩ ∈ zWd := z_tb 744 (by decide +kernel) (by decide +kernel)
theorem t_448 : Cond.selects "CoughBidsModel" ⟨"CoughBidsModel", "gone", "()I"⟩ ⟨"CoughBidsModel", "gone", "()I"⟩ ∈ zWd := z_sl 23 (by decide +kernel) (by decide +kernel)
theorem vX5_beats_96 : zSV mX5_beats 96 mX5_gone 0 5 := ⟨⟨oX5_gone, by decide +kernel, by decide⟩, t_446, t_447, t_448, by decide, TX5, 15, rfl⟩
theorem t_449 : Cond.methodLink "CoughBidsModel" 99 ⟨"CoughBidsModel", "pass", "(I)V"⟩ ∈ zWd := z_tb 746 (by decide +kernel) (by decide +kernel)
theorem t_450 : Cond.instanceMethod ⟨"CoughBidsModel", "pass", "(I)V"⟩ ∈ zWd := z_tb 748 (by decide +kernel) (by decide +kernel)
theorem t_451 : Cond.selects "CoughBidsModel" ⟨"CoughBidsModel", "pass", "(I)V"⟩ ⟨"CoughBidsModel", "pass", "(I)V"⟩ ∈ zWd := z_sl 24 (by decide +kernel) (by decide +kernel)
theorem vX5_beats_99 : zSV mX5_beats 99 mX5_pass 1 5 := ⟨⟨oX5_pass, by decide +kernel, by decide⟩, t_449, t_450, t_451, by decide, TX5, 15, rfl⟩
theorem vX5_catchesFrom_36 : zSS mX5_catchesFrom 36 mX5_in 3 := ⟨⟨oX5_in, by decide +kernel, by decide⟩, Or.inl t_400, t_401⟩
theorem vX5_catchesFrom_79 : zSV mX5_catchesFrom 79 mX5_seated 2 5 := ⟨⟨oX5_seated, by decide +kernel, by decide⟩, t_431, t_432, t_433, by decide, TX5, 15, rfl⟩
theorem vX5_catchesFrom_40 : zSV mX5_catchesFrom 40 mX5_of 2 5 := ⟨⟨oX5_of, by decide +kernel, by decide⟩, t_402, t_403, t_404, by decide, TX5, 15, rfl⟩
theorem vX5_nightPasses_40 : zSV mX5_nightPasses 40 mX5_of 2 5 := ⟨⟨oX5_of, by decide +kernel, by decide⟩, t_402, t_403, t_404, by decide, TX5, 15, rfl⟩
theorem t_452 : Cond.methodLink "CoughBidsModel" 102 ⟨"CoughBidsModel", "catchesFrom", "(II)Z"⟩ ∈ zWd := z_tb 770 (by decide +kernel) (by decide +kernel)
theorem t_453 : Cond.instanceMethod ⟨"CoughBidsModel", "catchesFrom", "(II)Z"⟩ ∈ zWd := z_tb 772 (by decide +kernel) (by decide +kernel)
theorem t_454 : Cond.selects "CoughBidsModel" ⟨"CoughBidsModel", "catchesFrom", "(II)Z"⟩ ⟨"CoughBidsModel", "catchesFrom", "(II)Z"⟩ ∈ zWd := z_sl 29 (by decide +kernel) (by decide +kernel)
theorem vX5_nightPasses_102 : zSV mX5_nightPasses 102 mX5_catchesFrom 2 5 := ⟨⟨oX5_catchesFrom, by decide +kernel, by decide⟩, t_452, t_453, t_454, by decide, TX5, 15, rfl⟩
theorem vX5_nightPasses_87 : zSV mX5_nightPasses 87 mX5_lay 3 5 := ⟨⟨oX5_lay, by decide +kernel, by decide⟩, t_437, t_438, t_439, by decide, TX5, 15, rfl⟩
theorem vX5_colds_40 : zSV mX5_colds 40 mX5_of 2 5 := ⟨⟨oX5_of, by decide +kernel, by decide⟩, t_402, t_403, t_404, by decide, TX5, 15, rfl⟩
theorem vX5_night_84 : zSV mX5_night 84 mX5_changes 0 5 := ⟨⟨oX5_changes, by decide +kernel, by decide⟩, t_434, t_435, t_436, by decide, TX5, 15, rfl⟩
theorem t_455 : Cond.methodLink "CoughBidsModel" 105 ⟨"CoughBidsModel", "nightPasses", "()V"⟩ ∈ zWd := z_tb 766 (by decide +kernel) (by decide +kernel)
theorem t_456 : Cond.instanceMethod ⟨"CoughBidsModel", "nightPasses", "()V"⟩ ∈ zWd := z_tb 768 (by decide +kernel) (by decide +kernel)
theorem t_457 : Cond.selects "CoughBidsModel" ⟨"CoughBidsModel", "nightPasses", "()V"⟩ ⟨"CoughBidsModel", "nightPasses", "()V"⟩ ∈ zWd := z_sl 28 (by decide +kernel) (by decide +kernel)
theorem vX5_night_105 : zSV mX5_night 105 mX5_nightPasses 0 5 := ⟨⟨oX5_nightPasses, by decide +kernel, by decide⟩, t_455, t_456, t_457, by decide, TX5, 15, rfl⟩
theorem t_458 : Cond.methodLink "CoughBidsModel" 108 ⟨"CoughBidsModel", "colds", "()I"⟩ ∈ zWd := z_tb 774 (by decide +kernel) (by decide +kernel)
theorem t_459 : Cond.instanceMethod ⟨"CoughBidsModel", "colds", "()I"⟩ ∈ zWd := z_tb 776 (by decide +kernel) (by decide +kernel)
theorem t_460 : Cond.selects "CoughBidsModel" ⟨"CoughBidsModel", "colds", "()I"⟩ ⟨"CoughBidsModel", "colds", "()I"⟩ ∈ zWd := z_sl 30 (by decide +kernel) (by decide +kernel)
theorem vX5_night_108 : zSV mX5_night 108 mX5_colds 0 5 := ⟨⟨oX5_colds, by decide +kernel, by decide⟩, t_458, t_459, t_460, by decide, TX5, 15, rfl⟩
theorem t_461 : Cond.methodLink "CoughBidsModel" 111 ⟨"CoughBidsModel", "bits", "(I)I"⟩ ∈ zWd := z_tb 778 (by decide +kernel) (by decide +kernel)
theorem t_462 : Cond.static ⟨"CoughBidsModel", "bits", "(I)I"⟩ ∈ zWd := z_tb 779 (by decide +kernel) (by decide +kernel)
theorem vX5_night_111 : zSS mX5_night 111 mX5_bits 1 := ⟨⟨oX5_bits, by decide +kernel, by decide⟩, Or.inl t_461, t_462⟩
theorem vX5_set_36 : zSS mX5_set 36 mX5_in 3 := ⟨⟨oX5_in, by decide +kernel, by decide⟩, Or.inl t_400, t_401⟩
theorem vX5_set_84 : zSV mX5_set 84 mX5_changes 0 5 := ⟨⟨oX5_changes, by decide +kernel, by decide⟩, t_434, t_435, t_436, by decide, TX5, 15, rfl⟩
theorem vX5_bidderOf_90 : zSV mX5_bidderOf 90 mX5_isBidder 1 5 := ⟨⟨oX5_isBidder, by decide +kernel, by decide⟩, t_440, t_441, t_442, by decide, TX5, 15, rfl⟩
theorem vX5_bidderOf_36 : zSS mX5_bidderOf 36 mX5_in 3 := ⟨⟨oX5_in, by decide +kernel, by decide⟩, Or.inl t_400, t_401⟩
theorem vX5_bidderOf_40 : zSV mX5_bidderOf 40 mX5_of 2 5 := ⟨⟨oX5_of, by decide +kernel, by decide⟩, t_402, t_403, t_404, by decide, TX5, 15, rfl⟩
theorem vX5_bidderOf_45 : zSV mX5_bidderOf 45 mX5_loud 1 5 := ⟨⟨oX5_loud, by decide +kernel, by decide⟩, t_405, t_406, t_407, by decide, TX5, 15, rfl⟩
theorem vX5_at_74 : zSS mX5_at 74 mX5_isSeat 2 := ⟨⟨oX5_isSeat, by decide +kernel, by decide⟩, Or.inl t_429, t_430⟩
theorem vX5_at_79 : zSV mX5_at 79 mX5_seated 2 5 := ⟨⟨oX5_seated, by decide +kernel, by decide⟩, t_431, t_432, t_433, by decide, TX5, 15, rfl⟩
theorem vX5_up_36 : zSS mX5_up 36 mX5_in 3 := ⟨⟨oX5_in, by decide +kernel, by decide⟩, Or.inl t_400, t_401⟩
theorem vX5_up_49 : zSV mX5_up 49 mX5_asked 0 5 := ⟨⟨oX5_asked, by decide +kernel, by decide⟩, t_408, t_409, t_410, by decide, TX5, 15, rfl⟩
theorem vX5_waiting_36 : zSS mX5_waiting 36 mX5_in 3 := ⟨⟨oX5_in, by decide +kernel, by decide⟩, Or.inl t_400, t_401⟩
theorem vX5_book_36 : zSS mX5_book 36 mX5_in 3 := ⟨⟨oX5_in, by decide +kernel, by decide⟩, Or.inl t_400, t_401⟩
theorem vX5_why_90 : zSV mX5_why 90 mX5_isBidder 1 5 := ⟨⟨oX5_isBidder, by decide +kernel, by decide⟩, t_440, t_441, t_442, by decide, TX5, 15, rfl⟩
theorem vX5_why_53 : zSV mX5_why 53 mX5_barred 1 5 := ⟨⟨oX5_barred, by decide +kernel, by decide⟩, t_411, t_412, t_413, by decide, TX5, 15, rfl⟩
theorem vX5_ifBeats_36 : zSS mX5_ifBeats 36 mX5_in 3 := ⟨⟨oX5_in, by decide +kernel, by decide⟩, Or.inl t_400, t_401⟩
theorem t_463 : Cond.methodLink "CoughBidsModel" 114 ⟨"CoughBidsModel", "copies", "([I[I)V"⟩ ∈ zWd := z_tb 813 (by decide +kernel) (by decide +kernel)
theorem t_464 : Cond.static ⟨"CoughBidsModel", "copies", "([I[I)V"⟩ ∈ zWd := z_tb 814 (by decide +kernel) (by decide +kernel)
theorem vX5_ifBeats_114 : zSS mX5_ifBeats 114 mX5_copies 2 := ⟨⟨oX5_copies, by decide +kernel, by decide⟩, Or.inl t_463, t_464⟩
theorem vX5_ifBeats_99 : zSV mX5_ifBeats 99 mX5_pass 1 5 := ⟨⟨oX5_pass, by decide +kernel, by decide⟩, t_449, t_450, t_451, by decide, TX5, 15, rfl⟩
theorem vX5_goneIn_114 : zSS mX5_goneIn 114 mX5_copies 2 := ⟨⟨oX5_copies, by decide +kernel, by decide⟩, Or.inl t_463, t_464⟩
theorem vX5_goneIn_93 : zSV mX5_goneIn 93 mX5_beat 0 5 := ⟨⟨oX5_beat, by decide +kernel, by decide⟩, t_443, t_444, t_445, by decide, TX5, 15, rfl⟩
theorem vX5_coughing_64 : zSV mX5_coughing 64 mX5_coughsNext 1 5 := ⟨⟨oX5_coughsNext, by decide +kernel, by decide⟩, t_420, t_421, t_422, by decide, TX5, 15, rfl⟩
theorem vX5_loudest_45 : zSV mX5_loudest 45 mX5_loud 1 5 := ⟨⟨oX5_loud, by decide +kernel, by decide⟩, t_405, t_406, t_407, by decide, TX5, 15, rfl⟩
theorem vX5_ifNights_36 : zSS mX5_ifNights 36 mX5_in 3 := ⟨⟨oX5_in, by decide +kernel, by decide⟩, Or.inl t_400, t_401⟩
theorem vX5_ifNights_114 : zSS mX5_ifNights 114 mX5_copies 2 := ⟨⟨oX5_copies, by decide +kernel, by decide⟩, Or.inl t_463, t_464⟩
theorem vX5_ifNights_105 : zSV mX5_ifNights 105 mX5_nightPasses 0 5 := ⟨⟨oX5_nightPasses, by decide +kernel, by decide⟩, t_455, t_456, t_457, by decide, TX5, 15, rfl⟩
theorem vX5_ifNights_108 : zSV mX5_ifNights 108 mX5_colds 0 5 := ⟨⟨oX5_colds, by decide +kernel, by decide⟩, t_458, t_459, t_460, by decide, TX5, 15, rfl⟩
theorem vX5_ifNights_111 : zSS mX5_ifNights 111 mX5_bits 1 := ⟨⟨oX5_bits, by decide +kernel, by decide⟩, Or.inl t_461, t_462⟩
theorem t_465 : Cond.methodLink "CoughBidsModel" 118 ⟨"java/lang/Float", "floatToIntBits", "(F)I"⟩ ∈ zWd := z_tb 836 (by decide +kernel) (by decide +kernel)
theorem t_466 : Cond.static ⟨"java/lang/Float", "floatToIntBits", "(F)I"⟩ ∈ zWd := z_tb 837 (by decide +kernel) (by decide +kernel)
theorem vX5_mean_118 : zSS mX5_mean 118 mJxf58ca_floatToIntBits_5c35a 1 := ⟨⟨oJxf58ca_floatToIntBits_5c35a, by decide +kernel, by decide⟩, Or.inl t_465, t_466⟩
theorem vX5_byPurses_40 : zSV mX5_byPurses 40 mX5_of 2 5 := ⟨⟨oX5_of, by decide +kernel, by decide⟩, t_402, t_403, t_404, by decide, TX5, 15, rfl⟩
theorem t_467 : Cond.methodLink "CoughBidsModel" 124 ⟨"CoughBidsModel", "byPurses", "()I"⟩ ∈ zWd := z_tb 850 (by decide +kernel) (by decide +kernel)
theorem t_468 : Cond.instanceMethod ⟨"CoughBidsModel", "byPurses", "()I"⟩ ∈ zWd := z_tb 852 (by decide +kernel) (by decide +kernel)
theorem t_469 : Cond.selects "CoughBidsModel" ⟨"CoughBidsModel", "byPurses", "()I"⟩ ⟨"CoughBidsModel", "byPurses", "()I"⟩ ∈ zWd := z_sl 31 (by decide +kernel) (by decide +kernel)
theorem vX5_count_124 : zSV mX5_count 124 mX5_byPurses 0 5 := ⟨⟨oX5_byPurses, by decide +kernel, by decide⟩, t_467, t_468, t_469, by decide, TX5, 15, rfl⟩
theorem vX5_count_108 : zSV mX5_count 108 mX5_colds 0 5 := ⟨⟨oX5_colds, by decide +kernel, by decide⟩, t_458, t_459, t_460, by decide, TX5, 15, rfl⟩
theorem vX5_type_36 : zSS mX5_type 36 mX5_in 3 := ⟨⟨oX5_in, by decide +kernel, by decide⟩, Or.inl t_400, t_401⟩
theorem vX5_isAt_36 : zSS mX5_isAt 36 mX5_in 3 := ⟨⟨oX5_in, by decide +kernel, by decide⟩, Or.inl t_400, t_401⟩
theorem t_470 : Cond.methodLink "CoughBidsModel" 133 ⟨"CoughBidsModel", "isAt", "(II)Z"⟩ ∈ zWd := z_tb 878 (by decide +kernel) (by decide +kernel)
theorem t_471 : Cond.instanceMethod ⟨"CoughBidsModel", "isAt", "(II)Z"⟩ ∈ zWd := z_tb 880 (by decide +kernel) (by decide +kernel)
theorem t_472 : Cond.selects "CoughBidsModel" ⟨"CoughBidsModel", "isAt", "(II)Z"⟩ ⟨"CoughBidsModel", "isAt", "(II)Z"⟩ ∈ zWd := z_sl 34 (by decide +kernel) (by decide +kernel)
theorem vX5_sign_133 : zSV mX5_sign 133 mX5_isAt 2 5 := ⟨⟨oX5_isAt, by decide +kernel, by decide⟩, t_470, t_471, t_472, by decide, TX5, 15, rfl⟩
theorem vX5_numbered_133 : zSV mX5_numbered 133 mX5_isAt 2 5 := ⟨⟨oX5_isAt, by decide +kernel, by decide⟩, t_470, t_471, t_472, by decide, TX5, 15, rfl⟩
theorem vX5_parses_133 : zSV mX5_parses 133 mX5_isAt 2 5 := ⟨⟨oX5_isAt, by decide +kernel, by decide⟩, t_470, t_471, t_472, by decide, TX5, 15, rfl⟩
theorem t_473 : Cond.methodLink "CoughBidsModel" 139 ⟨"CoughBidsModel", "numbersOf", "(I)I"⟩ ∈ zWd := z_tb 882 (by decide +kernel) (by decide +kernel)
theorem t_474 : Cond.static ⟨"CoughBidsModel", "numbersOf", "(I)I"⟩ ∈ zWd := z_tb 883 (by decide +kernel) (by decide +kernel)
theorem vX5_parses_139 : zSS mX5_parses 139 mX5_numbersOf 1 := ⟨⟨oX5_numbersOf, by decide +kernel, by decide⟩, Or.inl t_473, t_474⟩
theorem t_475 : Cond.methodLink "CoughBidsModel" 142 ⟨"CoughBidsModel", "numbered", "(I)Z"⟩ ∈ zWd := z_tb 885 (by decide +kernel) (by decide +kernel)
theorem t_476 : Cond.instanceMethod ⟨"CoughBidsModel", "numbered", "(I)Z"⟩ ∈ zWd := z_tb 887 (by decide +kernel) (by decide +kernel)
theorem t_477 : Cond.selects "CoughBidsModel" ⟨"CoughBidsModel", "numbered", "(I)Z"⟩ ⟨"CoughBidsModel", "numbered", "(I)Z"⟩ ∈ zWd := z_sl 35 (by decide +kernel) (by decide +kernel)
theorem vX5_parses_142 : zSV mX5_parses 142 mX5_numbered 1 5 := ⟨⟨oX5_numbered, by decide +kernel, by decide⟩, t_475, t_476, t_477, by decide, TX5, 15, rfl⟩
theorem t_478 : Cond.methodLink "CoughBidsModel" 145 ⟨"CoughBidsModel", "sign", "(I)Z"⟩ ∈ zWd := z_tb 889 (by decide +kernel) (by decide +kernel)
theorem t_479 : Cond.instanceMethod ⟨"CoughBidsModel", "sign", "(I)Z"⟩ ∈ zWd := z_tb 891 (by decide +kernel) (by decide +kernel)
theorem t_480 : Cond.selects "CoughBidsModel" ⟨"CoughBidsModel", "sign", "(I)Z"⟩ ⟨"CoughBidsModel", "sign", "(I)Z"⟩ ∈ zWd := z_sl 36 (by decide +kernel) (by decide +kernel)
theorem vX5_parses_145 : zSV mX5_parses 145 mX5_sign 1 5 := ⟨⟨oX5_sign, by decide +kernel, by decide⟩, t_478, t_479, t_480, by decide, TX5, 15, rfl⟩
theorem t_481 : Cond.methodLink "CoughBidsModel" 148 ⟨"CoughBidsModel", "bidder", "(IIII)I"⟩ ∈ zWd := z_tb 897 (by decide +kernel) (by decide +kernel)
theorem t_482 : Cond.instanceMethod ⟨"CoughBidsModel", "bidder", "(IIII)I"⟩ ∈ zWd := z_tb 661 (by decide +kernel) (by decide +kernel)
theorem t_483 : Cond.selects "CoughBidsModel" ⟨"CoughBidsModel", "bidder", "(IIII)I"⟩ ⟨"CoughBidsModel", "bidder", "(IIII)I"⟩ ∈ zWd := z_tb 662 (by decide +kernel) (by decide +kernel)
theorem vX5_does_148 : zSV mX5_does 148 mX5_bidder 4 5 := ⟨⟨oX5_bidder, by decide +kernel, by decide⟩, t_481, t_482, t_483, by decide, TX5, 15, rfl⟩
theorem t_484 : Cond.methodLink "CoughBidsModel" 152 ⟨"CoughBidsModel", "lot", "(II)I"⟩ ∈ zWd := z_tb 898 (by decide +kernel) (by decide +kernel)
theorem t_485 : Cond.instanceMethod ⟨"CoughBidsModel", "lot", "(II)I"⟩ ∈ zWd := z_tb 703 (by decide +kernel) (by decide +kernel)
theorem t_486 : Cond.selects "CoughBidsModel" ⟨"CoughBidsModel", "lot", "(II)I"⟩ ⟨"CoughBidsModel", "lot", "(II)I"⟩ ∈ zWd := z_tb 704 (by decide +kernel) (by decide +kernel)
theorem vX5_does_152 : zSV mX5_does 152 mX5_lot 2 5 := ⟨⟨oX5_lot, by decide +kernel, by decide⟩, t_484, t_485, t_486, by decide, TX5, 15, rfl⟩
theorem t_487 : Cond.methodLink "CoughBidsModel" 155 ⟨"CoughBidsModel", "muffle", "(II)I"⟩ ∈ zWd := z_tb 899 (by decide +kernel) (by decide +kernel)
theorem t_488 : Cond.instanceMethod ⟨"CoughBidsModel", "muffle", "(II)I"⟩ ∈ zWd := z_tb 699 (by decide +kernel) (by decide +kernel)
theorem t_489 : Cond.selects "CoughBidsModel" ⟨"CoughBidsModel", "muffle", "(II)I"⟩ ⟨"CoughBidsModel", "muffle", "(II)I"⟩ ∈ zWd := z_tb 700 (by decide +kernel) (by decide +kernel)
theorem vX5_does_155 : zSV mX5_does 155 mX5_muffle 2 5 := ⟨⟨oX5_muffle, by decide +kernel, by decide⟩, t_487, t_488, t_489, by decide, TX5, 15, rfl⟩
theorem t_490 : Cond.methodLink "CoughBidsModel" 158 ⟨"CoughBidsModel", "cough", "(I)I"⟩ ∈ zWd := z_tb 900 (by decide +kernel) (by decide +kernel)
theorem t_491 : Cond.instanceMethod ⟨"CoughBidsModel", "cough", "(I)I"⟩ ∈ zWd := z_tb 711 (by decide +kernel) (by decide +kernel)
theorem t_492 : Cond.selects "CoughBidsModel" ⟨"CoughBidsModel", "cough", "(I)I"⟩ ⟨"CoughBidsModel", "cough", "(I)I"⟩ ∈ zWd := z_tb 712 (by decide +kernel) (by decide +kernel)
theorem vX5_does_158 : zSV mX5_does 158 mX5_cough 1 5 := ⟨⟨oX5_cough, by decide +kernel, by decide⟩, t_490, t_491, t_492, by decide, TX5, 15, rfl⟩
theorem t_493 : Cond.methodLink "CoughBidsModel" 161 ⟨"CoughBidsModel", "beats", "(I)I"⟩ ∈ zWd := z_tb 901 (by decide +kernel) (by decide +kernel)
theorem t_494 : Cond.instanceMethod ⟨"CoughBidsModel", "beats", "(I)I"⟩ ∈ zWd := z_tb 739 (by decide +kernel) (by decide +kernel)
theorem t_495 : Cond.selects "CoughBidsModel" ⟨"CoughBidsModel", "beats", "(I)I"⟩ ⟨"CoughBidsModel", "beats", "(I)I"⟩ ∈ zWd := z_tb 740 (by decide +kernel) (by decide +kernel)
theorem vX5_does_161 : zSV mX5_does 161 mX5_beats 1 5 := ⟨⟨oX5_beats, by decide +kernel, by decide⟩, t_493, t_494, t_495, by decide, TX5, 15, rfl⟩
theorem t_496 : Cond.methodLink "CoughBidsModel" 164 ⟨"CoughBidsModel", "putUp", "()I"⟩ ∈ zWd := z_tb 902 (by decide +kernel) (by decide +kernel)
theorem t_497 : Cond.instanceMethod ⟨"CoughBidsModel", "putUp", "()I"⟩ ∈ zWd := z_tb 707 (by decide +kernel) (by decide +kernel)
theorem t_498 : Cond.selects "CoughBidsModel" ⟨"CoughBidsModel", "putUp", "()I"⟩ ⟨"CoughBidsModel", "putUp", "()I"⟩ ∈ zWd := z_tb 708 (by decide +kernel) (by decide +kernel)
theorem vX5_does_164 : zSV mX5_does 164 mX5_putUp 0 5 := ⟨⟨oX5_putUp, by decide +kernel, by decide⟩, t_496, t_497, t_498, by decide, TX5, 15, rfl⟩
theorem t_499 : Cond.methodLink "CoughBidsModel" 167 ⟨"CoughBidsModel", "night", "()I"⟩ ∈ zWd := z_tb 903 (by decide +kernel) (by decide +kernel)
theorem t_500 : Cond.instanceMethod ⟨"CoughBidsModel", "night", "()I"⟩ ∈ zWd := z_tb 763 (by decide +kernel) (by decide +kernel)
theorem t_501 : Cond.selects "CoughBidsModel" ⟨"CoughBidsModel", "night", "()I"⟩ ⟨"CoughBidsModel", "night", "()I"⟩ ∈ zWd := z_tb 764 (by decide +kernel) (by decide +kernel)
theorem vX5_does_167 : zSV mX5_does 167 mX5_night 0 5 := ⟨⟨oX5_night, by decide +kernel, by decide⟩, t_499, t_500, t_501, by decide, TX5, 15, rfl⟩
theorem t_502 : Cond.methodLink "CoughBidsModel" 176 ⟨"CoughBidsModel", "parses", "()Z"⟩ ∈ zWd := z_tb 874 (by decide +kernel) (by decide +kernel)
theorem t_503 : Cond.instanceMethod ⟨"CoughBidsModel", "parses", "()Z"⟩ ∈ zWd := z_tb 876 (by decide +kernel) (by decide +kernel)
theorem t_504 : Cond.selects "CoughBidsModel" ⟨"CoughBidsModel", "parses", "()Z"⟩ ⟨"CoughBidsModel", "parses", "()Z"⟩ ∈ zWd := z_sl 33 (by decide +kernel) (by decide +kernel)
theorem vX5_plays_176 : zSV mX5_plays 176 mX5_parses 0 5 := ⟨⟨oX5_parses, by decide +kernel, by decide⟩, t_502, t_503, t_504, by decide, TX5, 15, rfl⟩
theorem t_505 : Cond.methodLink "CoughBidsModel" 180 ⟨"CoughBidsModel", "does", "()I"⟩ ∈ zWd := z_tb 893 (by decide +kernel) (by decide +kernel)
theorem t_506 : Cond.instanceMethod ⟨"CoughBidsModel", "does", "()I"⟩ ∈ zWd := z_tb 895 (by decide +kernel) (by decide +kernel)
theorem t_507 : Cond.selects "CoughBidsModel" ⟨"CoughBidsModel", "does", "()I"⟩ ⟨"CoughBidsModel", "does", "()I"⟩ ∈ zWd := z_sl 37 (by decide +kernel) (by decide +kernel)
theorem vX5_plays_180 : zSV mX5_plays 180 mX5_does 0 5 := ⟨⟨oX5_does, by decide +kernel, by decide⟩, t_505, t_506, t_507, by decide, TX5, 15, rfl⟩
theorem vX5_fault_36 : zSS mX5_fault 36 mX5_in 3 := ⟨⟨oX5_in, by decide +kernel, by decide⟩, Or.inl t_400, t_401⟩
theorem vX5_fault_114 : zSS mX5_fault 114 mX5_copies 2 := ⟨⟨oX5_copies, by decide +kernel, by decide⟩, Or.inl t_463, t_464⟩
theorem t_508 : Cond.methodLink "CoughBidsModel" 189 ⟨"CoughBidsModel", "plays", "()Z"⟩ ∈ zWd := z_tb 870 (by decide +kernel) (by decide +kernel)
theorem t_509 : Cond.instanceMethod ⟨"CoughBidsModel", "plays", "()Z"⟩ ∈ zWd := z_tb 872 (by decide +kernel) (by decide +kernel)
theorem t_510 : Cond.selects "CoughBidsModel" ⟨"CoughBidsModel", "plays", "()Z"⟩ ⟨"CoughBidsModel", "plays", "()Z"⟩ ∈ zWd := z_sl 32 (by decide +kernel) (by decide +kernel)
theorem vX5_fault_189 : zSV mX5_fault 189 mX5_plays 0 5 := ⟨⟨oX5_plays, by decide +kernel, by decide⟩, t_508, t_509, t_510, by decide, TX5, 15, rfl⟩
theorem vX5_play_114 : zSS mX5_play 114 mX5_copies 2 := ⟨⟨oX5_copies, by decide +kernel, by decide⟩, Or.inl t_463, t_464⟩
theorem vX5_play_189 : zSV mX5_play 189 mX5_plays 0 5 := ⟨⟨oX5_plays, by decide +kernel, by decide⟩, t_508, t_509, t_510, by decide, TX5, 15, rfl⟩
theorem vX5_play_84 : zSV mX5_play 84 mX5_changes 0 5 := ⟨⟨oX5_changes, by decide +kernel, by decide⟩, t_434, t_435, t_436, by decide, TX5, 15, rfl⟩
theorem t_511 : Cond.methodLink "java/lang/Float" 59 ⟨"java/lang/Float", "isNaN", "(F)Z"⟩ ∈ zWd := z_tb 839 (by decide +kernel) (by decide +kernel)
theorem t_512 : Cond.static ⟨"java/lang/Float", "isNaN", "(F)Z"⟩ ∈ zWd := z_tb 840 (by decide +kernel) (by decide +kernel)
theorem vJxf58ca_floatToIntBits_5c35a_59 : zSS mJxf58ca_floatToIntBits_5c35a 59 mJxf58ca_isNaN_12338 1 := ⟨⟨oJxf58ca_isNaN_12338, by decide +kernel, by decide⟩, Or.inl t_511, t_512⟩
theorem t_513 : Cond.methodLink "CoughBidsLaw" 9 ⟨"CoughBids", "<init>", "()V"⟩ ∈ zWd := z_tb 13 (by decide +kernel) (by decide +kernel)
theorem t_514 : Cond.instanceMethod ⟨"CoughBids", "<init>", "()V"⟩ ∈ zWd := z_tb 14 (by decide +kernel) (by decide +kernel)
theorem vL_law_9 : zSI mL_law 9 mX4_init 0 := ⟨⟨oX4_init, by decide +kernel, by decide⟩, Or.inl t_513, t_514, rfl, rfl⟩
theorem t_515 : Cond.methodLink "CoughBidsLaw" 12 ⟨"CoughBidsModel", "<init>", "()V"⟩ ∈ zWd := z_tb 610 (by decide +kernel) (by decide +kernel)
theorem t_516 : Cond.instanceMethod ⟨"CoughBidsModel", "<init>", "()V"⟩ ∈ zWd := z_tb 611 (by decide +kernel) (by decide +kernel)
theorem vL_law_12 : zSI mL_law 12 mX5_init 0 := ⟨⟨oX5_init, by decide +kernel, by decide⟩, Or.inl t_515, t_516, rfl, rfl⟩
theorem t_517 : Cond.methodLink "CoughBidsLaw" 13 ⟨"CoughBids", "bidder", "(IIII)I"⟩ ∈ zWd := z_tb 245 (by decide +kernel) (by decide +kernel)
theorem t_518 : Cond.instanceMethod ⟨"CoughBids", "bidder", "(IIII)I"⟩ ∈ zWd := z_tb 246 (by decide +kernel) (by decide +kernel)
theorem t_519 : Cond.selects "CoughBids" ⟨"CoughBids", "bidder", "(IIII)I"⟩ ⟨"CoughBids", "bidder", "(IIII)I"⟩ ∈ zWd := z_tb 247 (by decide +kernel) (by decide +kernel)
theorem vL_law_13 : zSV mL_law 13 mX4_bidder 4 4 := ⟨⟨oX4_bidder, by decide +kernel, by decide⟩, t_517, t_518, t_519, by decide, TX4, 5, rfl⟩
theorem t_520 : Cond.methodLink "CoughBidsLaw" 17 ⟨"CoughBidsModel", "bidder", "(IIII)I"⟩ ∈ zWd := z_tb 660 (by decide +kernel) (by decide +kernel)
theorem vL_law_17 : zSV mL_law 17 mX5_bidder 4 5 := ⟨⟨oX5_bidder, by decide +kernel, by decide⟩, t_520, t_482, t_483, by decide, TX5, 15, rfl⟩
theorem t_521 : Cond.methodLink "CoughBidsLaw" 18 ⟨"CoughBids", "catches", "(II)I"⟩ ∈ zWd := z_tb 295 (by decide +kernel) (by decide +kernel)
theorem t_522 : Cond.instanceMethod ⟨"CoughBids", "catches", "(II)I"⟩ ∈ zWd := z_tb 296 (by decide +kernel) (by decide +kernel)
theorem t_523 : Cond.selects "CoughBids" ⟨"CoughBids", "catches", "(II)I"⟩ ⟨"CoughBids", "catches", "(II)I"⟩ ∈ zWd := z_tb 297 (by decide +kernel) (by decide +kernel)
theorem vL_law_18 : zSV mL_law 18 mX4_catches 2 4 := ⟨⟨oX4_catches, by decide +kernel, by decide⟩, t_521, t_522, t_523, by decide, TX4, 5, rfl⟩
theorem t_524 : Cond.methodLink "CoughBidsLaw" 22 ⟨"CoughBidsModel", "catches", "(II)I"⟩ ∈ zWd := z_tb 690 (by decide +kernel) (by decide +kernel)
theorem t_525 : Cond.instanceMethod ⟨"CoughBidsModel", "catches", "(II)I"⟩ ∈ zWd := z_tb 691 (by decide +kernel) (by decide +kernel)
theorem t_526 : Cond.selects "CoughBidsModel" ⟨"CoughBidsModel", "catches", "(II)I"⟩ ⟨"CoughBidsModel", "catches", "(II)I"⟩ ∈ zWd := z_tb 692 (by decide +kernel) (by decide +kernel)
theorem vL_law_22 : zSV mL_law 22 mX5_catches 2 5 := ⟨⟨oX5_catches, by decide +kernel, by decide⟩, t_524, t_525, t_526, by decide, TX5, 15, rfl⟩
theorem t_527 : Cond.methodLink "CoughBidsLaw" 23 ⟨"CoughBids", "muffle", "(II)I"⟩ ∈ zWd := z_tb 307 (by decide +kernel) (by decide +kernel)
theorem t_528 : Cond.instanceMethod ⟨"CoughBids", "muffle", "(II)I"⟩ ∈ zWd := z_tb 308 (by decide +kernel) (by decide +kernel)
theorem t_529 : Cond.selects "CoughBids" ⟨"CoughBids", "muffle", "(II)I"⟩ ⟨"CoughBids", "muffle", "(II)I"⟩ ∈ zWd := z_tb 309 (by decide +kernel) (by decide +kernel)
theorem vL_law_23 : zSV mL_law 23 mX4_muffle 2 4 := ⟨⟨oX4_muffle, by decide +kernel, by decide⟩, t_527, t_528, t_529, by decide, TX4, 5, rfl⟩
theorem t_530 : Cond.methodLink "CoughBidsLaw" 26 ⟨"CoughBidsModel", "muffle", "(II)I"⟩ ∈ zWd := z_tb 698 (by decide +kernel) (by decide +kernel)
theorem vL_law_26 : zSV mL_law 26 mX5_muffle 2 5 := ⟨⟨oX5_muffle, by decide +kernel, by decide⟩, t_530, t_488, t_489, by decide, TX5, 15, rfl⟩
theorem t_531 : Cond.methodLink "CoughBidsLaw" 27 ⟨"CoughBids", "lot", "(II)I"⟩ ∈ zWd := z_tb 315 (by decide +kernel) (by decide +kernel)
theorem t_532 : Cond.instanceMethod ⟨"CoughBids", "lot", "(II)I"⟩ ∈ zWd := z_tb 316 (by decide +kernel) (by decide +kernel)
theorem t_533 : Cond.selects "CoughBids" ⟨"CoughBids", "lot", "(II)I"⟩ ⟨"CoughBids", "lot", "(II)I"⟩ ∈ zWd := z_tb 317 (by decide +kernel) (by decide +kernel)
theorem vL_law_27 : zSV mL_law 27 mX4_lot 2 4 := ⟨⟨oX4_lot, by decide +kernel, by decide⟩, t_531, t_532, t_533, by decide, TX4, 5, rfl⟩
theorem t_534 : Cond.methodLink "CoughBidsLaw" 30 ⟨"CoughBidsModel", "lot", "(II)I"⟩ ∈ zWd := z_tb 702 (by decide +kernel) (by decide +kernel)
theorem vL_law_30 : zSV mL_law 30 mX5_lot 2 5 := ⟨⟨oX5_lot, by decide +kernel, by decide⟩, t_534, t_485, t_486, by decide, TX5, 15, rfl⟩
theorem t_535 : Cond.methodLink "CoughBidsLaw" 31 ⟨"CoughBids", "putUp", "()I"⟩ ∈ zWd := z_tb 327 (by decide +kernel) (by decide +kernel)
theorem t_536 : Cond.instanceMethod ⟨"CoughBids", "putUp", "()I"⟩ ∈ zWd := z_tb 328 (by decide +kernel) (by decide +kernel)
theorem t_537 : Cond.selects "CoughBids" ⟨"CoughBids", "putUp", "()I"⟩ ⟨"CoughBids", "putUp", "()I"⟩ ∈ zWd := z_tb 329 (by decide +kernel) (by decide +kernel)
theorem vL_law_31 : zSV mL_law 31 mX4_putUp 0 4 := ⟨⟨oX4_putUp, by decide +kernel, by decide⟩, t_535, t_536, t_537, by decide, TX4, 5, rfl⟩
theorem t_538 : Cond.methodLink "CoughBidsLaw" 35 ⟨"CoughBidsModel", "putUp", "()I"⟩ ∈ zWd := z_tb 706 (by decide +kernel) (by decide +kernel)
theorem vL_law_35 : zSV mL_law 35 mX5_putUp 0 5 := ⟨⟨oX5_putUp, by decide +kernel, by decide⟩, t_538, t_497, t_498, by decide, TX5, 15, rfl⟩
theorem t_539 : Cond.methodLink "CoughBidsLaw" 36 ⟨"CoughBids", "cough", "(I)I"⟩ ∈ zWd := z_tb 335 (by decide +kernel) (by decide +kernel)
theorem t_540 : Cond.instanceMethod ⟨"CoughBids", "cough", "(I)I"⟩ ∈ zWd := z_tb 336 (by decide +kernel) (by decide +kernel)
theorem t_541 : Cond.selects "CoughBids" ⟨"CoughBids", "cough", "(I)I"⟩ ⟨"CoughBids", "cough", "(I)I"⟩ ∈ zWd := z_tb 337 (by decide +kernel) (by decide +kernel)
theorem vL_law_36 : zSV mL_law 36 mX4_cough 1 4 := ⟨⟨oX4_cough, by decide +kernel, by decide⟩, t_539, t_540, t_541, by decide, TX4, 5, rfl⟩
theorem t_542 : Cond.methodLink "CoughBidsLaw" 40 ⟨"CoughBidsModel", "cough", "(I)I"⟩ ∈ zWd := z_tb 710 (by decide +kernel) (by decide +kernel)
theorem vL_law_40 : zSV mL_law 40 mX5_cough 1 5 := ⟨⟨oX5_cough, by decide +kernel, by decide⟩, t_542, t_491, t_492, by decide, TX5, 15, rfl⟩
theorem t_543 : Cond.methodLink "CoughBidsLaw" 41 ⟨"CoughBids", "beats", "(I)I"⟩ ∈ zWd := z_tb 371 (by decide +kernel) (by decide +kernel)
theorem t_544 : Cond.instanceMethod ⟨"CoughBids", "beats", "(I)I"⟩ ∈ zWd := z_tb 372 (by decide +kernel) (by decide +kernel)
theorem t_545 : Cond.selects "CoughBids" ⟨"CoughBids", "beats", "(I)I"⟩ ⟨"CoughBids", "beats", "(I)I"⟩ ∈ zWd := z_tb 373 (by decide +kernel) (by decide +kernel)
theorem vL_law_41 : zSV mL_law 41 mX4_beats 1 4 := ⟨⟨oX4_beats, by decide +kernel, by decide⟩, t_543, t_544, t_545, by decide, TX4, 5, rfl⟩
theorem t_546 : Cond.methodLink "CoughBidsLaw" 44 ⟨"CoughBidsModel", "beats", "(I)I"⟩ ∈ zWd := z_tb 738 (by decide +kernel) (by decide +kernel)
theorem vL_law_44 : zSV mL_law 44 mX5_beats 1 5 := ⟨⟨oX5_beats, by decide +kernel, by decide⟩, t_546, t_494, t_495, by decide, TX5, 15, rfl⟩
theorem t_547 : Cond.methodLink "CoughBidsLaw" 45 ⟨"CoughBids", "night", "()I"⟩ ∈ zWd := z_tb 400 (by decide +kernel) (by decide +kernel)
theorem t_548 : Cond.instanceMethod ⟨"CoughBids", "night", "()I"⟩ ∈ zWd := z_tb 401 (by decide +kernel) (by decide +kernel)
theorem t_549 : Cond.selects "CoughBids" ⟨"CoughBids", "night", "()I"⟩ ⟨"CoughBids", "night", "()I"⟩ ∈ zWd := z_tb 402 (by decide +kernel) (by decide +kernel)
theorem vL_law_45 : zSV mL_law 45 mX4_night 0 4 := ⟨⟨oX4_night, by decide +kernel, by decide⟩, t_547, t_548, t_549, by decide, TX4, 5, rfl⟩
theorem t_550 : Cond.methodLink "CoughBidsLaw" 48 ⟨"CoughBidsModel", "night", "()I"⟩ ∈ zWd := z_tb 762 (by decide +kernel) (by decide +kernel)
theorem vL_law_48 : zSV mL_law 48 mX5_night 0 5 := ⟨⟨oX5_night, by decide +kernel, by decide⟩, t_550, t_500, t_501, by decide, TX5, 15, rfl⟩
theorem t_551 : Cond.methodLink "CoughBidsLaw" 49 ⟨"CoughBids", "set", "(II)I"⟩ ∈ zWd := z_tb 436 (by decide +kernel) (by decide +kernel)
theorem t_552 : Cond.instanceMethod ⟨"CoughBids", "set", "(II)I"⟩ ∈ zWd := z_tb 437 (by decide +kernel) (by decide +kernel)
theorem t_553 : Cond.selects "CoughBids" ⟨"CoughBids", "set", "(II)I"⟩ ⟨"CoughBids", "set", "(II)I"⟩ ∈ zWd := z_tb 438 (by decide +kernel) (by decide +kernel)
theorem vL_law_49 : zSV mL_law 49 mX4_set 2 4 := ⟨⟨oX4_set, by decide +kernel, by decide⟩, t_551, t_552, t_553, by decide, TX4, 5, rfl⟩
theorem t_554 : Cond.methodLink "CoughBidsLaw" 52 ⟨"CoughBidsModel", "set", "(II)I"⟩ ∈ zWd := z_tb 781 (by decide +kernel) (by decide +kernel)
theorem t_555 : Cond.instanceMethod ⟨"CoughBidsModel", "set", "(II)I"⟩ ∈ zWd := z_tb 782 (by decide +kernel) (by decide +kernel)
theorem t_556 : Cond.selects "CoughBidsModel" ⟨"CoughBidsModel", "set", "(II)I"⟩ ⟨"CoughBidsModel", "set", "(II)I"⟩ ∈ zWd := z_tb 783 (by decide +kernel) (by decide +kernel)
theorem vL_law_52 : zSV mL_law 52 mX5_set 2 5 := ⟨⟨oX5_set, by decide +kernel, by decide⟩, t_554, t_555, t_556, by decide, TX5, 15, rfl⟩
theorem t_557 : Cond.methodLink "CoughBidsLaw" 53 ⟨"CoughBids", "bidderOf", "(II)I"⟩ ∈ zWd := z_tb 444 (by decide +kernel) (by decide +kernel)
theorem t_558 : Cond.instanceMethod ⟨"CoughBids", "bidderOf", "(II)I"⟩ ∈ zWd := z_tb 445 (by decide +kernel) (by decide +kernel)
theorem t_559 : Cond.selects "CoughBids" ⟨"CoughBids", "bidderOf", "(II)I"⟩ ⟨"CoughBids", "bidderOf", "(II)I"⟩ ∈ zWd := z_tb 446 (by decide +kernel) (by decide +kernel)
theorem vL_law_53 : zSV mL_law 53 mX4_bidderOf 2 4 := ⟨⟨oX4_bidderOf, by decide +kernel, by decide⟩, t_557, t_558, t_559, by decide, TX4, 5, rfl⟩
theorem t_560 : Cond.methodLink "CoughBidsLaw" 56 ⟨"CoughBidsModel", "bidderOf", "(II)I"⟩ ∈ zWd := z_tb 785 (by decide +kernel) (by decide +kernel)
theorem t_561 : Cond.instanceMethod ⟨"CoughBidsModel", "bidderOf", "(II)I"⟩ ∈ zWd := z_tb 786 (by decide +kernel) (by decide +kernel)
theorem t_562 : Cond.selects "CoughBidsModel" ⟨"CoughBidsModel", "bidderOf", "(II)I"⟩ ⟨"CoughBidsModel", "bidderOf", "(II)I"⟩ ∈ zWd := z_tb 787 (by decide +kernel) (by decide +kernel)
theorem vL_law_56 : zSV mL_law 56 mX5_bidderOf 2 5 := ⟨⟨oX5_bidderOf, by decide +kernel, by decide⟩, t_560, t_561, t_562, by decide, TX5, 15, rfl⟩
theorem t_563 : Cond.methodLink "CoughBidsLaw" 57 ⟨"CoughBids", "at", "(II)I"⟩ ∈ zWd := z_tb 456 (by decide +kernel) (by decide +kernel)
theorem t_564 : Cond.instanceMethod ⟨"CoughBids", "at", "(II)I"⟩ ∈ zWd := z_tb 457 (by decide +kernel) (by decide +kernel)
theorem t_565 : Cond.selects "CoughBids" ⟨"CoughBids", "at", "(II)I"⟩ ⟨"CoughBids", "at", "(II)I"⟩ ∈ zWd := z_tb 458 (by decide +kernel) (by decide +kernel)
theorem vL_law_57 : zSV mL_law 57 mX4_at 2 4 := ⟨⟨oX4_at, by decide +kernel, by decide⟩, t_563, t_564, t_565, by decide, TX4, 5, rfl⟩
theorem t_566 : Cond.methodLink "CoughBidsLaw" 60 ⟨"CoughBidsModel", "at", "(II)I"⟩ ∈ zWd := z_tb 789 (by decide +kernel) (by decide +kernel)
theorem t_567 : Cond.instanceMethod ⟨"CoughBidsModel", "at", "(II)I"⟩ ∈ zWd := z_tb 790 (by decide +kernel) (by decide +kernel)
theorem t_568 : Cond.selects "CoughBidsModel" ⟨"CoughBidsModel", "at", "(II)I"⟩ ⟨"CoughBidsModel", "at", "(II)I"⟩ ∈ zWd := z_tb 791 (by decide +kernel) (by decide +kernel)
theorem vL_law_60 : zSV mL_law 60 mX5_at 2 5 := ⟨⟨oX5_at, by decide +kernel, by decide⟩, t_566, t_567, t_568, by decide, TX5, 15, rfl⟩
theorem t_569 : Cond.methodLink "CoughBidsLaw" 61 ⟨"CoughBids", "up", "(I)I"⟩ ∈ zWd := z_tb 462 (by decide +kernel) (by decide +kernel)
theorem t_570 : Cond.instanceMethod ⟨"CoughBids", "up", "(I)I"⟩ ∈ zWd := z_tb 463 (by decide +kernel) (by decide +kernel)
theorem t_571 : Cond.selects "CoughBids" ⟨"CoughBids", "up", "(I)I"⟩ ⟨"CoughBids", "up", "(I)I"⟩ ∈ zWd := z_tb 464 (by decide +kernel) (by decide +kernel)
theorem vL_law_61 : zSV mL_law 61 mX4_up 1 4 := ⟨⟨oX4_up, by decide +kernel, by decide⟩, t_569, t_570, t_571, by decide, TX4, 5, rfl⟩
theorem t_572 : Cond.methodLink "CoughBidsLaw" 64 ⟨"CoughBidsModel", "up", "(I)I"⟩ ∈ zWd := z_tb 793 (by decide +kernel) (by decide +kernel)
theorem t_573 : Cond.instanceMethod ⟨"CoughBidsModel", "up", "(I)I"⟩ ∈ zWd := z_tb 794 (by decide +kernel) (by decide +kernel)
theorem t_574 : Cond.selects "CoughBidsModel" ⟨"CoughBidsModel", "up", "(I)I"⟩ ⟨"CoughBidsModel", "up", "(I)I"⟩ ∈ zWd := z_tb 795 (by decide +kernel) (by decide +kernel)
theorem vL_law_64 : zSV mL_law 64 mX5_up 1 5 := ⟨⟨oX5_up, by decide +kernel, by decide⟩, t_572, t_573, t_574, by decide, TX5, 15, rfl⟩
theorem t_575 : Cond.methodLink "CoughBidsLaw" 65 ⟨"CoughBids", "waiting", "(II)I"⟩ ∈ zWd := z_tb 475 (by decide +kernel) (by decide +kernel)
theorem t_576 : Cond.instanceMethod ⟨"CoughBids", "waiting", "(II)I"⟩ ∈ zWd := z_tb 476 (by decide +kernel) (by decide +kernel)
theorem t_577 : Cond.selects "CoughBids" ⟨"CoughBids", "waiting", "(II)I"⟩ ⟨"CoughBids", "waiting", "(II)I"⟩ ∈ zWd := z_tb 477 (by decide +kernel) (by decide +kernel)
theorem vL_law_65 : zSV mL_law 65 mX4_waiting 2 4 := ⟨⟨oX4_waiting, by decide +kernel, by decide⟩, t_575, t_576, t_577, by decide, TX4, 5, rfl⟩
theorem t_578 : Cond.methodLink "CoughBidsLaw" 68 ⟨"CoughBidsModel", "waiting", "(II)I"⟩ ∈ zWd := z_tb 797 (by decide +kernel) (by decide +kernel)
theorem t_579 : Cond.instanceMethod ⟨"CoughBidsModel", "waiting", "(II)I"⟩ ∈ zWd := z_tb 798 (by decide +kernel) (by decide +kernel)
theorem t_580 : Cond.selects "CoughBidsModel" ⟨"CoughBidsModel", "waiting", "(II)I"⟩ ⟨"CoughBidsModel", "waiting", "(II)I"⟩ ∈ zWd := z_tb 799 (by decide +kernel) (by decide +kernel)
theorem vL_law_68 : zSV mL_law 68 mX5_waiting 2 5 := ⟨⟨oX5_waiting, by decide +kernel, by decide⟩, t_578, t_579, t_580, by decide, TX5, 15, rfl⟩
theorem t_581 : Cond.methodLink "CoughBidsLaw" 69 ⟨"CoughBids", "book", "(II)I"⟩ ∈ zWd := z_tb 480 (by decide +kernel) (by decide +kernel)
theorem t_582 : Cond.instanceMethod ⟨"CoughBids", "book", "(II)I"⟩ ∈ zWd := z_tb 481 (by decide +kernel) (by decide +kernel)
theorem t_583 : Cond.selects "CoughBids" ⟨"CoughBids", "book", "(II)I"⟩ ⟨"CoughBids", "book", "(II)I"⟩ ∈ zWd := z_tb 482 (by decide +kernel) (by decide +kernel)
theorem vL_law_69 : zSV mL_law 69 mX4_book 2 4 := ⟨⟨oX4_book, by decide +kernel, by decide⟩, t_581, t_582, t_583, by decide, TX4, 5, rfl⟩
theorem t_584 : Cond.methodLink "CoughBidsLaw" 72 ⟨"CoughBidsModel", "book", "(II)I"⟩ ∈ zWd := z_tb 801 (by decide +kernel) (by decide +kernel)
theorem t_585 : Cond.instanceMethod ⟨"CoughBidsModel", "book", "(II)I"⟩ ∈ zWd := z_tb 802 (by decide +kernel) (by decide +kernel)
theorem t_586 : Cond.selects "CoughBidsModel" ⟨"CoughBidsModel", "book", "(II)I"⟩ ⟨"CoughBidsModel", "book", "(II)I"⟩ ∈ zWd := z_tb 803 (by decide +kernel) (by decide +kernel)
theorem vL_law_72 : zSV mL_law 72 mX5_book 2 5 := ⟨⟨oX5_book, by decide +kernel, by decide⟩, t_584, t_585, t_586, by decide, TX5, 15, rfl⟩
theorem t_587 : Cond.methodLink "CoughBidsLaw" 73 ⟨"CoughBids", "why", "(I)I"⟩ ∈ zWd := z_tb 488 (by decide +kernel) (by decide +kernel)
theorem t_588 : Cond.instanceMethod ⟨"CoughBids", "why", "(I)I"⟩ ∈ zWd := z_tb 489 (by decide +kernel) (by decide +kernel)
theorem t_589 : Cond.selects "CoughBids" ⟨"CoughBids", "why", "(I)I"⟩ ⟨"CoughBids", "why", "(I)I"⟩ ∈ zWd := z_tb 490 (by decide +kernel) (by decide +kernel)
theorem vL_law_73 : zSV mL_law 73 mX4_why 1 4 := ⟨⟨oX4_why, by decide +kernel, by decide⟩, t_587, t_588, t_589, by decide, TX4, 5, rfl⟩
theorem t_590 : Cond.methodLink "CoughBidsLaw" 76 ⟨"CoughBidsModel", "why", "(I)I"⟩ ∈ zWd := z_tb 805 (by decide +kernel) (by decide +kernel)
theorem t_591 : Cond.instanceMethod ⟨"CoughBidsModel", "why", "(I)I"⟩ ∈ zWd := z_tb 806 (by decide +kernel) (by decide +kernel)
theorem t_592 : Cond.selects "CoughBidsModel" ⟨"CoughBidsModel", "why", "(I)I"⟩ ⟨"CoughBidsModel", "why", "(I)I"⟩ ∈ zWd := z_tb 807 (by decide +kernel) (by decide +kernel)
theorem vL_law_76 : zSV mL_law 76 mX5_why 1 5 := ⟨⟨oX5_why, by decide +kernel, by decide⟩, t_590, t_591, t_592, by decide, TX5, 15, rfl⟩
theorem t_593 : Cond.methodLink "CoughBidsLaw" 77 ⟨"CoughBids", "ifBeats", "(II)I"⟩ ∈ zWd := z_tb 493 (by decide +kernel) (by decide +kernel)
theorem t_594 : Cond.instanceMethod ⟨"CoughBids", "ifBeats", "(II)I"⟩ ∈ zWd := z_tb 494 (by decide +kernel) (by decide +kernel)
theorem t_595 : Cond.selects "CoughBids" ⟨"CoughBids", "ifBeats", "(II)I"⟩ ⟨"CoughBids", "ifBeats", "(II)I"⟩ ∈ zWd := z_tb 495 (by decide +kernel) (by decide +kernel)
theorem vL_law_77 : zSV mL_law 77 mX4_ifBeats 2 4 := ⟨⟨oX4_ifBeats, by decide +kernel, by decide⟩, t_593, t_594, t_595, by decide, TX4, 5, rfl⟩
theorem t_596 : Cond.methodLink "CoughBidsLaw" 80 ⟨"CoughBidsModel", "ifBeats", "(II)I"⟩ ∈ zWd := z_tb 809 (by decide +kernel) (by decide +kernel)
theorem t_597 : Cond.instanceMethod ⟨"CoughBidsModel", "ifBeats", "(II)I"⟩ ∈ zWd := z_tb 810 (by decide +kernel) (by decide +kernel)
theorem t_598 : Cond.selects "CoughBidsModel" ⟨"CoughBidsModel", "ifBeats", "(II)I"⟩ ⟨"CoughBidsModel", "ifBeats", "(II)I"⟩ ∈ zWd := z_tb 811 (by decide +kernel) (by decide +kernel)
theorem vL_law_80 : zSV mL_law 80 mX5_ifBeats 2 5 := ⟨⟨oX5_ifBeats, by decide +kernel, by decide⟩, t_596, t_597, t_598, by decide, TX5, 15, rfl⟩
theorem t_599 : Cond.methodLink "CoughBidsLaw" 81 ⟨"CoughBids", "goneIn", "()I"⟩ ∈ zWd := z_tb 498 (by decide +kernel) (by decide +kernel)
theorem t_600 : Cond.instanceMethod ⟨"CoughBids", "goneIn", "()I"⟩ ∈ zWd := z_tb 499 (by decide +kernel) (by decide +kernel)
theorem t_601 : Cond.selects "CoughBids" ⟨"CoughBids", "goneIn", "()I"⟩ ⟨"CoughBids", "goneIn", "()I"⟩ ∈ zWd := z_tb 500 (by decide +kernel) (by decide +kernel)
theorem vL_law_81 : zSV mL_law 81 mX4_goneIn 0 4 := ⟨⟨oX4_goneIn, by decide +kernel, by decide⟩, t_599, t_600, t_601, by decide, TX4, 5, rfl⟩
theorem t_602 : Cond.methodLink "CoughBidsLaw" 84 ⟨"CoughBidsModel", "goneIn", "()I"⟩ ∈ zWd := z_tb 816 (by decide +kernel) (by decide +kernel)
theorem t_603 : Cond.instanceMethod ⟨"CoughBidsModel", "goneIn", "()I"⟩ ∈ zWd := z_tb 817 (by decide +kernel) (by decide +kernel)
theorem t_604 : Cond.selects "CoughBidsModel" ⟨"CoughBidsModel", "goneIn", "()I"⟩ ⟨"CoughBidsModel", "goneIn", "()I"⟩ ∈ zWd := z_tb 818 (by decide +kernel) (by decide +kernel)
theorem vL_law_84 : zSV mL_law 84 mX5_goneIn 0 5 := ⟨⟨oX5_goneIn, by decide +kernel, by decide⟩, t_602, t_603, t_604, by decide, TX5, 15, rfl⟩
theorem t_605 : Cond.methodLink "CoughBidsLaw" 85 ⟨"CoughBids", "coughing", "()I"⟩ ∈ zWd := z_tb 502 (by decide +kernel) (by decide +kernel)
theorem t_606 : Cond.instanceMethod ⟨"CoughBids", "coughing", "()I"⟩ ∈ zWd := z_tb 503 (by decide +kernel) (by decide +kernel)
theorem t_607 : Cond.selects "CoughBids" ⟨"CoughBids", "coughing", "()I"⟩ ⟨"CoughBids", "coughing", "()I"⟩ ∈ zWd := z_tb 504 (by decide +kernel) (by decide +kernel)
theorem vL_law_85 : zSV mL_law 85 mX4_coughing 0 4 := ⟨⟨oX4_coughing, by decide +kernel, by decide⟩, t_605, t_606, t_607, by decide, TX4, 5, rfl⟩
theorem t_608 : Cond.methodLink "CoughBidsLaw" 88 ⟨"CoughBidsModel", "coughing", "()I"⟩ ∈ zWd := z_tb 820 (by decide +kernel) (by decide +kernel)
theorem t_609 : Cond.instanceMethod ⟨"CoughBidsModel", "coughing", "()I"⟩ ∈ zWd := z_tb 821 (by decide +kernel) (by decide +kernel)
theorem t_610 : Cond.selects "CoughBidsModel" ⟨"CoughBidsModel", "coughing", "()I"⟩ ⟨"CoughBidsModel", "coughing", "()I"⟩ ∈ zWd := z_tb 822 (by decide +kernel) (by decide +kernel)
theorem vL_law_88 : zSV mL_law 88 mX5_coughing 0 5 := ⟨⟨oX5_coughing, by decide +kernel, by decide⟩, t_608, t_609, t_610, by decide, TX5, 15, rfl⟩
theorem t_611 : Cond.methodLink "CoughBidsLaw" 89 ⟨"CoughBids", "loudest", "()I"⟩ ∈ zWd := z_tb 507 (by decide +kernel) (by decide +kernel)
theorem t_612 : Cond.instanceMethod ⟨"CoughBids", "loudest", "()I"⟩ ∈ zWd := z_tb 508 (by decide +kernel) (by decide +kernel)
theorem t_613 : Cond.selects "CoughBids" ⟨"CoughBids", "loudest", "()I"⟩ ⟨"CoughBids", "loudest", "()I"⟩ ∈ zWd := z_tb 509 (by decide +kernel) (by decide +kernel)
theorem vL_law_89 : zSV mL_law 89 mX4_loudest 0 4 := ⟨⟨oX4_loudest, by decide +kernel, by decide⟩, t_611, t_612, t_613, by decide, TX4, 5, rfl⟩
theorem t_614 : Cond.methodLink "CoughBidsLaw" 92 ⟨"CoughBidsModel", "loudest", "()I"⟩ ∈ zWd := z_tb 824 (by decide +kernel) (by decide +kernel)
theorem t_615 : Cond.instanceMethod ⟨"CoughBidsModel", "loudest", "()I"⟩ ∈ zWd := z_tb 825 (by decide +kernel) (by decide +kernel)
theorem t_616 : Cond.selects "CoughBidsModel" ⟨"CoughBidsModel", "loudest", "()I"⟩ ⟨"CoughBidsModel", "loudest", "()I"⟩ ∈ zWd := z_tb 826 (by decide +kernel) (by decide +kernel)
theorem vL_law_92 : zSV mL_law 92 mX5_loudest 0 5 := ⟨⟨oX5_loudest, by decide +kernel, by decide⟩, t_614, t_615, t_616, by decide, TX5, 15, rfl⟩
theorem t_617 : Cond.methodLink "CoughBidsLaw" 93 ⟨"CoughBids", "ifNights", "(I)I"⟩ ∈ zWd := z_tb 512 (by decide +kernel) (by decide +kernel)
theorem t_618 : Cond.instanceMethod ⟨"CoughBids", "ifNights", "(I)I"⟩ ∈ zWd := z_tb 513 (by decide +kernel) (by decide +kernel)
theorem t_619 : Cond.selects "CoughBids" ⟨"CoughBids", "ifNights", "(I)I"⟩ ⟨"CoughBids", "ifNights", "(I)I"⟩ ∈ zWd := z_tb 514 (by decide +kernel) (by decide +kernel)
theorem vL_law_93 : zSV mL_law 93 mX4_ifNights 1 4 := ⟨⟨oX4_ifNights, by decide +kernel, by decide⟩, t_617, t_618, t_619, by decide, TX4, 5, rfl⟩
theorem t_620 : Cond.methodLink "CoughBidsLaw" 96 ⟨"CoughBidsModel", "ifNights", "(I)I"⟩ ∈ zWd := z_tb 828 (by decide +kernel) (by decide +kernel)
theorem t_621 : Cond.instanceMethod ⟨"CoughBidsModel", "ifNights", "(I)I"⟩ ∈ zWd := z_tb 829 (by decide +kernel) (by decide +kernel)
theorem t_622 : Cond.selects "CoughBidsModel" ⟨"CoughBidsModel", "ifNights", "(I)I"⟩ ⟨"CoughBidsModel", "ifNights", "(I)I"⟩ ∈ zWd := z_tb 830 (by decide +kernel) (by decide +kernel)
theorem vL_law_96 : zSV mL_law 96 mX5_ifNights 1 5 := ⟨⟨oX5_ifNights, by decide +kernel, by decide⟩, t_620, t_621, t_622, by decide, TX5, 15, rfl⟩
theorem t_623 : Cond.methodLink "CoughBidsLaw" 97 ⟨"CoughBids", "mean", "()I"⟩ ∈ zWd := z_tb 519 (by decide +kernel) (by decide +kernel)
theorem t_624 : Cond.instanceMethod ⟨"CoughBids", "mean", "()I"⟩ ∈ zWd := z_tb 520 (by decide +kernel) (by decide +kernel)
theorem t_625 : Cond.selects "CoughBids" ⟨"CoughBids", "mean", "()I"⟩ ⟨"CoughBids", "mean", "()I"⟩ ∈ zWd := z_tb 521 (by decide +kernel) (by decide +kernel)
theorem vL_law_97 : zSV mL_law 97 mX4_mean 0 4 := ⟨⟨oX4_mean, by decide +kernel, by decide⟩, t_623, t_624, t_625, by decide, TX4, 5, rfl⟩
theorem t_626 : Cond.methodLink "CoughBidsLaw" 100 ⟨"CoughBidsModel", "mean", "()I"⟩ ∈ zWd := z_tb 832 (by decide +kernel) (by decide +kernel)
theorem t_627 : Cond.instanceMethod ⟨"CoughBidsModel", "mean", "()I"⟩ ∈ zWd := z_tb 833 (by decide +kernel) (by decide +kernel)
theorem t_628 : Cond.selects "CoughBidsModel" ⟨"CoughBidsModel", "mean", "()I"⟩ ⟨"CoughBidsModel", "mean", "()I"⟩ ∈ zWd := z_tb 834 (by decide +kernel) (by decide +kernel)
theorem vL_law_100 : zSV mL_law 100 mX5_mean 0 5 := ⟨⟨oX5_mean, by decide +kernel, by decide⟩, t_626, t_627, t_628, by decide, TX5, 15, rfl⟩
theorem t_629 : Cond.methodLink "CoughBidsLaw" 101 ⟨"CoughBids", "count", "(I)I"⟩ ∈ zWd := z_tb 527 (by decide +kernel) (by decide +kernel)
theorem t_630 : Cond.instanceMethod ⟨"CoughBids", "count", "(I)I"⟩ ∈ zWd := z_tb 528 (by decide +kernel) (by decide +kernel)
theorem t_631 : Cond.selects "CoughBids" ⟨"CoughBids", "count", "(I)I"⟩ ⟨"CoughBids", "count", "(I)I"⟩ ∈ zWd := z_tb 529 (by decide +kernel) (by decide +kernel)
theorem vL_law_101 : zSV mL_law 101 mX4_count 1 4 := ⟨⟨oX4_count, by decide +kernel, by decide⟩, t_629, t_630, t_631, by decide, TX4, 5, rfl⟩
theorem t_632 : Cond.methodLink "CoughBidsLaw" 104 ⟨"CoughBidsModel", "count", "(I)I"⟩ ∈ zWd := z_tb 846 (by decide +kernel) (by decide +kernel)
theorem t_633 : Cond.instanceMethod ⟨"CoughBidsModel", "count", "(I)I"⟩ ∈ zWd := z_tb 847 (by decide +kernel) (by decide +kernel)
theorem t_634 : Cond.selects "CoughBidsModel" ⟨"CoughBidsModel", "count", "(I)I"⟩ ⟨"CoughBidsModel", "count", "(I)I"⟩ ∈ zWd := z_tb 848 (by decide +kernel) (by decide +kernel)
theorem vL_law_104 : zSV mL_law 104 mX5_count 1 5 := ⟨⟨oX5_count, by decide +kernel, by decide⟩, t_632, t_633, t_634, by decide, TX5, 15, rfl⟩
theorem t_635 : Cond.methodLink "CoughBidsLaw" 105 ⟨"CoughBids", "undo", "()I"⟩ ∈ zWd := z_tb 539 (by decide +kernel) (by decide +kernel)
theorem t_636 : Cond.instanceMethod ⟨"CoughBids", "undo", "()I"⟩ ∈ zWd := z_tb 540 (by decide +kernel) (by decide +kernel)
theorem t_637 : Cond.selects "CoughBids" ⟨"CoughBids", "undo", "()I"⟩ ⟨"CoughBids", "undo", "()I"⟩ ∈ zWd := z_tb 541 (by decide +kernel) (by decide +kernel)
theorem vL_law_105 : zSV mL_law 105 mX4_undo 0 4 := ⟨⟨oX4_undo, by decide +kernel, by decide⟩, t_635, t_636, t_637, by decide, TX4, 5, rfl⟩
theorem t_638 : Cond.methodLink "CoughBidsLaw" 108 ⟨"CoughBidsModel", "undo", "()I"⟩ ∈ zWd := z_tb 854 (by decide +kernel) (by decide +kernel)
theorem t_639 : Cond.instanceMethod ⟨"CoughBidsModel", "undo", "()I"⟩ ∈ zWd := z_tb 855 (by decide +kernel) (by decide +kernel)
theorem t_640 : Cond.selects "CoughBidsModel" ⟨"CoughBidsModel", "undo", "()I"⟩ ⟨"CoughBidsModel", "undo", "()I"⟩ ∈ zWd := z_tb 856 (by decide +kernel) (by decide +kernel)
theorem vL_law_108 : zSV mL_law 108 mX5_undo 0 5 := ⟨⟨oX5_undo, by decide +kernel, by decide⟩, t_638, t_639, t_640, by decide, TX5, 15, rfl⟩
theorem t_641 : Cond.methodLink "CoughBidsLaw" 109 ⟨"CoughBids", "type", "(I)I"⟩ ∈ zWd := z_tb 543 (by decide +kernel) (by decide +kernel)
theorem t_642 : Cond.instanceMethod ⟨"CoughBids", "type", "(I)I"⟩ ∈ zWd := z_tb 544 (by decide +kernel) (by decide +kernel)
theorem t_643 : Cond.selects "CoughBids" ⟨"CoughBids", "type", "(I)I"⟩ ⟨"CoughBids", "type", "(I)I"⟩ ∈ zWd := z_tb 545 (by decide +kernel) (by decide +kernel)
theorem vL_law_109 : zSV mL_law 109 mX4_type 1 4 := ⟨⟨oX4_type, by decide +kernel, by decide⟩, t_641, t_642, t_643, by decide, TX4, 5, rfl⟩
theorem t_644 : Cond.methodLink "CoughBidsLaw" 112 ⟨"CoughBidsModel", "type", "(I)I"⟩ ∈ zWd := z_tb 858 (by decide +kernel) (by decide +kernel)
theorem t_645 : Cond.instanceMethod ⟨"CoughBidsModel", "type", "(I)I"⟩ ∈ zWd := z_tb 859 (by decide +kernel) (by decide +kernel)
theorem t_646 : Cond.selects "CoughBidsModel" ⟨"CoughBidsModel", "type", "(I)I"⟩ ⟨"CoughBidsModel", "type", "(I)I"⟩ ∈ zWd := z_tb 860 (by decide +kernel) (by decide +kernel)
theorem vL_law_112 : zSV mL_law 112 mX5_type 1 5 := ⟨⟨oX5_type, by decide +kernel, by decide⟩, t_644, t_645, t_646, by decide, TX5, 15, rfl⟩
theorem t_647 : Cond.methodLink "CoughBidsLaw" 113 ⟨"CoughBids", "clearText", "()I"⟩ ∈ zWd := z_tb 554 (by decide +kernel) (by decide +kernel)
theorem t_648 : Cond.instanceMethod ⟨"CoughBids", "clearText", "()I"⟩ ∈ zWd := z_tb 555 (by decide +kernel) (by decide +kernel)
theorem t_649 : Cond.selects "CoughBids" ⟨"CoughBids", "clearText", "()I"⟩ ⟨"CoughBids", "clearText", "()I"⟩ ∈ zWd := z_tb 556 (by decide +kernel) (by decide +kernel)
theorem vL_law_113 : zSV mL_law 113 mX4_clearText 0 4 := ⟨⟨oX4_clearText, by decide +kernel, by decide⟩, t_647, t_648, t_649, by decide, TX4, 5, rfl⟩
theorem t_650 : Cond.methodLink "CoughBidsLaw" 116 ⟨"CoughBidsModel", "clearText", "()I"⟩ ∈ zWd := z_tb 862 (by decide +kernel) (by decide +kernel)
theorem t_651 : Cond.instanceMethod ⟨"CoughBidsModel", "clearText", "()I"⟩ ∈ zWd := z_tb 863 (by decide +kernel) (by decide +kernel)
theorem t_652 : Cond.selects "CoughBidsModel" ⟨"CoughBidsModel", "clearText", "()I"⟩ ⟨"CoughBidsModel", "clearText", "()I"⟩ ∈ zWd := z_tb 864 (by decide +kernel) (by decide +kernel)
theorem vL_law_116 : zSV mL_law 116 mX5_clearText 0 5 := ⟨⟨oX5_clearText, by decide +kernel, by decide⟩, t_650, t_651, t_652, by decide, TX5, 15, rfl⟩
theorem t_653 : Cond.methodLink "CoughBidsLaw" 117 ⟨"CoughBids", "fault", "(I)I"⟩ ∈ zWd := z_tb 558 (by decide +kernel) (by decide +kernel)
theorem t_654 : Cond.instanceMethod ⟨"CoughBids", "fault", "(I)I"⟩ ∈ zWd := z_tb 559 (by decide +kernel) (by decide +kernel)
theorem t_655 : Cond.selects "CoughBids" ⟨"CoughBids", "fault", "(I)I"⟩ ⟨"CoughBids", "fault", "(I)I"⟩ ∈ zWd := z_tb 560 (by decide +kernel) (by decide +kernel)
theorem vL_law_117 : zSV mL_law 117 mX4_fault 1 4 := ⟨⟨oX4_fault, by decide +kernel, by decide⟩, t_653, t_654, t_655, by decide, TX4, 5, rfl⟩
theorem t_656 : Cond.methodLink "CoughBidsLaw" 120 ⟨"CoughBidsModel", "fault", "(I)I"⟩ ∈ zWd := z_tb 866 (by decide +kernel) (by decide +kernel)
theorem t_657 : Cond.instanceMethod ⟨"CoughBidsModel", "fault", "(I)I"⟩ ∈ zWd := z_tb 867 (by decide +kernel) (by decide +kernel)
theorem t_658 : Cond.selects "CoughBidsModel" ⟨"CoughBidsModel", "fault", "(I)I"⟩ ⟨"CoughBidsModel", "fault", "(I)I"⟩ ∈ zWd := z_tb 868 (by decide +kernel) (by decide +kernel)
theorem vL_law_120 : zSV mL_law 120 mX5_fault 1 5 := ⟨⟨oX5_fault, by decide +kernel, by decide⟩, t_656, t_657, t_658, by decide, TX5, 15, rfl⟩
theorem t_659 : Cond.methodLink "CoughBidsLaw" 121 ⟨"CoughBids", "play", "()I"⟩ ∈ zWd := z_tb 604 (by decide +kernel) (by decide +kernel)
theorem t_660 : Cond.instanceMethod ⟨"CoughBids", "play", "()I"⟩ ∈ zWd := z_tb 605 (by decide +kernel) (by decide +kernel)
theorem t_661 : Cond.selects "CoughBids" ⟨"CoughBids", "play", "()I"⟩ ⟨"CoughBids", "play", "()I"⟩ ∈ zWd := z_tb 606 (by decide +kernel) (by decide +kernel)
theorem vL_law_121 : zSV mL_law 121 mX4_play 0 4 := ⟨⟨oX4_play, by decide +kernel, by decide⟩, t_659, t_660, t_661, by decide, TX4, 5, rfl⟩
theorem t_662 : Cond.methodLink "CoughBidsLaw" 124 ⟨"CoughBidsModel", "play", "()I"⟩ ∈ zWd := z_tb 904 (by decide +kernel) (by decide +kernel)
theorem t_663 : Cond.instanceMethod ⟨"CoughBidsModel", "play", "()I"⟩ ∈ zWd := z_tb 905 (by decide +kernel) (by decide +kernel)
theorem t_664 : Cond.selects "CoughBidsModel" ⟨"CoughBidsModel", "play", "()I"⟩ ⟨"CoughBidsModel", "play", "()I"⟩ ∈ zWd := z_tb 906 (by decide +kernel) (by decide +kernel)
theorem vL_law_124 : zSV mL_law 124 mX5_play 0 5 := ⟨⟨oX5_play, by decide +kernel, by decide⟩, t_662, t_663, t_664, by decide, TX5, 15, rfl⟩
theorem nX0_3 : Cond.methodLink "CoughBids$Auction" 3 ⟨"java/lang/Object", "<init>", "()V"⟩ ∈ zWd := z_tb 25 (by decide +kernel) (by decide +kernel)
theorem nX0_60 : Cond.methodLink "CoughBids$Auction" 60 ⟨"java/lang/System", "arraycopy", "(Ljava/lang/Object;ILjava/lang/Object;II)V"⟩ ∈ zWd := z_tb 261 (by decide +kernel) (by decide +kernel)
theorem nX0_217 : Cond.methodLink "CoughBids$Auction" 217 ⟨"java/lang/Math", "min", "(II)I"⟩ ∈ zWd := z_tb 420 (by decide +kernel) (by decide +kernel)
theorem nX0_222 : Cond.methodLink "CoughBids$Auction" 222 ⟨"java/lang/Math", "max", "(II)I"⟩ ∈ zWd := z_tb 423 (by decide +kernel) (by decide +kernel)
theorem t_665 : Cond.classLink "CoughBids$Auction" 11 "CoughBids$Bidder" ∈ zWd := z_tb 26 (by decide +kernel) (by decide +kernel)
theorem t_666 : Cond.instantiable "CoughBids$Bidder" 11 ∈ zWd := z_tb 28 (by decide +kernel) (by decide +kernel)
theorem kX0_11 : zLK "CoughBids$Auction" 11 1 := ⟨RX1, TX1, 11, tyX1, rfl, by decide, rfl, t_665, t_666, t_28, uX1, tyX1_ok, by decide +kernel⟩
theorem aX0_11 : Cond.classLink "CoughBids$Auction" 11 "CoughBids$Bidder" ∈ zWd := t_665
theorem t_667 : Cond.classLink "CoughBids$Auction" 18 "CoughBids$Lot" ∈ zWd := z_tb 76 (by decide +kernel) (by decide +kernel)
theorem t_668 : Cond.instantiable "CoughBids$Lot" 10 ∈ zWd := z_tb 78 (by decide +kernel) (by decide +kernel)
theorem kX0_18 : zLK "CoughBids$Auction" 18 2 := ⟨RX2, TX2, 10, tyX2, rfl, by decide, rfl, t_667, t_668, t_36, uX2, tyX2_ok, by decide +kernel⟩
theorem aX0_18 : Cond.classLink "CoughBids$Auction" 18 "CoughBids$Lot" ∈ zWd := t_667
theorem cX0_102 : Cond.constant "CoughBids$Auction" 102 (-1000001) ∈ zWd := z_tb 275 (by decide +kernel) (by decide +kernel)
theorem cX0_93 : Cond.constant "CoughBids$Auction" 93 (-1000004) ∈ zWd := z_tb 280 (by decide +kernel) (by decide +kernel)
theorem cX0_107 : Cond.constant "CoughBids$Auction" 107 (-1000002) ∈ zWd := z_tb 281 (by decide +kernel) (by decide +kernel)
theorem cX0_108 : Cond.constant "CoughBids$Auction" 108 (-1000003) ∈ zWd := z_tb 282 (by decide +kernel) (by decide +kernel)
theorem nX1_3 : Cond.methodLink "CoughBids$Bidder" 3 ⟨"java/lang/Object", "<init>", "()V"⟩ ∈ zWd := z_tb 32 (by decide +kernel) (by decide +kernel)
theorem cX1_49 : Cond.constant "CoughBids$Bidder" 49 (-1000001) ∈ zWd := z_tb 455 (by decide +kernel) (by decide +kernel)
theorem nX2_3 : Cond.methodLink "CoughBids$Lot" 3 ⟨"java/lang/Object", "<init>", "()V"⟩ ∈ zWd := z_tb 82 (by decide +kernel) (by decide +kernel)
theorem cX2_47 : Cond.constant "CoughBids$Lot" 47 (-1000004) ∈ zWd := z_tb 472 (by decide +kernel) (by decide +kernel)
theorem cX2_52 : Cond.constant "CoughBids$Lot" 52 (-1000001) ∈ zWd := z_tb 474 (by decide +kernel) (by decide +kernel)
theorem nX3_3 : Cond.methodLink "CoughBids$Script" 3 ⟨"java/lang/Object", "<init>", "()V"⟩ ∈ zWd := z_tb 194 (by decide +kernel) (by decide +kernel)
theorem cX3_27 : Cond.constant "CoughBids$Script" 27 (-1000001) ∈ zWd := z_tb 552 (by decide +kernel) (by decide +kernel)
theorem cX3_31 : Cond.constant "CoughBids$Script" 31 (-1000003) ∈ zWd := z_tb 553 (by decide +kernel) (by decide +kernel)
theorem nX4_1 : Cond.methodLink "CoughBids" 1 ⟨"java/lang/Object", "<init>", "()V"⟩ ∈ zWd := z_tb 16 (by decide +kernel) (by decide +kernel)
theorem t_669 : Cond.classLink "CoughBids" 9 "CoughBids$Auction" ∈ zWd := z_tb 19 (by decide +kernel) (by decide +kernel)
theorem t_670 : Cond.instantiable "CoughBids$Auction" 17 ∈ zWd := z_tb 21 (by decide +kernel) (by decide +kernel)
theorem kX4_9 : zLK "CoughBids" 9 0 := ⟨RX0, TX0, 17, tyX0, rfl, by decide, rfl, t_669, t_670, t_1, uX0, tyX0_ok, by decide +kernel⟩
theorem aX4_9 : Cond.classLink "CoughBids" 9 "CoughBids$Auction" ∈ zWd := t_669
theorem t_671 : Cond.classLink "CoughBids" 16 "CoughBids$Script" ∈ zWd := z_tb 189 (by decide +kernel) (by decide +kernel)
theorem t_672 : Cond.instantiable "CoughBids$Script" 9 ∈ zWd := z_tb 190 (by decide +kernel) (by decide +kernel)
theorem kX4_16 : zLK "CoughBids" 16 3 := ⟨RX3, TX3, 9, tyX3, rfl, by decide, rfl, t_671, t_672, t_45, uX3, tyX3_ok, by decide +kernel⟩
theorem aX4_16 : Cond.classLink "CoughBids" 16 "CoughBids$Script" ∈ zWd := t_671
theorem cX4_77 : Cond.constant "CoughBids" 77 (-1000001) ∈ zWd := z_tb 449 (by decide +kernel) (by decide +kernel)
theorem cX4_102 : Cond.constant "CoughBids" 102 (-1000002) ∈ zWd := z_tb 466 (by decide +kernel) (by decide +kernel)
theorem cX4_115 : Cond.constant "CoughBids" 115 (-1000004) ∈ zWd := z_tb 479 (by decide +kernel) (by decide +kernel)
theorem cX4_209 : Cond.constantFloat "CoughBids" 209 (1258291200) ∈ zWd := z_tb 526 (by decide +kernel) (by decide +kernel)
theorem nX5_1 : Cond.methodLink "CoughBidsModel" 1 ⟨"java/lang/Object", "<init>", "()V"⟩ ∈ zWd := z_tb 613 (by decide +kernel) (by decide +kernel)
theorem cX5_78 : Cond.constant "CoughBidsModel" 78 (-1000001) ∈ zWd := z_tb 670 (by decide +kernel) (by decide +kernel)
theorem cX5_44 : Cond.constant "CoughBidsModel" 44 (-1000004) ∈ zWd := z_tb 679 (by decide +kernel) (by decide +kernel)
theorem cX5_82 : Cond.constant "CoughBidsModel" 82 (-1000002) ∈ zWd := z_tb 680 (by decide +kernel) (by decide +kernel)
theorem cX5_83 : Cond.constant "CoughBidsModel" 83 (-1000003) ∈ zWd := z_tb 681 (by decide +kernel) (by decide +kernel)
theorem t_673 : Cond.classLink "CoughBidsLaw" 7 "CoughBids" ∈ zWd := z_tb 11 (by decide +kernel) (by decide +kernel)
theorem t_674 : Cond.instantiable "CoughBids" 5 ∈ zWd := z_tb 12 (by decide +kernel) (by decide +kernel)
theorem kL_7 : zLK "CoughBidsLaw" 7 4 := ⟨RX4, TX4, 5, tyX4, rfl, by decide, rfl, t_673, t_674, t_56, uX4, tyX4_ok, by decide +kernel⟩
theorem aL_7 : Cond.classLink "CoughBidsLaw" 7 "CoughBids" ∈ zWd := t_673
theorem t_675 : Cond.classLink "CoughBidsLaw" 10 "CoughBidsModel" ∈ zWd := z_tb 608 (by decide +kernel) (by decide +kernel)
theorem t_676 : Cond.instantiable "CoughBidsModel" 15 ∈ zWd := z_tb 609 (by decide +kernel) (by decide +kernel)
theorem kL_10 : zLK "CoughBidsLaw" 10 5 := ⟨RX5, TX5, 15, tyX5, rfl, by decide, rfl, t_675, t_676, t_90, uX5, tyX5_ok, by decide +kernel⟩
theorem aL_10 : Cond.classLink "CoughBidsLaw" 10 "CoughBidsModel" ∈ zWd := t_675
theorem nJxf58ca_74 : Cond.methodLink "java/lang/Float" 74 ⟨"java/lang/Float", "floatToRawIntBits", "(F)I"⟩ ∈ zWd := z_tb 842 (by decide +kernel) (by decide +kernel)
theorem cJxf58ca_77 : Cond.constant "java/lang/Float" 77 (2143289344) ∈ zWd := z_tb 845 (by decide +kernel) (by decide +kernel)
theorem cJ6_265 : Cond.constant "java/lang/Integer" 265 (1431655765) ∈ zWd := z_tb 433 (by decide +kernel) (by decide +kernel)
theorem cJ6_266 : Cond.constant "java/lang/Integer" 266 (858993459) ∈ zWd := z_tb 434 (by decide +kernel) (by decide +kernel)
theorem cJ6_267 : Cond.constant "java/lang/Integer" 267 (252645135) ∈ zWd := z_tb 435 (by decide +kernel) (by decide +kernel)
theorem z_minS : Cond.static Lib.Math.min.name ∈ zWd := z_tb 421 (by decide +kernel) (by decide +kernel)
theorem z_maxS : Cond.static Lib.Math.max.name ∈ zWd := z_tb 424 (by decide +kernel) (by decide +kernel)
theorem z_mathI : Cond.initialized "java/lang/Math" ∈ zWd := z_tb 8 (by decide +kernel) (by decide +kernel)
theorem z_fS : Cond.static ⟨"java/lang/Float", "floatToRawIntBits", "(F)I"⟩ ∈ zWd := z_tb 843 (by decide +kernel) (by decide +kernel)
theorem z_fN : Cond.native ⟨"java/lang/Float", "floatToRawIntBits", "(F)I"⟩ ∈ zWd := z_tb 844 (by decide +kernel) (by decide +kernel)
theorem z_fI : Cond.initialized "java/lang/Float" ∈ zWd := z_tb 10 (by decide +kernel) (by decide +kernel)
theorem z_acS : Cond.static arraycopyName ∈ zWd := z_tb 262 (by decide +kernel) (by decide +kernel)
theorem z_acN : Cond.native arraycopyName ∈ zWd := z_tb 263 (by decide +kernel) (by decide +kernel)
theorem z_acI : Cond.initialized "java/lang/System" ∈ zWd := z_tb 7 (by decide +kernel) (by decide +kernel)
theorem z_oiI : Cond.instanceMethod Lib.objectInit ∈ zWd := z_tb 17 (by decide +kernel) (by decide +kernel)
theorem z_minC : Cond.code Lib.Math.min.name Lib.Math.min.code 2 (some .int) ∈ zWd := z_tb 422 (by decide +kernel) (by decide +kernel)
theorem z_maxC : Cond.code Lib.Math.max.name Lib.Math.max.code 2 (some .int) ∈ zWd := z_tb 425 (by decide +kernel) (by decide +kernel)
theorem z_oiC : Cond.code Lib.objectInit ⟨#[0xb1]⟩ 1 none ∈ zWd := z_tb 18 (by decide +kernel) (by decide +kernel)
theorem z_arI : Cond.arrayClass .int ∈ zWd := z_tb 188 (by decide +kernel) (by decide +kernel)
theorem z_arC : Cond.arrayClass .char ∈ zWd := z_tb 228 (by decide +kernel) (by decide +kernel)
end
section
-- decode rows, printed (claim/NAMES.whole)
theorem dX0_init_0 : decode cX0_init 0 = .ok (.aload_n 0, 1) := by decide +kernel
theorem dX0_init_1 : decode cX0_init 1 = .ok (.invokespecial 3, 3) := by decide +kernel
theorem dX0_init_4 : decode cX0_init 4 = .ok (.aload_n 0, 1) := by decide +kernel
theorem dX0_init_5 : decode cX0_init 5 = .ok (.bipush 12, 2) := by decide +kernel
theorem dX0_init_7 : decode cX0_init 7 = .ok (.anewarray 11, 3) := by decide +kernel
theorem dX0_init_10 : decode cX0_init 10 = .ok (.putfield 13, 3) := by decide +kernel
theorem dX0_init_13 : decode cX0_init 13 = .ok (.iconst 0, 1) := by decide +kernel
theorem dX0_init_14 : decode cX0_init 14 = .ok (.istore_n 1, 1) := by decide +kernel
theorem dX0_init_15 : decode cX0_init 15 = .ok (.iload_n 1, 1) := by decide +kernel
theorem dX0_init_16 : decode cX0_init 16 = .ok (.aload_n 0, 1) := by decide +kernel
theorem dX0_init_17 : decode cX0_init 17 = .ok (.getfield 13, 3) := by decide +kernel
theorem dX0_init_20 : decode cX0_init 20 = .ok (.arraylength, 1) := by decide +kernel
theorem dX0_init_21 : decode cX0_init 21 = .ok (.if_icmp .ge 22, 3) := by decide +kernel
theorem dX0_init_24 : decode cX0_init 24 = .ok (.aload_n 0, 1) := by decide +kernel
theorem dX0_init_25 : decode cX0_init 25 = .ok (.getfield 13, 3) := by decide +kernel
theorem dX0_init_28 : decode cX0_init 28 = .ok (.iload_n 1, 1) := by decide +kernel
theorem dX0_init_29 : decode cX0_init 29 = .ok (.new 11, 3) := by decide +kernel
theorem dX0_init_32 : decode cX0_init 32 = .ok (.dup, 1) := by decide +kernel
theorem dX0_init_33 : decode cX0_init 33 = .ok (.invokespecial 17, 3) := by decide +kernel
theorem dX0_init_36 : decode cX0_init 36 = .ok (.aastore, 1) := by decide +kernel
theorem dX0_init_37 : decode cX0_init 37 = .ok (.iinc 1 1, 3) := by decide +kernel
theorem dX0_init_40 : decode cX0_init 40 = .ok (.goto (-25), 3) := by decide +kernel
theorem dX0_init_43 : decode cX0_init 43 = .ok (.aload_n 0, 1) := by decide +kernel
theorem dX0_init_44 : decode cX0_init 44 = .ok (.bipush 8, 2) := by decide +kernel
theorem dX0_init_46 : decode cX0_init 46 = .ok (.anewarray 18, 3) := by decide +kernel
theorem dX0_init_49 : decode cX0_init 49 = .ok (.putfield 20, 3) := by decide +kernel
theorem dX0_init_52 : decode cX0_init 52 = .ok (.iconst 0, 1) := by decide +kernel
theorem dX0_init_53 : decode cX0_init 53 = .ok (.istore_n 1, 1) := by decide +kernel
theorem dX0_init_54 : decode cX0_init 54 = .ok (.iload_n 1, 1) := by decide +kernel
theorem dX0_init_55 : decode cX0_init 55 = .ok (.aload_n 0, 1) := by decide +kernel
theorem dX0_init_56 : decode cX0_init 56 = .ok (.getfield 20, 3) := by decide +kernel
theorem dX0_init_59 : decode cX0_init 59 = .ok (.arraylength, 1) := by decide +kernel
theorem dX0_init_60 : decode cX0_init 60 = .ok (.if_icmp .ge 22, 3) := by decide +kernel
theorem dX0_init_63 : decode cX0_init 63 = .ok (.aload_n 0, 1) := by decide +kernel
theorem dX0_init_64 : decode cX0_init 64 = .ok (.getfield 20, 3) := by decide +kernel
theorem dX0_init_67 : decode cX0_init 67 = .ok (.iload_n 1, 1) := by decide +kernel
theorem dX0_init_68 : decode cX0_init 68 = .ok (.new 18, 3) := by decide +kernel
theorem dX0_init_71 : decode cX0_init 71 = .ok (.dup, 1) := by decide +kernel
theorem dX0_init_72 : decode cX0_init 72 = .ok (.invokespecial 24, 3) := by decide +kernel
theorem dX0_init_75 : decode cX0_init 75 = .ok (.aastore, 1) := by decide +kernel
theorem dX0_init_76 : decode cX0_init 76 = .ok (.iinc 1 1, 3) := by decide +kernel
theorem dX0_init_79 : decode cX0_init 79 = .ok (.goto (-25), 3) := by decide +kernel
theorem dX0_init_82 : decode cX0_init 82 = .ok (.aload_n 0, 1) := by decide +kernel
theorem dX0_init_83 : decode cX0_init 83 = .ok (.bipush 8, 2) := by decide +kernel
theorem dX0_init_85 : decode cX0_init 85 = .ok (.anewarray 18, 3) := by decide +kernel
theorem dX0_init_88 : decode cX0_init 88 = .ok (.putfield 25, 3) := by decide +kernel
theorem dX0_init_91 : decode cX0_init 91 = .ok (.iconst 0, 1) := by decide +kernel
theorem dX0_init_92 : decode cX0_init 92 = .ok (.istore_n 1, 1) := by decide +kernel
theorem dX0_init_93 : decode cX0_init 93 = .ok (.iload_n 1, 1) := by decide +kernel
theorem dX0_init_94 : decode cX0_init 94 = .ok (.aload_n 0, 1) := by decide +kernel
theorem dX0_init_95 : decode cX0_init 95 = .ok (.getfield 25, 3) := by decide +kernel
theorem dX0_init_98 : decode cX0_init 98 = .ok (.arraylength, 1) := by decide +kernel
theorem dX0_init_99 : decode cX0_init 99 = .ok (.if_icmp .ge 22, 3) := by decide +kernel
theorem dX0_init_102 : decode cX0_init 102 = .ok (.aload_n 0, 1) := by decide +kernel
theorem dX0_init_103 : decode cX0_init 103 = .ok (.getfield 25, 3) := by decide +kernel
theorem dX0_init_106 : decode cX0_init 106 = .ok (.iload_n 1, 1) := by decide +kernel
theorem dX0_init_107 : decode cX0_init 107 = .ok (.new 18, 3) := by decide +kernel
theorem dX0_init_110 : decode cX0_init 110 = .ok (.dup, 1) := by decide +kernel
theorem dX0_init_111 : decode cX0_init 111 = .ok (.invokespecial 24, 3) := by decide +kernel
theorem dX0_init_114 : decode cX0_init 114 = .ok (.aastore, 1) := by decide +kernel
theorem dX0_init_115 : decode cX0_init 115 = .ok (.iinc 1 1, 3) := by decide +kernel
theorem dX0_init_118 : decode cX0_init 118 = .ok (.goto (-25), 3) := by decide +kernel
theorem dX0_init_121 : decode cX0_init 121 = .ok (.aload_n 0, 1) := by decide +kernel
theorem dX0_init_122 : decode cX0_init 122 = .ok (.iconst 4, 1) := by decide +kernel
theorem dX0_init_123 : decode cX0_init 123 = .ok (.newarray .int, 2) := by decide +kernel
theorem dX0_init_125 : decode cX0_init 125 = .ok (.putfield 28, 3) := by decide +kernel
theorem dX0_init_128 : decode cX0_init 128 = .ok (.aload_n 0, 1) := by decide +kernel
theorem dX0_init_129 : decode cX0_init 129 = .ok (.iconst 3, 1) := by decide +kernel
theorem dX0_init_130 : decode cX0_init 130 = .ok (.newarray .int, 2) := by decide +kernel
theorem dX0_init_132 : decode cX0_init 132 = .ok (.dup, 1) := by decide +kernel
theorem dX0_init_133 : decode cX0_init 133 = .ok (.iconst 0, 1) := by decide +kernel
theorem dX0_init_134 : decode cX0_init 134 = .ok (.iconst 3, 1) := by decide +kernel
theorem dX0_init_135 : decode cX0_init 135 = .ok (.iastore, 1) := by decide +kernel
theorem dX0_init_136 : decode cX0_init 136 = .ok (.dup, 1) := by decide +kernel
theorem dX0_init_137 : decode cX0_init 137 = .ok (.iconst 1, 1) := by decide +kernel
theorem dX0_init_138 : decode cX0_init 138 = .ok (.iconst 3, 1) := by decide +kernel
theorem dX0_init_139 : decode cX0_init 139 = .ok (.iastore, 1) := by decide +kernel
theorem dX0_init_140 : decode cX0_init 140 = .ok (.dup, 1) := by decide +kernel
theorem dX0_init_141 : decode cX0_init 141 = .ok (.iconst 2, 1) := by decide +kernel
theorem dX0_init_142 : decode cX0_init 142 = .ok (.iconst 3, 1) := by decide +kernel
theorem dX0_init_143 : decode cX0_init 143 = .ok (.iastore, 1) := by decide +kernel
theorem dX0_init_144 : decode cX0_init 144 = .ok (.putfield 32, 3) := by decide +kernel
theorem dX0_init_147 : decode cX0_init 147 = .ok (.aload_n 0, 1) := by decide +kernel
theorem dX0_init_148 : decode cX0_init 148 = .ok (.new 18, 3) := by decide +kernel
theorem dX0_init_151 : decode cX0_init 151 = .ok (.dup, 1) := by decide +kernel
theorem dX0_init_152 : decode cX0_init 152 = .ok (.invokespecial 24, 3) := by decide +kernel
theorem dX0_init_155 : decode cX0_init 155 = .ok (.putfield 35, 3) := by decide +kernel
theorem dX0_init_158 : decode cX0_init 158 = .ok (.return_, 1) := by decide +kernel
theorem dX0_copyFrom_0 : decode cX0_copyFrom 0 = .ok (.aload_n 0, 1) := by decide +kernel
theorem dX0_copyFrom_1 : decode cX0_copyFrom 1 = .ok (.aload_n 1, 1) := by decide +kernel
theorem dX0_copyFrom_2 : decode cX0_copyFrom 2 = .ok (.getfield 39, 3) := by decide +kernel
theorem dX0_copyFrom_5 : decode cX0_copyFrom 5 = .ok (.putfield 39, 3) := by decide +kernel
theorem dX0_copyFrom_8 : decode cX0_copyFrom 8 = .ok (.iconst 0, 1) := by decide +kernel
theorem dX0_copyFrom_9 : decode cX0_copyFrom 9 = .ok (.istore_n 2, 1) := by decide +kernel
theorem dX0_copyFrom_10 : decode cX0_copyFrom 10 = .ok (.iload_n 2, 1) := by decide +kernel
theorem dX0_copyFrom_11 : decode cX0_copyFrom 11 = .ok (.aload_n 0, 1) := by decide +kernel
theorem dX0_copyFrom_12 : decode cX0_copyFrom 12 = .ok (.getfield 39, 3) := by decide +kernel
theorem dX0_copyFrom_15 : decode cX0_copyFrom 15 = .ok (.if_icmp .ge 24, 3) := by decide +kernel
theorem dX0_copyFrom_18 : decode cX0_copyFrom 18 = .ok (.aload_n 0, 1) := by decide +kernel
theorem dX0_copyFrom_19 : decode cX0_copyFrom 19 = .ok (.getfield 13, 3) := by decide +kernel
theorem dX0_copyFrom_22 : decode cX0_copyFrom 22 = .ok (.iload_n 2, 1) := by decide +kernel
theorem dX0_copyFrom_23 : decode cX0_copyFrom 23 = .ok (.aaload, 1) := by decide +kernel
theorem dX0_copyFrom_24 : decode cX0_copyFrom 24 = .ok (.aload_n 1, 1) := by decide +kernel
theorem dX0_copyFrom_25 : decode cX0_copyFrom 25 = .ok (.getfield 13, 3) := by decide +kernel
theorem dX0_copyFrom_28 : decode cX0_copyFrom 28 = .ok (.iload_n 2, 1) := by decide +kernel
theorem dX0_copyFrom_29 : decode cX0_copyFrom 29 = .ok (.aaload, 1) := by decide +kernel
theorem dX0_copyFrom_30 : decode cX0_copyFrom 30 = .ok (.invokevirtual 43, 3) := by decide +kernel
theorem dX0_copyFrom_33 : decode cX0_copyFrom 33 = .ok (.iinc 2 1, 3) := by decide +kernel
theorem dX0_copyFrom_36 : decode cX0_copyFrom 36 = .ok (.goto (-26), 3) := by decide +kernel
theorem dX0_copyFrom_39 : decode cX0_copyFrom 39 = .ok (.aload_n 0, 1) := by decide +kernel
theorem dX0_copyFrom_40 : decode cX0_copyFrom 40 = .ok (.aload_n 1, 1) := by decide +kernel
theorem dX0_copyFrom_41 : decode cX0_copyFrom 41 = .ok (.getfield 47, 3) := by decide +kernel
theorem dX0_copyFrom_44 : decode cX0_copyFrom 44 = .ok (.putfield 47, 3) := by decide +kernel
theorem dX0_copyFrom_47 : decode cX0_copyFrom 47 = .ok (.iconst 0, 1) := by decide +kernel
theorem dX0_copyFrom_48 : decode cX0_copyFrom 48 = .ok (.istore_n 2, 1) := by decide +kernel
theorem dX0_copyFrom_49 : decode cX0_copyFrom 49 = .ok (.iload_n 2, 1) := by decide +kernel
theorem dX0_copyFrom_50 : decode cX0_copyFrom 50 = .ok (.aload_n 0, 1) := by decide +kernel
theorem dX0_copyFrom_51 : decode cX0_copyFrom 51 = .ok (.getfield 47, 3) := by decide +kernel
theorem dX0_copyFrom_54 : decode cX0_copyFrom 54 = .ok (.if_icmp .ge 24, 3) := by decide +kernel
theorem dX0_copyFrom_57 : decode cX0_copyFrom 57 = .ok (.aload_n 0, 1) := by decide +kernel
theorem dX0_copyFrom_58 : decode cX0_copyFrom 58 = .ok (.getfield 20, 3) := by decide +kernel
theorem dX0_copyFrom_61 : decode cX0_copyFrom 61 = .ok (.iload_n 2, 1) := by decide +kernel
theorem dX0_copyFrom_62 : decode cX0_copyFrom 62 = .ok (.aaload, 1) := by decide +kernel
theorem dX0_copyFrom_63 : decode cX0_copyFrom 63 = .ok (.aload_n 1, 1) := by decide +kernel
theorem dX0_copyFrom_64 : decode cX0_copyFrom 64 = .ok (.getfield 20, 3) := by decide +kernel
theorem dX0_copyFrom_67 : decode cX0_copyFrom 67 = .ok (.iload_n 2, 1) := by decide +kernel
theorem dX0_copyFrom_68 : decode cX0_copyFrom 68 = .ok (.aaload, 1) := by decide +kernel
theorem dX0_copyFrom_69 : decode cX0_copyFrom 69 = .ok (.invokevirtual 50, 3) := by decide +kernel
theorem dX0_copyFrom_72 : decode cX0_copyFrom 72 = .ok (.iinc 2 1, 3) := by decide +kernel
theorem dX0_copyFrom_75 : decode cX0_copyFrom 75 = .ok (.goto (-26), 3) := by decide +kernel
theorem dX0_copyFrom_78 : decode cX0_copyFrom 78 = .ok (.aload_n 0, 1) := by decide +kernel
theorem dX0_copyFrom_79 : decode cX0_copyFrom 79 = .ok (.aload_n 1, 1) := by decide +kernel
theorem dX0_copyFrom_80 : decode cX0_copyFrom 80 = .ok (.getfield 53, 3) := by decide +kernel
theorem dX0_copyFrom_83 : decode cX0_copyFrom 83 = .ok (.putfield 53, 3) := by decide +kernel
theorem dX0_copyFrom_86 : decode cX0_copyFrom 86 = .ok (.iconst 0, 1) := by decide +kernel
theorem dX0_copyFrom_87 : decode cX0_copyFrom 87 = .ok (.istore_n 2, 1) := by decide +kernel
theorem dX0_copyFrom_88 : decode cX0_copyFrom 88 = .ok (.iload_n 2, 1) := by decide +kernel
theorem dX0_copyFrom_89 : decode cX0_copyFrom 89 = .ok (.aload_n 0, 1) := by decide +kernel
theorem dX0_copyFrom_90 : decode cX0_copyFrom 90 = .ok (.getfield 53, 3) := by decide +kernel
theorem dX0_copyFrom_93 : decode cX0_copyFrom 93 = .ok (.if_icmp .ge 24, 3) := by decide +kernel
theorem dX0_copyFrom_96 : decode cX0_copyFrom 96 = .ok (.aload_n 0, 1) := by decide +kernel
theorem dX0_copyFrom_97 : decode cX0_copyFrom 97 = .ok (.getfield 25, 3) := by decide +kernel
theorem dX0_copyFrom_100 : decode cX0_copyFrom 100 = .ok (.iload_n 2, 1) := by decide +kernel
theorem dX0_copyFrom_101 : decode cX0_copyFrom 101 = .ok (.aaload, 1) := by decide +kernel
theorem dX0_copyFrom_102 : decode cX0_copyFrom 102 = .ok (.aload_n 1, 1) := by decide +kernel
theorem dX0_copyFrom_103 : decode cX0_copyFrom 103 = .ok (.getfield 25, 3) := by decide +kernel
theorem dX0_copyFrom_106 : decode cX0_copyFrom 106 = .ok (.iload_n 2, 1) := by decide +kernel
theorem dX0_copyFrom_107 : decode cX0_copyFrom 107 = .ok (.aaload, 1) := by decide +kernel
theorem dX0_copyFrom_108 : decode cX0_copyFrom 108 = .ok (.invokevirtual 50, 3) := by decide +kernel
theorem dX0_copyFrom_111 : decode cX0_copyFrom 111 = .ok (.iinc 2 1, 3) := by decide +kernel
theorem dX0_copyFrom_114 : decode cX0_copyFrom 114 = .ok (.goto (-26), 3) := by decide +kernel
theorem dX0_copyFrom_117 : decode cX0_copyFrom 117 = .ok (.aload_n 0, 1) := by decide +kernel
theorem dX0_copyFrom_118 : decode cX0_copyFrom 118 = .ok (.aload_n 1, 1) := by decide +kernel
theorem dX0_copyFrom_119 : decode cX0_copyFrom 119 = .ok (.getfield 56, 3) := by decide +kernel
theorem dX0_copyFrom_122 : decode cX0_copyFrom 122 = .ok (.putfield 56, 3) := by decide +kernel
theorem dX0_copyFrom_125 : decode cX0_copyFrom 125 = .ok (.aload_n 0, 1) := by decide +kernel
theorem dX0_copyFrom_126 : decode cX0_copyFrom 126 = .ok (.getfield 35, 3) := by decide +kernel
theorem dX0_copyFrom_129 : decode cX0_copyFrom 129 = .ok (.aload_n 1, 1) := by decide +kernel
theorem dX0_copyFrom_130 : decode cX0_copyFrom 130 = .ok (.getfield 35, 3) := by decide +kernel
theorem dX0_copyFrom_133 : decode cX0_copyFrom 133 = .ok (.invokevirtual 50, 3) := by decide +kernel
theorem dX0_copyFrom_136 : decode cX0_copyFrom 136 = .ok (.aload_n 1, 1) := by decide +kernel
theorem dX0_copyFrom_137 : decode cX0_copyFrom 137 = .ok (.getfield 28, 3) := by decide +kernel
theorem dX0_copyFrom_140 : decode cX0_copyFrom 140 = .ok (.iconst 0, 1) := by decide +kernel
theorem dX0_copyFrom_141 : decode cX0_copyFrom 141 = .ok (.aload_n 0, 1) := by decide +kernel
theorem dX0_copyFrom_142 : decode cX0_copyFrom 142 = .ok (.getfield 28, 3) := by decide +kernel
theorem dX0_copyFrom_145 : decode cX0_copyFrom 145 = .ok (.iconst 0, 1) := by decide +kernel
theorem dX0_copyFrom_146 : decode cX0_copyFrom 146 = .ok (.aload_n 0, 1) := by decide +kernel
theorem dX0_copyFrom_147 : decode cX0_copyFrom 147 = .ok (.getfield 28, 3) := by decide +kernel
theorem dX0_copyFrom_150 : decode cX0_copyFrom 150 = .ok (.arraylength, 1) := by decide +kernel
theorem dX0_copyFrom_151 : decode cX0_copyFrom 151 = .ok (.invokestatic 60, 3) := by decide +kernel
theorem dX0_copyFrom_154 : decode cX0_copyFrom 154 = .ok (.aload_n 1, 1) := by decide +kernel
theorem dX0_copyFrom_155 : decode cX0_copyFrom 155 = .ok (.getfield 32, 3) := by decide +kernel
theorem dX0_copyFrom_158 : decode cX0_copyFrom 158 = .ok (.iconst 0, 1) := by decide +kernel
theorem dX0_copyFrom_159 : decode cX0_copyFrom 159 = .ok (.aload_n 0, 1) := by decide +kernel
theorem dX0_copyFrom_160 : decode cX0_copyFrom 160 = .ok (.getfield 32, 3) := by decide +kernel
theorem dX0_copyFrom_163 : decode cX0_copyFrom 163 = .ok (.iconst 0, 1) := by decide +kernel
theorem dX0_copyFrom_164 : decode cX0_copyFrom 164 = .ok (.aload_n 0, 1) := by decide +kernel
theorem dX0_copyFrom_165 : decode cX0_copyFrom 165 = .ok (.getfield 32, 3) := by decide +kernel
theorem dX0_copyFrom_168 : decode cX0_copyFrom 168 = .ok (.arraylength, 1) := by decide +kernel
theorem dX0_copyFrom_169 : decode cX0_copyFrom 169 = .ok (.invokestatic 60, 3) := by decide +kernel
theorem dX0_copyFrom_172 : decode cX0_copyFrom 172 = .ok (.aload_n 0, 1) := by decide +kernel
theorem dX0_copyFrom_173 : decode cX0_copyFrom 173 = .ok (.aload_n 1, 1) := by decide +kernel
theorem dX0_copyFrom_174 : decode cX0_copyFrom 174 = .ok (.getfield 66, 3) := by decide +kernel
theorem dX0_copyFrom_177 : decode cX0_copyFrom 177 = .ok (.putfield 66, 3) := by decide +kernel
theorem dX0_copyFrom_180 : decode cX0_copyFrom 180 = .ok (.aload_n 0, 1) := by decide +kernel
theorem dX0_copyFrom_181 : decode cX0_copyFrom 181 = .ok (.aload_n 1, 1) := by decide +kernel
theorem dX0_copyFrom_182 : decode cX0_copyFrom 182 = .ok (.getfield 69, 3) := by decide +kernel
theorem dX0_copyFrom_185 : decode cX0_copyFrom 185 = .ok (.putfield 69, 3) := by decide +kernel
theorem dX0_copyFrom_188 : decode cX0_copyFrom 188 = .ok (.aload_n 0, 1) := by decide +kernel
theorem dX0_copyFrom_189 : decode cX0_copyFrom 189 = .ok (.aload_n 1, 1) := by decide +kernel
theorem dX0_copyFrom_190 : decode cX0_copyFrom 190 = .ok (.getfield 72, 3) := by decide +kernel
theorem dX0_copyFrom_193 : decode cX0_copyFrom 193 = .ok (.putfield 72, 3) := by decide +kernel
theorem dX0_copyFrom_196 : decode cX0_copyFrom 196 = .ok (.aload_n 0, 1) := by decide +kernel
theorem dX0_copyFrom_197 : decode cX0_copyFrom 197 = .ok (.aload_n 1, 1) := by decide +kernel
theorem dX0_copyFrom_198 : decode cX0_copyFrom 198 = .ok (.getfield 75, 3) := by decide +kernel
theorem dX0_copyFrom_201 : decode cX0_copyFrom 201 = .ok (.putfield 75, 3) := by decide +kernel
theorem dX0_copyFrom_204 : decode cX0_copyFrom 204 = .ok (.aload_n 0, 1) := by decide +kernel
theorem dX0_copyFrom_205 : decode cX0_copyFrom 205 = .ok (.aload_n 1, 1) := by decide +kernel
theorem dX0_copyFrom_206 : decode cX0_copyFrom 206 = .ok (.getfield 78, 3) := by decide +kernel
theorem dX0_copyFrom_209 : decode cX0_copyFrom 209 = .ok (.putfield 78, 3) := by decide +kernel
theorem dX0_copyFrom_212 : decode cX0_copyFrom 212 = .ok (.aload_n 0, 1) := by decide +kernel
theorem dX0_copyFrom_213 : decode cX0_copyFrom 213 = .ok (.aload_n 1, 1) := by decide +kernel
theorem dX0_copyFrom_214 : decode cX0_copyFrom 214 = .ok (.getfield 81, 3) := by decide +kernel
theorem dX0_copyFrom_217 : decode cX0_copyFrom 217 = .ok (.putfield 81, 3) := by decide +kernel
theorem dX0_copyFrom_220 : decode cX0_copyFrom 220 = .ok (.aload_n 0, 1) := by decide +kernel
theorem dX0_copyFrom_221 : decode cX0_copyFrom 221 = .ok (.aload_n 1, 1) := by decide +kernel
theorem dX0_copyFrom_222 : decode cX0_copyFrom 222 = .ok (.getfield 84, 3) := by decide +kernel
theorem dX0_copyFrom_225 : decode cX0_copyFrom 225 = .ok (.putfield 84, 3) := by decide +kernel
theorem dX0_copyFrom_228 : decode cX0_copyFrom 228 = .ok (.return_, 1) := by decide +kernel
theorem dX0_hasBidder_0 : decode cX0_hasBidder 0 = .ok (.iload_n 1, 1) := by decide +kernel
theorem dX0_hasBidder_1 : decode cX0_hasBidder 1 = .ok (.ifCond .lt 15, 3) := by decide +kernel
theorem dX0_hasBidder_4 : decode cX0_hasBidder 4 = .ok (.iload_n 1, 1) := by decide +kernel
theorem dX0_hasBidder_5 : decode cX0_hasBidder 5 = .ok (.aload_n 0, 1) := by decide +kernel
theorem dX0_hasBidder_6 : decode cX0_hasBidder 6 = .ok (.getfield 39, 3) := by decide +kernel
theorem dX0_hasBidder_9 : decode cX0_hasBidder 9 = .ok (.if_icmp .ge 7, 3) := by decide +kernel
theorem dX0_hasBidder_12 : decode cX0_hasBidder 12 = .ok (.iconst 1, 1) := by decide +kernel
theorem dX0_hasBidder_13 : decode cX0_hasBidder 13 = .ok (.goto 4, 3) := by decide +kernel
theorem dX0_hasBidder_16 : decode cX0_hasBidder 16 = .ok (.iconst 0, 1) := by decide +kernel
theorem dX0_hasBidder_17 : decode cX0_hasBidder 17 = .ok (.ireturn, 1) := by decide +kernel
theorem dX0_findSeated_0 : decode cX0_findSeated 0 = .ok (.iconst 0, 1) := by decide +kernel
theorem dX0_findSeated_1 : decode cX0_findSeated 1 = .ok (.istore_n 3, 1) := by decide +kernel
theorem dX0_findSeated_2 : decode cX0_findSeated 2 = .ok (.iload_n 3, 1) := by decide +kernel
theorem dX0_findSeated_3 : decode cX0_findSeated 3 = .ok (.aload_n 0, 1) := by decide +kernel
theorem dX0_findSeated_4 : decode cX0_findSeated 4 = .ok (.getfield 39, 3) := by decide +kernel
theorem dX0_findSeated_7 : decode cX0_findSeated 7 = .ok (.if_icmp .ge 37, 3) := by decide +kernel
theorem dX0_findSeated_10 : decode cX0_findSeated 10 = .ok (.aload_n 0, 1) := by decide +kernel
theorem dX0_findSeated_11 : decode cX0_findSeated 11 = .ok (.getfield 13, 3) := by decide +kernel
theorem dX0_findSeated_14 : decode cX0_findSeated 14 = .ok (.iload_n 3, 1) := by decide +kernel
theorem dX0_findSeated_15 : decode cX0_findSeated 15 = .ok (.aaload, 1) := by decide +kernel
theorem dX0_findSeated_16 : decode cX0_findSeated 16 = .ok (.getfield 87, 3) := by decide +kernel
theorem dX0_findSeated_19 : decode cX0_findSeated 19 = .ok (.iload_n 1, 1) := by decide +kernel
theorem dX0_findSeated_20 : decode cX0_findSeated 20 = .ok (.if_icmp .ne 18, 3) := by decide +kernel
theorem dX0_findSeated_23 : decode cX0_findSeated 23 = .ok (.aload_n 0, 1) := by decide +kernel
theorem dX0_findSeated_24 : decode cX0_findSeated 24 = .ok (.getfield 13, 3) := by decide +kernel
theorem dX0_findSeated_27 : decode cX0_findSeated 27 = .ok (.iload_n 3, 1) := by decide +kernel
theorem dX0_findSeated_28 : decode cX0_findSeated 28 = .ok (.aaload, 1) := by decide +kernel
theorem dX0_findSeated_29 : decode cX0_findSeated 29 = .ok (.getfield 90, 3) := by decide +kernel
theorem dX0_findSeated_32 : decode cX0_findSeated 32 = .ok (.iload_n 2, 1) := by decide +kernel
theorem dX0_findSeated_33 : decode cX0_findSeated 33 = .ok (.if_icmp .ne 5, 3) := by decide +kernel
theorem dX0_findSeated_36 : decode cX0_findSeated 36 = .ok (.iload_n 3, 1) := by decide +kernel
theorem dX0_findSeated_37 : decode cX0_findSeated 37 = .ok (.ireturn, 1) := by decide +kernel
theorem dX0_findSeated_38 : decode cX0_findSeated 38 = .ok (.iinc 3 1, 3) := by decide +kernel
theorem dX0_findSeated_41 : decode cX0_findSeated 41 = .ok (.goto (-39), 3) := by decide +kernel
theorem dX0_findSeated_44 : decode cX0_findSeated 44 = .ok (.ldc 93, 2) := by decide +kernel
theorem dX0_findSeated_46 : decode cX0_findSeated 46 = .ok (.ireturn, 1) := by decide +kernel
theorem dX0_seatBidder_0 : decode cX0_seatBidder 0 = .ok (.iload_n 1, 1) := by decide +kernel
theorem dX0_seatBidder_1 : decode cX0_seatBidder 1 = .ok (.iload_n 2, 1) := by decide +kernel
theorem dX0_seatBidder_2 : decode cX0_seatBidder 2 = .ok (.invokestatic 94, 3) := by decide +kernel
theorem dX0_seatBidder_5 : decode cX0_seatBidder 5 = .ok (.ifCond .eq 25, 3) := by decide +kernel
theorem dX0_seatBidder_8 : decode cX0_seatBidder 8 = .ok (.iload_n 3, 1) := by decide +kernel
theorem dX0_seatBidder_9 : decode cX0_seatBidder 9 = .ok (.iconst 0, 1) := by decide +kernel
theorem dX0_seatBidder_10 : decode cX0_seatBidder 10 = .ok (.sipush 999, 3) := by decide +kernel
theorem dX0_seatBidder_13 : decode cX0_seatBidder 13 = .ok (.invokestatic 98, 3) := by decide +kernel
theorem dX0_seatBidder_16 : decode cX0_seatBidder 16 = .ok (.ifCond .eq 14, 3) := by decide +kernel
theorem dX0_seatBidder_19 : decode cX0_seatBidder 19 = .ok (.iload 4, 2) := by decide +kernel
theorem dX0_seatBidder_21 : decode cX0_seatBidder 21 = .ok (.iconst 1, 1) := by decide +kernel
theorem dX0_seatBidder_22 : decode cX0_seatBidder 22 = .ok (.bipush 9, 2) := by decide +kernel
theorem dX0_seatBidder_24 : decode cX0_seatBidder 24 = .ok (.invokestatic 98, 3) := by decide +kernel
theorem dX0_seatBidder_27 : decode cX0_seatBidder 27 = .ok (.ifCond .ne 6, 3) := by decide +kernel
theorem dX0_seatBidder_30 : decode cX0_seatBidder 30 = .ok (.ldc 102, 2) := by decide +kernel
theorem dX0_seatBidder_32 : decode cX0_seatBidder 32 = .ok (.ireturn, 1) := by decide +kernel
theorem dX0_seatBidder_33 : decode cX0_seatBidder 33 = .ok (.aload_n 0, 1) := by decide +kernel
theorem dX0_seatBidder_34 : decode cX0_seatBidder 34 = .ok (.iload_n 1, 1) := by decide +kernel
theorem dX0_seatBidder_35 : decode cX0_seatBidder 35 = .ok (.iload_n 2, 1) := by decide +kernel
theorem dX0_seatBidder_36 : decode cX0_seatBidder 36 = .ok (.invokevirtual 103, 3) := by decide +kernel
theorem dX0_seatBidder_39 : decode cX0_seatBidder 39 = .ok (.ldc 93, 2) := by decide +kernel
theorem dX0_seatBidder_41 : decode cX0_seatBidder 41 = .ok (.if_icmp .eq 6, 3) := by decide +kernel
theorem dX0_seatBidder_44 : decode cX0_seatBidder 44 = .ok (.ldc 107, 2) := by decide +kernel
theorem dX0_seatBidder_46 : decode cX0_seatBidder 46 = .ok (.ireturn, 1) := by decide +kernel
theorem dX0_seatBidder_47 : decode cX0_seatBidder 47 = .ok (.aload_n 0, 1) := by decide +kernel
theorem dX0_seatBidder_48 : decode cX0_seatBidder 48 = .ok (.getfield 39, 3) := by decide +kernel
theorem dX0_seatBidder_51 : decode cX0_seatBidder 51 = .ok (.aload_n 0, 1) := by decide +kernel
theorem dX0_seatBidder_52 : decode cX0_seatBidder 52 = .ok (.getfield 13, 3) := by decide +kernel
theorem dX0_seatBidder_55 : decode cX0_seatBidder 55 = .ok (.arraylength, 1) := by decide +kernel
theorem dX0_seatBidder_56 : decode cX0_seatBidder 56 = .ok (.if_icmp .lt 6, 3) := by decide +kernel
theorem dX0_seatBidder_59 : decode cX0_seatBidder 59 = .ok (.ldc 108, 2) := by decide +kernel
theorem dX0_seatBidder_61 : decode cX0_seatBidder 61 = .ok (.ireturn, 1) := by decide +kernel
theorem dX0_seatBidder_62 : decode cX0_seatBidder 62 = .ok (.aload_n 0, 1) := by decide +kernel
theorem dX0_seatBidder_63 : decode cX0_seatBidder 63 = .ok (.getfield 13, 3) := by decide +kernel
theorem dX0_seatBidder_66 : decode cX0_seatBidder 66 = .ok (.aload_n 0, 1) := by decide +kernel
theorem dX0_seatBidder_67 : decode cX0_seatBidder 67 = .ok (.getfield 39, 3) := by decide +kernel
theorem dX0_seatBidder_70 : decode cX0_seatBidder 70 = .ok (.aaload, 1) := by decide +kernel
theorem dX0_seatBidder_71 : decode cX0_seatBidder 71 = .ok (.iload_n 1, 1) := by decide +kernel
theorem dX0_seatBidder_72 : decode cX0_seatBidder 72 = .ok (.iload_n 2, 1) := by decide +kernel
theorem dX0_seatBidder_73 : decode cX0_seatBidder 73 = .ok (.iload_n 3, 1) := by decide +kernel
theorem dX0_seatBidder_74 : decode cX0_seatBidder 74 = .ok (.iload 4, 2) := by decide +kernel
theorem dX0_seatBidder_76 : decode cX0_seatBidder 76 = .ok (.invokevirtual 109, 3) := by decide +kernel
theorem dX0_seatBidder_79 : decode cX0_seatBidder 79 = .ok (.aload_n 0, 1) := by decide +kernel
theorem dX0_seatBidder_80 : decode cX0_seatBidder 80 = .ok (.dup, 1) := by decide +kernel
theorem dX0_seatBidder_81 : decode cX0_seatBidder 81 = .ok (.getfield 39, 3) := by decide +kernel
theorem dX0_seatBidder_84 : decode cX0_seatBidder 84 = .ok (.iconst 1, 1) := by decide +kernel
theorem dX0_seatBidder_85 : decode cX0_seatBidder 85 = .ok (.iadd, 1) := by decide +kernel
theorem dX0_seatBidder_86 : decode cX0_seatBidder 86 = .ok (.putfield 39, 3) := by decide +kernel
theorem dX0_seatBidder_89 : decode cX0_seatBidder 89 = .ok (.aload_n 0, 1) := by decide +kernel
theorem dX0_seatBidder_90 : decode cX0_seatBidder 90 = .ok (.getfield 39, 3) := by decide +kernel
theorem dX0_seatBidder_93 : decode cX0_seatBidder 93 = .ok (.iconst 1, 1) := by decide +kernel
theorem dX0_seatBidder_94 : decode cX0_seatBidder 94 = .ok (.isub, 1) := by decide +kernel
theorem dX0_seatBidder_95 : decode cX0_seatBidder 95 = .ok (.ireturn, 1) := by decide +kernel
theorem dX0_changeCold_0 : decode cX0_changeCold 0 = .ok (.aload_n 0, 1) := by decide +kernel
theorem dX0_changeCold_1 : decode cX0_changeCold 1 = .ok (.iload_n 1, 1) := by decide +kernel
theorem dX0_changeCold_2 : decode cX0_changeCold 2 = .ok (.invokevirtual 113, 3) := by decide +kernel
theorem dX0_changeCold_5 : decode cX0_changeCold 5 = .ok (.ifCond .eq 12, 3) := by decide +kernel
theorem dX0_changeCold_8 : decode cX0_changeCold 8 = .ok (.iload_n 2, 1) := by decide +kernel
theorem dX0_changeCold_9 : decode cX0_changeCold 9 = .ok (.iconst 0, 1) := by decide +kernel
theorem dX0_changeCold_10 : decode cX0_changeCold 10 = .ok (.iconst 5, 1) := by decide +kernel
theorem dX0_changeCold_11 : decode cX0_changeCold 11 = .ok (.invokestatic 98, 3) := by decide +kernel
theorem dX0_changeCold_14 : decode cX0_changeCold 14 = .ok (.ifCond .ne 6, 3) := by decide +kernel
theorem dX0_changeCold_17 : decode cX0_changeCold 17 = .ok (.ldc 102, 2) := by decide +kernel
theorem dX0_changeCold_19 : decode cX0_changeCold 19 = .ok (.ireturn, 1) := by decide +kernel
theorem dX0_changeCold_20 : decode cX0_changeCold 20 = .ok (.aload_n 0, 1) := by decide +kernel
theorem dX0_changeCold_21 : decode cX0_changeCold 21 = .ok (.getfield 13, 3) := by decide +kernel
theorem dX0_changeCold_24 : decode cX0_changeCold 24 = .ok (.iload_n 1, 1) := by decide +kernel
theorem dX0_changeCold_25 : decode cX0_changeCold 25 = .ok (.aaload, 1) := by decide +kernel
theorem dX0_changeCold_26 : decode cX0_changeCold 26 = .ok (.getfield 117, 3) := by decide +kernel
theorem dX0_changeCold_29 : decode cX0_changeCold 29 = .ok (.istore_n 3, 1) := by decide +kernel
theorem dX0_changeCold_30 : decode cX0_changeCold 30 = .ok (.aload_n 0, 1) := by decide +kernel
theorem dX0_changeCold_31 : decode cX0_changeCold 31 = .ok (.getfield 13, 3) := by decide +kernel
theorem dX0_changeCold_34 : decode cX0_changeCold 34 = .ok (.iload_n 1, 1) := by decide +kernel
theorem dX0_changeCold_35 : decode cX0_changeCold 35 = .ok (.aaload, 1) := by decide +kernel
theorem dX0_changeCold_36 : decode cX0_changeCold 36 = .ok (.iload_n 2, 1) := by decide +kernel
theorem dX0_changeCold_37 : decode cX0_changeCold 37 = .ok (.putfield 117, 3) := by decide +kernel
theorem dX0_changeCold_40 : decode cX0_changeCold 40 = .ok (.iload_n 3, 1) := by decide +kernel
theorem dX0_changeCold_41 : decode cX0_changeCold 41 = .ok (.ireturn, 1) := by decide +kernel
theorem dX0_changeMuffler_0 : decode cX0_changeMuffler 0 = .ok (.aload_n 0, 1) := by decide +kernel
theorem dX0_changeMuffler_1 : decode cX0_changeMuffler 1 = .ok (.iload_n 1, 1) := by decide +kernel
theorem dX0_changeMuffler_2 : decode cX0_changeMuffler 2 = .ok (.invokevirtual 113, 3) := by decide +kernel
theorem dX0_changeMuffler_5 : decode cX0_changeMuffler 5 = .ok (.ifCond .eq 12, 3) := by decide +kernel
theorem dX0_changeMuffler_8 : decode cX0_changeMuffler 8 = .ok (.iload_n 2, 1) := by decide +kernel
theorem dX0_changeMuffler_9 : decode cX0_changeMuffler 9 = .ok (.iconst 0, 1) := by decide +kernel
theorem dX0_changeMuffler_10 : decode cX0_changeMuffler 10 = .ok (.iconst 5, 1) := by decide +kernel
theorem dX0_changeMuffler_11 : decode cX0_changeMuffler 11 = .ok (.invokestatic 98, 3) := by decide +kernel
theorem dX0_changeMuffler_14 : decode cX0_changeMuffler 14 = .ok (.ifCond .ne 6, 3) := by decide +kernel
theorem dX0_changeMuffler_17 : decode cX0_changeMuffler 17 = .ok (.ldc 102, 2) := by decide +kernel
theorem dX0_changeMuffler_19 : decode cX0_changeMuffler 19 = .ok (.ireturn, 1) := by decide +kernel
theorem dX0_changeMuffler_20 : decode cX0_changeMuffler 20 = .ok (.aload_n 0, 1) := by decide +kernel
theorem dX0_changeMuffler_21 : decode cX0_changeMuffler 21 = .ok (.getfield 13, 3) := by decide +kernel
theorem dX0_changeMuffler_24 : decode cX0_changeMuffler 24 = .ok (.iload_n 1, 1) := by decide +kernel
theorem dX0_changeMuffler_25 : decode cX0_changeMuffler 25 = .ok (.aaload, 1) := by decide +kernel
theorem dX0_changeMuffler_26 : decode cX0_changeMuffler 26 = .ok (.getfield 120, 3) := by decide +kernel
theorem dX0_changeMuffler_29 : decode cX0_changeMuffler 29 = .ok (.istore_n 3, 1) := by decide +kernel
theorem dX0_changeMuffler_30 : decode cX0_changeMuffler 30 = .ok (.aload_n 0, 1) := by decide +kernel
theorem dX0_changeMuffler_31 : decode cX0_changeMuffler 31 = .ok (.getfield 13, 3) := by decide +kernel
theorem dX0_changeMuffler_34 : decode cX0_changeMuffler 34 = .ok (.iload_n 1, 1) := by decide +kernel
theorem dX0_changeMuffler_35 : decode cX0_changeMuffler 35 = .ok (.aaload, 1) := by decide +kernel
theorem dX0_changeMuffler_36 : decode cX0_changeMuffler 36 = .ok (.iload_n 2, 1) := by decide +kernel
theorem dX0_changeMuffler_37 : decode cX0_changeMuffler 37 = .ok (.putfield 120, 3) := by decide +kernel
theorem dX0_changeMuffler_40 : decode cX0_changeMuffler 40 = .ok (.iload_n 3, 1) := by decide +kernel
theorem dX0_changeMuffler_41 : decode cX0_changeMuffler 41 = .ok (.ireturn, 1) := by decide +kernel
theorem dX0_bidderSetWithCold_0 : decode cX0_bidderSetWithCold 0 = .ok (.iconst 0, 1) := by decide +kernel
theorem dX0_bidderSetWithCold_1 : decode cX0_bidderSetWithCold 1 = .ok (.istore_n 1, 1) := by decide +kernel
theorem dX0_bidderSetWithCold_2 : decode cX0_bidderSetWithCold 2 = .ok (.iconst 0, 1) := by decide +kernel
theorem dX0_bidderSetWithCold_3 : decode cX0_bidderSetWithCold 3 = .ok (.istore_n 2, 1) := by decide +kernel
theorem dX0_bidderSetWithCold_4 : decode cX0_bidderSetWithCold 4 = .ok (.iload_n 2, 1) := by decide +kernel
theorem dX0_bidderSetWithCold_5 : decode cX0_bidderSetWithCold 5 = .ok (.aload_n 0, 1) := by decide +kernel
theorem dX0_bidderSetWithCold_6 : decode cX0_bidderSetWithCold 6 = .ok (.getfield 39, 3) := by decide +kernel
theorem dX0_bidderSetWithCold_9 : decode cX0_bidderSetWithCold 9 = .ok (.if_icmp .ge 27, 3) := by decide +kernel
theorem dX0_bidderSetWithCold_12 : decode cX0_bidderSetWithCold 12 = .ok (.aload_n 0, 1) := by decide +kernel
theorem dX0_bidderSetWithCold_13 : decode cX0_bidderSetWithCold 13 = .ok (.getfield 13, 3) := by decide +kernel
theorem dX0_bidderSetWithCold_16 : decode cX0_bidderSetWithCold 16 = .ok (.iload_n 2, 1) := by decide +kernel
theorem dX0_bidderSetWithCold_17 : decode cX0_bidderSetWithCold 17 = .ok (.aaload, 1) := by decide +kernel
theorem dX0_bidderSetWithCold_18 : decode cX0_bidderSetWithCold 18 = .ok (.getfield 117, 3) := by decide +kernel
theorem dX0_bidderSetWithCold_21 : decode cX0_bidderSetWithCold 21 = .ok (.ifCond .le 9, 3) := by decide +kernel
theorem dX0_bidderSetWithCold_24 : decode cX0_bidderSetWithCold 24 = .ok (.iload_n 1, 1) := by decide +kernel
theorem dX0_bidderSetWithCold_25 : decode cX0_bidderSetWithCold 25 = .ok (.iconst 1, 1) := by decide +kernel
theorem dX0_bidderSetWithCold_26 : decode cX0_bidderSetWithCold 26 = .ok (.iload_n 2, 1) := by decide +kernel
theorem dX0_bidderSetWithCold_27 : decode cX0_bidderSetWithCold 27 = .ok (.ishl, 1) := by decide +kernel
theorem dX0_bidderSetWithCold_28 : decode cX0_bidderSetWithCold 28 = .ok (.ior, 1) := by decide +kernel
theorem dX0_bidderSetWithCold_29 : decode cX0_bidderSetWithCold 29 = .ok (.istore_n 1, 1) := by decide +kernel
theorem dX0_bidderSetWithCold_30 : decode cX0_bidderSetWithCold 30 = .ok (.iinc 2 1, 3) := by decide +kernel
theorem dX0_bidderSetWithCold_33 : decode cX0_bidderSetWithCold 33 = .ok (.goto (-29), 3) := by decide +kernel
theorem dX0_bidderSetWithCold_36 : decode cX0_bidderSetWithCold 36 = .ok (.iload_n 1, 1) := by decide +kernel
theorem dX0_bidderSetWithCold_37 : decode cX0_bidderSetWithCold 37 = .ok (.ireturn, 1) := by decide +kernel
theorem dX0_changeSetting_0 : decode cX0_changeSetting 0 = .ok (.iload_n 1, 1) := by decide +kernel
theorem dX0_changeSetting_1 : decode cX0_changeSetting 1 = .ok (.iconst 0, 1) := by decide +kernel
theorem dX0_changeSetting_2 : decode cX0_changeSetting 2 = .ok (.aload_n 0, 1) := by decide +kernel
theorem dX0_changeSetting_3 : decode cX0_changeSetting 3 = .ok (.getfield 32, 3) := by decide +kernel
theorem dX0_changeSetting_6 : decode cX0_changeSetting 6 = .ok (.arraylength, 1) := by decide +kernel
theorem dX0_changeSetting_7 : decode cX0_changeSetting 7 = .ok (.iconst 1, 1) := by decide +kernel
theorem dX0_changeSetting_8 : decode cX0_changeSetting 8 = .ok (.isub, 1) := by decide +kernel
theorem dX0_changeSetting_9 : decode cX0_changeSetting 9 = .ok (.invokestatic 98, 3) := by decide +kernel
theorem dX0_changeSetting_12 : decode cX0_changeSetting 12 = .ok (.ifCond .eq 13, 3) := by decide +kernel
theorem dX0_changeSetting_15 : decode cX0_changeSetting 15 = .ok (.iload_n 2, 1) := by decide +kernel
theorem dX0_changeSetting_16 : decode cX0_changeSetting 16 = .ok (.iconst 1, 1) := by decide +kernel
theorem dX0_changeSetting_17 : decode cX0_changeSetting 17 = .ok (.bipush 9, 2) := by decide +kernel
theorem dX0_changeSetting_19 : decode cX0_changeSetting 19 = .ok (.invokestatic 98, 3) := by decide +kernel
theorem dX0_changeSetting_22 : decode cX0_changeSetting 22 = .ok (.ifCond .ne 6, 3) := by decide +kernel
theorem dX0_changeSetting_25 : decode cX0_changeSetting 25 = .ok (.ldc 102, 2) := by decide +kernel
theorem dX0_changeSetting_27 : decode cX0_changeSetting 27 = .ok (.ireturn, 1) := by decide +kernel
theorem dX0_changeSetting_28 : decode cX0_changeSetting 28 = .ok (.aload_n 0, 1) := by decide +kernel
theorem dX0_changeSetting_29 : decode cX0_changeSetting 29 = .ok (.getfield 32, 3) := by decide +kernel
theorem dX0_changeSetting_32 : decode cX0_changeSetting 32 = .ok (.iload_n 1, 1) := by decide +kernel
theorem dX0_changeSetting_33 : decode cX0_changeSetting 33 = .ok (.iaload, 1) := by decide +kernel
theorem dX0_changeSetting_34 : decode cX0_changeSetting 34 = .ok (.istore_n 3, 1) := by decide +kernel
theorem dX0_changeSetting_35 : decode cX0_changeSetting 35 = .ok (.aload_n 0, 1) := by decide +kernel
theorem dX0_changeSetting_36 : decode cX0_changeSetting 36 = .ok (.getfield 32, 3) := by decide +kernel
theorem dX0_changeSetting_39 : decode cX0_changeSetting 39 = .ok (.iload_n 1, 1) := by decide +kernel
theorem dX0_changeSetting_40 : decode cX0_changeSetting 40 = .ok (.iload_n 2, 1) := by decide +kernel
theorem dX0_changeSetting_41 : decode cX0_changeSetting 41 = .ok (.iastore, 1) := by decide +kernel
theorem dX0_changeSetting_42 : decode cX0_changeSetting 42 = .ok (.iload_n 3, 1) := by decide +kernel
theorem dX0_changeSetting_43 : decode cX0_changeSetting 43 = .ok (.ireturn, 1) := by decide +kernel
theorem dX0_addLot_0 : decode cX0_addLot 0 = .ok (.iload_n 1, 1) := by decide +kernel
theorem dX0_addLot_1 : decode cX0_addLot 1 = .ok (.iconst 1, 1) := by decide +kernel
theorem dX0_addLot_2 : decode cX0_addLot 2 = .ok (.bipush 99, 2) := by decide +kernel
theorem dX0_addLot_4 : decode cX0_addLot 4 = .ok (.invokestatic 98, 3) := by decide +kernel
theorem dX0_addLot_7 : decode cX0_addLot 7 = .ok (.ifCond .eq 13, 3) := by decide +kernel
theorem dX0_addLot_10 : decode cX0_addLot 10 = .ok (.iload_n 2, 1) := by decide +kernel
theorem dX0_addLot_11 : decode cX0_addLot 11 = .ok (.iconst 1, 1) := by decide +kernel
theorem dX0_addLot_12 : decode cX0_addLot 12 = .ok (.bipush 20, 2) := by decide +kernel
theorem dX0_addLot_14 : decode cX0_addLot 14 = .ok (.invokestatic 98, 3) := by decide +kernel
theorem dX0_addLot_17 : decode cX0_addLot 17 = .ok (.ifCond .ne 6, 3) := by decide +kernel
theorem dX0_addLot_20 : decode cX0_addLot 20 = .ok (.ldc 102, 2) := by decide +kernel
theorem dX0_addLot_22 : decode cX0_addLot 22 = .ok (.ireturn, 1) := by decide +kernel
theorem dX0_addLot_23 : decode cX0_addLot 23 = .ok (.aload_n 0, 1) := by decide +kernel
theorem dX0_addLot_24 : decode cX0_addLot 24 = .ok (.getfield 47, 3) := by decide +kernel
theorem dX0_addLot_27 : decode cX0_addLot 27 = .ok (.aload_n 0, 1) := by decide +kernel
theorem dX0_addLot_28 : decode cX0_addLot 28 = .ok (.getfield 20, 3) := by decide +kernel
theorem dX0_addLot_31 : decode cX0_addLot 31 = .ok (.arraylength, 1) := by decide +kernel
theorem dX0_addLot_32 : decode cX0_addLot 32 = .ok (.if_icmp .lt 6, 3) := by decide +kernel
theorem dX0_addLot_35 : decode cX0_addLot 35 = .ok (.ldc 108, 2) := by decide +kernel
theorem dX0_addLot_37 : decode cX0_addLot 37 = .ok (.ireturn, 1) := by decide +kernel
theorem dX0_addLot_38 : decode cX0_addLot 38 = .ok (.aload_n 0, 1) := by decide +kernel
theorem dX0_addLot_39 : decode cX0_addLot 39 = .ok (.getfield 20, 3) := by decide +kernel
theorem dX0_addLot_42 : decode cX0_addLot 42 = .ok (.aload_n 0, 1) := by decide +kernel
theorem dX0_addLot_43 : decode cX0_addLot 43 = .ok (.getfield 47, 3) := by decide +kernel
theorem dX0_addLot_46 : decode cX0_addLot 46 = .ok (.aaload, 1) := by decide +kernel
theorem dX0_addLot_47 : decode cX0_addLot 47 = .ok (.iload_n 1, 1) := by decide +kernel
theorem dX0_addLot_48 : decode cX0_addLot 48 = .ok (.iload_n 2, 1) := by decide +kernel
theorem dX0_addLot_49 : decode cX0_addLot 49 = .ok (.invokevirtual 123, 3) := by decide +kernel
theorem dX0_addLot_52 : decode cX0_addLot 52 = .ok (.aload_n 0, 1) := by decide +kernel
theorem dX0_addLot_53 : decode cX0_addLot 53 = .ok (.dup, 1) := by decide +kernel
theorem dX0_addLot_54 : decode cX0_addLot 54 = .ok (.getfield 47, 3) := by decide +kernel
theorem dX0_addLot_57 : decode cX0_addLot 57 = .ok (.iconst 1, 1) := by decide +kernel
theorem dX0_addLot_58 : decode cX0_addLot 58 = .ok (.iadd, 1) := by decide +kernel
theorem dX0_addLot_59 : decode cX0_addLot 59 = .ok (.putfield 47, 3) := by decide +kernel
theorem dX0_addLot_62 : decode cX0_addLot 62 = .ok (.aload_n 0, 1) := by decide +kernel
theorem dX0_addLot_63 : decode cX0_addLot 63 = .ok (.dup, 1) := by decide +kernel
theorem dX0_addLot_64 : decode cX0_addLot 64 = .ok (.getfield 72, 3) := by decide +kernel
theorem dX0_addLot_67 : decode cX0_addLot 67 = .ok (.iconst 1, 1) := by decide +kernel
theorem dX0_addLot_68 : decode cX0_addLot 68 = .ok (.iadd, 1) := by decide +kernel
theorem dX0_addLot_69 : decode cX0_addLot 69 = .ok (.putfield 72, 3) := by decide +kernel
theorem dX0_addLot_72 : decode cX0_addLot 72 = .ok (.aload_n 0, 1) := by decide +kernel
theorem dX0_addLot_73 : decode cX0_addLot 73 = .ok (.getfield 47, 3) := by decide +kernel
theorem dX0_addLot_76 : decode cX0_addLot 76 = .ok (.ireturn, 1) := by decide +kernel
theorem dX0_raiseNextLot_0 : decode cX0_raiseNextLot 0 = .ok (.aload_n 0, 1) := by decide +kernel
theorem dX0_raiseNextLot_1 : decode cX0_raiseNextLot 1 = .ok (.getfield 56, 3) := by decide +kernel
theorem dX0_raiseNextLot_4 : decode cX0_raiseNextLot 4 = .ok (.ifCond .ne 10, 3) := by decide +kernel
theorem dX0_raiseNextLot_7 : decode cX0_raiseNextLot 7 = .ok (.aload_n 0, 1) := by decide +kernel
theorem dX0_raiseNextLot_8 : decode cX0_raiseNextLot 8 = .ok (.getfield 47, 3) := by decide +kernel
theorem dX0_raiseNextLot_11 : decode cX0_raiseNextLot 11 = .ok (.ifCond .ne 6, 3) := by decide +kernel
theorem dX0_raiseNextLot_14 : decode cX0_raiseNextLot 14 = .ok (.ldc 107, 2) := by decide +kernel
theorem dX0_raiseNextLot_16 : decode cX0_raiseNextLot 16 = .ok (.ireturn, 1) := by decide +kernel
theorem dX0_raiseNextLot_17 : decode cX0_raiseNextLot 17 = .ok (.aload_n 0, 1) := by decide +kernel
theorem dX0_raiseNextLot_18 : decode cX0_raiseNextLot 18 = .ok (.getfield 35, 3) := by decide +kernel
theorem dX0_raiseNextLot_21 : decode cX0_raiseNextLot 21 = .ok (.astore_n 1, 1) := by decide +kernel
theorem dX0_raiseNextLot_22 : decode cX0_raiseNextLot 22 = .ok (.aload_n 0, 1) := by decide +kernel
theorem dX0_raiseNextLot_23 : decode cX0_raiseNextLot 23 = .ok (.aload_n 0, 1) := by decide +kernel
theorem dX0_raiseNextLot_24 : decode cX0_raiseNextLot 24 = .ok (.getfield 20, 3) := by decide +kernel
theorem dX0_raiseNextLot_27 : decode cX0_raiseNextLot 27 = .ok (.iconst 0, 1) := by decide +kernel
theorem dX0_raiseNextLot_28 : decode cX0_raiseNextLot 28 = .ok (.aaload, 1) := by decide +kernel
theorem dX0_raiseNextLot_29 : decode cX0_raiseNextLot 29 = .ok (.putfield 35, 3) := by decide +kernel
theorem dX0_raiseNextLot_32 : decode cX0_raiseNextLot 32 = .ok (.iconst 1, 1) := by decide +kernel
theorem dX0_raiseNextLot_33 : decode cX0_raiseNextLot 33 = .ok (.istore_n 2, 1) := by decide +kernel
theorem dX0_raiseNextLot_34 : decode cX0_raiseNextLot 34 = .ok (.iload_n 2, 1) := by decide +kernel
theorem dX0_raiseNextLot_35 : decode cX0_raiseNextLot 35 = .ok (.aload_n 0, 1) := by decide +kernel
theorem dX0_raiseNextLot_36 : decode cX0_raiseNextLot 36 = .ok (.getfield 20, 3) := by decide +kernel
theorem dX0_raiseNextLot_39 : decode cX0_raiseNextLot 39 = .ok (.arraylength, 1) := by decide +kernel
theorem dX0_raiseNextLot_40 : decode cX0_raiseNextLot 40 = .ok (.if_icmp .ge 23, 3) := by decide +kernel
theorem dX0_raiseNextLot_43 : decode cX0_raiseNextLot 43 = .ok (.aload_n 0, 1) := by decide +kernel
theorem dX0_raiseNextLot_44 : decode cX0_raiseNextLot 44 = .ok (.getfield 20, 3) := by decide +kernel
theorem dX0_raiseNextLot_47 : decode cX0_raiseNextLot 47 = .ok (.iload_n 2, 1) := by decide +kernel
theorem dX0_raiseNextLot_48 : decode cX0_raiseNextLot 48 = .ok (.iconst 1, 1) := by decide +kernel
theorem dX0_raiseNextLot_49 : decode cX0_raiseNextLot 49 = .ok (.isub, 1) := by decide +kernel
theorem dX0_raiseNextLot_50 : decode cX0_raiseNextLot 50 = .ok (.aload_n 0, 1) := by decide +kernel
theorem dX0_raiseNextLot_51 : decode cX0_raiseNextLot 51 = .ok (.getfield 20, 3) := by decide +kernel
theorem dX0_raiseNextLot_54 : decode cX0_raiseNextLot 54 = .ok (.iload_n 2, 1) := by decide +kernel
theorem dX0_raiseNextLot_55 : decode cX0_raiseNextLot 55 = .ok (.aaload, 1) := by decide +kernel
theorem dX0_raiseNextLot_56 : decode cX0_raiseNextLot 56 = .ok (.aastore, 1) := by decide +kernel
theorem dX0_raiseNextLot_57 : decode cX0_raiseNextLot 57 = .ok (.iinc 2 1, 3) := by decide +kernel
theorem dX0_raiseNextLot_60 : decode cX0_raiseNextLot 60 = .ok (.goto (-26), 3) := by decide +kernel
theorem dX0_raiseNextLot_63 : decode cX0_raiseNextLot 63 = .ok (.aload_n 0, 1) := by decide +kernel
theorem dX0_raiseNextLot_64 : decode cX0_raiseNextLot 64 = .ok (.getfield 20, 3) := by decide +kernel
theorem dX0_raiseNextLot_67 : decode cX0_raiseNextLot 67 = .ok (.aload_n 0, 1) := by decide +kernel
theorem dX0_raiseNextLot_68 : decode cX0_raiseNextLot 68 = .ok (.getfield 20, 3) := by decide +kernel
theorem dX0_raiseNextLot_71 : decode cX0_raiseNextLot 71 = .ok (.arraylength, 1) := by decide +kernel
theorem dX0_raiseNextLot_72 : decode cX0_raiseNextLot 72 = .ok (.iconst 1, 1) := by decide +kernel
theorem dX0_raiseNextLot_73 : decode cX0_raiseNextLot 73 = .ok (.isub, 1) := by decide +kernel
theorem dX0_raiseNextLot_74 : decode cX0_raiseNextLot 74 = .ok (.aload_n 1, 1) := by decide +kernel
theorem dX0_raiseNextLot_75 : decode cX0_raiseNextLot 75 = .ok (.aastore, 1) := by decide +kernel
theorem dX0_raiseNextLot_76 : decode cX0_raiseNextLot 76 = .ok (.aload_n 0, 1) := by decide +kernel
theorem dX0_raiseNextLot_77 : decode cX0_raiseNextLot 77 = .ok (.dup, 1) := by decide +kernel
theorem dX0_raiseNextLot_78 : decode cX0_raiseNextLot 78 = .ok (.getfield 47, 3) := by decide +kernel
theorem dX0_raiseNextLot_81 : decode cX0_raiseNextLot 81 = .ok (.iconst 1, 1) := by decide +kernel
theorem dX0_raiseNextLot_82 : decode cX0_raiseNextLot 82 = .ok (.isub, 1) := by decide +kernel
theorem dX0_raiseNextLot_83 : decode cX0_raiseNextLot 83 = .ok (.putfield 47, 3) := by decide +kernel
theorem dX0_raiseNextLot_86 : decode cX0_raiseNextLot 86 = .ok (.aload_n 0, 1) := by decide +kernel
theorem dX0_raiseNextLot_87 : decode cX0_raiseNextLot 87 = .ok (.iconst 1, 1) := by decide +kernel
theorem dX0_raiseNextLot_88 : decode cX0_raiseNextLot 88 = .ok (.putfield 56, 3) := by decide +kernel
theorem dX0_raiseNextLot_91 : decode cX0_raiseNextLot 91 = .ok (.aload_n 0, 1) := by decide +kernel
theorem dX0_raiseNextLot_92 : decode cX0_raiseNextLot 92 = .ok (.getfield 35, 3) := by decide +kernel
theorem dX0_raiseNextLot_95 : decode cX0_raiseNextLot 95 = .ok (.getfield 127, 3) := by decide +kernel
theorem dX0_raiseNextLot_98 : decode cX0_raiseNextLot 98 = .ok (.ireturn, 1) := by decide +kernel
theorem dX0_close_0 : decode cX0_close 0 = .ok (.aload_n 0, 1) := by decide +kernel
theorem dX0_close_1 : decode cX0_close 1 = .ok (.getfield 25, 3) := by decide +kernel
theorem dX0_close_4 : decode cX0_close 4 = .ok (.aload_n 0, 1) := by decide +kernel
theorem dX0_close_5 : decode cX0_close 5 = .ok (.getfield 25, 3) := by decide +kernel
theorem dX0_close_8 : decode cX0_close 8 = .ok (.arraylength, 1) := by decide +kernel
theorem dX0_close_9 : decode cX0_close 9 = .ok (.iconst 1, 1) := by decide +kernel
theorem dX0_close_10 : decode cX0_close 10 = .ok (.isub, 1) := by decide +kernel
theorem dX0_close_11 : decode cX0_close 11 = .ok (.aaload, 1) := by decide +kernel
theorem dX0_close_12 : decode cX0_close 12 = .ok (.astore_n 2, 1) := by decide +kernel
theorem dX0_close_13 : decode cX0_close 13 = .ok (.aload_n 0, 1) := by decide +kernel
theorem dX0_close_14 : decode cX0_close 14 = .ok (.getfield 25, 3) := by decide +kernel
theorem dX0_close_17 : decode cX0_close 17 = .ok (.arraylength, 1) := by decide +kernel
theorem dX0_close_18 : decode cX0_close 18 = .ok (.iconst 1, 1) := by decide +kernel
theorem dX0_close_19 : decode cX0_close 19 = .ok (.isub, 1) := by decide +kernel
theorem dX0_close_20 : decode cX0_close 20 = .ok (.istore_n 3, 1) := by decide +kernel
theorem dX0_close_21 : decode cX0_close 21 = .ok (.iload_n 3, 1) := by decide +kernel
theorem dX0_close_22 : decode cX0_close 22 = .ok (.ifCond .le 23, 3) := by decide +kernel
theorem dX0_close_25 : decode cX0_close 25 = .ok (.aload_n 0, 1) := by decide +kernel
theorem dX0_close_26 : decode cX0_close 26 = .ok (.getfield 25, 3) := by decide +kernel
theorem dX0_close_29 : decode cX0_close 29 = .ok (.iload_n 3, 1) := by decide +kernel
theorem dX0_close_30 : decode cX0_close 30 = .ok (.aload_n 0, 1) := by decide +kernel
theorem dX0_close_31 : decode cX0_close 31 = .ok (.getfield 25, 3) := by decide +kernel
theorem dX0_close_34 : decode cX0_close 34 = .ok (.iload_n 3, 1) := by decide +kernel
theorem dX0_close_35 : decode cX0_close 35 = .ok (.iconst 1, 1) := by decide +kernel
theorem dX0_close_36 : decode cX0_close 36 = .ok (.isub, 1) := by decide +kernel
theorem dX0_close_37 : decode cX0_close 37 = .ok (.aaload, 1) := by decide +kernel
theorem dX0_close_38 : decode cX0_close 38 = .ok (.aastore, 1) := by decide +kernel
theorem dX0_close_39 : decode cX0_close 39 = .ok (.iinc 3 (-1), 3) := by decide +kernel
theorem dX0_close_42 : decode cX0_close 42 = .ok (.goto (-21), 3) := by decide +kernel
theorem dX0_close_45 : decode cX0_close 45 = .ok (.aload_n 0, 1) := by decide +kernel
theorem dX0_close_46 : decode cX0_close 46 = .ok (.getfield 25, 3) := by decide +kernel
theorem dX0_close_49 : decode cX0_close 49 = .ok (.iconst 0, 1) := by decide +kernel
theorem dX0_close_50 : decode cX0_close 50 = .ok (.aload_n 0, 1) := by decide +kernel
theorem dX0_close_51 : decode cX0_close 51 = .ok (.getfield 35, 3) := by decide +kernel
theorem dX0_close_54 : decode cX0_close 54 = .ok (.aastore, 1) := by decide +kernel
theorem dX0_close_55 : decode cX0_close 55 = .ok (.aload_n 0, 1) := by decide +kernel
theorem dX0_close_56 : decode cX0_close 56 = .ok (.getfield 35, 3) := by decide +kernel
theorem dX0_close_59 : decode cX0_close 59 = .ok (.iload_n 1, 1) := by decide +kernel
theorem dX0_close_60 : decode cX0_close 60 = .ok (.putfield 130, 3) := by decide +kernel
theorem dX0_close_63 : decode cX0_close 63 = .ok (.aload_n 0, 1) := by decide +kernel
theorem dX0_close_64 : decode cX0_close 64 = .ok (.aload_n 2, 1) := by decide +kernel
theorem dX0_close_65 : decode cX0_close 65 = .ok (.putfield 35, 3) := by decide +kernel
theorem dX0_close_68 : decode cX0_close 68 = .ok (.aload_n 0, 1) := by decide +kernel
theorem dX0_close_69 : decode cX0_close 69 = .ok (.iconst 0, 1) := by decide +kernel
theorem dX0_close_70 : decode cX0_close 70 = .ok (.putfield 56, 3) := by decide +kernel
theorem dX0_close_73 : decode cX0_close 73 = .ok (.aload_n 0, 1) := by decide +kernel
theorem dX0_close_74 : decode cX0_close 74 = .ok (.getfield 28, 3) := by decide +kernel
theorem dX0_close_77 : decode cX0_close 77 = .ok (.iload_n 1, 1) := by decide +kernel
theorem dX0_close_78 : decode cX0_close 78 = .ok (.dup2, 1) := by decide +kernel
theorem dX0_close_79 : decode cX0_close 79 = .ok (.iaload, 1) := by decide +kernel
theorem dX0_close_80 : decode cX0_close 80 = .ok (.iconst 1, 1) := by decide +kernel
theorem dX0_close_81 : decode cX0_close 81 = .ok (.iadd, 1) := by decide +kernel
theorem dX0_close_82 : decode cX0_close 82 = .ok (.iastore, 1) := by decide +kernel
theorem dX0_close_83 : decode cX0_close 83 = .ok (.aload_n 0, 1) := by decide +kernel
theorem dX0_close_84 : decode cX0_close 84 = .ok (.getfield 53, 3) := by decide +kernel
theorem dX0_close_87 : decode cX0_close 87 = .ok (.aload_n 0, 1) := by decide +kernel
theorem dX0_close_88 : decode cX0_close 88 = .ok (.getfield 25, 3) := by decide +kernel
theorem dX0_close_91 : decode cX0_close 91 = .ok (.arraylength, 1) := by decide +kernel
theorem dX0_close_92 : decode cX0_close 92 = .ok (.if_icmp .ge 13, 3) := by decide +kernel
theorem dX0_close_95 : decode cX0_close 95 = .ok (.aload_n 0, 1) := by decide +kernel
theorem dX0_close_96 : decode cX0_close 96 = .ok (.dup, 1) := by decide +kernel
theorem dX0_close_97 : decode cX0_close 97 = .ok (.getfield 53, 3) := by decide +kernel
theorem dX0_close_100 : decode cX0_close 100 = .ok (.iconst 1, 1) := by decide +kernel
theorem dX0_close_101 : decode cX0_close 101 = .ok (.iadd, 1) := by decide +kernel
theorem dX0_close_102 : decode cX0_close 102 = .ok (.putfield 53, 3) := by decide +kernel
theorem dX0_close_105 : decode cX0_close 105 = .ok (.return_, 1) := by decide +kernel
theorem dX0_reasonAgainst_0 : decode cX0_reasonAgainst 0 = .ok (.aload_n 0, 1) := by decide +kernel
theorem dX0_reasonAgainst_1 : decode cX0_reasonAgainst 1 = .ok (.getfield 56, 3) := by decide +kernel
theorem dX0_reasonAgainst_4 : decode cX0_reasonAgainst 4 = .ok (.ifCond .ne 5, 3) := by decide +kernel
theorem dX0_reasonAgainst_7 : decode cX0_reasonAgainst 7 = .ok (.iconst 1, 1) := by decide +kernel
theorem dX0_reasonAgainst_8 : decode cX0_reasonAgainst 8 = .ok (.ireturn, 1) := by decide +kernel
theorem dX0_reasonAgainst_9 : decode cX0_reasonAgainst 9 = .ok (.aload_n 0, 1) := by decide +kernel
theorem dX0_reasonAgainst_10 : decode cX0_reasonAgainst 10 = .ok (.getfield 13, 3) := by decide +kernel
theorem dX0_reasonAgainst_13 : decode cX0_reasonAgainst 13 = .ok (.iload_n 1, 1) := by decide +kernel
theorem dX0_reasonAgainst_14 : decode cX0_reasonAgainst 14 = .ok (.aaload, 1) := by decide +kernel
theorem dX0_reasonAgainst_15 : decode cX0_reasonAgainst 15 = .ok (.invokevirtual 133, 3) := by decide +kernel
theorem dX0_reasonAgainst_18 : decode cX0_reasonAgainst 18 = .ok (.aload_n 0, 1) := by decide +kernel
theorem dX0_reasonAgainst_19 : decode cX0_reasonAgainst 19 = .ok (.getfield 32, 3) := by decide +kernel
theorem dX0_reasonAgainst_22 : decode cX0_reasonAgainst 22 = .ok (.iconst 0, 1) := by decide +kernel
theorem dX0_reasonAgainst_23 : decode cX0_reasonAgainst 23 = .ok (.iaload, 1) := by decide +kernel
theorem dX0_reasonAgainst_24 : decode cX0_reasonAgainst 24 = .ok (.if_icmp .ge 5, 3) := by decide +kernel
theorem dX0_reasonAgainst_27 : decode cX0_reasonAgainst 27 = .ok (.iconst 2, 1) := by decide +kernel
theorem dX0_reasonAgainst_28 : decode cX0_reasonAgainst 28 = .ok (.ireturn, 1) := by decide +kernel
theorem dX0_reasonAgainst_29 : decode cX0_reasonAgainst 29 = .ok (.aload_n 0, 1) := by decide +kernel
theorem dX0_reasonAgainst_30 : decode cX0_reasonAgainst 30 = .ok (.getfield 35, 3) := by decide +kernel
theorem dX0_reasonAgainst_33 : decode cX0_reasonAgainst 33 = .ok (.invokevirtual 137, 3) := by decide +kernel
theorem dX0_reasonAgainst_36 : decode cX0_reasonAgainst 36 = .ok (.ifCond .eq 16, 3) := by decide +kernel
theorem dX0_reasonAgainst_39 : decode cX0_reasonAgainst 39 = .ok (.aload_n 0, 1) := by decide +kernel
theorem dX0_reasonAgainst_40 : decode cX0_reasonAgainst 40 = .ok (.getfield 35, 3) := by decide +kernel
theorem dX0_reasonAgainst_43 : decode cX0_reasonAgainst 43 = .ok (.getfield 141, 3) := by decide +kernel
theorem dX0_reasonAgainst_46 : decode cX0_reasonAgainst 46 = .ok (.iload_n 1, 1) := by decide +kernel
theorem dX0_reasonAgainst_47 : decode cX0_reasonAgainst 47 = .ok (.if_icmp .ne 5, 3) := by decide +kernel
theorem dX0_reasonAgainst_50 : decode cX0_reasonAgainst 50 = .ok (.iconst 3, 1) := by decide +kernel
theorem dX0_reasonAgainst_51 : decode cX0_reasonAgainst 51 = .ok (.ireturn, 1) := by decide +kernel
theorem dX0_reasonAgainst_52 : decode cX0_reasonAgainst 52 = .ok (.aload_n 0, 1) := by decide +kernel
theorem dX0_reasonAgainst_53 : decode cX0_reasonAgainst 53 = .ok (.getfield 13, 3) := by decide +kernel
theorem dX0_reasonAgainst_56 : decode cX0_reasonAgainst 56 = .ok (.iload_n 1, 1) := by decide +kernel
theorem dX0_reasonAgainst_57 : decode cX0_reasonAgainst 57 = .ok (.aaload, 1) := by decide +kernel
theorem dX0_reasonAgainst_58 : decode cX0_reasonAgainst 58 = .ok (.getfield 144, 3) := by decide +kernel
theorem dX0_reasonAgainst_61 : decode cX0_reasonAgainst 61 = .ok (.aload_n 0, 1) := by decide +kernel
theorem dX0_reasonAgainst_62 : decode cX0_reasonAgainst 62 = .ok (.getfield 35, 3) := by decide +kernel
theorem dX0_reasonAgainst_65 : decode cX0_reasonAgainst 65 = .ok (.invokevirtual 147, 3) := by decide +kernel
theorem dX0_reasonAgainst_68 : decode cX0_reasonAgainst 68 = .ok (.if_icmp .ge 5, 3) := by decide +kernel
theorem dX0_reasonAgainst_71 : decode cX0_reasonAgainst 71 = .ok (.iconst 4, 1) := by decide +kernel
theorem dX0_reasonAgainst_72 : decode cX0_reasonAgainst 72 = .ok (.ireturn, 1) := by decide +kernel
theorem dX0_reasonAgainst_73 : decode cX0_reasonAgainst 73 = .ok (.iconst 0, 1) := by decide +kernel
theorem dX0_reasonAgainst_74 : decode cX0_reasonAgainst 74 = .ok (.ireturn, 1) := by decide +kernel
theorem dX0_takeCough_0 : decode cX0_takeCough 0 = .ok (.aload_n 0, 1) := by decide +kernel
theorem dX0_takeCough_1 : decode cX0_takeCough 1 = .ok (.iload_n 1, 1) := by decide +kernel
theorem dX0_takeCough_2 : decode cX0_takeCough 2 = .ok (.invokevirtual 113, 3) := by decide +kernel
theorem dX0_takeCough_5 : decode cX0_takeCough 5 = .ok (.ifCond .ne 6, 3) := by decide +kernel
theorem dX0_takeCough_8 : decode cX0_takeCough 8 = .ok (.ldc 102, 2) := by decide +kernel
theorem dX0_takeCough_10 : decode cX0_takeCough 10 = .ok (.ireturn, 1) := by decide +kernel
theorem dX0_takeCough_11 : decode cX0_takeCough 11 = .ok (.aload_n 0, 1) := by decide +kernel
theorem dX0_takeCough_12 : decode cX0_takeCough 12 = .ok (.dup, 1) := by decide +kernel
theorem dX0_takeCough_13 : decode cX0_takeCough 13 = .ok (.getfield 78, 3) := by decide +kernel
theorem dX0_takeCough_16 : decode cX0_takeCough 16 = .ok (.iconst 1, 1) := by decide +kernel
theorem dX0_takeCough_17 : decode cX0_takeCough 17 = .ok (.iadd, 1) := by decide +kernel
theorem dX0_takeCough_18 : decode cX0_takeCough 18 = .ok (.putfield 78, 3) := by decide +kernel
theorem dX0_takeCough_21 : decode cX0_takeCough 21 = .ok (.aload_n 0, 1) := by decide +kernel
theorem dX0_takeCough_22 : decode cX0_takeCough 22 = .ok (.getfield 13, 3) := by decide +kernel
theorem dX0_takeCough_25 : decode cX0_takeCough 25 = .ok (.iload_n 1, 1) := by decide +kernel
theorem dX0_takeCough_26 : decode cX0_takeCough 26 = .ok (.aaload, 1) := by decide +kernel
theorem dX0_takeCough_27 : decode cX0_takeCough 27 = .ok (.dup, 1) := by decide +kernel
theorem dX0_takeCough_28 : decode cX0_takeCough 28 = .ok (.getfield 150, 3) := by decide +kernel
theorem dX0_takeCough_31 : decode cX0_takeCough 31 = .ok (.iconst 1, 1) := by decide +kernel
theorem dX0_takeCough_32 : decode cX0_takeCough 32 = .ok (.iadd, 1) := by decide +kernel
theorem dX0_takeCough_33 : decode cX0_takeCough 33 = .ok (.putfield 150, 3) := by decide +kernel
theorem dX0_takeCough_36 : decode cX0_takeCough 36 = .ok (.aload_n 0, 1) := by decide +kernel
theorem dX0_takeCough_37 : decode cX0_takeCough 37 = .ok (.iload_n 1, 1) := by decide +kernel
theorem dX0_takeCough_38 : decode cX0_takeCough 38 = .ok (.invokevirtual 151, 3) := by decide +kernel
theorem dX0_takeCough_41 : decode cX0_takeCough 41 = .ok (.ifCond .eq 5, 3) := by decide +kernel
theorem dX0_takeCough_44 : decode cX0_takeCough 44 = .ok (.iconst 0, 1) := by decide +kernel
theorem dX0_takeCough_45 : decode cX0_takeCough 45 = .ok (.ireturn, 1) := by decide +kernel
theorem dX0_takeCough_46 : decode cX0_takeCough 46 = .ok (.aload_n 0, 1) := by decide +kernel
theorem dX0_takeCough_47 : decode cX0_takeCough 47 = .ok (.getfield 35, 3) := by decide +kernel
theorem dX0_takeCough_50 : decode cX0_takeCough 50 = .ok (.invokevirtual 147, 3) := by decide +kernel
theorem dX0_takeCough_53 : decode cX0_takeCough 53 = .ok (.istore_n 3, 1) := by decide +kernel
theorem dX0_takeCough_54 : decode cX0_takeCough 54 = .ok (.aload_n 0, 1) := by decide +kernel
theorem dX0_takeCough_55 : decode cX0_takeCough 55 = .ok (.getfield 35, 3) := by decide +kernel
theorem dX0_takeCough_58 : decode cX0_takeCough 58 = .ok (.iload_n 3, 1) := by decide +kernel
theorem dX0_takeCough_59 : decode cX0_takeCough 59 = .ok (.iload_n 1, 1) := by decide +kernel
theorem dX0_takeCough_60 : decode cX0_takeCough 60 = .ok (.iload_n 2, 1) := by decide +kernel
theorem dX0_takeCough_61 : decode cX0_takeCough 61 = .ok (.invokevirtual 155, 3) := by decide +kernel
theorem dX0_takeCough_64 : decode cX0_takeCough 64 = .ok (.aload_n 0, 1) := by decide +kernel
theorem dX0_takeCough_65 : decode cX0_takeCough 65 = .ok (.dup, 1) := by decide +kernel
theorem dX0_takeCough_66 : decode cX0_takeCough 66 = .ok (.getfield 81, 3) := by decide +kernel
theorem dX0_takeCough_69 : decode cX0_takeCough 69 = .ok (.iconst 1, 1) := by decide +kernel
theorem dX0_takeCough_70 : decode cX0_takeCough 70 = .ok (.iadd, 1) := by decide +kernel
theorem dX0_takeCough_71 : decode cX0_takeCough 71 = .ok (.putfield 81, 3) := by decide +kernel
theorem dX0_takeCough_74 : decode cX0_takeCough 74 = .ok (.aload_n 0, 1) := by decide +kernel
theorem dX0_takeCough_75 : decode cX0_takeCough 75 = .ok (.getfield 13, 3) := by decide +kernel
theorem dX0_takeCough_78 : decode cX0_takeCough 78 = .ok (.iload_n 1, 1) := by decide +kernel
theorem dX0_takeCough_79 : decode cX0_takeCough 79 = .ok (.aaload, 1) := by decide +kernel
theorem dX0_takeCough_80 : decode cX0_takeCough 80 = .ok (.dup, 1) := by decide +kernel
theorem dX0_takeCough_81 : decode cX0_takeCough 81 = .ok (.getfield 159, 3) := by decide +kernel
theorem dX0_takeCough_84 : decode cX0_takeCough 84 = .ok (.iconst 1, 1) := by decide +kernel
theorem dX0_takeCough_85 : decode cX0_takeCough 85 = .ok (.iadd, 1) := by decide +kernel
theorem dX0_takeCough_86 : decode cX0_takeCough 86 = .ok (.putfield 159, 3) := by decide +kernel
theorem dX0_takeCough_89 : decode cX0_takeCough 89 = .ok (.aload_n 0, 1) := by decide +kernel
theorem dX0_takeCough_90 : decode cX0_takeCough 90 = .ok (.getfield 13, 3) := by decide +kernel
theorem dX0_takeCough_93 : decode cX0_takeCough 93 = .ok (.iload_n 1, 1) := by decide +kernel
theorem dX0_takeCough_94 : decode cX0_takeCough 94 = .ok (.aaload, 1) := by decide +kernel
theorem dX0_takeCough_95 : decode cX0_takeCough 95 = .ok (.getfield 117, 3) := by decide +kernel
theorem dX0_takeCough_98 : decode cX0_takeCough 98 = .ok (.aload_n 0, 1) := by decide +kernel
theorem dX0_takeCough_99 : decode cX0_takeCough 99 = .ok (.getfield 13, 3) := by decide +kernel
theorem dX0_takeCough_102 : decode cX0_takeCough 102 = .ok (.iload_n 1, 1) := by decide +kernel
theorem dX0_takeCough_103 : decode cX0_takeCough 103 = .ok (.aaload, 1) := by decide +kernel
theorem dX0_takeCough_104 : decode cX0_takeCough 104 = .ok (.getfield 160, 3) := by decide +kernel
theorem dX0_takeCough_107 : decode cX0_takeCough 107 = .ok (.if_icmp .le 7, 3) := by decide +kernel
theorem dX0_takeCough_110 : decode cX0_takeCough 110 = .ok (.aload_n 0, 1) := by decide +kernel
theorem dX0_takeCough_111 : decode cX0_takeCough 111 = .ok (.invokevirtual 163, 3) := by decide +kernel
theorem dX0_takeCough_114 : decode cX0_takeCough 114 = .ok (.iload_n 3, 1) := by decide +kernel
theorem dX0_takeCough_115 : decode cX0_takeCough 115 = .ok (.ireturn, 1) := by decide +kernel
theorem dX0_doubtBid_0 : decode cX0_doubtBid 0 = .ok (.aload_n 0, 1) := by decide +kernel
theorem dX0_doubtBid_1 : decode cX0_doubtBid 1 = .ok (.dup, 1) := by decide +kernel
theorem dX0_doubtBid_2 : decode cX0_doubtBid 2 = .ok (.getfield 84, 3) := by decide +kernel
theorem dX0_doubtBid_5 : decode cX0_doubtBid 5 = .ok (.iconst 1, 1) := by decide +kernel
theorem dX0_doubtBid_6 : decode cX0_doubtBid 6 = .ok (.iadd, 1) := by decide +kernel
theorem dX0_doubtBid_7 : decode cX0_doubtBid 7 = .ok (.putfield 84, 3) := by decide +kernel
theorem dX0_doubtBid_10 : decode cX0_doubtBid 10 = .ok (.aload_n 0, 1) := by decide +kernel
theorem dX0_doubtBid_11 : decode cX0_doubtBid 11 = .ok (.getfield 35, 3) := by decide +kernel
theorem dX0_doubtBid_14 : decode cX0_doubtBid 14 = .ok (.dup, 1) := by decide +kernel
theorem dX0_doubtBid_15 : decode cX0_doubtBid 15 = .ok (.getfield 166, 3) := by decide +kernel
theorem dX0_doubtBid_18 : decode cX0_doubtBid 18 = .ok (.iconst 1, 1) := by decide +kernel
theorem dX0_doubtBid_19 : decode cX0_doubtBid 19 = .ok (.iadd, 1) := by decide +kernel
theorem dX0_doubtBid_20 : decode cX0_doubtBid 20 = .ok (.putfield 166, 3) := by decide +kernel
theorem dX0_doubtBid_23 : decode cX0_doubtBid 23 = .ok (.aload_n 0, 1) := by decide +kernel
theorem dX0_doubtBid_24 : decode cX0_doubtBid 24 = .ok (.getfield 35, 3) := by decide +kernel
theorem dX0_doubtBid_27 : decode cX0_doubtBid 27 = .ok (.getfield 166, 3) := by decide +kernel
theorem dX0_doubtBid_30 : decode cX0_doubtBid 30 = .ok (.aload_n 0, 1) := by decide +kernel
theorem dX0_doubtBid_31 : decode cX0_doubtBid 31 = .ok (.getfield 32, 3) := by decide +kernel
theorem dX0_doubtBid_34 : decode cX0_doubtBid 34 = .ok (.iconst 1, 1) := by decide +kernel
theorem dX0_doubtBid_35 : decode cX0_doubtBid 35 = .ok (.iaload, 1) := by decide +kernel
theorem dX0_doubtBid_36 : decode cX0_doubtBid 36 = .ok (.if_icmp .lt 8, 3) := by decide +kernel
theorem dX0_doubtBid_39 : decode cX0_doubtBid 39 = .ok (.aload_n 0, 1) := by decide +kernel
theorem dX0_doubtBid_40 : decode cX0_doubtBid 40 = .ok (.iconst 1, 1) := by decide +kernel
theorem dX0_doubtBid_41 : decode cX0_doubtBid 41 = .ok (.invokevirtual 167, 3) := by decide +kernel
theorem dX0_doubtBid_44 : decode cX0_doubtBid 44 = .ok (.return_, 1) := by decide +kernel
theorem dX0_isDueToCough_0 : decode cX0_isDueToCough 0 = .ok (.aload_n 0, 1) := by decide +kernel
theorem dX0_isDueToCough_1 : decode cX0_isDueToCough 1 = .ok (.getfield 13, 3) := by decide +kernel
theorem dX0_isDueToCough_4 : decode cX0_isDueToCough 4 = .ok (.iload_n 1, 1) := by decide +kernel
theorem dX0_isDueToCough_5 : decode cX0_isDueToCough 5 = .ok (.aaload, 1) := by decide +kernel
theorem dX0_isDueToCough_6 : decode cX0_isDueToCough 6 = .ok (.getfield 117, 3) := by decide +kernel
theorem dX0_isDueToCough_9 : decode cX0_isDueToCough 9 = .ok (.istore_n 2, 1) := by decide +kernel
theorem dX0_isDueToCough_10 : decode cX0_isDueToCough 10 = .ok (.bipush 7, 2) := by decide +kernel
theorem dX0_isDueToCough_12 : decode cX0_isDueToCough 12 = .ok (.iload_n 2, 1) := by decide +kernel
theorem dX0_isDueToCough_13 : decode cX0_isDueToCough 13 = .ok (.isub, 1) := by decide +kernel
theorem dX0_isDueToCough_14 : decode cX0_isDueToCough 14 = .ok (.istore_n 3, 1) := by decide +kernel
theorem dX0_isDueToCough_15 : decode cX0_isDueToCough 15 = .ok (.iload_n 2, 1) := by decide +kernel
theorem dX0_isDueToCough_16 : decode cX0_isDueToCough 16 = .ok (.ifCond .le 22, 3) := by decide +kernel
theorem dX0_isDueToCough_19 : decode cX0_isDueToCough 19 = .ok (.iload_n 3, 1) := by decide +kernel
theorem dX0_isDueToCough_20 : decode cX0_isDueToCough 20 = .ok (.ifCond .le 18, 3) := by decide +kernel
theorem dX0_isDueToCough_23 : decode cX0_isDueToCough 23 = .ok (.aload_n 0, 1) := by decide +kernel
theorem dX0_isDueToCough_24 : decode cX0_isDueToCough 24 = .ok (.getfield 66, 3) := by decide +kernel
theorem dX0_isDueToCough_27 : decode cX0_isDueToCough 27 = .ok (.iload_n 1, 1) := by decide +kernel
theorem dX0_isDueToCough_28 : decode cX0_isDueToCough 28 = .ok (.iadd, 1) := by decide +kernel
theorem dX0_isDueToCough_29 : decode cX0_isDueToCough 29 = .ok (.iload_n 3, 1) := by decide +kernel
theorem dX0_isDueToCough_30 : decode cX0_isDueToCough 30 = .ok (.irem, 1) := by decide +kernel
theorem dX0_isDueToCough_31 : decode cX0_isDueToCough 31 = .ok (.ifCond .ne 7, 3) := by decide +kernel
theorem dX0_isDueToCough_34 : decode cX0_isDueToCough 34 = .ok (.iconst 1, 1) := by decide +kernel
theorem dX0_isDueToCough_35 : decode cX0_isDueToCough 35 = .ok (.goto 4, 3) := by decide +kernel
theorem dX0_isDueToCough_38 : decode cX0_isDueToCough 38 = .ok (.iconst 0, 1) := by decide +kernel
theorem dX0_isDueToCough_39 : decode cX0_isDueToCough 39 = .ok (.ireturn, 1) := by decide +kernel
theorem dX0_passBeats_0 : decode cX0_passBeats 0 = .ok (.iload_n 1, 1) := by decide +kernel
theorem dX0_passBeats_1 : decode cX0_passBeats 1 = .ok (.iconst 1, 1) := by decide +kernel
theorem dX0_passBeats_2 : decode cX0_passBeats 2 = .ok (.bipush 50, 2) := by decide +kernel
theorem dX0_passBeats_4 : decode cX0_passBeats 4 = .ok (.invokestatic 98, 3) := by decide +kernel
theorem dX0_passBeats_7 : decode cX0_passBeats 7 = .ok (.ifCond .ne 6, 3) := by decide +kernel
theorem dX0_passBeats_10 : decode cX0_passBeats 10 = .ok (.ldc 102, 2) := by decide +kernel
theorem dX0_passBeats_12 : decode cX0_passBeats 12 = .ok (.ireturn, 1) := by decide +kernel
theorem dX0_passBeats_13 : decode cX0_passBeats 13 = .ok (.aload_n 0, 1) := by decide +kernel
theorem dX0_passBeats_14 : decode cX0_passBeats 14 = .ok (.getfield 66, 3) := by decide +kernel
theorem dX0_passBeats_17 : decode cX0_passBeats 17 = .ok (.iload_n 1, 1) := by decide +kernel
theorem dX0_passBeats_18 : decode cX0_passBeats 18 = .ok (.iadd, 1) := by decide +kernel
theorem dX0_passBeats_19 : decode cX0_passBeats 19 = .ok (.sipush 9999, 3) := by decide +kernel
theorem dX0_passBeats_22 : decode cX0_passBeats 22 = .ok (.if_icmp .le 6, 3) := by decide +kernel
theorem dX0_passBeats_25 : decode cX0_passBeats 25 = .ok (.ldc 108, 2) := by decide +kernel
theorem dX0_passBeats_27 : decode cX0_passBeats 27 = .ok (.ireturn, 1) := by decide +kernel
theorem dX0_passBeats_28 : decode cX0_passBeats 28 = .ok (.aload_n 0, 1) := by decide +kernel
theorem dX0_passBeats_29 : decode cX0_passBeats 29 = .ok (.getfield 56, 3) := by decide +kernel
theorem dX0_passBeats_32 : decode cX0_passBeats 32 = .ok (.istore_n 2, 1) := by decide +kernel
theorem dX0_passBeats_33 : decode cX0_passBeats 33 = .ok (.iconst 0, 1) := by decide +kernel
theorem dX0_passBeats_34 : decode cX0_passBeats 34 = .ok (.istore_n 3, 1) := by decide +kernel
theorem dX0_passBeats_35 : decode cX0_passBeats 35 = .ok (.iload_n 3, 1) := by decide +kernel
theorem dX0_passBeats_36 : decode cX0_passBeats 36 = .ok (.iload_n 1, 1) := by decide +kernel
theorem dX0_passBeats_37 : decode cX0_passBeats 37 = .ok (.if_icmp .ge 13, 3) := by decide +kernel
theorem dX0_passBeats_40 : decode cX0_passBeats 40 = .ok (.aload_n 0, 1) := by decide +kernel
theorem dX0_passBeats_41 : decode cX0_passBeats 41 = .ok (.invokevirtual 171, 3) := by decide +kernel
theorem dX0_passBeats_44 : decode cX0_passBeats 44 = .ok (.iinc 3 1, 3) := by decide +kernel
theorem dX0_passBeats_47 : decode cX0_passBeats 47 = .ok (.goto (-12), 3) := by decide +kernel
theorem dX0_passBeats_50 : decode cX0_passBeats 50 = .ok (.iload_n 2, 1) := by decide +kernel
theorem dX0_passBeats_51 : decode cX0_passBeats 51 = .ok (.ifCond .eq 14, 3) := by decide +kernel
theorem dX0_passBeats_54 : decode cX0_passBeats 54 = .ok (.aload_n 0, 1) := by decide +kernel
theorem dX0_passBeats_55 : decode cX0_passBeats 55 = .ok (.getfield 56, 3) := by decide +kernel
theorem dX0_passBeats_58 : decode cX0_passBeats 58 = .ok (.ifCond .ne 7, 3) := by decide +kernel
theorem dX0_passBeats_61 : decode cX0_passBeats 61 = .ok (.iconst 1, 1) := by decide +kernel
theorem dX0_passBeats_62 : decode cX0_passBeats 62 = .ok (.goto 4, 3) := by decide +kernel
theorem dX0_passBeats_65 : decode cX0_passBeats 65 = .ok (.iconst 0, 1) := by decide +kernel
theorem dX0_passBeats_66 : decode cX0_passBeats 66 = .ok (.ireturn, 1) := by decide +kernel
theorem dX0_passBeat_0 : decode cX0_passBeat 0 = .ok (.aload_n 0, 1) := by decide +kernel
theorem dX0_passBeat_1 : decode cX0_passBeat 1 = .ok (.getfield 56, 3) := by decide +kernel
theorem dX0_passBeat_4 : decode cX0_passBeat 4 = .ok (.ifCond .eq 34, 3) := by decide +kernel
theorem dX0_passBeat_7 : decode cX0_passBeat 7 = .ok (.iconst 0, 1) := by decide +kernel
theorem dX0_passBeat_8 : decode cX0_passBeat 8 = .ok (.istore_n 1, 1) := by decide +kernel
theorem dX0_passBeat_9 : decode cX0_passBeat 9 = .ok (.iload_n 1, 1) := by decide +kernel
theorem dX0_passBeat_10 : decode cX0_passBeat 10 = .ok (.aload_n 0, 1) := by decide +kernel
theorem dX0_passBeat_11 : decode cX0_passBeat 11 = .ok (.getfield 39, 3) := by decide +kernel
theorem dX0_passBeat_14 : decode cX0_passBeat 14 = .ok (.if_icmp .ge 24, 3) := by decide +kernel
theorem dX0_passBeat_17 : decode cX0_passBeat 17 = .ok (.aload_n 0, 1) := by decide +kernel
theorem dX0_passBeat_18 : decode cX0_passBeat 18 = .ok (.iload_n 1, 1) := by decide +kernel
theorem dX0_passBeat_19 : decode cX0_passBeat 19 = .ok (.invokevirtual 174, 3) := by decide +kernel
theorem dX0_passBeat_22 : decode cX0_passBeat 22 = .ok (.ifCond .eq 10, 3) := by decide +kernel
theorem dX0_passBeat_25 : decode cX0_passBeat 25 = .ok (.aload_n 0, 1) := by decide +kernel
theorem dX0_passBeat_26 : decode cX0_passBeat 26 = .ok (.iload_n 1, 1) := by decide +kernel
theorem dX0_passBeat_27 : decode cX0_passBeat 27 = .ok (.iconst 1, 1) := by decide +kernel
theorem dX0_passBeat_28 : decode cX0_passBeat 28 = .ok (.invokevirtual 177, 3) := by decide +kernel
theorem dX0_passBeat_31 : decode cX0_passBeat 31 = .ok (.pop, 1) := by decide +kernel
theorem dX0_passBeat_32 : decode cX0_passBeat 32 = .ok (.iinc 1 1, 3) := by decide +kernel
theorem dX0_passBeat_35 : decode cX0_passBeat 35 = .ok (.goto (-26), 3) := by decide +kernel
theorem dX0_passBeat_38 : decode cX0_passBeat 38 = .ok (.aload_n 0, 1) := by decide +kernel
theorem dX0_passBeat_39 : decode cX0_passBeat 39 = .ok (.dup, 1) := by decide +kernel
theorem dX0_passBeat_40 : decode cX0_passBeat 40 = .ok (.getfield 66, 3) := by decide +kernel
theorem dX0_passBeat_43 : decode cX0_passBeat 43 = .ok (.iconst 1, 1) := by decide +kernel
theorem dX0_passBeat_44 : decode cX0_passBeat 44 = .ok (.iadd, 1) := by decide +kernel
theorem dX0_passBeat_45 : decode cX0_passBeat 45 = .ok (.putfield 66, 3) := by decide +kernel
theorem dX0_passBeat_48 : decode cX0_passBeat 48 = .ok (.aload_n 0, 1) := by decide +kernel
theorem dX0_passBeat_49 : decode cX0_passBeat 49 = .ok (.getfield 56, 3) := by decide +kernel
theorem dX0_passBeat_52 : decode cX0_passBeat 52 = .ok (.ifCond .eq 7, 3) := by decide +kernel
theorem dX0_passBeat_55 : decode cX0_passBeat 55 = .ok (.aload_n 0, 1) := by decide +kernel
theorem dX0_passBeat_56 : decode cX0_passBeat 56 = .ok (.invokevirtual 181, 3) := by decide +kernel
theorem dX0_passBeat_59 : decode cX0_passBeat 59 = .ok (.return_, 1) := by decide +kernel
theorem dX0_hushOrHammer_0 : decode cX0_hushOrHammer 0 = .ok (.aload_n 0, 1) := by decide +kernel
theorem dX0_hushOrHammer_1 : decode cX0_hushOrHammer 1 = .ok (.getfield 35, 3) := by decide +kernel
theorem dX0_hushOrHammer_4 : decode cX0_hushOrHammer 4 = .ok (.aload_n 0, 1) := by decide +kernel
theorem dX0_hushOrHammer_5 : decode cX0_hushOrHammer 5 = .ok (.getfield 35, 3) := by decide +kernel
theorem dX0_hushOrHammer_8 : decode cX0_hushOrHammer 8 = .ok (.getfield 184, 3) := by decide +kernel
theorem dX0_hushOrHammer_11 : decode cX0_hushOrHammer 11 = .ok (.ifCond .eq 7, 3) := by decide +kernel
theorem dX0_hushOrHammer_14 : decode cX0_hushOrHammer 14 = .ok (.iconst 0, 1) := by decide +kernel
theorem dX0_hushOrHammer_15 : decode cX0_hushOrHammer 15 = .ok (.goto 12, 3) := by decide +kernel
theorem dX0_hushOrHammer_18 : decode cX0_hushOrHammer 18 = .ok (.aload_n 0, 1) := by decide +kernel
theorem dX0_hushOrHammer_19 : decode cX0_hushOrHammer 19 = .ok (.getfield 35, 3) := by decide +kernel
theorem dX0_hushOrHammer_22 : decode cX0_hushOrHammer 22 = .ok (.getfield 187, 3) := by decide +kernel
theorem dX0_hushOrHammer_25 : decode cX0_hushOrHammer 25 = .ok (.iconst 1, 1) := by decide +kernel
theorem dX0_hushOrHammer_26 : decode cX0_hushOrHammer 26 = .ok (.iadd, 1) := by decide +kernel
theorem dX0_hushOrHammer_27 : decode cX0_hushOrHammer 27 = .ok (.putfield 187, 3) := by decide +kernel
theorem dX0_hushOrHammer_30 : decode cX0_hushOrHammer 30 = .ok (.aload_n 0, 1) := by decide +kernel
theorem dX0_hushOrHammer_31 : decode cX0_hushOrHammer 31 = .ok (.getfield 35, 3) := by decide +kernel
theorem dX0_hushOrHammer_34 : decode cX0_hushOrHammer 34 = .ok (.iconst 0, 1) := by decide +kernel
theorem dX0_hushOrHammer_35 : decode cX0_hushOrHammer 35 = .ok (.putfield 184, 3) := by decide +kernel
theorem dX0_hushOrHammer_38 : decode cX0_hushOrHammer 38 = .ok (.aload_n 0, 1) := by decide +kernel
theorem dX0_hushOrHammer_39 : decode cX0_hushOrHammer 39 = .ok (.getfield 35, 3) := by decide +kernel
theorem dX0_hushOrHammer_42 : decode cX0_hushOrHammer 42 = .ok (.getfield 187, 3) := by decide +kernel
theorem dX0_hushOrHammer_45 : decode cX0_hushOrHammer 45 = .ok (.aload_n 0, 1) := by decide +kernel
theorem dX0_hushOrHammer_46 : decode cX0_hushOrHammer 46 = .ok (.getfield 32, 3) := by decide +kernel
theorem dX0_hushOrHammer_49 : decode cX0_hushOrHammer 49 = .ok (.iconst 2, 1) := by decide +kernel
theorem dX0_hushOrHammer_50 : decode cX0_hushOrHammer 50 = .ok (.iaload, 1) := by decide +kernel
theorem dX0_hushOrHammer_51 : decode cX0_hushOrHammer 51 = .ok (.if_icmp .lt 7, 3) := by decide +kernel
theorem dX0_hushOrHammer_54 : decode cX0_hushOrHammer 54 = .ok (.aload_n 0, 1) := by decide +kernel
theorem dX0_hushOrHammer_55 : decode cX0_hushOrHammer 55 = .ok (.invokevirtual 190, 3) := by decide +kernel
theorem dX0_hushOrHammer_58 : decode cX0_hushOrHammer 58 = .ok (.return_, 1) := by decide +kernel
theorem dX0_letHammerFall_0 : decode cX0_letHammerFall 0 = .ok (.aload_n 0, 1) := by decide +kernel
theorem dX0_letHammerFall_1 : decode cX0_letHammerFall 1 = .ok (.getfield 35, 3) := by decide +kernel
theorem dX0_letHammerFall_4 : decode cX0_letHammerFall 4 = .ok (.invokevirtual 137, 3) := by decide +kernel
theorem dX0_letHammerFall_7 : decode cX0_letHammerFall 7 = .ok (.ifCond .eq 17, 3) := by decide +kernel
theorem dX0_letHammerFall_10 : decode cX0_letHammerFall 10 = .ok (.aload_n 0, 1) := by decide +kernel
theorem dX0_letHammerFall_11 : decode cX0_letHammerFall 11 = .ok (.aload_n 0, 1) := by decide +kernel
theorem dX0_letHammerFall_12 : decode cX0_letHammerFall 12 = .ok (.getfield 35, 3) := by decide +kernel
theorem dX0_letHammerFall_15 : decode cX0_letHammerFall 15 = .ok (.getfield 141, 3) := by decide +kernel
theorem dX0_letHammerFall_18 : decode cX0_letHammerFall 18 = .ok (.invokevirtual 113, 3) := by decide +kernel
theorem dX0_letHammerFall_21 : decode cX0_letHammerFall 21 = .ok (.ifCond .ne 11, 3) := by decide +kernel
theorem dX0_letHammerFall_24 : decode cX0_letHammerFall 24 = .ok (.aload_n 0, 1) := by decide +kernel
theorem dX0_letHammerFall_25 : decode cX0_letHammerFall 25 = .ok (.iconst 2, 1) := by decide +kernel
theorem dX0_letHammerFall_26 : decode cX0_letHammerFall 26 = .ok (.invokevirtual 167, 3) := by decide +kernel
theorem dX0_letHammerFall_29 : decode cX0_letHammerFall 29 = .ok (.goto 64, 3) := by decide +kernel
theorem dX0_letHammerFall_32 : decode cX0_letHammerFall 32 = .ok (.aload_n 0, 1) := by decide +kernel
theorem dX0_letHammerFall_33 : decode cX0_letHammerFall 33 = .ok (.getfield 35, 3) := by decide +kernel
theorem dX0_letHammerFall_36 : decode cX0_letHammerFall 36 = .ok (.getfield 193, 3) := by decide +kernel
theorem dX0_letHammerFall_39 : decode cX0_letHammerFall 39 = .ok (.ifCond .eq 11, 3) := by decide +kernel
theorem dX0_letHammerFall_42 : decode cX0_letHammerFall 42 = .ok (.aload_n 0, 1) := by decide +kernel
theorem dX0_letHammerFall_43 : decode cX0_letHammerFall 43 = .ok (.iconst 3, 1) := by decide +kernel
theorem dX0_letHammerFall_44 : decode cX0_letHammerFall 44 = .ok (.invokevirtual 167, 3) := by decide +kernel
theorem dX0_letHammerFall_47 : decode cX0_letHammerFall 47 = .ok (.goto 46, 3) := by decide +kernel
theorem dX0_letHammerFall_50 : decode cX0_letHammerFall 50 = .ok (.aload_n 0, 1) := by decide +kernel
theorem dX0_letHammerFall_51 : decode cX0_letHammerFall 51 = .ok (.dup, 1) := by decide +kernel
theorem dX0_letHammerFall_52 : decode cX0_letHammerFall 52 = .ok (.getfield 75, 3) := by decide +kernel
theorem dX0_letHammerFall_55 : decode cX0_letHammerFall 55 = .ok (.aload_n 0, 1) := by decide +kernel
theorem dX0_letHammerFall_56 : decode cX0_letHammerFall 56 = .ok (.getfield 35, 3) := by decide +kernel
theorem dX0_letHammerFall_59 : decode cX0_letHammerFall 59 = .ok (.getfield 196, 3) := by decide +kernel
theorem dX0_letHammerFall_62 : decode cX0_letHammerFall 62 = .ok (.iadd, 1) := by decide +kernel
theorem dX0_letHammerFall_63 : decode cX0_letHammerFall 63 = .ok (.putfield 75, 3) := by decide +kernel
theorem dX0_letHammerFall_66 : decode cX0_letHammerFall 66 = .ok (.aload_n 0, 1) := by decide +kernel
theorem dX0_letHammerFall_67 : decode cX0_letHammerFall 67 = .ok (.getfield 13, 3) := by decide +kernel
theorem dX0_letHammerFall_70 : decode cX0_letHammerFall 70 = .ok (.aload_n 0, 1) := by decide +kernel
theorem dX0_letHammerFall_71 : decode cX0_letHammerFall 71 = .ok (.getfield 35, 3) := by decide +kernel
theorem dX0_letHammerFall_74 : decode cX0_letHammerFall 74 = .ok (.getfield 141, 3) := by decide +kernel
theorem dX0_letHammerFall_77 : decode cX0_letHammerFall 77 = .ok (.aaload, 1) := by decide +kernel
theorem dX0_letHammerFall_78 : decode cX0_letHammerFall 78 = .ok (.aload_n 0, 1) := by decide +kernel
theorem dX0_letHammerFall_79 : decode cX0_letHammerFall 79 = .ok (.getfield 35, 3) := by decide +kernel
theorem dX0_letHammerFall_82 : decode cX0_letHammerFall 82 = .ok (.getfield 196, 3) := by decide +kernel
theorem dX0_letHammerFall_85 : decode cX0_letHammerFall 85 = .ok (.invokevirtual 199, 3) := by decide +kernel
theorem dX0_letHammerFall_88 : decode cX0_letHammerFall 88 = .ok (.aload_n 0, 1) := by decide +kernel
theorem dX0_letHammerFall_89 : decode cX0_letHammerFall 89 = .ok (.iconst 0, 1) := by decide +kernel
theorem dX0_letHammerFall_90 : decode cX0_letHammerFall 90 = .ok (.invokevirtual 167, 3) := by decide +kernel
theorem dX0_letHammerFall_93 : decode cX0_letHammerFall 93 = .ok (.return_, 1) := by decide +kernel
theorem dX0_passNight_0 : decode cX0_passNight 0 = .ok (.aload_n 0, 1) := by decide +kernel
theorem dX0_passNight_1 : decode cX0_passNight 1 = .ok (.getfield 56, 3) := by decide +kernel
theorem dX0_passNight_4 : decode cX0_passNight 4 = .ok (.ifCond .eq 6, 3) := by decide +kernel
theorem dX0_passNight_7 : decode cX0_passNight 7 = .ok (.ldc 107, 2) := by decide +kernel
theorem dX0_passNight_9 : decode cX0_passNight 9 = .ok (.ireturn, 1) := by decide +kernel
theorem dX0_passNight_10 : decode cX0_passNight 10 = .ok (.aload_n 0, 1) := by decide +kernel
theorem dX0_passNight_11 : decode cX0_passNight 11 = .ok (.getfield 69, 3) := by decide +kernel
theorem dX0_passNight_14 : decode cX0_passNight 14 = .ok (.sipush 999, 3) := by decide +kernel
theorem dX0_passNight_17 : decode cX0_passNight 17 = .ok (.if_icmp .lt 6, 3) := by decide +kernel
theorem dX0_passNight_20 : decode cX0_passNight 20 = .ok (.ldc 108, 2) := by decide +kernel
theorem dX0_passNight_22 : decode cX0_passNight 22 = .ok (.ireturn, 1) := by decide +kernel
theorem dX0_passNight_23 : decode cX0_passNight 23 = .ok (.aload_n 0, 1) := by decide +kernel
theorem dX0_passNight_24 : decode cX0_passNight 24 = .ok (.invokevirtual 202, 3) := by decide +kernel
theorem dX0_passNight_27 : decode cX0_passNight 27 = .ok (.aload_n 0, 1) := by decide +kernel
theorem dX0_passNight_28 : decode cX0_passNight 28 = .ok (.dup, 1) := by decide +kernel
theorem dX0_passNight_29 : decode cX0_passNight 29 = .ok (.getfield 69, 3) := by decide +kernel
theorem dX0_passNight_32 : decode cX0_passNight 32 = .ok (.iconst 1, 1) := by decide +kernel
theorem dX0_passNight_33 : decode cX0_passNight 33 = .ok (.iadd, 1) := by decide +kernel
theorem dX0_passNight_34 : decode cX0_passNight 34 = .ok (.putfield 69, 3) := by decide +kernel
theorem dX0_passNight_37 : decode cX0_passNight 37 = .ok (.aload_n 0, 1) := by decide +kernel
theorem dX0_passNight_38 : decode cX0_passNight 38 = .ok (.invokevirtual 205, 3) := by decide +kernel
theorem dX0_passNight_41 : decode cX0_passNight 41 = .ok (.invokestatic 208, 3) := by decide +kernel
theorem dX0_passNight_44 : decode cX0_passNight 44 = .ok (.ireturn, 1) := by decide +kernel
theorem dX0_spreadColds_0 : decode cX0_spreadColds 0 = .ok (.iconst 0, 1) := by decide +kernel
theorem dX0_spreadColds_1 : decode cX0_spreadColds 1 = .ok (.istore_n 1, 1) := by decide +kernel
theorem dX0_spreadColds_2 : decode cX0_spreadColds 2 = .ok (.iconst 0, 1) := by decide +kernel
theorem dX0_spreadColds_3 : decode cX0_spreadColds 3 = .ok (.istore_n 2, 1) := by decide +kernel
theorem dX0_spreadColds_4 : decode cX0_spreadColds 4 = .ok (.iload_n 2, 1) := by decide +kernel
theorem dX0_spreadColds_5 : decode cX0_spreadColds 5 = .ok (.aload_n 0, 1) := by decide +kernel
theorem dX0_spreadColds_6 : decode cX0_spreadColds 6 = .ok (.getfield 39, 3) := by decide +kernel
theorem dX0_spreadColds_9 : decode cX0_spreadColds 9 = .ok (.if_icmp .ge 28, 3) := by decide +kernel
theorem dX0_spreadColds_12 : decode cX0_spreadColds 12 = .ok (.aload_n 0, 1) := by decide +kernel
theorem dX0_spreadColds_13 : decode cX0_spreadColds 13 = .ok (.aload_n 0, 1) := by decide +kernel
theorem dX0_spreadColds_14 : decode cX0_spreadColds 14 = .ok (.getfield 13, 3) := by decide +kernel
theorem dX0_spreadColds_17 : decode cX0_spreadColds 17 = .ok (.iload_n 2, 1) := by decide +kernel
theorem dX0_spreadColds_18 : decode cX0_spreadColds 18 = .ok (.aaload, 1) := by decide +kernel
theorem dX0_spreadColds_19 : decode cX0_spreadColds 19 = .ok (.invokevirtual 213, 3) := by decide +kernel
theorem dX0_spreadColds_22 : decode cX0_spreadColds 22 = .ok (.ifCond .eq 9, 3) := by decide +kernel
theorem dX0_spreadColds_25 : decode cX0_spreadColds 25 = .ok (.iload_n 1, 1) := by decide +kernel
theorem dX0_spreadColds_26 : decode cX0_spreadColds 26 = .ok (.iconst 1, 1) := by decide +kernel
theorem dX0_spreadColds_27 : decode cX0_spreadColds 27 = .ok (.iload_n 2, 1) := by decide +kernel
theorem dX0_spreadColds_28 : decode cX0_spreadColds 28 = .ok (.ishl, 1) := by decide +kernel
theorem dX0_spreadColds_29 : decode cX0_spreadColds 29 = .ok (.ior, 1) := by decide +kernel
theorem dX0_spreadColds_30 : decode cX0_spreadColds 30 = .ok (.istore_n 1, 1) := by decide +kernel
theorem dX0_spreadColds_31 : decode cX0_spreadColds 31 = .ok (.iinc 2 1, 3) := by decide +kernel
theorem dX0_spreadColds_34 : decode cX0_spreadColds 34 = .ok (.goto (-30), 3) := by decide +kernel
theorem dX0_spreadColds_37 : decode cX0_spreadColds 37 = .ok (.iconst 0, 1) := by decide +kernel
theorem dX0_spreadColds_38 : decode cX0_spreadColds 38 = .ok (.istore_n 2, 1) := by decide +kernel
theorem dX0_spreadColds_39 : decode cX0_spreadColds 39 = .ok (.iload_n 2, 1) := by decide +kernel
theorem dX0_spreadColds_40 : decode cX0_spreadColds 40 = .ok (.aload_n 0, 1) := by decide +kernel
theorem dX0_spreadColds_41 : decode cX0_spreadColds 41 = .ok (.getfield 39, 3) := by decide +kernel
theorem dX0_spreadColds_44 : decode cX0_spreadColds 44 = .ok (.if_icmp .ge 63, 3) := by decide +kernel
theorem dX0_spreadColds_47 : decode cX0_spreadColds 47 = .ok (.aload_n 0, 1) := by decide +kernel
theorem dX0_spreadColds_48 : decode cX0_spreadColds 48 = .ok (.getfield 13, 3) := by decide +kernel
theorem dX0_spreadColds_51 : decode cX0_spreadColds 51 = .ok (.iload_n 2, 1) := by decide +kernel
theorem dX0_spreadColds_52 : decode cX0_spreadColds 52 = .ok (.aaload, 1) := by decide +kernel
theorem dX0_spreadColds_53 : decode cX0_spreadColds 53 = .ok (.getfield 117, 3) := by decide +kernel
theorem dX0_spreadColds_56 : decode cX0_spreadColds 56 = .ok (.istore_n 3, 1) := by decide +kernel
theorem dX0_spreadColds_57 : decode cX0_spreadColds 57 = .ok (.iload_n 1, 1) := by decide +kernel
theorem dX0_spreadColds_58 : decode cX0_spreadColds 58 = .ok (.iload_n 2, 1) := by decide +kernel
theorem dX0_spreadColds_59 : decode cX0_spreadColds 59 = .ok (.ishr, 1) := by decide +kernel
theorem dX0_spreadColds_60 : decode cX0_spreadColds 60 = .ok (.iconst 1, 1) := by decide +kernel
theorem dX0_spreadColds_61 : decode cX0_spreadColds 61 = .ok (.iand, 1) := by decide +kernel
theorem dX0_spreadColds_62 : decode cX0_spreadColds 62 = .ok (.iconst 1, 1) := by decide +kernel
theorem dX0_spreadColds_63 : decode cX0_spreadColds 63 = .ok (.if_icmp .ne 22, 3) := by decide +kernel
theorem dX0_spreadColds_66 : decode cX0_spreadColds 66 = .ok (.aload_n 0, 1) := by decide +kernel
theorem dX0_spreadColds_67 : decode cX0_spreadColds 67 = .ok (.getfield 13, 3) := by decide +kernel
theorem dX0_spreadColds_70 : decode cX0_spreadColds 70 = .ok (.iload_n 2, 1) := by decide +kernel
theorem dX0_spreadColds_71 : decode cX0_spreadColds 71 = .ok (.aaload, 1) := by decide +kernel
theorem dX0_spreadColds_72 : decode cX0_spreadColds 72 = .ok (.iload_n 3, 1) := by decide +kernel
theorem dX0_spreadColds_73 : decode cX0_spreadColds 73 = .ok (.iconst 1, 1) := by decide +kernel
theorem dX0_spreadColds_74 : decode cX0_spreadColds 74 = .ok (.iadd, 1) := by decide +kernel
theorem dX0_spreadColds_75 : decode cX0_spreadColds 75 = .ok (.iconst 5, 1) := by decide +kernel
theorem dX0_spreadColds_76 : decode cX0_spreadColds 76 = .ok (.invokestatic 217, 3) := by decide +kernel
theorem dX0_spreadColds_79 : decode cX0_spreadColds 79 = .ok (.putfield 117, 3) := by decide +kernel
theorem dX0_spreadColds_82 : decode cX0_spreadColds 82 = .ok (.goto 19, 3) := by decide +kernel
theorem dX0_spreadColds_85 : decode cX0_spreadColds 85 = .ok (.aload_n 0, 1) := by decide +kernel
theorem dX0_spreadColds_86 : decode cX0_spreadColds 86 = .ok (.getfield 13, 3) := by decide +kernel
theorem dX0_spreadColds_89 : decode cX0_spreadColds 89 = .ok (.iload_n 2, 1) := by decide +kernel
theorem dX0_spreadColds_90 : decode cX0_spreadColds 90 = .ok (.aaload, 1) := by decide +kernel
theorem dX0_spreadColds_91 : decode cX0_spreadColds 91 = .ok (.iload_n 3, 1) := by decide +kernel
theorem dX0_spreadColds_92 : decode cX0_spreadColds 92 = .ok (.iconst 1, 1) := by decide +kernel
theorem dX0_spreadColds_93 : decode cX0_spreadColds 93 = .ok (.isub, 1) := by decide +kernel
theorem dX0_spreadColds_94 : decode cX0_spreadColds 94 = .ok (.iconst 0, 1) := by decide +kernel
theorem dX0_spreadColds_95 : decode cX0_spreadColds 95 = .ok (.invokestatic 222, 3) := by decide +kernel
theorem dX0_spreadColds_98 : decode cX0_spreadColds 98 = .ok (.putfield 117, 3) := by decide +kernel
theorem dX0_spreadColds_101 : decode cX0_spreadColds 101 = .ok (.iinc 2 1, 3) := by decide +kernel
theorem dX0_spreadColds_104 : decode cX0_spreadColds 104 = .ok (.goto (-65), 3) := by decide +kernel
theorem dX0_spreadColds_107 : decode cX0_spreadColds 107 = .ok (.return_, 1) := by decide +kernel
theorem dX0_sitsBesideCold_0 : decode cX0_sitsBesideCold 0 = .ok (.iconst 0, 1) := by decide +kernel
theorem dX0_sitsBesideCold_1 : decode cX0_sitsBesideCold 1 = .ok (.istore_n 2, 1) := by decide +kernel
theorem dX0_sitsBesideCold_2 : decode cX0_sitsBesideCold 2 = .ok (.iload_n 2, 1) := by decide +kernel
theorem dX0_sitsBesideCold_3 : decode cX0_sitsBesideCold 3 = .ok (.aload_n 0, 1) := by decide +kernel
theorem dX0_sitsBesideCold_4 : decode cX0_sitsBesideCold 4 = .ok (.getfield 39, 3) := by decide +kernel
theorem dX0_sitsBesideCold_7 : decode cX0_sitsBesideCold 7 = .ok (.if_icmp .ge 39, 3) := by decide +kernel
theorem dX0_sitsBesideCold_10 : decode cX0_sitsBesideCold 10 = .ok (.aload_n 0, 1) := by decide +kernel
theorem dX0_sitsBesideCold_11 : decode cX0_sitsBesideCold 11 = .ok (.getfield 13, 3) := by decide +kernel
theorem dX0_sitsBesideCold_14 : decode cX0_sitsBesideCold 14 = .ok (.iload_n 2, 1) := by decide +kernel
theorem dX0_sitsBesideCold_15 : decode cX0_sitsBesideCold 15 = .ok (.aaload, 1) := by decide +kernel
theorem dX0_sitsBesideCold_16 : decode cX0_sitsBesideCold 16 = .ok (.astore_n 3, 1) := by decide +kernel
theorem dX0_sitsBesideCold_17 : decode cX0_sitsBesideCold 17 = .ok (.aload_n 3, 1) := by decide +kernel
theorem dX0_sitsBesideCold_18 : decode cX0_sitsBesideCold 18 = .ok (.aload_n 1, 1) := by decide +kernel
theorem dX0_sitsBesideCold_19 : decode cX0_sitsBesideCold 19 = .ok (.invokevirtual 225, 3) := by decide +kernel
theorem dX0_sitsBesideCold_22 : decode cX0_sitsBesideCold 22 = .ok (.ifCond .eq 18, 3) := by decide +kernel
theorem dX0_sitsBesideCold_25 : decode cX0_sitsBesideCold 25 = .ok (.aload_n 3, 1) := by decide +kernel
theorem dX0_sitsBesideCold_26 : decode cX0_sitsBesideCold 26 = .ok (.getfield 117, 3) := by decide +kernel
theorem dX0_sitsBesideCold_29 : decode cX0_sitsBesideCold 29 = .ok (.aload_n 3, 1) := by decide +kernel
theorem dX0_sitsBesideCold_30 : decode cX0_sitsBesideCold 30 = .ok (.getfield 120, 3) := by decide +kernel
theorem dX0_sitsBesideCold_33 : decode cX0_sitsBesideCold 33 = .ok (.isub, 1) := by decide +kernel
theorem dX0_sitsBesideCold_34 : decode cX0_sitsBesideCold 34 = .ok (.iconst 2, 1) := by decide +kernel
theorem dX0_sitsBesideCold_35 : decode cX0_sitsBesideCold 35 = .ok (.if_icmp .lt 5, 3) := by decide +kernel
theorem dX0_sitsBesideCold_38 : decode cX0_sitsBesideCold 38 = .ok (.iconst 1, 1) := by decide +kernel
theorem dX0_sitsBesideCold_39 : decode cX0_sitsBesideCold 39 = .ok (.ireturn, 1) := by decide +kernel
theorem dX0_sitsBesideCold_40 : decode cX0_sitsBesideCold 40 = .ok (.iinc 2 1, 3) := by decide +kernel
theorem dX0_sitsBesideCold_43 : decode cX0_sitsBesideCold 43 = .ok (.goto (-41), 3) := by decide +kernel
theorem dX0_sitsBesideCold_46 : decode cX0_sitsBesideCold 46 = .ok (.iconst 0, 1) := by decide +kernel
theorem dX0_sitsBesideCold_47 : decode cX0_sitsBesideCold 47 = .ok (.ireturn, 1) := by decide +kernel
theorem dX0_coinsGoneFromPurses_0 : decode cX0_coinsGoneFromPurses 0 = .ok (.iconst 0, 1) := by decide +kernel
theorem dX0_coinsGoneFromPurses_1 : decode cX0_coinsGoneFromPurses 1 = .ok (.istore_n 1, 1) := by decide +kernel
theorem dX0_coinsGoneFromPurses_2 : decode cX0_coinsGoneFromPurses 2 = .ok (.iconst 0, 1) := by decide +kernel
theorem dX0_coinsGoneFromPurses_3 : decode cX0_coinsGoneFromPurses 3 = .ok (.istore_n 2, 1) := by decide +kernel
theorem dX0_coinsGoneFromPurses_4 : decode cX0_coinsGoneFromPurses 4 = .ok (.iload_n 2, 1) := by decide +kernel
theorem dX0_coinsGoneFromPurses_5 : decode cX0_coinsGoneFromPurses 5 = .ok (.aload_n 0, 1) := by decide +kernel
theorem dX0_coinsGoneFromPurses_6 : decode cX0_coinsGoneFromPurses 6 = .ok (.getfield 39, 3) := by decide +kernel
theorem dX0_coinsGoneFromPurses_9 : decode cX0_coinsGoneFromPurses 9 = .ok (.if_icmp .ge 31, 3) := by decide +kernel
theorem dX0_coinsGoneFromPurses_12 : decode cX0_coinsGoneFromPurses 12 = .ok (.iload_n 1, 1) := by decide +kernel
theorem dX0_coinsGoneFromPurses_13 : decode cX0_coinsGoneFromPurses 13 = .ok (.aload_n 0, 1) := by decide +kernel
theorem dX0_coinsGoneFromPurses_14 : decode cX0_coinsGoneFromPurses 14 = .ok (.getfield 13, 3) := by decide +kernel
theorem dX0_coinsGoneFromPurses_17 : decode cX0_coinsGoneFromPurses 17 = .ok (.iload_n 2, 1) := by decide +kernel
theorem dX0_coinsGoneFromPurses_18 : decode cX0_coinsGoneFromPurses 18 = .ok (.aaload, 1) := by decide +kernel
theorem dX0_coinsGoneFromPurses_19 : decode cX0_coinsGoneFromPurses 19 = .ok (.getfield 228, 3) := by decide +kernel
theorem dX0_coinsGoneFromPurses_22 : decode cX0_coinsGoneFromPurses 22 = .ok (.aload_n 0, 1) := by decide +kernel
theorem dX0_coinsGoneFromPurses_23 : decode cX0_coinsGoneFromPurses 23 = .ok (.getfield 13, 3) := by decide +kernel
theorem dX0_coinsGoneFromPurses_26 : decode cX0_coinsGoneFromPurses 26 = .ok (.iload_n 2, 1) := by decide +kernel
theorem dX0_coinsGoneFromPurses_27 : decode cX0_coinsGoneFromPurses 27 = .ok (.aaload, 1) := by decide +kernel
theorem dX0_coinsGoneFromPurses_28 : decode cX0_coinsGoneFromPurses 28 = .ok (.getfield 144, 3) := by decide +kernel
theorem dX0_coinsGoneFromPurses_31 : decode cX0_coinsGoneFromPurses 31 = .ok (.isub, 1) := by decide +kernel
theorem dX0_coinsGoneFromPurses_32 : decode cX0_coinsGoneFromPurses 32 = .ok (.iadd, 1) := by decide +kernel
theorem dX0_coinsGoneFromPurses_33 : decode cX0_coinsGoneFromPurses 33 = .ok (.istore_n 1, 1) := by decide +kernel
theorem dX0_coinsGoneFromPurses_34 : decode cX0_coinsGoneFromPurses 34 = .ok (.iinc 2 1, 3) := by decide +kernel
theorem dX0_coinsGoneFromPurses_37 : decode cX0_coinsGoneFromPurses 37 = .ok (.goto (-33), 3) := by decide +kernel
theorem dX0_coinsGoneFromPurses_40 : decode cX0_coinsGoneFromPurses 40 = .ok (.iload_n 1, 1) := by decide +kernel
theorem dX0_coinsGoneFromPurses_41 : decode cX0_coinsGoneFromPurses 41 = .ok (.ireturn, 1) := by decide +kernel
theorem dX0_total_0 : decode cX0_total 0 = .ok (.iload_n 1, 1) := by decide +kernel
theorem dX0_total_1 : decode cX0_total 1 = .ok (.tableswitch 229 0 22 #[107, 112, 117, 122, 135, 140, 147, 154, 161, 166, 171, 176, 181, 186, 191, 196, 229, 229, 201, 229, 208, 215, 222], 107) := by decide +kernel
theorem dX0_total_108 : decode cX0_total 108 = .ok (.aload_n 0, 1) := by decide +kernel
theorem dX0_total_109 : decode cX0_total 109 = .ok (.getfield 66, 3) := by decide +kernel
theorem dX0_total_112 : decode cX0_total 112 = .ok (.ireturn, 1) := by decide +kernel
theorem dX0_total_113 : decode cX0_total 113 = .ok (.aload_n 0, 1) := by decide +kernel
theorem dX0_total_114 : decode cX0_total 114 = .ok (.getfield 39, 3) := by decide +kernel
theorem dX0_total_117 : decode cX0_total 117 = .ok (.ireturn, 1) := by decide +kernel
theorem dX0_total_118 : decode cX0_total 118 = .ok (.aload_n 0, 1) := by decide +kernel
theorem dX0_total_119 : decode cX0_total 119 = .ok (.getfield 47, 3) := by decide +kernel
theorem dX0_total_122 : decode cX0_total 122 = .ok (.ireturn, 1) := by decide +kernel
theorem dX0_total_123 : decode cX0_total 123 = .ok (.aload_n 0, 1) := by decide +kernel
theorem dX0_total_124 : decode cX0_total 124 = .ok (.getfield 56, 3) := by decide +kernel
theorem dX0_total_127 : decode cX0_total 127 = .ok (.ifCond .eq 7, 3) := by decide +kernel
theorem dX0_total_130 : decode cX0_total 130 = .ok (.iconst 1, 1) := by decide +kernel
theorem dX0_total_131 : decode cX0_total 131 = .ok (.goto 4, 3) := by decide +kernel
theorem dX0_total_134 : decode cX0_total 134 = .ok (.iconst 0, 1) := by decide +kernel
theorem dX0_total_135 : decode cX0_total 135 = .ok (.ireturn, 1) := by decide +kernel
theorem dX0_total_136 : decode cX0_total 136 = .ok (.aload_n 0, 1) := by decide +kernel
theorem dX0_total_137 : decode cX0_total 137 = .ok (.getfield 72, 3) := by decide +kernel
theorem dX0_total_140 : decode cX0_total 140 = .ok (.ireturn, 1) := by decide +kernel
theorem dX0_total_141 : decode cX0_total 141 = .ok (.aload_n 0, 1) := by decide +kernel
theorem dX0_total_142 : decode cX0_total 142 = .ok (.getfield 28, 3) := by decide +kernel
theorem dX0_total_145 : decode cX0_total 145 = .ok (.iconst 0, 1) := by decide +kernel
theorem dX0_total_146 : decode cX0_total 146 = .ok (.iaload, 1) := by decide +kernel
theorem dX0_total_147 : decode cX0_total 147 = .ok (.ireturn, 1) := by decide +kernel
theorem dX0_total_148 : decode cX0_total 148 = .ok (.aload_n 0, 1) := by decide +kernel
theorem dX0_total_149 : decode cX0_total 149 = .ok (.getfield 28, 3) := by decide +kernel
theorem dX0_total_152 : decode cX0_total 152 = .ok (.iconst 1, 1) := by decide +kernel
theorem dX0_total_153 : decode cX0_total 153 = .ok (.iaload, 1) := by decide +kernel
theorem dX0_total_154 : decode cX0_total 154 = .ok (.ireturn, 1) := by decide +kernel
theorem dX0_total_155 : decode cX0_total 155 = .ok (.aload_n 0, 1) := by decide +kernel
theorem dX0_total_156 : decode cX0_total 156 = .ok (.getfield 28, 3) := by decide +kernel
theorem dX0_total_159 : decode cX0_total 159 = .ok (.iconst 2, 1) := by decide +kernel
theorem dX0_total_160 : decode cX0_total 160 = .ok (.iaload, 1) := by decide +kernel
theorem dX0_total_161 : decode cX0_total 161 = .ok (.ireturn, 1) := by decide +kernel
theorem dX0_total_162 : decode cX0_total 162 = .ok (.aload_n 0, 1) := by decide +kernel
theorem dX0_total_163 : decode cX0_total 163 = .ok (.getfield 75, 3) := by decide +kernel
theorem dX0_total_166 : decode cX0_total 166 = .ok (.ireturn, 1) := by decide +kernel
theorem dX0_total_167 : decode cX0_total 167 = .ok (.aload_n 0, 1) := by decide +kernel
theorem dX0_total_168 : decode cX0_total 168 = .ok (.invokevirtual 231, 3) := by decide +kernel
theorem dX0_total_171 : decode cX0_total 171 = .ok (.ireturn, 1) := by decide +kernel
theorem dX0_total_172 : decode cX0_total 172 = .ok (.aload_n 0, 1) := by decide +kernel
theorem dX0_total_173 : decode cX0_total 173 = .ok (.getfield 78, 3) := by decide +kernel
theorem dX0_total_176 : decode cX0_total 176 = .ok (.ireturn, 1) := by decide +kernel
theorem dX0_total_177 : decode cX0_total 177 = .ok (.aload_n 0, 1) := by decide +kernel
theorem dX0_total_178 : decode cX0_total 178 = .ok (.getfield 81, 3) := by decide +kernel
theorem dX0_total_181 : decode cX0_total 181 = .ok (.ireturn, 1) := by decide +kernel
theorem dX0_total_182 : decode cX0_total 182 = .ok (.aload_n 0, 1) := by decide +kernel
theorem dX0_total_183 : decode cX0_total 183 = .ok (.getfield 84, 3) := by decide +kernel
theorem dX0_total_186 : decode cX0_total 186 = .ok (.ireturn, 1) := by decide +kernel
theorem dX0_total_187 : decode cX0_total 187 = .ok (.aload_n 0, 1) := by decide +kernel
theorem dX0_total_188 : decode cX0_total 188 = .ok (.invokevirtual 205, 3) := by decide +kernel
theorem dX0_total_191 : decode cX0_total 191 = .ok (.ireturn, 1) := by decide +kernel
theorem dX0_total_192 : decode cX0_total 192 = .ok (.aload_n 0, 1) := by decide +kernel
theorem dX0_total_193 : decode cX0_total 193 = .ok (.getfield 69, 3) := by decide +kernel
theorem dX0_total_196 : decode cX0_total 196 = .ok (.ireturn, 1) := by decide +kernel
theorem dX0_total_197 : decode cX0_total 197 = .ok (.aload_n 0, 1) := by decide +kernel
theorem dX0_total_198 : decode cX0_total 198 = .ok (.getfield 53, 3) := by decide +kernel
theorem dX0_total_201 : decode cX0_total 201 = .ok (.ireturn, 1) := by decide +kernel
theorem dX0_total_202 : decode cX0_total 202 = .ok (.aload_n 0, 1) := by decide +kernel
theorem dX0_total_203 : decode cX0_total 203 = .ok (.getfield 28, 3) := by decide +kernel
theorem dX0_total_206 : decode cX0_total 206 = .ok (.iconst 3, 1) := by decide +kernel
theorem dX0_total_207 : decode cX0_total 207 = .ok (.iaload, 1) := by decide +kernel
theorem dX0_total_208 : decode cX0_total 208 = .ok (.ireturn, 1) := by decide +kernel
theorem dX0_total_209 : decode cX0_total 209 = .ok (.aload_n 0, 1) := by decide +kernel
theorem dX0_total_210 : decode cX0_total 210 = .ok (.getfield 32, 3) := by decide +kernel
theorem dX0_total_213 : decode cX0_total 213 = .ok (.iconst 0, 1) := by decide +kernel
theorem dX0_total_214 : decode cX0_total 214 = .ok (.iaload, 1) := by decide +kernel
theorem dX0_total_215 : decode cX0_total 215 = .ok (.ireturn, 1) := by decide +kernel
theorem dX0_total_216 : decode cX0_total 216 = .ok (.aload_n 0, 1) := by decide +kernel
theorem dX0_total_217 : decode cX0_total 217 = .ok (.getfield 32, 3) := by decide +kernel
theorem dX0_total_220 : decode cX0_total 220 = .ok (.iconst 1, 1) := by decide +kernel
theorem dX0_total_221 : decode cX0_total 221 = .ok (.iaload, 1) := by decide +kernel
theorem dX0_total_222 : decode cX0_total 222 = .ok (.ireturn, 1) := by decide +kernel
theorem dX0_total_223 : decode cX0_total 223 = .ok (.aload_n 0, 1) := by decide +kernel
theorem dX0_total_224 : decode cX0_total 224 = .ok (.getfield 32, 3) := by decide +kernel
theorem dX0_total_227 : decode cX0_total 227 = .ok (.iconst 2, 1) := by decide +kernel
theorem dX0_total_228 : decode cX0_total 228 = .ok (.iaload, 1) := by decide +kernel
theorem dX0_total_229 : decode cX0_total 229 = .ok (.ireturn, 1) := by decide +kernel
theorem dX0_total_230 : decode cX0_total 230 = .ok (.ldc 102, 2) := by decide +kernel
theorem dX0_total_232 : decode cX0_total 232 = .ok (.ireturn, 1) := by decide +kernel
theorem dX0_carryOut_0 : decode cX0_carryOut 0 = .ok (.aload_n 2, 1) := by decide +kernel
theorem dX0_carryOut_1 : decode cX0_carryOut 1 = .ok (.arraylength, 1) := by decide +kernel
theorem dX0_carryOut_2 : decode cX0_carryOut 2 = .ok (.iconst 4, 1) := by decide +kernel
theorem dX0_carryOut_3 : decode cX0_carryOut 3 = .ok (.if_icmp .ge 6, 3) := by decide +kernel
theorem dX0_carryOut_6 : decode cX0_carryOut 6 = .ok (.ldc 102, 2) := by decide +kernel
theorem dX0_carryOut_8 : decode cX0_carryOut 8 = .ok (.ireturn, 1) := by decide +kernel
theorem dX0_carryOut_9 : decode cX0_carryOut 9 = .ok (.iload_n 1, 1) := by decide +kernel
theorem dX0_carryOut_10 : decode cX0_carryOut 10 = .ok (.tableswitch 160 98 117 #[142, 122, 160, 160, 160, 160, 160, 160, 160, 160, 111, 131, 155, 160, 94, 160, 160, 160, 160, 150], 94) := by decide +kernel
theorem dX0_carryOut_104 : decode cX0_carryOut 104 = .ok (.aload_n 0, 1) := by decide +kernel
theorem dX0_carryOut_105 : decode cX0_carryOut 105 = .ok (.aload_n 2, 1) := by decide +kernel
theorem dX0_carryOut_106 : decode cX0_carryOut 106 = .ok (.iconst 0, 1) := by decide +kernel
theorem dX0_carryOut_107 : decode cX0_carryOut 107 = .ok (.iaload, 1) := by decide +kernel
theorem dX0_carryOut_108 : decode cX0_carryOut 108 = .ok (.aload_n 2, 1) := by decide +kernel
theorem dX0_carryOut_109 : decode cX0_carryOut 109 = .ok (.iconst 1, 1) := by decide +kernel
theorem dX0_carryOut_110 : decode cX0_carryOut 110 = .ok (.iaload, 1) := by decide +kernel
theorem dX0_carryOut_111 : decode cX0_carryOut 111 = .ok (.aload_n 2, 1) := by decide +kernel
theorem dX0_carryOut_112 : decode cX0_carryOut 112 = .ok (.iconst 2, 1) := by decide +kernel
theorem dX0_carryOut_113 : decode cX0_carryOut 113 = .ok (.iaload, 1) := by decide +kernel
theorem dX0_carryOut_114 : decode cX0_carryOut 114 = .ok (.aload_n 2, 1) := by decide +kernel
theorem dX0_carryOut_115 : decode cX0_carryOut 115 = .ok (.iconst 3, 1) := by decide +kernel
theorem dX0_carryOut_116 : decode cX0_carryOut 116 = .ok (.iaload, 1) := by decide +kernel
theorem dX0_carryOut_117 : decode cX0_carryOut 117 = .ok (.invokevirtual 234, 3) := by decide +kernel
theorem dX0_carryOut_120 : decode cX0_carryOut 120 = .ok (.ireturn, 1) := by decide +kernel
theorem dX0_carryOut_121 : decode cX0_carryOut 121 = .ok (.aload_n 0, 1) := by decide +kernel
theorem dX0_carryOut_122 : decode cX0_carryOut 122 = .ok (.aload_n 2, 1) := by decide +kernel
theorem dX0_carryOut_123 : decode cX0_carryOut 123 = .ok (.iconst 0, 1) := by decide +kernel
theorem dX0_carryOut_124 : decode cX0_carryOut 124 = .ok (.iaload, 1) := by decide +kernel
theorem dX0_carryOut_125 : decode cX0_carryOut 125 = .ok (.aload_n 2, 1) := by decide +kernel
theorem dX0_carryOut_126 : decode cX0_carryOut 126 = .ok (.iconst 1, 1) := by decide +kernel
theorem dX0_carryOut_127 : decode cX0_carryOut 127 = .ok (.iaload, 1) := by decide +kernel
theorem dX0_carryOut_128 : decode cX0_carryOut 128 = .ok (.invokevirtual 238, 3) := by decide +kernel
theorem dX0_carryOut_131 : decode cX0_carryOut 131 = .ok (.ireturn, 1) := by decide +kernel
theorem dX0_carryOut_132 : decode cX0_carryOut 132 = .ok (.aload_n 0, 1) := by decide +kernel
theorem dX0_carryOut_133 : decode cX0_carryOut 133 = .ok (.aload_n 2, 1) := by decide +kernel
theorem dX0_carryOut_134 : decode cX0_carryOut 134 = .ok (.iconst 0, 1) := by decide +kernel
theorem dX0_carryOut_135 : decode cX0_carryOut 135 = .ok (.iaload, 1) := by decide +kernel
theorem dX0_carryOut_136 : decode cX0_carryOut 136 = .ok (.iconst 0, 1) := by decide +kernel
theorem dX0_carryOut_137 : decode cX0_carryOut 137 = .ok (.invokevirtual 177, 3) := by decide +kernel
theorem dX0_carryOut_140 : decode cX0_carryOut 140 = .ok (.ireturn, 1) := by decide +kernel
theorem dX0_carryOut_141 : decode cX0_carryOut 141 = .ok (.aload_n 0, 1) := by decide +kernel
theorem dX0_carryOut_142 : decode cX0_carryOut 142 = .ok (.aload_n 2, 1) := by decide +kernel
theorem dX0_carryOut_143 : decode cX0_carryOut 143 = .ok (.iconst 0, 1) := by decide +kernel
theorem dX0_carryOut_144 : decode cX0_carryOut 144 = .ok (.iaload, 1) := by decide +kernel
theorem dX0_carryOut_145 : decode cX0_carryOut 145 = .ok (.aload_n 2, 1) := by decide +kernel
theorem dX0_carryOut_146 : decode cX0_carryOut 146 = .ok (.iconst 1, 1) := by decide +kernel
theorem dX0_carryOut_147 : decode cX0_carryOut 147 = .ok (.iaload, 1) := by decide +kernel
theorem dX0_carryOut_148 : decode cX0_carryOut 148 = .ok (.invokevirtual 241, 3) := by decide +kernel
theorem dX0_carryOut_151 : decode cX0_carryOut 151 = .ok (.ireturn, 1) := by decide +kernel
theorem dX0_carryOut_152 : decode cX0_carryOut 152 = .ok (.aload_n 0, 1) := by decide +kernel
theorem dX0_carryOut_153 : decode cX0_carryOut 153 = .ok (.aload_n 2, 1) := by decide +kernel
theorem dX0_carryOut_154 : decode cX0_carryOut 154 = .ok (.iconst 0, 1) := by decide +kernel
theorem dX0_carryOut_155 : decode cX0_carryOut 155 = .ok (.iaload, 1) := by decide +kernel
theorem dX0_carryOut_156 : decode cX0_carryOut 156 = .ok (.invokevirtual 244, 3) := by decide +kernel
theorem dX0_carryOut_159 : decode cX0_carryOut 159 = .ok (.ireturn, 1) := by decide +kernel
theorem dX0_carryOut_160 : decode cX0_carryOut 160 = .ok (.aload_n 0, 1) := by decide +kernel
theorem dX0_carryOut_161 : decode cX0_carryOut 161 = .ok (.invokevirtual 247, 3) := by decide +kernel
theorem dX0_carryOut_164 : decode cX0_carryOut 164 = .ok (.ireturn, 1) := by decide +kernel
theorem dX0_carryOut_165 : decode cX0_carryOut 165 = .ok (.aload_n 0, 1) := by decide +kernel
theorem dX0_carryOut_166 : decode cX0_carryOut 166 = .ok (.invokevirtual 250, 3) := by decide +kernel
theorem dX0_carryOut_169 : decode cX0_carryOut 169 = .ok (.ireturn, 1) := by decide +kernel
theorem dX0_carryOut_170 : decode cX0_carryOut 170 = .ok (.ldc 102, 2) := by decide +kernel
theorem dX0_carryOut_172 : decode cX0_carryOut 172 = .ok (.ireturn, 1) := by decide +kernel
theorem dX1_init_0 : decode cX1_init 0 = .ok (.aload_n 0, 1) := by decide +kernel
theorem dX1_init_1 : decode cX1_init 1 = .ok (.invokespecial 3, 3) := by decide +kernel
theorem dX1_init_4 : decode cX1_init 4 = .ok (.return_, 1) := by decide +kernel
theorem dX1_sitDown_0 : decode cX1_sitDown 0 = .ok (.aload_n 0, 1) := by decide +kernel
theorem dX1_sitDown_1 : decode cX1_sitDown 1 = .ok (.iload_n 1, 1) := by decide +kernel
theorem dX1_sitDown_2 : decode cX1_sitDown 2 = .ok (.putfield 9, 3) := by decide +kernel
theorem dX1_sitDown_5 : decode cX1_sitDown 5 = .ok (.aload_n 0, 1) := by decide +kernel
theorem dX1_sitDown_6 : decode cX1_sitDown 6 = .ok (.iload_n 2, 1) := by decide +kernel
theorem dX1_sitDown_7 : decode cX1_sitDown 7 = .ok (.putfield 15, 3) := by decide +kernel
theorem dX1_sitDown_10 : decode cX1_sitDown 10 = .ok (.aload_n 0, 1) := by decide +kernel
theorem dX1_sitDown_11 : decode cX1_sitDown 11 = .ok (.iload_n 3, 1) := by decide +kernel
theorem dX1_sitDown_12 : decode cX1_sitDown 12 = .ok (.putfield 18, 3) := by decide +kernel
theorem dX1_sitDown_15 : decode cX1_sitDown 15 = .ok (.aload_n 0, 1) := by decide +kernel
theorem dX1_sitDown_16 : decode cX1_sitDown 16 = .ok (.iload_n 3, 1) := by decide +kernel
theorem dX1_sitDown_17 : decode cX1_sitDown 17 = .ok (.putfield 21, 3) := by decide +kernel
theorem dX1_sitDown_20 : decode cX1_sitDown 20 = .ok (.aload_n 0, 1) := by decide +kernel
theorem dX1_sitDown_21 : decode cX1_sitDown 21 = .ok (.iload 4, 2) := by decide +kernel
theorem dX1_sitDown_23 : decode cX1_sitDown 23 = .ok (.putfield 24, 3) := by decide +kernel
theorem dX1_sitDown_26 : decode cX1_sitDown 26 = .ok (.aload_n 0, 1) := by decide +kernel
theorem dX1_sitDown_27 : decode cX1_sitDown 27 = .ok (.iconst 0, 1) := by decide +kernel
theorem dX1_sitDown_28 : decode cX1_sitDown 28 = .ok (.putfield 27, 3) := by decide +kernel
theorem dX1_sitDown_31 : decode cX1_sitDown 31 = .ok (.aload_n 0, 1) := by decide +kernel
theorem dX1_sitDown_32 : decode cX1_sitDown 32 = .ok (.iconst 0, 1) := by decide +kernel
theorem dX1_sitDown_33 : decode cX1_sitDown 33 = .ok (.putfield 30, 3) := by decide +kernel
theorem dX1_sitDown_36 : decode cX1_sitDown 36 = .ok (.aload_n 0, 1) := by decide +kernel
theorem dX1_sitDown_37 : decode cX1_sitDown 37 = .ok (.iconst 0, 1) := by decide +kernel
theorem dX1_sitDown_38 : decode cX1_sitDown 38 = .ok (.putfield 33, 3) := by decide +kernel
theorem dX1_sitDown_41 : decode cX1_sitDown 41 = .ok (.aload_n 0, 1) := by decide +kernel
theorem dX1_sitDown_42 : decode cX1_sitDown 42 = .ok (.iconst 0, 1) := by decide +kernel
theorem dX1_sitDown_43 : decode cX1_sitDown 43 = .ok (.putfield 36, 3) := by decide +kernel
theorem dX1_sitDown_46 : decode cX1_sitDown 46 = .ok (.aload_n 0, 1) := by decide +kernel
theorem dX1_sitDown_47 : decode cX1_sitDown 47 = .ok (.iconst 0, 1) := by decide +kernel
theorem dX1_sitDown_48 : decode cX1_sitDown 48 = .ok (.putfield 39, 3) := by decide +kernel
theorem dX1_sitDown_51 : decode cX1_sitDown 51 = .ok (.aload_n 0, 1) := by decide +kernel
theorem dX1_sitDown_52 : decode cX1_sitDown 52 = .ok (.iconst 0, 1) := by decide +kernel
theorem dX1_sitDown_53 : decode cX1_sitDown 53 = .ok (.putfield 42, 3) := by decide +kernel
theorem dX1_sitDown_56 : decode cX1_sitDown 56 = .ok (.return_, 1) := by decide +kernel
theorem dX1_copyFrom_0 : decode cX1_copyFrom 0 = .ok (.aload_n 0, 1) := by decide +kernel
theorem dX1_copyFrom_1 : decode cX1_copyFrom 1 = .ok (.aload_n 1, 1) := by decide +kernel
theorem dX1_copyFrom_2 : decode cX1_copyFrom 2 = .ok (.getfield 9, 3) := by decide +kernel
theorem dX1_copyFrom_5 : decode cX1_copyFrom 5 = .ok (.putfield 9, 3) := by decide +kernel
theorem dX1_copyFrom_8 : decode cX1_copyFrom 8 = .ok (.aload_n 0, 1) := by decide +kernel
theorem dX1_copyFrom_9 : decode cX1_copyFrom 9 = .ok (.aload_n 1, 1) := by decide +kernel
theorem dX1_copyFrom_10 : decode cX1_copyFrom 10 = .ok (.getfield 15, 3) := by decide +kernel
theorem dX1_copyFrom_13 : decode cX1_copyFrom 13 = .ok (.putfield 15, 3) := by decide +kernel
theorem dX1_copyFrom_16 : decode cX1_copyFrom 16 = .ok (.aload_n 0, 1) := by decide +kernel
theorem dX1_copyFrom_17 : decode cX1_copyFrom 17 = .ok (.aload_n 1, 1) := by decide +kernel
theorem dX1_copyFrom_18 : decode cX1_copyFrom 18 = .ok (.getfield 18, 3) := by decide +kernel
theorem dX1_copyFrom_21 : decode cX1_copyFrom 21 = .ok (.putfield 18, 3) := by decide +kernel
theorem dX1_copyFrom_24 : decode cX1_copyFrom 24 = .ok (.aload_n 0, 1) := by decide +kernel
theorem dX1_copyFrom_25 : decode cX1_copyFrom 25 = .ok (.aload_n 1, 1) := by decide +kernel
theorem dX1_copyFrom_26 : decode cX1_copyFrom 26 = .ok (.getfield 21, 3) := by decide +kernel
theorem dX1_copyFrom_29 : decode cX1_copyFrom 29 = .ok (.putfield 21, 3) := by decide +kernel
theorem dX1_copyFrom_32 : decode cX1_copyFrom 32 = .ok (.aload_n 0, 1) := by decide +kernel
theorem dX1_copyFrom_33 : decode cX1_copyFrom 33 = .ok (.aload_n 1, 1) := by decide +kernel
theorem dX1_copyFrom_34 : decode cX1_copyFrom 34 = .ok (.getfield 24, 3) := by decide +kernel
theorem dX1_copyFrom_37 : decode cX1_copyFrom 37 = .ok (.putfield 24, 3) := by decide +kernel
theorem dX1_copyFrom_40 : decode cX1_copyFrom 40 = .ok (.aload_n 0, 1) := by decide +kernel
theorem dX1_copyFrom_41 : decode cX1_copyFrom 41 = .ok (.aload_n 1, 1) := by decide +kernel
theorem dX1_copyFrom_42 : decode cX1_copyFrom 42 = .ok (.getfield 27, 3) := by decide +kernel
theorem dX1_copyFrom_45 : decode cX1_copyFrom 45 = .ok (.putfield 27, 3) := by decide +kernel
theorem dX1_copyFrom_48 : decode cX1_copyFrom 48 = .ok (.aload_n 0, 1) := by decide +kernel
theorem dX1_copyFrom_49 : decode cX1_copyFrom 49 = .ok (.aload_n 1, 1) := by decide +kernel
theorem dX1_copyFrom_50 : decode cX1_copyFrom 50 = .ok (.getfield 30, 3) := by decide +kernel
theorem dX1_copyFrom_53 : decode cX1_copyFrom 53 = .ok (.putfield 30, 3) := by decide +kernel
theorem dX1_copyFrom_56 : decode cX1_copyFrom 56 = .ok (.aload_n 0, 1) := by decide +kernel
theorem dX1_copyFrom_57 : decode cX1_copyFrom 57 = .ok (.aload_n 1, 1) := by decide +kernel
theorem dX1_copyFrom_58 : decode cX1_copyFrom 58 = .ok (.getfield 33, 3) := by decide +kernel
theorem dX1_copyFrom_61 : decode cX1_copyFrom 61 = .ok (.putfield 33, 3) := by decide +kernel
theorem dX1_copyFrom_64 : decode cX1_copyFrom 64 = .ok (.aload_n 0, 1) := by decide +kernel
theorem dX1_copyFrom_65 : decode cX1_copyFrom 65 = .ok (.aload_n 1, 1) := by decide +kernel
theorem dX1_copyFrom_66 : decode cX1_copyFrom 66 = .ok (.getfield 36, 3) := by decide +kernel
theorem dX1_copyFrom_69 : decode cX1_copyFrom 69 = .ok (.putfield 36, 3) := by decide +kernel
theorem dX1_copyFrom_72 : decode cX1_copyFrom 72 = .ok (.aload_n 0, 1) := by decide +kernel
theorem dX1_copyFrom_73 : decode cX1_copyFrom 73 = .ok (.aload_n 1, 1) := by decide +kernel
theorem dX1_copyFrom_74 : decode cX1_copyFrom 74 = .ok (.getfield 39, 3) := by decide +kernel
theorem dX1_copyFrom_77 : decode cX1_copyFrom 77 = .ok (.putfield 39, 3) := by decide +kernel
theorem dX1_copyFrom_80 : decode cX1_copyFrom 80 = .ok (.aload_n 0, 1) := by decide +kernel
theorem dX1_copyFrom_81 : decode cX1_copyFrom 81 = .ok (.aload_n 1, 1) := by decide +kernel
theorem dX1_copyFrom_82 : decode cX1_copyFrom 82 = .ok (.getfield 42, 3) := by decide +kernel
theorem dX1_copyFrom_85 : decode cX1_copyFrom 85 = .ok (.putfield 42, 3) := by decide +kernel
theorem dX1_copyFrom_88 : decode cX1_copyFrom 88 = .ok (.return_, 1) := by decide +kernel
theorem dX1_loudness_0 : decode cX1_loudness 0 = .ok (.aload_n 0, 1) := by decide +kernel
theorem dX1_loudness_1 : decode cX1_loudness 1 = .ok (.getfield 24, 3) := by decide +kernel
theorem dX1_loudness_4 : decode cX1_loudness 4 = .ok (.aload_n 0, 1) := by decide +kernel
theorem dX1_loudness_5 : decode cX1_loudness 5 = .ok (.getfield 27, 3) := by decide +kernel
theorem dX1_loudness_8 : decode cX1_loudness 8 = .ok (.iadd, 1) := by decide +kernel
theorem dX1_loudness_9 : decode cX1_loudness 9 = .ok (.aload_n 0, 1) := by decide +kernel
theorem dX1_loudness_10 : decode cX1_loudness 10 = .ok (.getfield 30, 3) := by decide +kernel
theorem dX1_loudness_13 : decode cX1_loudness 13 = .ok (.isub, 1) := by decide +kernel
theorem dX1_loudness_14 : decode cX1_loudness 14 = .ok (.aload_n 0, 1) := by decide +kernel
theorem dX1_loudness_15 : decode cX1_loudness 15 = .ok (.getfield 9, 3) := by decide +kernel
theorem dX1_loudness_18 : decode cX1_loudness 18 = .ok (.isub, 1) := by decide +kernel
theorem dX1_loudness_19 : decode cX1_loudness 19 = .ok (.ireturn, 1) := by decide +kernel
theorem dX1_isBeside_0 : decode cX1_isBeside 0 = .ok (.aload_n 0, 1) := by decide +kernel
theorem dX1_isBeside_1 : decode cX1_isBeside 1 = .ok (.getfield 9, 3) := by decide +kernel
theorem dX1_isBeside_4 : decode cX1_isBeside 4 = .ok (.aload_n 1, 1) := by decide +kernel
theorem dX1_isBeside_5 : decode cX1_isBeside 5 = .ok (.getfield 9, 3) := by decide +kernel
theorem dX1_isBeside_8 : decode cX1_isBeside 8 = .ok (.if_icmp .ne 33, 3) := by decide +kernel
theorem dX1_isBeside_11 : decode cX1_isBeside 11 = .ok (.aload_n 0, 1) := by decide +kernel
theorem dX1_isBeside_12 : decode cX1_isBeside 12 = .ok (.getfield 15, 3) := by decide +kernel
theorem dX1_isBeside_15 : decode cX1_isBeside 15 = .ok (.aload_n 1, 1) := by decide +kernel
theorem dX1_isBeside_16 : decode cX1_isBeside 16 = .ok (.getfield 15, 3) := by decide +kernel
theorem dX1_isBeside_19 : decode cX1_isBeside 19 = .ok (.iconst 1, 1) := by decide +kernel
theorem dX1_isBeside_20 : decode cX1_isBeside 20 = .ok (.isub, 1) := by decide +kernel
theorem dX1_isBeside_21 : decode cX1_isBeside 21 = .ok (.if_icmp .eq 16, 3) := by decide +kernel
theorem dX1_isBeside_24 : decode cX1_isBeside 24 = .ok (.aload_n 0, 1) := by decide +kernel
theorem dX1_isBeside_25 : decode cX1_isBeside 25 = .ok (.getfield 15, 3) := by decide +kernel
theorem dX1_isBeside_28 : decode cX1_isBeside 28 = .ok (.aload_n 1, 1) := by decide +kernel
theorem dX1_isBeside_29 : decode cX1_isBeside 29 = .ok (.getfield 15, 3) := by decide +kernel
theorem dX1_isBeside_32 : decode cX1_isBeside 32 = .ok (.iconst 1, 1) := by decide +kernel
theorem dX1_isBeside_33 : decode cX1_isBeside 33 = .ok (.iadd, 1) := by decide +kernel
theorem dX1_isBeside_34 : decode cX1_isBeside 34 = .ok (.if_icmp .ne 7, 3) := by decide +kernel
theorem dX1_isBeside_37 : decode cX1_isBeside 37 = .ok (.iconst 1, 1) := by decide +kernel
theorem dX1_isBeside_38 : decode cX1_isBeside 38 = .ok (.goto 4, 3) := by decide +kernel
theorem dX1_isBeside_41 : decode cX1_isBeside 41 = .ok (.iconst 0, 1) := by decide +kernel
theorem dX1_isBeside_42 : decode cX1_isBeside 42 = .ok (.ireturn, 1) := by decide +kernel
theorem dX1_pay_0 : decode cX1_pay 0 = .ok (.aload_n 0, 1) := by decide +kernel
theorem dX1_pay_1 : decode cX1_pay 1 = .ok (.dup, 1) := by decide +kernel
theorem dX1_pay_2 : decode cX1_pay 2 = .ok (.getfield 18, 3) := by decide +kernel
theorem dX1_pay_5 : decode cX1_pay 5 = .ok (.iload_n 1, 1) := by decide +kernel
theorem dX1_pay_6 : decode cX1_pay 6 = .ok (.isub, 1) := by decide +kernel
theorem dX1_pay_7 : decode cX1_pay 7 = .ok (.putfield 18, 3) := by decide +kernel
theorem dX1_pay_10 : decode cX1_pay 10 = .ok (.aload_n 0, 1) := by decide +kernel
theorem dX1_pay_11 : decode cX1_pay 11 = .ok (.dup, 1) := by decide +kernel
theorem dX1_pay_12 : decode cX1_pay 12 = .ok (.getfield 42, 3) := by decide +kernel
theorem dX1_pay_15 : decode cX1_pay 15 = .ok (.iload_n 1, 1) := by decide +kernel
theorem dX1_pay_16 : decode cX1_pay 16 = .ok (.iadd, 1) := by decide +kernel
theorem dX1_pay_17 : decode cX1_pay 17 = .ok (.putfield 42, 3) := by decide +kernel
theorem dX1_pay_20 : decode cX1_pay 20 = .ok (.aload_n 0, 1) := by decide +kernel
theorem dX1_pay_21 : decode cX1_pay 21 = .ok (.dup, 1) := by decide +kernel
theorem dX1_pay_22 : decode cX1_pay 22 = .ok (.getfield 39, 3) := by decide +kernel
theorem dX1_pay_25 : decode cX1_pay 25 = .ok (.iconst 1, 1) := by decide +kernel
theorem dX1_pay_26 : decode cX1_pay 26 = .ok (.iadd, 1) := by decide +kernel
theorem dX1_pay_27 : decode cX1_pay 27 = .ok (.putfield 39, 3) := by decide +kernel
theorem dX1_pay_30 : decode cX1_pay 30 = .ok (.return_, 1) := by decide +kernel
theorem dX1_tell_0 : decode cX1_tell 0 = .ok (.iload_n 1, 1) := by decide +kernel
theorem dX1_tell_1 : decode cX1_tell 1 = .ok (.tableswitch 117 0 10 #[59, 64, 69, 74, 79, 84, 89, 97, 102, 107, 112], 59) := by decide +kernel
theorem dX1_tell_60 : decode cX1_tell 60 = .ok (.aload_n 0, 1) := by decide +kernel
theorem dX1_tell_61 : decode cX1_tell 61 = .ok (.getfield 9, 3) := by decide +kernel
theorem dX1_tell_64 : decode cX1_tell 64 = .ok (.ireturn, 1) := by decide +kernel
theorem dX1_tell_65 : decode cX1_tell 65 = .ok (.aload_n 0, 1) := by decide +kernel
theorem dX1_tell_66 : decode cX1_tell 66 = .ok (.getfield 15, 3) := by decide +kernel
theorem dX1_tell_69 : decode cX1_tell 69 = .ok (.ireturn, 1) := by decide +kernel
theorem dX1_tell_70 : decode cX1_tell 70 = .ok (.aload_n 0, 1) := by decide +kernel
theorem dX1_tell_71 : decode cX1_tell 71 = .ok (.getfield 18, 3) := by decide +kernel
theorem dX1_tell_74 : decode cX1_tell 74 = .ok (.ireturn, 1) := by decide +kernel
theorem dX1_tell_75 : decode cX1_tell 75 = .ok (.aload_n 0, 1) := by decide +kernel
theorem dX1_tell_76 : decode cX1_tell 76 = .ok (.getfield 24, 3) := by decide +kernel
theorem dX1_tell_79 : decode cX1_tell 79 = .ok (.ireturn, 1) := by decide +kernel
theorem dX1_tell_80 : decode cX1_tell 80 = .ok (.aload_n 0, 1) := by decide +kernel
theorem dX1_tell_81 : decode cX1_tell 81 = .ok (.getfield 27, 3) := by decide +kernel
theorem dX1_tell_84 : decode cX1_tell 84 = .ok (.ireturn, 1) := by decide +kernel
theorem dX1_tell_85 : decode cX1_tell 85 = .ok (.aload_n 0, 1) := by decide +kernel
theorem dX1_tell_86 : decode cX1_tell 86 = .ok (.getfield 30, 3) := by decide +kernel
theorem dX1_tell_89 : decode cX1_tell 89 = .ok (.ireturn, 1) := by decide +kernel
theorem dX1_tell_90 : decode cX1_tell 90 = .ok (.bipush 100, 2) := by decide +kernel
theorem dX1_tell_92 : decode cX1_tell 92 = .ok (.aload_n 0, 1) := by decide +kernel
theorem dX1_tell_93 : decode cX1_tell 93 = .ok (.invokevirtual 45, 3) := by decide +kernel
theorem dX1_tell_96 : decode cX1_tell 96 = .ok (.iadd, 1) := by decide +kernel
theorem dX1_tell_97 : decode cX1_tell 97 = .ok (.ireturn, 1) := by decide +kernel
theorem dX1_tell_98 : decode cX1_tell 98 = .ok (.aload_n 0, 1) := by decide +kernel
theorem dX1_tell_99 : decode cX1_tell 99 = .ok (.getfield 33, 3) := by decide +kernel
theorem dX1_tell_102 : decode cX1_tell 102 = .ok (.ireturn, 1) := by decide +kernel
theorem dX1_tell_103 : decode cX1_tell 103 = .ok (.aload_n 0, 1) := by decide +kernel
theorem dX1_tell_104 : decode cX1_tell 104 = .ok (.getfield 36, 3) := by decide +kernel
theorem dX1_tell_107 : decode cX1_tell 107 = .ok (.ireturn, 1) := by decide +kernel
theorem dX1_tell_108 : decode cX1_tell 108 = .ok (.aload_n 0, 1) := by decide +kernel
theorem dX1_tell_109 : decode cX1_tell 109 = .ok (.getfield 39, 3) := by decide +kernel
theorem dX1_tell_112 : decode cX1_tell 112 = .ok (.ireturn, 1) := by decide +kernel
theorem dX1_tell_113 : decode cX1_tell 113 = .ok (.aload_n 0, 1) := by decide +kernel
theorem dX1_tell_114 : decode cX1_tell 114 = .ok (.getfield 42, 3) := by decide +kernel
theorem dX1_tell_117 : decode cX1_tell 117 = .ok (.ireturn, 1) := by decide +kernel
theorem dX1_tell_118 : decode cX1_tell 118 = .ok (.ldc 49, 2) := by decide +kernel
theorem dX1_tell_120 : decode cX1_tell 120 = .ok (.ireturn, 1) := by decide +kernel
theorem dX2_init_0 : decode cX2_init 0 = .ok (.aload_n 0, 1) := by decide +kernel
theorem dX2_init_1 : decode cX2_init 1 = .ok (.invokespecial 3, 3) := by decide +kernel
theorem dX2_init_4 : decode cX2_init 4 = .ok (.return_, 1) := by decide +kernel
theorem dX2_come_0 : decode cX2_come 0 = .ok (.aload_n 0, 1) := by decide +kernel
theorem dX2_come_1 : decode cX2_come 1 = .ok (.iload_n 1, 1) := by decide +kernel
theorem dX2_come_2 : decode cX2_come 2 = .ok (.putfield 9, 3) := by decide +kernel
theorem dX2_come_5 : decode cX2_come 5 = .ok (.aload_n 0, 1) := by decide +kernel
theorem dX2_come_6 : decode cX2_come 6 = .ok (.iload_n 2, 1) := by decide +kernel
theorem dX2_come_7 : decode cX2_come 7 = .ok (.putfield 15, 3) := by decide +kernel
theorem dX2_come_10 : decode cX2_come 10 = .ok (.aload_n 0, 1) := by decide +kernel
theorem dX2_come_11 : decode cX2_come 11 = .ok (.iconst 0, 1) := by decide +kernel
theorem dX2_come_12 : decode cX2_come 12 = .ok (.putfield 18, 3) := by decide +kernel
theorem dX2_come_15 : decode cX2_come 15 = .ok (.aload_n 0, 1) := by decide +kernel
theorem dX2_come_16 : decode cX2_come 16 = .ok (.iconst (-1), 1) := by decide +kernel
theorem dX2_come_17 : decode cX2_come 17 = .ok (.putfield 21, 3) := by decide +kernel
theorem dX2_come_20 : decode cX2_come 20 = .ok (.aload_n 0, 1) := by decide +kernel
theorem dX2_come_21 : decode cX2_come 21 = .ok (.iconst 0, 1) := by decide +kernel
theorem dX2_come_22 : decode cX2_come 22 = .ok (.putfield 24, 3) := by decide +kernel
theorem dX2_come_25 : decode cX2_come 25 = .ok (.aload_n 0, 1) := by decide +kernel
theorem dX2_come_26 : decode cX2_come 26 = .ok (.iconst 0, 1) := by decide +kernel
theorem dX2_come_27 : decode cX2_come 27 = .ok (.putfield 28, 3) := by decide +kernel
theorem dX2_come_30 : decode cX2_come 30 = .ok (.aload_n 0, 1) := by decide +kernel
theorem dX2_come_31 : decode cX2_come 31 = .ok (.iconst 0, 1) := by decide +kernel
theorem dX2_come_32 : decode cX2_come 32 = .ok (.putfield 31, 3) := by decide +kernel
theorem dX2_come_35 : decode cX2_come 35 = .ok (.aload_n 0, 1) := by decide +kernel
theorem dX2_come_36 : decode cX2_come 36 = .ok (.iconst 0, 1) := by decide +kernel
theorem dX2_come_37 : decode cX2_come 37 = .ok (.putfield 34, 3) := by decide +kernel
theorem dX2_come_40 : decode cX2_come 40 = .ok (.aload_n 0, 1) := by decide +kernel
theorem dX2_come_41 : decode cX2_come 41 = .ok (.iconst 0, 1) := by decide +kernel
theorem dX2_come_42 : decode cX2_come 42 = .ok (.putfield 37, 3) := by decide +kernel
theorem dX2_come_45 : decode cX2_come 45 = .ok (.aload_n 0, 1) := by decide +kernel
theorem dX2_come_46 : decode cX2_come 46 = .ok (.iconst 0, 1) := by decide +kernel
theorem dX2_come_47 : decode cX2_come 47 = .ok (.putfield 40, 3) := by decide +kernel
theorem dX2_come_50 : decode cX2_come 50 = .ok (.return_, 1) := by decide +kernel
theorem dX2_copyFrom_0 : decode cX2_copyFrom 0 = .ok (.aload_n 0, 1) := by decide +kernel
theorem dX2_copyFrom_1 : decode cX2_copyFrom 1 = .ok (.aload_n 1, 1) := by decide +kernel
theorem dX2_copyFrom_2 : decode cX2_copyFrom 2 = .ok (.getfield 9, 3) := by decide +kernel
theorem dX2_copyFrom_5 : decode cX2_copyFrom 5 = .ok (.putfield 9, 3) := by decide +kernel
theorem dX2_copyFrom_8 : decode cX2_copyFrom 8 = .ok (.aload_n 0, 1) := by decide +kernel
theorem dX2_copyFrom_9 : decode cX2_copyFrom 9 = .ok (.aload_n 1, 1) := by decide +kernel
theorem dX2_copyFrom_10 : decode cX2_copyFrom 10 = .ok (.getfield 15, 3) := by decide +kernel
theorem dX2_copyFrom_13 : decode cX2_copyFrom 13 = .ok (.putfield 15, 3) := by decide +kernel
theorem dX2_copyFrom_16 : decode cX2_copyFrom 16 = .ok (.aload_n 0, 1) := by decide +kernel
theorem dX2_copyFrom_17 : decode cX2_copyFrom 17 = .ok (.aload_n 1, 1) := by decide +kernel
theorem dX2_copyFrom_18 : decode cX2_copyFrom 18 = .ok (.getfield 18, 3) := by decide +kernel
theorem dX2_copyFrom_21 : decode cX2_copyFrom 21 = .ok (.putfield 18, 3) := by decide +kernel
theorem dX2_copyFrom_24 : decode cX2_copyFrom 24 = .ok (.aload_n 0, 1) := by decide +kernel
theorem dX2_copyFrom_25 : decode cX2_copyFrom 25 = .ok (.aload_n 1, 1) := by decide +kernel
theorem dX2_copyFrom_26 : decode cX2_copyFrom 26 = .ok (.getfield 21, 3) := by decide +kernel
theorem dX2_copyFrom_29 : decode cX2_copyFrom 29 = .ok (.putfield 21, 3) := by decide +kernel
theorem dX2_copyFrom_32 : decode cX2_copyFrom 32 = .ok (.aload_n 0, 1) := by decide +kernel
theorem dX2_copyFrom_33 : decode cX2_copyFrom 33 = .ok (.aload_n 1, 1) := by decide +kernel
theorem dX2_copyFrom_34 : decode cX2_copyFrom 34 = .ok (.getfield 24, 3) := by decide +kernel
theorem dX2_copyFrom_37 : decode cX2_copyFrom 37 = .ok (.putfield 24, 3) := by decide +kernel
theorem dX2_copyFrom_40 : decode cX2_copyFrom 40 = .ok (.aload_n 0, 1) := by decide +kernel
theorem dX2_copyFrom_41 : decode cX2_copyFrom 41 = .ok (.aload_n 1, 1) := by decide +kernel
theorem dX2_copyFrom_42 : decode cX2_copyFrom 42 = .ok (.getfield 28, 3) := by decide +kernel
theorem dX2_copyFrom_45 : decode cX2_copyFrom 45 = .ok (.putfield 28, 3) := by decide +kernel
theorem dX2_copyFrom_48 : decode cX2_copyFrom 48 = .ok (.aload_n 0, 1) := by decide +kernel
theorem dX2_copyFrom_49 : decode cX2_copyFrom 49 = .ok (.aload_n 1, 1) := by decide +kernel
theorem dX2_copyFrom_50 : decode cX2_copyFrom 50 = .ok (.getfield 31, 3) := by decide +kernel
theorem dX2_copyFrom_53 : decode cX2_copyFrom 53 = .ok (.putfield 31, 3) := by decide +kernel
theorem dX2_copyFrom_56 : decode cX2_copyFrom 56 = .ok (.aload_n 0, 1) := by decide +kernel
theorem dX2_copyFrom_57 : decode cX2_copyFrom 57 = .ok (.aload_n 1, 1) := by decide +kernel
theorem dX2_copyFrom_58 : decode cX2_copyFrom 58 = .ok (.getfield 34, 3) := by decide +kernel
theorem dX2_copyFrom_61 : decode cX2_copyFrom 61 = .ok (.putfield 34, 3) := by decide +kernel
theorem dX2_copyFrom_64 : decode cX2_copyFrom 64 = .ok (.aload_n 0, 1) := by decide +kernel
theorem dX2_copyFrom_65 : decode cX2_copyFrom 65 = .ok (.aload_n 1, 1) := by decide +kernel
theorem dX2_copyFrom_66 : decode cX2_copyFrom 66 = .ok (.getfield 37, 3) := by decide +kernel
theorem dX2_copyFrom_69 : decode cX2_copyFrom 69 = .ok (.putfield 37, 3) := by decide +kernel
theorem dX2_copyFrom_72 : decode cX2_copyFrom 72 = .ok (.aload_n 0, 1) := by decide +kernel
theorem dX2_copyFrom_73 : decode cX2_copyFrom 73 = .ok (.aload_n 1, 1) := by decide +kernel
theorem dX2_copyFrom_74 : decode cX2_copyFrom 74 = .ok (.getfield 40, 3) := by decide +kernel
theorem dX2_copyFrom_77 : decode cX2_copyFrom 77 = .ok (.putfield 40, 3) := by decide +kernel
theorem dX2_copyFrom_80 : decode cX2_copyFrom 80 = .ok (.return_, 1) := by decide +kernel
theorem dX2_hasBid_0 : decode cX2_hasBid 0 = .ok (.aload_n 0, 1) := by decide +kernel
theorem dX2_hasBid_1 : decode cX2_hasBid 1 = .ok (.getfield 31, 3) := by decide +kernel
theorem dX2_hasBid_4 : decode cX2_hasBid 4 = .ok (.ifCond .le 7, 3) := by decide +kernel
theorem dX2_hasBid_7 : decode cX2_hasBid 7 = .ok (.iconst 1, 1) := by decide +kernel
theorem dX2_hasBid_8 : decode cX2_hasBid 8 = .ok (.goto 4, 3) := by decide +kernel
theorem dX2_hasBid_11 : decode cX2_hasBid 11 = .ok (.iconst 0, 1) := by decide +kernel
theorem dX2_hasBid_12 : decode cX2_hasBid 12 = .ok (.ireturn, 1) := by decide +kernel
theorem dX2_asked_0 : decode cX2_asked 0 = .ok (.aload_n 0, 1) := by decide +kernel
theorem dX2_asked_1 : decode cX2_asked 1 = .ok (.getfield 31, 3) := by decide +kernel
theorem dX2_asked_4 : decode cX2_asked 4 = .ok (.ifCond .le 15, 3) := by decide +kernel
theorem dX2_asked_7 : decode cX2_asked 7 = .ok (.aload_n 0, 1) := by decide +kernel
theorem dX2_asked_8 : decode cX2_asked 8 = .ok (.getfield 18, 3) := by decide +kernel
theorem dX2_asked_11 : decode cX2_asked 11 = .ok (.aload_n 0, 1) := by decide +kernel
theorem dX2_asked_12 : decode cX2_asked 12 = .ok (.getfield 15, 3) := by decide +kernel
theorem dX2_asked_15 : decode cX2_asked 15 = .ok (.iadd, 1) := by decide +kernel
theorem dX2_asked_16 : decode cX2_asked 16 = .ok (.goto 7, 3) := by decide +kernel
theorem dX2_asked_19 : decode cX2_asked 19 = .ok (.aload_n 0, 1) := by decide +kernel
theorem dX2_asked_20 : decode cX2_asked 20 = .ok (.getfield 9, 3) := by decide +kernel
theorem dX2_asked_23 : decode cX2_asked 23 = .ok (.ireturn, 1) := by decide +kernel
theorem dX2_takeBid_0 : decode cX2_takeBid 0 = .ok (.aload_n 0, 1) := by decide +kernel
theorem dX2_takeBid_1 : decode cX2_takeBid 1 = .ok (.iload_n 1, 1) := by decide +kernel
theorem dX2_takeBid_2 : decode cX2_takeBid 2 = .ok (.putfield 18, 3) := by decide +kernel
theorem dX2_takeBid_5 : decode cX2_takeBid 5 = .ok (.aload_n 0, 1) := by decide +kernel
theorem dX2_takeBid_6 : decode cX2_takeBid 6 = .ok (.iload_n 2, 1) := by decide +kernel
theorem dX2_takeBid_7 : decode cX2_takeBid 7 = .ok (.putfield 21, 3) := by decide +kernel
theorem dX2_takeBid_10 : decode cX2_takeBid 10 = .ok (.aload_n 0, 1) := by decide +kernel
theorem dX2_takeBid_11 : decode cX2_takeBid 11 = .ok (.iload_n 3, 1) := by decide +kernel
theorem dX2_takeBid_12 : decode cX2_takeBid 12 = .ok (.putfield 24, 3) := by decide +kernel
theorem dX2_takeBid_15 : decode cX2_takeBid 15 = .ok (.aload_n 0, 1) := by decide +kernel
theorem dX2_takeBid_16 : decode cX2_takeBid 16 = .ok (.iconst 1, 1) := by decide +kernel
theorem dX2_takeBid_17 : decode cX2_takeBid 17 = .ok (.putfield 28, 3) := by decide +kernel
theorem dX2_takeBid_20 : decode cX2_takeBid 20 = .ok (.aload_n 0, 1) := by decide +kernel
theorem dX2_takeBid_21 : decode cX2_takeBid 21 = .ok (.dup, 1) := by decide +kernel
theorem dX2_takeBid_22 : decode cX2_takeBid 22 = .ok (.getfield 31, 3) := by decide +kernel
theorem dX2_takeBid_25 : decode cX2_takeBid 25 = .ok (.iconst 1, 1) := by decide +kernel
theorem dX2_takeBid_26 : decode cX2_takeBid 26 = .ok (.iadd, 1) := by decide +kernel
theorem dX2_takeBid_27 : decode cX2_takeBid 27 = .ok (.putfield 31, 3) := by decide +kernel
theorem dX2_takeBid_30 : decode cX2_takeBid 30 = .ok (.return_, 1) := by decide +kernel
theorem dX2_tellUp_0 : decode cX2_tellUp 0 = .ok (.iload_n 1, 1) := by decide +kernel
theorem dX2_tellUp_1 : decode cX2_tellUp 1 = .ok (.tableswitch 128 0 8 #[51, 56, 61, 78, 95, 100, 105, 110, 115], 51) := by decide +kernel
theorem dX2_tellUp_52 : decode cX2_tellUp 52 = .ok (.aload_n 0, 1) := by decide +kernel
theorem dX2_tellUp_53 : decode cX2_tellUp 53 = .ok (.getfield 9, 3) := by decide +kernel
theorem dX2_tellUp_56 : decode cX2_tellUp 56 = .ok (.ireturn, 1) := by decide +kernel
theorem dX2_tellUp_57 : decode cX2_tellUp 57 = .ok (.aload_n 0, 1) := by decide +kernel
theorem dX2_tellUp_58 : decode cX2_tellUp 58 = .ok (.getfield 15, 3) := by decide +kernel
theorem dX2_tellUp_61 : decode cX2_tellUp 61 = .ok (.ireturn, 1) := by decide +kernel
theorem dX2_tellUp_62 : decode cX2_tellUp 62 = .ok (.aload_n 0, 1) := by decide +kernel
theorem dX2_tellUp_63 : decode cX2_tellUp 63 = .ok (.invokevirtual 43, 3) := by decide +kernel
theorem dX2_tellUp_66 : decode cX2_tellUp 66 = .ok (.ifCond .eq 10, 3) := by decide +kernel
theorem dX2_tellUp_69 : decode cX2_tellUp 69 = .ok (.aload_n 0, 1) := by decide +kernel
theorem dX2_tellUp_70 : decode cX2_tellUp 70 = .ok (.getfield 18, 3) := by decide +kernel
theorem dX2_tellUp_73 : decode cX2_tellUp 73 = .ok (.goto 5, 3) := by decide +kernel
theorem dX2_tellUp_76 : decode cX2_tellUp 76 = .ok (.ldc 47, 2) := by decide +kernel
theorem dX2_tellUp_78 : decode cX2_tellUp 78 = .ok (.ireturn, 1) := by decide +kernel
theorem dX2_tellUp_79 : decode cX2_tellUp 79 = .ok (.aload_n 0, 1) := by decide +kernel
theorem dX2_tellUp_80 : decode cX2_tellUp 80 = .ok (.invokevirtual 43, 3) := by decide +kernel
theorem dX2_tellUp_83 : decode cX2_tellUp 83 = .ok (.ifCond .eq 10, 3) := by decide +kernel
theorem dX2_tellUp_86 : decode cX2_tellUp 86 = .ok (.aload_n 0, 1) := by decide +kernel
theorem dX2_tellUp_87 : decode cX2_tellUp 87 = .ok (.getfield 21, 3) := by decide +kernel
theorem dX2_tellUp_90 : decode cX2_tellUp 90 = .ok (.goto 5, 3) := by decide +kernel
theorem dX2_tellUp_93 : decode cX2_tellUp 93 = .ok (.ldc 47, 2) := by decide +kernel
theorem dX2_tellUp_95 : decode cX2_tellUp 95 = .ok (.ireturn, 1) := by decide +kernel
theorem dX2_tellUp_96 : decode cX2_tellUp 96 = .ok (.aload_n 0, 1) := by decide +kernel
theorem dX2_tellUp_97 : decode cX2_tellUp 97 = .ok (.getfield 34, 3) := by decide +kernel
theorem dX2_tellUp_100 : decode cX2_tellUp 100 = .ok (.ireturn, 1) := by decide +kernel
theorem dX2_tellUp_101 : decode cX2_tellUp 101 = .ok (.aload_n 0, 1) := by decide +kernel
theorem dX2_tellUp_102 : decode cX2_tellUp 102 = .ok (.getfield 37, 3) := by decide +kernel
theorem dX2_tellUp_105 : decode cX2_tellUp 105 = .ok (.ireturn, 1) := by decide +kernel
theorem dX2_tellUp_106 : decode cX2_tellUp 106 = .ok (.aload_n 0, 1) := by decide +kernel
theorem dX2_tellUp_107 : decode cX2_tellUp 107 = .ok (.invokevirtual 48, 3) := by decide +kernel
theorem dX2_tellUp_110 : decode cX2_tellUp 110 = .ok (.ireturn, 1) := by decide +kernel
theorem dX2_tellUp_111 : decode cX2_tellUp 111 = .ok (.aload_n 0, 1) := by decide +kernel
theorem dX2_tellUp_112 : decode cX2_tellUp 112 = .ok (.getfield 31, 3) := by decide +kernel
theorem dX2_tellUp_115 : decode cX2_tellUp 115 = .ok (.ireturn, 1) := by decide +kernel
theorem dX2_tellUp_116 : decode cX2_tellUp 116 = .ok (.aload_n 0, 1) := by decide +kernel
theorem dX2_tellUp_117 : decode cX2_tellUp 117 = .ok (.getfield 24, 3) := by decide +kernel
theorem dX2_tellUp_120 : decode cX2_tellUp 120 = .ok (.ifCond .eq 7, 3) := by decide +kernel
theorem dX2_tellUp_123 : decode cX2_tellUp 123 = .ok (.iconst 1, 1) := by decide +kernel
theorem dX2_tellUp_124 : decode cX2_tellUp 124 = .ok (.goto 4, 3) := by decide +kernel
theorem dX2_tellUp_127 : decode cX2_tellUp 127 = .ok (.iconst 0, 1) := by decide +kernel
theorem dX2_tellUp_128 : decode cX2_tellUp 128 = .ok (.ireturn, 1) := by decide +kernel
theorem dX2_tellUp_129 : decode cX2_tellUp 129 = .ok (.ldc 52, 2) := by decide +kernel
theorem dX2_tellUp_131 : decode cX2_tellUp 131 = .ok (.ireturn, 1) := by decide +kernel
theorem dX2_tellGone_0 : decode cX2_tellGone 0 = .ok (.iload_n 1, 1) := by decide +kernel
theorem dX2_tellGone_1 : decode cX2_tellGone 1 = .ok (.tableswitch 72 0 4 #[35, 40, 45, 62, 67], 35) := by decide +kernel
theorem dX2_tellGone_36 : decode cX2_tellGone 36 = .ok (.aload_n 0, 1) := by decide +kernel
theorem dX2_tellGone_37 : decode cX2_tellGone 37 = .ok (.getfield 40, 3) := by decide +kernel
theorem dX2_tellGone_40 : decode cX2_tellGone 40 = .ok (.ireturn, 1) := by decide +kernel
theorem dX2_tellGone_41 : decode cX2_tellGone 41 = .ok (.aload_n 0, 1) := by decide +kernel
theorem dX2_tellGone_42 : decode cX2_tellGone 42 = .ok (.getfield 18, 3) := by decide +kernel
theorem dX2_tellGone_45 : decode cX2_tellGone 45 = .ok (.ireturn, 1) := by decide +kernel
theorem dX2_tellGone_46 : decode cX2_tellGone 46 = .ok (.aload_n 0, 1) := by decide +kernel
theorem dX2_tellGone_47 : decode cX2_tellGone 47 = .ok (.invokevirtual 43, 3) := by decide +kernel
theorem dX2_tellGone_50 : decode cX2_tellGone 50 = .ok (.ifCond .eq 10, 3) := by decide +kernel
theorem dX2_tellGone_53 : decode cX2_tellGone 53 = .ok (.aload_n 0, 1) := by decide +kernel
theorem dX2_tellGone_54 : decode cX2_tellGone 54 = .ok (.getfield 21, 3) := by decide +kernel
theorem dX2_tellGone_57 : decode cX2_tellGone 57 = .ok (.goto 5, 3) := by decide +kernel
theorem dX2_tellGone_60 : decode cX2_tellGone 60 = .ok (.ldc 47, 2) := by decide +kernel
theorem dX2_tellGone_62 : decode cX2_tellGone 62 = .ok (.ireturn, 1) := by decide +kernel
theorem dX2_tellGone_63 : decode cX2_tellGone 63 = .ok (.aload_n 0, 1) := by decide +kernel
theorem dX2_tellGone_64 : decode cX2_tellGone 64 = .ok (.getfield 34, 3) := by decide +kernel
theorem dX2_tellGone_67 : decode cX2_tellGone 67 = .ok (.ireturn, 1) := by decide +kernel
theorem dX2_tellGone_68 : decode cX2_tellGone 68 = .ok (.aload_n 0, 1) := by decide +kernel
theorem dX2_tellGone_69 : decode cX2_tellGone 69 = .ok (.getfield 31, 3) := by decide +kernel
theorem dX2_tellGone_72 : decode cX2_tellGone 72 = .ok (.ireturn, 1) := by decide +kernel
theorem dX2_tellGone_73 : decode cX2_tellGone 73 = .ok (.ldc 52, 2) := by decide +kernel
theorem dX2_tellGone_75 : decode cX2_tellGone 75 = .ok (.ireturn, 1) := by decide +kernel
theorem dX3_init_0 : decode cX3_init 0 = .ok (.aload_n 0, 1) := by decide +kernel
theorem dX3_init_1 : decode cX3_init 1 = .ok (.invokespecial 3, 3) := by decide +kernel
theorem dX3_init_4 : decode cX3_init 4 = .ok (.aload_n 0, 1) := by decide +kernel
theorem dX3_init_5 : decode cX3_init 5 = .ok (.bipush 60, 2) := by decide +kernel
theorem dX3_init_7 : decode cX3_init 7 = .ok (.newarray .char, 2) := by decide +kernel
theorem dX3_init_9 : decode cX3_init 9 = .ok (.putfield 11, 3) := by decide +kernel
theorem dX3_init_12 : decode cX3_init 12 = .ok (.aload_n 0, 1) := by decide +kernel
theorem dX3_init_13 : decode cX3_init 13 = .ok (.iconst 4, 1) := by decide +kernel
theorem dX3_init_14 : decode cX3_init 14 = .ok (.newarray .int, 2) := by decide +kernel
theorem dX3_init_16 : decode cX3_init 16 = .ok (.putfield 15, 3) := by decide +kernel
theorem dX3_init_19 : decode cX3_init 19 = .ok (.aload_n 0, 1) := by decide +kernel
theorem dX3_init_20 : decode cX3_init 20 = .ok (.iconst (-1), 1) := by decide +kernel
theorem dX3_init_21 : decode cX3_init 21 = .ok (.putfield 19, 3) := by decide +kernel
theorem dX3_init_24 : decode cX3_init 24 = .ok (.return_, 1) := by decide +kernel
theorem dX3_append_0 : decode cX3_append 0 = .ok (.iload_n 1, 1) := by decide +kernel
theorem dX3_append_1 : decode cX3_append 1 = .ok (.bipush 32, 2) := by decide +kernel
theorem dX3_append_3 : decode cX3_append 3 = .ok (.bipush 126, 2) := by decide +kernel
theorem dX3_append_5 : decode cX3_append 5 = .ok (.invokestatic 23, 3) := by decide +kernel
theorem dX3_append_8 : decode cX3_append 8 = .ok (.ifCond .ne 6, 3) := by decide +kernel
theorem dX3_append_11 : decode cX3_append 11 = .ok (.ldc 27, 2) := by decide +kernel
theorem dX3_append_13 : decode cX3_append 13 = .ok (.ireturn, 1) := by decide +kernel
theorem dX3_append_14 : decode cX3_append 14 = .ok (.aload_n 0, 1) := by decide +kernel
theorem dX3_append_15 : decode cX3_append 15 = .ok (.getfield 28, 3) := by decide +kernel
theorem dX3_append_18 : decode cX3_append 18 = .ok (.aload_n 0, 1) := by decide +kernel
theorem dX3_append_19 : decode cX3_append 19 = .ok (.getfield 11, 3) := by decide +kernel
theorem dX3_append_22 : decode cX3_append 22 = .ok (.arraylength, 1) := by decide +kernel
theorem dX3_append_23 : decode cX3_append 23 = .ok (.if_icmp .lt 6, 3) := by decide +kernel
theorem dX3_append_26 : decode cX3_append 26 = .ok (.ldc 31, 2) := by decide +kernel
theorem dX3_append_28 : decode cX3_append 28 = .ok (.ireturn, 1) := by decide +kernel
theorem dX3_append_29 : decode cX3_append 29 = .ok (.aload_n 0, 1) := by decide +kernel
theorem dX3_append_30 : decode cX3_append 30 = .ok (.getfield 11, 3) := by decide +kernel
theorem dX3_append_33 : decode cX3_append 33 = .ok (.aload_n 0, 1) := by decide +kernel
theorem dX3_append_34 : decode cX3_append 34 = .ok (.getfield 28, 3) := by decide +kernel
theorem dX3_append_37 : decode cX3_append 37 = .ok (.iload_n 1, 1) := by decide +kernel
theorem dX3_append_38 : decode cX3_append 38 = .ok (.i2c, 1) := by decide +kernel
theorem dX3_append_39 : decode cX3_append 39 = .ok (.castore, 1) := by decide +kernel
theorem dX3_append_40 : decode cX3_append 40 = .ok (.aload_n 0, 1) := by decide +kernel
theorem dX3_append_41 : decode cX3_append 41 = .ok (.dup, 1) := by decide +kernel
theorem dX3_append_42 : decode cX3_append 42 = .ok (.getfield 28, 3) := by decide +kernel
theorem dX3_append_45 : decode cX3_append 45 = .ok (.iconst 1, 1) := by decide +kernel
theorem dX3_append_46 : decode cX3_append 46 = .ok (.iadd, 1) := by decide +kernel
theorem dX3_append_47 : decode cX3_append 47 = .ok (.putfield 28, 3) := by decide +kernel
theorem dX3_append_50 : decode cX3_append 50 = .ok (.aload_n 0, 1) := by decide +kernel
theorem dX3_append_51 : decode cX3_append 51 = .ok (.getfield 28, 3) := by decide +kernel
theorem dX3_append_54 : decode cX3_append 54 = .ok (.ireturn, 1) := by decide +kernel
theorem dX3_hasFault_0 : decode cX3_hasFault 0 = .ok (.aload_n 0, 1) := by decide +kernel
theorem dX3_hasFault_1 : decode cX3_hasFault 1 = .ok (.getfield 19, 3) := by decide +kernel
theorem dX3_hasFault_4 : decode cX3_hasFault 4 = .ok (.iconst (-1), 1) := by decide +kernel
theorem dX3_hasFault_5 : decode cX3_hasFault 5 = .ok (.if_icmp .eq 7, 3) := by decide +kernel
theorem dX3_hasFault_8 : decode cX3_hasFault 8 = .ok (.iconst 1, 1) := by decide +kernel
theorem dX3_hasFault_9 : decode cX3_hasFault 9 = .ok (.goto 4, 3) := by decide +kernel
theorem dX3_hasFault_12 : decode cX3_hasFault 12 = .ok (.iconst 0, 1) := by decide +kernel
theorem dX3_hasFault_13 : decode cX3_hasFault 13 = .ok (.ireturn, 1) := by decide +kernel
theorem dX3_performOn_0 : decode cX3_performOn 0 = .ok (.aload_n 0, 1) := by decide +kernel
theorem dX3_performOn_1 : decode cX3_performOn 1 = .ok (.iconst 0, 1) := by decide +kernel
theorem dX3_performOn_2 : decode cX3_performOn 2 = .ok (.putfield 32, 3) := by decide +kernel
theorem dX3_performOn_5 : decode cX3_performOn 5 = .ok (.aload_n 0, 1) := by decide +kernel
theorem dX3_performOn_6 : decode cX3_performOn 6 = .ok (.iconst 0, 1) := by decide +kernel
theorem dX3_performOn_7 : decode cX3_performOn 7 = .ok (.putfield 35, 3) := by decide +kernel
theorem dX3_performOn_10 : decode cX3_performOn 10 = .ok (.aload_n 0, 1) := by decide +kernel
theorem dX3_performOn_11 : decode cX3_performOn 11 = .ok (.iconst (-1), 1) := by decide +kernel
theorem dX3_performOn_12 : decode cX3_performOn 12 = .ok (.putfield 19, 3) := by decide +kernel
theorem dX3_performOn_15 : decode cX3_performOn 15 = .ok (.iconst 0, 1) := by decide +kernel
theorem dX3_performOn_16 : decode cX3_performOn 16 = .ok (.istore_n 2, 1) := by decide +kernel
theorem dX3_performOn_17 : decode cX3_performOn 17 = .ok (.iload_n 2, 1) := by decide +kernel
theorem dX3_performOn_18 : decode cX3_performOn 18 = .ok (.bipush 60, 2) := by decide +kernel
theorem dX3_performOn_20 : decode cX3_performOn 20 = .ok (.if_icmp .ge 90, 3) := by decide +kernel
theorem dX3_performOn_23 : decode cX3_performOn 23 = .ok (.aload_n 0, 1) := by decide +kernel
theorem dX3_performOn_24 : decode cX3_performOn 24 = .ok (.getfield 32, 3) := by decide +kernel
theorem dX3_performOn_27 : decode cX3_performOn 27 = .ok (.aload_n 0, 1) := by decide +kernel
theorem dX3_performOn_28 : decode cX3_performOn 28 = .ok (.getfield 28, 3) := by decide +kernel
theorem dX3_performOn_31 : decode cX3_performOn 31 = .ok (.if_icmp .ge 79, 3) := by decide +kernel
theorem dX3_performOn_34 : decode cX3_performOn 34 = .ok (.aload_n 0, 1) := by decide +kernel
theorem dX3_performOn_35 : decode cX3_performOn 35 = .ok (.invokevirtual 38, 3) := by decide +kernel
theorem dX3_performOn_38 : decode cX3_performOn 38 = .ok (.ifCond .ne 72, 3) := by decide +kernel
theorem dX3_performOn_41 : decode cX3_performOn 41 = .ok (.aload_n 0, 1) := by decide +kernel
theorem dX3_performOn_42 : decode cX3_performOn 42 = .ok (.getfield 32, 3) := by decide +kernel
theorem dX3_performOn_45 : decode cX3_performOn 45 = .ok (.istore_n 3, 1) := by decide +kernel
theorem dX3_performOn_46 : decode cX3_performOn 46 = .ok (.aload_n 0, 1) := by decide +kernel
theorem dX3_performOn_47 : decode cX3_performOn 47 = .ok (.invokevirtual 42, 3) := by decide +kernel
theorem dX3_performOn_50 : decode cX3_performOn 50 = .ok (.ifCond .ne 16, 3) := by decide +kernel
theorem dX3_performOn_53 : decode cX3_performOn 53 = .ok (.aload_n 0, 1) := by decide +kernel
theorem dX3_performOn_54 : decode cX3_performOn 54 = .ok (.iload_n 3, 1) := by decide +kernel
theorem dX3_performOn_55 : decode cX3_performOn 55 = .ok (.iconst 1, 1) := by decide +kernel
theorem dX3_performOn_56 : decode cX3_performOn 56 = .ok (.aload_n 0, 1) := by decide +kernel
theorem dX3_performOn_57 : decode cX3_performOn 57 = .ok (.getfield 32, 3) := by decide +kernel
theorem dX3_performOn_60 : decode cX3_performOn 60 = .ok (.iload_n 3, 1) := by decide +kernel
theorem dX3_performOn_61 : decode cX3_performOn 61 = .ok (.isub, 1) := by decide +kernel
theorem dX3_performOn_62 : decode cX3_performOn 62 = .ok (.invokevirtual 45, 3) := by decide +kernel
theorem dX3_performOn_65 : decode cX3_performOn 65 = .ok (.return_, 1) := by decide +kernel
theorem dX3_performOn_66 : decode cX3_performOn 66 = .ok (.aload_n 1, 1) := by decide +kernel
theorem dX3_performOn_67 : decode cX3_performOn 67 = .ok (.aload_n 0, 1) := by decide +kernel
theorem dX3_performOn_68 : decode cX3_performOn 68 = .ok (.getfield 49, 3) := by decide +kernel
theorem dX3_performOn_71 : decode cX3_performOn 71 = .ok (.aload_n 0, 1) := by decide +kernel
theorem dX3_performOn_72 : decode cX3_performOn 72 = .ok (.getfield 15, 3) := by decide +kernel
theorem dX3_performOn_75 : decode cX3_performOn 75 = .ok (.invokevirtual 53, 3) := by decide +kernel
theorem dX3_performOn_78 : decode cX3_performOn 78 = .ok (.istore 4, 2) := by decide +kernel
theorem dX3_performOn_80 : decode cX3_performOn 80 = .ok (.iload 4, 2) := by decide +kernel
theorem dX3_performOn_82 : decode cX3_performOn 82 = .ok (.ifCond .ge 12, 3) := by decide +kernel
theorem dX3_performOn_85 : decode cX3_performOn 85 = .ok (.aload_n 0, 1) := by decide +kernel
theorem dX3_performOn_86 : decode cX3_performOn 86 = .ok (.iload_n 3, 1) := by decide +kernel
theorem dX3_performOn_87 : decode cX3_performOn 87 = .ok (.iconst 2, 1) := by decide +kernel
theorem dX3_performOn_88 : decode cX3_performOn 88 = .ok (.iload 4, 2) := by decide +kernel
theorem dX3_performOn_90 : decode cX3_performOn 90 = .ok (.invokevirtual 45, 3) := by decide +kernel
theorem dX3_performOn_93 : decode cX3_performOn 93 = .ok (.return_, 1) := by decide +kernel
theorem dX3_performOn_94 : decode cX3_performOn 94 = .ok (.aload_n 0, 1) := by decide +kernel
theorem dX3_performOn_95 : decode cX3_performOn 95 = .ok (.dup, 1) := by decide +kernel
theorem dX3_performOn_96 : decode cX3_performOn 96 = .ok (.getfield 35, 3) := by decide +kernel
theorem dX3_performOn_99 : decode cX3_performOn 99 = .ok (.iconst 1, 1) := by decide +kernel
theorem dX3_performOn_100 : decode cX3_performOn 100 = .ok (.iadd, 1) := by decide +kernel
theorem dX3_performOn_101 : decode cX3_performOn 101 = .ok (.putfield 35, 3) := by decide +kernel
theorem dX3_performOn_104 : decode cX3_performOn 104 = .ok (.iinc 2 1, 3) := by decide +kernel
theorem dX3_performOn_107 : decode cX3_performOn 107 = .ok (.goto (-90), 3) := by decide +kernel
theorem dX3_performOn_110 : decode cX3_performOn 110 = .ok (.return_, 1) := by decide +kernel
theorem dX3_noteFault_0 : decode cX3_noteFault 0 = .ok (.aload_n 0, 1) := by decide +kernel
theorem dX3_noteFault_1 : decode cX3_noteFault 1 = .ok (.iload_n 1, 1) := by decide +kernel
theorem dX3_noteFault_2 : decode cX3_noteFault 2 = .ok (.putfield 19, 3) := by decide +kernel
theorem dX3_noteFault_5 : decode cX3_noteFault 5 = .ok (.aload_n 0, 1) := by decide +kernel
theorem dX3_noteFault_6 : decode cX3_noteFault 6 = .ok (.iload_n 2, 1) := by decide +kernel
theorem dX3_noteFault_7 : decode cX3_noteFault 7 = .ok (.putfield 59, 3) := by decide +kernel
theorem dX3_noteFault_10 : decode cX3_noteFault 10 = .ok (.aload_n 0, 1) := by decide +kernel
theorem dX3_noteFault_11 : decode cX3_noteFault 11 = .ok (.iload_n 3, 1) := by decide +kernel
theorem dX3_noteFault_12 : decode cX3_noteFault 12 = .ok (.putfield 62, 3) := by decide +kernel
theorem dX3_noteFault_15 : decode cX3_noteFault 15 = .ok (.return_, 1) := by decide +kernel
theorem dX3_numbersOf_0 : decode cX3_numbersOf 0 = .ok (.iload_n 0, 1) := by decide +kernel
theorem dX3_numbersOf_1 : decode cX3_numbersOf 1 = .ok (.tableswitch 103 98 117 #[99, 99, 103, 103, 103, 103, 103, 103, 103, 103, 97, 97, 101, 103, 95, 103, 103, 103, 103, 101], 95) := by decide +kernel
theorem dX3_numbersOf_96 : decode cX3_numbersOf 96 = .ok (.iconst 4, 1) := by decide +kernel
theorem dX3_numbersOf_97 : decode cX3_numbersOf 97 = .ok (.ireturn, 1) := by decide +kernel
theorem dX3_numbersOf_98 : decode cX3_numbersOf 98 = .ok (.iconst 2, 1) := by decide +kernel
theorem dX3_numbersOf_99 : decode cX3_numbersOf 99 = .ok (.ireturn, 1) := by decide +kernel
theorem dX3_numbersOf_100 : decode cX3_numbersOf 100 = .ok (.iconst 1, 1) := by decide +kernel
theorem dX3_numbersOf_101 : decode cX3_numbersOf 101 = .ok (.ireturn, 1) := by decide +kernel
theorem dX3_numbersOf_102 : decode cX3_numbersOf 102 = .ok (.iconst 0, 1) := by decide +kernel
theorem dX3_numbersOf_103 : decode cX3_numbersOf 103 = .ok (.ireturn, 1) := by decide +kernel
theorem dX3_numbersOf_104 : decode cX3_numbersOf 104 = .ok (.iconst (-1), 1) := by decide +kernel
theorem dX3_numbersOf_105 : decode cX3_numbersOf 105 = .ok (.ireturn, 1) := by decide +kernel
theorem dX3_readOrder_0 : decode cX3_readOrder 0 = .ok (.aload_n 0, 1) := by decide +kernel
theorem dX3_readOrder_1 : decode cX3_readOrder 1 = .ok (.aload_n 0, 1) := by decide +kernel
theorem dX3_readOrder_2 : decode cX3_readOrder 2 = .ok (.invokevirtual 65, 3) := by decide +kernel
theorem dX3_readOrder_5 : decode cX3_readOrder 5 = .ok (.putfield 49, 3) := by decide +kernel
theorem dX3_readOrder_8 : decode cX3_readOrder 8 = .ok (.aload_n 0, 1) := by decide +kernel
theorem dX3_readOrder_9 : decode cX3_readOrder 9 = .ok (.getfield 49, 3) := by decide +kernel
theorem dX3_readOrder_12 : decode cX3_readOrder 12 = .ok (.invokestatic 69, 3) := by decide +kernel
theorem dX3_readOrder_15 : decode cX3_readOrder 15 = .ok (.istore_n 1, 1) := by decide +kernel
theorem dX3_readOrder_16 : decode cX3_readOrder 16 = .ok (.iload_n 1, 1) := by decide +kernel
theorem dX3_readOrder_17 : decode cX3_readOrder 17 = .ok (.iconst (-1), 1) := by decide +kernel
theorem dX3_readOrder_18 : decode cX3_readOrder 18 = .ok (.if_icmp .ne 5, 3) := by decide +kernel
theorem dX3_readOrder_21 : decode cX3_readOrder 21 = .ok (.iconst 0, 1) := by decide +kernel
theorem dX3_readOrder_22 : decode cX3_readOrder 22 = .ok (.ireturn, 1) := by decide +kernel
theorem dX3_readOrder_23 : decode cX3_readOrder 23 = .ok (.aload_n 0, 1) := by decide +kernel
theorem dX3_readOrder_24 : decode cX3_readOrder 24 = .ok (.dup, 1) := by decide +kernel
theorem dX3_readOrder_25 : decode cX3_readOrder 25 = .ok (.getfield 32, 3) := by decide +kernel
theorem dX3_readOrder_28 : decode cX3_readOrder 28 = .ok (.iconst 1, 1) := by decide +kernel
theorem dX3_readOrder_29 : decode cX3_readOrder 29 = .ok (.iadd, 1) := by decide +kernel
theorem dX3_readOrder_30 : decode cX3_readOrder 30 = .ok (.putfield 32, 3) := by decide +kernel
theorem dX3_readOrder_33 : decode cX3_readOrder 33 = .ok (.iconst 0, 1) := by decide +kernel
theorem dX3_readOrder_34 : decode cX3_readOrder 34 = .ok (.istore_n 2, 1) := by decide +kernel
theorem dX3_readOrder_35 : decode cX3_readOrder 35 = .ok (.iload_n 2, 1) := by decide +kernel
theorem dX3_readOrder_36 : decode cX3_readOrder 36 = .ok (.iload_n 1, 1) := by decide +kernel
theorem dX3_readOrder_37 : decode cX3_readOrder 37 = .ok (.if_icmp .ge 43, 3) := by decide +kernel
theorem dX3_readOrder_40 : decode cX3_readOrder 40 = .ok (.iload_n 2, 1) := by decide +kernel
theorem dX3_readOrder_41 : decode cX3_readOrder 41 = .ok (.aload_n 0, 1) := by decide +kernel
theorem dX3_readOrder_42 : decode cX3_readOrder 42 = .ok (.getfield 15, 3) := by decide +kernel
theorem dX3_readOrder_45 : decode cX3_readOrder 45 = .ok (.arraylength, 1) := by decide +kernel
theorem dX3_readOrder_46 : decode cX3_readOrder 46 = .ok (.if_icmp .ge 34, 3) := by decide +kernel
theorem dX3_readOrder_49 : decode cX3_readOrder 49 = .ok (.iload_n 2, 1) := by decide +kernel
theorem dX3_readOrder_50 : decode cX3_readOrder 50 = .ok (.ifCond .le 14, 3) := by decide +kernel
theorem dX3_readOrder_53 : decode cX3_readOrder 53 = .ok (.aload_n 0, 1) := by decide +kernel
theorem dX3_readOrder_54 : decode cX3_readOrder 54 = .ok (.bipush 44, 2) := by decide +kernel
theorem dX3_readOrder_56 : decode cX3_readOrder 56 = .ok (.invokevirtual 73, 3) := by decide +kernel
theorem dX3_readOrder_59 : decode cX3_readOrder 59 = .ok (.ifCond .ne 5, 3) := by decide +kernel
theorem dX3_readOrder_62 : decode cX3_readOrder 62 = .ok (.iconst 0, 1) := by decide +kernel
theorem dX3_readOrder_63 : decode cX3_readOrder 63 = .ok (.ireturn, 1) := by decide +kernel
theorem dX3_readOrder_64 : decode cX3_readOrder 64 = .ok (.aload_n 0, 1) := by decide +kernel
theorem dX3_readOrder_65 : decode cX3_readOrder 65 = .ok (.iload_n 2, 1) := by decide +kernel
theorem dX3_readOrder_66 : decode cX3_readOrder 66 = .ok (.invokevirtual 77, 3) := by decide +kernel
theorem dX3_readOrder_69 : decode cX3_readOrder 69 = .ok (.ifCond .ne 5, 3) := by decide +kernel
theorem dX3_readOrder_72 : decode cX3_readOrder 72 = .ok (.iconst 0, 1) := by decide +kernel
theorem dX3_readOrder_73 : decode cX3_readOrder 73 = .ok (.ireturn, 1) := by decide +kernel
theorem dX3_readOrder_74 : decode cX3_readOrder 74 = .ok (.iinc 2 1, 3) := by decide +kernel
theorem dX3_readOrder_77 : decode cX3_readOrder 77 = .ok (.goto (-42), 3) := by decide +kernel
theorem dX3_readOrder_80 : decode cX3_readOrder 80 = .ok (.aload_n 0, 1) := by decide +kernel
theorem dX3_readOrder_81 : decode cX3_readOrder 81 = .ok (.bipush 59, 2) := by decide +kernel
theorem dX3_readOrder_83 : decode cX3_readOrder 83 = .ok (.invokevirtual 73, 3) := by decide +kernel
theorem dX3_readOrder_86 : decode cX3_readOrder 86 = .ok (.ireturn, 1) := by decide +kernel
theorem dX3_next_0 : decode cX3_next 0 = .ok (.aload_n 0, 1) := by decide +kernel
theorem dX3_next_1 : decode cX3_next 1 = .ok (.getfield 32, 3) := by decide +kernel
theorem dX3_next_4 : decode cX3_next 4 = .ok (.ifCond .lt 26, 3) := by decide +kernel
theorem dX3_next_7 : decode cX3_next 7 = .ok (.aload_n 0, 1) := by decide +kernel
theorem dX3_next_8 : decode cX3_next 8 = .ok (.getfield 32, 3) := by decide +kernel
theorem dX3_next_11 : decode cX3_next 11 = .ok (.aload_n 0, 1) := by decide +kernel
theorem dX3_next_12 : decode cX3_next 12 = .ok (.getfield 28, 3) := by decide +kernel
theorem dX3_next_15 : decode cX3_next 15 = .ok (.if_icmp .ge 15, 3) := by decide +kernel
theorem dX3_next_18 : decode cX3_next 18 = .ok (.aload_n 0, 1) := by decide +kernel
theorem dX3_next_19 : decode cX3_next 19 = .ok (.getfield 11, 3) := by decide +kernel
theorem dX3_next_22 : decode cX3_next 22 = .ok (.aload_n 0, 1) := by decide +kernel
theorem dX3_next_23 : decode cX3_next 23 = .ok (.getfield 32, 3) := by decide +kernel
theorem dX3_next_26 : decode cX3_next 26 = .ok (.caload, 1) := by decide +kernel
theorem dX3_next_27 : decode cX3_next 27 = .ok (.goto 4, 3) := by decide +kernel
theorem dX3_next_30 : decode cX3_next 30 = .ok (.iconst 0, 1) := by decide +kernel
theorem dX3_next_31 : decode cX3_next 31 = .ok (.ireturn, 1) := by decide +kernel
theorem dX3_readCharacter_0 : decode cX3_readCharacter 0 = .ok (.aload_n 0, 1) := by decide +kernel
theorem dX3_readCharacter_1 : decode cX3_readCharacter 1 = .ok (.invokevirtual 65, 3) := by decide +kernel
theorem dX3_readCharacter_4 : decode cX3_readCharacter 4 = .ok (.iload_n 1, 1) := by decide +kernel
theorem dX3_readCharacter_5 : decode cX3_readCharacter 5 = .ok (.if_icmp .eq 5, 3) := by decide +kernel
theorem dX3_readCharacter_8 : decode cX3_readCharacter 8 = .ok (.iconst 0, 1) := by decide +kernel
theorem dX3_readCharacter_9 : decode cX3_readCharacter 9 = .ok (.ireturn, 1) := by decide +kernel
theorem dX3_readCharacter_10 : decode cX3_readCharacter 10 = .ok (.aload_n 0, 1) := by decide +kernel
theorem dX3_readCharacter_11 : decode cX3_readCharacter 11 = .ok (.dup, 1) := by decide +kernel
theorem dX3_readCharacter_12 : decode cX3_readCharacter 12 = .ok (.getfield 32, 3) := by decide +kernel
theorem dX3_readCharacter_15 : decode cX3_readCharacter 15 = .ok (.iconst 1, 1) := by decide +kernel
theorem dX3_readCharacter_16 : decode cX3_readCharacter 16 = .ok (.iadd, 1) := by decide +kernel
theorem dX3_readCharacter_17 : decode cX3_readCharacter 17 = .ok (.putfield 32, 3) := by decide +kernel
theorem dX3_readCharacter_20 : decode cX3_readCharacter 20 = .ok (.iconst 1, 1) := by decide +kernel
theorem dX3_readCharacter_21 : decode cX3_readCharacter 21 = .ok (.ireturn, 1) := by decide +kernel
theorem dX3_readNumber_0 : decode cX3_readNumber 0 = .ok (.iconst 0, 1) := by decide +kernel
theorem dX3_readNumber_1 : decode cX3_readNumber 1 = .ok (.istore_n 2, 1) := by decide +kernel
theorem dX3_readNumber_2 : decode cX3_readNumber 2 = .ok (.iconst 0, 1) := by decide +kernel
theorem dX3_readNumber_3 : decode cX3_readNumber 3 = .ok (.istore_n 3, 1) := by decide +kernel
theorem dX3_readNumber_4 : decode cX3_readNumber 4 = .ok (.iload_n 3, 1) := by decide +kernel
theorem dX3_readNumber_5 : decode cX3_readNumber 5 = .ok (.iconst 3, 1) := by decide +kernel
theorem dX3_readNumber_6 : decode cX3_readNumber 6 = .ok (.if_icmp .ge 46, 3) := by decide +kernel
theorem dX3_readNumber_9 : decode cX3_readNumber 9 = .ok (.aload_n 0, 1) := by decide +kernel
theorem dX3_readNumber_10 : decode cX3_readNumber 10 = .ok (.invokevirtual 65, 3) := by decide +kernel
theorem dX3_readNumber_13 : decode cX3_readNumber 13 = .ok (.bipush 48, 2) := by decide +kernel
theorem dX3_readNumber_15 : decode cX3_readNumber 15 = .ok (.bipush 57, 2) := by decide +kernel
theorem dX3_readNumber_17 : decode cX3_readNumber 17 = .ok (.invokestatic 23, 3) := by decide +kernel
theorem dX3_readNumber_20 : decode cX3_readNumber 20 = .ok (.ifCond .eq 32, 3) := by decide +kernel
theorem dX3_readNumber_23 : decode cX3_readNumber 23 = .ok (.iload_n 2, 1) := by decide +kernel
theorem dX3_readNumber_24 : decode cX3_readNumber 24 = .ok (.bipush 10, 2) := by decide +kernel
theorem dX3_readNumber_26 : decode cX3_readNumber 26 = .ok (.imul, 1) := by decide +kernel
theorem dX3_readNumber_27 : decode cX3_readNumber 27 = .ok (.aload_n 0, 1) := by decide +kernel
theorem dX3_readNumber_28 : decode cX3_readNumber 28 = .ok (.invokevirtual 65, 3) := by decide +kernel
theorem dX3_readNumber_31 : decode cX3_readNumber 31 = .ok (.bipush 48, 2) := by decide +kernel
theorem dX3_readNumber_33 : decode cX3_readNumber 33 = .ok (.isub, 1) := by decide +kernel
theorem dX3_readNumber_34 : decode cX3_readNumber 34 = .ok (.iadd, 1) := by decide +kernel
theorem dX3_readNumber_35 : decode cX3_readNumber 35 = .ok (.istore_n 2, 1) := by decide +kernel
theorem dX3_readNumber_36 : decode cX3_readNumber 36 = .ok (.aload_n 0, 1) := by decide +kernel
theorem dX3_readNumber_37 : decode cX3_readNumber 37 = .ok (.dup, 1) := by decide +kernel
theorem dX3_readNumber_38 : decode cX3_readNumber 38 = .ok (.getfield 32, 3) := by decide +kernel
theorem dX3_readNumber_41 : decode cX3_readNumber 41 = .ok (.iconst 1, 1) := by decide +kernel
theorem dX3_readNumber_42 : decode cX3_readNumber 42 = .ok (.iadd, 1) := by decide +kernel
theorem dX3_readNumber_43 : decode cX3_readNumber 43 = .ok (.putfield 32, 3) := by decide +kernel
theorem dX3_readNumber_46 : decode cX3_readNumber 46 = .ok (.iinc 3 1, 3) := by decide +kernel
theorem dX3_readNumber_49 : decode cX3_readNumber 49 = .ok (.goto (-45), 3) := by decide +kernel
theorem dX3_readNumber_52 : decode cX3_readNumber 52 = .ok (.aload_n 0, 1) := by decide +kernel
theorem dX3_readNumber_53 : decode cX3_readNumber 53 = .ok (.getfield 15, 3) := by decide +kernel
theorem dX3_readNumber_56 : decode cX3_readNumber 56 = .ok (.iload_n 1, 1) := by decide +kernel
theorem dX3_readNumber_57 : decode cX3_readNumber 57 = .ok (.iload_n 2, 1) := by decide +kernel
theorem dX3_readNumber_58 : decode cX3_readNumber 58 = .ok (.iastore, 1) := by decide +kernel
theorem dX3_readNumber_59 : decode cX3_readNumber 59 = .ok (.iload_n 3, 1) := by decide +kernel
theorem dX3_readNumber_60 : decode cX3_readNumber 60 = .ok (.ifCond .le 7, 3) := by decide +kernel
theorem dX3_readNumber_63 : decode cX3_readNumber 63 = .ok (.iconst 1, 1) := by decide +kernel
theorem dX3_readNumber_64 : decode cX3_readNumber 64 = .ok (.goto 4, 3) := by decide +kernel
theorem dX3_readNumber_67 : decode cX3_readNumber 67 = .ok (.iconst 0, 1) := by decide +kernel
theorem dX3_readNumber_68 : decode cX3_readNumber 68 = .ok (.ireturn, 1) := by decide +kernel
theorem dX4_init_0 : decode cX4_init 0 = .ok (.aload_n 0, 1) := by decide +kernel
theorem dX4_init_1 : decode cX4_init 1 = .ok (.invokespecial 1, 3) := by decide +kernel
theorem dX4_init_4 : decode cX4_init 4 = .ok (.aload_n 0, 1) := by decide +kernel
theorem dX4_init_5 : decode cX4_init 5 = .ok (.iconst 4, 1) := by decide +kernel
theorem dX4_init_6 : decode cX4_init 6 = .ok (.anewarray 9, 3) := by decide +kernel
theorem dX4_init_9 : decode cX4_init 9 = .ok (.putfield 11, 3) := by decide +kernel
theorem dX4_init_12 : decode cX4_init 12 = .ok (.iconst 0, 1) := by decide +kernel
theorem dX4_init_13 : decode cX4_init 13 = .ok (.istore_n 1, 1) := by decide +kernel
theorem dX4_init_14 : decode cX4_init 14 = .ok (.iload_n 1, 1) := by decide +kernel
theorem dX4_init_15 : decode cX4_init 15 = .ok (.aload_n 0, 1) := by decide +kernel
theorem dX4_init_16 : decode cX4_init 16 = .ok (.getfield 11, 3) := by decide +kernel
theorem dX4_init_19 : decode cX4_init 19 = .ok (.arraylength, 1) := by decide +kernel
theorem dX4_init_20 : decode cX4_init 20 = .ok (.if_icmp .ge 22, 3) := by decide +kernel
theorem dX4_init_23 : decode cX4_init 23 = .ok (.aload_n 0, 1) := by decide +kernel
theorem dX4_init_24 : decode cX4_init 24 = .ok (.getfield 11, 3) := by decide +kernel
theorem dX4_init_27 : decode cX4_init 27 = .ok (.iload_n 1, 1) := by decide +kernel
theorem dX4_init_28 : decode cX4_init 28 = .ok (.new 9, 3) := by decide +kernel
theorem dX4_init_31 : decode cX4_init 31 = .ok (.dup, 1) := by decide +kernel
theorem dX4_init_32 : decode cX4_init 32 = .ok (.invokespecial 15, 3) := by decide +kernel
theorem dX4_init_35 : decode cX4_init 35 = .ok (.aastore, 1) := by decide +kernel
theorem dX4_init_36 : decode cX4_init 36 = .ok (.iinc 1 1, 3) := by decide +kernel
theorem dX4_init_39 : decode cX4_init 39 = .ok (.goto (-25), 3) := by decide +kernel
theorem dX4_init_42 : decode cX4_init 42 = .ok (.aload_n 0, 1) := by decide +kernel
theorem dX4_init_43 : decode cX4_init 43 = .ok (.new 16, 3) := by decide +kernel
theorem dX4_init_46 : decode cX4_init 46 = .ok (.dup, 1) := by decide +kernel
theorem dX4_init_47 : decode cX4_init 47 = .ok (.invokespecial 18, 3) := by decide +kernel
theorem dX4_init_50 : decode cX4_init 50 = .ok (.putfield 19, 3) := by decide +kernel
theorem dX4_init_53 : decode cX4_init 53 = .ok (.aload_n 0, 1) := by decide +kernel
theorem dX4_init_54 : decode cX4_init 54 = .ok (.iconst 0, 1) := by decide +kernel
theorem dX4_init_55 : decode cX4_init 55 = .ok (.putfield 23, 3) := by decide +kernel
theorem dX4_init_58 : decode cX4_init 58 = .ok (.aload_n 0, 1) := by decide +kernel
theorem dX4_init_59 : decode cX4_init 59 = .ok (.new 9, 3) := by decide +kernel
theorem dX4_init_62 : decode cX4_init 62 = .ok (.dup, 1) := by decide +kernel
theorem dX4_init_63 : decode cX4_init 63 = .ok (.invokespecial 15, 3) := by decide +kernel
theorem dX4_init_66 : decode cX4_init 66 = .ok (.putfield 27, 3) := by decide +kernel
theorem dX4_init_69 : decode cX4_init 69 = .ok (.aload_n 0, 1) := by decide +kernel
theorem dX4_init_70 : decode cX4_init 70 = .ok (.new 9, 3) := by decide +kernel
theorem dX4_init_73 : decode cX4_init 73 = .ok (.dup, 1) := by decide +kernel
theorem dX4_init_74 : decode cX4_init 74 = .ok (.invokespecial 15, 3) := by decide +kernel
theorem dX4_init_77 : decode cX4_init 77 = .ok (.putfield 31, 3) := by decide +kernel
theorem dX4_init_80 : decode cX4_init 80 = .ok (.return_, 1) := by decide +kernel
theorem dX4_bidder_0 : decode cX4_bidder 0 = .ok (.aload_n 0, 1) := by decide +kernel
theorem dX4_bidder_1 : decode cX4_bidder 1 = .ok (.getfield 31, 3) := by decide +kernel
theorem dX4_bidder_4 : decode cX4_bidder 4 = .ok (.aload_n 0, 1) := by decide +kernel
theorem dX4_bidder_5 : decode cX4_bidder 5 = .ok (.getfield 27, 3) := by decide +kernel
theorem dX4_bidder_8 : decode cX4_bidder 8 = .ok (.invokevirtual 34, 3) := by decide +kernel
theorem dX4_bidder_11 : decode cX4_bidder 11 = .ok (.aload_n 0, 1) := by decide +kernel
theorem dX4_bidder_12 : decode cX4_bidder 12 = .ok (.aload_n 0, 1) := by decide +kernel
theorem dX4_bidder_13 : decode cX4_bidder 13 = .ok (.getfield 31, 3) := by decide +kernel
theorem dX4_bidder_16 : decode cX4_bidder 16 = .ok (.iload_n 1, 1) := by decide +kernel
theorem dX4_bidder_17 : decode cX4_bidder 17 = .ok (.iload_n 2, 1) := by decide +kernel
theorem dX4_bidder_18 : decode cX4_bidder 18 = .ok (.iload_n 3, 1) := by decide +kernel
theorem dX4_bidder_19 : decode cX4_bidder 19 = .ok (.iload 4, 2) := by decide +kernel
theorem dX4_bidder_21 : decode cX4_bidder 21 = .ok (.invokevirtual 38, 3) := by decide +kernel
theorem dX4_bidder_24 : decode cX4_bidder 24 = .ok (.invokevirtual 42, 3) := by decide +kernel
theorem dX4_bidder_27 : decode cX4_bidder 27 = .ok (.ireturn, 1) := by decide +kernel
theorem dX4_catches_0 : decode cX4_catches 0 = .ok (.aload_n 0, 1) := by decide +kernel
theorem dX4_catches_1 : decode cX4_catches 1 = .ok (.getfield 31, 3) := by decide +kernel
theorem dX4_catches_4 : decode cX4_catches 4 = .ok (.aload_n 0, 1) := by decide +kernel
theorem dX4_catches_5 : decode cX4_catches 5 = .ok (.getfield 27, 3) := by decide +kernel
theorem dX4_catches_8 : decode cX4_catches 8 = .ok (.invokevirtual 34, 3) := by decide +kernel
theorem dX4_catches_11 : decode cX4_catches 11 = .ok (.aload_n 0, 1) := by decide +kernel
theorem dX4_catches_12 : decode cX4_catches 12 = .ok (.aload_n 0, 1) := by decide +kernel
theorem dX4_catches_13 : decode cX4_catches 13 = .ok (.getfield 31, 3) := by decide +kernel
theorem dX4_catches_16 : decode cX4_catches 16 = .ok (.iload_n 1, 1) := by decide +kernel
theorem dX4_catches_17 : decode cX4_catches 17 = .ok (.iload_n 2, 1) := by decide +kernel
theorem dX4_catches_18 : decode cX4_catches 18 = .ok (.invokevirtual 46, 3) := by decide +kernel
theorem dX4_catches_21 : decode cX4_catches 21 = .ok (.invokevirtual 42, 3) := by decide +kernel
theorem dX4_catches_24 : decode cX4_catches 24 = .ok (.ireturn, 1) := by decide +kernel
theorem dX4_muffle_0 : decode cX4_muffle 0 = .ok (.aload_n 0, 1) := by decide +kernel
theorem dX4_muffle_1 : decode cX4_muffle 1 = .ok (.getfield 31, 3) := by decide +kernel
theorem dX4_muffle_4 : decode cX4_muffle 4 = .ok (.aload_n 0, 1) := by decide +kernel
theorem dX4_muffle_5 : decode cX4_muffle 5 = .ok (.getfield 27, 3) := by decide +kernel
theorem dX4_muffle_8 : decode cX4_muffle 8 = .ok (.invokevirtual 34, 3) := by decide +kernel
theorem dX4_muffle_11 : decode cX4_muffle 11 = .ok (.aload_n 0, 1) := by decide +kernel
theorem dX4_muffle_12 : decode cX4_muffle 12 = .ok (.aload_n 0, 1) := by decide +kernel
theorem dX4_muffle_13 : decode cX4_muffle 13 = .ok (.getfield 31, 3) := by decide +kernel
theorem dX4_muffle_16 : decode cX4_muffle 16 = .ok (.iload_n 1, 1) := by decide +kernel
theorem dX4_muffle_17 : decode cX4_muffle 17 = .ok (.iload_n 2, 1) := by decide +kernel
theorem dX4_muffle_18 : decode cX4_muffle 18 = .ok (.invokevirtual 50, 3) := by decide +kernel
theorem dX4_muffle_21 : decode cX4_muffle 21 = .ok (.invokevirtual 42, 3) := by decide +kernel
theorem dX4_muffle_24 : decode cX4_muffle 24 = .ok (.ireturn, 1) := by decide +kernel
theorem dX4_lot_0 : decode cX4_lot 0 = .ok (.aload_n 0, 1) := by decide +kernel
theorem dX4_lot_1 : decode cX4_lot 1 = .ok (.getfield 31, 3) := by decide +kernel
theorem dX4_lot_4 : decode cX4_lot 4 = .ok (.aload_n 0, 1) := by decide +kernel
theorem dX4_lot_5 : decode cX4_lot 5 = .ok (.getfield 27, 3) := by decide +kernel
theorem dX4_lot_8 : decode cX4_lot 8 = .ok (.invokevirtual 34, 3) := by decide +kernel
theorem dX4_lot_11 : decode cX4_lot 11 = .ok (.aload_n 0, 1) := by decide +kernel
theorem dX4_lot_12 : decode cX4_lot 12 = .ok (.aload_n 0, 1) := by decide +kernel
theorem dX4_lot_13 : decode cX4_lot 13 = .ok (.getfield 31, 3) := by decide +kernel
theorem dX4_lot_16 : decode cX4_lot 16 = .ok (.iload_n 1, 1) := by decide +kernel
theorem dX4_lot_17 : decode cX4_lot 17 = .ok (.iload_n 2, 1) := by decide +kernel
theorem dX4_lot_18 : decode cX4_lot 18 = .ok (.invokevirtual 53, 3) := by decide +kernel
theorem dX4_lot_21 : decode cX4_lot 21 = .ok (.invokevirtual 42, 3) := by decide +kernel
theorem dX4_lot_24 : decode cX4_lot 24 = .ok (.ireturn, 1) := by decide +kernel
theorem dX4_putUp_0 : decode cX4_putUp 0 = .ok (.aload_n 0, 1) := by decide +kernel
theorem dX4_putUp_1 : decode cX4_putUp 1 = .ok (.getfield 31, 3) := by decide +kernel
theorem dX4_putUp_4 : decode cX4_putUp 4 = .ok (.aload_n 0, 1) := by decide +kernel
theorem dX4_putUp_5 : decode cX4_putUp 5 = .ok (.getfield 27, 3) := by decide +kernel
theorem dX4_putUp_8 : decode cX4_putUp 8 = .ok (.invokevirtual 34, 3) := by decide +kernel
theorem dX4_putUp_11 : decode cX4_putUp 11 = .ok (.aload_n 0, 1) := by decide +kernel
theorem dX4_putUp_12 : decode cX4_putUp 12 = .ok (.aload_n 0, 1) := by decide +kernel
theorem dX4_putUp_13 : decode cX4_putUp 13 = .ok (.getfield 31, 3) := by decide +kernel
theorem dX4_putUp_16 : decode cX4_putUp 16 = .ok (.invokevirtual 56, 3) := by decide +kernel
theorem dX4_putUp_19 : decode cX4_putUp 19 = .ok (.invokevirtual 42, 3) := by decide +kernel
theorem dX4_putUp_22 : decode cX4_putUp 22 = .ok (.ireturn, 1) := by decide +kernel
theorem dX4_cough_0 : decode cX4_cough 0 = .ok (.aload_n 0, 1) := by decide +kernel
theorem dX4_cough_1 : decode cX4_cough 1 = .ok (.getfield 31, 3) := by decide +kernel
theorem dX4_cough_4 : decode cX4_cough 4 = .ok (.aload_n 0, 1) := by decide +kernel
theorem dX4_cough_5 : decode cX4_cough 5 = .ok (.getfield 27, 3) := by decide +kernel
theorem dX4_cough_8 : decode cX4_cough 8 = .ok (.invokevirtual 34, 3) := by decide +kernel
theorem dX4_cough_11 : decode cX4_cough 11 = .ok (.aload_n 0, 1) := by decide +kernel
theorem dX4_cough_12 : decode cX4_cough 12 = .ok (.aload_n 0, 1) := by decide +kernel
theorem dX4_cough_13 : decode cX4_cough 13 = .ok (.getfield 31, 3) := by decide +kernel
theorem dX4_cough_16 : decode cX4_cough 16 = .ok (.iload_n 1, 1) := by decide +kernel
theorem dX4_cough_17 : decode cX4_cough 17 = .ok (.iconst 0, 1) := by decide +kernel
theorem dX4_cough_18 : decode cX4_cough 18 = .ok (.invokevirtual 60, 3) := by decide +kernel
theorem dX4_cough_21 : decode cX4_cough 21 = .ok (.invokevirtual 42, 3) := by decide +kernel
theorem dX4_cough_24 : decode cX4_cough 24 = .ok (.ireturn, 1) := by decide +kernel
theorem dX4_beats_0 : decode cX4_beats 0 = .ok (.aload_n 0, 1) := by decide +kernel
theorem dX4_beats_1 : decode cX4_beats 1 = .ok (.getfield 31, 3) := by decide +kernel
theorem dX4_beats_4 : decode cX4_beats 4 = .ok (.aload_n 0, 1) := by decide +kernel
theorem dX4_beats_5 : decode cX4_beats 5 = .ok (.getfield 27, 3) := by decide +kernel
theorem dX4_beats_8 : decode cX4_beats 8 = .ok (.invokevirtual 34, 3) := by decide +kernel
theorem dX4_beats_11 : decode cX4_beats 11 = .ok (.aload_n 0, 1) := by decide +kernel
theorem dX4_beats_12 : decode cX4_beats 12 = .ok (.aload_n 0, 1) := by decide +kernel
theorem dX4_beats_13 : decode cX4_beats 13 = .ok (.getfield 31, 3) := by decide +kernel
theorem dX4_beats_16 : decode cX4_beats 16 = .ok (.iload_n 1, 1) := by decide +kernel
theorem dX4_beats_17 : decode cX4_beats 17 = .ok (.invokevirtual 64, 3) := by decide +kernel
theorem dX4_beats_20 : decode cX4_beats 20 = .ok (.invokevirtual 42, 3) := by decide +kernel
theorem dX4_beats_23 : decode cX4_beats 23 = .ok (.ireturn, 1) := by decide +kernel
theorem dX4_night_0 : decode cX4_night 0 = .ok (.aload_n 0, 1) := by decide +kernel
theorem dX4_night_1 : decode cX4_night 1 = .ok (.getfield 31, 3) := by decide +kernel
theorem dX4_night_4 : decode cX4_night 4 = .ok (.aload_n 0, 1) := by decide +kernel
theorem dX4_night_5 : decode cX4_night 5 = .ok (.getfield 27, 3) := by decide +kernel
theorem dX4_night_8 : decode cX4_night 8 = .ok (.invokevirtual 34, 3) := by decide +kernel
theorem dX4_night_11 : decode cX4_night 11 = .ok (.aload_n 0, 1) := by decide +kernel
theorem dX4_night_12 : decode cX4_night 12 = .ok (.aload_n 0, 1) := by decide +kernel
theorem dX4_night_13 : decode cX4_night 13 = .ok (.getfield 31, 3) := by decide +kernel
theorem dX4_night_16 : decode cX4_night 16 = .ok (.invokevirtual 67, 3) := by decide +kernel
theorem dX4_night_19 : decode cX4_night 19 = .ok (.invokevirtual 42, 3) := by decide +kernel
theorem dX4_night_22 : decode cX4_night 22 = .ok (.ireturn, 1) := by decide +kernel
theorem dX4_set_0 : decode cX4_set 0 = .ok (.aload_n 0, 1) := by decide +kernel
theorem dX4_set_1 : decode cX4_set 1 = .ok (.getfield 31, 3) := by decide +kernel
theorem dX4_set_4 : decode cX4_set 4 = .ok (.aload_n 0, 1) := by decide +kernel
theorem dX4_set_5 : decode cX4_set 5 = .ok (.getfield 27, 3) := by decide +kernel
theorem dX4_set_8 : decode cX4_set 8 = .ok (.invokevirtual 34, 3) := by decide +kernel
theorem dX4_set_11 : decode cX4_set 11 = .ok (.aload_n 0, 1) := by decide +kernel
theorem dX4_set_12 : decode cX4_set 12 = .ok (.aload_n 0, 1) := by decide +kernel
theorem dX4_set_13 : decode cX4_set 13 = .ok (.getfield 31, 3) := by decide +kernel
theorem dX4_set_16 : decode cX4_set 16 = .ok (.iload_n 1, 1) := by decide +kernel
theorem dX4_set_17 : decode cX4_set 17 = .ok (.iload_n 2, 1) := by decide +kernel
theorem dX4_set_18 : decode cX4_set 18 = .ok (.invokevirtual 70, 3) := by decide +kernel
theorem dX4_set_21 : decode cX4_set 21 = .ok (.invokevirtual 42, 3) := by decide +kernel
theorem dX4_set_24 : decode cX4_set 24 = .ok (.ireturn, 1) := by decide +kernel
theorem dX4_bidderOf_0 : decode cX4_bidderOf 0 = .ok (.aload_n 0, 1) := by decide +kernel
theorem dX4_bidderOf_1 : decode cX4_bidderOf 1 = .ok (.getfield 27, 3) := by decide +kernel
theorem dX4_bidderOf_4 : decode cX4_bidderOf 4 = .ok (.iload_n 1, 1) := by decide +kernel
theorem dX4_bidderOf_5 : decode cX4_bidderOf 5 = .ok (.invokevirtual 73, 3) := by decide +kernel
theorem dX4_bidderOf_8 : decode cX4_bidderOf 8 = .ok (.ifCond .ne 6, 3) := by decide +kernel
theorem dX4_bidderOf_11 : decode cX4_bidderOf 11 = .ok (.ldc 77, 2) := by decide +kernel
theorem dX4_bidderOf_13 : decode cX4_bidderOf 13 = .ok (.ireturn, 1) := by decide +kernel
theorem dX4_bidderOf_14 : decode cX4_bidderOf 14 = .ok (.aload_n 0, 1) := by decide +kernel
theorem dX4_bidderOf_15 : decode cX4_bidderOf 15 = .ok (.getfield 27, 3) := by decide +kernel
theorem dX4_bidderOf_18 : decode cX4_bidderOf 18 = .ok (.getfield 78, 3) := by decide +kernel
theorem dX4_bidderOf_21 : decode cX4_bidderOf 21 = .ok (.iload_n 1, 1) := by decide +kernel
theorem dX4_bidderOf_22 : decode cX4_bidderOf 22 = .ok (.aaload, 1) := by decide +kernel
theorem dX4_bidderOf_23 : decode cX4_bidderOf 23 = .ok (.iload_n 2, 1) := by decide +kernel
theorem dX4_bidderOf_24 : decode cX4_bidderOf 24 = .ok (.invokevirtual 82, 3) := by decide +kernel
theorem dX4_bidderOf_27 : decode cX4_bidderOf 27 = .ok (.ireturn, 1) := by decide +kernel
theorem dX4_at_0 : decode cX4_at 0 = .ok (.iload_n 1, 1) := by decide +kernel
theorem dX4_at_1 : decode cX4_at 1 = .ok (.iload_n 2, 1) := by decide +kernel
theorem dX4_at_2 : decode cX4_at 2 = .ok (.invokestatic 87, 3) := by decide +kernel
theorem dX4_at_5 : decode cX4_at 5 = .ok (.ifCond .ne 6, 3) := by decide +kernel
theorem dX4_at_8 : decode cX4_at 8 = .ok (.ldc 77, 2) := by decide +kernel
theorem dX4_at_10 : decode cX4_at 10 = .ok (.ireturn, 1) := by decide +kernel
theorem dX4_at_11 : decode cX4_at 11 = .ok (.aload_n 0, 1) := by decide +kernel
theorem dX4_at_12 : decode cX4_at 12 = .ok (.getfield 27, 3) := by decide +kernel
theorem dX4_at_15 : decode cX4_at 15 = .ok (.iload_n 1, 1) := by decide +kernel
theorem dX4_at_16 : decode cX4_at 16 = .ok (.iload_n 2, 1) := by decide +kernel
theorem dX4_at_17 : decode cX4_at 17 = .ok (.invokevirtual 91, 3) := by decide +kernel
theorem dX4_at_20 : decode cX4_at 20 = .ok (.ireturn, 1) := by decide +kernel
theorem dX4_up_0 : decode cX4_up 0 = .ok (.iload_n 1, 1) := by decide +kernel
theorem dX4_up_1 : decode cX4_up 1 = .ok (.iconst 0, 1) := by decide +kernel
theorem dX4_up_2 : decode cX4_up 2 = .ok (.bipush 8, 2) := by decide +kernel
theorem dX4_up_4 : decode cX4_up 4 = .ok (.invokestatic 94, 3) := by decide +kernel
theorem dX4_up_7 : decode cX4_up 7 = .ok (.ifCond .ne 6, 3) := by decide +kernel
theorem dX4_up_10 : decode cX4_up 10 = .ok (.ldc 77, 2) := by decide +kernel
theorem dX4_up_12 : decode cX4_up 12 = .ok (.ireturn, 1) := by decide +kernel
theorem dX4_up_13 : decode cX4_up 13 = .ok (.aload_n 0, 1) := by decide +kernel
theorem dX4_up_14 : decode cX4_up 14 = .ok (.getfield 27, 3) := by decide +kernel
theorem dX4_up_17 : decode cX4_up 17 = .ok (.getfield 98, 3) := by decide +kernel
theorem dX4_up_20 : decode cX4_up 20 = .ok (.ifCond .ne 6, 3) := by decide +kernel
theorem dX4_up_23 : decode cX4_up 23 = .ok (.ldc 102, 2) := by decide +kernel
theorem dX4_up_25 : decode cX4_up 25 = .ok (.ireturn, 1) := by decide +kernel
theorem dX4_up_26 : decode cX4_up 26 = .ok (.aload_n 0, 1) := by decide +kernel
theorem dX4_up_27 : decode cX4_up 27 = .ok (.getfield 27, 3) := by decide +kernel
theorem dX4_up_30 : decode cX4_up 30 = .ok (.getfield 103, 3) := by decide +kernel
theorem dX4_up_33 : decode cX4_up 33 = .ok (.iload_n 1, 1) := by decide +kernel
theorem dX4_up_34 : decode cX4_up 34 = .ok (.invokevirtual 107, 3) := by decide +kernel
theorem dX4_up_37 : decode cX4_up 37 = .ok (.ireturn, 1) := by decide +kernel
theorem dX4_waiting_0 : decode cX4_waiting 0 = .ok (.iload_n 1, 1) := by decide +kernel
theorem dX4_waiting_1 : decode cX4_waiting 1 = .ok (.ifCond .lt 12, 3) := by decide +kernel
theorem dX4_waiting_4 : decode cX4_waiting 4 = .ok (.iload_n 2, 1) := by decide +kernel
theorem dX4_waiting_5 : decode cX4_waiting 5 = .ok (.iconst 0, 1) := by decide +kernel
theorem dX4_waiting_6 : decode cX4_waiting 6 = .ok (.iconst 1, 1) := by decide +kernel
theorem dX4_waiting_7 : decode cX4_waiting 7 = .ok (.invokestatic 94, 3) := by decide +kernel
theorem dX4_waiting_10 : decode cX4_waiting 10 = .ok (.ifCond .ne 6, 3) := by decide +kernel
theorem dX4_waiting_13 : decode cX4_waiting 13 = .ok (.ldc 77, 2) := by decide +kernel
theorem dX4_waiting_15 : decode cX4_waiting 15 = .ok (.ireturn, 1) := by decide +kernel
theorem dX4_waiting_16 : decode cX4_waiting 16 = .ok (.iload_n 1, 1) := by decide +kernel
theorem dX4_waiting_17 : decode cX4_waiting 17 = .ok (.aload_n 0, 1) := by decide +kernel
theorem dX4_waiting_18 : decode cX4_waiting 18 = .ok (.getfield 27, 3) := by decide +kernel
theorem dX4_waiting_21 : decode cX4_waiting 21 = .ok (.getfield 112, 3) := by decide +kernel
theorem dX4_waiting_24 : decode cX4_waiting 24 = .ok (.if_icmp .lt 6, 3) := by decide +kernel
theorem dX4_waiting_27 : decode cX4_waiting 27 = .ok (.ldc 115, 2) := by decide +kernel
theorem dX4_waiting_29 : decode cX4_waiting 29 = .ok (.ireturn, 1) := by decide +kernel
theorem dX4_waiting_30 : decode cX4_waiting 30 = .ok (.aload_n 0, 1) := by decide +kernel
theorem dX4_waiting_31 : decode cX4_waiting 31 = .ok (.getfield 27, 3) := by decide +kernel
theorem dX4_waiting_34 : decode cX4_waiting 34 = .ok (.getfield 116, 3) := by decide +kernel
theorem dX4_waiting_37 : decode cX4_waiting 37 = .ok (.iload_n 1, 1) := by decide +kernel
theorem dX4_waiting_38 : decode cX4_waiting 38 = .ok (.aaload, 1) := by decide +kernel
theorem dX4_waiting_39 : decode cX4_waiting 39 = .ok (.astore_n 3, 1) := by decide +kernel
theorem dX4_waiting_40 : decode cX4_waiting 40 = .ok (.iload_n 2, 1) := by decide +kernel
theorem dX4_waiting_41 : decode cX4_waiting 41 = .ok (.ifCond .ne 10, 3) := by decide +kernel
theorem dX4_waiting_44 : decode cX4_waiting 44 = .ok (.aload_n 3, 1) := by decide +kernel
theorem dX4_waiting_45 : decode cX4_waiting 45 = .ok (.getfield 120, 3) := by decide +kernel
theorem dX4_waiting_48 : decode cX4_waiting 48 = .ok (.goto 7, 3) := by decide +kernel
theorem dX4_waiting_51 : decode cX4_waiting 51 = .ok (.aload_n 3, 1) := by decide +kernel
theorem dX4_waiting_52 : decode cX4_waiting 52 = .ok (.getfield 123, 3) := by decide +kernel
theorem dX4_waiting_55 : decode cX4_waiting 55 = .ok (.ireturn, 1) := by decide +kernel
theorem dX4_book_0 : decode cX4_book 0 = .ok (.iload_n 1, 1) := by decide +kernel
theorem dX4_book_1 : decode cX4_book 1 = .ok (.ifCond .lt 12, 3) := by decide +kernel
theorem dX4_book_4 : decode cX4_book 4 = .ok (.iload_n 2, 1) := by decide +kernel
theorem dX4_book_5 : decode cX4_book 5 = .ok (.iconst 0, 1) := by decide +kernel
theorem dX4_book_6 : decode cX4_book 6 = .ok (.iconst 4, 1) := by decide +kernel
theorem dX4_book_7 : decode cX4_book 7 = .ok (.invokestatic 94, 3) := by decide +kernel
theorem dX4_book_10 : decode cX4_book 10 = .ok (.ifCond .ne 6, 3) := by decide +kernel
theorem dX4_book_13 : decode cX4_book 13 = .ok (.ldc 77, 2) := by decide +kernel
theorem dX4_book_15 : decode cX4_book 15 = .ok (.ireturn, 1) := by decide +kernel
theorem dX4_book_16 : decode cX4_book 16 = .ok (.iload_n 1, 1) := by decide +kernel
theorem dX4_book_17 : decode cX4_book 17 = .ok (.aload_n 0, 1) := by decide +kernel
theorem dX4_book_18 : decode cX4_book 18 = .ok (.getfield 27, 3) := by decide +kernel
theorem dX4_book_21 : decode cX4_book 21 = .ok (.getfield 126, 3) := by decide +kernel
theorem dX4_book_24 : decode cX4_book 24 = .ok (.if_icmp .lt 6, 3) := by decide +kernel
theorem dX4_book_27 : decode cX4_book 27 = .ok (.ldc 115, 2) := by decide +kernel
theorem dX4_book_29 : decode cX4_book 29 = .ok (.ireturn, 1) := by decide +kernel
theorem dX4_book_30 : decode cX4_book 30 = .ok (.aload_n 0, 1) := by decide +kernel
theorem dX4_book_31 : decode cX4_book 31 = .ok (.getfield 27, 3) := by decide +kernel
theorem dX4_book_34 : decode cX4_book 34 = .ok (.getfield 129, 3) := by decide +kernel
theorem dX4_book_37 : decode cX4_book 37 = .ok (.iload_n 1, 1) := by decide +kernel
theorem dX4_book_38 : decode cX4_book 38 = .ok (.aaload, 1) := by decide +kernel
theorem dX4_book_39 : decode cX4_book 39 = .ok (.iload_n 2, 1) := by decide +kernel
theorem dX4_book_40 : decode cX4_book 40 = .ok (.invokevirtual 132, 3) := by decide +kernel
theorem dX4_book_43 : decode cX4_book 43 = .ok (.ireturn, 1) := by decide +kernel
theorem dX4_why_0 : decode cX4_why 0 = .ok (.aload_n 0, 1) := by decide +kernel
theorem dX4_why_1 : decode cX4_why 1 = .ok (.getfield 27, 3) := by decide +kernel
theorem dX4_why_4 : decode cX4_why 4 = .ok (.iload_n 1, 1) := by decide +kernel
theorem dX4_why_5 : decode cX4_why 5 = .ok (.invokevirtual 73, 3) := by decide +kernel
theorem dX4_why_8 : decode cX4_why 8 = .ok (.ifCond .ne 6, 3) := by decide +kernel
theorem dX4_why_11 : decode cX4_why 11 = .ok (.ldc 77, 2) := by decide +kernel
theorem dX4_why_13 : decode cX4_why 13 = .ok (.ireturn, 1) := by decide +kernel
theorem dX4_why_14 : decode cX4_why 14 = .ok (.aload_n 0, 1) := by decide +kernel
theorem dX4_why_15 : decode cX4_why 15 = .ok (.getfield 27, 3) := by decide +kernel
theorem dX4_why_18 : decode cX4_why 18 = .ok (.iload_n 1, 1) := by decide +kernel
theorem dX4_why_19 : decode cX4_why 19 = .ok (.invokevirtual 135, 3) := by decide +kernel
theorem dX4_why_22 : decode cX4_why 22 = .ok (.ireturn, 1) := by decide +kernel
theorem dX4_ifBeats_0 : decode cX4_ifBeats 0 = .ok (.iload_n 1, 1) := by decide +kernel
theorem dX4_ifBeats_1 : decode cX4_ifBeats 1 = .ok (.iconst 1, 1) := by decide +kernel
theorem dX4_ifBeats_2 : decode cX4_ifBeats 2 = .ok (.bipush 50, 2) := by decide +kernel
theorem dX4_ifBeats_4 : decode cX4_ifBeats 4 = .ok (.invokestatic 94, 3) := by decide +kernel
theorem dX4_ifBeats_7 : decode cX4_ifBeats 7 = .ok (.ifCond .eq 12, 3) := by decide +kernel
theorem dX4_ifBeats_10 : decode cX4_ifBeats 10 = .ok (.iload_n 2, 1) := by decide +kernel
theorem dX4_ifBeats_11 : decode cX4_ifBeats 11 = .ok (.iconst 0, 1) := by decide +kernel
theorem dX4_ifBeats_12 : decode cX4_ifBeats 12 = .ok (.iconst 3, 1) := by decide +kernel
theorem dX4_ifBeats_13 : decode cX4_ifBeats 13 = .ok (.invokestatic 94, 3) := by decide +kernel
theorem dX4_ifBeats_16 : decode cX4_ifBeats 16 = .ok (.ifCond .ne 6, 3) := by decide +kernel
theorem dX4_ifBeats_19 : decode cX4_ifBeats 19 = .ok (.ldc 77, 2) := by decide +kernel
theorem dX4_ifBeats_21 : decode cX4_ifBeats 21 = .ok (.ireturn, 1) := by decide +kernel
theorem dX4_ifBeats_22 : decode cX4_ifBeats 22 = .ok (.aload_n 0, 1) := by decide +kernel
theorem dX4_ifBeats_23 : decode cX4_ifBeats 23 = .ok (.getfield 31, 3) := by decide +kernel
theorem dX4_ifBeats_26 : decode cX4_ifBeats 26 = .ok (.aload_n 0, 1) := by decide +kernel
theorem dX4_ifBeats_27 : decode cX4_ifBeats 27 = .ok (.getfield 27, 3) := by decide +kernel
theorem dX4_ifBeats_30 : decode cX4_ifBeats 30 = .ok (.invokevirtual 34, 3) := by decide +kernel
theorem dX4_ifBeats_33 : decode cX4_ifBeats 33 = .ok (.iconst 0, 1) := by decide +kernel
theorem dX4_ifBeats_34 : decode cX4_ifBeats 34 = .ok (.istore_n 3, 1) := by decide +kernel
theorem dX4_ifBeats_35 : decode cX4_ifBeats 35 = .ok (.iload_n 3, 1) := by decide +kernel
theorem dX4_ifBeats_36 : decode cX4_ifBeats 36 = .ok (.iload_n 1, 1) := by decide +kernel
theorem dX4_ifBeats_37 : decode cX4_ifBeats 37 = .ok (.if_icmp .ge 16, 3) := by decide +kernel
theorem dX4_ifBeats_40 : decode cX4_ifBeats 40 = .ok (.aload_n 0, 1) := by decide +kernel
theorem dX4_ifBeats_41 : decode cX4_ifBeats 41 = .ok (.getfield 31, 3) := by decide +kernel
theorem dX4_ifBeats_44 : decode cX4_ifBeats 44 = .ok (.invokevirtual 138, 3) := by decide +kernel
theorem dX4_ifBeats_47 : decode cX4_ifBeats 47 = .ok (.iinc 3 1, 3) := by decide +kernel
theorem dX4_ifBeats_50 : decode cX4_ifBeats 50 = .ok (.goto (-15), 3) := by decide +kernel
theorem dX4_ifBeats_53 : decode cX4_ifBeats 53 = .ok (.iload_n 2, 1) := by decide +kernel
theorem dX4_ifBeats_54 : decode cX4_ifBeats 54 = .ok (.tableswitch 78 0 2 #[26, 42, 58], 26) := by decide +kernel
theorem dX4_ifBeats_80 : decode cX4_ifBeats 80 = .ok (.aload_n 0, 1) := by decide +kernel
theorem dX4_ifBeats_81 : decode cX4_ifBeats 81 = .ok (.getfield 31, 3) := by decide +kernel
theorem dX4_ifBeats_84 : decode cX4_ifBeats 84 = .ok (.getfield 141, 3) := by decide +kernel
theorem dX4_ifBeats_87 : decode cX4_ifBeats 87 = .ok (.aload_n 0, 1) := by decide +kernel
theorem dX4_ifBeats_88 : decode cX4_ifBeats 88 = .ok (.getfield 27, 3) := by decide +kernel
theorem dX4_ifBeats_91 : decode cX4_ifBeats 91 = .ok (.getfield 141, 3) := by decide +kernel
theorem dX4_ifBeats_94 : decode cX4_ifBeats 94 = .ok (.isub, 1) := by decide +kernel
theorem dX4_ifBeats_95 : decode cX4_ifBeats 95 = .ok (.ireturn, 1) := by decide +kernel
theorem dX4_ifBeats_96 : decode cX4_ifBeats 96 = .ok (.aload_n 0, 1) := by decide +kernel
theorem dX4_ifBeats_97 : decode cX4_ifBeats 97 = .ok (.getfield 31, 3) := by decide +kernel
theorem dX4_ifBeats_100 : decode cX4_ifBeats 100 = .ok (.getfield 144, 3) := by decide +kernel
theorem dX4_ifBeats_103 : decode cX4_ifBeats 103 = .ok (.aload_n 0, 1) := by decide +kernel
theorem dX4_ifBeats_104 : decode cX4_ifBeats 104 = .ok (.getfield 27, 3) := by decide +kernel
theorem dX4_ifBeats_107 : decode cX4_ifBeats 107 = .ok (.getfield 144, 3) := by decide +kernel
theorem dX4_ifBeats_110 : decode cX4_ifBeats 110 = .ok (.isub, 1) := by decide +kernel
theorem dX4_ifBeats_111 : decode cX4_ifBeats 111 = .ok (.ireturn, 1) := by decide +kernel
theorem dX4_ifBeats_112 : decode cX4_ifBeats 112 = .ok (.aload_n 0, 1) := by decide +kernel
theorem dX4_ifBeats_113 : decode cX4_ifBeats 113 = .ok (.getfield 31, 3) := by decide +kernel
theorem dX4_ifBeats_116 : decode cX4_ifBeats 116 = .ok (.getfield 147, 3) := by decide +kernel
theorem dX4_ifBeats_119 : decode cX4_ifBeats 119 = .ok (.iconst 0, 1) := by decide +kernel
theorem dX4_ifBeats_120 : decode cX4_ifBeats 120 = .ok (.iaload, 1) := by decide +kernel
theorem dX4_ifBeats_121 : decode cX4_ifBeats 121 = .ok (.aload_n 0, 1) := by decide +kernel
theorem dX4_ifBeats_122 : decode cX4_ifBeats 122 = .ok (.getfield 27, 3) := by decide +kernel
theorem dX4_ifBeats_125 : decode cX4_ifBeats 125 = .ok (.getfield 147, 3) := by decide +kernel
theorem dX4_ifBeats_128 : decode cX4_ifBeats 128 = .ok (.iconst 0, 1) := by decide +kernel
theorem dX4_ifBeats_129 : decode cX4_ifBeats 129 = .ok (.iaload, 1) := by decide +kernel
theorem dX4_ifBeats_130 : decode cX4_ifBeats 130 = .ok (.isub, 1) := by decide +kernel
theorem dX4_ifBeats_131 : decode cX4_ifBeats 131 = .ok (.ireturn, 1) := by decide +kernel
theorem dX4_ifBeats_132 : decode cX4_ifBeats 132 = .ok (.aload_n 0, 1) := by decide +kernel
theorem dX4_ifBeats_133 : decode cX4_ifBeats 133 = .ok (.getfield 31, 3) := by decide +kernel
theorem dX4_ifBeats_136 : decode cX4_ifBeats 136 = .ok (.getfield 151, 3) := by decide +kernel
theorem dX4_ifBeats_139 : decode cX4_ifBeats 139 = .ok (.aload_n 0, 1) := by decide +kernel
theorem dX4_ifBeats_140 : decode cX4_ifBeats 140 = .ok (.getfield 27, 3) := by decide +kernel
theorem dX4_ifBeats_143 : decode cX4_ifBeats 143 = .ok (.getfield 151, 3) := by decide +kernel
theorem dX4_ifBeats_146 : decode cX4_ifBeats 146 = .ok (.isub, 1) := by decide +kernel
theorem dX4_ifBeats_147 : decode cX4_ifBeats 147 = .ok (.ireturn, 1) := by decide +kernel
theorem dX4_goneIn_0 : decode cX4_goneIn 0 = .ok (.aload_n 0, 1) := by decide +kernel
theorem dX4_goneIn_1 : decode cX4_goneIn 1 = .ok (.getfield 27, 3) := by decide +kernel
theorem dX4_goneIn_4 : decode cX4_goneIn 4 = .ok (.getfield 98, 3) := by decide +kernel
theorem dX4_goneIn_7 : decode cX4_goneIn 7 = .ok (.ifCond .ne 6, 3) := by decide +kernel
theorem dX4_goneIn_10 : decode cX4_goneIn 10 = .ok (.ldc 102, 2) := by decide +kernel
theorem dX4_goneIn_12 : decode cX4_goneIn 12 = .ok (.ireturn, 1) := by decide +kernel
theorem dX4_goneIn_13 : decode cX4_goneIn 13 = .ok (.aload_n 0, 1) := by decide +kernel
theorem dX4_goneIn_14 : decode cX4_goneIn 14 = .ok (.getfield 31, 3) := by decide +kernel
theorem dX4_goneIn_17 : decode cX4_goneIn 17 = .ok (.aload_n 0, 1) := by decide +kernel
theorem dX4_goneIn_18 : decode cX4_goneIn 18 = .ok (.getfield 27, 3) := by decide +kernel
theorem dX4_goneIn_21 : decode cX4_goneIn 21 = .ok (.invokevirtual 34, 3) := by decide +kernel
theorem dX4_goneIn_24 : decode cX4_goneIn 24 = .ok (.iconst 1, 1) := by decide +kernel
theorem dX4_goneIn_25 : decode cX4_goneIn 25 = .ok (.istore_n 1, 1) := by decide +kernel
theorem dX4_goneIn_26 : decode cX4_goneIn 26 = .ok (.iload_n 1, 1) := by decide +kernel
theorem dX4_goneIn_27 : decode cX4_goneIn 27 = .ok (.sipush 200, 3) := by decide +kernel
theorem dX4_goneIn_30 : decode cX4_goneIn 30 = .ok (.if_icmp .gt 28, 3) := by decide +kernel
theorem dX4_goneIn_33 : decode cX4_goneIn 33 = .ok (.aload_n 0, 1) := by decide +kernel
theorem dX4_goneIn_34 : decode cX4_goneIn 34 = .ok (.getfield 31, 3) := by decide +kernel
theorem dX4_goneIn_37 : decode cX4_goneIn 37 = .ok (.invokevirtual 138, 3) := by decide +kernel
theorem dX4_goneIn_40 : decode cX4_goneIn 40 = .ok (.aload_n 0, 1) := by decide +kernel
theorem dX4_goneIn_41 : decode cX4_goneIn 41 = .ok (.getfield 31, 3) := by decide +kernel
theorem dX4_goneIn_44 : decode cX4_goneIn 44 = .ok (.getfield 98, 3) := by decide +kernel
theorem dX4_goneIn_47 : decode cX4_goneIn 47 = .ok (.ifCond .ne 5, 3) := by decide +kernel
theorem dX4_goneIn_50 : decode cX4_goneIn 50 = .ok (.iload_n 1, 1) := by decide +kernel
theorem dX4_goneIn_51 : decode cX4_goneIn 51 = .ok (.ireturn, 1) := by decide +kernel
theorem dX4_goneIn_52 : decode cX4_goneIn 52 = .ok (.iinc 1 1, 3) := by decide +kernel
theorem dX4_goneIn_55 : decode cX4_goneIn 55 = .ok (.goto (-29), 3) := by decide +kernel
theorem dX4_goneIn_58 : decode cX4_goneIn 58 = .ok (.ldc 115, 2) := by decide +kernel
theorem dX4_goneIn_60 : decode cX4_goneIn 60 = .ok (.ireturn, 1) := by decide +kernel
theorem dX4_coughing_0 : decode cX4_coughing 0 = .ok (.iconst 0, 1) := by decide +kernel
theorem dX4_coughing_1 : decode cX4_coughing 1 = .ok (.istore_n 1, 1) := by decide +kernel
theorem dX4_coughing_2 : decode cX4_coughing 2 = .ok (.iconst 0, 1) := by decide +kernel
theorem dX4_coughing_3 : decode cX4_coughing 3 = .ok (.istore_n 2, 1) := by decide +kernel
theorem dX4_coughing_4 : decode cX4_coughing 4 = .ok (.iload_n 2, 1) := by decide +kernel
theorem dX4_coughing_5 : decode cX4_coughing 5 = .ok (.aload_n 0, 1) := by decide +kernel
theorem dX4_coughing_6 : decode cX4_coughing 6 = .ok (.getfield 27, 3) := by decide +kernel
theorem dX4_coughing_9 : decode cX4_coughing 9 = .ok (.getfield 154, 3) := by decide +kernel
theorem dX4_coughing_12 : decode cX4_coughing 12 = .ok (.if_icmp .ge 26, 3) := by decide +kernel
theorem dX4_coughing_15 : decode cX4_coughing 15 = .ok (.aload_n 0, 1) := by decide +kernel
theorem dX4_coughing_16 : decode cX4_coughing 16 = .ok (.getfield 27, 3) := by decide +kernel
theorem dX4_coughing_19 : decode cX4_coughing 19 = .ok (.iload_n 2, 1) := by decide +kernel
theorem dX4_coughing_20 : decode cX4_coughing 20 = .ok (.invokevirtual 157, 3) := by decide +kernel
theorem dX4_coughing_23 : decode cX4_coughing 23 = .ok (.ifCond .eq 9, 3) := by decide +kernel
theorem dX4_coughing_26 : decode cX4_coughing 26 = .ok (.iload_n 1, 1) := by decide +kernel
theorem dX4_coughing_27 : decode cX4_coughing 27 = .ok (.iconst 1, 1) := by decide +kernel
theorem dX4_coughing_28 : decode cX4_coughing 28 = .ok (.iload_n 2, 1) := by decide +kernel
theorem dX4_coughing_29 : decode cX4_coughing 29 = .ok (.ishl, 1) := by decide +kernel
theorem dX4_coughing_30 : decode cX4_coughing 30 = .ok (.ior, 1) := by decide +kernel
theorem dX4_coughing_31 : decode cX4_coughing 31 = .ok (.istore_n 1, 1) := by decide +kernel
theorem dX4_coughing_32 : decode cX4_coughing 32 = .ok (.iinc 2 1, 3) := by decide +kernel
theorem dX4_coughing_35 : decode cX4_coughing 35 = .ok (.goto (-31), 3) := by decide +kernel
theorem dX4_coughing_38 : decode cX4_coughing 38 = .ok (.iload_n 1, 1) := by decide +kernel
theorem dX4_coughing_39 : decode cX4_coughing 39 = .ok (.ireturn, 1) := by decide +kernel
theorem dX4_loudest_0 : decode cX4_loudest 0 = .ok (.ldc 115, 2) := by decide +kernel
theorem dX4_loudest_2 : decode cX4_loudest 2 = .ok (.istore_n 1, 1) := by decide +kernel
theorem dX4_loudest_3 : decode cX4_loudest 3 = .ok (.iconst 0, 1) := by decide +kernel
theorem dX4_loudest_4 : decode cX4_loudest 4 = .ok (.istore_n 2, 1) := by decide +kernel
theorem dX4_loudest_5 : decode cX4_loudest 5 = .ok (.iconst 0, 1) := by decide +kernel
theorem dX4_loudest_6 : decode cX4_loudest 6 = .ok (.istore_n 3, 1) := by decide +kernel
theorem dX4_loudest_7 : decode cX4_loudest 7 = .ok (.iload_n 3, 1) := by decide +kernel
theorem dX4_loudest_8 : decode cX4_loudest 8 = .ok (.aload_n 0, 1) := by decide +kernel
theorem dX4_loudest_9 : decode cX4_loudest 9 = .ok (.getfield 27, 3) := by decide +kernel
theorem dX4_loudest_12 : decode cX4_loudest 12 = .ok (.getfield 154, 3) := by decide +kernel
theorem dX4_loudest_15 : decode cX4_loudest 15 = .ok (.if_icmp .ge 40, 3) := by decide +kernel
theorem dX4_loudest_18 : decode cX4_loudest 18 = .ok (.aload_n 0, 1) := by decide +kernel
theorem dX4_loudest_19 : decode cX4_loudest 19 = .ok (.getfield 27, 3) := by decide +kernel
theorem dX4_loudest_22 : decode cX4_loudest 22 = .ok (.getfield 78, 3) := by decide +kernel
theorem dX4_loudest_25 : decode cX4_loudest 25 = .ok (.iload_n 3, 1) := by decide +kernel
theorem dX4_loudest_26 : decode cX4_loudest 26 = .ok (.aaload, 1) := by decide +kernel
theorem dX4_loudest_27 : decode cX4_loudest 27 = .ok (.invokevirtual 160, 3) := by decide +kernel
theorem dX4_loudest_30 : decode cX4_loudest 30 = .ok (.istore 4, 2) := by decide +kernel
theorem dX4_loudest_32 : decode cX4_loudest 32 = .ok (.iload_n 1, 1) := by decide +kernel
theorem dX4_loudest_33 : decode cX4_loudest 33 = .ok (.ldc 115, 2) := by decide +kernel
theorem dX4_loudest_35 : decode cX4_loudest 35 = .ok (.if_icmp .eq 9, 3) := by decide +kernel
theorem dX4_loudest_38 : decode cX4_loudest 38 = .ok (.iload 4, 2) := by decide +kernel
theorem dX4_loudest_40 : decode cX4_loudest 40 = .ok (.iload_n 2, 1) := by decide +kernel
theorem dX4_loudest_41 : decode cX4_loudest 41 = .ok (.if_icmp .le 8, 3) := by decide +kernel
theorem dX4_loudest_44 : decode cX4_loudest 44 = .ok (.iload_n 3, 1) := by decide +kernel
theorem dX4_loudest_45 : decode cX4_loudest 45 = .ok (.istore_n 1, 1) := by decide +kernel
theorem dX4_loudest_46 : decode cX4_loudest 46 = .ok (.iload 4, 2) := by decide +kernel
theorem dX4_loudest_48 : decode cX4_loudest 48 = .ok (.istore_n 2, 1) := by decide +kernel
theorem dX4_loudest_49 : decode cX4_loudest 49 = .ok (.iinc 3 1, 3) := by decide +kernel
theorem dX4_loudest_52 : decode cX4_loudest 52 = .ok (.goto (-45), 3) := by decide +kernel
theorem dX4_loudest_55 : decode cX4_loudest 55 = .ok (.iload_n 1, 1) := by decide +kernel
theorem dX4_loudest_56 : decode cX4_loudest 56 = .ok (.ireturn, 1) := by decide +kernel
theorem dX4_ifNights_0 : decode cX4_ifNights 0 = .ok (.iload_n 1, 1) := by decide +kernel
theorem dX4_ifNights_1 : decode cX4_ifNights 1 = .ok (.iconst 1, 1) := by decide +kernel
theorem dX4_ifNights_2 : decode cX4_ifNights 2 = .ok (.bipush 20, 2) := by decide +kernel
theorem dX4_ifNights_4 : decode cX4_ifNights 4 = .ok (.invokestatic 94, 3) := by decide +kernel
theorem dX4_ifNights_7 : decode cX4_ifNights 7 = .ok (.ifCond .ne 6, 3) := by decide +kernel
theorem dX4_ifNights_10 : decode cX4_ifNights 10 = .ok (.ldc 77, 2) := by decide +kernel
theorem dX4_ifNights_12 : decode cX4_ifNights 12 = .ok (.ireturn, 1) := by decide +kernel
theorem dX4_ifNights_13 : decode cX4_ifNights 13 = .ok (.aload_n 0, 1) := by decide +kernel
theorem dX4_ifNights_14 : decode cX4_ifNights 14 = .ok (.getfield 31, 3) := by decide +kernel
theorem dX4_ifNights_17 : decode cX4_ifNights 17 = .ok (.aload_n 0, 1) := by decide +kernel
theorem dX4_ifNights_18 : decode cX4_ifNights 18 = .ok (.getfield 27, 3) := by decide +kernel
theorem dX4_ifNights_21 : decode cX4_ifNights 21 = .ok (.invokevirtual 34, 3) := by decide +kernel
theorem dX4_ifNights_24 : decode cX4_ifNights 24 = .ok (.iconst 0, 1) := by decide +kernel
theorem dX4_ifNights_25 : decode cX4_ifNights 25 = .ok (.istore_n 2, 1) := by decide +kernel
theorem dX4_ifNights_26 : decode cX4_ifNights 26 = .ok (.iload_n 2, 1) := by decide +kernel
theorem dX4_ifNights_27 : decode cX4_ifNights 27 = .ok (.iload_n 1, 1) := by decide +kernel
theorem dX4_ifNights_28 : decode cX4_ifNights 28 = .ok (.if_icmp .ge 16, 3) := by decide +kernel
theorem dX4_ifNights_31 : decode cX4_ifNights 31 = .ok (.aload_n 0, 1) := by decide +kernel
theorem dX4_ifNights_32 : decode cX4_ifNights 32 = .ok (.getfield 31, 3) := by decide +kernel
theorem dX4_ifNights_35 : decode cX4_ifNights 35 = .ok (.invokevirtual 163, 3) := by decide +kernel
theorem dX4_ifNights_38 : decode cX4_ifNights 38 = .ok (.iinc 2 1, 3) := by decide +kernel
theorem dX4_ifNights_41 : decode cX4_ifNights 41 = .ok (.goto (-15), 3) := by decide +kernel
theorem dX4_ifNights_44 : decode cX4_ifNights 44 = .ok (.aload_n 0, 1) := by decide +kernel
theorem dX4_ifNights_45 : decode cX4_ifNights 45 = .ok (.getfield 31, 3) := by decide +kernel
theorem dX4_ifNights_48 : decode cX4_ifNights 48 = .ok (.invokevirtual 166, 3) := by decide +kernel
theorem dX4_ifNights_51 : decode cX4_ifNights 51 = .ok (.invokestatic 169, 3) := by decide +kernel
theorem dX4_ifNights_54 : decode cX4_ifNights 54 = .ok (.ireturn, 1) := by decide +kernel
theorem dX4_mean_0 : decode cX4_mean 0 = .ok (.aload_n 0, 1) := by decide +kernel
theorem dX4_mean_1 : decode cX4_mean 1 = .ok (.getfield 27, 3) := by decide +kernel
theorem dX4_mean_4 : decode cX4_mean 4 = .ok (.getfield 147, 3) := by decide +kernel
theorem dX4_mean_7 : decode cX4_mean 7 = .ok (.iconst 0, 1) := by decide +kernel
theorem dX4_mean_8 : decode cX4_mean 8 = .ok (.iaload, 1) := by decide +kernel
theorem dX4_mean_9 : decode cX4_mean 9 = .ok (.istore_n 1, 1) := by decide +kernel
theorem dX4_mean_10 : decode cX4_mean 10 = .ok (.iload_n 1, 1) := by decide +kernel
theorem dX4_mean_11 : decode cX4_mean 11 = .ok (.ifCond .ne 6, 3) := by decide +kernel
theorem dX4_mean_14 : decode cX4_mean 14 = .ok (.ldc 115, 2) := by decide +kernel
theorem dX4_mean_16 : decode cX4_mean 16 = .ok (.ireturn, 1) := by decide +kernel
theorem dX4_mean_17 : decode cX4_mean 17 = .ok (.aload_n 0, 1) := by decide +kernel
theorem dX4_mean_18 : decode cX4_mean 18 = .ok (.getfield 27, 3) := by decide +kernel
theorem dX4_mean_21 : decode cX4_mean 21 = .ok (.getfield 151, 3) := by decide +kernel
theorem dX4_mean_24 : decode cX4_mean 24 = .ok (.i2f, 1) := by decide +kernel
theorem dX4_mean_25 : decode cX4_mean 25 = .ok (.iload_n 1, 1) := by decide +kernel
theorem dX4_mean_26 : decode cX4_mean 26 = .ok (.i2f, 1) := by decide +kernel
theorem dX4_mean_27 : decode cX4_mean 27 = .ok (.fdiv, 1) := by decide +kernel
theorem dX4_mean_28 : decode cX4_mean 28 = .ok (.invokestatic 174, 3) := by decide +kernel
theorem dX4_mean_31 : decode cX4_mean 31 = .ok (.ireturn, 1) := by decide +kernel
theorem dX4_count_0 : decode cX4_count 0 = .ok (.iload_n 1, 1) := by decide +kernel
theorem dX4_count_1 : decode cX4_count 1 = .ok (.lookupswitch 40 #[(16, 27), (17, 32)], 27) := by decide +kernel
theorem dX4_count_28 : decode cX4_count 28 = .ok (.aload_n 0, 1) := by decide +kernel
theorem dX4_count_29 : decode cX4_count 29 = .ok (.getfield 23, 3) := by decide +kernel
theorem dX4_count_32 : decode cX4_count 32 = .ok (.ireturn, 1) := by decide +kernel
theorem dX4_count_33 : decode cX4_count 33 = .ok (.aload_n 0, 1) := by decide +kernel
theorem dX4_count_34 : decode cX4_count 34 = .ok (.getfield 19, 3) := by decide +kernel
theorem dX4_count_37 : decode cX4_count 37 = .ok (.getfield 178, 3) := by decide +kernel
theorem dX4_count_40 : decode cX4_count 40 = .ok (.ireturn, 1) := by decide +kernel
theorem dX4_count_41 : decode cX4_count 41 = .ok (.aload_n 0, 1) := by decide +kernel
theorem dX4_count_42 : decode cX4_count 42 = .ok (.getfield 27, 3) := by decide +kernel
theorem dX4_count_45 : decode cX4_count 45 = .ok (.iload_n 1, 1) := by decide +kernel
theorem dX4_count_46 : decode cX4_count 46 = .ok (.invokevirtual 181, 3) := by decide +kernel
theorem dX4_count_49 : decode cX4_count 49 = .ok (.ireturn, 1) := by decide +kernel
theorem dX4_undo_0 : decode cX4_undo 0 = .ok (.aload_n 0, 1) := by decide +kernel
theorem dX4_undo_1 : decode cX4_undo 1 = .ok (.getfield 23, 3) := by decide +kernel
theorem dX4_undo_4 : decode cX4_undo 4 = .ok (.ifCond .ne 6, 3) := by decide +kernel
theorem dX4_undo_7 : decode cX4_undo 7 = .ok (.ldc 102, 2) := by decide +kernel
theorem dX4_undo_9 : decode cX4_undo 9 = .ok (.ireturn, 1) := by decide +kernel
theorem dX4_undo_10 : decode cX4_undo 10 = .ok (.aload_n 0, 1) := by decide +kernel
theorem dX4_undo_11 : decode cX4_undo 11 = .ok (.dup, 1) := by decide +kernel
theorem dX4_undo_12 : decode cX4_undo 12 = .ok (.getfield 23, 3) := by decide +kernel
theorem dX4_undo_15 : decode cX4_undo 15 = .ok (.iconst 1, 1) := by decide +kernel
theorem dX4_undo_16 : decode cX4_undo 16 = .ok (.isub, 1) := by decide +kernel
theorem dX4_undo_17 : decode cX4_undo 17 = .ok (.putfield 23, 3) := by decide +kernel
theorem dX4_undo_20 : decode cX4_undo 20 = .ok (.aload_n 0, 1) := by decide +kernel
theorem dX4_undo_21 : decode cX4_undo 21 = .ok (.getfield 11, 3) := by decide +kernel
theorem dX4_undo_24 : decode cX4_undo 24 = .ok (.aload_n 0, 1) := by decide +kernel
theorem dX4_undo_25 : decode cX4_undo 25 = .ok (.getfield 23, 3) := by decide +kernel
theorem dX4_undo_28 : decode cX4_undo 28 = .ok (.aaload, 1) := by decide +kernel
theorem dX4_undo_29 : decode cX4_undo 29 = .ok (.astore_n 1, 1) := by decide +kernel
theorem dX4_undo_30 : decode cX4_undo 30 = .ok (.aload_n 0, 1) := by decide +kernel
theorem dX4_undo_31 : decode cX4_undo 31 = .ok (.getfield 11, 3) := by decide +kernel
theorem dX4_undo_34 : decode cX4_undo 34 = .ok (.aload_n 0, 1) := by decide +kernel
theorem dX4_undo_35 : decode cX4_undo 35 = .ok (.getfield 23, 3) := by decide +kernel
theorem dX4_undo_38 : decode cX4_undo 38 = .ok (.aload_n 0, 1) := by decide +kernel
theorem dX4_undo_39 : decode cX4_undo 39 = .ok (.getfield 27, 3) := by decide +kernel
theorem dX4_undo_42 : decode cX4_undo 42 = .ok (.aastore, 1) := by decide +kernel
theorem dX4_undo_43 : decode cX4_undo 43 = .ok (.aload_n 0, 1) := by decide +kernel
theorem dX4_undo_44 : decode cX4_undo 44 = .ok (.aload_n 1, 1) := by decide +kernel
theorem dX4_undo_45 : decode cX4_undo 45 = .ok (.putfield 27, 3) := by decide +kernel
theorem dX4_undo_48 : decode cX4_undo 48 = .ok (.aload_n 0, 1) := by decide +kernel
theorem dX4_undo_49 : decode cX4_undo 49 = .ok (.getfield 23, 3) := by decide +kernel
theorem dX4_undo_52 : decode cX4_undo 52 = .ok (.ireturn, 1) := by decide +kernel
theorem dX4_type_0 : decode cX4_type 0 = .ok (.aload_n 0, 1) := by decide +kernel
theorem dX4_type_1 : decode cX4_type 1 = .ok (.getfield 19, 3) := by decide +kernel
theorem dX4_type_4 : decode cX4_type 4 = .ok (.iload_n 1, 1) := by decide +kernel
theorem dX4_type_5 : decode cX4_type 5 = .ok (.invokevirtual 184, 3) := by decide +kernel
theorem dX4_type_8 : decode cX4_type 8 = .ok (.ireturn, 1) := by decide +kernel
theorem dX4_clearText_0 : decode cX4_clearText 0 = .ok (.aload_n 0, 1) := by decide +kernel
theorem dX4_clearText_1 : decode cX4_clearText 1 = .ok (.getfield 19, 3) := by decide +kernel
theorem dX4_clearText_4 : decode cX4_clearText 4 = .ok (.getfield 178, 3) := by decide +kernel
theorem dX4_clearText_7 : decode cX4_clearText 7 = .ok (.istore_n 1, 1) := by decide +kernel
theorem dX4_clearText_8 : decode cX4_clearText 8 = .ok (.aload_n 0, 1) := by decide +kernel
theorem dX4_clearText_9 : decode cX4_clearText 9 = .ok (.getfield 19, 3) := by decide +kernel
theorem dX4_clearText_12 : decode cX4_clearText 12 = .ok (.iconst 0, 1) := by decide +kernel
theorem dX4_clearText_13 : decode cX4_clearText 13 = .ok (.putfield 178, 3) := by decide +kernel
theorem dX4_clearText_16 : decode cX4_clearText 16 = .ok (.iload_n 1, 1) := by decide +kernel
theorem dX4_clearText_17 : decode cX4_clearText 17 = .ok (.ireturn, 1) := by decide +kernel
theorem dX4_fault_0 : decode cX4_fault 0 = .ok (.iload_n 1, 1) := by decide +kernel
theorem dX4_fault_1 : decode cX4_fault 1 = .ok (.iconst 0, 1) := by decide +kernel
theorem dX4_fault_2 : decode cX4_fault 2 = .ok (.iconst 2, 1) := by decide +kernel
theorem dX4_fault_3 : decode cX4_fault 3 = .ok (.invokestatic 94, 3) := by decide +kernel
theorem dX4_fault_6 : decode cX4_fault 6 = .ok (.ifCond .ne 6, 3) := by decide +kernel
theorem dX4_fault_9 : decode cX4_fault 9 = .ok (.ldc 77, 2) := by decide +kernel
theorem dX4_fault_11 : decode cX4_fault 11 = .ok (.ireturn, 1) := by decide +kernel
theorem dX4_fault_12 : decode cX4_fault 12 = .ok (.aload_n 0, 1) := by decide +kernel
theorem dX4_fault_13 : decode cX4_fault 13 = .ok (.getfield 31, 3) := by decide +kernel
theorem dX4_fault_16 : decode cX4_fault 16 = .ok (.aload_n 0, 1) := by decide +kernel
theorem dX4_fault_17 : decode cX4_fault 17 = .ok (.getfield 27, 3) := by decide +kernel
theorem dX4_fault_20 : decode cX4_fault 20 = .ok (.invokevirtual 34, 3) := by decide +kernel
theorem dX4_fault_23 : decode cX4_fault 23 = .ok (.aload_n 0, 1) := by decide +kernel
theorem dX4_fault_24 : decode cX4_fault 24 = .ok (.getfield 19, 3) := by decide +kernel
theorem dX4_fault_27 : decode cX4_fault 27 = .ok (.aload_n 0, 1) := by decide +kernel
theorem dX4_fault_28 : decode cX4_fault 28 = .ok (.getfield 31, 3) := by decide +kernel
theorem dX4_fault_31 : decode cX4_fault 31 = .ok (.invokevirtual 187, 3) := by decide +kernel
theorem dX4_fault_34 : decode cX4_fault 34 = .ok (.aload_n 0, 1) := by decide +kernel
theorem dX4_fault_35 : decode cX4_fault 35 = .ok (.getfield 19, 3) := by decide +kernel
theorem dX4_fault_38 : decode cX4_fault 38 = .ok (.invokevirtual 190, 3) := by decide +kernel
theorem dX4_fault_41 : decode cX4_fault 41 = .ok (.ifCond .ne 6, 3) := by decide +kernel
theorem dX4_fault_44 : decode cX4_fault 44 = .ok (.ldc 115, 2) := by decide +kernel
theorem dX4_fault_46 : decode cX4_fault 46 = .ok (.ireturn, 1) := by decide +kernel
theorem dX4_fault_47 : decode cX4_fault 47 = .ok (.iload_n 1, 1) := by decide +kernel
theorem dX4_fault_48 : decode cX4_fault 48 = .ok (.lookupswitch 44 #[(0, 28), (1, 36)], 28) := by decide +kernel
theorem dX4_fault_76 : decode cX4_fault 76 = .ok (.aload_n 0, 1) := by decide +kernel
theorem dX4_fault_77 : decode cX4_fault 77 = .ok (.getfield 19, 3) := by decide +kernel
theorem dX4_fault_80 : decode cX4_fault 80 = .ok (.getfield 194, 3) := by decide +kernel
theorem dX4_fault_83 : decode cX4_fault 83 = .ok (.ireturn, 1) := by decide +kernel
theorem dX4_fault_84 : decode cX4_fault 84 = .ok (.aload_n 0, 1) := by decide +kernel
theorem dX4_fault_85 : decode cX4_fault 85 = .ok (.getfield 19, 3) := by decide +kernel
theorem dX4_fault_88 : decode cX4_fault 88 = .ok (.getfield 197, 3) := by decide +kernel
theorem dX4_fault_91 : decode cX4_fault 91 = .ok (.ireturn, 1) := by decide +kernel
theorem dX4_fault_92 : decode cX4_fault 92 = .ok (.aload_n 0, 1) := by decide +kernel
theorem dX4_fault_93 : decode cX4_fault 93 = .ok (.getfield 19, 3) := by decide +kernel
theorem dX4_fault_96 : decode cX4_fault 96 = .ok (.getfield 200, 3) := by decide +kernel
theorem dX4_fault_99 : decode cX4_fault 99 = .ok (.ireturn, 1) := by decide +kernel
theorem dX4_play_0 : decode cX4_play 0 = .ok (.aload_n 0, 1) := by decide +kernel
theorem dX4_play_1 : decode cX4_play 1 = .ok (.getfield 31, 3) := by decide +kernel
theorem dX4_play_4 : decode cX4_play 4 = .ok (.aload_n 0, 1) := by decide +kernel
theorem dX4_play_5 : decode cX4_play 5 = .ok (.getfield 27, 3) := by decide +kernel
theorem dX4_play_8 : decode cX4_play 8 = .ok (.invokevirtual 34, 3) := by decide +kernel
theorem dX4_play_11 : decode cX4_play 11 = .ok (.aload_n 0, 1) := by decide +kernel
theorem dX4_play_12 : decode cX4_play 12 = .ok (.getfield 19, 3) := by decide +kernel
theorem dX4_play_15 : decode cX4_play 15 = .ok (.aload_n 0, 1) := by decide +kernel
theorem dX4_play_16 : decode cX4_play 16 = .ok (.getfield 31, 3) := by decide +kernel
theorem dX4_play_19 : decode cX4_play 19 = .ok (.invokevirtual 187, 3) := by decide +kernel
theorem dX4_play_22 : decode cX4_play 22 = .ok (.aload_n 0, 1) := by decide +kernel
theorem dX4_play_23 : decode cX4_play 23 = .ok (.aload_n 0, 1) := by decide +kernel
theorem dX4_play_24 : decode cX4_play 24 = .ok (.getfield 19, 3) := by decide +kernel
theorem dX4_play_27 : decode cX4_play 27 = .ok (.invokevirtual 190, 3) := by decide +kernel
theorem dX4_play_30 : decode cX4_play 30 = .ok (.ifCond .eq 8, 3) := by decide +kernel
theorem dX4_play_33 : decode cX4_play 33 = .ok (.ldc 102, 2) := by decide +kernel
theorem dX4_play_35 : decode cX4_play 35 = .ok (.goto 10, 3) := by decide +kernel
theorem dX4_play_38 : decode cX4_play 38 = .ok (.aload_n 0, 1) := by decide +kernel
theorem dX4_play_39 : decode cX4_play 39 = .ok (.getfield 19, 3) := by decide +kernel
theorem dX4_play_42 : decode cX4_play 42 = .ok (.getfield 203, 3) := by decide +kernel
theorem dX4_play_45 : decode cX4_play 45 = .ok (.invokevirtual 42, 3) := by decide +kernel
theorem dX4_play_48 : decode cX4_play 48 = .ok (.ireturn, 1) := by decide +kernel
theorem dX4_keep_0 : decode cX4_keep 0 = .ok (.iload_n 1, 1) := by decide +kernel
theorem dX4_keep_1 : decode cX4_keep 1 = .ok (.ifCond .ge 5, 3) := by decide +kernel
theorem dX4_keep_4 : decode cX4_keep 4 = .ok (.iload_n 1, 1) := by decide +kernel
theorem dX4_keep_5 : decode cX4_keep 5 = .ok (.ireturn, 1) := by decide +kernel
theorem dX4_keep_6 : decode cX4_keep 6 = .ok (.aload_n 0, 1) := by decide +kernel
theorem dX4_keep_7 : decode cX4_keep 7 = .ok (.getfield 23, 3) := by decide +kernel
theorem dX4_keep_10 : decode cX4_keep 10 = .ok (.iconst 4, 1) := by decide +kernel
theorem dX4_keep_11 : decode cX4_keep 11 = .ok (.if_icmp .ne 7, 3) := by decide +kernel
theorem dX4_keep_14 : decode cX4_keep 14 = .ok (.aload_n 0, 1) := by decide +kernel
theorem dX4_keep_15 : decode cX4_keep 15 = .ok (.invokevirtual 206, 3) := by decide +kernel
theorem dX4_keep_18 : decode cX4_keep 18 = .ok (.aload_n 0, 1) := by decide +kernel
theorem dX4_keep_19 : decode cX4_keep 19 = .ok (.getfield 11, 3) := by decide +kernel
theorem dX4_keep_22 : decode cX4_keep 22 = .ok (.aload_n 0, 1) := by decide +kernel
theorem dX4_keep_23 : decode cX4_keep 23 = .ok (.getfield 23, 3) := by decide +kernel
theorem dX4_keep_26 : decode cX4_keep 26 = .ok (.aaload, 1) := by decide +kernel
theorem dX4_keep_27 : decode cX4_keep 27 = .ok (.astore_n 2, 1) := by decide +kernel
theorem dX4_keep_28 : decode cX4_keep 28 = .ok (.aload_n 0, 1) := by decide +kernel
theorem dX4_keep_29 : decode cX4_keep 29 = .ok (.getfield 11, 3) := by decide +kernel
theorem dX4_keep_32 : decode cX4_keep 32 = .ok (.aload_n 0, 1) := by decide +kernel
theorem dX4_keep_33 : decode cX4_keep 33 = .ok (.getfield 23, 3) := by decide +kernel
theorem dX4_keep_36 : decode cX4_keep 36 = .ok (.aload_n 0, 1) := by decide +kernel
theorem dX4_keep_37 : decode cX4_keep 37 = .ok (.getfield 27, 3) := by decide +kernel
theorem dX4_keep_40 : decode cX4_keep 40 = .ok (.aastore, 1) := by decide +kernel
theorem dX4_keep_41 : decode cX4_keep 41 = .ok (.aload_n 0, 1) := by decide +kernel
theorem dX4_keep_42 : decode cX4_keep 42 = .ok (.dup, 1) := by decide +kernel
theorem dX4_keep_43 : decode cX4_keep 43 = .ok (.getfield 23, 3) := by decide +kernel
theorem dX4_keep_46 : decode cX4_keep 46 = .ok (.iconst 1, 1) := by decide +kernel
theorem dX4_keep_47 : decode cX4_keep 47 = .ok (.iadd, 1) := by decide +kernel
theorem dX4_keep_48 : decode cX4_keep 48 = .ok (.putfield 23, 3) := by decide +kernel
theorem dX4_keep_51 : decode cX4_keep 51 = .ok (.aload_n 0, 1) := by decide +kernel
theorem dX4_keep_52 : decode cX4_keep 52 = .ok (.aload_n 0, 1) := by decide +kernel
theorem dX4_keep_53 : decode cX4_keep 53 = .ok (.getfield 31, 3) := by decide +kernel
theorem dX4_keep_56 : decode cX4_keep 56 = .ok (.putfield 27, 3) := by decide +kernel
theorem dX4_keep_59 : decode cX4_keep 59 = .ok (.aload_n 0, 1) := by decide +kernel
theorem dX4_keep_60 : decode cX4_keep 60 = .ok (.aload_n 2, 1) := by decide +kernel
theorem dX4_keep_61 : decode cX4_keep 61 = .ok (.putfield 31, 3) := by decide +kernel
theorem dX4_keep_64 : decode cX4_keep 64 = .ok (.iload_n 1, 1) := by decide +kernel
theorem dX4_keep_65 : decode cX4_keep 65 = .ok (.ireturn, 1) := by decide +kernel
theorem dX4_dropOldest_0 : decode cX4_dropOldest 0 = .ok (.aload_n 0, 1) := by decide +kernel
theorem dX4_dropOldest_1 : decode cX4_dropOldest 1 = .ok (.getfield 11, 3) := by decide +kernel
theorem dX4_dropOldest_4 : decode cX4_dropOldest 4 = .ok (.iconst 0, 1) := by decide +kernel
theorem dX4_dropOldest_5 : decode cX4_dropOldest 5 = .ok (.aaload, 1) := by decide +kernel
theorem dX4_dropOldest_6 : decode cX4_dropOldest 6 = .ok (.astore_n 1, 1) := by decide +kernel
theorem dX4_dropOldest_7 : decode cX4_dropOldest 7 = .ok (.iconst 1, 1) := by decide +kernel
theorem dX4_dropOldest_8 : decode cX4_dropOldest 8 = .ok (.istore_n 2, 1) := by decide +kernel
theorem dX4_dropOldest_9 : decode cX4_dropOldest 9 = .ok (.iload_n 2, 1) := by decide +kernel
theorem dX4_dropOldest_10 : decode cX4_dropOldest 10 = .ok (.aload_n 0, 1) := by decide +kernel
theorem dX4_dropOldest_11 : decode cX4_dropOldest 11 = .ok (.getfield 11, 3) := by decide +kernel
theorem dX4_dropOldest_14 : decode cX4_dropOldest 14 = .ok (.arraylength, 1) := by decide +kernel
theorem dX4_dropOldest_15 : decode cX4_dropOldest 15 = .ok (.if_icmp .ge 23, 3) := by decide +kernel
theorem dX4_dropOldest_18 : decode cX4_dropOldest 18 = .ok (.aload_n 0, 1) := by decide +kernel
theorem dX4_dropOldest_19 : decode cX4_dropOldest 19 = .ok (.getfield 11, 3) := by decide +kernel
theorem dX4_dropOldest_22 : decode cX4_dropOldest 22 = .ok (.iload_n 2, 1) := by decide +kernel
theorem dX4_dropOldest_23 : decode cX4_dropOldest 23 = .ok (.iconst 1, 1) := by decide +kernel
theorem dX4_dropOldest_24 : decode cX4_dropOldest 24 = .ok (.isub, 1) := by decide +kernel
theorem dX4_dropOldest_25 : decode cX4_dropOldest 25 = .ok (.aload_n 0, 1) := by decide +kernel
theorem dX4_dropOldest_26 : decode cX4_dropOldest 26 = .ok (.getfield 11, 3) := by decide +kernel
theorem dX4_dropOldest_29 : decode cX4_dropOldest 29 = .ok (.iload_n 2, 1) := by decide +kernel
theorem dX4_dropOldest_30 : decode cX4_dropOldest 30 = .ok (.aaload, 1) := by decide +kernel
theorem dX4_dropOldest_31 : decode cX4_dropOldest 31 = .ok (.aastore, 1) := by decide +kernel
theorem dX4_dropOldest_32 : decode cX4_dropOldest 32 = .ok (.iinc 2 1, 3) := by decide +kernel
theorem dX4_dropOldest_35 : decode cX4_dropOldest 35 = .ok (.goto (-26), 3) := by decide +kernel
theorem dX4_dropOldest_38 : decode cX4_dropOldest 38 = .ok (.aload_n 0, 1) := by decide +kernel
theorem dX4_dropOldest_39 : decode cX4_dropOldest 39 = .ok (.getfield 11, 3) := by decide +kernel
theorem dX4_dropOldest_42 : decode cX4_dropOldest 42 = .ok (.aload_n 0, 1) := by decide +kernel
theorem dX4_dropOldest_43 : decode cX4_dropOldest 43 = .ok (.getfield 11, 3) := by decide +kernel
theorem dX4_dropOldest_46 : decode cX4_dropOldest 46 = .ok (.arraylength, 1) := by decide +kernel
theorem dX4_dropOldest_47 : decode cX4_dropOldest 47 = .ok (.iconst 1, 1) := by decide +kernel
theorem dX4_dropOldest_48 : decode cX4_dropOldest 48 = .ok (.isub, 1) := by decide +kernel
theorem dX4_dropOldest_49 : decode cX4_dropOldest 49 = .ok (.aload_n 1, 1) := by decide +kernel
theorem dX4_dropOldest_50 : decode cX4_dropOldest 50 = .ok (.aastore, 1) := by decide +kernel
theorem dX4_dropOldest_51 : decode cX4_dropOldest 51 = .ok (.aload_n 0, 1) := by decide +kernel
theorem dX4_dropOldest_52 : decode cX4_dropOldest 52 = .ok (.dup, 1) := by decide +kernel
theorem dX4_dropOldest_53 : decode cX4_dropOldest 53 = .ok (.getfield 23, 3) := by decide +kernel
theorem dX4_dropOldest_56 : decode cX4_dropOldest 56 = .ok (.iconst 1, 1) := by decide +kernel
theorem dX4_dropOldest_57 : decode cX4_dropOldest 57 = .ok (.isub, 1) := by decide +kernel
theorem dX4_dropOldest_58 : decode cX4_dropOldest 58 = .ok (.putfield 23, 3) := by decide +kernel
theorem dX4_dropOldest_61 : decode cX4_dropOldest 61 = .ok (.return_, 1) := by decide +kernel
theorem dX4_isWithin_0 : decode cX4_isWithin 0 = .ok (.iload_n 0, 1) := by decide +kernel
theorem dX4_isWithin_1 : decode cX4_isWithin 1 = .ok (.iload_n 1, 1) := by decide +kernel
theorem dX4_isWithin_2 : decode cX4_isWithin 2 = .ok (.if_icmp .lt 12, 3) := by decide +kernel
theorem dX4_isWithin_5 : decode cX4_isWithin 5 = .ok (.iload_n 0, 1) := by decide +kernel
theorem dX4_isWithin_6 : decode cX4_isWithin 6 = .ok (.iload_n 2, 1) := by decide +kernel
theorem dX4_isWithin_7 : decode cX4_isWithin 7 = .ok (.if_icmp .gt 7, 3) := by decide +kernel
theorem dX4_isWithin_10 : decode cX4_isWithin 10 = .ok (.iconst 1, 1) := by decide +kernel
theorem dX4_isWithin_11 : decode cX4_isWithin 11 = .ok (.goto 4, 3) := by decide +kernel
theorem dX4_isWithin_14 : decode cX4_isWithin 14 = .ok (.iconst 0, 1) := by decide +kernel
theorem dX4_isWithin_15 : decode cX4_isWithin 15 = .ok (.ireturn, 1) := by decide +kernel
theorem dX4_isSeat_0 : decode cX4_isSeat 0 = .ok (.iload_n 0, 1) := by decide +kernel
theorem dX4_isSeat_1 : decode cX4_isSeat 1 = .ok (.iconst 0, 1) := by decide +kernel
theorem dX4_isSeat_2 : decode cX4_isSeat 2 = .ok (.iconst 5, 1) := by decide +kernel
theorem dX4_isSeat_3 : decode cX4_isSeat 3 = .ok (.invokestatic 94, 3) := by decide +kernel
theorem dX4_isSeat_6 : decode cX4_isSeat 6 = .ok (.ifCond .eq 17, 3) := by decide +kernel
theorem dX4_isSeat_9 : decode cX4_isSeat 9 = .ok (.iload_n 1, 1) := by decide +kernel
theorem dX4_isSeat_10 : decode cX4_isSeat 10 = .ok (.iconst 0, 1) := by decide +kernel
theorem dX4_isSeat_11 : decode cX4_isSeat 11 = .ok (.bipush 7, 2) := by decide +kernel
theorem dX4_isSeat_13 : decode cX4_isSeat 13 = .ok (.invokestatic 94, 3) := by decide +kernel
theorem dX4_isSeat_16 : decode cX4_isSeat 16 = .ok (.ifCond .eq 7, 3) := by decide +kernel
theorem dX4_isSeat_19 : decode cX4_isSeat 19 = .ok (.iconst 1, 1) := by decide +kernel
theorem dX4_isSeat_20 : decode cX4_isSeat 20 = .ok (.goto 4, 3) := by decide +kernel
theorem dX4_isSeat_23 : decode cX4_isSeat 23 = .ok (.iconst 0, 1) := by decide +kernel
theorem dX4_isSeat_24 : decode cX4_isSeat 24 = .ok (.ireturn, 1) := by decide +kernel
theorem dX4_bitsOf_0 : decode cX4_bitsOf 0 = .ok (.fload_n 0, 1) := by decide +kernel
theorem dX4_bitsOf_1 : decode cX4_bitsOf 1 = .ok (.fstore_n 1, 1) := by decide +kernel
theorem dX4_bitsOf_2 : decode cX4_bitsOf 2 = .ok (.iconst 0, 1) := by decide +kernel
theorem dX4_bitsOf_3 : decode cX4_bitsOf 3 = .ok (.istore_n 2, 1) := by decide +kernel
theorem dX4_bitsOf_4 : decode cX4_bitsOf 4 = .ok (.iload_n 2, 1) := by decide +kernel
theorem dX4_bitsOf_5 : decode cX4_bitsOf 5 = .ok (.bipush 127, 2) := by decide +kernel
theorem dX4_bitsOf_7 : decode cX4_bitsOf 7 = .ok (.if_icmp .ge 19, 3) := by decide +kernel
theorem dX4_bitsOf_10 : decode cX4_bitsOf 10 = .ok (.fload_n 1, 1) := by decide +kernel
theorem dX4_bitsOf_11 : decode cX4_bitsOf 11 = .ok (.fconst 2, 1) := by decide +kernel
theorem dX4_bitsOf_12 : decode cX4_bitsOf 12 = .ok (.fcmp .l, 1) := by decide +kernel
theorem dX4_bitsOf_13 : decode cX4_bitsOf 13 = .ok (.ifCond .lt 13, 3) := by decide +kernel
theorem dX4_bitsOf_16 : decode cX4_bitsOf 16 = .ok (.fload_n 1, 1) := by decide +kernel
theorem dX4_bitsOf_17 : decode cX4_bitsOf 17 = .ok (.fconst 2, 1) := by decide +kernel
theorem dX4_bitsOf_18 : decode cX4_bitsOf 18 = .ok (.fdiv, 1) := by decide +kernel
theorem dX4_bitsOf_19 : decode cX4_bitsOf 19 = .ok (.fstore_n 1, 1) := by decide +kernel
theorem dX4_bitsOf_20 : decode cX4_bitsOf 20 = .ok (.iinc 2 1, 3) := by decide +kernel
theorem dX4_bitsOf_23 : decode cX4_bitsOf 23 = .ok (.goto (-19), 3) := by decide +kernel
theorem dX4_bitsOf_26 : decode cX4_bitsOf 26 = .ok (.fload_n 1, 1) := by decide +kernel
theorem dX4_bitsOf_27 : decode cX4_bitsOf 27 = .ok (.fconst 1, 1) := by decide +kernel
theorem dX4_bitsOf_28 : decode cX4_bitsOf 28 = .ok (.fsub, 1) := by decide +kernel
theorem dX4_bitsOf_29 : decode cX4_bitsOf 29 = .ok (.ldc 209, 2) := by decide +kernel
theorem dX4_bitsOf_31 : decode cX4_bitsOf 31 = .ok (.fmul, 1) := by decide +kernel
theorem dX4_bitsOf_32 : decode cX4_bitsOf 32 = .ok (.f2i, 1) := by decide +kernel
theorem dX4_bitsOf_33 : decode cX4_bitsOf 33 = .ok (.istore_n 3, 1) := by decide +kernel
theorem dX4_bitsOf_34 : decode cX4_bitsOf 34 = .ok (.bipush 127, 2) := by decide +kernel
theorem dX4_bitsOf_36 : decode cX4_bitsOf 36 = .ok (.iload_n 2, 1) := by decide +kernel
theorem dX4_bitsOf_37 : decode cX4_bitsOf 37 = .ok (.iadd, 1) := by decide +kernel
theorem dX4_bitsOf_38 : decode cX4_bitsOf 38 = .ok (.bipush 23, 2) := by decide +kernel
theorem dX4_bitsOf_40 : decode cX4_bitsOf 40 = .ok (.ishl, 1) := by decide +kernel
theorem dX4_bitsOf_41 : decode cX4_bitsOf 41 = .ok (.iload_n 3, 1) := by decide +kernel
theorem dX4_bitsOf_42 : decode cX4_bitsOf 42 = .ok (.iadd, 1) := by decide +kernel
theorem dX4_bitsOf_43 : decode cX4_bitsOf 43 = .ok (.ireturn, 1) := by decide +kernel
theorem dX5_init_0 : decode cX5_init 0 = .ok (.aload_n 0, 1) := by decide +kernel
theorem dX5_init_1 : decode cX5_init 1 = .ok (.invokespecial 1, 3) := by decide +kernel
theorem dX5_init_4 : decode cX5_init 4 = .ok (.aload_n 0, 1) := by decide +kernel
theorem dX5_init_5 : decode cX5_init 5 = .ok (.sipush 215, 3) := by decide +kernel
theorem dX5_init_8 : decode cX5_init 8 = .ok (.newarray .int, 2) := by decide +kernel
theorem dX5_init_10 : decode cX5_init 10 = .ok (.putfield 7, 3) := by decide +kernel
theorem dX5_init_13 : decode cX5_init 13 = .ok (.aload_n 0, 1) := by decide +kernel
theorem dX5_init_14 : decode cX5_init 14 = .ok (.sipush 860, 3) := by decide +kernel
theorem dX5_init_17 : decode cX5_init 17 = .ok (.newarray .int, 2) := by decide +kernel
theorem dX5_init_19 : decode cX5_init 19 = .ok (.putfield 13, 3) := by decide +kernel
theorem dX5_init_22 : decode cX5_init 22 = .ok (.aload_n 0, 1) := by decide +kernel
theorem dX5_init_23 : decode cX5_init 23 = .ok (.sipush 215, 3) := by decide +kernel
theorem dX5_init_26 : decode cX5_init 26 = .ok (.newarray .int, 2) := by decide +kernel
theorem dX5_init_28 : decode cX5_init 28 = .ok (.putfield 16, 3) := by decide +kernel
theorem dX5_init_31 : decode cX5_init 31 = .ok (.aload_n 0, 1) := by decide +kernel
theorem dX5_init_32 : decode cX5_init 32 = .ok (.sipush 215, 3) := by decide +kernel
theorem dX5_init_35 : decode cX5_init 35 = .ok (.newarray .int, 2) := by decide +kernel
theorem dX5_init_37 : decode cX5_init 37 = .ok (.putfield 19, 3) := by decide +kernel
theorem dX5_init_40 : decode cX5_init 40 = .ok (.aload_n 0, 1) := by decide +kernel
theorem dX5_init_41 : decode cX5_init 41 = .ok (.bipush 60, 2) := by decide +kernel
theorem dX5_init_43 : decode cX5_init 43 = .ok (.newarray .int, 2) := by decide +kernel
theorem dX5_init_45 : decode cX5_init 45 = .ok (.putfield 22, 3) := by decide +kernel
theorem dX5_init_48 : decode cX5_init 48 = .ok (.aload_n 0, 1) := by decide +kernel
theorem dX5_init_49 : decode cX5_init 49 = .ok (.iconst 4, 1) := by decide +kernel
theorem dX5_init_50 : decode cX5_init 50 = .ok (.newarray .int, 2) := by decide +kernel
theorem dX5_init_52 : decode cX5_init 52 = .ok (.putfield 25, 3) := by decide +kernel
theorem dX5_init_55 : decode cX5_init 55 = .ok (.aload_n 0, 1) := by decide +kernel
theorem dX5_init_56 : decode cX5_init 56 = .ok (.getfield 7, 3) := by decide +kernel
theorem dX5_init_59 : decode cX5_init 59 = .ok (.sipush 212, 3) := by decide +kernel
theorem dX5_init_62 : decode cX5_init 62 = .ok (.iconst 3, 1) := by decide +kernel
theorem dX5_init_63 : decode cX5_init 63 = .ok (.iastore, 1) := by decide +kernel
theorem dX5_init_64 : decode cX5_init 64 = .ok (.aload_n 0, 1) := by decide +kernel
theorem dX5_init_65 : decode cX5_init 65 = .ok (.getfield 7, 3) := by decide +kernel
theorem dX5_init_68 : decode cX5_init 68 = .ok (.sipush 213, 3) := by decide +kernel
theorem dX5_init_71 : decode cX5_init 71 = .ok (.iconst 3, 1) := by decide +kernel
theorem dX5_init_72 : decode cX5_init 72 = .ok (.iastore, 1) := by decide +kernel
theorem dX5_init_73 : decode cX5_init 73 = .ok (.aload_n 0, 1) := by decide +kernel
theorem dX5_init_74 : decode cX5_init 74 = .ok (.getfield 7, 3) := by decide +kernel
theorem dX5_init_77 : decode cX5_init 77 = .ok (.sipush 214, 3) := by decide +kernel
theorem dX5_init_80 : decode cX5_init 80 = .ok (.iconst 3, 1) := by decide +kernel
theorem dX5_init_81 : decode cX5_init 81 = .ok (.iastore, 1) := by decide +kernel
theorem dX5_init_82 : decode cX5_init 82 = .ok (.return_, 1) := by decide +kernel
theorem dX5_in_0 : decode cX5_in 0 = .ok (.iload_n 0, 1) := by decide +kernel
theorem dX5_in_1 : decode cX5_in 1 = .ok (.iload_n 1, 1) := by decide +kernel
theorem dX5_in_2 : decode cX5_in 2 = .ok (.if_icmp .lt 12, 3) := by decide +kernel
theorem dX5_in_5 : decode cX5_in 5 = .ok (.iload_n 0, 1) := by decide +kernel
theorem dX5_in_6 : decode cX5_in 6 = .ok (.iload_n 2, 1) := by decide +kernel
theorem dX5_in_7 : decode cX5_in 7 = .ok (.if_icmp .gt 7, 3) := by decide +kernel
theorem dX5_in_10 : decode cX5_in 10 = .ok (.iconst 1, 1) := by decide +kernel
theorem dX5_in_11 : decode cX5_in 11 = .ok (.goto 4, 3) := by decide +kernel
theorem dX5_in_14 : decode cX5_in 14 = .ok (.iconst 0, 1) := by decide +kernel
theorem dX5_in_15 : decode cX5_in 15 = .ok (.ireturn, 1) := by decide +kernel
theorem dX5_copies_0 : decode cX5_copies 0 = .ok (.iconst 0, 1) := by decide +kernel
theorem dX5_copies_1 : decode cX5_copies 1 = .ok (.istore_n 2, 1) := by decide +kernel
theorem dX5_copies_2 : decode cX5_copies 2 = .ok (.iload_n 2, 1) := by decide +kernel
theorem dX5_copies_3 : decode cX5_copies 3 = .ok (.sipush 215, 3) := by decide +kernel
theorem dX5_copies_6 : decode cX5_copies 6 = .ok (.if_icmp .ge 15, 3) := by decide +kernel
theorem dX5_copies_9 : decode cX5_copies 9 = .ok (.aload_n 1, 1) := by decide +kernel
theorem dX5_copies_10 : decode cX5_copies 10 = .ok (.iload_n 2, 1) := by decide +kernel
theorem dX5_copies_11 : decode cX5_copies 11 = .ok (.aload_n 0, 1) := by decide +kernel
theorem dX5_copies_12 : decode cX5_copies 12 = .ok (.iload_n 2, 1) := by decide +kernel
theorem dX5_copies_13 : decode cX5_copies 13 = .ok (.iaload, 1) := by decide +kernel
theorem dX5_copies_14 : decode cX5_copies 14 = .ok (.iastore, 1) := by decide +kernel
theorem dX5_copies_15 : decode cX5_copies 15 = .ok (.iinc 2 1, 3) := by decide +kernel
theorem dX5_copies_18 : decode cX5_copies 18 = .ok (.goto (-16), 3) := by decide +kernel
theorem dX5_copies_21 : decode cX5_copies 21 = .ok (.return_, 1) := by decide +kernel
theorem dX5_changes_0 : decode cX5_changes 0 = .ok (.aload_n 0, 1) := by decide +kernel
theorem dX5_changes_1 : decode cX5_changes 1 = .ok (.getfield 28, 3) := by decide +kernel
theorem dX5_changes_4 : decode cX5_changes 4 = .ok (.ifCond .eq 4, 3) := by decide +kernel
theorem dX5_changes_7 : decode cX5_changes 7 = .ok (.return_, 1) := by decide +kernel
theorem dX5_changes_8 : decode cX5_changes 8 = .ok (.aload_n 0, 1) := by decide +kernel
theorem dX5_changes_9 : decode cX5_changes 9 = .ok (.getfield 32, 3) := by decide +kernel
theorem dX5_changes_12 : decode cX5_changes 12 = .ok (.iconst 4, 1) := by decide +kernel
theorem dX5_changes_13 : decode cX5_changes 13 = .ok (.if_icmp .ne 44, 3) := by decide +kernel
theorem dX5_changes_16 : decode cX5_changes 16 = .ok (.iconst 0, 1) := by decide +kernel
theorem dX5_changes_17 : decode cX5_changes 17 = .ok (.istore_n 1, 1) := by decide +kernel
theorem dX5_changes_18 : decode cX5_changes 18 = .ok (.iload_n 1, 1) := by decide +kernel
theorem dX5_changes_19 : decode cX5_changes 19 = .ok (.sipush 645, 3) := by decide +kernel
theorem dX5_changes_22 : decode cX5_changes 22 = .ok (.if_icmp .ge 25, 3) := by decide +kernel
theorem dX5_changes_25 : decode cX5_changes 25 = .ok (.aload_n 0, 1) := by decide +kernel
theorem dX5_changes_26 : decode cX5_changes 26 = .ok (.getfield 13, 3) := by decide +kernel
theorem dX5_changes_29 : decode cX5_changes 29 = .ok (.iload_n 1, 1) := by decide +kernel
theorem dX5_changes_30 : decode cX5_changes 30 = .ok (.aload_n 0, 1) := by decide +kernel
theorem dX5_changes_31 : decode cX5_changes 31 = .ok (.getfield 13, 3) := by decide +kernel
theorem dX5_changes_34 : decode cX5_changes 34 = .ok (.iload_n 1, 1) := by decide +kernel
theorem dX5_changes_35 : decode cX5_changes 35 = .ok (.sipush 215, 3) := by decide +kernel
theorem dX5_changes_38 : decode cX5_changes 38 = .ok (.iadd, 1) := by decide +kernel
theorem dX5_changes_39 : decode cX5_changes 39 = .ok (.iaload, 1) := by decide +kernel
theorem dX5_changes_40 : decode cX5_changes 40 = .ok (.iastore, 1) := by decide +kernel
theorem dX5_changes_41 : decode cX5_changes 41 = .ok (.iinc 1 1, 3) := by decide +kernel
theorem dX5_changes_44 : decode cX5_changes 44 = .ok (.goto (-26), 3) := by decide +kernel
theorem dX5_changes_47 : decode cX5_changes 47 = .ok (.aload_n 0, 1) := by decide +kernel
theorem dX5_changes_48 : decode cX5_changes 48 = .ok (.dup, 1) := by decide +kernel
theorem dX5_changes_49 : decode cX5_changes 49 = .ok (.getfield 32, 3) := by decide +kernel
theorem dX5_changes_52 : decode cX5_changes 52 = .ok (.iconst 1, 1) := by decide +kernel
theorem dX5_changes_53 : decode cX5_changes 53 = .ok (.isub, 1) := by decide +kernel
theorem dX5_changes_54 : decode cX5_changes 54 = .ok (.putfield 32, 3) := by decide +kernel
theorem dX5_changes_57 : decode cX5_changes 57 = .ok (.iconst 0, 1) := by decide +kernel
theorem dX5_changes_58 : decode cX5_changes 58 = .ok (.istore_n 1, 1) := by decide +kernel
theorem dX5_changes_59 : decode cX5_changes 59 = .ok (.iload_n 1, 1) := by decide +kernel
theorem dX5_changes_60 : decode cX5_changes 60 = .ok (.sipush 215, 3) := by decide +kernel
theorem dX5_changes_63 : decode cX5_changes 63 = .ok (.if_icmp .ge 30, 3) := by decide +kernel
theorem dX5_changes_66 : decode cX5_changes 66 = .ok (.aload_n 0, 1) := by decide +kernel
theorem dX5_changes_67 : decode cX5_changes 67 = .ok (.getfield 13, 3) := by decide +kernel
theorem dX5_changes_70 : decode cX5_changes 70 = .ok (.sipush 215, 3) := by decide +kernel
theorem dX5_changes_73 : decode cX5_changes 73 = .ok (.aload_n 0, 1) := by decide +kernel
theorem dX5_changes_74 : decode cX5_changes 74 = .ok (.getfield 32, 3) := by decide +kernel
theorem dX5_changes_77 : decode cX5_changes 77 = .ok (.imul, 1) := by decide +kernel
theorem dX5_changes_78 : decode cX5_changes 78 = .ok (.iload_n 1, 1) := by decide +kernel
theorem dX5_changes_79 : decode cX5_changes 79 = .ok (.iadd, 1) := by decide +kernel
theorem dX5_changes_80 : decode cX5_changes 80 = .ok (.aload_n 0, 1) := by decide +kernel
theorem dX5_changes_81 : decode cX5_changes 81 = .ok (.getfield 7, 3) := by decide +kernel
theorem dX5_changes_84 : decode cX5_changes 84 = .ok (.iload_n 1, 1) := by decide +kernel
theorem dX5_changes_85 : decode cX5_changes 85 = .ok (.iaload, 1) := by decide +kernel
theorem dX5_changes_86 : decode cX5_changes 86 = .ok (.iastore, 1) := by decide +kernel
theorem dX5_changes_87 : decode cX5_changes 87 = .ok (.iinc 1 1, 3) := by decide +kernel
theorem dX5_changes_90 : decode cX5_changes 90 = .ok (.goto (-31), 3) := by decide +kernel
theorem dX5_changes_93 : decode cX5_changes 93 = .ok (.aload_n 0, 1) := by decide +kernel
theorem dX5_changes_94 : decode cX5_changes 94 = .ok (.dup, 1) := by decide +kernel
theorem dX5_changes_95 : decode cX5_changes 95 = .ok (.getfield 32, 3) := by decide +kernel
theorem dX5_changes_98 : decode cX5_changes 98 = .ok (.iconst 1, 1) := by decide +kernel
theorem dX5_changes_99 : decode cX5_changes 99 = .ok (.iadd, 1) := by decide +kernel
theorem dX5_changes_100 : decode cX5_changes 100 = .ok (.putfield 32, 3) := by decide +kernel
theorem dX5_changes_103 : decode cX5_changes 103 = .ok (.return_, 1) := by decide +kernel
theorem dX5_of_0 : decode cX5_of 0 = .ok (.aload_n 0, 1) := by decide +kernel
theorem dX5_of_1 : decode cX5_of 1 = .ok (.getfield 7, 3) := by decide +kernel
theorem dX5_of_4 : decode cX5_of 4 = .ok (.bipush 11, 2) := by decide +kernel
theorem dX5_of_6 : decode cX5_of 6 = .ok (.iload_n 1, 1) := by decide +kernel
theorem dX5_of_7 : decode cX5_of 7 = .ok (.imul, 1) := by decide +kernel
theorem dX5_of_8 : decode cX5_of 8 = .ok (.iload_n 2, 1) := by decide +kernel
theorem dX5_of_9 : decode cX5_of 9 = .ok (.iadd, 1) := by decide +kernel
theorem dX5_of_10 : decode cX5_of 10 = .ok (.iaload, 1) := by decide +kernel
theorem dX5_of_11 : decode cX5_of 11 = .ok (.ireturn, 1) := by decide +kernel
theorem dX5_adds_0 : decode cX5_adds 0 = .ok (.aload_n 0, 1) := by decide +kernel
theorem dX5_adds_1 : decode cX5_adds 1 = .ok (.getfield 7, 3) := by decide +kernel
theorem dX5_adds_4 : decode cX5_adds 4 = .ok (.bipush 11, 2) := by decide +kernel
theorem dX5_adds_6 : decode cX5_adds 6 = .ok (.iload_n 1, 1) := by decide +kernel
theorem dX5_adds_7 : decode cX5_adds 7 = .ok (.imul, 1) := by decide +kernel
theorem dX5_adds_8 : decode cX5_adds 8 = .ok (.iload_n 2, 1) := by decide +kernel
theorem dX5_adds_9 : decode cX5_adds 9 = .ok (.iadd, 1) := by decide +kernel
theorem dX5_adds_10 : decode cX5_adds 10 = .ok (.dup2, 1) := by decide +kernel
theorem dX5_adds_11 : decode cX5_adds 11 = .ok (.iaload, 1) := by decide +kernel
theorem dX5_adds_12 : decode cX5_adds 12 = .ok (.iload_n 3, 1) := by decide +kernel
theorem dX5_adds_13 : decode cX5_adds 13 = .ok (.iadd, 1) := by decide +kernel
theorem dX5_adds_14 : decode cX5_adds 14 = .ok (.iastore, 1) := by decide +kernel
theorem dX5_adds_15 : decode cX5_adds 15 = .ok (.return_, 1) := by decide +kernel
theorem dX5_lay_0 : decode cX5_lay 0 = .ok (.aload_n 0, 1) := by decide +kernel
theorem dX5_lay_1 : decode cX5_lay 1 = .ok (.getfield 7, 3) := by decide +kernel
theorem dX5_lay_4 : decode cX5_lay 4 = .ok (.bipush 11, 2) := by decide +kernel
theorem dX5_lay_6 : decode cX5_lay 6 = .ok (.iload_n 1, 1) := by decide +kernel
theorem dX5_lay_7 : decode cX5_lay 7 = .ok (.imul, 1) := by decide +kernel
theorem dX5_lay_8 : decode cX5_lay 8 = .ok (.iload_n 2, 1) := by decide +kernel
theorem dX5_lay_9 : decode cX5_lay 9 = .ok (.iadd, 1) := by decide +kernel
theorem dX5_lay_10 : decode cX5_lay 10 = .ok (.iload_n 3, 1) := by decide +kernel
theorem dX5_lay_11 : decode cX5_lay 11 = .ok (.iastore, 1) := by decide +kernel
theorem dX5_lay_12 : decode cX5_lay 12 = .ok (.return_, 1) := by decide +kernel
theorem dX5_isBidder_0 : decode cX5_isBidder 0 = .ok (.iload_n 1, 1) := by decide +kernel
theorem dX5_isBidder_1 : decode cX5_isBidder 1 = .ok (.iconst 0, 1) := by decide +kernel
theorem dX5_isBidder_2 : decode cX5_isBidder 2 = .ok (.aload_n 0, 1) := by decide +kernel
theorem dX5_isBidder_3 : decode cX5_isBidder 3 = .ok (.getfield 7, 3) := by decide +kernel
theorem dX5_isBidder_6 : decode cX5_isBidder 6 = .ok (.sipush 199, 3) := by decide +kernel
theorem dX5_isBidder_9 : decode cX5_isBidder 9 = .ok (.iaload, 1) := by decide +kernel
theorem dX5_isBidder_10 : decode cX5_isBidder 10 = .ok (.iconst 1, 1) := by decide +kernel
theorem dX5_isBidder_11 : decode cX5_isBidder 11 = .ok (.isub, 1) := by decide +kernel
theorem dX5_isBidder_12 : decode cX5_isBidder 12 = .ok (.invokestatic 36, 3) := by decide +kernel
theorem dX5_isBidder_15 : decode cX5_isBidder 15 = .ok (.ireturn, 1) := by decide +kernel
theorem dX5_isSeat_0 : decode cX5_isSeat 0 = .ok (.iload_n 0, 1) := by decide +kernel
theorem dX5_isSeat_1 : decode cX5_isSeat 1 = .ok (.iconst 0, 1) := by decide +kernel
theorem dX5_isSeat_2 : decode cX5_isSeat 2 = .ok (.iconst 5, 1) := by decide +kernel
theorem dX5_isSeat_3 : decode cX5_isSeat 3 = .ok (.invokestatic 36, 3) := by decide +kernel
theorem dX5_isSeat_6 : decode cX5_isSeat 6 = .ok (.ifCond .eq 17, 3) := by decide +kernel
theorem dX5_isSeat_9 : decode cX5_isSeat 9 = .ok (.iload_n 1, 1) := by decide +kernel
theorem dX5_isSeat_10 : decode cX5_isSeat 10 = .ok (.iconst 0, 1) := by decide +kernel
theorem dX5_isSeat_11 : decode cX5_isSeat 11 = .ok (.bipush 7, 2) := by decide +kernel
theorem dX5_isSeat_13 : decode cX5_isSeat 13 = .ok (.invokestatic 36, 3) := by decide +kernel
theorem dX5_isSeat_16 : decode cX5_isSeat 16 = .ok (.ifCond .eq 7, 3) := by decide +kernel
theorem dX5_isSeat_19 : decode cX5_isSeat 19 = .ok (.iconst 1, 1) := by decide +kernel
theorem dX5_isSeat_20 : decode cX5_isSeat 20 = .ok (.goto 4, 3) := by decide +kernel
theorem dX5_isSeat_23 : decode cX5_isSeat 23 = .ok (.iconst 0, 1) := by decide +kernel
theorem dX5_isSeat_24 : decode cX5_isSeat 24 = .ok (.ireturn, 1) := by decide +kernel
theorem dX5_seated_0 : decode cX5_seated 0 = .ok (.iconst 0, 1) := by decide +kernel
theorem dX5_seated_1 : decode cX5_seated 1 = .ok (.istore_n 3, 1) := by decide +kernel
theorem dX5_seated_2 : decode cX5_seated 2 = .ok (.iload_n 3, 1) := by decide +kernel
theorem dX5_seated_3 : decode cX5_seated 3 = .ok (.aload_n 0, 1) := by decide +kernel
theorem dX5_seated_4 : decode cX5_seated 4 = .ok (.getfield 7, 3) := by decide +kernel
theorem dX5_seated_7 : decode cX5_seated 7 = .ok (.sipush 199, 3) := by decide +kernel
theorem dX5_seated_10 : decode cX5_seated 10 = .ok (.iaload, 1) := by decide +kernel
theorem dX5_seated_11 : decode cX5_seated 11 = .ok (.if_icmp .ge 31, 3) := by decide +kernel
theorem dX5_seated_14 : decode cX5_seated 14 = .ok (.aload_n 0, 1) := by decide +kernel
theorem dX5_seated_15 : decode cX5_seated 15 = .ok (.iload_n 3, 1) := by decide +kernel
theorem dX5_seated_16 : decode cX5_seated 16 = .ok (.iconst 0, 1) := by decide +kernel
theorem dX5_seated_17 : decode cX5_seated 17 = .ok (.invokevirtual 40, 3) := by decide +kernel
theorem dX5_seated_20 : decode cX5_seated 20 = .ok (.iload_n 1, 1) := by decide +kernel
theorem dX5_seated_21 : decode cX5_seated 21 = .ok (.if_icmp .ne 15, 3) := by decide +kernel
theorem dX5_seated_24 : decode cX5_seated 24 = .ok (.aload_n 0, 1) := by decide +kernel
theorem dX5_seated_25 : decode cX5_seated 25 = .ok (.iload_n 3, 1) := by decide +kernel
theorem dX5_seated_26 : decode cX5_seated 26 = .ok (.iconst 1, 1) := by decide +kernel
theorem dX5_seated_27 : decode cX5_seated 27 = .ok (.invokevirtual 40, 3) := by decide +kernel
theorem dX5_seated_30 : decode cX5_seated 30 = .ok (.iload_n 2, 1) := by decide +kernel
theorem dX5_seated_31 : decode cX5_seated 31 = .ok (.if_icmp .ne 5, 3) := by decide +kernel
theorem dX5_seated_34 : decode cX5_seated 34 = .ok (.iload_n 3, 1) := by decide +kernel
theorem dX5_seated_35 : decode cX5_seated 35 = .ok (.ireturn, 1) := by decide +kernel
theorem dX5_seated_36 : decode cX5_seated 36 = .ok (.iinc 3 1, 3) := by decide +kernel
theorem dX5_seated_39 : decode cX5_seated 39 = .ok (.goto (-37), 3) := by decide +kernel
theorem dX5_seated_42 : decode cX5_seated 42 = .ok (.ldc 44, 2) := by decide +kernel
theorem dX5_seated_44 : decode cX5_seated 44 = .ok (.ireturn, 1) := by decide +kernel
theorem dX5_loud_0 : decode cX5_loud 0 = .ok (.aload_n 0, 1) := by decide +kernel
theorem dX5_loud_1 : decode cX5_loud 1 = .ok (.iload_n 1, 1) := by decide +kernel
theorem dX5_loud_2 : decode cX5_loud 2 = .ok (.iconst 3, 1) := by decide +kernel
theorem dX5_loud_3 : decode cX5_loud 3 = .ok (.invokevirtual 40, 3) := by decide +kernel
theorem dX5_loud_6 : decode cX5_loud 6 = .ok (.aload_n 0, 1) := by decide +kernel
theorem dX5_loud_7 : decode cX5_loud 7 = .ok (.iload_n 1, 1) := by decide +kernel
theorem dX5_loud_8 : decode cX5_loud 8 = .ok (.iconst 4, 1) := by decide +kernel
theorem dX5_loud_9 : decode cX5_loud 9 = .ok (.invokevirtual 40, 3) := by decide +kernel
theorem dX5_loud_12 : decode cX5_loud 12 = .ok (.iadd, 1) := by decide +kernel
theorem dX5_loud_13 : decode cX5_loud 13 = .ok (.aload_n 0, 1) := by decide +kernel
theorem dX5_loud_14 : decode cX5_loud 14 = .ok (.iload_n 1, 1) := by decide +kernel
theorem dX5_loud_15 : decode cX5_loud 15 = .ok (.iconst 5, 1) := by decide +kernel
theorem dX5_loud_16 : decode cX5_loud 16 = .ok (.invokevirtual 40, 3) := by decide +kernel
theorem dX5_loud_19 : decode cX5_loud 19 = .ok (.isub, 1) := by decide +kernel
theorem dX5_loud_20 : decode cX5_loud 20 = .ok (.aload_n 0, 1) := by decide +kernel
theorem dX5_loud_21 : decode cX5_loud 21 = .ok (.iload_n 1, 1) := by decide +kernel
theorem dX5_loud_22 : decode cX5_loud 22 = .ok (.iconst 0, 1) := by decide +kernel
theorem dX5_loud_23 : decode cX5_loud 23 = .ok (.invokevirtual 40, 3) := by decide +kernel
theorem dX5_loud_26 : decode cX5_loud 26 = .ok (.isub, 1) := by decide +kernel
theorem dX5_loud_27 : decode cX5_loud 27 = .ok (.ireturn, 1) := by decide +kernel
theorem dX5_asked_0 : decode cX5_asked 0 = .ok (.aload_n 0, 1) := by decide +kernel
theorem dX5_asked_1 : decode cX5_asked 1 = .ok (.getfield 7, 3) := by decide +kernel
theorem dX5_asked_4 : decode cX5_asked 4 = .ok (.sipush 152, 3) := by decide +kernel
theorem dX5_asked_7 : decode cX5_asked 7 = .ok (.iaload, 1) := by decide +kernel
theorem dX5_asked_8 : decode cX5_asked 8 = .ok (.ifCond .le 23, 3) := by decide +kernel
theorem dX5_asked_11 : decode cX5_asked 11 = .ok (.aload_n 0, 1) := by decide +kernel
theorem dX5_asked_12 : decode cX5_asked 12 = .ok (.getfield 7, 3) := by decide +kernel
theorem dX5_asked_15 : decode cX5_asked 15 = .ok (.sipush 151, 3) := by decide +kernel
theorem dX5_asked_18 : decode cX5_asked 18 = .ok (.iaload, 1) := by decide +kernel
theorem dX5_asked_19 : decode cX5_asked 19 = .ok (.aload_n 0, 1) := by decide +kernel
theorem dX5_asked_20 : decode cX5_asked 20 = .ok (.getfield 7, 3) := by decide +kernel
theorem dX5_asked_23 : decode cX5_asked 23 = .ok (.sipush 150, 3) := by decide +kernel
theorem dX5_asked_26 : decode cX5_asked 26 = .ok (.iaload, 1) := by decide +kernel
theorem dX5_asked_27 : decode cX5_asked 27 = .ok (.iadd, 1) := by decide +kernel
theorem dX5_asked_28 : decode cX5_asked 28 = .ok (.goto 11, 3) := by decide +kernel
theorem dX5_asked_31 : decode cX5_asked 31 = .ok (.aload_n 0, 1) := by decide +kernel
theorem dX5_asked_32 : decode cX5_asked 32 = .ok (.getfield 7, 3) := by decide +kernel
theorem dX5_asked_35 : decode cX5_asked 35 = .ok (.sipush 149, 3) := by decide +kernel
theorem dX5_asked_38 : decode cX5_asked 38 = .ok (.iaload, 1) := by decide +kernel
theorem dX5_asked_39 : decode cX5_asked 39 = .ok (.ireturn, 1) := by decide +kernel
theorem dX5_barred_0 : decode cX5_barred 0 = .ok (.aload_n 0, 1) := by decide +kernel
theorem dX5_barred_1 : decode cX5_barred 1 = .ok (.getfield 7, 3) := by decide +kernel
theorem dX5_barred_4 : decode cX5_barred 4 = .ok (.sipush 148, 3) := by decide +kernel
theorem dX5_barred_7 : decode cX5_barred 7 = .ok (.iaload, 1) := by decide +kernel
theorem dX5_barred_8 : decode cX5_barred 8 = .ok (.ifCond .ne 5, 3) := by decide +kernel
theorem dX5_barred_11 : decode cX5_barred 11 = .ok (.iconst 1, 1) := by decide +kernel
theorem dX5_barred_12 : decode cX5_barred 12 = .ok (.ireturn, 1) := by decide +kernel
theorem dX5_barred_13 : decode cX5_barred 13 = .ok (.aload_n 0, 1) := by decide +kernel
theorem dX5_barred_14 : decode cX5_barred 14 = .ok (.iload_n 1, 1) := by decide +kernel
theorem dX5_barred_15 : decode cX5_barred 15 = .ok (.invokevirtual 45, 3) := by decide +kernel
theorem dX5_barred_18 : decode cX5_barred 18 = .ok (.aload_n 0, 1) := by decide +kernel
theorem dX5_barred_19 : decode cX5_barred 19 = .ok (.getfield 7, 3) := by decide +kernel
theorem dX5_barred_22 : decode cX5_barred 22 = .ok (.sipush 212, 3) := by decide +kernel
theorem dX5_barred_25 : decode cX5_barred 25 = .ok (.iaload, 1) := by decide +kernel
theorem dX5_barred_26 : decode cX5_barred 26 = .ok (.if_icmp .ge 7, 3) := by decide +kernel
theorem dX5_barred_29 : decode cX5_barred 29 = .ok (.iconst 2, 1) := by decide +kernel
theorem dX5_barred_30 : decode cX5_barred 30 = .ok (.goto 39, 3) := by decide +kernel
theorem dX5_barred_33 : decode cX5_barred 33 = .ok (.aload_n 0, 1) := by decide +kernel
theorem dX5_barred_34 : decode cX5_barred 34 = .ok (.getfield 7, 3) := by decide +kernel
theorem dX5_barred_37 : decode cX5_barred 37 = .ok (.sipush 152, 3) := by decide +kernel
theorem dX5_barred_40 : decode cX5_barred 40 = .ok (.iaload, 1) := by decide +kernel
theorem dX5_barred_41 : decode cX5_barred 41 = .ok (.iload_n 1, 1) := by decide +kernel
theorem dX5_barred_42 : decode cX5_barred 42 = .ok (.iconst 1, 1) := by decide +kernel
theorem dX5_barred_43 : decode cX5_barred 43 = .ok (.iadd, 1) := by decide +kernel
theorem dX5_barred_44 : decode cX5_barred 44 = .ok (.if_icmp .ne 7, 3) := by decide +kernel
theorem dX5_barred_47 : decode cX5_barred 47 = .ok (.iconst 3, 1) := by decide +kernel
theorem dX5_barred_48 : decode cX5_barred 48 = .ok (.goto 21, 3) := by decide +kernel
theorem dX5_barred_51 : decode cX5_barred 51 = .ok (.aload_n 0, 1) := by decide +kernel
theorem dX5_barred_52 : decode cX5_barred 52 = .ok (.iload_n 1, 1) := by decide +kernel
theorem dX5_barred_53 : decode cX5_barred 53 = .ok (.iconst 2, 1) := by decide +kernel
theorem dX5_barred_54 : decode cX5_barred 54 = .ok (.invokevirtual 40, 3) := by decide +kernel
theorem dX5_barred_57 : decode cX5_barred 57 = .ok (.aload_n 0, 1) := by decide +kernel
theorem dX5_barred_58 : decode cX5_barred 58 = .ok (.invokevirtual 49, 3) := by decide +kernel
theorem dX5_barred_61 : decode cX5_barred 61 = .ok (.if_icmp .ge 7, 3) := by decide +kernel
theorem dX5_barred_64 : decode cX5_barred 64 = .ok (.iconst 4, 1) := by decide +kernel
theorem dX5_barred_65 : decode cX5_barred 65 = .ok (.goto 4, 3) := by decide +kernel
theorem dX5_barred_68 : decode cX5_barred 68 = .ok (.iconst 0, 1) := by decide +kernel
theorem dX5_barred_69 : decode cX5_barred 69 = .ok (.ireturn, 1) := by decide +kernel
theorem dX5_goes_0 : decode cX5_goes 0 = .ok (.bipush 39, 2) := by decide +kernel
theorem dX5_goes_2 : decode cX5_goes 2 = .ok (.istore_n 2, 1) := by decide +kernel
theorem dX5_goes_3 : decode cX5_goes 3 = .ok (.iload_n 2, 1) := by decide +kernel
theorem dX5_goes_4 : decode cX5_goes 4 = .ok (.iconst 5, 1) := by decide +kernel
theorem dX5_goes_5 : decode cX5_goes 5 = .ok (.if_icmp .lt 31, 3) := by decide +kernel
theorem dX5_goes_8 : decode cX5_goes 8 = .ok (.aload_n 0, 1) := by decide +kernel
theorem dX5_goes_9 : decode cX5_goes 9 = .ok (.getfield 7, 3) := by decide +kernel
theorem dX5_goes_12 : decode cX5_goes 12 = .ok (.sipush 158, 3) := by decide +kernel
theorem dX5_goes_15 : decode cX5_goes 15 = .ok (.iload_n 2, 1) := by decide +kernel
theorem dX5_goes_16 : decode cX5_goes 16 = .ok (.iadd, 1) := by decide +kernel
theorem dX5_goes_17 : decode cX5_goes 17 = .ok (.aload_n 0, 1) := by decide +kernel
theorem dX5_goes_18 : decode cX5_goes 18 = .ok (.getfield 7, 3) := by decide +kernel
theorem dX5_goes_21 : decode cX5_goes 21 = .ok (.sipush 158, 3) := by decide +kernel
theorem dX5_goes_24 : decode cX5_goes 24 = .ok (.iload_n 2, 1) := by decide +kernel
theorem dX5_goes_25 : decode cX5_goes 25 = .ok (.iadd, 1) := by decide +kernel
theorem dX5_goes_26 : decode cX5_goes 26 = .ok (.iconst 5, 1) := by decide +kernel
theorem dX5_goes_27 : decode cX5_goes 27 = .ok (.isub, 1) := by decide +kernel
theorem dX5_goes_28 : decode cX5_goes 28 = .ok (.iaload, 1) := by decide +kernel
theorem dX5_goes_29 : decode cX5_goes 29 = .ok (.iastore, 1) := by decide +kernel
theorem dX5_goes_30 : decode cX5_goes 30 = .ok (.iinc 2 (-1), 3) := by decide +kernel
theorem dX5_goes_33 : decode cX5_goes 33 = .ok (.goto (-30), 3) := by decide +kernel
theorem dX5_goes_36 : decode cX5_goes 36 = .ok (.aload_n 0, 1) := by decide +kernel
theorem dX5_goes_37 : decode cX5_goes 37 = .ok (.getfield 7, 3) := by decide +kernel
theorem dX5_goes_40 : decode cX5_goes 40 = .ok (.sipush 158, 3) := by decide +kernel
theorem dX5_goes_43 : decode cX5_goes 43 = .ok (.iload_n 1, 1) := by decide +kernel
theorem dX5_goes_44 : decode cX5_goes 44 = .ok (.iastore, 1) := by decide +kernel
theorem dX5_goes_45 : decode cX5_goes 45 = .ok (.aload_n 0, 1) := by decide +kernel
theorem dX5_goes_46 : decode cX5_goes 46 = .ok (.getfield 7, 3) := by decide +kernel
theorem dX5_goes_49 : decode cX5_goes 49 = .ok (.sipush 159, 3) := by decide +kernel
theorem dX5_goes_52 : decode cX5_goes 52 = .ok (.aload_n 0, 1) := by decide +kernel
theorem dX5_goes_53 : decode cX5_goes 53 = .ok (.getfield 7, 3) := by decide +kernel
theorem dX5_goes_56 : decode cX5_goes 56 = .ok (.sipush 151, 3) := by decide +kernel
theorem dX5_goes_59 : decode cX5_goes 59 = .ok (.iaload, 1) := by decide +kernel
theorem dX5_goes_60 : decode cX5_goes 60 = .ok (.iastore, 1) := by decide +kernel
theorem dX5_goes_61 : decode cX5_goes 61 = .ok (.aload_n 0, 1) := by decide +kernel
theorem dX5_goes_62 : decode cX5_goes 62 = .ok (.getfield 7, 3) := by decide +kernel
theorem dX5_goes_65 : decode cX5_goes 65 = .ok (.sipush 160, 3) := by decide +kernel
theorem dX5_goes_68 : decode cX5_goes 68 = .ok (.aload_n 0, 1) := by decide +kernel
theorem dX5_goes_69 : decode cX5_goes 69 = .ok (.getfield 7, 3) := by decide +kernel
theorem dX5_goes_72 : decode cX5_goes 72 = .ok (.sipush 152, 3) := by decide +kernel
theorem dX5_goes_75 : decode cX5_goes 75 = .ok (.iaload, 1) := by decide +kernel
theorem dX5_goes_76 : decode cX5_goes 76 = .ok (.iastore, 1) := by decide +kernel
theorem dX5_goes_77 : decode cX5_goes 77 = .ok (.aload_n 0, 1) := by decide +kernel
theorem dX5_goes_78 : decode cX5_goes 78 = .ok (.getfield 7, 3) := by decide +kernel
theorem dX5_goes_81 : decode cX5_goes 81 = .ok (.sipush 161, 3) := by decide +kernel
theorem dX5_goes_84 : decode cX5_goes 84 = .ok (.aload_n 0, 1) := by decide +kernel
theorem dX5_goes_85 : decode cX5_goes 85 = .ok (.getfield 7, 3) := by decide +kernel
theorem dX5_goes_88 : decode cX5_goes 88 = .ok (.sipush 153, 3) := by decide +kernel
theorem dX5_goes_91 : decode cX5_goes 91 = .ok (.iaload, 1) := by decide +kernel
theorem dX5_goes_92 : decode cX5_goes 92 = .ok (.iastore, 1) := by decide +kernel
theorem dX5_goes_93 : decode cX5_goes 93 = .ok (.aload_n 0, 1) := by decide +kernel
theorem dX5_goes_94 : decode cX5_goes 94 = .ok (.getfield 7, 3) := by decide +kernel
theorem dX5_goes_97 : decode cX5_goes 97 = .ok (.sipush 162, 3) := by decide +kernel
theorem dX5_goes_100 : decode cX5_goes 100 = .ok (.aload_n 0, 1) := by decide +kernel
theorem dX5_goes_101 : decode cX5_goes 101 = .ok (.getfield 7, 3) := by decide +kernel
theorem dX5_goes_104 : decode cX5_goes 104 = .ok (.sipush 155, 3) := by decide +kernel
theorem dX5_goes_107 : decode cX5_goes 107 = .ok (.iaload, 1) := by decide +kernel
theorem dX5_goes_108 : decode cX5_goes 108 = .ok (.iastore, 1) := by decide +kernel
theorem dX5_goes_109 : decode cX5_goes 109 = .ok (.aload_n 0, 1) := by decide +kernel
theorem dX5_goes_110 : decode cX5_goes 110 = .ok (.getfield 7, 3) := by decide +kernel
theorem dX5_goes_113 : decode cX5_goes 113 = .ok (.sipush 210, 3) := by decide +kernel
theorem dX5_goes_116 : decode cX5_goes 116 = .ok (.dup2, 1) := by decide +kernel
theorem dX5_goes_117 : decode cX5_goes 117 = .ok (.iaload, 1) := by decide +kernel
theorem dX5_goes_118 : decode cX5_goes 118 = .ok (.aload_n 0, 1) := by decide +kernel
theorem dX5_goes_119 : decode cX5_goes 119 = .ok (.getfield 7, 3) := by decide +kernel
theorem dX5_goes_122 : decode cX5_goes 122 = .ok (.sipush 210, 3) := by decide +kernel
theorem dX5_goes_125 : decode cX5_goes 125 = .ok (.iaload, 1) := by decide +kernel
theorem dX5_goes_126 : decode cX5_goes 126 = .ok (.bipush 8, 2) := by decide +kernel
theorem dX5_goes_128 : decode cX5_goes 128 = .ok (.if_icmp .ge 7, 3) := by decide +kernel
theorem dX5_goes_131 : decode cX5_goes 131 = .ok (.iconst 1, 1) := by decide +kernel
theorem dX5_goes_132 : decode cX5_goes 132 = .ok (.goto 4, 3) := by decide +kernel
theorem dX5_goes_135 : decode cX5_goes 135 = .ok (.iconst 0, 1) := by decide +kernel
theorem dX5_goes_136 : decode cX5_goes 136 = .ok (.iadd, 1) := by decide +kernel
theorem dX5_goes_137 : decode cX5_goes 137 = .ok (.iastore, 1) := by decide +kernel
theorem dX5_goes_138 : decode cX5_goes 138 = .ok (.aload_n 0, 1) := by decide +kernel
theorem dX5_goes_139 : decode cX5_goes 139 = .ok (.getfield 7, 3) := by decide +kernel
theorem dX5_goes_142 : decode cX5_goes 142 = .ok (.iload_n 1, 1) := by decide +kernel
theorem dX5_goes_143 : decode cX5_goes 143 = .ok (.iconst 3, 1) := by decide +kernel
theorem dX5_goes_144 : decode cX5_goes 144 = .ok (.if_icmp .ne 9, 3) := by decide +kernel
theorem dX5_goes_147 : decode cX5_goes 147 = .ok (.sipush 211, 3) := by decide +kernel
theorem dX5_goes_150 : decode cX5_goes 150 = .ok (.goto 8, 3) := by decide +kernel
theorem dX5_goes_153 : decode cX5_goes 153 = .ok (.sipush 202, 3) := by decide +kernel
theorem dX5_goes_156 : decode cX5_goes 156 = .ok (.iload_n 1, 1) := by decide +kernel
theorem dX5_goes_157 : decode cX5_goes 157 = .ok (.iadd, 1) := by decide +kernel
theorem dX5_goes_158 : decode cX5_goes 158 = .ok (.dup2, 1) := by decide +kernel
theorem dX5_goes_159 : decode cX5_goes 159 = .ok (.iaload, 1) := by decide +kernel
theorem dX5_goes_160 : decode cX5_goes 160 = .ok (.iconst 1, 1) := by decide +kernel
theorem dX5_goes_161 : decode cX5_goes 161 = .ok (.iadd, 1) := by decide +kernel
theorem dX5_goes_162 : decode cX5_goes 162 = .ok (.iastore, 1) := by decide +kernel
theorem dX5_goes_163 : decode cX5_goes 163 = .ok (.aload_n 0, 1) := by decide +kernel
theorem dX5_goes_164 : decode cX5_goes 164 = .ok (.getfield 7, 3) := by decide +kernel
theorem dX5_goes_167 : decode cX5_goes 167 = .ok (.sipush 148, 3) := by decide +kernel
theorem dX5_goes_170 : decode cX5_goes 170 = .ok (.iconst 0, 1) := by decide +kernel
theorem dX5_goes_171 : decode cX5_goes 171 = .ok (.iastore, 1) := by decide +kernel
theorem dX5_goes_172 : decode cX5_goes 172 = .ok (.return_, 1) := by decide +kernel
theorem dX5_coughs_0 : decode cX5_coughs 0 = .ok (.aload_n 0, 1) := by decide +kernel
theorem dX5_coughs_1 : decode cX5_coughs 1 = .ok (.iload_n 1, 1) := by decide +kernel
theorem dX5_coughs_2 : decode cX5_coughs 2 = .ok (.invokevirtual 53, 3) := by decide +kernel
theorem dX5_coughs_5 : decode cX5_coughs 5 = .ok (.istore_n 3, 1) := by decide +kernel
theorem dX5_coughs_6 : decode cX5_coughs 6 = .ok (.aload_n 0, 1) := by decide +kernel
theorem dX5_coughs_7 : decode cX5_coughs 7 = .ok (.iload_n 1, 1) := by decide +kernel
theorem dX5_coughs_8 : decode cX5_coughs 8 = .ok (.bipush 6, 2) := by decide +kernel
theorem dX5_coughs_10 : decode cX5_coughs 10 = .ok (.iconst 1, 1) := by decide +kernel
theorem dX5_coughs_11 : decode cX5_coughs 11 = .ok (.invokevirtual 56, 3) := by decide +kernel
theorem dX5_coughs_14 : decode cX5_coughs 14 = .ok (.aload_n 0, 1) := by decide +kernel
theorem dX5_coughs_15 : decode cX5_coughs 15 = .ok (.getfield 7, 3) := by decide +kernel
theorem dX5_coughs_18 : decode cX5_coughs 18 = .ok (.sipush 206, 3) := by decide +kernel
theorem dX5_coughs_21 : decode cX5_coughs 21 = .ok (.dup2, 1) := by decide +kernel
theorem dX5_coughs_22 : decode cX5_coughs 22 = .ok (.iaload, 1) := by decide +kernel
theorem dX5_coughs_23 : decode cX5_coughs 23 = .ok (.iconst 1, 1) := by decide +kernel
theorem dX5_coughs_24 : decode cX5_coughs 24 = .ok (.iadd, 1) := by decide +kernel
theorem dX5_coughs_25 : decode cX5_coughs 25 = .ok (.iastore, 1) := by decide +kernel
theorem dX5_coughs_26 : decode cX5_coughs 26 = .ok (.iload_n 3, 1) := by decide +kernel
theorem dX5_coughs_27 : decode cX5_coughs 27 = .ok (.ifCond .le 5, 3) := by decide +kernel
theorem dX5_coughs_30 : decode cX5_coughs 30 = .ok (.iconst 0, 1) := by decide +kernel
theorem dX5_coughs_31 : decode cX5_coughs 31 = .ok (.ireturn, 1) := by decide +kernel
theorem dX5_coughs_32 : decode cX5_coughs 32 = .ok (.aload_n 0, 1) := by decide +kernel
theorem dX5_coughs_33 : decode cX5_coughs 33 = .ok (.getfield 7, 3) := by decide +kernel
theorem dX5_coughs_36 : decode cX5_coughs 36 = .ok (.sipush 151, 3) := by decide +kernel
theorem dX5_coughs_39 : decode cX5_coughs 39 = .ok (.aload_n 0, 1) := by decide +kernel
theorem dX5_coughs_40 : decode cX5_coughs 40 = .ok (.invokevirtual 49, 3) := by decide +kernel
theorem dX5_coughs_43 : decode cX5_coughs 43 = .ok (.iastore, 1) := by decide +kernel
theorem dX5_coughs_44 : decode cX5_coughs 44 = .ok (.aload_n 0, 1) := by decide +kernel
theorem dX5_coughs_45 : decode cX5_coughs 45 = .ok (.getfield 7, 3) := by decide +kernel
theorem dX5_coughs_48 : decode cX5_coughs 48 = .ok (.sipush 152, 3) := by decide +kernel
theorem dX5_coughs_51 : decode cX5_coughs 51 = .ok (.iload_n 1, 1) := by decide +kernel
theorem dX5_coughs_52 : decode cX5_coughs 52 = .ok (.iconst 1, 1) := by decide +kernel
theorem dX5_coughs_53 : decode cX5_coughs 53 = .ok (.iadd, 1) := by decide +kernel
theorem dX5_coughs_54 : decode cX5_coughs 54 = .ok (.iastore, 1) := by decide +kernel
theorem dX5_coughs_55 : decode cX5_coughs 55 = .ok (.aload_n 0, 1) := by decide +kernel
theorem dX5_coughs_56 : decode cX5_coughs 56 = .ok (.getfield 7, 3) := by decide +kernel
theorem dX5_coughs_59 : decode cX5_coughs 59 = .ok (.sipush 156, 3) := by decide +kernel
theorem dX5_coughs_62 : decode cX5_coughs 62 = .ok (.iload_n 2, 1) := by decide +kernel
theorem dX5_coughs_63 : decode cX5_coughs 63 = .ok (.iastore, 1) := by decide +kernel
theorem dX5_coughs_64 : decode cX5_coughs 64 = .ok (.aload_n 0, 1) := by decide +kernel
theorem dX5_coughs_65 : decode cX5_coughs 65 = .ok (.getfield 7, 3) := by decide +kernel
theorem dX5_coughs_68 : decode cX5_coughs 68 = .ok (.sipush 157, 3) := by decide +kernel
theorem dX5_coughs_71 : decode cX5_coughs 71 = .ok (.iconst 1, 1) := by decide +kernel
theorem dX5_coughs_72 : decode cX5_coughs 72 = .ok (.iastore, 1) := by decide +kernel
theorem dX5_coughs_73 : decode cX5_coughs 73 = .ok (.aload_n 0, 1) := by decide +kernel
theorem dX5_coughs_74 : decode cX5_coughs 74 = .ok (.getfield 7, 3) := by decide +kernel
theorem dX5_coughs_77 : decode cX5_coughs 77 = .ok (.sipush 155, 3) := by decide +kernel
theorem dX5_coughs_80 : decode cX5_coughs 80 = .ok (.dup2, 1) := by decide +kernel
theorem dX5_coughs_81 : decode cX5_coughs 81 = .ok (.iaload, 1) := by decide +kernel
theorem dX5_coughs_82 : decode cX5_coughs 82 = .ok (.iconst 1, 1) := by decide +kernel
theorem dX5_coughs_83 : decode cX5_coughs 83 = .ok (.iadd, 1) := by decide +kernel
theorem dX5_coughs_84 : decode cX5_coughs 84 = .ok (.iastore, 1) := by decide +kernel
theorem dX5_coughs_85 : decode cX5_coughs 85 = .ok (.aload_n 0, 1) := by decide +kernel
theorem dX5_coughs_86 : decode cX5_coughs 86 = .ok (.getfield 7, 3) := by decide +kernel
theorem dX5_coughs_89 : decode cX5_coughs 89 = .ok (.sipush 207, 3) := by decide +kernel
theorem dX5_coughs_92 : decode cX5_coughs 92 = .ok (.dup2, 1) := by decide +kernel
theorem dX5_coughs_93 : decode cX5_coughs 93 = .ok (.iaload, 1) := by decide +kernel
theorem dX5_coughs_94 : decode cX5_coughs 94 = .ok (.iconst 1, 1) := by decide +kernel
theorem dX5_coughs_95 : decode cX5_coughs 95 = .ok (.iadd, 1) := by decide +kernel
theorem dX5_coughs_96 : decode cX5_coughs 96 = .ok (.iastore, 1) := by decide +kernel
theorem dX5_coughs_97 : decode cX5_coughs 97 = .ok (.aload_n 0, 1) := by decide +kernel
theorem dX5_coughs_98 : decode cX5_coughs 98 = .ok (.iload_n 1, 1) := by decide +kernel
theorem dX5_coughs_99 : decode cX5_coughs 99 = .ok (.bipush 7, 2) := by decide +kernel
theorem dX5_coughs_101 : decode cX5_coughs 101 = .ok (.iconst 1, 1) := by decide +kernel
theorem dX5_coughs_102 : decode cX5_coughs 102 = .ok (.invokevirtual 56, 3) := by decide +kernel
theorem dX5_coughs_105 : decode cX5_coughs 105 = .ok (.aload_n 0, 1) := by decide +kernel
theorem dX5_coughs_106 : decode cX5_coughs 106 = .ok (.iload_n 1, 1) := by decide +kernel
theorem dX5_coughs_107 : decode cX5_coughs 107 = .ok (.iconst 4, 1) := by decide +kernel
theorem dX5_coughs_108 : decode cX5_coughs 108 = .ok (.invokevirtual 40, 3) := by decide +kernel
theorem dX5_coughs_111 : decode cX5_coughs 111 = .ok (.aload_n 0, 1) := by decide +kernel
theorem dX5_coughs_112 : decode cX5_coughs 112 = .ok (.iload_n 1, 1) := by decide +kernel
theorem dX5_coughs_113 : decode cX5_coughs 113 = .ok (.iconst 3, 1) := by decide +kernel
theorem dX5_coughs_114 : decode cX5_coughs 114 = .ok (.invokevirtual 40, 3) := by decide +kernel
theorem dX5_coughs_117 : decode cX5_coughs 117 = .ok (.if_icmp .le 51, 3) := by decide +kernel
theorem dX5_coughs_120 : decode cX5_coughs 120 = .ok (.aload_n 0, 1) := by decide +kernel
theorem dX5_coughs_121 : decode cX5_coughs 121 = .ok (.getfield 7, 3) := by decide +kernel
theorem dX5_coughs_124 : decode cX5_coughs 124 = .ok (.sipush 153, 3) := by decide +kernel
theorem dX5_coughs_127 : decode cX5_coughs 127 = .ok (.dup2, 1) := by decide +kernel
theorem dX5_coughs_128 : decode cX5_coughs 128 = .ok (.iaload, 1) := by decide +kernel
theorem dX5_coughs_129 : decode cX5_coughs 129 = .ok (.iconst 1, 1) := by decide +kernel
theorem dX5_coughs_130 : decode cX5_coughs 130 = .ok (.iadd, 1) := by decide +kernel
theorem dX5_coughs_131 : decode cX5_coughs 131 = .ok (.iastore, 1) := by decide +kernel
theorem dX5_coughs_132 : decode cX5_coughs 132 = .ok (.aload_n 0, 1) := by decide +kernel
theorem dX5_coughs_133 : decode cX5_coughs 133 = .ok (.getfield 7, 3) := by decide +kernel
theorem dX5_coughs_136 : decode cX5_coughs 136 = .ok (.sipush 208, 3) := by decide +kernel
theorem dX5_coughs_139 : decode cX5_coughs 139 = .ok (.dup2, 1) := by decide +kernel
theorem dX5_coughs_140 : decode cX5_coughs 140 = .ok (.iaload, 1) := by decide +kernel
theorem dX5_coughs_141 : decode cX5_coughs 141 = .ok (.iconst 1, 1) := by decide +kernel
theorem dX5_coughs_142 : decode cX5_coughs 142 = .ok (.iadd, 1) := by decide +kernel
theorem dX5_coughs_143 : decode cX5_coughs 143 = .ok (.iastore, 1) := by decide +kernel
theorem dX5_coughs_144 : decode cX5_coughs 144 = .ok (.aload_n 0, 1) := by decide +kernel
theorem dX5_coughs_145 : decode cX5_coughs 145 = .ok (.getfield 7, 3) := by decide +kernel
theorem dX5_coughs_148 : decode cX5_coughs 148 = .ok (.sipush 153, 3) := by decide +kernel
theorem dX5_coughs_151 : decode cX5_coughs 151 = .ok (.iaload, 1) := by decide +kernel
theorem dX5_coughs_152 : decode cX5_coughs 152 = .ok (.aload_n 0, 1) := by decide +kernel
theorem dX5_coughs_153 : decode cX5_coughs 153 = .ok (.getfield 7, 3) := by decide +kernel
theorem dX5_coughs_156 : decode cX5_coughs 156 = .ok (.sipush 213, 3) := by decide +kernel
theorem dX5_coughs_159 : decode cX5_coughs 159 = .ok (.iaload, 1) := by decide +kernel
theorem dX5_coughs_160 : decode cX5_coughs 160 = .ok (.if_icmp .lt 8, 3) := by decide +kernel
theorem dX5_coughs_163 : decode cX5_coughs 163 = .ok (.aload_n 0, 1) := by decide +kernel
theorem dX5_coughs_164 : decode cX5_coughs 164 = .ok (.iconst 1, 1) := by decide +kernel
theorem dX5_coughs_165 : decode cX5_coughs 165 = .ok (.invokevirtual 60, 3) := by decide +kernel
theorem dX5_coughs_168 : decode cX5_coughs 168 = .ok (.aload_n 0, 1) := by decide +kernel
theorem dX5_coughs_169 : decode cX5_coughs 169 = .ok (.getfield 7, 3) := by decide +kernel
theorem dX5_coughs_172 : decode cX5_coughs 172 = .ok (.sipush 151, 3) := by decide +kernel
theorem dX5_coughs_175 : decode cX5_coughs 175 = .ok (.iaload, 1) := by decide +kernel
theorem dX5_coughs_176 : decode cX5_coughs 176 = .ok (.ireturn, 1) := by decide +kernel
theorem dX5_coughsNext_0 : decode cX5_coughsNext 0 = .ok (.aload_n 0, 1) := by decide +kernel
theorem dX5_coughsNext_1 : decode cX5_coughsNext 1 = .ok (.iload_n 1, 1) := by decide +kernel
theorem dX5_coughsNext_2 : decode cX5_coughsNext 2 = .ok (.iconst 4, 1) := by decide +kernel
theorem dX5_coughsNext_3 : decode cX5_coughsNext 3 = .ok (.invokevirtual 40, 3) := by decide +kernel
theorem dX5_coughsNext_6 : decode cX5_coughsNext 6 = .ok (.istore_n 2, 1) := by decide +kernel
theorem dX5_coughsNext_7 : decode cX5_coughsNext 7 = .ok (.iload_n 2, 1) := by decide +kernel
theorem dX5_coughsNext_8 : decode cX5_coughsNext 8 = .ok (.ifCond .le 25, 3) := by decide +kernel
theorem dX5_coughsNext_11 : decode cX5_coughsNext 11 = .ok (.aload_n 0, 1) := by decide +kernel
theorem dX5_coughsNext_12 : decode cX5_coughsNext 12 = .ok (.getfield 7, 3) := by decide +kernel
theorem dX5_coughsNext_15 : decode cX5_coughsNext 15 = .ok (.sipush 198, 3) := by decide +kernel
theorem dX5_coughsNext_18 : decode cX5_coughsNext 18 = .ok (.iaload, 1) := by decide +kernel
theorem dX5_coughsNext_19 : decode cX5_coughsNext 19 = .ok (.iload_n 1, 1) := by decide +kernel
theorem dX5_coughsNext_20 : decode cX5_coughsNext 20 = .ok (.iadd, 1) := by decide +kernel
theorem dX5_coughsNext_21 : decode cX5_coughsNext 21 = .ok (.bipush 7, 2) := by decide +kernel
theorem dX5_coughsNext_23 : decode cX5_coughsNext 23 = .ok (.iload_n 2, 1) := by decide +kernel
theorem dX5_coughsNext_24 : decode cX5_coughsNext 24 = .ok (.isub, 1) := by decide +kernel
theorem dX5_coughsNext_25 : decode cX5_coughsNext 25 = .ok (.irem, 1) := by decide +kernel
theorem dX5_coughsNext_26 : decode cX5_coughsNext 26 = .ok (.ifCond .ne 7, 3) := by decide +kernel
theorem dX5_coughsNext_29 : decode cX5_coughsNext 29 = .ok (.iconst 1, 1) := by decide +kernel
theorem dX5_coughsNext_30 : decode cX5_coughsNext 30 = .ok (.goto 4, 3) := by decide +kernel
theorem dX5_coughsNext_33 : decode cX5_coughsNext 33 = .ok (.iconst 0, 1) := by decide +kernel
theorem dX5_coughsNext_34 : decode cX5_coughsNext 34 = .ok (.ireturn, 1) := by decide +kernel
theorem dX5_hammers_0 : decode cX5_hammers 0 = .ok (.aload_n 0, 1) := by decide +kernel
theorem dX5_hammers_1 : decode cX5_hammers 1 = .ok (.getfield 7, 3) := by decide +kernel
theorem dX5_hammers_4 : decode cX5_hammers 4 = .ok (.sipush 152, 3) := by decide +kernel
theorem dX5_hammers_7 : decode cX5_hammers 7 = .ok (.iaload, 1) := by decide +kernel
theorem dX5_hammers_8 : decode cX5_hammers 8 = .ok (.ifCond .ne 11, 3) := by decide +kernel
theorem dX5_hammers_11 : decode cX5_hammers 11 = .ok (.aload_n 0, 1) := by decide +kernel
theorem dX5_hammers_12 : decode cX5_hammers 12 = .ok (.iconst 2, 1) := by decide +kernel
theorem dX5_hammers_13 : decode cX5_hammers 13 = .ok (.invokevirtual 60, 3) := by decide +kernel
theorem dX5_hammers_16 : decode cX5_hammers 16 = .ok (.goto 96, 3) := by decide +kernel
theorem dX5_hammers_19 : decode cX5_hammers 19 = .ok (.aload_n 0, 1) := by decide +kernel
theorem dX5_hammers_20 : decode cX5_hammers 20 = .ok (.getfield 7, 3) := by decide +kernel
theorem dX5_hammers_23 : decode cX5_hammers 23 = .ok (.sipush 156, 3) := by decide +kernel
theorem dX5_hammers_26 : decode cX5_hammers 26 = .ok (.iaload, 1) := by decide +kernel
theorem dX5_hammers_27 : decode cX5_hammers 27 = .ok (.iconst 1, 1) := by decide +kernel
theorem dX5_hammers_28 : decode cX5_hammers 28 = .ok (.if_icmp .ne 11, 3) := by decide +kernel
theorem dX5_hammers_31 : decode cX5_hammers 31 = .ok (.aload_n 0, 1) := by decide +kernel
theorem dX5_hammers_32 : decode cX5_hammers 32 = .ok (.iconst 3, 1) := by decide +kernel
theorem dX5_hammers_33 : decode cX5_hammers 33 = .ok (.invokevirtual 60, 3) := by decide +kernel
theorem dX5_hammers_36 : decode cX5_hammers 36 = .ok (.goto 76, 3) := by decide +kernel
theorem dX5_hammers_39 : decode cX5_hammers 39 = .ok (.aload_n 0, 1) := by decide +kernel
theorem dX5_hammers_40 : decode cX5_hammers 40 = .ok (.getfield 7, 3) := by decide +kernel
theorem dX5_hammers_43 : decode cX5_hammers 43 = .ok (.sipush 152, 3) := by decide +kernel
theorem dX5_hammers_46 : decode cX5_hammers 46 = .ok (.iaload, 1) := by decide +kernel
theorem dX5_hammers_47 : decode cX5_hammers 47 = .ok (.iconst 1, 1) := by decide +kernel
theorem dX5_hammers_48 : decode cX5_hammers 48 = .ok (.isub, 1) := by decide +kernel
theorem dX5_hammers_49 : decode cX5_hammers 49 = .ok (.istore_n 1, 1) := by decide +kernel
theorem dX5_hammers_50 : decode cX5_hammers 50 = .ok (.aload_n 0, 1) := by decide +kernel
theorem dX5_hammers_51 : decode cX5_hammers 51 = .ok (.iload_n 1, 1) := by decide +kernel
theorem dX5_hammers_52 : decode cX5_hammers 52 = .ok (.iconst 2, 1) := by decide +kernel
theorem dX5_hammers_53 : decode cX5_hammers 53 = .ok (.aload_n 0, 1) := by decide +kernel
theorem dX5_hammers_54 : decode cX5_hammers 54 = .ok (.getfield 7, 3) := by decide +kernel
theorem dX5_hammers_57 : decode cX5_hammers 57 = .ok (.sipush 151, 3) := by decide +kernel
theorem dX5_hammers_60 : decode cX5_hammers 60 = .ok (.iaload, 1) := by decide +kernel
theorem dX5_hammers_61 : decode cX5_hammers 61 = .ok (.ineg, 1) := by decide +kernel
theorem dX5_hammers_62 : decode cX5_hammers 62 = .ok (.invokevirtual 56, 3) := by decide +kernel
theorem dX5_hammers_65 : decode cX5_hammers 65 = .ok (.aload_n 0, 1) := by decide +kernel
theorem dX5_hammers_66 : decode cX5_hammers 66 = .ok (.iload_n 1, 1) := by decide +kernel
theorem dX5_hammers_67 : decode cX5_hammers 67 = .ok (.bipush 9, 2) := by decide +kernel
theorem dX5_hammers_69 : decode cX5_hammers 69 = .ok (.aload_n 0, 1) := by decide +kernel
theorem dX5_hammers_70 : decode cX5_hammers 70 = .ok (.getfield 7, 3) := by decide +kernel
theorem dX5_hammers_73 : decode cX5_hammers 73 = .ok (.sipush 151, 3) := by decide +kernel
theorem dX5_hammers_76 : decode cX5_hammers 76 = .ok (.iaload, 1) := by decide +kernel
theorem dX5_hammers_77 : decode cX5_hammers 77 = .ok (.invokevirtual 56, 3) := by decide +kernel
theorem dX5_hammers_80 : decode cX5_hammers 80 = .ok (.aload_n 0, 1) := by decide +kernel
theorem dX5_hammers_81 : decode cX5_hammers 81 = .ok (.iload_n 1, 1) := by decide +kernel
theorem dX5_hammers_82 : decode cX5_hammers 82 = .ok (.bipush 8, 2) := by decide +kernel
theorem dX5_hammers_84 : decode cX5_hammers 84 = .ok (.iconst 1, 1) := by decide +kernel
theorem dX5_hammers_85 : decode cX5_hammers 85 = .ok (.invokevirtual 56, 3) := by decide +kernel
theorem dX5_hammers_88 : decode cX5_hammers 88 = .ok (.aload_n 0, 1) := by decide +kernel
theorem dX5_hammers_89 : decode cX5_hammers 89 = .ok (.getfield 7, 3) := by decide +kernel
theorem dX5_hammers_92 : decode cX5_hammers 92 = .ok (.sipush 205, 3) := by decide +kernel
theorem dX5_hammers_95 : decode cX5_hammers 95 = .ok (.dup2, 1) := by decide +kernel
theorem dX5_hammers_96 : decode cX5_hammers 96 = .ok (.iaload, 1) := by decide +kernel
theorem dX5_hammers_97 : decode cX5_hammers 97 = .ok (.aload_n 0, 1) := by decide +kernel
theorem dX5_hammers_98 : decode cX5_hammers 98 = .ok (.getfield 7, 3) := by decide +kernel
theorem dX5_hammers_101 : decode cX5_hammers 101 = .ok (.sipush 151, 3) := by decide +kernel
theorem dX5_hammers_104 : decode cX5_hammers 104 = .ok (.iaload, 1) := by decide +kernel
theorem dX5_hammers_105 : decode cX5_hammers 105 = .ok (.iadd, 1) := by decide +kernel
theorem dX5_hammers_106 : decode cX5_hammers 106 = .ok (.iastore, 1) := by decide +kernel
theorem dX5_hammers_107 : decode cX5_hammers 107 = .ok (.aload_n 0, 1) := by decide +kernel
theorem dX5_hammers_108 : decode cX5_hammers 108 = .ok (.iconst 0, 1) := by decide +kernel
theorem dX5_hammers_109 : decode cX5_hammers 109 = .ok (.invokevirtual 60, 3) := by decide +kernel
theorem dX5_hammers_112 : decode cX5_hammers 112 = .ok (.return_, 1) := by decide +kernel
theorem dX5_beat_0 : decode cX5_beat 0 = .ok (.aload_n 0, 1) := by decide +kernel
theorem dX5_beat_1 : decode cX5_beat 1 = .ok (.getfield 7, 3) := by decide +kernel
theorem dX5_beat_4 : decode cX5_beat 4 = .ok (.sipush 148, 3) := by decide +kernel
theorem dX5_beat_7 : decode cX5_beat 7 = .ok (.iaload, 1) := by decide +kernel
theorem dX5_beat_8 : decode cX5_beat 8 = .ok (.iconst 1, 1) := by decide +kernel
theorem dX5_beat_9 : decode cX5_beat 9 = .ok (.if_icmp .ne 7, 3) := by decide +kernel
theorem dX5_beat_12 : decode cX5_beat 12 = .ok (.iconst 1, 1) := by decide +kernel
theorem dX5_beat_13 : decode cX5_beat 13 = .ok (.goto 4, 3) := by decide +kernel
theorem dX5_beat_16 : decode cX5_beat 16 = .ok (.iconst 0, 1) := by decide +kernel
theorem dX5_beat_17 : decode cX5_beat 17 = .ok (.istore_n 1, 1) := by decide +kernel
theorem dX5_beat_18 : decode cX5_beat 18 = .ok (.iconst 0, 1) := by decide +kernel
theorem dX5_beat_19 : decode cX5_beat 19 = .ok (.istore_n 2, 1) := by decide +kernel
theorem dX5_beat_20 : decode cX5_beat 20 = .ok (.iload_n 2, 1) := by decide +kernel
theorem dX5_beat_21 : decode cX5_beat 21 = .ok (.aload_n 0, 1) := by decide +kernel
theorem dX5_beat_22 : decode cX5_beat 22 = .ok (.getfield 7, 3) := by decide +kernel
theorem dX5_beat_25 : decode cX5_beat 25 = .ok (.sipush 199, 3) := by decide +kernel
theorem dX5_beat_28 : decode cX5_beat 28 = .ok (.iaload, 1) := by decide +kernel
theorem dX5_beat_29 : decode cX5_beat 29 = .ok (.if_icmp .ge 38, 3) := by decide +kernel
theorem dX5_beat_32 : decode cX5_beat 32 = .ok (.iload_n 1, 1) := by decide +kernel
theorem dX5_beat_33 : decode cX5_beat 33 = .ok (.ifCond .eq 34, 3) := by decide +kernel
theorem dX5_beat_36 : decode cX5_beat 36 = .ok (.aload_n 0, 1) := by decide +kernel
theorem dX5_beat_37 : decode cX5_beat 37 = .ok (.iload_n 2, 1) := by decide +kernel
theorem dX5_beat_38 : decode cX5_beat 38 = .ok (.invokevirtual 64, 3) := by decide +kernel
theorem dX5_beat_41 : decode cX5_beat 41 = .ok (.ifCond .eq 20, 3) := by decide +kernel
theorem dX5_beat_44 : decode cX5_beat 44 = .ok (.aload_n 0, 1) := by decide +kernel
theorem dX5_beat_45 : decode cX5_beat 45 = .ok (.iload_n 2, 1) := by decide +kernel
theorem dX5_beat_46 : decode cX5_beat 46 = .ok (.iconst 1, 1) := by decide +kernel
theorem dX5_beat_47 : decode cX5_beat 47 = .ok (.invokevirtual 68, 3) := by decide +kernel
theorem dX5_beat_50 : decode cX5_beat 50 = .ok (.istore_n 3, 1) := by decide +kernel
theorem dX5_beat_51 : decode cX5_beat 51 = .ok (.iload_n 3, 1) := by decide +kernel
theorem dX5_beat_52 : decode cX5_beat 52 = .ok (.ifCond .lt 7, 3) := by decide +kernel
theorem dX5_beat_55 : decode cX5_beat 55 = .ok (.iconst 1, 1) := by decide +kernel
theorem dX5_beat_56 : decode cX5_beat 56 = .ok (.goto 4, 3) := by decide +kernel
theorem dX5_beat_59 : decode cX5_beat 59 = .ok (.iconst 0, 1) := by decide +kernel
theorem dX5_beat_60 : decode cX5_beat 60 = .ok (.istore_n 1, 1) := by decide +kernel
theorem dX5_beat_61 : decode cX5_beat 61 = .ok (.iinc 2 1, 3) := by decide +kernel
theorem dX5_beat_64 : decode cX5_beat 64 = .ok (.goto (-44), 3) := by decide +kernel
theorem dX5_beat_67 : decode cX5_beat 67 = .ok (.aload_n 0, 1) := by decide +kernel
theorem dX5_beat_68 : decode cX5_beat 68 = .ok (.getfield 7, 3) := by decide +kernel
theorem dX5_beat_71 : decode cX5_beat 71 = .ok (.sipush 198, 3) := by decide +kernel
theorem dX5_beat_74 : decode cX5_beat 74 = .ok (.dup2, 1) := by decide +kernel
theorem dX5_beat_75 : decode cX5_beat 75 = .ok (.iaload, 1) := by decide +kernel
theorem dX5_beat_76 : decode cX5_beat 76 = .ok (.iconst 1, 1) := by decide +kernel
theorem dX5_beat_77 : decode cX5_beat 77 = .ok (.iadd, 1) := by decide +kernel
theorem dX5_beat_78 : decode cX5_beat 78 = .ok (.iastore, 1) := by decide +kernel
theorem dX5_beat_79 : decode cX5_beat 79 = .ok (.aload_n 0, 1) := by decide +kernel
theorem dX5_beat_80 : decode cX5_beat 80 = .ok (.getfield 7, 3) := by decide +kernel
theorem dX5_beat_83 : decode cX5_beat 83 = .ok (.sipush 148, 3) := by decide +kernel
theorem dX5_beat_86 : decode cX5_beat 86 = .ok (.iaload, 1) := by decide +kernel
theorem dX5_beat_87 : decode cX5_beat 87 = .ok (.iconst 1, 1) := by decide +kernel
theorem dX5_beat_88 : decode cX5_beat 88 = .ok (.if_icmp .ne 69, 3) := by decide +kernel
theorem dX5_beat_91 : decode cX5_beat 91 = .ok (.aload_n 0, 1) := by decide +kernel
theorem dX5_beat_92 : decode cX5_beat 92 = .ok (.getfield 7, 3) := by decide +kernel
theorem dX5_beat_95 : decode cX5_beat 95 = .ok (.sipush 154, 3) := by decide +kernel
theorem dX5_beat_98 : decode cX5_beat 98 = .ok (.aload_n 0, 1) := by decide +kernel
theorem dX5_beat_99 : decode cX5_beat 99 = .ok (.getfield 7, 3) := by decide +kernel
theorem dX5_beat_102 : decode cX5_beat 102 = .ok (.sipush 157, 3) := by decide +kernel
theorem dX5_beat_105 : decode cX5_beat 105 = .ok (.iaload, 1) := by decide +kernel
theorem dX5_beat_106 : decode cX5_beat 106 = .ok (.iconst 1, 1) := by decide +kernel
theorem dX5_beat_107 : decode cX5_beat 107 = .ok (.if_icmp .ne 7, 3) := by decide +kernel
theorem dX5_beat_110 : decode cX5_beat 110 = .ok (.iconst 0, 1) := by decide +kernel
theorem dX5_beat_111 : decode cX5_beat 111 = .ok (.goto 13, 3) := by decide +kernel
theorem dX5_beat_114 : decode cX5_beat 114 = .ok (.aload_n 0, 1) := by decide +kernel
theorem dX5_beat_115 : decode cX5_beat 115 = .ok (.getfield 7, 3) := by decide +kernel
theorem dX5_beat_118 : decode cX5_beat 118 = .ok (.sipush 154, 3) := by decide +kernel
theorem dX5_beat_121 : decode cX5_beat 121 = .ok (.iaload, 1) := by decide +kernel
theorem dX5_beat_122 : decode cX5_beat 122 = .ok (.iconst 1, 1) := by decide +kernel
theorem dX5_beat_123 : decode cX5_beat 123 = .ok (.iadd, 1) := by decide +kernel
theorem dX5_beat_124 : decode cX5_beat 124 = .ok (.iastore, 1) := by decide +kernel
theorem dX5_beat_125 : decode cX5_beat 125 = .ok (.aload_n 0, 1) := by decide +kernel
theorem dX5_beat_126 : decode cX5_beat 126 = .ok (.getfield 7, 3) := by decide +kernel
theorem dX5_beat_129 : decode cX5_beat 129 = .ok (.sipush 157, 3) := by decide +kernel
theorem dX5_beat_132 : decode cX5_beat 132 = .ok (.iconst 0, 1) := by decide +kernel
theorem dX5_beat_133 : decode cX5_beat 133 = .ok (.iastore, 1) := by decide +kernel
theorem dX5_beat_134 : decode cX5_beat 134 = .ok (.aload_n 0, 1) := by decide +kernel
theorem dX5_beat_135 : decode cX5_beat 135 = .ok (.getfield 7, 3) := by decide +kernel
theorem dX5_beat_138 : decode cX5_beat 138 = .ok (.sipush 154, 3) := by decide +kernel
theorem dX5_beat_141 : decode cX5_beat 141 = .ok (.iaload, 1) := by decide +kernel
theorem dX5_beat_142 : decode cX5_beat 142 = .ok (.aload_n 0, 1) := by decide +kernel
theorem dX5_beat_143 : decode cX5_beat 143 = .ok (.getfield 7, 3) := by decide +kernel
theorem dX5_beat_146 : decode cX5_beat 146 = .ok (.sipush 214, 3) := by decide +kernel
theorem dX5_beat_149 : decode cX5_beat 149 = .ok (.iaload, 1) := by decide +kernel
theorem dX5_beat_150 : decode cX5_beat 150 = .ok (.if_icmp .lt 7, 3) := by decide +kernel
theorem dX5_beat_153 : decode cX5_beat 153 = .ok (.aload_n 0, 1) := by decide +kernel
theorem dX5_beat_154 : decode cX5_beat 154 = .ok (.invokevirtual 71, 3) := by decide +kernel
theorem dX5_beat_157 : decode cX5_beat 157 = .ok (.return_, 1) := by decide +kernel
theorem dX5_bidder_0 : decode cX5_bidder 0 = .ok (.iload_n 1, 1) := by decide +kernel
theorem dX5_bidder_1 : decode cX5_bidder 1 = .ok (.iload_n 2, 1) := by decide +kernel
theorem dX5_bidder_2 : decode cX5_bidder 2 = .ok (.invokestatic 74, 3) := by decide +kernel
theorem dX5_bidder_5 : decode cX5_bidder 5 = .ok (.ifCond .eq 25, 3) := by decide +kernel
theorem dX5_bidder_8 : decode cX5_bidder 8 = .ok (.iload_n 3, 1) := by decide +kernel
theorem dX5_bidder_9 : decode cX5_bidder 9 = .ok (.iconst 0, 1) := by decide +kernel
theorem dX5_bidder_10 : decode cX5_bidder 10 = .ok (.sipush 999, 3) := by decide +kernel
theorem dX5_bidder_13 : decode cX5_bidder 13 = .ok (.invokestatic 36, 3) := by decide +kernel
theorem dX5_bidder_16 : decode cX5_bidder 16 = .ok (.ifCond .eq 14, 3) := by decide +kernel
theorem dX5_bidder_19 : decode cX5_bidder 19 = .ok (.iload 4, 2) := by decide +kernel
theorem dX5_bidder_21 : decode cX5_bidder 21 = .ok (.iconst 1, 1) := by decide +kernel
theorem dX5_bidder_22 : decode cX5_bidder 22 = .ok (.bipush 9, 2) := by decide +kernel
theorem dX5_bidder_24 : decode cX5_bidder 24 = .ok (.invokestatic 36, 3) := by decide +kernel
theorem dX5_bidder_27 : decode cX5_bidder 27 = .ok (.ifCond .ne 6, 3) := by decide +kernel
theorem dX5_bidder_30 : decode cX5_bidder 30 = .ok (.ldc 78, 2) := by decide +kernel
theorem dX5_bidder_32 : decode cX5_bidder 32 = .ok (.ireturn, 1) := by decide +kernel
theorem dX5_bidder_33 : decode cX5_bidder 33 = .ok (.aload_n 0, 1) := by decide +kernel
theorem dX5_bidder_34 : decode cX5_bidder 34 = .ok (.iload_n 1, 1) := by decide +kernel
theorem dX5_bidder_35 : decode cX5_bidder 35 = .ok (.iload_n 2, 1) := by decide +kernel
theorem dX5_bidder_36 : decode cX5_bidder 36 = .ok (.invokevirtual 79, 3) := by decide +kernel
theorem dX5_bidder_39 : decode cX5_bidder 39 = .ok (.ifCond .lt 6, 3) := by decide +kernel
theorem dX5_bidder_42 : decode cX5_bidder 42 = .ok (.ldc 82, 2) := by decide +kernel
theorem dX5_bidder_44 : decode cX5_bidder 44 = .ok (.ireturn, 1) := by decide +kernel
theorem dX5_bidder_45 : decode cX5_bidder 45 = .ok (.aload_n 0, 1) := by decide +kernel
theorem dX5_bidder_46 : decode cX5_bidder 46 = .ok (.getfield 7, 3) := by decide +kernel
theorem dX5_bidder_49 : decode cX5_bidder 49 = .ok (.sipush 199, 3) := by decide +kernel
theorem dX5_bidder_52 : decode cX5_bidder 52 = .ok (.iaload, 1) := by decide +kernel
theorem dX5_bidder_53 : decode cX5_bidder 53 = .ok (.bipush 12, 2) := by decide +kernel
theorem dX5_bidder_55 : decode cX5_bidder 55 = .ok (.if_icmp .ne 6, 3) := by decide +kernel
theorem dX5_bidder_58 : decode cX5_bidder 58 = .ok (.ldc 83, 2) := by decide +kernel
theorem dX5_bidder_60 : decode cX5_bidder 60 = .ok (.ireturn, 1) := by decide +kernel
theorem dX5_bidder_61 : decode cX5_bidder 61 = .ok (.aload_n 0, 1) := by decide +kernel
theorem dX5_bidder_62 : decode cX5_bidder 62 = .ok (.invokevirtual 84, 3) := by decide +kernel
theorem dX5_bidder_65 : decode cX5_bidder 65 = .ok (.aload_n 0, 1) := by decide +kernel
theorem dX5_bidder_66 : decode cX5_bidder 66 = .ok (.getfield 7, 3) := by decide +kernel
theorem dX5_bidder_69 : decode cX5_bidder 69 = .ok (.sipush 199, 3) := by decide +kernel
theorem dX5_bidder_72 : decode cX5_bidder 72 = .ok (.iaload, 1) := by decide +kernel
theorem dX5_bidder_73 : decode cX5_bidder 73 = .ok (.istore 5, 2) := by decide +kernel
theorem dX5_bidder_75 : decode cX5_bidder 75 = .ok (.aload_n 0, 1) := by decide +kernel
theorem dX5_bidder_76 : decode cX5_bidder 76 = .ok (.iload 5, 2) := by decide +kernel
theorem dX5_bidder_78 : decode cX5_bidder 78 = .ok (.iconst 0, 1) := by decide +kernel
theorem dX5_bidder_79 : decode cX5_bidder 79 = .ok (.iload_n 1, 1) := by decide +kernel
theorem dX5_bidder_80 : decode cX5_bidder 80 = .ok (.invokevirtual 87, 3) := by decide +kernel
theorem dX5_bidder_83 : decode cX5_bidder 83 = .ok (.aload_n 0, 1) := by decide +kernel
theorem dX5_bidder_84 : decode cX5_bidder 84 = .ok (.iload 5, 2) := by decide +kernel
theorem dX5_bidder_86 : decode cX5_bidder 86 = .ok (.iconst 1, 1) := by decide +kernel
theorem dX5_bidder_87 : decode cX5_bidder 87 = .ok (.iload_n 2, 1) := by decide +kernel
theorem dX5_bidder_88 : decode cX5_bidder 88 = .ok (.invokevirtual 87, 3) := by decide +kernel
theorem dX5_bidder_91 : decode cX5_bidder 91 = .ok (.aload_n 0, 1) := by decide +kernel
theorem dX5_bidder_92 : decode cX5_bidder 92 = .ok (.iload 5, 2) := by decide +kernel
theorem dX5_bidder_94 : decode cX5_bidder 94 = .ok (.iconst 2, 1) := by decide +kernel
theorem dX5_bidder_95 : decode cX5_bidder 95 = .ok (.iload_n 3, 1) := by decide +kernel
theorem dX5_bidder_96 : decode cX5_bidder 96 = .ok (.invokevirtual 87, 3) := by decide +kernel
theorem dX5_bidder_99 : decode cX5_bidder 99 = .ok (.aload_n 0, 1) := by decide +kernel
theorem dX5_bidder_100 : decode cX5_bidder 100 = .ok (.iload 5, 2) := by decide +kernel
theorem dX5_bidder_102 : decode cX5_bidder 102 = .ok (.iconst 3, 1) := by decide +kernel
theorem dX5_bidder_103 : decode cX5_bidder 103 = .ok (.iload 4, 2) := by decide +kernel
theorem dX5_bidder_105 : decode cX5_bidder 105 = .ok (.invokevirtual 87, 3) := by decide +kernel
theorem dX5_bidder_108 : decode cX5_bidder 108 = .ok (.aload_n 0, 1) := by decide +kernel
theorem dX5_bidder_109 : decode cX5_bidder 109 = .ok (.iload 5, 2) := by decide +kernel
theorem dX5_bidder_111 : decode cX5_bidder 111 = .ok (.bipush 10, 2) := by decide +kernel
theorem dX5_bidder_113 : decode cX5_bidder 113 = .ok (.iload_n 3, 1) := by decide +kernel
theorem dX5_bidder_114 : decode cX5_bidder 114 = .ok (.invokevirtual 87, 3) := by decide +kernel
theorem dX5_bidder_117 : decode cX5_bidder 117 = .ok (.aload_n 0, 1) := by decide +kernel
theorem dX5_bidder_118 : decode cX5_bidder 118 = .ok (.getfield 7, 3) := by decide +kernel
theorem dX5_bidder_121 : decode cX5_bidder 121 = .ok (.sipush 199, 3) := by decide +kernel
theorem dX5_bidder_124 : decode cX5_bidder 124 = .ok (.dup2, 1) := by decide +kernel
theorem dX5_bidder_125 : decode cX5_bidder 125 = .ok (.iaload, 1) := by decide +kernel
theorem dX5_bidder_126 : decode cX5_bidder 126 = .ok (.iconst 1, 1) := by decide +kernel
theorem dX5_bidder_127 : decode cX5_bidder 127 = .ok (.iadd, 1) := by decide +kernel
theorem dX5_bidder_128 : decode cX5_bidder 128 = .ok (.iastore, 1) := by decide +kernel
theorem dX5_bidder_129 : decode cX5_bidder 129 = .ok (.iload 5, 2) := by decide +kernel
theorem dX5_bidder_131 : decode cX5_bidder 131 = .ok (.ireturn, 1) := by decide +kernel
theorem dX5_catches_0 : decode cX5_catches 0 = .ok (.aload_n 0, 1) := by decide +kernel
theorem dX5_catches_1 : decode cX5_catches 1 = .ok (.iload_n 1, 1) := by decide +kernel
theorem dX5_catches_2 : decode cX5_catches 2 = .ok (.invokevirtual 90, 3) := by decide +kernel
theorem dX5_catches_5 : decode cX5_catches 5 = .ok (.ifCond .eq 12, 3) := by decide +kernel
theorem dX5_catches_8 : decode cX5_catches 8 = .ok (.iload_n 2, 1) := by decide +kernel
theorem dX5_catches_9 : decode cX5_catches 9 = .ok (.iconst 0, 1) := by decide +kernel
theorem dX5_catches_10 : decode cX5_catches 10 = .ok (.iconst 5, 1) := by decide +kernel
theorem dX5_catches_11 : decode cX5_catches 11 = .ok (.invokestatic 36, 3) := by decide +kernel
theorem dX5_catches_14 : decode cX5_catches 14 = .ok (.ifCond .ne 6, 3) := by decide +kernel
theorem dX5_catches_17 : decode cX5_catches 17 = .ok (.ldc 78, 2) := by decide +kernel
theorem dX5_catches_19 : decode cX5_catches 19 = .ok (.ireturn, 1) := by decide +kernel
theorem dX5_catches_20 : decode cX5_catches 20 = .ok (.aload_n 0, 1) := by decide +kernel
theorem dX5_catches_21 : decode cX5_catches 21 = .ok (.invokevirtual 84, 3) := by decide +kernel
theorem dX5_catches_24 : decode cX5_catches 24 = .ok (.aload_n 0, 1) := by decide +kernel
theorem dX5_catches_25 : decode cX5_catches 25 = .ok (.iload_n 1, 1) := by decide +kernel
theorem dX5_catches_26 : decode cX5_catches 26 = .ok (.iconst 4, 1) := by decide +kernel
theorem dX5_catches_27 : decode cX5_catches 27 = .ok (.invokevirtual 40, 3) := by decide +kernel
theorem dX5_catches_30 : decode cX5_catches 30 = .ok (.istore_n 3, 1) := by decide +kernel
theorem dX5_catches_31 : decode cX5_catches 31 = .ok (.aload_n 0, 1) := by decide +kernel
theorem dX5_catches_32 : decode cX5_catches 32 = .ok (.iload_n 1, 1) := by decide +kernel
theorem dX5_catches_33 : decode cX5_catches 33 = .ok (.iconst 4, 1) := by decide +kernel
theorem dX5_catches_34 : decode cX5_catches 34 = .ok (.iload_n 2, 1) := by decide +kernel
theorem dX5_catches_35 : decode cX5_catches 35 = .ok (.invokevirtual 87, 3) := by decide +kernel
theorem dX5_catches_38 : decode cX5_catches 38 = .ok (.iload_n 3, 1) := by decide +kernel
theorem dX5_catches_39 : decode cX5_catches 39 = .ok (.ireturn, 1) := by decide +kernel
theorem dX5_muffle_0 : decode cX5_muffle 0 = .ok (.aload_n 0, 1) := by decide +kernel
theorem dX5_muffle_1 : decode cX5_muffle 1 = .ok (.iload_n 1, 1) := by decide +kernel
theorem dX5_muffle_2 : decode cX5_muffle 2 = .ok (.invokevirtual 90, 3) := by decide +kernel
theorem dX5_muffle_5 : decode cX5_muffle 5 = .ok (.ifCond .eq 12, 3) := by decide +kernel
theorem dX5_muffle_8 : decode cX5_muffle 8 = .ok (.iload_n 2, 1) := by decide +kernel
theorem dX5_muffle_9 : decode cX5_muffle 9 = .ok (.iconst 0, 1) := by decide +kernel
theorem dX5_muffle_10 : decode cX5_muffle 10 = .ok (.iconst 5, 1) := by decide +kernel
theorem dX5_muffle_11 : decode cX5_muffle 11 = .ok (.invokestatic 36, 3) := by decide +kernel
theorem dX5_muffle_14 : decode cX5_muffle 14 = .ok (.ifCond .ne 6, 3) := by decide +kernel
theorem dX5_muffle_17 : decode cX5_muffle 17 = .ok (.ldc 78, 2) := by decide +kernel
theorem dX5_muffle_19 : decode cX5_muffle 19 = .ok (.ireturn, 1) := by decide +kernel
theorem dX5_muffle_20 : decode cX5_muffle 20 = .ok (.aload_n 0, 1) := by decide +kernel
theorem dX5_muffle_21 : decode cX5_muffle 21 = .ok (.invokevirtual 84, 3) := by decide +kernel
theorem dX5_muffle_24 : decode cX5_muffle 24 = .ok (.aload_n 0, 1) := by decide +kernel
theorem dX5_muffle_25 : decode cX5_muffle 25 = .ok (.iload_n 1, 1) := by decide +kernel
theorem dX5_muffle_26 : decode cX5_muffle 26 = .ok (.iconst 5, 1) := by decide +kernel
theorem dX5_muffle_27 : decode cX5_muffle 27 = .ok (.invokevirtual 40, 3) := by decide +kernel
theorem dX5_muffle_30 : decode cX5_muffle 30 = .ok (.istore_n 3, 1) := by decide +kernel
theorem dX5_muffle_31 : decode cX5_muffle 31 = .ok (.aload_n 0, 1) := by decide +kernel
theorem dX5_muffle_32 : decode cX5_muffle 32 = .ok (.iload_n 1, 1) := by decide +kernel
theorem dX5_muffle_33 : decode cX5_muffle 33 = .ok (.iconst 5, 1) := by decide +kernel
theorem dX5_muffle_34 : decode cX5_muffle 34 = .ok (.iload_n 2, 1) := by decide +kernel
theorem dX5_muffle_35 : decode cX5_muffle 35 = .ok (.invokevirtual 87, 3) := by decide +kernel
theorem dX5_muffle_38 : decode cX5_muffle 38 = .ok (.iload_n 3, 1) := by decide +kernel
theorem dX5_muffle_39 : decode cX5_muffle 39 = .ok (.ireturn, 1) := by decide +kernel
theorem dX5_lot_0 : decode cX5_lot 0 = .ok (.iload_n 1, 1) := by decide +kernel
theorem dX5_lot_1 : decode cX5_lot 1 = .ok (.iconst 1, 1) := by decide +kernel
theorem dX5_lot_2 : decode cX5_lot 2 = .ok (.bipush 99, 2) := by decide +kernel
theorem dX5_lot_4 : decode cX5_lot 4 = .ok (.invokestatic 36, 3) := by decide +kernel
theorem dX5_lot_7 : decode cX5_lot 7 = .ok (.ifCond .eq 13, 3) := by decide +kernel
theorem dX5_lot_10 : decode cX5_lot 10 = .ok (.iload_n 2, 1) := by decide +kernel
theorem dX5_lot_11 : decode cX5_lot 11 = .ok (.iconst 1, 1) := by decide +kernel
theorem dX5_lot_12 : decode cX5_lot 12 = .ok (.bipush 20, 2) := by decide +kernel
theorem dX5_lot_14 : decode cX5_lot 14 = .ok (.invokestatic 36, 3) := by decide +kernel
theorem dX5_lot_17 : decode cX5_lot 17 = .ok (.ifCond .ne 6, 3) := by decide +kernel
theorem dX5_lot_20 : decode cX5_lot 20 = .ok (.ldc 78, 2) := by decide +kernel
theorem dX5_lot_22 : decode cX5_lot 22 = .ok (.ireturn, 1) := by decide +kernel
theorem dX5_lot_23 : decode cX5_lot 23 = .ok (.aload_n 0, 1) := by decide +kernel
theorem dX5_lot_24 : decode cX5_lot 24 = .ok (.getfield 7, 3) := by decide +kernel
theorem dX5_lot_27 : decode cX5_lot 27 = .ok (.sipush 200, 3) := by decide +kernel
theorem dX5_lot_30 : decode cX5_lot 30 = .ok (.iaload, 1) := by decide +kernel
theorem dX5_lot_31 : decode cX5_lot 31 = .ok (.bipush 8, 2) := by decide +kernel
theorem dX5_lot_33 : decode cX5_lot 33 = .ok (.if_icmp .ne 6, 3) := by decide +kernel
theorem dX5_lot_36 : decode cX5_lot 36 = .ok (.ldc 83, 2) := by decide +kernel
theorem dX5_lot_38 : decode cX5_lot 38 = .ok (.ireturn, 1) := by decide +kernel
theorem dX5_lot_39 : decode cX5_lot 39 = .ok (.aload_n 0, 1) := by decide +kernel
theorem dX5_lot_40 : decode cX5_lot 40 = .ok (.invokevirtual 84, 3) := by decide +kernel
theorem dX5_lot_43 : decode cX5_lot 43 = .ok (.aload_n 0, 1) := by decide +kernel
theorem dX5_lot_44 : decode cX5_lot 44 = .ok (.getfield 7, 3) := by decide +kernel
theorem dX5_lot_47 : decode cX5_lot 47 = .ok (.sipush 132, 3) := by decide +kernel
theorem dX5_lot_50 : decode cX5_lot 50 = .ok (.iconst 2, 1) := by decide +kernel
theorem dX5_lot_51 : decode cX5_lot 51 = .ok (.aload_n 0, 1) := by decide +kernel
theorem dX5_lot_52 : decode cX5_lot 52 = .ok (.getfield 7, 3) := by decide +kernel
theorem dX5_lot_55 : decode cX5_lot 55 = .ok (.sipush 200, 3) := by decide +kernel
theorem dX5_lot_58 : decode cX5_lot 58 = .ok (.iaload, 1) := by decide +kernel
theorem dX5_lot_59 : decode cX5_lot 59 = .ok (.imul, 1) := by decide +kernel
theorem dX5_lot_60 : decode cX5_lot 60 = .ok (.iadd, 1) := by decide +kernel
theorem dX5_lot_61 : decode cX5_lot 61 = .ok (.iload_n 1, 1) := by decide +kernel
theorem dX5_lot_62 : decode cX5_lot 62 = .ok (.iastore, 1) := by decide +kernel
theorem dX5_lot_63 : decode cX5_lot 63 = .ok (.aload_n 0, 1) := by decide +kernel
theorem dX5_lot_64 : decode cX5_lot 64 = .ok (.getfield 7, 3) := by decide +kernel
theorem dX5_lot_67 : decode cX5_lot 67 = .ok (.sipush 132, 3) := by decide +kernel
theorem dX5_lot_70 : decode cX5_lot 70 = .ok (.iconst 2, 1) := by decide +kernel
theorem dX5_lot_71 : decode cX5_lot 71 = .ok (.aload_n 0, 1) := by decide +kernel
theorem dX5_lot_72 : decode cX5_lot 72 = .ok (.getfield 7, 3) := by decide +kernel
theorem dX5_lot_75 : decode cX5_lot 75 = .ok (.sipush 200, 3) := by decide +kernel
theorem dX5_lot_78 : decode cX5_lot 78 = .ok (.iaload, 1) := by decide +kernel
theorem dX5_lot_79 : decode cX5_lot 79 = .ok (.imul, 1) := by decide +kernel
theorem dX5_lot_80 : decode cX5_lot 80 = .ok (.iadd, 1) := by decide +kernel
theorem dX5_lot_81 : decode cX5_lot 81 = .ok (.iconst 1, 1) := by decide +kernel
theorem dX5_lot_82 : decode cX5_lot 82 = .ok (.iadd, 1) := by decide +kernel
theorem dX5_lot_83 : decode cX5_lot 83 = .ok (.iload_n 2, 1) := by decide +kernel
theorem dX5_lot_84 : decode cX5_lot 84 = .ok (.iastore, 1) := by decide +kernel
theorem dX5_lot_85 : decode cX5_lot 85 = .ok (.aload_n 0, 1) := by decide +kernel
theorem dX5_lot_86 : decode cX5_lot 86 = .ok (.getfield 7, 3) := by decide +kernel
theorem dX5_lot_89 : decode cX5_lot 89 = .ok (.sipush 200, 3) := by decide +kernel
theorem dX5_lot_92 : decode cX5_lot 92 = .ok (.dup2, 1) := by decide +kernel
theorem dX5_lot_93 : decode cX5_lot 93 = .ok (.iaload, 1) := by decide +kernel
theorem dX5_lot_94 : decode cX5_lot 94 = .ok (.iconst 1, 1) := by decide +kernel
theorem dX5_lot_95 : decode cX5_lot 95 = .ok (.iadd, 1) := by decide +kernel
theorem dX5_lot_96 : decode cX5_lot 96 = .ok (.iastore, 1) := by decide +kernel
theorem dX5_lot_97 : decode cX5_lot 97 = .ok (.aload_n 0, 1) := by decide +kernel
theorem dX5_lot_98 : decode cX5_lot 98 = .ok (.getfield 7, 3) := by decide +kernel
theorem dX5_lot_101 : decode cX5_lot 101 = .ok (.sipush 201, 3) := by decide +kernel
theorem dX5_lot_104 : decode cX5_lot 104 = .ok (.dup2, 1) := by decide +kernel
theorem dX5_lot_105 : decode cX5_lot 105 = .ok (.iaload, 1) := by decide +kernel
theorem dX5_lot_106 : decode cX5_lot 106 = .ok (.iconst 1, 1) := by decide +kernel
theorem dX5_lot_107 : decode cX5_lot 107 = .ok (.iadd, 1) := by decide +kernel
theorem dX5_lot_108 : decode cX5_lot 108 = .ok (.iastore, 1) := by decide +kernel
theorem dX5_lot_109 : decode cX5_lot 109 = .ok (.aload_n 0, 1) := by decide +kernel
theorem dX5_lot_110 : decode cX5_lot 110 = .ok (.getfield 7, 3) := by decide +kernel
theorem dX5_lot_113 : decode cX5_lot 113 = .ok (.sipush 200, 3) := by decide +kernel
theorem dX5_lot_116 : decode cX5_lot 116 = .ok (.iaload, 1) := by decide +kernel
theorem dX5_lot_117 : decode cX5_lot 117 = .ok (.ireturn, 1) := by decide +kernel
theorem dX5_putUp_0 : decode cX5_putUp 0 = .ok (.aload_n 0, 1) := by decide +kernel
theorem dX5_putUp_1 : decode cX5_putUp 1 = .ok (.getfield 7, 3) := by decide +kernel
theorem dX5_putUp_4 : decode cX5_putUp 4 = .ok (.sipush 148, 3) := by decide +kernel
theorem dX5_putUp_7 : decode cX5_putUp 7 = .ok (.iaload, 1) := by decide +kernel
theorem dX5_putUp_8 : decode cX5_putUp 8 = .ok (.iconst 1, 1) := by decide +kernel
theorem dX5_putUp_9 : decode cX5_putUp 9 = .ok (.if_icmp .eq 14, 3) := by decide +kernel
theorem dX5_putUp_12 : decode cX5_putUp 12 = .ok (.aload_n 0, 1) := by decide +kernel
theorem dX5_putUp_13 : decode cX5_putUp 13 = .ok (.getfield 7, 3) := by decide +kernel
theorem dX5_putUp_16 : decode cX5_putUp 16 = .ok (.sipush 200, 3) := by decide +kernel
theorem dX5_putUp_19 : decode cX5_putUp 19 = .ok (.iaload, 1) := by decide +kernel
theorem dX5_putUp_20 : decode cX5_putUp 20 = .ok (.ifCond .ne 6, 3) := by decide +kernel
theorem dX5_putUp_23 : decode cX5_putUp 23 = .ok (.ldc 82, 2) := by decide +kernel
theorem dX5_putUp_25 : decode cX5_putUp 25 = .ok (.ireturn, 1) := by decide +kernel
theorem dX5_putUp_26 : decode cX5_putUp 26 = .ok (.aload_n 0, 1) := by decide +kernel
theorem dX5_putUp_27 : decode cX5_putUp 27 = .ok (.invokevirtual 84, 3) := by decide +kernel
theorem dX5_putUp_30 : decode cX5_putUp 30 = .ok (.aload_n 0, 1) := by decide +kernel
theorem dX5_putUp_31 : decode cX5_putUp 31 = .ok (.getfield 7, 3) := by decide +kernel
theorem dX5_putUp_34 : decode cX5_putUp 34 = .ok (.sipush 148, 3) := by decide +kernel
theorem dX5_putUp_37 : decode cX5_putUp 37 = .ok (.iconst 1, 1) := by decide +kernel
theorem dX5_putUp_38 : decode cX5_putUp 38 = .ok (.iastore, 1) := by decide +kernel
theorem dX5_putUp_39 : decode cX5_putUp 39 = .ok (.aload_n 0, 1) := by decide +kernel
theorem dX5_putUp_40 : decode cX5_putUp 40 = .ok (.getfield 7, 3) := by decide +kernel
theorem dX5_putUp_43 : decode cX5_putUp 43 = .ok (.sipush 149, 3) := by decide +kernel
theorem dX5_putUp_46 : decode cX5_putUp 46 = .ok (.aload_n 0, 1) := by decide +kernel
theorem dX5_putUp_47 : decode cX5_putUp 47 = .ok (.getfield 7, 3) := by decide +kernel
theorem dX5_putUp_50 : decode cX5_putUp 50 = .ok (.sipush 132, 3) := by decide +kernel
theorem dX5_putUp_53 : decode cX5_putUp 53 = .ok (.iaload, 1) := by decide +kernel
theorem dX5_putUp_54 : decode cX5_putUp 54 = .ok (.iastore, 1) := by decide +kernel
theorem dX5_putUp_55 : decode cX5_putUp 55 = .ok (.aload_n 0, 1) := by decide +kernel
theorem dX5_putUp_56 : decode cX5_putUp 56 = .ok (.getfield 7, 3) := by decide +kernel
theorem dX5_putUp_59 : decode cX5_putUp 59 = .ok (.sipush 150, 3) := by decide +kernel
theorem dX5_putUp_62 : decode cX5_putUp 62 = .ok (.aload_n 0, 1) := by decide +kernel
theorem dX5_putUp_63 : decode cX5_putUp 63 = .ok (.getfield 7, 3) := by decide +kernel
theorem dX5_putUp_66 : decode cX5_putUp 66 = .ok (.sipush 133, 3) := by decide +kernel
theorem dX5_putUp_69 : decode cX5_putUp 69 = .ok (.iaload, 1) := by decide +kernel
theorem dX5_putUp_70 : decode cX5_putUp 70 = .ok (.iastore, 1) := by decide +kernel
theorem dX5_putUp_71 : decode cX5_putUp 71 = .ok (.sipush 151, 3) := by decide +kernel
theorem dX5_putUp_74 : decode cX5_putUp 74 = .ok (.istore_n 1, 1) := by decide +kernel
theorem dX5_putUp_75 : decode cX5_putUp 75 = .ok (.iload_n 1, 1) := by decide +kernel
theorem dX5_putUp_76 : decode cX5_putUp 76 = .ok (.sipush 157, 3) := by decide +kernel
theorem dX5_putUp_79 : decode cX5_putUp 79 = .ok (.if_icmp .gt 16, 3) := by decide +kernel
theorem dX5_putUp_82 : decode cX5_putUp 82 = .ok (.aload_n 0, 1) := by decide +kernel
theorem dX5_putUp_83 : decode cX5_putUp 83 = .ok (.getfield 7, 3) := by decide +kernel
theorem dX5_putUp_86 : decode cX5_putUp 86 = .ok (.iload_n 1, 1) := by decide +kernel
theorem dX5_putUp_87 : decode cX5_putUp 87 = .ok (.iconst 0, 1) := by decide +kernel
theorem dX5_putUp_88 : decode cX5_putUp 88 = .ok (.iastore, 1) := by decide +kernel
theorem dX5_putUp_89 : decode cX5_putUp 89 = .ok (.iinc 1 1, 3) := by decide +kernel
theorem dX5_putUp_92 : decode cX5_putUp 92 = .ok (.goto (-17), 3) := by decide +kernel
theorem dX5_putUp_95 : decode cX5_putUp 95 = .ok (.aload_n 0, 1) := by decide +kernel
theorem dX5_putUp_96 : decode cX5_putUp 96 = .ok (.getfield 7, 3) := by decide +kernel
theorem dX5_putUp_99 : decode cX5_putUp 99 = .ok (.sipush 200, 3) := by decide +kernel
theorem dX5_putUp_102 : decode cX5_putUp 102 = .ok (.dup2, 1) := by decide +kernel
theorem dX5_putUp_103 : decode cX5_putUp 103 = .ok (.iaload, 1) := by decide +kernel
theorem dX5_putUp_104 : decode cX5_putUp 104 = .ok (.iconst 1, 1) := by decide +kernel
theorem dX5_putUp_105 : decode cX5_putUp 105 = .ok (.isub, 1) := by decide +kernel
theorem dX5_putUp_106 : decode cX5_putUp 106 = .ok (.iastore, 1) := by decide +kernel
theorem dX5_putUp_107 : decode cX5_putUp 107 = .ok (.iconst 0, 1) := by decide +kernel
theorem dX5_putUp_108 : decode cX5_putUp 108 = .ok (.istore_n 1, 1) := by decide +kernel
theorem dX5_putUp_109 : decode cX5_putUp 109 = .ok (.iload_n 1, 1) := by decide +kernel
theorem dX5_putUp_110 : decode cX5_putUp 110 = .ok (.iconst 2, 1) := by decide +kernel
theorem dX5_putUp_111 : decode cX5_putUp 111 = .ok (.aload_n 0, 1) := by decide +kernel
theorem dX5_putUp_112 : decode cX5_putUp 112 = .ok (.getfield 7, 3) := by decide +kernel
theorem dX5_putUp_115 : decode cX5_putUp 115 = .ok (.sipush 200, 3) := by decide +kernel
theorem dX5_putUp_118 : decode cX5_putUp 118 = .ok (.iaload, 1) := by decide +kernel
theorem dX5_putUp_119 : decode cX5_putUp 119 = .ok (.imul, 1) := by decide +kernel
theorem dX5_putUp_120 : decode cX5_putUp 120 = .ok (.if_icmp .ge 31, 3) := by decide +kernel
theorem dX5_putUp_123 : decode cX5_putUp 123 = .ok (.aload_n 0, 1) := by decide +kernel
theorem dX5_putUp_124 : decode cX5_putUp 124 = .ok (.getfield 7, 3) := by decide +kernel
theorem dX5_putUp_127 : decode cX5_putUp 127 = .ok (.sipush 132, 3) := by decide +kernel
theorem dX5_putUp_130 : decode cX5_putUp 130 = .ok (.iload_n 1, 1) := by decide +kernel
theorem dX5_putUp_131 : decode cX5_putUp 131 = .ok (.iadd, 1) := by decide +kernel
theorem dX5_putUp_132 : decode cX5_putUp 132 = .ok (.aload_n 0, 1) := by decide +kernel
theorem dX5_putUp_133 : decode cX5_putUp 133 = .ok (.getfield 7, 3) := by decide +kernel
theorem dX5_putUp_136 : decode cX5_putUp 136 = .ok (.sipush 132, 3) := by decide +kernel
theorem dX5_putUp_139 : decode cX5_putUp 139 = .ok (.iload_n 1, 1) := by decide +kernel
theorem dX5_putUp_140 : decode cX5_putUp 140 = .ok (.iadd, 1) := by decide +kernel
theorem dX5_putUp_141 : decode cX5_putUp 141 = .ok (.iconst 2, 1) := by decide +kernel
theorem dX5_putUp_142 : decode cX5_putUp 142 = .ok (.iadd, 1) := by decide +kernel
theorem dX5_putUp_143 : decode cX5_putUp 143 = .ok (.iaload, 1) := by decide +kernel
theorem dX5_putUp_144 : decode cX5_putUp 144 = .ok (.iastore, 1) := by decide +kernel
theorem dX5_putUp_145 : decode cX5_putUp 145 = .ok (.iinc 1 1, 3) := by decide +kernel
theorem dX5_putUp_148 : decode cX5_putUp 148 = .ok (.goto (-39), 3) := by decide +kernel
theorem dX5_putUp_151 : decode cX5_putUp 151 = .ok (.aload_n 0, 1) := by decide +kernel
theorem dX5_putUp_152 : decode cX5_putUp 152 = .ok (.getfield 7, 3) := by decide +kernel
theorem dX5_putUp_155 : decode cX5_putUp 155 = .ok (.sipush 149, 3) := by decide +kernel
theorem dX5_putUp_158 : decode cX5_putUp 158 = .ok (.iaload, 1) := by decide +kernel
theorem dX5_putUp_159 : decode cX5_putUp 159 = .ok (.ireturn, 1) := by decide +kernel
theorem dX5_cough_0 : decode cX5_cough 0 = .ok (.aload_n 0, 1) := by decide +kernel
theorem dX5_cough_1 : decode cX5_cough 1 = .ok (.iload_n 1, 1) := by decide +kernel
theorem dX5_cough_2 : decode cX5_cough 2 = .ok (.invokevirtual 90, 3) := by decide +kernel
theorem dX5_cough_5 : decode cX5_cough 5 = .ok (.ifCond .ne 6, 3) := by decide +kernel
theorem dX5_cough_8 : decode cX5_cough 8 = .ok (.ldc 78, 2) := by decide +kernel
theorem dX5_cough_10 : decode cX5_cough 10 = .ok (.ireturn, 1) := by decide +kernel
theorem dX5_cough_11 : decode cX5_cough 11 = .ok (.aload_n 0, 1) := by decide +kernel
theorem dX5_cough_12 : decode cX5_cough 12 = .ok (.invokevirtual 84, 3) := by decide +kernel
theorem dX5_cough_15 : decode cX5_cough 15 = .ok (.aload_n 0, 1) := by decide +kernel
theorem dX5_cough_16 : decode cX5_cough 16 = .ok (.iload_n 1, 1) := by decide +kernel
theorem dX5_cough_17 : decode cX5_cough 17 = .ok (.iconst 0, 1) := by decide +kernel
theorem dX5_cough_18 : decode cX5_cough 18 = .ok (.invokevirtual 68, 3) := by decide +kernel
theorem dX5_cough_21 : decode cX5_cough 21 = .ok (.ireturn, 1) := by decide +kernel
theorem dX5_pass_0 : decode cX5_pass 0 = .ok (.iconst 0, 1) := by decide +kernel
theorem dX5_pass_1 : decode cX5_pass 1 = .ok (.istore_n 2, 1) := by decide +kernel
theorem dX5_pass_2 : decode cX5_pass 2 = .ok (.iload_n 2, 1) := by decide +kernel
theorem dX5_pass_3 : decode cX5_pass 3 = .ok (.iload_n 1, 1) := by decide +kernel
theorem dX5_pass_4 : decode cX5_pass 4 = .ok (.if_icmp .ge 13, 3) := by decide +kernel
theorem dX5_pass_7 : decode cX5_pass 7 = .ok (.aload_n 0, 1) := by decide +kernel
theorem dX5_pass_8 : decode cX5_pass 8 = .ok (.invokevirtual 93, 3) := by decide +kernel
theorem dX5_pass_11 : decode cX5_pass 11 = .ok (.iinc 2 1, 3) := by decide +kernel
theorem dX5_pass_14 : decode cX5_pass 14 = .ok (.goto (-12), 3) := by decide +kernel
theorem dX5_pass_17 : decode cX5_pass 17 = .ok (.return_, 1) := by decide +kernel
theorem dX5_gone_0 : decode cX5_gone 0 = .ok (.aload_n 0, 1) := by decide +kernel
theorem dX5_gone_1 : decode cX5_gone 1 = .ok (.getfield 7, 3) := by decide +kernel
theorem dX5_gone_4 : decode cX5_gone 4 = .ok (.sipush 202, 3) := by decide +kernel
theorem dX5_gone_7 : decode cX5_gone 7 = .ok (.iaload, 1) := by decide +kernel
theorem dX5_gone_8 : decode cX5_gone 8 = .ok (.aload_n 0, 1) := by decide +kernel
theorem dX5_gone_9 : decode cX5_gone 9 = .ok (.getfield 7, 3) := by decide +kernel
theorem dX5_gone_12 : decode cX5_gone 12 = .ok (.sipush 203, 3) := by decide +kernel
theorem dX5_gone_15 : decode cX5_gone 15 = .ok (.iaload, 1) := by decide +kernel
theorem dX5_gone_16 : decode cX5_gone 16 = .ok (.iadd, 1) := by decide +kernel
theorem dX5_gone_17 : decode cX5_gone 17 = .ok (.aload_n 0, 1) := by decide +kernel
theorem dX5_gone_18 : decode cX5_gone 18 = .ok (.getfield 7, 3) := by decide +kernel
theorem dX5_gone_21 : decode cX5_gone 21 = .ok (.sipush 204, 3) := by decide +kernel
theorem dX5_gone_24 : decode cX5_gone 24 = .ok (.iaload, 1) := by decide +kernel
theorem dX5_gone_25 : decode cX5_gone 25 = .ok (.iadd, 1) := by decide +kernel
theorem dX5_gone_26 : decode cX5_gone 26 = .ok (.aload_n 0, 1) := by decide +kernel
theorem dX5_gone_27 : decode cX5_gone 27 = .ok (.getfield 7, 3) := by decide +kernel
theorem dX5_gone_30 : decode cX5_gone 30 = .ok (.sipush 211, 3) := by decide +kernel
theorem dX5_gone_33 : decode cX5_gone 33 = .ok (.iaload, 1) := by decide +kernel
theorem dX5_gone_34 : decode cX5_gone 34 = .ok (.iadd, 1) := by decide +kernel
theorem dX5_gone_35 : decode cX5_gone 35 = .ok (.ireturn, 1) := by decide +kernel
theorem dX5_beats_0 : decode cX5_beats 0 = .ok (.iload_n 1, 1) := by decide +kernel
theorem dX5_beats_1 : decode cX5_beats 1 = .ok (.iconst 1, 1) := by decide +kernel
theorem dX5_beats_2 : decode cX5_beats 2 = .ok (.bipush 50, 2) := by decide +kernel
theorem dX5_beats_4 : decode cX5_beats 4 = .ok (.invokestatic 36, 3) := by decide +kernel
theorem dX5_beats_7 : decode cX5_beats 7 = .ok (.ifCond .ne 6, 3) := by decide +kernel
theorem dX5_beats_10 : decode cX5_beats 10 = .ok (.ldc 78, 2) := by decide +kernel
theorem dX5_beats_12 : decode cX5_beats 12 = .ok (.ireturn, 1) := by decide +kernel
theorem dX5_beats_13 : decode cX5_beats 13 = .ok (.aload_n 0, 1) := by decide +kernel
theorem dX5_beats_14 : decode cX5_beats 14 = .ok (.getfield 7, 3) := by decide +kernel
theorem dX5_beats_17 : decode cX5_beats 17 = .ok (.sipush 198, 3) := by decide +kernel
theorem dX5_beats_20 : decode cX5_beats 20 = .ok (.iaload, 1) := by decide +kernel
theorem dX5_beats_21 : decode cX5_beats 21 = .ok (.iload_n 1, 1) := by decide +kernel
theorem dX5_beats_22 : decode cX5_beats 22 = .ok (.iadd, 1) := by decide +kernel
theorem dX5_beats_23 : decode cX5_beats 23 = .ok (.sipush 9999, 3) := by decide +kernel
theorem dX5_beats_26 : decode cX5_beats 26 = .ok (.if_icmp .le 6, 3) := by decide +kernel
theorem dX5_beats_29 : decode cX5_beats 29 = .ok (.ldc 83, 2) := by decide +kernel
theorem dX5_beats_31 : decode cX5_beats 31 = .ok (.ireturn, 1) := by decide +kernel
theorem dX5_beats_32 : decode cX5_beats 32 = .ok (.aload_n 0, 1) := by decide +kernel
theorem dX5_beats_33 : decode cX5_beats 33 = .ok (.invokevirtual 84, 3) := by decide +kernel
theorem dX5_beats_36 : decode cX5_beats 36 = .ok (.aload_n 0, 1) := by decide +kernel
theorem dX5_beats_37 : decode cX5_beats 37 = .ok (.invokevirtual 96, 3) := by decide +kernel
theorem dX5_beats_40 : decode cX5_beats 40 = .ok (.istore_n 2, 1) := by decide +kernel
theorem dX5_beats_41 : decode cX5_beats 41 = .ok (.aload_n 0, 1) := by decide +kernel
theorem dX5_beats_42 : decode cX5_beats 42 = .ok (.iload_n 1, 1) := by decide +kernel
theorem dX5_beats_43 : decode cX5_beats 43 = .ok (.invokevirtual 99, 3) := by decide +kernel
theorem dX5_beats_46 : decode cX5_beats 46 = .ok (.aload_n 0, 1) := by decide +kernel
theorem dX5_beats_47 : decode cX5_beats 47 = .ok (.invokevirtual 96, 3) := by decide +kernel
theorem dX5_beats_50 : decode cX5_beats 50 = .ok (.iload_n 2, 1) := by decide +kernel
theorem dX5_beats_51 : decode cX5_beats 51 = .ok (.isub, 1) := by decide +kernel
theorem dX5_beats_52 : decode cX5_beats 52 = .ok (.ireturn, 1) := by decide +kernel
theorem dX5_catchesFrom_0 : decode cX5_catchesFrom 0 = .ok (.iload_n 2, 1) := by decide +kernel
theorem dX5_catchesFrom_1 : decode cX5_catchesFrom 1 = .ok (.iconst 0, 1) := by decide +kernel
theorem dX5_catchesFrom_2 : decode cX5_catchesFrom 2 = .ok (.bipush 7, 2) := by decide +kernel
theorem dX5_catchesFrom_4 : decode cX5_catchesFrom 4 = .ok (.invokestatic 36, 3) := by decide +kernel
theorem dX5_catchesFrom_7 : decode cX5_catchesFrom 7 = .ok (.ifCond .eq 12, 3) := by decide +kernel
theorem dX5_catchesFrom_10 : decode cX5_catchesFrom 10 = .ok (.aload_n 0, 1) := by decide +kernel
theorem dX5_catchesFrom_11 : decode cX5_catchesFrom 11 = .ok (.iload_n 1, 1) := by decide +kernel
theorem dX5_catchesFrom_12 : decode cX5_catchesFrom 12 = .ok (.iload_n 2, 1) := by decide +kernel
theorem dX5_catchesFrom_13 : decode cX5_catchesFrom 13 = .ok (.invokevirtual 79, 3) := by decide +kernel
theorem dX5_catchesFrom_16 : decode cX5_catchesFrom 16 = .ok (.goto 5, 3) := by decide +kernel
theorem dX5_catchesFrom_19 : decode cX5_catchesFrom 19 = .ok (.ldc 44, 2) := by decide +kernel
theorem dX5_catchesFrom_21 : decode cX5_catchesFrom 21 = .ok (.istore_n 3, 1) := by decide +kernel
theorem dX5_catchesFrom_22 : decode cX5_catchesFrom 22 = .ok (.iload_n 3, 1) := by decide +kernel
theorem dX5_catchesFrom_23 : decode cX5_catchesFrom 23 = .ok (.ifCond .lt 29, 3) := by decide +kernel
theorem dX5_catchesFrom_26 : decode cX5_catchesFrom 26 = .ok (.aload_n 0, 1) := by decide +kernel
theorem dX5_catchesFrom_27 : decode cX5_catchesFrom 27 = .ok (.getfield 19, 3) := by decide +kernel
theorem dX5_catchesFrom_30 : decode cX5_catchesFrom 30 = .ok (.bipush 11, 2) := by decide +kernel
theorem dX5_catchesFrom_32 : decode cX5_catchesFrom 32 = .ok (.iload_n 3, 1) := by decide +kernel
theorem dX5_catchesFrom_33 : decode cX5_catchesFrom 33 = .ok (.imul, 1) := by decide +kernel
theorem dX5_catchesFrom_34 : decode cX5_catchesFrom 34 = .ok (.iconst 4, 1) := by decide +kernel
theorem dX5_catchesFrom_35 : decode cX5_catchesFrom 35 = .ok (.iadd, 1) := by decide +kernel
theorem dX5_catchesFrom_36 : decode cX5_catchesFrom 36 = .ok (.iaload, 1) := by decide +kernel
theorem dX5_catchesFrom_37 : decode cX5_catchesFrom 37 = .ok (.aload_n 0, 1) := by decide +kernel
theorem dX5_catchesFrom_38 : decode cX5_catchesFrom 38 = .ok (.iload_n 3, 1) := by decide +kernel
theorem dX5_catchesFrom_39 : decode cX5_catchesFrom 39 = .ok (.iconst 5, 1) := by decide +kernel
theorem dX5_catchesFrom_40 : decode cX5_catchesFrom 40 = .ok (.invokevirtual 40, 3) := by decide +kernel
theorem dX5_catchesFrom_43 : decode cX5_catchesFrom 43 = .ok (.isub, 1) := by decide +kernel
theorem dX5_catchesFrom_44 : decode cX5_catchesFrom 44 = .ok (.iconst 2, 1) := by decide +kernel
theorem dX5_catchesFrom_45 : decode cX5_catchesFrom 45 = .ok (.if_icmp .lt 7, 3) := by decide +kernel
theorem dX5_catchesFrom_48 : decode cX5_catchesFrom 48 = .ok (.iconst 1, 1) := by decide +kernel
theorem dX5_catchesFrom_49 : decode cX5_catchesFrom 49 = .ok (.goto 4, 3) := by decide +kernel
theorem dX5_catchesFrom_52 : decode cX5_catchesFrom 52 = .ok (.iconst 0, 1) := by decide +kernel
theorem dX5_catchesFrom_53 : decode cX5_catchesFrom 53 = .ok (.ireturn, 1) := by decide +kernel
theorem dX5_nightPasses_0 : decode cX5_nightPasses 0 = .ok (.iconst 0, 1) := by decide +kernel
theorem dX5_nightPasses_1 : decode cX5_nightPasses 1 = .ok (.istore_n 1, 1) := by decide +kernel
theorem dX5_nightPasses_2 : decode cX5_nightPasses 2 = .ok (.iload_n 1, 1) := by decide +kernel
theorem dX5_nightPasses_3 : decode cX5_nightPasses 3 = .ok (.bipush 11, 2) := by decide +kernel
theorem dX5_nightPasses_5 : decode cX5_nightPasses 5 = .ok (.aload_n 0, 1) := by decide +kernel
theorem dX5_nightPasses_6 : decode cX5_nightPasses 6 = .ok (.getfield 7, 3) := by decide +kernel
theorem dX5_nightPasses_9 : decode cX5_nightPasses 9 = .ok (.sipush 199, 3) := by decide +kernel
theorem dX5_nightPasses_12 : decode cX5_nightPasses 12 = .ok (.iaload, 1) := by decide +kernel
theorem dX5_nightPasses_13 : decode cX5_nightPasses 13 = .ok (.imul, 1) := by decide +kernel
theorem dX5_nightPasses_14 : decode cX5_nightPasses 14 = .ok (.if_icmp .ge 21, 3) := by decide +kernel
theorem dX5_nightPasses_17 : decode cX5_nightPasses 17 = .ok (.aload_n 0, 1) := by decide +kernel
theorem dX5_nightPasses_18 : decode cX5_nightPasses 18 = .ok (.getfield 19, 3) := by decide +kernel
theorem dX5_nightPasses_21 : decode cX5_nightPasses 21 = .ok (.iload_n 1, 1) := by decide +kernel
theorem dX5_nightPasses_22 : decode cX5_nightPasses 22 = .ok (.aload_n 0, 1) := by decide +kernel
theorem dX5_nightPasses_23 : decode cX5_nightPasses 23 = .ok (.getfield 7, 3) := by decide +kernel
theorem dX5_nightPasses_26 : decode cX5_nightPasses 26 = .ok (.iload_n 1, 1) := by decide +kernel
theorem dX5_nightPasses_27 : decode cX5_nightPasses 27 = .ok (.iaload, 1) := by decide +kernel
theorem dX5_nightPasses_28 : decode cX5_nightPasses 28 = .ok (.iastore, 1) := by decide +kernel
theorem dX5_nightPasses_29 : decode cX5_nightPasses 29 = .ok (.iinc 1 1, 3) := by decide +kernel
theorem dX5_nightPasses_32 : decode cX5_nightPasses 32 = .ok (.goto (-30), 3) := by decide +kernel
theorem dX5_nightPasses_35 : decode cX5_nightPasses 35 = .ok (.iconst 0, 1) := by decide +kernel
theorem dX5_nightPasses_36 : decode cX5_nightPasses 36 = .ok (.istore_n 1, 1) := by decide +kernel
theorem dX5_nightPasses_37 : decode cX5_nightPasses 37 = .ok (.iload_n 1, 1) := by decide +kernel
theorem dX5_nightPasses_38 : decode cX5_nightPasses 38 = .ok (.aload_n 0, 1) := by decide +kernel
theorem dX5_nightPasses_39 : decode cX5_nightPasses 39 = .ok (.getfield 7, 3) := by decide +kernel
theorem dX5_nightPasses_42 : decode cX5_nightPasses 42 = .ok (.sipush 199, 3) := by decide +kernel
theorem dX5_nightPasses_45 : decode cX5_nightPasses 45 = .ok (.iaload, 1) := by decide +kernel
theorem dX5_nightPasses_46 : decode cX5_nightPasses 46 = .ok (.if_icmp .ge 86, 3) := by decide +kernel
theorem dX5_nightPasses_49 : decode cX5_nightPasses 49 = .ok (.aload_n 0, 1) := by decide +kernel
theorem dX5_nightPasses_50 : decode cX5_nightPasses 50 = .ok (.iload_n 1, 1) := by decide +kernel
theorem dX5_nightPasses_51 : decode cX5_nightPasses 51 = .ok (.iconst 0, 1) := by decide +kernel
theorem dX5_nightPasses_52 : decode cX5_nightPasses 52 = .ok (.invokevirtual 40, 3) := by decide +kernel
theorem dX5_nightPasses_55 : decode cX5_nightPasses 55 = .ok (.istore_n 2, 1) := by decide +kernel
theorem dX5_nightPasses_56 : decode cX5_nightPasses 56 = .ok (.aload_n 0, 1) := by decide +kernel
theorem dX5_nightPasses_57 : decode cX5_nightPasses 57 = .ok (.iload_n 1, 1) := by decide +kernel
theorem dX5_nightPasses_58 : decode cX5_nightPasses 58 = .ok (.iconst 1, 1) := by decide +kernel
theorem dX5_nightPasses_59 : decode cX5_nightPasses 59 = .ok (.invokevirtual 40, 3) := by decide +kernel
theorem dX5_nightPasses_62 : decode cX5_nightPasses 62 = .ok (.istore_n 3, 1) := by decide +kernel
theorem dX5_nightPasses_63 : decode cX5_nightPasses 63 = .ok (.aload_n 0, 1) := by decide +kernel
theorem dX5_nightPasses_64 : decode cX5_nightPasses 64 = .ok (.iload_n 1, 1) := by decide +kernel
theorem dX5_nightPasses_65 : decode cX5_nightPasses 65 = .ok (.iconst 4, 1) := by decide +kernel
theorem dX5_nightPasses_66 : decode cX5_nightPasses 66 = .ok (.invokevirtual 40, 3) := by decide +kernel
theorem dX5_nightPasses_69 : decode cX5_nightPasses 69 = .ok (.aload_n 0, 1) := by decide +kernel
theorem dX5_nightPasses_70 : decode cX5_nightPasses 70 = .ok (.iload_n 2, 1) := by decide +kernel
theorem dX5_nightPasses_71 : decode cX5_nightPasses 71 = .ok (.iload_n 3, 1) := by decide +kernel
theorem dX5_nightPasses_72 : decode cX5_nightPasses 72 = .ok (.iconst 1, 1) := by decide +kernel
theorem dX5_nightPasses_73 : decode cX5_nightPasses 73 = .ok (.isub, 1) := by decide +kernel
theorem dX5_nightPasses_74 : decode cX5_nightPasses 74 = .ok (.invokevirtual 102, 3) := by decide +kernel
theorem dX5_nightPasses_77 : decode cX5_nightPasses 77 = .ok (.ifCond .ne 14, 3) := by decide +kernel
theorem dX5_nightPasses_80 : decode cX5_nightPasses 80 = .ok (.aload_n 0, 1) := by decide +kernel
theorem dX5_nightPasses_81 : decode cX5_nightPasses 81 = .ok (.iload_n 2, 1) := by decide +kernel
theorem dX5_nightPasses_82 : decode cX5_nightPasses 82 = .ok (.iload_n 3, 1) := by decide +kernel
theorem dX5_nightPasses_83 : decode cX5_nightPasses 83 = .ok (.iconst 1, 1) := by decide +kernel
theorem dX5_nightPasses_84 : decode cX5_nightPasses 84 = .ok (.iadd, 1) := by decide +kernel
theorem dX5_nightPasses_85 : decode cX5_nightPasses 85 = .ok (.invokevirtual 102, 3) := by decide +kernel
theorem dX5_nightPasses_88 : decode cX5_nightPasses 88 = .ok (.ifCond .eq 7, 3) := by decide +kernel
theorem dX5_nightPasses_91 : decode cX5_nightPasses 91 = .ok (.iconst 1, 1) := by decide +kernel
theorem dX5_nightPasses_92 : decode cX5_nightPasses 92 = .ok (.goto 4, 3) := by decide +kernel
theorem dX5_nightPasses_95 : decode cX5_nightPasses 95 = .ok (.iconst (-1), 1) := by decide +kernel
theorem dX5_nightPasses_96 : decode cX5_nightPasses 96 = .ok (.iadd, 1) := by decide +kernel
theorem dX5_nightPasses_97 : decode cX5_nightPasses 97 = .ok (.istore 4, 2) := by decide +kernel
theorem dX5_nightPasses_99 : decode cX5_nightPasses 99 = .ok (.aload_n 0, 1) := by decide +kernel
theorem dX5_nightPasses_100 : decode cX5_nightPasses 100 = .ok (.iload_n 1, 1) := by decide +kernel
theorem dX5_nightPasses_101 : decode cX5_nightPasses 101 = .ok (.iconst 4, 1) := by decide +kernel
theorem dX5_nightPasses_102 : decode cX5_nightPasses 102 = .ok (.iload 4, 2) := by decide +kernel
theorem dX5_nightPasses_104 : decode cX5_nightPasses 104 = .ok (.iconst 5, 1) := by decide +kernel
theorem dX5_nightPasses_105 : decode cX5_nightPasses 105 = .ok (.if_icmp .le 7, 3) := by decide +kernel
theorem dX5_nightPasses_108 : decode cX5_nightPasses 108 = .ok (.iconst 5, 1) := by decide +kernel
theorem dX5_nightPasses_109 : decode cX5_nightPasses 109 = .ok (.goto 14, 3) := by decide +kernel
theorem dX5_nightPasses_112 : decode cX5_nightPasses 112 = .ok (.iload 4, 2) := by decide +kernel
theorem dX5_nightPasses_114 : decode cX5_nightPasses 114 = .ok (.ifCond .ge 7, 3) := by decide +kernel
theorem dX5_nightPasses_117 : decode cX5_nightPasses 117 = .ok (.iconst 0, 1) := by decide +kernel
theorem dX5_nightPasses_118 : decode cX5_nightPasses 118 = .ok (.goto 5, 3) := by decide +kernel
theorem dX5_nightPasses_121 : decode cX5_nightPasses 121 = .ok (.iload 4, 2) := by decide +kernel
theorem dX5_nightPasses_123 : decode cX5_nightPasses 123 = .ok (.invokevirtual 87, 3) := by decide +kernel
theorem dX5_nightPasses_126 : decode cX5_nightPasses 126 = .ok (.iinc 1 1, 3) := by decide +kernel
theorem dX5_nightPasses_129 : decode cX5_nightPasses 129 = .ok (.goto (-92), 3) := by decide +kernel
theorem dX5_nightPasses_132 : decode cX5_nightPasses 132 = .ok (.aload_n 0, 1) := by decide +kernel
theorem dX5_nightPasses_133 : decode cX5_nightPasses 133 = .ok (.getfield 7, 3) := by decide +kernel
theorem dX5_nightPasses_136 : decode cX5_nightPasses 136 = .ok (.sipush 209, 3) := by decide +kernel
theorem dX5_nightPasses_139 : decode cX5_nightPasses 139 = .ok (.dup2, 1) := by decide +kernel
theorem dX5_nightPasses_140 : decode cX5_nightPasses 140 = .ok (.iaload, 1) := by decide +kernel
theorem dX5_nightPasses_141 : decode cX5_nightPasses 141 = .ok (.iconst 1, 1) := by decide +kernel
theorem dX5_nightPasses_142 : decode cX5_nightPasses 142 = .ok (.iadd, 1) := by decide +kernel
theorem dX5_nightPasses_143 : decode cX5_nightPasses 143 = .ok (.iastore, 1) := by decide +kernel
theorem dX5_nightPasses_144 : decode cX5_nightPasses 144 = .ok (.return_, 1) := by decide +kernel
theorem dX5_colds_0 : decode cX5_colds 0 = .ok (.iconst 0, 1) := by decide +kernel
theorem dX5_colds_1 : decode cX5_colds 1 = .ok (.istore_n 1, 1) := by decide +kernel
theorem dX5_colds_2 : decode cX5_colds 2 = .ok (.iconst 0, 1) := by decide +kernel
theorem dX5_colds_3 : decode cX5_colds 3 = .ok (.istore_n 2, 1) := by decide +kernel
theorem dX5_colds_4 : decode cX5_colds 4 = .ok (.iload_n 2, 1) := by decide +kernel
theorem dX5_colds_5 : decode cX5_colds 5 = .ok (.aload_n 0, 1) := by decide +kernel
theorem dX5_colds_6 : decode cX5_colds 6 = .ok (.getfield 7, 3) := by decide +kernel
theorem dX5_colds_9 : decode cX5_colds 9 = .ok (.sipush 199, 3) := by decide +kernel
theorem dX5_colds_12 : decode cX5_colds 12 = .ok (.iaload, 1) := by decide +kernel
theorem dX5_colds_13 : decode cX5_colds 13 = .ok (.if_icmp .ge 28, 3) := by decide +kernel
theorem dX5_colds_16 : decode cX5_colds 16 = .ok (.iload_n 1, 1) := by decide +kernel
theorem dX5_colds_17 : decode cX5_colds 17 = .ok (.aload_n 0, 1) := by decide +kernel
theorem dX5_colds_18 : decode cX5_colds 18 = .ok (.iload_n 2, 1) := by decide +kernel
theorem dX5_colds_19 : decode cX5_colds 19 = .ok (.iconst 4, 1) := by decide +kernel
theorem dX5_colds_20 : decode cX5_colds 20 = .ok (.invokevirtual 40, 3) := by decide +kernel
theorem dX5_colds_23 : decode cX5_colds 23 = .ok (.ifCond .le 9, 3) := by decide +kernel
theorem dX5_colds_26 : decode cX5_colds 26 = .ok (.iconst 1, 1) := by decide +kernel
theorem dX5_colds_27 : decode cX5_colds 27 = .ok (.iload_n 2, 1) := by decide +kernel
theorem dX5_colds_28 : decode cX5_colds 28 = .ok (.ishl, 1) := by decide +kernel
theorem dX5_colds_29 : decode cX5_colds 29 = .ok (.goto 4, 3) := by decide +kernel
theorem dX5_colds_32 : decode cX5_colds 32 = .ok (.iconst 0, 1) := by decide +kernel
theorem dX5_colds_33 : decode cX5_colds 33 = .ok (.ior, 1) := by decide +kernel
theorem dX5_colds_34 : decode cX5_colds 34 = .ok (.istore_n 1, 1) := by decide +kernel
theorem dX5_colds_35 : decode cX5_colds 35 = .ok (.iinc 2 1, 3) := by decide +kernel
theorem dX5_colds_38 : decode cX5_colds 38 = .ok (.goto (-34), 3) := by decide +kernel
theorem dX5_colds_41 : decode cX5_colds 41 = .ok (.iload_n 1, 1) := by decide +kernel
theorem dX5_colds_42 : decode cX5_colds 42 = .ok (.ireturn, 1) := by decide +kernel
theorem dX5_bits_0 : decode cX5_bits 0 = .ok (.iconst 0, 1) := by decide +kernel
theorem dX5_bits_1 : decode cX5_bits 1 = .ok (.istore_n 1, 1) := by decide +kernel
theorem dX5_bits_2 : decode cX5_bits 2 = .ok (.iload_n 0, 1) := by decide +kernel
theorem dX5_bits_3 : decode cX5_bits 3 = .ok (.istore_n 2, 1) := by decide +kernel
theorem dX5_bits_4 : decode cX5_bits 4 = .ok (.iload_n 2, 1) := by decide +kernel
theorem dX5_bits_5 : decode cX5_bits 5 = .ok (.ifCond .le 16, 3) := by decide +kernel
theorem dX5_bits_8 : decode cX5_bits 8 = .ok (.iload_n 1, 1) := by decide +kernel
theorem dX5_bits_9 : decode cX5_bits 9 = .ok (.iload_n 2, 1) := by decide +kernel
theorem dX5_bits_10 : decode cX5_bits 10 = .ok (.iconst 2, 1) := by decide +kernel
theorem dX5_bits_11 : decode cX5_bits 11 = .ok (.irem, 1) := by decide +kernel
theorem dX5_bits_12 : decode cX5_bits 12 = .ok (.iadd, 1) := by decide +kernel
theorem dX5_bits_13 : decode cX5_bits 13 = .ok (.istore_n 1, 1) := by decide +kernel
theorem dX5_bits_14 : decode cX5_bits 14 = .ok (.iload_n 2, 1) := by decide +kernel
theorem dX5_bits_15 : decode cX5_bits 15 = .ok (.iconst 2, 1) := by decide +kernel
theorem dX5_bits_16 : decode cX5_bits 16 = .ok (.idiv, 1) := by decide +kernel
theorem dX5_bits_17 : decode cX5_bits 17 = .ok (.istore_n 2, 1) := by decide +kernel
theorem dX5_bits_18 : decode cX5_bits 18 = .ok (.goto (-14), 3) := by decide +kernel
theorem dX5_bits_21 : decode cX5_bits 21 = .ok (.iload_n 1, 1) := by decide +kernel
theorem dX5_bits_22 : decode cX5_bits 22 = .ok (.ireturn, 1) := by decide +kernel
theorem dX5_night_0 : decode cX5_night 0 = .ok (.aload_n 0, 1) := by decide +kernel
theorem dX5_night_1 : decode cX5_night 1 = .ok (.getfield 7, 3) := by decide +kernel
theorem dX5_night_4 : decode cX5_night 4 = .ok (.sipush 148, 3) := by decide +kernel
theorem dX5_night_7 : decode cX5_night 7 = .ok (.iaload, 1) := by decide +kernel
theorem dX5_night_8 : decode cX5_night 8 = .ok (.iconst 1, 1) := by decide +kernel
theorem dX5_night_9 : decode cX5_night 9 = .ok (.if_icmp .ne 6, 3) := by decide +kernel
theorem dX5_night_12 : decode cX5_night 12 = .ok (.ldc 82, 2) := by decide +kernel
theorem dX5_night_14 : decode cX5_night 14 = .ok (.ireturn, 1) := by decide +kernel
theorem dX5_night_15 : decode cX5_night 15 = .ok (.aload_n 0, 1) := by decide +kernel
theorem dX5_night_16 : decode cX5_night 16 = .ok (.getfield 7, 3) := by decide +kernel
theorem dX5_night_19 : decode cX5_night 19 = .ok (.sipush 209, 3) := by decide +kernel
theorem dX5_night_22 : decode cX5_night 22 = .ok (.iaload, 1) := by decide +kernel
theorem dX5_night_23 : decode cX5_night 23 = .ok (.sipush 999, 3) := by decide +kernel
theorem dX5_night_26 : decode cX5_night 26 = .ok (.if_icmp .ne 6, 3) := by decide +kernel
theorem dX5_night_29 : decode cX5_night 29 = .ok (.ldc 83, 2) := by decide +kernel
theorem dX5_night_31 : decode cX5_night 31 = .ok (.ireturn, 1) := by decide +kernel
theorem dX5_night_32 : decode cX5_night 32 = .ok (.aload_n 0, 1) := by decide +kernel
theorem dX5_night_33 : decode cX5_night 33 = .ok (.invokevirtual 84, 3) := by decide +kernel
theorem dX5_night_36 : decode cX5_night 36 = .ok (.aload_n 0, 1) := by decide +kernel
theorem dX5_night_37 : decode cX5_night 37 = .ok (.invokevirtual 105, 3) := by decide +kernel
theorem dX5_night_40 : decode cX5_night 40 = .ok (.aload_n 0, 1) := by decide +kernel
theorem dX5_night_41 : decode cX5_night 41 = .ok (.invokevirtual 108, 3) := by decide +kernel
theorem dX5_night_44 : decode cX5_night 44 = .ok (.invokestatic 111, 3) := by decide +kernel
theorem dX5_night_47 : decode cX5_night 47 = .ok (.ireturn, 1) := by decide +kernel
theorem dX5_set_0 : decode cX5_set 0 = .ok (.iload_n 1, 1) := by decide +kernel
theorem dX5_set_1 : decode cX5_set 1 = .ok (.iconst 0, 1) := by decide +kernel
theorem dX5_set_2 : decode cX5_set 2 = .ok (.iconst 2, 1) := by decide +kernel
theorem dX5_set_3 : decode cX5_set 3 = .ok (.invokestatic 36, 3) := by decide +kernel
theorem dX5_set_6 : decode cX5_set 6 = .ok (.ifCond .eq 13, 3) := by decide +kernel
theorem dX5_set_9 : decode cX5_set 9 = .ok (.iload_n 2, 1) := by decide +kernel
theorem dX5_set_10 : decode cX5_set 10 = .ok (.iconst 1, 1) := by decide +kernel
theorem dX5_set_11 : decode cX5_set 11 = .ok (.bipush 9, 2) := by decide +kernel
theorem dX5_set_13 : decode cX5_set 13 = .ok (.invokestatic 36, 3) := by decide +kernel
theorem dX5_set_16 : decode cX5_set 16 = .ok (.ifCond .ne 6, 3) := by decide +kernel
theorem dX5_set_19 : decode cX5_set 19 = .ok (.ldc 78, 2) := by decide +kernel
theorem dX5_set_21 : decode cX5_set 21 = .ok (.ireturn, 1) := by decide +kernel
theorem dX5_set_22 : decode cX5_set 22 = .ok (.aload_n 0, 1) := by decide +kernel
theorem dX5_set_23 : decode cX5_set 23 = .ok (.invokevirtual 84, 3) := by decide +kernel
theorem dX5_set_26 : decode cX5_set 26 = .ok (.aload_n 0, 1) := by decide +kernel
theorem dX5_set_27 : decode cX5_set 27 = .ok (.getfield 7, 3) := by decide +kernel
theorem dX5_set_30 : decode cX5_set 30 = .ok (.sipush 212, 3) := by decide +kernel
theorem dX5_set_33 : decode cX5_set 33 = .ok (.iload_n 1, 1) := by decide +kernel
theorem dX5_set_34 : decode cX5_set 34 = .ok (.iadd, 1) := by decide +kernel
theorem dX5_set_35 : decode cX5_set 35 = .ok (.iaload, 1) := by decide +kernel
theorem dX5_set_36 : decode cX5_set 36 = .ok (.istore_n 3, 1) := by decide +kernel
theorem dX5_set_37 : decode cX5_set 37 = .ok (.aload_n 0, 1) := by decide +kernel
theorem dX5_set_38 : decode cX5_set 38 = .ok (.getfield 7, 3) := by decide +kernel
theorem dX5_set_41 : decode cX5_set 41 = .ok (.sipush 212, 3) := by decide +kernel
theorem dX5_set_44 : decode cX5_set 44 = .ok (.iload_n 1, 1) := by decide +kernel
theorem dX5_set_45 : decode cX5_set 45 = .ok (.iadd, 1) := by decide +kernel
theorem dX5_set_46 : decode cX5_set 46 = .ok (.iload_n 2, 1) := by decide +kernel
theorem dX5_set_47 : decode cX5_set 47 = .ok (.iastore, 1) := by decide +kernel
theorem dX5_set_48 : decode cX5_set 48 = .ok (.iload_n 3, 1) := by decide +kernel
theorem dX5_set_49 : decode cX5_set 49 = .ok (.ireturn, 1) := by decide +kernel
theorem dX5_bidderOf_0 : decode cX5_bidderOf 0 = .ok (.aload_n 0, 1) := by decide +kernel
theorem dX5_bidderOf_1 : decode cX5_bidderOf 1 = .ok (.iload_n 1, 1) := by decide +kernel
theorem dX5_bidderOf_2 : decode cX5_bidderOf 2 = .ok (.invokevirtual 90, 3) := by decide +kernel
theorem dX5_bidderOf_5 : decode cX5_bidderOf 5 = .ok (.ifCond .eq 13, 3) := by decide +kernel
theorem dX5_bidderOf_8 : decode cX5_bidderOf 8 = .ok (.iload_n 2, 1) := by decide +kernel
theorem dX5_bidderOf_9 : decode cX5_bidderOf 9 = .ok (.iconst 0, 1) := by decide +kernel
theorem dX5_bidderOf_10 : decode cX5_bidderOf 10 = .ok (.bipush 10, 2) := by decide +kernel
theorem dX5_bidderOf_12 : decode cX5_bidderOf 12 = .ok (.invokestatic 36, 3) := by decide +kernel
theorem dX5_bidderOf_15 : decode cX5_bidderOf 15 = .ok (.ifCond .ne 6, 3) := by decide +kernel
theorem dX5_bidderOf_18 : decode cX5_bidderOf 18 = .ok (.ldc 78, 2) := by decide +kernel
theorem dX5_bidderOf_20 : decode cX5_bidderOf 20 = .ok (.ireturn, 1) := by decide +kernel
theorem dX5_bidderOf_21 : decode cX5_bidderOf 21 = .ok (.iload_n 2, 1) := by decide +kernel
theorem dX5_bidderOf_22 : decode cX5_bidderOf 22 = .ok (.bipush 6, 2) := by decide +kernel
theorem dX5_bidderOf_24 : decode cX5_bidderOf 24 = .ok (.if_icmp .ge 12, 3) := by decide +kernel
theorem dX5_bidderOf_27 : decode cX5_bidderOf 27 = .ok (.aload_n 0, 1) := by decide +kernel
theorem dX5_bidderOf_28 : decode cX5_bidderOf 28 = .ok (.iload_n 1, 1) := by decide +kernel
theorem dX5_bidderOf_29 : decode cX5_bidderOf 29 = .ok (.iload_n 2, 1) := by decide +kernel
theorem dX5_bidderOf_30 : decode cX5_bidderOf 30 = .ok (.invokevirtual 40, 3) := by decide +kernel
theorem dX5_bidderOf_33 : decode cX5_bidderOf 33 = .ok (.goto 28, 3) := by decide +kernel
theorem dX5_bidderOf_36 : decode cX5_bidderOf 36 = .ok (.iload_n 2, 1) := by decide +kernel
theorem dX5_bidderOf_37 : decode cX5_bidderOf 37 = .ok (.bipush 6, 2) := by decide +kernel
theorem dX5_bidderOf_39 : decode cX5_bidderOf 39 = .ok (.if_icmp .ne 14, 3) := by decide +kernel
theorem dX5_bidderOf_42 : decode cX5_bidderOf 42 = .ok (.bipush 100, 2) := by decide +kernel
theorem dX5_bidderOf_44 : decode cX5_bidderOf 44 = .ok (.aload_n 0, 1) := by decide +kernel
theorem dX5_bidderOf_45 : decode cX5_bidderOf 45 = .ok (.iload_n 1, 1) := by decide +kernel
theorem dX5_bidderOf_46 : decode cX5_bidderOf 46 = .ok (.invokevirtual 45, 3) := by decide +kernel
theorem dX5_bidderOf_49 : decode cX5_bidderOf 49 = .ok (.iadd, 1) := by decide +kernel
theorem dX5_bidderOf_50 : decode cX5_bidderOf 50 = .ok (.goto 11, 3) := by decide +kernel
theorem dX5_bidderOf_53 : decode cX5_bidderOf 53 = .ok (.aload_n 0, 1) := by decide +kernel
theorem dX5_bidderOf_54 : decode cX5_bidderOf 54 = .ok (.iload_n 1, 1) := by decide +kernel
theorem dX5_bidderOf_55 : decode cX5_bidderOf 55 = .ok (.iload_n 2, 1) := by decide +kernel
theorem dX5_bidderOf_56 : decode cX5_bidderOf 56 = .ok (.iconst 1, 1) := by decide +kernel
theorem dX5_bidderOf_57 : decode cX5_bidderOf 57 = .ok (.isub, 1) := by decide +kernel
theorem dX5_bidderOf_58 : decode cX5_bidderOf 58 = .ok (.invokevirtual 40, 3) := by decide +kernel
theorem dX5_bidderOf_61 : decode cX5_bidderOf 61 = .ok (.ireturn, 1) := by decide +kernel
theorem dX5_at_0 : decode cX5_at 0 = .ok (.iload_n 1, 1) := by decide +kernel
theorem dX5_at_1 : decode cX5_at 1 = .ok (.iload_n 2, 1) := by decide +kernel
theorem dX5_at_2 : decode cX5_at 2 = .ok (.invokestatic 74, 3) := by decide +kernel
theorem dX5_at_5 : decode cX5_at 5 = .ok (.ifCond .eq 12, 3) := by decide +kernel
theorem dX5_at_8 : decode cX5_at 8 = .ok (.aload_n 0, 1) := by decide +kernel
theorem dX5_at_9 : decode cX5_at 9 = .ok (.iload_n 1, 1) := by decide +kernel
theorem dX5_at_10 : decode cX5_at 10 = .ok (.iload_n 2, 1) := by decide +kernel
theorem dX5_at_11 : decode cX5_at 11 = .ok (.invokevirtual 79, 3) := by decide +kernel
theorem dX5_at_14 : decode cX5_at 14 = .ok (.goto 5, 3) := by decide +kernel
theorem dX5_at_17 : decode cX5_at 17 = .ok (.ldc 78, 2) := by decide +kernel
theorem dX5_at_19 : decode cX5_at 19 = .ok (.ireturn, 1) := by decide +kernel
theorem dX5_up_0 : decode cX5_up 0 = .ok (.iload_n 1, 1) := by decide +kernel
theorem dX5_up_1 : decode cX5_up 1 = .ok (.iconst 0, 1) := by decide +kernel
theorem dX5_up_2 : decode cX5_up 2 = .ok (.bipush 8, 2) := by decide +kernel
theorem dX5_up_4 : decode cX5_up 4 = .ok (.invokestatic 36, 3) := by decide +kernel
theorem dX5_up_7 : decode cX5_up 7 = .ok (.ifCond .ne 6, 3) := by decide +kernel
theorem dX5_up_10 : decode cX5_up 10 = .ok (.ldc 78, 2) := by decide +kernel
theorem dX5_up_12 : decode cX5_up 12 = .ok (.ireturn, 1) := by decide +kernel
theorem dX5_up_13 : decode cX5_up 13 = .ok (.aload_n 0, 1) := by decide +kernel
theorem dX5_up_14 : decode cX5_up 14 = .ok (.getfield 7, 3) := by decide +kernel
theorem dX5_up_17 : decode cX5_up 17 = .ok (.sipush 148, 3) := by decide +kernel
theorem dX5_up_20 : decode cX5_up 20 = .ok (.iaload, 1) := by decide +kernel
theorem dX5_up_21 : decode cX5_up 21 = .ok (.ifCond .ne 6, 3) := by decide +kernel
theorem dX5_up_24 : decode cX5_up 24 = .ok (.ldc 82, 2) := by decide +kernel
theorem dX5_up_26 : decode cX5_up 26 = .ok (.ireturn, 1) := by decide +kernel
theorem dX5_up_27 : decode cX5_up 27 = .ok (.iload_n 1, 1) := by decide +kernel
theorem dX5_up_28 : decode cX5_up 28 = .ok (.tableswitch 128 2 8 #[44, 69, 96, 96, 109, 114, 114], 44) := by decide +kernel
theorem dX5_up_72 : decode cX5_up 72 = .ok (.aload_n 0, 1) := by decide +kernel
theorem dX5_up_73 : decode cX5_up 73 = .ok (.getfield 7, 3) := by decide +kernel
theorem dX5_up_76 : decode cX5_up 76 = .ok (.sipush 152, 3) := by decide +kernel
theorem dX5_up_79 : decode cX5_up 79 = .ok (.iaload, 1) := by decide +kernel
theorem dX5_up_80 : decode cX5_up 80 = .ok (.ifCond .le 14, 3) := by decide +kernel
theorem dX5_up_83 : decode cX5_up 83 = .ok (.aload_n 0, 1) := by decide +kernel
theorem dX5_up_84 : decode cX5_up 84 = .ok (.getfield 7, 3) := by decide +kernel
theorem dX5_up_87 : decode cX5_up 87 = .ok (.sipush 151, 3) := by decide +kernel
theorem dX5_up_90 : decode cX5_up 90 = .ok (.iaload, 1) := by decide +kernel
theorem dX5_up_91 : decode cX5_up 91 = .ok (.goto 5, 3) := by decide +kernel
theorem dX5_up_94 : decode cX5_up 94 = .ok (.ldc 44, 2) := by decide +kernel
theorem dX5_up_96 : decode cX5_up 96 = .ok (.ireturn, 1) := by decide +kernel
theorem dX5_up_97 : decode cX5_up 97 = .ok (.aload_n 0, 1) := by decide +kernel
theorem dX5_up_98 : decode cX5_up 98 = .ok (.getfield 7, 3) := by decide +kernel
theorem dX5_up_101 : decode cX5_up 101 = .ok (.sipush 152, 3) := by decide +kernel
theorem dX5_up_104 : decode cX5_up 104 = .ok (.iaload, 1) := by decide +kernel
theorem dX5_up_105 : decode cX5_up 105 = .ok (.ifCond .le 16, 3) := by decide +kernel
theorem dX5_up_108 : decode cX5_up 108 = .ok (.aload_n 0, 1) := by decide +kernel
theorem dX5_up_109 : decode cX5_up 109 = .ok (.getfield 7, 3) := by decide +kernel
theorem dX5_up_112 : decode cX5_up 112 = .ok (.sipush 152, 3) := by decide +kernel
theorem dX5_up_115 : decode cX5_up 115 = .ok (.iaload, 1) := by decide +kernel
theorem dX5_up_116 : decode cX5_up 116 = .ok (.iconst 1, 1) := by decide +kernel
theorem dX5_up_117 : decode cX5_up 117 = .ok (.isub, 1) := by decide +kernel
theorem dX5_up_118 : decode cX5_up 118 = .ok (.goto 5, 3) := by decide +kernel
theorem dX5_up_121 : decode cX5_up 121 = .ok (.ldc 44, 2) := by decide +kernel
theorem dX5_up_123 : decode cX5_up 123 = .ok (.ireturn, 1) := by decide +kernel
theorem dX5_up_124 : decode cX5_up 124 = .ok (.aload_n 0, 1) := by decide +kernel
theorem dX5_up_125 : decode cX5_up 125 = .ok (.getfield 7, 3) := by decide +kernel
theorem dX5_up_128 : decode cX5_up 128 = .ok (.sipush 153, 3) := by decide +kernel
theorem dX5_up_131 : decode cX5_up 131 = .ok (.iload_n 1, 1) := by decide +kernel
theorem dX5_up_132 : decode cX5_up 132 = .ok (.iadd, 1) := by decide +kernel
theorem dX5_up_133 : decode cX5_up 133 = .ok (.iconst 4, 1) := by decide +kernel
theorem dX5_up_134 : decode cX5_up 134 = .ok (.isub, 1) := by decide +kernel
theorem dX5_up_135 : decode cX5_up 135 = .ok (.iaload, 1) := by decide +kernel
theorem dX5_up_136 : decode cX5_up 136 = .ok (.ireturn, 1) := by decide +kernel
theorem dX5_up_137 : decode cX5_up 137 = .ok (.aload_n 0, 1) := by decide +kernel
theorem dX5_up_138 : decode cX5_up 138 = .ok (.invokevirtual 49, 3) := by decide +kernel
theorem dX5_up_141 : decode cX5_up 141 = .ok (.ireturn, 1) := by decide +kernel
theorem dX5_up_142 : decode cX5_up 142 = .ok (.aload_n 0, 1) := by decide +kernel
theorem dX5_up_143 : decode cX5_up 143 = .ok (.getfield 7, 3) := by decide +kernel
theorem dX5_up_146 : decode cX5_up 146 = .ok (.sipush 155, 3) := by decide +kernel
theorem dX5_up_149 : decode cX5_up 149 = .ok (.iload_n 1, 1) := by decide +kernel
theorem dX5_up_150 : decode cX5_up 150 = .ok (.iadd, 1) := by decide +kernel
theorem dX5_up_151 : decode cX5_up 151 = .ok (.bipush 7, 2) := by decide +kernel
theorem dX5_up_153 : decode cX5_up 153 = .ok (.isub, 1) := by decide +kernel
theorem dX5_up_154 : decode cX5_up 154 = .ok (.iaload, 1) := by decide +kernel
theorem dX5_up_155 : decode cX5_up 155 = .ok (.ireturn, 1) := by decide +kernel
theorem dX5_up_156 : decode cX5_up 156 = .ok (.aload_n 0, 1) := by decide +kernel
theorem dX5_up_157 : decode cX5_up 157 = .ok (.getfield 7, 3) := by decide +kernel
theorem dX5_up_160 : decode cX5_up 160 = .ok (.sipush 149, 3) := by decide +kernel
theorem dX5_up_163 : decode cX5_up 163 = .ok (.iload_n 1, 1) := by decide +kernel
theorem dX5_up_164 : decode cX5_up 164 = .ok (.iadd, 1) := by decide +kernel
theorem dX5_up_165 : decode cX5_up 165 = .ok (.iaload, 1) := by decide +kernel
theorem dX5_up_166 : decode cX5_up 166 = .ok (.ireturn, 1) := by decide +kernel
theorem dX5_waiting_0 : decode cX5_waiting 0 = .ok (.iload_n 1, 1) := by decide +kernel
theorem dX5_waiting_1 : decode cX5_waiting 1 = .ok (.ifCond .lt 12, 3) := by decide +kernel
theorem dX5_waiting_4 : decode cX5_waiting 4 = .ok (.iload_n 2, 1) := by decide +kernel
theorem dX5_waiting_5 : decode cX5_waiting 5 = .ok (.iconst 0, 1) := by decide +kernel
theorem dX5_waiting_6 : decode cX5_waiting 6 = .ok (.iconst 1, 1) := by decide +kernel
theorem dX5_waiting_7 : decode cX5_waiting 7 = .ok (.invokestatic 36, 3) := by decide +kernel
theorem dX5_waiting_10 : decode cX5_waiting 10 = .ok (.ifCond .ne 6, 3) := by decide +kernel
theorem dX5_waiting_13 : decode cX5_waiting 13 = .ok (.ldc 78, 2) := by decide +kernel
theorem dX5_waiting_15 : decode cX5_waiting 15 = .ok (.ireturn, 1) := by decide +kernel
theorem dX5_waiting_16 : decode cX5_waiting 16 = .ok (.iload_n 1, 1) := by decide +kernel
theorem dX5_waiting_17 : decode cX5_waiting 17 = .ok (.aload_n 0, 1) := by decide +kernel
theorem dX5_waiting_18 : decode cX5_waiting 18 = .ok (.getfield 7, 3) := by decide +kernel
theorem dX5_waiting_21 : decode cX5_waiting 21 = .ok (.sipush 200, 3) := by decide +kernel
theorem dX5_waiting_24 : decode cX5_waiting 24 = .ok (.iaload, 1) := by decide +kernel
theorem dX5_waiting_25 : decode cX5_waiting 25 = .ok (.if_icmp .ge 20, 3) := by decide +kernel
theorem dX5_waiting_28 : decode cX5_waiting 28 = .ok (.aload_n 0, 1) := by decide +kernel
theorem dX5_waiting_29 : decode cX5_waiting 29 = .ok (.getfield 7, 3) := by decide +kernel
theorem dX5_waiting_32 : decode cX5_waiting 32 = .ok (.sipush 132, 3) := by decide +kernel
theorem dX5_waiting_35 : decode cX5_waiting 35 = .ok (.iconst 2, 1) := by decide +kernel
theorem dX5_waiting_36 : decode cX5_waiting 36 = .ok (.iload_n 1, 1) := by decide +kernel
theorem dX5_waiting_37 : decode cX5_waiting 37 = .ok (.imul, 1) := by decide +kernel
theorem dX5_waiting_38 : decode cX5_waiting 38 = .ok (.iadd, 1) := by decide +kernel
theorem dX5_waiting_39 : decode cX5_waiting 39 = .ok (.iload_n 2, 1) := by decide +kernel
theorem dX5_waiting_40 : decode cX5_waiting 40 = .ok (.iadd, 1) := by decide +kernel
theorem dX5_waiting_41 : decode cX5_waiting 41 = .ok (.iaload, 1) := by decide +kernel
theorem dX5_waiting_42 : decode cX5_waiting 42 = .ok (.goto 5, 3) := by decide +kernel
theorem dX5_waiting_45 : decode cX5_waiting 45 = .ok (.ldc 44, 2) := by decide +kernel
theorem dX5_waiting_47 : decode cX5_waiting 47 = .ok (.ireturn, 1) := by decide +kernel
theorem dX5_book_0 : decode cX5_book 0 = .ok (.iload_n 1, 1) := by decide +kernel
theorem dX5_book_1 : decode cX5_book 1 = .ok (.ifCond .lt 12, 3) := by decide +kernel
theorem dX5_book_4 : decode cX5_book 4 = .ok (.iload_n 2, 1) := by decide +kernel
theorem dX5_book_5 : decode cX5_book 5 = .ok (.iconst 0, 1) := by decide +kernel
theorem dX5_book_6 : decode cX5_book 6 = .ok (.iconst 4, 1) := by decide +kernel
theorem dX5_book_7 : decode cX5_book 7 = .ok (.invokestatic 36, 3) := by decide +kernel
theorem dX5_book_10 : decode cX5_book 10 = .ok (.ifCond .ne 6, 3) := by decide +kernel
theorem dX5_book_13 : decode cX5_book 13 = .ok (.ldc 78, 2) := by decide +kernel
theorem dX5_book_15 : decode cX5_book 15 = .ok (.ireturn, 1) := by decide +kernel
theorem dX5_book_16 : decode cX5_book 16 = .ok (.iload_n 1, 1) := by decide +kernel
theorem dX5_book_17 : decode cX5_book 17 = .ok (.aload_n 0, 1) := by decide +kernel
theorem dX5_book_18 : decode cX5_book 18 = .ok (.getfield 7, 3) := by decide +kernel
theorem dX5_book_21 : decode cX5_book 21 = .ok (.sipush 210, 3) := by decide +kernel
theorem dX5_book_24 : decode cX5_book 24 = .ok (.iaload, 1) := by decide +kernel
theorem dX5_book_25 : decode cX5_book 25 = .ok (.if_icmp .lt 6, 3) := by decide +kernel
theorem dX5_book_28 : decode cX5_book 28 = .ok (.ldc 44, 2) := by decide +kernel
theorem dX5_book_30 : decode cX5_book 30 = .ok (.ireturn, 1) := by decide +kernel
theorem dX5_book_31 : decode cX5_book 31 = .ok (.aload_n 0, 1) := by decide +kernel
theorem dX5_book_32 : decode cX5_book 32 = .ok (.getfield 7, 3) := by decide +kernel
theorem dX5_book_35 : decode cX5_book 35 = .ok (.sipush 158, 3) := by decide +kernel
theorem dX5_book_38 : decode cX5_book 38 = .ok (.iconst 5, 1) := by decide +kernel
theorem dX5_book_39 : decode cX5_book 39 = .ok (.iload_n 1, 1) := by decide +kernel
theorem dX5_book_40 : decode cX5_book 40 = .ok (.imul, 1) := by decide +kernel
theorem dX5_book_41 : decode cX5_book 41 = .ok (.iadd, 1) := by decide +kernel
theorem dX5_book_42 : decode cX5_book 42 = .ok (.iload_n 2, 1) := by decide +kernel
theorem dX5_book_43 : decode cX5_book 43 = .ok (.iadd, 1) := by decide +kernel
theorem dX5_book_44 : decode cX5_book 44 = .ok (.iaload, 1) := by decide +kernel
theorem dX5_book_45 : decode cX5_book 45 = .ok (.istore_n 3, 1) := by decide +kernel
theorem dX5_book_46 : decode cX5_book 46 = .ok (.iload_n 2, 1) := by decide +kernel
theorem dX5_book_47 : decode cX5_book 47 = .ok (.iconst 2, 1) := by decide +kernel
theorem dX5_book_48 : decode cX5_book 48 = .ok (.if_icmp .eq 7, 3) := by decide +kernel
theorem dX5_book_51 : decode cX5_book 51 = .ok (.iload_n 3, 1) := by decide +kernel
theorem dX5_book_52 : decode cX5_book 52 = .ok (.goto 15, 3) := by decide +kernel
theorem dX5_book_55 : decode cX5_book 55 = .ok (.iload_n 3, 1) := by decide +kernel
theorem dX5_book_56 : decode cX5_book 56 = .ok (.ifCond .le 9, 3) := by decide +kernel
theorem dX5_book_59 : decode cX5_book 59 = .ok (.iload_n 3, 1) := by decide +kernel
theorem dX5_book_60 : decode cX5_book 60 = .ok (.iconst 1, 1) := by decide +kernel
theorem dX5_book_61 : decode cX5_book 61 = .ok (.isub, 1) := by decide +kernel
theorem dX5_book_62 : decode cX5_book 62 = .ok (.goto 5, 3) := by decide +kernel
theorem dX5_book_65 : decode cX5_book 65 = .ok (.ldc 44, 2) := by decide +kernel
theorem dX5_book_67 : decode cX5_book 67 = .ok (.ireturn, 1) := by decide +kernel
theorem dX5_why_0 : decode cX5_why 0 = .ok (.aload_n 0, 1) := by decide +kernel
theorem dX5_why_1 : decode cX5_why 1 = .ok (.iload_n 1, 1) := by decide +kernel
theorem dX5_why_2 : decode cX5_why 2 = .ok (.invokevirtual 90, 3) := by decide +kernel
theorem dX5_why_5 : decode cX5_why 5 = .ok (.ifCond .eq 11, 3) := by decide +kernel
theorem dX5_why_8 : decode cX5_why 8 = .ok (.aload_n 0, 1) := by decide +kernel
theorem dX5_why_9 : decode cX5_why 9 = .ok (.iload_n 1, 1) := by decide +kernel
theorem dX5_why_10 : decode cX5_why 10 = .ok (.invokevirtual 53, 3) := by decide +kernel
theorem dX5_why_13 : decode cX5_why 13 = .ok (.goto 5, 3) := by decide +kernel
theorem dX5_why_16 : decode cX5_why 16 = .ok (.ldc 78, 2) := by decide +kernel
theorem dX5_why_18 : decode cX5_why 18 = .ok (.ireturn, 1) := by decide +kernel
theorem dX5_ifBeats_0 : decode cX5_ifBeats 0 = .ok (.iload_n 1, 1) := by decide +kernel
theorem dX5_ifBeats_1 : decode cX5_ifBeats 1 = .ok (.iconst 1, 1) := by decide +kernel
theorem dX5_ifBeats_2 : decode cX5_ifBeats 2 = .ok (.bipush 50, 2) := by decide +kernel
theorem dX5_ifBeats_4 : decode cX5_ifBeats 4 = .ok (.invokestatic 36, 3) := by decide +kernel
theorem dX5_ifBeats_7 : decode cX5_ifBeats 7 = .ok (.ifCond .eq 12, 3) := by decide +kernel
theorem dX5_ifBeats_10 : decode cX5_ifBeats 10 = .ok (.iload_n 2, 1) := by decide +kernel
theorem dX5_ifBeats_11 : decode cX5_ifBeats 11 = .ok (.iconst 0, 1) := by decide +kernel
theorem dX5_ifBeats_12 : decode cX5_ifBeats 12 = .ok (.iconst 3, 1) := by decide +kernel
theorem dX5_ifBeats_13 : decode cX5_ifBeats 13 = .ok (.invokestatic 36, 3) := by decide +kernel
theorem dX5_ifBeats_16 : decode cX5_ifBeats 16 = .ok (.ifCond .ne 6, 3) := by decide +kernel
theorem dX5_ifBeats_19 : decode cX5_ifBeats 19 = .ok (.ldc 78, 2) := by decide +kernel
theorem dX5_ifBeats_21 : decode cX5_ifBeats 21 = .ok (.ireturn, 1) := by decide +kernel
theorem dX5_ifBeats_22 : decode cX5_ifBeats 22 = .ok (.aload_n 0, 1) := by decide +kernel
theorem dX5_ifBeats_23 : decode cX5_ifBeats 23 = .ok (.getfield 7, 3) := by decide +kernel
theorem dX5_ifBeats_26 : decode cX5_ifBeats 26 = .ok (.aload_n 0, 1) := by decide +kernel
theorem dX5_ifBeats_27 : decode cX5_ifBeats 27 = .ok (.getfield 19, 3) := by decide +kernel
theorem dX5_ifBeats_30 : decode cX5_ifBeats 30 = .ok (.invokestatic 114, 3) := by decide +kernel
theorem dX5_ifBeats_33 : decode cX5_ifBeats 33 = .ok (.aload_n 0, 1) := by decide +kernel
theorem dX5_ifBeats_34 : decode cX5_ifBeats 34 = .ok (.iload_n 1, 1) := by decide +kernel
theorem dX5_ifBeats_35 : decode cX5_ifBeats 35 = .ok (.invokevirtual 99, 3) := by decide +kernel
theorem dX5_ifBeats_38 : decode cX5_ifBeats 38 = .ok (.iload_n 2, 1) := by decide +kernel
theorem dX5_ifBeats_39 : decode cX5_ifBeats 39 = .ok (.ifCond .ne 9, 3) := by decide +kernel
theorem dX5_ifBeats_42 : decode cX5_ifBeats 42 = .ok (.sipush 207, 3) := by decide +kernel
theorem dX5_ifBeats_45 : decode cX5_ifBeats 45 = .ok (.goto 28, 3) := by decide +kernel
theorem dX5_ifBeats_48 : decode cX5_ifBeats 48 = .ok (.iload_n 2, 1) := by decide +kernel
theorem dX5_ifBeats_49 : decode cX5_ifBeats 49 = .ok (.iconst 1, 1) := by decide +kernel
theorem dX5_ifBeats_50 : decode cX5_ifBeats 50 = .ok (.if_icmp .ne 9, 3) := by decide +kernel
theorem dX5_ifBeats_53 : decode cX5_ifBeats 53 = .ok (.sipush 208, 3) := by decide +kernel
theorem dX5_ifBeats_56 : decode cX5_ifBeats 56 = .ok (.goto 17, 3) := by decide +kernel
theorem dX5_ifBeats_59 : decode cX5_ifBeats 59 = .ok (.iload_n 2, 1) := by decide +kernel
theorem dX5_ifBeats_60 : decode cX5_ifBeats 60 = .ok (.iconst 2, 1) := by decide +kernel
theorem dX5_ifBeats_61 : decode cX5_ifBeats 61 = .ok (.if_icmp .ne 9, 3) := by decide +kernel
theorem dX5_ifBeats_64 : decode cX5_ifBeats 64 = .ok (.sipush 202, 3) := by decide +kernel
theorem dX5_ifBeats_67 : decode cX5_ifBeats 67 = .ok (.goto 6, 3) := by decide +kernel
theorem dX5_ifBeats_70 : decode cX5_ifBeats 70 = .ok (.sipush 205, 3) := by decide +kernel
theorem dX5_ifBeats_73 : decode cX5_ifBeats 73 = .ok (.istore_n 3, 1) := by decide +kernel
theorem dX5_ifBeats_74 : decode cX5_ifBeats 74 = .ok (.aload_n 0, 1) := by decide +kernel
theorem dX5_ifBeats_75 : decode cX5_ifBeats 75 = .ok (.getfield 7, 3) := by decide +kernel
theorem dX5_ifBeats_78 : decode cX5_ifBeats 78 = .ok (.iload_n 3, 1) := by decide +kernel
theorem dX5_ifBeats_79 : decode cX5_ifBeats 79 = .ok (.iaload, 1) := by decide +kernel
theorem dX5_ifBeats_80 : decode cX5_ifBeats 80 = .ok (.aload_n 0, 1) := by decide +kernel
theorem dX5_ifBeats_81 : decode cX5_ifBeats 81 = .ok (.getfield 19, 3) := by decide +kernel
theorem dX5_ifBeats_84 : decode cX5_ifBeats 84 = .ok (.iload_n 3, 1) := by decide +kernel
theorem dX5_ifBeats_85 : decode cX5_ifBeats 85 = .ok (.iaload, 1) := by decide +kernel
theorem dX5_ifBeats_86 : decode cX5_ifBeats 86 = .ok (.isub, 1) := by decide +kernel
theorem dX5_ifBeats_87 : decode cX5_ifBeats 87 = .ok (.istore 4, 2) := by decide +kernel
theorem dX5_ifBeats_89 : decode cX5_ifBeats 89 = .ok (.aload_n 0, 1) := by decide +kernel
theorem dX5_ifBeats_90 : decode cX5_ifBeats 90 = .ok (.getfield 19, 3) := by decide +kernel
theorem dX5_ifBeats_93 : decode cX5_ifBeats 93 = .ok (.aload_n 0, 1) := by decide +kernel
theorem dX5_ifBeats_94 : decode cX5_ifBeats 94 = .ok (.getfield 7, 3) := by decide +kernel
theorem dX5_ifBeats_97 : decode cX5_ifBeats 97 = .ok (.invokestatic 114, 3) := by decide +kernel
theorem dX5_ifBeats_100 : decode cX5_ifBeats 100 = .ok (.iload 4, 2) := by decide +kernel
theorem dX5_ifBeats_102 : decode cX5_ifBeats 102 = .ok (.ireturn, 1) := by decide +kernel
theorem dX5_goneIn_0 : decode cX5_goneIn 0 = .ok (.aload_n 0, 1) := by decide +kernel
theorem dX5_goneIn_1 : decode cX5_goneIn 1 = .ok (.getfield 7, 3) := by decide +kernel
theorem dX5_goneIn_4 : decode cX5_goneIn 4 = .ok (.sipush 148, 3) := by decide +kernel
theorem dX5_goneIn_7 : decode cX5_goneIn 7 = .ok (.iaload, 1) := by decide +kernel
theorem dX5_goneIn_8 : decode cX5_goneIn 8 = .ok (.ifCond .ne 6, 3) := by decide +kernel
theorem dX5_goneIn_11 : decode cX5_goneIn 11 = .ok (.ldc 82, 2) := by decide +kernel
theorem dX5_goneIn_13 : decode cX5_goneIn 13 = .ok (.ireturn, 1) := by decide +kernel
theorem dX5_goneIn_14 : decode cX5_goneIn 14 = .ok (.aload_n 0, 1) := by decide +kernel
theorem dX5_goneIn_15 : decode cX5_goneIn 15 = .ok (.getfield 7, 3) := by decide +kernel
theorem dX5_goneIn_18 : decode cX5_goneIn 18 = .ok (.aload_n 0, 1) := by decide +kernel
theorem dX5_goneIn_19 : decode cX5_goneIn 19 = .ok (.getfield 19, 3) := by decide +kernel
theorem dX5_goneIn_22 : decode cX5_goneIn 22 = .ok (.invokestatic 114, 3) := by decide +kernel
theorem dX5_goneIn_25 : decode cX5_goneIn 25 = .ok (.iconst 0, 1) := by decide +kernel
theorem dX5_goneIn_26 : decode cX5_goneIn 26 = .ok (.istore_n 1, 1) := by decide +kernel
theorem dX5_goneIn_27 : decode cX5_goneIn 27 = .ok (.iload_n 1, 1) := by decide +kernel
theorem dX5_goneIn_28 : decode cX5_goneIn 28 = .ok (.sipush 200, 3) := by decide +kernel
theorem dX5_goneIn_31 : decode cX5_goneIn 31 = .ok (.if_icmp .ge 25, 3) := by decide +kernel
theorem dX5_goneIn_34 : decode cX5_goneIn 34 = .ok (.aload_n 0, 1) := by decide +kernel
theorem dX5_goneIn_35 : decode cX5_goneIn 35 = .ok (.getfield 7, 3) := by decide +kernel
theorem dX5_goneIn_38 : decode cX5_goneIn 38 = .ok (.sipush 148, 3) := by decide +kernel
theorem dX5_goneIn_41 : decode cX5_goneIn 41 = .ok (.iaload, 1) := by decide +kernel
theorem dX5_goneIn_42 : decode cX5_goneIn 42 = .ok (.iconst 1, 1) := by decide +kernel
theorem dX5_goneIn_43 : decode cX5_goneIn 43 = .ok (.if_icmp .ne 13, 3) := by decide +kernel
theorem dX5_goneIn_46 : decode cX5_goneIn 46 = .ok (.aload_n 0, 1) := by decide +kernel
theorem dX5_goneIn_47 : decode cX5_goneIn 47 = .ok (.invokevirtual 93, 3) := by decide +kernel
theorem dX5_goneIn_50 : decode cX5_goneIn 50 = .ok (.iinc 1 1, 3) := by decide +kernel
theorem dX5_goneIn_53 : decode cX5_goneIn 53 = .ok (.goto (-26), 3) := by decide +kernel
theorem dX5_goneIn_56 : decode cX5_goneIn 56 = .ok (.aload_n 0, 1) := by decide +kernel
theorem dX5_goneIn_57 : decode cX5_goneIn 57 = .ok (.getfield 7, 3) := by decide +kernel
theorem dX5_goneIn_60 : decode cX5_goneIn 60 = .ok (.sipush 148, 3) := by decide +kernel
theorem dX5_goneIn_63 : decode cX5_goneIn 63 = .ok (.iaload, 1) := by decide +kernel
theorem dX5_goneIn_64 : decode cX5_goneIn 64 = .ok (.iconst 1, 1) := by decide +kernel
theorem dX5_goneIn_65 : decode cX5_goneIn 65 = .ok (.if_icmp .ne 8, 3) := by decide +kernel
theorem dX5_goneIn_68 : decode cX5_goneIn 68 = .ok (.ldc 44, 2) := by decide +kernel
theorem dX5_goneIn_70 : decode cX5_goneIn 70 = .ok (.goto 4, 3) := by decide +kernel
theorem dX5_goneIn_73 : decode cX5_goneIn 73 = .ok (.iload_n 1, 1) := by decide +kernel
theorem dX5_goneIn_74 : decode cX5_goneIn 74 = .ok (.istore_n 1, 1) := by decide +kernel
theorem dX5_goneIn_75 : decode cX5_goneIn 75 = .ok (.aload_n 0, 1) := by decide +kernel
theorem dX5_goneIn_76 : decode cX5_goneIn 76 = .ok (.getfield 19, 3) := by decide +kernel
theorem dX5_goneIn_79 : decode cX5_goneIn 79 = .ok (.aload_n 0, 1) := by decide +kernel
theorem dX5_goneIn_80 : decode cX5_goneIn 80 = .ok (.getfield 7, 3) := by decide +kernel
theorem dX5_goneIn_83 : decode cX5_goneIn 83 = .ok (.invokestatic 114, 3) := by decide +kernel
theorem dX5_goneIn_86 : decode cX5_goneIn 86 = .ok (.iload_n 1, 1) := by decide +kernel
theorem dX5_goneIn_87 : decode cX5_goneIn 87 = .ok (.ireturn, 1) := by decide +kernel
theorem dX5_coughing_0 : decode cX5_coughing 0 = .ok (.iconst 0, 1) := by decide +kernel
theorem dX5_coughing_1 : decode cX5_coughing 1 = .ok (.istore_n 1, 1) := by decide +kernel
theorem dX5_coughing_2 : decode cX5_coughing 2 = .ok (.iconst 0, 1) := by decide +kernel
theorem dX5_coughing_3 : decode cX5_coughing 3 = .ok (.istore_n 2, 1) := by decide +kernel
theorem dX5_coughing_4 : decode cX5_coughing 4 = .ok (.iload_n 2, 1) := by decide +kernel
theorem dX5_coughing_5 : decode cX5_coughing 5 = .ok (.aload_n 0, 1) := by decide +kernel
theorem dX5_coughing_6 : decode cX5_coughing 6 = .ok (.getfield 7, 3) := by decide +kernel
theorem dX5_coughing_9 : decode cX5_coughing 9 = .ok (.sipush 199, 3) := by decide +kernel
theorem dX5_coughing_12 : decode cX5_coughing 12 = .ok (.iaload, 1) := by decide +kernel
theorem dX5_coughing_13 : decode cX5_coughing 13 = .ok (.if_icmp .ge 27, 3) := by decide +kernel
theorem dX5_coughing_16 : decode cX5_coughing 16 = .ok (.iload_n 1, 1) := by decide +kernel
theorem dX5_coughing_17 : decode cX5_coughing 17 = .ok (.aload_n 0, 1) := by decide +kernel
theorem dX5_coughing_18 : decode cX5_coughing 18 = .ok (.iload_n 2, 1) := by decide +kernel
theorem dX5_coughing_19 : decode cX5_coughing 19 = .ok (.invokevirtual 64, 3) := by decide +kernel
theorem dX5_coughing_22 : decode cX5_coughing 22 = .ok (.ifCond .eq 9, 3) := by decide +kernel
theorem dX5_coughing_25 : decode cX5_coughing 25 = .ok (.iconst 1, 1) := by decide +kernel
theorem dX5_coughing_26 : decode cX5_coughing 26 = .ok (.iload_n 2, 1) := by decide +kernel
theorem dX5_coughing_27 : decode cX5_coughing 27 = .ok (.ishl, 1) := by decide +kernel
theorem dX5_coughing_28 : decode cX5_coughing 28 = .ok (.goto 4, 3) := by decide +kernel
theorem dX5_coughing_31 : decode cX5_coughing 31 = .ok (.iconst 0, 1) := by decide +kernel
theorem dX5_coughing_32 : decode cX5_coughing 32 = .ok (.ior, 1) := by decide +kernel
theorem dX5_coughing_33 : decode cX5_coughing 33 = .ok (.istore_n 1, 1) := by decide +kernel
theorem dX5_coughing_34 : decode cX5_coughing 34 = .ok (.iinc 2 1, 3) := by decide +kernel
theorem dX5_coughing_37 : decode cX5_coughing 37 = .ok (.goto (-33), 3) := by decide +kernel
theorem dX5_coughing_40 : decode cX5_coughing 40 = .ok (.iload_n 1, 1) := by decide +kernel
theorem dX5_coughing_41 : decode cX5_coughing 41 = .ok (.ireturn, 1) := by decide +kernel
theorem dX5_loudest_0 : decode cX5_loudest 0 = .ok (.ldc 44, 2) := by decide +kernel
theorem dX5_loudest_2 : decode cX5_loudest 2 = .ok (.istore_n 1, 1) := by decide +kernel
theorem dX5_loudest_3 : decode cX5_loudest 3 = .ok (.iconst 0, 1) := by decide +kernel
theorem dX5_loudest_4 : decode cX5_loudest 4 = .ok (.istore_n 2, 1) := by decide +kernel
theorem dX5_loudest_5 : decode cX5_loudest 5 = .ok (.iload_n 2, 1) := by decide +kernel
theorem dX5_loudest_6 : decode cX5_loudest 6 = .ok (.aload_n 0, 1) := by decide +kernel
theorem dX5_loudest_7 : decode cX5_loudest 7 = .ok (.getfield 7, 3) := by decide +kernel
theorem dX5_loudest_10 : decode cX5_loudest 10 = .ok (.sipush 199, 3) := by decide +kernel
theorem dX5_loudest_13 : decode cX5_loudest 13 = .ok (.iaload, 1) := by decide +kernel
theorem dX5_loudest_14 : decode cX5_loudest 14 = .ok (.if_icmp .ge 32, 3) := by decide +kernel
theorem dX5_loudest_17 : decode cX5_loudest 17 = .ok (.iload_n 1, 1) := by decide +kernel
theorem dX5_loudest_18 : decode cX5_loudest 18 = .ok (.ifCond .lt 16, 3) := by decide +kernel
theorem dX5_loudest_21 : decode cX5_loudest 21 = .ok (.aload_n 0, 1) := by decide +kernel
theorem dX5_loudest_22 : decode cX5_loudest 22 = .ok (.iload_n 2, 1) := by decide +kernel
theorem dX5_loudest_23 : decode cX5_loudest 23 = .ok (.invokevirtual 45, 3) := by decide +kernel
theorem dX5_loudest_26 : decode cX5_loudest 26 = .ok (.aload_n 0, 1) := by decide +kernel
theorem dX5_loudest_27 : decode cX5_loudest 27 = .ok (.iload_n 1, 1) := by decide +kernel
theorem dX5_loudest_28 : decode cX5_loudest 28 = .ok (.invokevirtual 45, 3) := by decide +kernel
theorem dX5_loudest_31 : decode cX5_loudest 31 = .ok (.if_icmp .le 7, 3) := by decide +kernel
theorem dX5_loudest_34 : decode cX5_loudest 34 = .ok (.iload_n 2, 1) := by decide +kernel
theorem dX5_loudest_35 : decode cX5_loudest 35 = .ok (.goto 4, 3) := by decide +kernel
theorem dX5_loudest_38 : decode cX5_loudest 38 = .ok (.iload_n 1, 1) := by decide +kernel
theorem dX5_loudest_39 : decode cX5_loudest 39 = .ok (.istore_n 1, 1) := by decide +kernel
theorem dX5_loudest_40 : decode cX5_loudest 40 = .ok (.iinc 2 1, 3) := by decide +kernel
theorem dX5_loudest_43 : decode cX5_loudest 43 = .ok (.goto (-38), 3) := by decide +kernel
theorem dX5_loudest_46 : decode cX5_loudest 46 = .ok (.iload_n 1, 1) := by decide +kernel
theorem dX5_loudest_47 : decode cX5_loudest 47 = .ok (.ireturn, 1) := by decide +kernel
theorem dX5_ifNights_0 : decode cX5_ifNights 0 = .ok (.iload_n 1, 1) := by decide +kernel
theorem dX5_ifNights_1 : decode cX5_ifNights 1 = .ok (.iconst 1, 1) := by decide +kernel
theorem dX5_ifNights_2 : decode cX5_ifNights 2 = .ok (.bipush 20, 2) := by decide +kernel
theorem dX5_ifNights_4 : decode cX5_ifNights 4 = .ok (.invokestatic 36, 3) := by decide +kernel
theorem dX5_ifNights_7 : decode cX5_ifNights 7 = .ok (.ifCond .ne 6, 3) := by decide +kernel
theorem dX5_ifNights_10 : decode cX5_ifNights 10 = .ok (.ldc 78, 2) := by decide +kernel
theorem dX5_ifNights_12 : decode cX5_ifNights 12 = .ok (.ireturn, 1) := by decide +kernel
theorem dX5_ifNights_13 : decode cX5_ifNights 13 = .ok (.aload_n 0, 1) := by decide +kernel
theorem dX5_ifNights_14 : decode cX5_ifNights 14 = .ok (.getfield 7, 3) := by decide +kernel
theorem dX5_ifNights_17 : decode cX5_ifNights 17 = .ok (.aload_n 0, 1) := by decide +kernel
theorem dX5_ifNights_18 : decode cX5_ifNights 18 = .ok (.getfield 16, 3) := by decide +kernel
theorem dX5_ifNights_21 : decode cX5_ifNights 21 = .ok (.invokestatic 114, 3) := by decide +kernel
theorem dX5_ifNights_24 : decode cX5_ifNights 24 = .ok (.iconst 0, 1) := by decide +kernel
theorem dX5_ifNights_25 : decode cX5_ifNights 25 = .ok (.istore_n 2, 1) := by decide +kernel
theorem dX5_ifNights_26 : decode cX5_ifNights 26 = .ok (.iload_n 2, 1) := by decide +kernel
theorem dX5_ifNights_27 : decode cX5_ifNights 27 = .ok (.iload_n 1, 1) := by decide +kernel
theorem dX5_ifNights_28 : decode cX5_ifNights 28 = .ok (.if_icmp .ge 13, 3) := by decide +kernel
theorem dX5_ifNights_31 : decode cX5_ifNights 31 = .ok (.aload_n 0, 1) := by decide +kernel
theorem dX5_ifNights_32 : decode cX5_ifNights 32 = .ok (.invokevirtual 105, 3) := by decide +kernel
theorem dX5_ifNights_35 : decode cX5_ifNights 35 = .ok (.iinc 2 1, 3) := by decide +kernel
theorem dX5_ifNights_38 : decode cX5_ifNights 38 = .ok (.goto (-12), 3) := by decide +kernel
theorem dX5_ifNights_41 : decode cX5_ifNights 41 = .ok (.aload_n 0, 1) := by decide +kernel
theorem dX5_ifNights_42 : decode cX5_ifNights 42 = .ok (.invokevirtual 108, 3) := by decide +kernel
theorem dX5_ifNights_45 : decode cX5_ifNights 45 = .ok (.invokestatic 111, 3) := by decide +kernel
theorem dX5_ifNights_48 : decode cX5_ifNights 48 = .ok (.istore_n 2, 1) := by decide +kernel
theorem dX5_ifNights_49 : decode cX5_ifNights 49 = .ok (.aload_n 0, 1) := by decide +kernel
theorem dX5_ifNights_50 : decode cX5_ifNights 50 = .ok (.getfield 16, 3) := by decide +kernel
theorem dX5_ifNights_53 : decode cX5_ifNights 53 = .ok (.aload_n 0, 1) := by decide +kernel
theorem dX5_ifNights_54 : decode cX5_ifNights 54 = .ok (.getfield 7, 3) := by decide +kernel
theorem dX5_ifNights_57 : decode cX5_ifNights 57 = .ok (.invokestatic 114, 3) := by decide +kernel
theorem dX5_ifNights_60 : decode cX5_ifNights 60 = .ok (.iload_n 2, 1) := by decide +kernel
theorem dX5_ifNights_61 : decode cX5_ifNights 61 = .ok (.ireturn, 1) := by decide +kernel
theorem dX5_mean_0 : decode cX5_mean 0 = .ok (.aload_n 0, 1) := by decide +kernel
theorem dX5_mean_1 : decode cX5_mean 1 = .ok (.getfield 7, 3) := by decide +kernel
theorem dX5_mean_4 : decode cX5_mean 4 = .ok (.sipush 205, 3) := by decide +kernel
theorem dX5_mean_7 : decode cX5_mean 7 = .ok (.iaload, 1) := by decide +kernel
theorem dX5_mean_8 : decode cX5_mean 8 = .ok (.i2f, 1) := by decide +kernel
theorem dX5_mean_9 : decode cX5_mean 9 = .ok (.fstore_n 1, 1) := by decide +kernel
theorem dX5_mean_10 : decode cX5_mean 10 = .ok (.aload_n 0, 1) := by decide +kernel
theorem dX5_mean_11 : decode cX5_mean 11 = .ok (.getfield 7, 3) := by decide +kernel
theorem dX5_mean_14 : decode cX5_mean 14 = .ok (.sipush 202, 3) := by decide +kernel
theorem dX5_mean_17 : decode cX5_mean 17 = .ok (.iaload, 1) := by decide +kernel
theorem dX5_mean_18 : decode cX5_mean 18 = .ok (.i2f, 1) := by decide +kernel
theorem dX5_mean_19 : decode cX5_mean 19 = .ok (.fstore_n 2, 1) := by decide +kernel
theorem dX5_mean_20 : decode cX5_mean 20 = .ok (.aload_n 0, 1) := by decide +kernel
theorem dX5_mean_21 : decode cX5_mean 21 = .ok (.getfield 7, 3) := by decide +kernel
theorem dX5_mean_24 : decode cX5_mean 24 = .ok (.sipush 202, 3) := by decide +kernel
theorem dX5_mean_27 : decode cX5_mean 27 = .ok (.iaload, 1) := by decide +kernel
theorem dX5_mean_28 : decode cX5_mean 28 = .ok (.ifCond .ne 8, 3) := by decide +kernel
theorem dX5_mean_31 : decode cX5_mean 31 = .ok (.ldc 44, 2) := by decide +kernel
theorem dX5_mean_33 : decode cX5_mean 33 = .ok (.goto 9, 3) := by decide +kernel
theorem dX5_mean_36 : decode cX5_mean 36 = .ok (.fload_n 1, 1) := by decide +kernel
theorem dX5_mean_37 : decode cX5_mean 37 = .ok (.fload_n 2, 1) := by decide +kernel
theorem dX5_mean_38 : decode cX5_mean 38 = .ok (.fdiv, 1) := by decide +kernel
theorem dX5_mean_39 : decode cX5_mean 39 = .ok (.invokestatic 118, 3) := by decide +kernel
theorem dX5_mean_42 : decode cX5_mean 42 = .ok (.ireturn, 1) := by decide +kernel
theorem dX5_byPurses_0 : decode cX5_byPurses 0 = .ok (.iconst 0, 1) := by decide +kernel
theorem dX5_byPurses_1 : decode cX5_byPurses 1 = .ok (.istore_n 1, 1) := by decide +kernel
theorem dX5_byPurses_2 : decode cX5_byPurses 2 = .ok (.iconst 0, 1) := by decide +kernel
theorem dX5_byPurses_3 : decode cX5_byPurses 3 = .ok (.istore_n 2, 1) := by decide +kernel
theorem dX5_byPurses_4 : decode cX5_byPurses 4 = .ok (.iload_n 2, 1) := by decide +kernel
theorem dX5_byPurses_5 : decode cX5_byPurses 5 = .ok (.aload_n 0, 1) := by decide +kernel
theorem dX5_byPurses_6 : decode cX5_byPurses 6 = .ok (.getfield 7, 3) := by decide +kernel
theorem dX5_byPurses_9 : decode cX5_byPurses 9 = .ok (.sipush 199, 3) := by decide +kernel
theorem dX5_byPurses_12 : decode cX5_byPurses 12 = .ok (.iaload, 1) := by decide +kernel
theorem dX5_byPurses_13 : decode cX5_byPurses 13 = .ok (.if_icmp .ge 26, 3) := by decide +kernel
theorem dX5_byPurses_16 : decode cX5_byPurses 16 = .ok (.iload_n 1, 1) := by decide +kernel
theorem dX5_byPurses_17 : decode cX5_byPurses 17 = .ok (.aload_n 0, 1) := by decide +kernel
theorem dX5_byPurses_18 : decode cX5_byPurses 18 = .ok (.iload_n 2, 1) := by decide +kernel
theorem dX5_byPurses_19 : decode cX5_byPurses 19 = .ok (.bipush 10, 2) := by decide +kernel
theorem dX5_byPurses_21 : decode cX5_byPurses 21 = .ok (.invokevirtual 40, 3) := by decide +kernel
theorem dX5_byPurses_24 : decode cX5_byPurses 24 = .ok (.aload_n 0, 1) := by decide +kernel
theorem dX5_byPurses_25 : decode cX5_byPurses 25 = .ok (.iload_n 2, 1) := by decide +kernel
theorem dX5_byPurses_26 : decode cX5_byPurses 26 = .ok (.iconst 2, 1) := by decide +kernel
theorem dX5_byPurses_27 : decode cX5_byPurses 27 = .ok (.invokevirtual 40, 3) := by decide +kernel
theorem dX5_byPurses_30 : decode cX5_byPurses 30 = .ok (.isub, 1) := by decide +kernel
theorem dX5_byPurses_31 : decode cX5_byPurses 31 = .ok (.iadd, 1) := by decide +kernel
theorem dX5_byPurses_32 : decode cX5_byPurses 32 = .ok (.istore_n 1, 1) := by decide +kernel
theorem dX5_byPurses_33 : decode cX5_byPurses 33 = .ok (.iinc 2 1, 3) := by decide +kernel
theorem dX5_byPurses_36 : decode cX5_byPurses 36 = .ok (.goto (-32), 3) := by decide +kernel
theorem dX5_byPurses_39 : decode cX5_byPurses 39 = .ok (.iload_n 1, 1) := by decide +kernel
theorem dX5_byPurses_40 : decode cX5_byPurses 40 = .ok (.ireturn, 1) := by decide +kernel
theorem dX5_count_0 : decode cX5_count 0 = .ok (.iload_n 1, 1) := by decide +kernel
theorem dX5_count_1 : decode cX5_count 1 = .ok (.tableswitch 211 0 22 #[107, 107, 107, 118, 127, 127, 127, 127, 127, 140, 145, 145, 145, 159, 164, 164, 178, 183, 188, 211, 197, 197, 197], 107) := by decide +kernel
theorem dX5_count_108 : decode cX5_count 108 = .ok (.aload_n 0, 1) := by decide +kernel
theorem dX5_count_109 : decode cX5_count 109 = .ok (.getfield 7, 3) := by decide +kernel
theorem dX5_count_112 : decode cX5_count 112 = .ok (.sipush 198, 3) := by decide +kernel
theorem dX5_count_115 : decode cX5_count 115 = .ok (.iload_n 1, 1) := by decide +kernel
theorem dX5_count_116 : decode cX5_count 116 = .ok (.iadd, 1) := by decide +kernel
theorem dX5_count_117 : decode cX5_count 117 = .ok (.iaload, 1) := by decide +kernel
theorem dX5_count_118 : decode cX5_count 118 = .ok (.ireturn, 1) := by decide +kernel
theorem dX5_count_119 : decode cX5_count 119 = .ok (.aload_n 0, 1) := by decide +kernel
theorem dX5_count_120 : decode cX5_count 120 = .ok (.getfield 7, 3) := by decide +kernel
theorem dX5_count_123 : decode cX5_count 123 = .ok (.sipush 148, 3) := by decide +kernel
theorem dX5_count_126 : decode cX5_count 126 = .ok (.iaload, 1) := by decide +kernel
theorem dX5_count_127 : decode cX5_count 127 = .ok (.ireturn, 1) := by decide +kernel
theorem dX5_count_128 : decode cX5_count 128 = .ok (.aload_n 0, 1) := by decide +kernel
theorem dX5_count_129 : decode cX5_count 129 = .ok (.getfield 7, 3) := by decide +kernel
theorem dX5_count_132 : decode cX5_count 132 = .ok (.sipush 201, 3) := by decide +kernel
theorem dX5_count_135 : decode cX5_count 135 = .ok (.iload_n 1, 1) := by decide +kernel
theorem dX5_count_136 : decode cX5_count 136 = .ok (.iadd, 1) := by decide +kernel
theorem dX5_count_137 : decode cX5_count 137 = .ok (.iconst 4, 1) := by decide +kernel
theorem dX5_count_138 : decode cX5_count 138 = .ok (.isub, 1) := by decide +kernel
theorem dX5_count_139 : decode cX5_count 139 = .ok (.iaload, 1) := by decide +kernel
theorem dX5_count_140 : decode cX5_count 140 = .ok (.ireturn, 1) := by decide +kernel
theorem dX5_count_141 : decode cX5_count 141 = .ok (.aload_n 0, 1) := by decide +kernel
theorem dX5_count_142 : decode cX5_count 142 = .ok (.invokevirtual 124, 3) := by decide +kernel
theorem dX5_count_145 : decode cX5_count 145 = .ok (.ireturn, 1) := by decide +kernel
theorem dX5_count_146 : decode cX5_count 146 = .ok (.aload_n 0, 1) := by decide +kernel
theorem dX5_count_147 : decode cX5_count 147 = .ok (.getfield 7, 3) := by decide +kernel
theorem dX5_count_150 : decode cX5_count 150 = .ok (.sipush 206, 3) := by decide +kernel
theorem dX5_count_153 : decode cX5_count 153 = .ok (.iload_n 1, 1) := by decide +kernel
theorem dX5_count_154 : decode cX5_count 154 = .ok (.iadd, 1) := by decide +kernel
theorem dX5_count_155 : decode cX5_count 155 = .ok (.bipush 10, 2) := by decide +kernel
theorem dX5_count_157 : decode cX5_count 157 = .ok (.isub, 1) := by decide +kernel
theorem dX5_count_158 : decode cX5_count 158 = .ok (.iaload, 1) := by decide +kernel
theorem dX5_count_159 : decode cX5_count 159 = .ok (.ireturn, 1) := by decide +kernel
theorem dX5_count_160 : decode cX5_count 160 = .ok (.aload_n 0, 1) := by decide +kernel
theorem dX5_count_161 : decode cX5_count 161 = .ok (.invokevirtual 108, 3) := by decide +kernel
theorem dX5_count_164 : decode cX5_count 164 = .ok (.ireturn, 1) := by decide +kernel
theorem dX5_count_165 : decode cX5_count 165 = .ok (.aload_n 0, 1) := by decide +kernel
theorem dX5_count_166 : decode cX5_count 166 = .ok (.getfield 7, 3) := by decide +kernel
theorem dX5_count_169 : decode cX5_count 169 = .ok (.sipush 209, 3) := by decide +kernel
theorem dX5_count_172 : decode cX5_count 172 = .ok (.iload_n 1, 1) := by decide +kernel
theorem dX5_count_173 : decode cX5_count 173 = .ok (.iadd, 1) := by decide +kernel
theorem dX5_count_174 : decode cX5_count 174 = .ok (.bipush 14, 2) := by decide +kernel
theorem dX5_count_176 : decode cX5_count 176 = .ok (.isub, 1) := by decide +kernel
theorem dX5_count_177 : decode cX5_count 177 = .ok (.iaload, 1) := by decide +kernel
theorem dX5_count_178 : decode cX5_count 178 = .ok (.ireturn, 1) := by decide +kernel
theorem dX5_count_179 : decode cX5_count 179 = .ok (.aload_n 0, 1) := by decide +kernel
theorem dX5_count_180 : decode cX5_count 180 = .ok (.getfield 32, 3) := by decide +kernel
theorem dX5_count_183 : decode cX5_count 183 = .ok (.ireturn, 1) := by decide +kernel
theorem dX5_count_184 : decode cX5_count 184 = .ok (.aload_n 0, 1) := by decide +kernel
theorem dX5_count_185 : decode cX5_count 185 = .ok (.getfield 127, 3) := by decide +kernel
theorem dX5_count_188 : decode cX5_count 188 = .ok (.ireturn, 1) := by decide +kernel
theorem dX5_count_189 : decode cX5_count 189 = .ok (.aload_n 0, 1) := by decide +kernel
theorem dX5_count_190 : decode cX5_count 190 = .ok (.getfield 7, 3) := by decide +kernel
theorem dX5_count_193 : decode cX5_count 193 = .ok (.sipush 211, 3) := by decide +kernel
theorem dX5_count_196 : decode cX5_count 196 = .ok (.iaload, 1) := by decide +kernel
theorem dX5_count_197 : decode cX5_count 197 = .ok (.ireturn, 1) := by decide +kernel
theorem dX5_count_198 : decode cX5_count 198 = .ok (.aload_n 0, 1) := by decide +kernel
theorem dX5_count_199 : decode cX5_count 199 = .ok (.getfield 7, 3) := by decide +kernel
theorem dX5_count_202 : decode cX5_count 202 = .ok (.sipush 212, 3) := by decide +kernel
theorem dX5_count_205 : decode cX5_count 205 = .ok (.iload_n 1, 1) := by decide +kernel
theorem dX5_count_206 : decode cX5_count 206 = .ok (.iadd, 1) := by decide +kernel
theorem dX5_count_207 : decode cX5_count 207 = .ok (.bipush 20, 2) := by decide +kernel
theorem dX5_count_209 : decode cX5_count 209 = .ok (.isub, 1) := by decide +kernel
theorem dX5_count_210 : decode cX5_count 210 = .ok (.iaload, 1) := by decide +kernel
theorem dX5_count_211 : decode cX5_count 211 = .ok (.ireturn, 1) := by decide +kernel
theorem dX5_count_212 : decode cX5_count 212 = .ok (.ldc 78, 2) := by decide +kernel
theorem dX5_count_214 : decode cX5_count 214 = .ok (.ireturn, 1) := by decide +kernel
theorem dX5_undo_0 : decode cX5_undo 0 = .ok (.aload_n 0, 1) := by decide +kernel
theorem dX5_undo_1 : decode cX5_undo 1 = .ok (.getfield 32, 3) := by decide +kernel
theorem dX5_undo_4 : decode cX5_undo 4 = .ok (.ifCond .ne 6, 3) := by decide +kernel
theorem dX5_undo_7 : decode cX5_undo 7 = .ok (.ldc 82, 2) := by decide +kernel
theorem dX5_undo_9 : decode cX5_undo 9 = .ok (.ireturn, 1) := by decide +kernel
theorem dX5_undo_10 : decode cX5_undo 10 = .ok (.aload_n 0, 1) := by decide +kernel
theorem dX5_undo_11 : decode cX5_undo 11 = .ok (.dup, 1) := by decide +kernel
theorem dX5_undo_12 : decode cX5_undo 12 = .ok (.getfield 32, 3) := by decide +kernel
theorem dX5_undo_15 : decode cX5_undo 15 = .ok (.iconst 1, 1) := by decide +kernel
theorem dX5_undo_16 : decode cX5_undo 16 = .ok (.isub, 1) := by decide +kernel
theorem dX5_undo_17 : decode cX5_undo 17 = .ok (.putfield 32, 3) := by decide +kernel
theorem dX5_undo_20 : decode cX5_undo 20 = .ok (.iconst 0, 1) := by decide +kernel
theorem dX5_undo_21 : decode cX5_undo 21 = .ok (.istore_n 1, 1) := by decide +kernel
theorem dX5_undo_22 : decode cX5_undo 22 = .ok (.iload_n 1, 1) := by decide +kernel
theorem dX5_undo_23 : decode cX5_undo 23 = .ok (.sipush 215, 3) := by decide +kernel
theorem dX5_undo_26 : decode cX5_undo 26 = .ok (.if_icmp .ge 30, 3) := by decide +kernel
theorem dX5_undo_29 : decode cX5_undo 29 = .ok (.aload_n 0, 1) := by decide +kernel
theorem dX5_undo_30 : decode cX5_undo 30 = .ok (.getfield 7, 3) := by decide +kernel
theorem dX5_undo_33 : decode cX5_undo 33 = .ok (.iload_n 1, 1) := by decide +kernel
theorem dX5_undo_34 : decode cX5_undo 34 = .ok (.aload_n 0, 1) := by decide +kernel
theorem dX5_undo_35 : decode cX5_undo 35 = .ok (.getfield 13, 3) := by decide +kernel
theorem dX5_undo_38 : decode cX5_undo 38 = .ok (.sipush 215, 3) := by decide +kernel
theorem dX5_undo_41 : decode cX5_undo 41 = .ok (.aload_n 0, 1) := by decide +kernel
theorem dX5_undo_42 : decode cX5_undo 42 = .ok (.getfield 32, 3) := by decide +kernel
theorem dX5_undo_45 : decode cX5_undo 45 = .ok (.imul, 1) := by decide +kernel
theorem dX5_undo_46 : decode cX5_undo 46 = .ok (.iload_n 1, 1) := by decide +kernel
theorem dX5_undo_47 : decode cX5_undo 47 = .ok (.iadd, 1) := by decide +kernel
theorem dX5_undo_48 : decode cX5_undo 48 = .ok (.iaload, 1) := by decide +kernel
theorem dX5_undo_49 : decode cX5_undo 49 = .ok (.iastore, 1) := by decide +kernel
theorem dX5_undo_50 : decode cX5_undo 50 = .ok (.iinc 1 1, 3) := by decide +kernel
theorem dX5_undo_53 : decode cX5_undo 53 = .ok (.goto (-31), 3) := by decide +kernel
theorem dX5_undo_56 : decode cX5_undo 56 = .ok (.aload_n 0, 1) := by decide +kernel
theorem dX5_undo_57 : decode cX5_undo 57 = .ok (.getfield 32, 3) := by decide +kernel
theorem dX5_undo_60 : decode cX5_undo 60 = .ok (.ireturn, 1) := by decide +kernel
theorem dX5_type_0 : decode cX5_type 0 = .ok (.iload_n 1, 1) := by decide +kernel
theorem dX5_type_1 : decode cX5_type 1 = .ok (.bipush 32, 2) := by decide +kernel
theorem dX5_type_3 : decode cX5_type 3 = .ok (.bipush 126, 2) := by decide +kernel
theorem dX5_type_5 : decode cX5_type 5 = .ok (.invokestatic 36, 3) := by decide +kernel
theorem dX5_type_8 : decode cX5_type 8 = .ok (.ifCond .ne 6, 3) := by decide +kernel
theorem dX5_type_11 : decode cX5_type 11 = .ok (.ldc 78, 2) := by decide +kernel
theorem dX5_type_13 : decode cX5_type 13 = .ok (.ireturn, 1) := by decide +kernel
theorem dX5_type_14 : decode cX5_type 14 = .ok (.aload_n 0, 1) := by decide +kernel
theorem dX5_type_15 : decode cX5_type 15 = .ok (.getfield 127, 3) := by decide +kernel
theorem dX5_type_18 : decode cX5_type 18 = .ok (.bipush 60, 2) := by decide +kernel
theorem dX5_type_20 : decode cX5_type 20 = .ok (.if_icmp .ne 6, 3) := by decide +kernel
theorem dX5_type_23 : decode cX5_type 23 = .ok (.ldc 83, 2) := by decide +kernel
theorem dX5_type_25 : decode cX5_type 25 = .ok (.ireturn, 1) := by decide +kernel
theorem dX5_type_26 : decode cX5_type 26 = .ok (.aload_n 0, 1) := by decide +kernel
theorem dX5_type_27 : decode cX5_type 27 = .ok (.getfield 22, 3) := by decide +kernel
theorem dX5_type_30 : decode cX5_type 30 = .ok (.aload_n 0, 1) := by decide +kernel
theorem dX5_type_31 : decode cX5_type 31 = .ok (.getfield 127, 3) := by decide +kernel
theorem dX5_type_34 : decode cX5_type 34 = .ok (.iload_n 1, 1) := by decide +kernel
theorem dX5_type_35 : decode cX5_type 35 = .ok (.iastore, 1) := by decide +kernel
theorem dX5_type_36 : decode cX5_type 36 = .ok (.aload_n 0, 1) := by decide +kernel
theorem dX5_type_37 : decode cX5_type 37 = .ok (.dup, 1) := by decide +kernel
theorem dX5_type_38 : decode cX5_type 38 = .ok (.getfield 127, 3) := by decide +kernel
theorem dX5_type_41 : decode cX5_type 41 = .ok (.iconst 1, 1) := by decide +kernel
theorem dX5_type_42 : decode cX5_type 42 = .ok (.iadd, 1) := by decide +kernel
theorem dX5_type_43 : decode cX5_type 43 = .ok (.putfield 127, 3) := by decide +kernel
theorem dX5_type_46 : decode cX5_type 46 = .ok (.aload_n 0, 1) := by decide +kernel
theorem dX5_type_47 : decode cX5_type 47 = .ok (.getfield 127, 3) := by decide +kernel
theorem dX5_type_50 : decode cX5_type 50 = .ok (.ireturn, 1) := by decide +kernel
theorem dX5_clearText_0 : decode cX5_clearText 0 = .ok (.aload_n 0, 1) := by decide +kernel
theorem dX5_clearText_1 : decode cX5_clearText 1 = .ok (.getfield 127, 3) := by decide +kernel
theorem dX5_clearText_4 : decode cX5_clearText 4 = .ok (.istore_n 1, 1) := by decide +kernel
theorem dX5_clearText_5 : decode cX5_clearText 5 = .ok (.aload_n 0, 1) := by decide +kernel
theorem dX5_clearText_6 : decode cX5_clearText 6 = .ok (.iconst 0, 1) := by decide +kernel
theorem dX5_clearText_7 : decode cX5_clearText 7 = .ok (.putfield 127, 3) := by decide +kernel
theorem dX5_clearText_10 : decode cX5_clearText 10 = .ok (.iload_n 1, 1) := by decide +kernel
theorem dX5_clearText_11 : decode cX5_clearText 11 = .ok (.ireturn, 1) := by decide +kernel
theorem dX5_isAt_0 : decode cX5_isAt 0 = .ok (.aload_n 0, 1) := by decide +kernel
theorem dX5_isAt_1 : decode cX5_isAt 1 = .ok (.getfield 130, 3) := by decide +kernel
theorem dX5_isAt_4 : decode cX5_isAt 4 = .ok (.aload_n 0, 1) := by decide +kernel
theorem dX5_isAt_5 : decode cX5_isAt 5 = .ok (.getfield 127, 3) := by decide +kernel
theorem dX5_isAt_8 : decode cX5_isAt 8 = .ok (.if_icmp .ge 24, 3) := by decide +kernel
theorem dX5_isAt_11 : decode cX5_isAt 11 = .ok (.aload_n 0, 1) := by decide +kernel
theorem dX5_isAt_12 : decode cX5_isAt 12 = .ok (.getfield 22, 3) := by decide +kernel
theorem dX5_isAt_15 : decode cX5_isAt 15 = .ok (.aload_n 0, 1) := by decide +kernel
theorem dX5_isAt_16 : decode cX5_isAt 16 = .ok (.getfield 130, 3) := by decide +kernel
theorem dX5_isAt_19 : decode cX5_isAt 19 = .ok (.iaload, 1) := by decide +kernel
theorem dX5_isAt_20 : decode cX5_isAt 20 = .ok (.iload_n 1, 1) := by decide +kernel
theorem dX5_isAt_21 : decode cX5_isAt 21 = .ok (.iload_n 2, 1) := by decide +kernel
theorem dX5_isAt_22 : decode cX5_isAt 22 = .ok (.invokestatic 36, 3) := by decide +kernel
theorem dX5_isAt_25 : decode cX5_isAt 25 = .ok (.ifCond .eq 7, 3) := by decide +kernel
theorem dX5_isAt_28 : decode cX5_isAt 28 = .ok (.iconst 1, 1) := by decide +kernel
theorem dX5_isAt_29 : decode cX5_isAt 29 = .ok (.goto 4, 3) := by decide +kernel
theorem dX5_isAt_32 : decode cX5_isAt 32 = .ok (.iconst 0, 1) := by decide +kernel
theorem dX5_isAt_33 : decode cX5_isAt 33 = .ok (.ireturn, 1) := by decide +kernel
theorem dX5_sign_0 : decode cX5_sign 0 = .ok (.aload_n 0, 1) := by decide +kernel
theorem dX5_sign_1 : decode cX5_sign 1 = .ok (.iload_n 1, 1) := by decide +kernel
theorem dX5_sign_2 : decode cX5_sign 2 = .ok (.iload_n 1, 1) := by decide +kernel
theorem dX5_sign_3 : decode cX5_sign 3 = .ok (.invokevirtual 133, 3) := by decide +kernel
theorem dX5_sign_6 : decode cX5_sign 6 = .ok (.istore_n 2, 1) := by decide +kernel
theorem dX5_sign_7 : decode cX5_sign 7 = .ok (.aload_n 0, 1) := by decide +kernel
theorem dX5_sign_8 : decode cX5_sign 8 = .ok (.dup, 1) := by decide +kernel
theorem dX5_sign_9 : decode cX5_sign 9 = .ok (.getfield 130, 3) := by decide +kernel
theorem dX5_sign_12 : decode cX5_sign 12 = .ok (.iload_n 2, 1) := by decide +kernel
theorem dX5_sign_13 : decode cX5_sign 13 = .ok (.ifCond .eq 7, 3) := by decide +kernel
theorem dX5_sign_16 : decode cX5_sign 16 = .ok (.iconst 1, 1) := by decide +kernel
theorem dX5_sign_17 : decode cX5_sign 17 = .ok (.goto 4, 3) := by decide +kernel
theorem dX5_sign_20 : decode cX5_sign 20 = .ok (.iconst 0, 1) := by decide +kernel
theorem dX5_sign_21 : decode cX5_sign 21 = .ok (.iadd, 1) := by decide +kernel
theorem dX5_sign_22 : decode cX5_sign 22 = .ok (.putfield 130, 3) := by decide +kernel
theorem dX5_sign_25 : decode cX5_sign 25 = .ok (.iload_n 2, 1) := by decide +kernel
theorem dX5_sign_26 : decode cX5_sign 26 = .ok (.ireturn, 1) := by decide +kernel
theorem dX5_numbered_0 : decode cX5_numbered 0 = .ok (.aload_n 0, 1) := by decide +kernel
theorem dX5_numbered_1 : decode cX5_numbered 1 = .ok (.getfield 130, 3) := by decide +kernel
theorem dX5_numbered_4 : decode cX5_numbered 4 = .ok (.istore_n 2, 1) := by decide +kernel
theorem dX5_numbered_5 : decode cX5_numbered 5 = .ok (.aload_n 0, 1) := by decide +kernel
theorem dX5_numbered_6 : decode cX5_numbered 6 = .ok (.getfield 25, 3) := by decide +kernel
theorem dX5_numbered_9 : decode cX5_numbered 9 = .ok (.iload_n 1, 1) := by decide +kernel
theorem dX5_numbered_10 : decode cX5_numbered 10 = .ok (.iconst 0, 1) := by decide +kernel
theorem dX5_numbered_11 : decode cX5_numbered 11 = .ok (.iastore, 1) := by decide +kernel
theorem dX5_numbered_12 : decode cX5_numbered 12 = .ok (.aload_n 0, 1) := by decide +kernel
theorem dX5_numbered_13 : decode cX5_numbered 13 = .ok (.bipush 48, 2) := by decide +kernel
theorem dX5_numbered_15 : decode cX5_numbered 15 = .ok (.bipush 57, 2) := by decide +kernel
theorem dX5_numbered_17 : decode cX5_numbered 17 = .ok (.invokevirtual 133, 3) := by decide +kernel
theorem dX5_numbered_20 : decode cX5_numbered 20 = .ok (.ifCond .eq 54, 3) := by decide +kernel
theorem dX5_numbered_23 : decode cX5_numbered 23 = .ok (.aload_n 0, 1) := by decide +kernel
theorem dX5_numbered_24 : decode cX5_numbered 24 = .ok (.getfield 130, 3) := by decide +kernel
theorem dX5_numbered_27 : decode cX5_numbered 27 = .ok (.iload_n 2, 1) := by decide +kernel
theorem dX5_numbered_28 : decode cX5_numbered 28 = .ok (.isub, 1) := by decide +kernel
theorem dX5_numbered_29 : decode cX5_numbered 29 = .ok (.iconst 3, 1) := by decide +kernel
theorem dX5_numbered_30 : decode cX5_numbered 30 = .ok (.if_icmp .ge 44, 3) := by decide +kernel
theorem dX5_numbered_33 : decode cX5_numbered 33 = .ok (.aload_n 0, 1) := by decide +kernel
theorem dX5_numbered_34 : decode cX5_numbered 34 = .ok (.getfield 25, 3) := by decide +kernel
theorem dX5_numbered_37 : decode cX5_numbered 37 = .ok (.iload_n 1, 1) := by decide +kernel
theorem dX5_numbered_38 : decode cX5_numbered 38 = .ok (.bipush 10, 2) := by decide +kernel
theorem dX5_numbered_40 : decode cX5_numbered 40 = .ok (.aload_n 0, 1) := by decide +kernel
theorem dX5_numbered_41 : decode cX5_numbered 41 = .ok (.getfield 25, 3) := by decide +kernel
theorem dX5_numbered_44 : decode cX5_numbered 44 = .ok (.iload_n 1, 1) := by decide +kernel
theorem dX5_numbered_45 : decode cX5_numbered 45 = .ok (.iaload, 1) := by decide +kernel
theorem dX5_numbered_46 : decode cX5_numbered 46 = .ok (.imul, 1) := by decide +kernel
theorem dX5_numbered_47 : decode cX5_numbered 47 = .ok (.aload_n 0, 1) := by decide +kernel
theorem dX5_numbered_48 : decode cX5_numbered 48 = .ok (.getfield 22, 3) := by decide +kernel
theorem dX5_numbered_51 : decode cX5_numbered 51 = .ok (.aload_n 0, 1) := by decide +kernel
theorem dX5_numbered_52 : decode cX5_numbered 52 = .ok (.getfield 130, 3) := by decide +kernel
theorem dX5_numbered_55 : decode cX5_numbered 55 = .ok (.iaload, 1) := by decide +kernel
theorem dX5_numbered_56 : decode cX5_numbered 56 = .ok (.iadd, 1) := by decide +kernel
theorem dX5_numbered_57 : decode cX5_numbered 57 = .ok (.bipush 48, 2) := by decide +kernel
theorem dX5_numbered_59 : decode cX5_numbered 59 = .ok (.isub, 1) := by decide +kernel
theorem dX5_numbered_60 : decode cX5_numbered 60 = .ok (.iastore, 1) := by decide +kernel
theorem dX5_numbered_61 : decode cX5_numbered 61 = .ok (.aload_n 0, 1) := by decide +kernel
theorem dX5_numbered_62 : decode cX5_numbered 62 = .ok (.dup, 1) := by decide +kernel
theorem dX5_numbered_63 : decode cX5_numbered 63 = .ok (.getfield 130, 3) := by decide +kernel
theorem dX5_numbered_66 : decode cX5_numbered 66 = .ok (.iconst 1, 1) := by decide +kernel
theorem dX5_numbered_67 : decode cX5_numbered 67 = .ok (.iadd, 1) := by decide +kernel
theorem dX5_numbered_68 : decode cX5_numbered 68 = .ok (.putfield 130, 3) := by decide +kernel
theorem dX5_numbered_71 : decode cX5_numbered 71 = .ok (.goto (-59), 3) := by decide +kernel
theorem dX5_numbered_74 : decode cX5_numbered 74 = .ok (.aload_n 0, 1) := by decide +kernel
theorem dX5_numbered_75 : decode cX5_numbered 75 = .ok (.getfield 130, 3) := by decide +kernel
theorem dX5_numbered_78 : decode cX5_numbered 78 = .ok (.iload_n 2, 1) := by decide +kernel
theorem dX5_numbered_79 : decode cX5_numbered 79 = .ok (.if_icmp .le 7, 3) := by decide +kernel
theorem dX5_numbered_82 : decode cX5_numbered 82 = .ok (.iconst 1, 1) := by decide +kernel
theorem dX5_numbered_83 : decode cX5_numbered 83 = .ok (.goto 4, 3) := by decide +kernel
theorem dX5_numbered_86 : decode cX5_numbered 86 = .ok (.iconst 0, 1) := by decide +kernel
theorem dX5_numbered_87 : decode cX5_numbered 87 = .ok (.ireturn, 1) := by decide +kernel
theorem dX5_numbersOf_0 : decode cX5_numbersOf 0 = .ok (.iload_n 0, 1) := by decide +kernel
theorem dX5_numbersOf_1 : decode cX5_numbersOf 1 = .ok (.tableswitch 103 98 117 #[99, 99, 103, 103, 103, 103, 103, 103, 103, 103, 97, 97, 101, 103, 95, 103, 103, 103, 103, 101], 95) := by decide +kernel
theorem dX5_numbersOf_96 : decode cX5_numbersOf 96 = .ok (.iconst 4, 1) := by decide +kernel
theorem dX5_numbersOf_97 : decode cX5_numbersOf 97 = .ok (.ireturn, 1) := by decide +kernel
theorem dX5_numbersOf_98 : decode cX5_numbersOf 98 = .ok (.iconst 2, 1) := by decide +kernel
theorem dX5_numbersOf_99 : decode cX5_numbersOf 99 = .ok (.ireturn, 1) := by decide +kernel
theorem dX5_numbersOf_100 : decode cX5_numbersOf 100 = .ok (.iconst 1, 1) := by decide +kernel
theorem dX5_numbersOf_101 : decode cX5_numbersOf 101 = .ok (.ireturn, 1) := by decide +kernel
theorem dX5_numbersOf_102 : decode cX5_numbersOf 102 = .ok (.iconst 0, 1) := by decide +kernel
theorem dX5_numbersOf_103 : decode cX5_numbersOf 103 = .ok (.ireturn, 1) := by decide +kernel
theorem dX5_numbersOf_104 : decode cX5_numbersOf 104 = .ok (.ldc 44, 2) := by decide +kernel
theorem dX5_numbersOf_106 : decode cX5_numbersOf 106 = .ok (.ireturn, 1) := by decide +kernel
theorem dX5_parses_0 : decode cX5_parses 0 = .ok (.aload_n 0, 1) := by decide +kernel
theorem dX5_parses_1 : decode cX5_parses 1 = .ok (.aload_n 0, 1) := by decide +kernel
theorem dX5_parses_2 : decode cX5_parses 2 = .ok (.bipush 33, 2) := by decide +kernel
theorem dX5_parses_4 : decode cX5_parses 4 = .ok (.bipush 126, 2) := by decide +kernel
theorem dX5_parses_6 : decode cX5_parses 6 = .ok (.invokevirtual 133, 3) := by decide +kernel
theorem dX5_parses_9 : decode cX5_parses 9 = .ok (.ifCond .eq 15, 3) := by decide +kernel
theorem dX5_parses_12 : decode cX5_parses 12 = .ok (.aload_n 0, 1) := by decide +kernel
theorem dX5_parses_13 : decode cX5_parses 13 = .ok (.getfield 22, 3) := by decide +kernel
theorem dX5_parses_16 : decode cX5_parses 16 = .ok (.aload_n 0, 1) := by decide +kernel
theorem dX5_parses_17 : decode cX5_parses 17 = .ok (.getfield 130, 3) := by decide +kernel
theorem dX5_parses_20 : decode cX5_parses 20 = .ok (.iaload, 1) := by decide +kernel
theorem dX5_parses_21 : decode cX5_parses 21 = .ok (.goto 4, 3) := by decide +kernel
theorem dX5_parses_24 : decode cX5_parses 24 = .ok (.iconst 0, 1) := by decide +kernel
theorem dX5_parses_25 : decode cX5_parses 25 = .ok (.putfield 136, 3) := by decide +kernel
theorem dX5_parses_28 : decode cX5_parses 28 = .ok (.aload_n 0, 1) := by decide +kernel
theorem dX5_parses_29 : decode cX5_parses 29 = .ok (.getfield 136, 3) := by decide +kernel
theorem dX5_parses_32 : decode cX5_parses 32 = .ok (.invokestatic 139, 3) := by decide +kernel
theorem dX5_parses_35 : decode cX5_parses 35 = .ok (.istore_n 1, 1) := by decide +kernel
theorem dX5_parses_36 : decode cX5_parses 36 = .ok (.iload_n 1, 1) := by decide +kernel
theorem dX5_parses_37 : decode cX5_parses 37 = .ok (.ifCond .ge 5, 3) := by decide +kernel
theorem dX5_parses_40 : decode cX5_parses 40 = .ok (.iconst 0, 1) := by decide +kernel
theorem dX5_parses_41 : decode cX5_parses 41 = .ok (.ireturn, 1) := by decide +kernel
theorem dX5_parses_42 : decode cX5_parses 42 = .ok (.aload_n 0, 1) := by decide +kernel
theorem dX5_parses_43 : decode cX5_parses 43 = .ok (.dup, 1) := by decide +kernel
theorem dX5_parses_44 : decode cX5_parses 44 = .ok (.getfield 130, 3) := by decide +kernel
theorem dX5_parses_47 : decode cX5_parses 47 = .ok (.iconst 1, 1) := by decide +kernel
theorem dX5_parses_48 : decode cX5_parses 48 = .ok (.iadd, 1) := by decide +kernel
theorem dX5_parses_49 : decode cX5_parses 49 = .ok (.putfield 130, 3) := by decide +kernel
theorem dX5_parses_52 : decode cX5_parses 52 = .ok (.iload_n 1, 1) := by decide +kernel
theorem dX5_parses_53 : decode cX5_parses 53 = .ok (.ifCond .eq 11, 3) := by decide +kernel
theorem dX5_parses_56 : decode cX5_parses 56 = .ok (.aload_n 0, 1) := by decide +kernel
theorem dX5_parses_57 : decode cX5_parses 57 = .ok (.iconst 0, 1) := by decide +kernel
theorem dX5_parses_58 : decode cX5_parses 58 = .ok (.invokevirtual 142, 3) := by decide +kernel
theorem dX5_parses_61 : decode cX5_parses 61 = .ok (.ifCond .eq 7, 3) := by decide +kernel
theorem dX5_parses_64 : decode cX5_parses 64 = .ok (.iconst 1, 1) := by decide +kernel
theorem dX5_parses_65 : decode cX5_parses 65 = .ok (.goto 4, 3) := by decide +kernel
theorem dX5_parses_68 : decode cX5_parses 68 = .ok (.iconst 0, 1) := by decide +kernel
theorem dX5_parses_69 : decode cX5_parses 69 = .ok (.istore_n 2, 1) := by decide +kernel
theorem dX5_parses_70 : decode cX5_parses 70 = .ok (.iconst 1, 1) := by decide +kernel
theorem dX5_parses_71 : decode cX5_parses 71 = .ok (.istore_n 3, 1) := by decide +kernel
theorem dX5_parses_72 : decode cX5_parses 72 = .ok (.iload_n 3, 1) := by decide +kernel
theorem dX5_parses_73 : decode cX5_parses 73 = .ok (.iload_n 1, 1) := by decide +kernel
theorem dX5_parses_74 : decode cX5_parses 74 = .ok (.if_icmp .ge 36, 3) := by decide +kernel
theorem dX5_parses_77 : decode cX5_parses 77 = .ok (.iload_n 2, 1) := by decide +kernel
theorem dX5_parses_78 : decode cX5_parses 78 = .ok (.ifCond .eq 32, 3) := by decide +kernel
theorem dX5_parses_81 : decode cX5_parses 81 = .ok (.aload_n 0, 1) := by decide +kernel
theorem dX5_parses_82 : decode cX5_parses 82 = .ok (.bipush 44, 2) := by decide +kernel
theorem dX5_parses_84 : decode cX5_parses 84 = .ok (.invokevirtual 145, 3) := by decide +kernel
theorem dX5_parses_87 : decode cX5_parses 87 = .ok (.ifCond .eq 15, 3) := by decide +kernel
theorem dX5_parses_90 : decode cX5_parses 90 = .ok (.aload_n 0, 1) := by decide +kernel
theorem dX5_parses_91 : decode cX5_parses 91 = .ok (.iload_n 3, 1) := by decide +kernel
theorem dX5_parses_92 : decode cX5_parses 92 = .ok (.invokevirtual 142, 3) := by decide +kernel
theorem dX5_parses_95 : decode cX5_parses 95 = .ok (.ifCond .eq 7, 3) := by decide +kernel
theorem dX5_parses_98 : decode cX5_parses 98 = .ok (.iconst 1, 1) := by decide +kernel
theorem dX5_parses_99 : decode cX5_parses 99 = .ok (.goto 4, 3) := by decide +kernel
theorem dX5_parses_102 : decode cX5_parses 102 = .ok (.iconst 0, 1) := by decide +kernel
theorem dX5_parses_103 : decode cX5_parses 103 = .ok (.istore_n 2, 1) := by decide +kernel
theorem dX5_parses_104 : decode cX5_parses 104 = .ok (.iinc 3 1, 3) := by decide +kernel
theorem dX5_parses_107 : decode cX5_parses 107 = .ok (.goto (-35), 3) := by decide +kernel
theorem dX5_parses_110 : decode cX5_parses 110 = .ok (.iload_n 2, 1) := by decide +kernel
theorem dX5_parses_111 : decode cX5_parses 111 = .ok (.ifCond .eq 16, 3) := by decide +kernel
theorem dX5_parses_114 : decode cX5_parses 114 = .ok (.aload_n 0, 1) := by decide +kernel
theorem dX5_parses_115 : decode cX5_parses 115 = .ok (.bipush 59, 2) := by decide +kernel
theorem dX5_parses_117 : decode cX5_parses 117 = .ok (.invokevirtual 145, 3) := by decide +kernel
theorem dX5_parses_120 : decode cX5_parses 120 = .ok (.ifCond .eq 7, 3) := by decide +kernel
theorem dX5_parses_123 : decode cX5_parses 123 = .ok (.iconst 1, 1) := by decide +kernel
theorem dX5_parses_124 : decode cX5_parses 124 = .ok (.goto 4, 3) := by decide +kernel
theorem dX5_parses_127 : decode cX5_parses 127 = .ok (.iconst 0, 1) := by decide +kernel
theorem dX5_parses_128 : decode cX5_parses 128 = .ok (.ireturn, 1) := by decide +kernel
theorem dX5_does_0 : decode cX5_does 0 = .ok (.aload_n 0, 1) := by decide +kernel
theorem dX5_does_1 : decode cX5_does 1 = .ok (.getfield 136, 3) := by decide +kernel
theorem dX5_does_4 : decode cX5_does 4 = .ok (.tableswitch 186 98 117 #[170, 159, 186, 186, 186, 186, 186, 186, 186, 186, 125, 142, 186, 186, 96, 186, 186, 186, 186, 181], 96) := by decide +kernel
theorem dX5_does_100 : decode cX5_does 100 = .ok (.aload_n 0, 1) := by decide +kernel
theorem dX5_does_101 : decode cX5_does 101 = .ok (.aload_n 0, 1) := by decide +kernel
theorem dX5_does_102 : decode cX5_does 102 = .ok (.getfield 25, 3) := by decide +kernel
theorem dX5_does_105 : decode cX5_does 105 = .ok (.iconst 0, 1) := by decide +kernel
theorem dX5_does_106 : decode cX5_does 106 = .ok (.iaload, 1) := by decide +kernel
theorem dX5_does_107 : decode cX5_does 107 = .ok (.aload_n 0, 1) := by decide +kernel
theorem dX5_does_108 : decode cX5_does 108 = .ok (.getfield 25, 3) := by decide +kernel
theorem dX5_does_111 : decode cX5_does 111 = .ok (.iconst 1, 1) := by decide +kernel
theorem dX5_does_112 : decode cX5_does 112 = .ok (.iaload, 1) := by decide +kernel
theorem dX5_does_113 : decode cX5_does 113 = .ok (.aload_n 0, 1) := by decide +kernel
theorem dX5_does_114 : decode cX5_does 114 = .ok (.getfield 25, 3) := by decide +kernel
theorem dX5_does_117 : decode cX5_does 117 = .ok (.iconst 2, 1) := by decide +kernel
theorem dX5_does_118 : decode cX5_does 118 = .ok (.iaload, 1) := by decide +kernel
theorem dX5_does_119 : decode cX5_does 119 = .ok (.aload_n 0, 1) := by decide +kernel
theorem dX5_does_120 : decode cX5_does 120 = .ok (.getfield 25, 3) := by decide +kernel
theorem dX5_does_123 : decode cX5_does 123 = .ok (.iconst 3, 1) := by decide +kernel
theorem dX5_does_124 : decode cX5_does 124 = .ok (.iaload, 1) := by decide +kernel
theorem dX5_does_125 : decode cX5_does 125 = .ok (.invokevirtual 148, 3) := by decide +kernel
theorem dX5_does_128 : decode cX5_does 128 = .ok (.ireturn, 1) := by decide +kernel
theorem dX5_does_129 : decode cX5_does 129 = .ok (.aload_n 0, 1) := by decide +kernel
theorem dX5_does_130 : decode cX5_does 130 = .ok (.aload_n 0, 1) := by decide +kernel
theorem dX5_does_131 : decode cX5_does 131 = .ok (.getfield 25, 3) := by decide +kernel
theorem dX5_does_134 : decode cX5_does 134 = .ok (.iconst 0, 1) := by decide +kernel
theorem dX5_does_135 : decode cX5_does 135 = .ok (.iaload, 1) := by decide +kernel
theorem dX5_does_136 : decode cX5_does 136 = .ok (.aload_n 0, 1) := by decide +kernel
theorem dX5_does_137 : decode cX5_does 137 = .ok (.getfield 25, 3) := by decide +kernel
theorem dX5_does_140 : decode cX5_does 140 = .ok (.iconst 1, 1) := by decide +kernel
theorem dX5_does_141 : decode cX5_does 141 = .ok (.iaload, 1) := by decide +kernel
theorem dX5_does_142 : decode cX5_does 142 = .ok (.invokevirtual 152, 3) := by decide +kernel
theorem dX5_does_145 : decode cX5_does 145 = .ok (.ireturn, 1) := by decide +kernel
theorem dX5_does_146 : decode cX5_does 146 = .ok (.aload_n 0, 1) := by decide +kernel
theorem dX5_does_147 : decode cX5_does 147 = .ok (.aload_n 0, 1) := by decide +kernel
theorem dX5_does_148 : decode cX5_does 148 = .ok (.getfield 25, 3) := by decide +kernel
theorem dX5_does_151 : decode cX5_does 151 = .ok (.iconst 0, 1) := by decide +kernel
theorem dX5_does_152 : decode cX5_does 152 = .ok (.iaload, 1) := by decide +kernel
theorem dX5_does_153 : decode cX5_does 153 = .ok (.aload_n 0, 1) := by decide +kernel
theorem dX5_does_154 : decode cX5_does 154 = .ok (.getfield 25, 3) := by decide +kernel
theorem dX5_does_157 : decode cX5_does 157 = .ok (.iconst 1, 1) := by decide +kernel
theorem dX5_does_158 : decode cX5_does 158 = .ok (.iaload, 1) := by decide +kernel
theorem dX5_does_159 : decode cX5_does 159 = .ok (.invokevirtual 155, 3) := by decide +kernel
theorem dX5_does_162 : decode cX5_does 162 = .ok (.ireturn, 1) := by decide +kernel
theorem dX5_does_163 : decode cX5_does 163 = .ok (.aload_n 0, 1) := by decide +kernel
theorem dX5_does_164 : decode cX5_does 164 = .ok (.aload_n 0, 1) := by decide +kernel
theorem dX5_does_165 : decode cX5_does 165 = .ok (.getfield 25, 3) := by decide +kernel
theorem dX5_does_168 : decode cX5_does 168 = .ok (.iconst 0, 1) := by decide +kernel
theorem dX5_does_169 : decode cX5_does 169 = .ok (.iaload, 1) := by decide +kernel
theorem dX5_does_170 : decode cX5_does 170 = .ok (.invokevirtual 158, 3) := by decide +kernel
theorem dX5_does_173 : decode cX5_does 173 = .ok (.ireturn, 1) := by decide +kernel
theorem dX5_does_174 : decode cX5_does 174 = .ok (.aload_n 0, 1) := by decide +kernel
theorem dX5_does_175 : decode cX5_does 175 = .ok (.aload_n 0, 1) := by decide +kernel
theorem dX5_does_176 : decode cX5_does 176 = .ok (.getfield 25, 3) := by decide +kernel
theorem dX5_does_179 : decode cX5_does 179 = .ok (.iconst 0, 1) := by decide +kernel
theorem dX5_does_180 : decode cX5_does 180 = .ok (.iaload, 1) := by decide +kernel
theorem dX5_does_181 : decode cX5_does 181 = .ok (.invokevirtual 161, 3) := by decide +kernel
theorem dX5_does_184 : decode cX5_does 184 = .ok (.ireturn, 1) := by decide +kernel
theorem dX5_does_185 : decode cX5_does 185 = .ok (.aload_n 0, 1) := by decide +kernel
theorem dX5_does_186 : decode cX5_does 186 = .ok (.invokevirtual 164, 3) := by decide +kernel
theorem dX5_does_189 : decode cX5_does 189 = .ok (.ireturn, 1) := by decide +kernel
theorem dX5_does_190 : decode cX5_does 190 = .ok (.aload_n 0, 1) := by decide +kernel
theorem dX5_does_191 : decode cX5_does 191 = .ok (.invokevirtual 167, 3) := by decide +kernel
theorem dX5_does_194 : decode cX5_does 194 = .ok (.ireturn, 1) := by decide +kernel
theorem dX5_plays_0 : decode cX5_plays 0 = .ok (.aload_n 0, 1) := by decide +kernel
theorem dX5_plays_1 : decode cX5_plays 1 = .ok (.iconst 1, 1) := by decide +kernel
theorem dX5_plays_2 : decode cX5_plays 2 = .ok (.putfield 28, 3) := by decide +kernel
theorem dX5_plays_5 : decode cX5_plays 5 = .ok (.aload_n 0, 1) := by decide +kernel
theorem dX5_plays_6 : decode cX5_plays 6 = .ok (.iconst 0, 1) := by decide +kernel
theorem dX5_plays_7 : decode cX5_plays 7 = .ok (.putfield 130, 3) := by decide +kernel
theorem dX5_plays_10 : decode cX5_plays 10 = .ok (.aload_n 0, 1) := by decide +kernel
theorem dX5_plays_11 : decode cX5_plays 11 = .ok (.iconst 0, 1) := by decide +kernel
theorem dX5_plays_12 : decode cX5_plays 12 = .ok (.putfield 170, 3) := by decide +kernel
theorem dX5_plays_15 : decode cX5_plays 15 = .ok (.aload_n 0, 1) := by decide +kernel
theorem dX5_plays_16 : decode cX5_plays 16 = .ok (.iconst 0, 1) := by decide +kernel
theorem dX5_plays_17 : decode cX5_plays 17 = .ok (.putfield 173, 3) := by decide +kernel
theorem dX5_plays_20 : decode cX5_plays 20 = .ok (.iconst 1, 1) := by decide +kernel
theorem dX5_plays_21 : decode cX5_plays 21 = .ok (.istore_n 1, 1) := by decide +kernel
theorem dX5_plays_22 : decode cX5_plays 22 = .ok (.aload_n 0, 1) := by decide +kernel
theorem dX5_plays_23 : decode cX5_plays 23 = .ok (.getfield 130, 3) := by decide +kernel
theorem dX5_plays_26 : decode cX5_plays 26 = .ok (.aload_n 0, 1) := by decide +kernel
theorem dX5_plays_27 : decode cX5_plays 27 = .ok (.getfield 127, 3) := by decide +kernel
theorem dX5_plays_30 : decode cX5_plays 30 = .ok (.if_icmp .ge 94, 3) := by decide +kernel
theorem dX5_plays_33 : decode cX5_plays 33 = .ok (.iload_n 1, 1) := by decide +kernel
theorem dX5_plays_34 : decode cX5_plays 34 = .ok (.ifCond .eq 90, 3) := by decide +kernel
theorem dX5_plays_37 : decode cX5_plays 37 = .ok (.aload_n 0, 1) := by decide +kernel
theorem dX5_plays_38 : decode cX5_plays 38 = .ok (.aload_n 0, 1) := by decide +kernel
theorem dX5_plays_39 : decode cX5_plays 39 = .ok (.getfield 130, 3) := by decide +kernel
theorem dX5_plays_42 : decode cX5_plays 42 = .ok (.putfield 170, 3) := by decide +kernel
theorem dX5_plays_45 : decode cX5_plays 45 = .ok (.aload_n 0, 1) := by decide +kernel
theorem dX5_plays_46 : decode cX5_plays 46 = .ok (.invokevirtual 176, 3) := by decide +kernel
theorem dX5_plays_49 : decode cX5_plays 49 = .ok (.istore_n 2, 1) := by decide +kernel
theorem dX5_plays_50 : decode cX5_plays 50 = .ok (.iload_n 2, 1) := by decide +kernel
theorem dX5_plays_51 : decode cX5_plays 51 = .ok (.ifCond .eq 10, 3) := by decide +kernel
theorem dX5_plays_54 : decode cX5_plays 54 = .ok (.aload_n 0, 1) := by decide +kernel
theorem dX5_plays_55 : decode cX5_plays 55 = .ok (.invokevirtual 180, 3) := by decide +kernel
theorem dX5_plays_58 : decode cX5_plays 58 = .ok (.goto 4, 3) := by decide +kernel
theorem dX5_plays_61 : decode cX5_plays 61 = .ok (.iconst 0, 1) := by decide +kernel
theorem dX5_plays_62 : decode cX5_plays 62 = .ok (.istore_n 3, 1) := by decide +kernel
theorem dX5_plays_63 : decode cX5_plays 63 = .ok (.iload_n 2, 1) := by decide +kernel
theorem dX5_plays_64 : decode cX5_plays 64 = .ok (.ifCond .eq 11, 3) := by decide +kernel
theorem dX5_plays_67 : decode cX5_plays 67 = .ok (.iload_n 3, 1) := by decide +kernel
theorem dX5_plays_68 : decode cX5_plays 68 = .ok (.ifCond .lt 7, 3) := by decide +kernel
theorem dX5_plays_71 : decode cX5_plays 71 = .ok (.iconst 1, 1) := by decide +kernel
theorem dX5_plays_72 : decode cX5_plays 72 = .ok (.goto 4, 3) := by decide +kernel
theorem dX5_plays_75 : decode cX5_plays 75 = .ok (.iconst 0, 1) := by decide +kernel
theorem dX5_plays_76 : decode cX5_plays 76 = .ok (.istore_n 1, 1) := by decide +kernel
theorem dX5_plays_77 : decode cX5_plays 77 = .ok (.aload_n 0, 1) := by decide +kernel
theorem dX5_plays_78 : decode cX5_plays 78 = .ok (.iload_n 2, 1) := by decide +kernel
theorem dX5_plays_79 : decode cX5_plays 79 = .ok (.ifCond .eq 7, 3) := by decide +kernel
theorem dX5_plays_82 : decode cX5_plays 82 = .ok (.iconst 2, 1) := by decide +kernel
theorem dX5_plays_83 : decode cX5_plays 83 = .ok (.goto 4, 3) := by decide +kernel
theorem dX5_plays_86 : decode cX5_plays 86 = .ok (.iconst 1, 1) := by decide +kernel
theorem dX5_plays_87 : decode cX5_plays 87 = .ok (.putfield 183, 3) := by decide +kernel
theorem dX5_plays_90 : decode cX5_plays 90 = .ok (.aload_n 0, 1) := by decide +kernel
theorem dX5_plays_91 : decode cX5_plays 91 = .ok (.iload_n 2, 1) := by decide +kernel
theorem dX5_plays_92 : decode cX5_plays 92 = .ok (.ifCond .eq 7, 3) := by decide +kernel
theorem dX5_plays_95 : decode cX5_plays 95 = .ok (.iload_n 3, 1) := by decide +kernel
theorem dX5_plays_96 : decode cX5_plays 96 = .ok (.goto 12, 3) := by decide +kernel
theorem dX5_plays_99 : decode cX5_plays 99 = .ok (.aload_n 0, 1) := by decide +kernel
theorem dX5_plays_100 : decode cX5_plays 100 = .ok (.getfield 130, 3) := by decide +kernel
theorem dX5_plays_103 : decode cX5_plays 103 = .ok (.aload_n 0, 1) := by decide +kernel
theorem dX5_plays_104 : decode cX5_plays 104 = .ok (.getfield 170, 3) := by decide +kernel
theorem dX5_plays_107 : decode cX5_plays 107 = .ok (.isub, 1) := by decide +kernel
theorem dX5_plays_108 : decode cX5_plays 108 = .ok (.putfield 186, 3) := by decide +kernel
theorem dX5_plays_111 : decode cX5_plays 111 = .ok (.aload_n 0, 1) := by decide +kernel
theorem dX5_plays_112 : decode cX5_plays 112 = .ok (.dup, 1) := by decide +kernel
theorem dX5_plays_113 : decode cX5_plays 113 = .ok (.getfield 173, 3) := by decide +kernel
theorem dX5_plays_116 : decode cX5_plays 116 = .ok (.iconst 1, 1) := by decide +kernel
theorem dX5_plays_117 : decode cX5_plays 117 = .ok (.iadd, 1) := by decide +kernel
theorem dX5_plays_118 : decode cX5_plays 118 = .ok (.putfield 173, 3) := by decide +kernel
theorem dX5_plays_121 : decode cX5_plays 121 = .ok (.goto (-99), 3) := by decide +kernel
theorem dX5_plays_124 : decode cX5_plays 124 = .ok (.aload_n 0, 1) := by decide +kernel
theorem dX5_plays_125 : decode cX5_plays 125 = .ok (.iconst 0, 1) := by decide +kernel
theorem dX5_plays_126 : decode cX5_plays 126 = .ok (.putfield 28, 3) := by decide +kernel
theorem dX5_plays_129 : decode cX5_plays 129 = .ok (.iload_n 1, 1) := by decide +kernel
theorem dX5_plays_130 : decode cX5_plays 130 = .ok (.ireturn, 1) := by decide +kernel
theorem dX5_fault_0 : decode cX5_fault 0 = .ok (.iload_n 1, 1) := by decide +kernel
theorem dX5_fault_1 : decode cX5_fault 1 = .ok (.iconst 0, 1) := by decide +kernel
theorem dX5_fault_2 : decode cX5_fault 2 = .ok (.iconst 2, 1) := by decide +kernel
theorem dX5_fault_3 : decode cX5_fault 3 = .ok (.invokestatic 36, 3) := by decide +kernel
theorem dX5_fault_6 : decode cX5_fault 6 = .ok (.ifCond .ne 6, 3) := by decide +kernel
theorem dX5_fault_9 : decode cX5_fault 9 = .ok (.ldc 78, 2) := by decide +kernel
theorem dX5_fault_11 : decode cX5_fault 11 = .ok (.ireturn, 1) := by decide +kernel
theorem dX5_fault_12 : decode cX5_fault 12 = .ok (.aload_n 0, 1) := by decide +kernel
theorem dX5_fault_13 : decode cX5_fault 13 = .ok (.getfield 7, 3) := by decide +kernel
theorem dX5_fault_16 : decode cX5_fault 16 = .ok (.aload_n 0, 1) := by decide +kernel
theorem dX5_fault_17 : decode cX5_fault 17 = .ok (.getfield 16, 3) := by decide +kernel
theorem dX5_fault_20 : decode cX5_fault 20 = .ok (.invokestatic 114, 3) := by decide +kernel
theorem dX5_fault_23 : decode cX5_fault 23 = .ok (.aload_n 0, 1) := by decide +kernel
theorem dX5_fault_24 : decode cX5_fault 24 = .ok (.invokevirtual 189, 3) := by decide +kernel
theorem dX5_fault_27 : decode cX5_fault 27 = .ok (.istore_n 2, 1) := by decide +kernel
theorem dX5_fault_28 : decode cX5_fault 28 = .ok (.aload_n 0, 1) := by decide +kernel
theorem dX5_fault_29 : decode cX5_fault 29 = .ok (.getfield 16, 3) := by decide +kernel
theorem dX5_fault_32 : decode cX5_fault 32 = .ok (.aload_n 0, 1) := by decide +kernel
theorem dX5_fault_33 : decode cX5_fault 33 = .ok (.getfield 7, 3) := by decide +kernel
theorem dX5_fault_36 : decode cX5_fault 36 = .ok (.invokestatic 114, 3) := by decide +kernel
theorem dX5_fault_39 : decode cX5_fault 39 = .ok (.iload_n 2, 1) := by decide +kernel
theorem dX5_fault_40 : decode cX5_fault 40 = .ok (.ifCond .eq 8, 3) := by decide +kernel
theorem dX5_fault_43 : decode cX5_fault 43 = .ok (.ldc 44, 2) := by decide +kernel
theorem dX5_fault_45 : decode cX5_fault 45 = .ok (.goto 30, 3) := by decide +kernel
theorem dX5_fault_48 : decode cX5_fault 48 = .ok (.iload_n 1, 1) := by decide +kernel
theorem dX5_fault_49 : decode cX5_fault 49 = .ok (.ifCond .ne 10, 3) := by decide +kernel
theorem dX5_fault_52 : decode cX5_fault 52 = .ok (.aload_n 0, 1) := by decide +kernel
theorem dX5_fault_53 : decode cX5_fault 53 = .ok (.getfield 170, 3) := by decide +kernel
theorem dX5_fault_56 : decode cX5_fault 56 = .ok (.goto 19, 3) := by decide +kernel
theorem dX5_fault_59 : decode cX5_fault 59 = .ok (.iload_n 1, 1) := by decide +kernel
theorem dX5_fault_60 : decode cX5_fault 60 = .ok (.iconst 1, 1) := by decide +kernel
theorem dX5_fault_61 : decode cX5_fault 61 = .ok (.if_icmp .ne 10, 3) := by decide +kernel
theorem dX5_fault_64 : decode cX5_fault 64 = .ok (.aload_n 0, 1) := by decide +kernel
theorem dX5_fault_65 : decode cX5_fault 65 = .ok (.getfield 183, 3) := by decide +kernel
theorem dX5_fault_68 : decode cX5_fault 68 = .ok (.goto 7, 3) := by decide +kernel
theorem dX5_fault_71 : decode cX5_fault 71 = .ok (.aload_n 0, 1) := by decide +kernel
theorem dX5_fault_72 : decode cX5_fault 72 = .ok (.getfield 186, 3) := by decide +kernel
theorem dX5_fault_75 : decode cX5_fault 75 = .ok (.ireturn, 1) := by decide +kernel
theorem dX5_play_0 : decode cX5_play 0 = .ok (.aload_n 0, 1) := by decide +kernel
theorem dX5_play_1 : decode cX5_play 1 = .ok (.getfield 7, 3) := by decide +kernel
theorem dX5_play_4 : decode cX5_play 4 = .ok (.aload_n 0, 1) := by decide +kernel
theorem dX5_play_5 : decode cX5_play 5 = .ok (.getfield 16, 3) := by decide +kernel
theorem dX5_play_8 : decode cX5_play 8 = .ok (.invokestatic 114, 3) := by decide +kernel
theorem dX5_play_11 : decode cX5_play 11 = .ok (.aload_n 0, 1) := by decide +kernel
theorem dX5_play_12 : decode cX5_play 12 = .ok (.invokevirtual 189, 3) := by decide +kernel
theorem dX5_play_15 : decode cX5_play 15 = .ok (.istore_n 1, 1) := by decide +kernel
theorem dX5_play_16 : decode cX5_play 16 = .ok (.aload_n 0, 1) := by decide +kernel
theorem dX5_play_17 : decode cX5_play 17 = .ok (.getfield 16, 3) := by decide +kernel
theorem dX5_play_20 : decode cX5_play 20 = .ok (.aload_n 0, 1) := by decide +kernel
theorem dX5_play_21 : decode cX5_play 21 = .ok (.getfield 7, 3) := by decide +kernel
theorem dX5_play_24 : decode cX5_play 24 = .ok (.invokestatic 114, 3) := by decide +kernel
theorem dX5_play_27 : decode cX5_play 27 = .ok (.iload_n 1, 1) := by decide +kernel
theorem dX5_play_28 : decode cX5_play 28 = .ok (.ifCond .ne 6, 3) := by decide +kernel
theorem dX5_play_31 : decode cX5_play 31 = .ok (.ldc 82, 2) := by decide +kernel
theorem dX5_play_33 : decode cX5_play 33 = .ok (.ireturn, 1) := by decide +kernel
theorem dX5_play_34 : decode cX5_play 34 = .ok (.aload_n 0, 1) := by decide +kernel
theorem dX5_play_35 : decode cX5_play 35 = .ok (.invokevirtual 84, 3) := by decide +kernel
theorem dX5_play_38 : decode cX5_play 38 = .ok (.aload_n 0, 1) := by decide +kernel
theorem dX5_play_39 : decode cX5_play 39 = .ok (.invokevirtual 189, 3) := by decide +kernel
theorem dX5_play_42 : decode cX5_play 42 = .ok (.ifCond .eq 10, 3) := by decide +kernel
theorem dX5_play_45 : decode cX5_play 45 = .ok (.aload_n 0, 1) := by decide +kernel
theorem dX5_play_46 : decode cX5_play 46 = .ok (.getfield 173, 3) := by decide +kernel
theorem dX5_play_49 : decode cX5_play 49 = .ok (.goto 5, 3) := by decide +kernel
theorem dX5_play_52 : decode cX5_play 52 = .ok (.ldc 44, 2) := by decide +kernel
theorem dX5_play_54 : decode cX5_play 54 = .ok (.ireturn, 1) := by decide +kernel
theorem dJxf58ca_isNaN_12338_0 : decode cJxf58ca_isNaN_12338 0 = .ok (.fload_n 0, 1) := by decide +kernel
theorem dJxf58ca_isNaN_12338_1 : decode cJxf58ca_isNaN_12338 1 = .ok (.fload_n 0, 1) := by decide +kernel
theorem dJxf58ca_isNaN_12338_2 : decode cJxf58ca_isNaN_12338 2 = .ok (.fcmp .l, 1) := by decide +kernel
theorem dJxf58ca_isNaN_12338_3 : decode cJxf58ca_isNaN_12338 3 = .ok (.ifCond .eq 7, 3) := by decide +kernel
theorem dJxf58ca_isNaN_12338_6 : decode cJxf58ca_isNaN_12338 6 = .ok (.iconst 1, 1) := by decide +kernel
theorem dJxf58ca_isNaN_12338_7 : decode cJxf58ca_isNaN_12338 7 = .ok (.goto 4, 3) := by decide +kernel
theorem dJxf58ca_isNaN_12338_10 : decode cJxf58ca_isNaN_12338 10 = .ok (.iconst 0, 1) := by decide +kernel
theorem dJxf58ca_isNaN_12338_11 : decode cJxf58ca_isNaN_12338 11 = .ok (.ireturn, 1) := by decide +kernel
theorem dJxf58ca_floatToIntBits_5c35a_0 : decode cJxf58ca_floatToIntBits_5c35a 0 = .ok (.fload_n 0, 1) := by decide +kernel
theorem dJxf58ca_floatToIntBits_5c35a_1 : decode cJxf58ca_floatToIntBits_5c35a 1 = .ok (.invokestatic 59, 3) := by decide +kernel
theorem dJxf58ca_floatToIntBits_5c35a_4 : decode cJxf58ca_floatToIntBits_5c35a 4 = .ok (.ifCond .ne 8, 3) := by decide +kernel
theorem dJxf58ca_floatToIntBits_5c35a_7 : decode cJxf58ca_floatToIntBits_5c35a 7 = .ok (.fload_n 0, 1) := by decide +kernel
theorem dJxf58ca_floatToIntBits_5c35a_8 : decode cJxf58ca_floatToIntBits_5c35a 8 = .ok (.invokestatic 74, 3) := by decide +kernel
theorem dJxf58ca_floatToIntBits_5c35a_11 : decode cJxf58ca_floatToIntBits_5c35a 11 = .ok (.ireturn, 1) := by decide +kernel
theorem dJxf58ca_floatToIntBits_5c35a_12 : decode cJxf58ca_floatToIntBits_5c35a 12 = .ok (.ldc 77, 2) := by decide +kernel
theorem dJxf58ca_floatToIntBits_5c35a_14 : decode cJxf58ca_floatToIntBits_5c35a 14 = .ok (.ireturn, 1) := by decide +kernel
theorem dJ6_bitCount_0f7a4_0 : decode cJ6_bitCount_0f7a4 0 = .ok (.iload_n 0, 1) := by decide +kernel
theorem dJ6_bitCount_0f7a4_1 : decode cJ6_bitCount_0f7a4 1 = .ok (.iload_n 0, 1) := by decide +kernel
theorem dJ6_bitCount_0f7a4_2 : decode cJ6_bitCount_0f7a4 2 = .ok (.iconst 1, 1) := by decide +kernel
theorem dJ6_bitCount_0f7a4_3 : decode cJ6_bitCount_0f7a4 3 = .ok (.iushr, 1) := by decide +kernel
theorem dJ6_bitCount_0f7a4_4 : decode cJ6_bitCount_0f7a4 4 = .ok (.ldc_w 265, 3) := by decide +kernel
theorem dJ6_bitCount_0f7a4_7 : decode cJ6_bitCount_0f7a4 7 = .ok (.iand, 1) := by decide +kernel
theorem dJ6_bitCount_0f7a4_8 : decode cJ6_bitCount_0f7a4 8 = .ok (.isub, 1) := by decide +kernel
theorem dJ6_bitCount_0f7a4_9 : decode cJ6_bitCount_0f7a4 9 = .ok (.istore_n 0, 1) := by decide +kernel
theorem dJ6_bitCount_0f7a4_10 : decode cJ6_bitCount_0f7a4 10 = .ok (.iload_n 0, 1) := by decide +kernel
theorem dJ6_bitCount_0f7a4_11 : decode cJ6_bitCount_0f7a4 11 = .ok (.ldc_w 266, 3) := by decide +kernel
theorem dJ6_bitCount_0f7a4_14 : decode cJ6_bitCount_0f7a4 14 = .ok (.iand, 1) := by decide +kernel
theorem dJ6_bitCount_0f7a4_15 : decode cJ6_bitCount_0f7a4 15 = .ok (.iload_n 0, 1) := by decide +kernel
theorem dJ6_bitCount_0f7a4_16 : decode cJ6_bitCount_0f7a4 16 = .ok (.iconst 2, 1) := by decide +kernel
theorem dJ6_bitCount_0f7a4_17 : decode cJ6_bitCount_0f7a4 17 = .ok (.iushr, 1) := by decide +kernel
theorem dJ6_bitCount_0f7a4_18 : decode cJ6_bitCount_0f7a4 18 = .ok (.ldc_w 266, 3) := by decide +kernel
theorem dJ6_bitCount_0f7a4_21 : decode cJ6_bitCount_0f7a4 21 = .ok (.iand, 1) := by decide +kernel
theorem dJ6_bitCount_0f7a4_22 : decode cJ6_bitCount_0f7a4 22 = .ok (.iadd, 1) := by decide +kernel
theorem dJ6_bitCount_0f7a4_23 : decode cJ6_bitCount_0f7a4 23 = .ok (.istore_n 0, 1) := by decide +kernel
theorem dJ6_bitCount_0f7a4_24 : decode cJ6_bitCount_0f7a4 24 = .ok (.iload_n 0, 1) := by decide +kernel
theorem dJ6_bitCount_0f7a4_25 : decode cJ6_bitCount_0f7a4 25 = .ok (.iload_n 0, 1) := by decide +kernel
theorem dJ6_bitCount_0f7a4_26 : decode cJ6_bitCount_0f7a4 26 = .ok (.iconst 4, 1) := by decide +kernel
theorem dJ6_bitCount_0f7a4_27 : decode cJ6_bitCount_0f7a4 27 = .ok (.iushr, 1) := by decide +kernel
theorem dJ6_bitCount_0f7a4_28 : decode cJ6_bitCount_0f7a4 28 = .ok (.iadd, 1) := by decide +kernel
theorem dJ6_bitCount_0f7a4_29 : decode cJ6_bitCount_0f7a4 29 = .ok (.ldc_w 267, 3) := by decide +kernel
theorem dJ6_bitCount_0f7a4_32 : decode cJ6_bitCount_0f7a4 32 = .ok (.iand, 1) := by decide +kernel
theorem dJ6_bitCount_0f7a4_33 : decode cJ6_bitCount_0f7a4 33 = .ok (.istore_n 0, 1) := by decide +kernel
theorem dJ6_bitCount_0f7a4_34 : decode cJ6_bitCount_0f7a4 34 = .ok (.iload_n 0, 1) := by decide +kernel
theorem dJ6_bitCount_0f7a4_35 : decode cJ6_bitCount_0f7a4 35 = .ok (.iload_n 0, 1) := by decide +kernel
theorem dJ6_bitCount_0f7a4_36 : decode cJ6_bitCount_0f7a4 36 = .ok (.bipush 8, 2) := by decide +kernel
theorem dJ6_bitCount_0f7a4_38 : decode cJ6_bitCount_0f7a4 38 = .ok (.iushr, 1) := by decide +kernel
theorem dJ6_bitCount_0f7a4_39 : decode cJ6_bitCount_0f7a4 39 = .ok (.iadd, 1) := by decide +kernel
theorem dJ6_bitCount_0f7a4_40 : decode cJ6_bitCount_0f7a4 40 = .ok (.istore_n 0, 1) := by decide +kernel
theorem dJ6_bitCount_0f7a4_41 : decode cJ6_bitCount_0f7a4 41 = .ok (.iload_n 0, 1) := by decide +kernel
theorem dJ6_bitCount_0f7a4_42 : decode cJ6_bitCount_0f7a4 42 = .ok (.iload_n 0, 1) := by decide +kernel
theorem dJ6_bitCount_0f7a4_43 : decode cJ6_bitCount_0f7a4 43 = .ok (.bipush 16, 2) := by decide +kernel
theorem dJ6_bitCount_0f7a4_45 : decode cJ6_bitCount_0f7a4 45 = .ok (.iushr, 1) := by decide +kernel
theorem dJ6_bitCount_0f7a4_46 : decode cJ6_bitCount_0f7a4 46 = .ok (.iadd, 1) := by decide +kernel
theorem dJ6_bitCount_0f7a4_47 : decode cJ6_bitCount_0f7a4 47 = .ok (.istore_n 0, 1) := by decide +kernel
theorem dJ6_bitCount_0f7a4_48 : decode cJ6_bitCount_0f7a4 48 = .ok (.iload_n 0, 1) := by decide +kernel
theorem dJ6_bitCount_0f7a4_49 : decode cJ6_bitCount_0f7a4 49 = .ok (.bipush 63, 2) := by decide +kernel
theorem dJ6_bitCount_0f7a4_51 : decode cJ6_bitCount_0f7a4 51 = .ok (.iand, 1) := by decide +kernel
theorem dJ6_bitCount_0f7a4_52 : decode cJ6_bitCount_0f7a4 52 = .ok (.ireturn, 1) := by decide +kernel
theorem dJ9_max_7cf53_0 : decode cJ9_max_7cf53 0 = .ok (.iload_n 0, 1) := by decide +kernel
theorem dJ9_max_7cf53_1 : decode cJ9_max_7cf53 1 = .ok (.iload_n 1, 1) := by decide +kernel
theorem dJ9_max_7cf53_2 : decode cJ9_max_7cf53 2 = .ok (.if_icmp .lt 7, 3) := by decide +kernel
theorem dJ9_max_7cf53_5 : decode cJ9_max_7cf53 5 = .ok (.iload_n 0, 1) := by decide +kernel
theorem dJ9_max_7cf53_6 : decode cJ9_max_7cf53 6 = .ok (.goto 4, 3) := by decide +kernel
theorem dJ9_max_7cf53_9 : decode cJ9_max_7cf53 9 = .ok (.iload_n 1, 1) := by decide +kernel
theorem dJ9_max_7cf53_10 : decode cJ9_max_7cf53 10 = .ok (.ireturn, 1) := by decide +kernel
theorem dJ9_min_7cf53_0 : decode cJ9_min_7cf53 0 = .ok (.iload_n 0, 1) := by decide +kernel
theorem dJ9_min_7cf53_1 : decode cJ9_min_7cf53 1 = .ok (.iload_n 1, 1) := by decide +kernel
theorem dJ9_min_7cf53_2 : decode cJ9_min_7cf53 2 = .ok (.if_icmp .gt 7, 3) := by decide +kernel
theorem dJ9_min_7cf53_5 : decode cJ9_min_7cf53 5 = .ok (.iload_n 0, 1) := by decide +kernel
theorem dJ9_min_7cf53_6 : decode cJ9_min_7cf53 6 = .ok (.goto 4, 3) := by decide +kernel
theorem dJ9_min_7cf53_9 : decode cJ9_min_7cf53 9 = .ok (.iload_n 1, 1) := by decide +kernel
theorem dJ9_min_7cf53_10 : decode cJ9_min_7cf53 10 = .ok (.ireturn, 1) := by decide +kernel
theorem dL_law_0 : decode cL_law 0 = .ok (.new 7, 3) := by decide +kernel
theorem dL_law_3 : decode cL_law 3 = .ok (.dup, 1) := by decide +kernel
theorem dL_law_4 : decode cL_law 4 = .ok (.invokespecial 9, 3) := by decide +kernel
theorem dL_law_7 : decode cL_law 7 = .ok (.astore_n 1, 1) := by decide +kernel
theorem dL_law_8 : decode cL_law 8 = .ok (.new 10, 3) := by decide +kernel
theorem dL_law_11 : decode cL_law 11 = .ok (.dup, 1) := by decide +kernel
theorem dL_law_12 : decode cL_law 12 = .ok (.invokespecial 12, 3) := by decide +kernel
theorem dL_law_15 : decode cL_law 15 = .ok (.astore_n 2, 1) := by decide +kernel
theorem dL_law_16 : decode cL_law 16 = .ok (.iconst 0, 1) := by decide +kernel
theorem dL_law_17 : decode cL_law 17 = .ok (.istore_n 3, 1) := by decide +kernel
theorem dL_law_18 : decode cL_law 18 = .ok (.iload_n 3, 1) := by decide +kernel
theorem dL_law_19 : decode cL_law 19 = .ok (.aload_n 0, 1) := by decide +kernel
theorem dL_law_20 : decode cL_law 20 = .ok (.arraylength, 1) := by decide +kernel
theorem dL_law_21 : decode cL_law 21 = .ok (.iconst 5, 1) := by decide +kernel
theorem dL_law_22 : decode cL_law 22 = .ok (.isub, 1) := by decide +kernel
theorem dL_law_23 : decode cL_law 23 = .ok (.if_icmp .gt 790, 3) := by decide +kernel
theorem dL_law_26 : decode cL_law 26 = .ok (.aload_n 0, 1) := by decide +kernel
theorem dL_law_27 : decode cL_law 27 = .ok (.iload_n 3, 1) := by decide +kernel
theorem dL_law_28 : decode cL_law 28 = .ok (.iaload, 1) := by decide +kernel
theorem dL_law_29 : decode cL_law 29 = .ok (.bipush 31, 2) := by decide +kernel
theorem dL_law_31 : decode cL_law 31 = .ok (.iand, 1) := by decide +kernel
theorem dL_law_32 : decode cL_law 32 = .ok (.tableswitch 775 0 26 #[124, 177, 210, 243, 276, 289, 312, 335, 348, 381, 414, 447, 470, 503, 536, 559, 592, 605, 618, 631, 654, 667, 690, 703, 726, 739, 762], 124) := by decide +kernel
theorem dL_law_156 : decode cL_law 156 = .ok (.aload_n 1, 1) := by decide +kernel
theorem dL_law_157 : decode cL_law 157 = .ok (.aload_n 0, 1) := by decide +kernel
theorem dL_law_158 : decode cL_law 158 = .ok (.iload_n 3, 1) := by decide +kernel
theorem dL_law_159 : decode cL_law 159 = .ok (.iconst 1, 1) := by decide +kernel
theorem dL_law_160 : decode cL_law 160 = .ok (.iadd, 1) := by decide +kernel
theorem dL_law_161 : decode cL_law 161 = .ok (.iaload, 1) := by decide +kernel
theorem dL_law_162 : decode cL_law 162 = .ok (.aload_n 0, 1) := by decide +kernel
theorem dL_law_163 : decode cL_law 163 = .ok (.iload_n 3, 1) := by decide +kernel
theorem dL_law_164 : decode cL_law 164 = .ok (.iconst 2, 1) := by decide +kernel
theorem dL_law_165 : decode cL_law 165 = .ok (.iadd, 1) := by decide +kernel
theorem dL_law_166 : decode cL_law 166 = .ok (.iaload, 1) := by decide +kernel
theorem dL_law_167 : decode cL_law 167 = .ok (.aload_n 0, 1) := by decide +kernel
theorem dL_law_168 : decode cL_law 168 = .ok (.iload_n 3, 1) := by decide +kernel
theorem dL_law_169 : decode cL_law 169 = .ok (.iconst 3, 1) := by decide +kernel
theorem dL_law_170 : decode cL_law 170 = .ok (.iadd, 1) := by decide +kernel
theorem dL_law_171 : decode cL_law 171 = .ok (.iaload, 1) := by decide +kernel
theorem dL_law_172 : decode cL_law 172 = .ok (.aload_n 0, 1) := by decide +kernel
theorem dL_law_173 : decode cL_law 173 = .ok (.iload_n 3, 1) := by decide +kernel
theorem dL_law_174 : decode cL_law 174 = .ok (.iconst 4, 1) := by decide +kernel
theorem dL_law_175 : decode cL_law 175 = .ok (.iadd, 1) := by decide +kernel
theorem dL_law_176 : decode cL_law 176 = .ok (.iaload, 1) := by decide +kernel
theorem dL_law_177 : decode cL_law 177 = .ok (.invokevirtual 13, 3) := by decide +kernel
theorem dL_law_180 : decode cL_law 180 = .ok (.aload_n 2, 1) := by decide +kernel
theorem dL_law_181 : decode cL_law 181 = .ok (.aload_n 0, 1) := by decide +kernel
theorem dL_law_182 : decode cL_law 182 = .ok (.iload_n 3, 1) := by decide +kernel
theorem dL_law_183 : decode cL_law 183 = .ok (.iconst 1, 1) := by decide +kernel
theorem dL_law_184 : decode cL_law 184 = .ok (.iadd, 1) := by decide +kernel
theorem dL_law_185 : decode cL_law 185 = .ok (.iaload, 1) := by decide +kernel
theorem dL_law_186 : decode cL_law 186 = .ok (.aload_n 0, 1) := by decide +kernel
theorem dL_law_187 : decode cL_law 187 = .ok (.iload_n 3, 1) := by decide +kernel
theorem dL_law_188 : decode cL_law 188 = .ok (.iconst 2, 1) := by decide +kernel
theorem dL_law_189 : decode cL_law 189 = .ok (.iadd, 1) := by decide +kernel
theorem dL_law_190 : decode cL_law 190 = .ok (.iaload, 1) := by decide +kernel
theorem dL_law_191 : decode cL_law 191 = .ok (.aload_n 0, 1) := by decide +kernel
theorem dL_law_192 : decode cL_law 192 = .ok (.iload_n 3, 1) := by decide +kernel
theorem dL_law_193 : decode cL_law 193 = .ok (.iconst 3, 1) := by decide +kernel
theorem dL_law_194 : decode cL_law 194 = .ok (.iadd, 1) := by decide +kernel
theorem dL_law_195 : decode cL_law 195 = .ok (.iaload, 1) := by decide +kernel
theorem dL_law_196 : decode cL_law 196 = .ok (.aload_n 0, 1) := by decide +kernel
theorem dL_law_197 : decode cL_law 197 = .ok (.iload_n 3, 1) := by decide +kernel
theorem dL_law_198 : decode cL_law 198 = .ok (.iconst 4, 1) := by decide +kernel
theorem dL_law_199 : decode cL_law 199 = .ok (.iadd, 1) := by decide +kernel
theorem dL_law_200 : decode cL_law 200 = .ok (.iaload, 1) := by decide +kernel
theorem dL_law_201 : decode cL_law 201 = .ok (.invokevirtual 17, 3) := by decide +kernel
theorem dL_law_204 : decode cL_law 204 = .ok (.if_icmp .eq 603, 3) := by decide +kernel
theorem dL_law_207 : decode cL_law 207 = .ok (.iconst 0, 1) := by decide +kernel
theorem dL_law_208 : decode cL_law 208 = .ok (.ireturn, 1) := by decide +kernel
theorem dL_law_209 : decode cL_law 209 = .ok (.aload_n 1, 1) := by decide +kernel
theorem dL_law_210 : decode cL_law 210 = .ok (.aload_n 0, 1) := by decide +kernel
theorem dL_law_211 : decode cL_law 211 = .ok (.iload_n 3, 1) := by decide +kernel
theorem dL_law_212 : decode cL_law 212 = .ok (.iconst 1, 1) := by decide +kernel
theorem dL_law_213 : decode cL_law 213 = .ok (.iadd, 1) := by decide +kernel
theorem dL_law_214 : decode cL_law 214 = .ok (.iaload, 1) := by decide +kernel
theorem dL_law_215 : decode cL_law 215 = .ok (.aload_n 0, 1) := by decide +kernel
theorem dL_law_216 : decode cL_law 216 = .ok (.iload_n 3, 1) := by decide +kernel
theorem dL_law_217 : decode cL_law 217 = .ok (.iconst 2, 1) := by decide +kernel
theorem dL_law_218 : decode cL_law 218 = .ok (.iadd, 1) := by decide +kernel
theorem dL_law_219 : decode cL_law 219 = .ok (.iaload, 1) := by decide +kernel
theorem dL_law_220 : decode cL_law 220 = .ok (.invokevirtual 18, 3) := by decide +kernel
theorem dL_law_223 : decode cL_law 223 = .ok (.aload_n 2, 1) := by decide +kernel
theorem dL_law_224 : decode cL_law 224 = .ok (.aload_n 0, 1) := by decide +kernel
theorem dL_law_225 : decode cL_law 225 = .ok (.iload_n 3, 1) := by decide +kernel
theorem dL_law_226 : decode cL_law 226 = .ok (.iconst 1, 1) := by decide +kernel
theorem dL_law_227 : decode cL_law 227 = .ok (.iadd, 1) := by decide +kernel
theorem dL_law_228 : decode cL_law 228 = .ok (.iaload, 1) := by decide +kernel
theorem dL_law_229 : decode cL_law 229 = .ok (.aload_n 0, 1) := by decide +kernel
theorem dL_law_230 : decode cL_law 230 = .ok (.iload_n 3, 1) := by decide +kernel
theorem dL_law_231 : decode cL_law 231 = .ok (.iconst 2, 1) := by decide +kernel
theorem dL_law_232 : decode cL_law 232 = .ok (.iadd, 1) := by decide +kernel
theorem dL_law_233 : decode cL_law 233 = .ok (.iaload, 1) := by decide +kernel
theorem dL_law_234 : decode cL_law 234 = .ok (.invokevirtual 22, 3) := by decide +kernel
theorem dL_law_237 : decode cL_law 237 = .ok (.if_icmp .eq 570, 3) := by decide +kernel
theorem dL_law_240 : decode cL_law 240 = .ok (.iconst 0, 1) := by decide +kernel
theorem dL_law_241 : decode cL_law 241 = .ok (.ireturn, 1) := by decide +kernel
theorem dL_law_242 : decode cL_law 242 = .ok (.aload_n 1, 1) := by decide +kernel
theorem dL_law_243 : decode cL_law 243 = .ok (.aload_n 0, 1) := by decide +kernel
theorem dL_law_244 : decode cL_law 244 = .ok (.iload_n 3, 1) := by decide +kernel
theorem dL_law_245 : decode cL_law 245 = .ok (.iconst 1, 1) := by decide +kernel
theorem dL_law_246 : decode cL_law 246 = .ok (.iadd, 1) := by decide +kernel
theorem dL_law_247 : decode cL_law 247 = .ok (.iaload, 1) := by decide +kernel
theorem dL_law_248 : decode cL_law 248 = .ok (.aload_n 0, 1) := by decide +kernel
theorem dL_law_249 : decode cL_law 249 = .ok (.iload_n 3, 1) := by decide +kernel
theorem dL_law_250 : decode cL_law 250 = .ok (.iconst 2, 1) := by decide +kernel
theorem dL_law_251 : decode cL_law 251 = .ok (.iadd, 1) := by decide +kernel
theorem dL_law_252 : decode cL_law 252 = .ok (.iaload, 1) := by decide +kernel
theorem dL_law_253 : decode cL_law 253 = .ok (.invokevirtual 23, 3) := by decide +kernel
theorem dL_law_256 : decode cL_law 256 = .ok (.aload_n 2, 1) := by decide +kernel
theorem dL_law_257 : decode cL_law 257 = .ok (.aload_n 0, 1) := by decide +kernel
theorem dL_law_258 : decode cL_law 258 = .ok (.iload_n 3, 1) := by decide +kernel
theorem dL_law_259 : decode cL_law 259 = .ok (.iconst 1, 1) := by decide +kernel
theorem dL_law_260 : decode cL_law 260 = .ok (.iadd, 1) := by decide +kernel
theorem dL_law_261 : decode cL_law 261 = .ok (.iaload, 1) := by decide +kernel
theorem dL_law_262 : decode cL_law 262 = .ok (.aload_n 0, 1) := by decide +kernel
theorem dL_law_263 : decode cL_law 263 = .ok (.iload_n 3, 1) := by decide +kernel
theorem dL_law_264 : decode cL_law 264 = .ok (.iconst 2, 1) := by decide +kernel
theorem dL_law_265 : decode cL_law 265 = .ok (.iadd, 1) := by decide +kernel
theorem dL_law_266 : decode cL_law 266 = .ok (.iaload, 1) := by decide +kernel
theorem dL_law_267 : decode cL_law 267 = .ok (.invokevirtual 26, 3) := by decide +kernel
theorem dL_law_270 : decode cL_law 270 = .ok (.if_icmp .eq 537, 3) := by decide +kernel
theorem dL_law_273 : decode cL_law 273 = .ok (.iconst 0, 1) := by decide +kernel
theorem dL_law_274 : decode cL_law 274 = .ok (.ireturn, 1) := by decide +kernel
theorem dL_law_275 : decode cL_law 275 = .ok (.aload_n 1, 1) := by decide +kernel
theorem dL_law_276 : decode cL_law 276 = .ok (.aload_n 0, 1) := by decide +kernel
theorem dL_law_277 : decode cL_law 277 = .ok (.iload_n 3, 1) := by decide +kernel
theorem dL_law_278 : decode cL_law 278 = .ok (.iconst 1, 1) := by decide +kernel
theorem dL_law_279 : decode cL_law 279 = .ok (.iadd, 1) := by decide +kernel
theorem dL_law_280 : decode cL_law 280 = .ok (.iaload, 1) := by decide +kernel
theorem dL_law_281 : decode cL_law 281 = .ok (.aload_n 0, 1) := by decide +kernel
theorem dL_law_282 : decode cL_law 282 = .ok (.iload_n 3, 1) := by decide +kernel
theorem dL_law_283 : decode cL_law 283 = .ok (.iconst 2, 1) := by decide +kernel
theorem dL_law_284 : decode cL_law 284 = .ok (.iadd, 1) := by decide +kernel
theorem dL_law_285 : decode cL_law 285 = .ok (.iaload, 1) := by decide +kernel
theorem dL_law_286 : decode cL_law 286 = .ok (.invokevirtual 27, 3) := by decide +kernel
theorem dL_law_289 : decode cL_law 289 = .ok (.aload_n 2, 1) := by decide +kernel
theorem dL_law_290 : decode cL_law 290 = .ok (.aload_n 0, 1) := by decide +kernel
theorem dL_law_291 : decode cL_law 291 = .ok (.iload_n 3, 1) := by decide +kernel
theorem dL_law_292 : decode cL_law 292 = .ok (.iconst 1, 1) := by decide +kernel
theorem dL_law_293 : decode cL_law 293 = .ok (.iadd, 1) := by decide +kernel
theorem dL_law_294 : decode cL_law 294 = .ok (.iaload, 1) := by decide +kernel
theorem dL_law_295 : decode cL_law 295 = .ok (.aload_n 0, 1) := by decide +kernel
theorem dL_law_296 : decode cL_law 296 = .ok (.iload_n 3, 1) := by decide +kernel
theorem dL_law_297 : decode cL_law 297 = .ok (.iconst 2, 1) := by decide +kernel
theorem dL_law_298 : decode cL_law 298 = .ok (.iadd, 1) := by decide +kernel
theorem dL_law_299 : decode cL_law 299 = .ok (.iaload, 1) := by decide +kernel
theorem dL_law_300 : decode cL_law 300 = .ok (.invokevirtual 30, 3) := by decide +kernel
theorem dL_law_303 : decode cL_law 303 = .ok (.if_icmp .eq 504, 3) := by decide +kernel
theorem dL_law_306 : decode cL_law 306 = .ok (.iconst 0, 1) := by decide +kernel
theorem dL_law_307 : decode cL_law 307 = .ok (.ireturn, 1) := by decide +kernel
theorem dL_law_308 : decode cL_law 308 = .ok (.aload_n 1, 1) := by decide +kernel
theorem dL_law_309 : decode cL_law 309 = .ok (.invokevirtual 31, 3) := by decide +kernel
theorem dL_law_312 : decode cL_law 312 = .ok (.aload_n 2, 1) := by decide +kernel
theorem dL_law_313 : decode cL_law 313 = .ok (.invokevirtual 35, 3) := by decide +kernel
theorem dL_law_316 : decode cL_law 316 = .ok (.if_icmp .eq 491, 3) := by decide +kernel
theorem dL_law_319 : decode cL_law 319 = .ok (.iconst 0, 1) := by decide +kernel
theorem dL_law_320 : decode cL_law 320 = .ok (.ireturn, 1) := by decide +kernel
theorem dL_law_321 : decode cL_law 321 = .ok (.aload_n 1, 1) := by decide +kernel
theorem dL_law_322 : decode cL_law 322 = .ok (.aload_n 0, 1) := by decide +kernel
theorem dL_law_323 : decode cL_law 323 = .ok (.iload_n 3, 1) := by decide +kernel
theorem dL_law_324 : decode cL_law 324 = .ok (.iconst 1, 1) := by decide +kernel
theorem dL_law_325 : decode cL_law 325 = .ok (.iadd, 1) := by decide +kernel
theorem dL_law_326 : decode cL_law 326 = .ok (.iaload, 1) := by decide +kernel
theorem dL_law_327 : decode cL_law 327 = .ok (.invokevirtual 36, 3) := by decide +kernel
theorem dL_law_330 : decode cL_law 330 = .ok (.aload_n 2, 1) := by decide +kernel
theorem dL_law_331 : decode cL_law 331 = .ok (.aload_n 0, 1) := by decide +kernel
theorem dL_law_332 : decode cL_law 332 = .ok (.iload_n 3, 1) := by decide +kernel
theorem dL_law_333 : decode cL_law 333 = .ok (.iconst 1, 1) := by decide +kernel
theorem dL_law_334 : decode cL_law 334 = .ok (.iadd, 1) := by decide +kernel
theorem dL_law_335 : decode cL_law 335 = .ok (.iaload, 1) := by decide +kernel
theorem dL_law_336 : decode cL_law 336 = .ok (.invokevirtual 40, 3) := by decide +kernel
theorem dL_law_339 : decode cL_law 339 = .ok (.if_icmp .eq 468, 3) := by decide +kernel
theorem dL_law_342 : decode cL_law 342 = .ok (.iconst 0, 1) := by decide +kernel
theorem dL_law_343 : decode cL_law 343 = .ok (.ireturn, 1) := by decide +kernel
theorem dL_law_344 : decode cL_law 344 = .ok (.aload_n 1, 1) := by decide +kernel
theorem dL_law_345 : decode cL_law 345 = .ok (.aload_n 0, 1) := by decide +kernel
theorem dL_law_346 : decode cL_law 346 = .ok (.iload_n 3, 1) := by decide +kernel
theorem dL_law_347 : decode cL_law 347 = .ok (.iconst 1, 1) := by decide +kernel
theorem dL_law_348 : decode cL_law 348 = .ok (.iadd, 1) := by decide +kernel
theorem dL_law_349 : decode cL_law 349 = .ok (.iaload, 1) := by decide +kernel
theorem dL_law_350 : decode cL_law 350 = .ok (.invokevirtual 41, 3) := by decide +kernel
theorem dL_law_353 : decode cL_law 353 = .ok (.aload_n 2, 1) := by decide +kernel
theorem dL_law_354 : decode cL_law 354 = .ok (.aload_n 0, 1) := by decide +kernel
theorem dL_law_355 : decode cL_law 355 = .ok (.iload_n 3, 1) := by decide +kernel
theorem dL_law_356 : decode cL_law 356 = .ok (.iconst 1, 1) := by decide +kernel
theorem dL_law_357 : decode cL_law 357 = .ok (.iadd, 1) := by decide +kernel
theorem dL_law_358 : decode cL_law 358 = .ok (.iaload, 1) := by decide +kernel
theorem dL_law_359 : decode cL_law 359 = .ok (.invokevirtual 44, 3) := by decide +kernel
theorem dL_law_362 : decode cL_law 362 = .ok (.if_icmp .eq 445, 3) := by decide +kernel
theorem dL_law_365 : decode cL_law 365 = .ok (.iconst 0, 1) := by decide +kernel
theorem dL_law_366 : decode cL_law 366 = .ok (.ireturn, 1) := by decide +kernel
theorem dL_law_367 : decode cL_law 367 = .ok (.aload_n 1, 1) := by decide +kernel
theorem dL_law_368 : decode cL_law 368 = .ok (.invokevirtual 45, 3) := by decide +kernel
theorem dL_law_371 : decode cL_law 371 = .ok (.aload_n 2, 1) := by decide +kernel
theorem dL_law_372 : decode cL_law 372 = .ok (.invokevirtual 48, 3) := by decide +kernel
theorem dL_law_375 : decode cL_law 375 = .ok (.if_icmp .eq 432, 3) := by decide +kernel
theorem dL_law_378 : decode cL_law 378 = .ok (.iconst 0, 1) := by decide +kernel
theorem dL_law_379 : decode cL_law 379 = .ok (.ireturn, 1) := by decide +kernel
theorem dL_law_380 : decode cL_law 380 = .ok (.aload_n 1, 1) := by decide +kernel
theorem dL_law_381 : decode cL_law 381 = .ok (.aload_n 0, 1) := by decide +kernel
theorem dL_law_382 : decode cL_law 382 = .ok (.iload_n 3, 1) := by decide +kernel
theorem dL_law_383 : decode cL_law 383 = .ok (.iconst 1, 1) := by decide +kernel
theorem dL_law_384 : decode cL_law 384 = .ok (.iadd, 1) := by decide +kernel
theorem dL_law_385 : decode cL_law 385 = .ok (.iaload, 1) := by decide +kernel
theorem dL_law_386 : decode cL_law 386 = .ok (.aload_n 0, 1) := by decide +kernel
theorem dL_law_387 : decode cL_law 387 = .ok (.iload_n 3, 1) := by decide +kernel
theorem dL_law_388 : decode cL_law 388 = .ok (.iconst 2, 1) := by decide +kernel
theorem dL_law_389 : decode cL_law 389 = .ok (.iadd, 1) := by decide +kernel
theorem dL_law_390 : decode cL_law 390 = .ok (.iaload, 1) := by decide +kernel
theorem dL_law_391 : decode cL_law 391 = .ok (.invokevirtual 49, 3) := by decide +kernel
theorem dL_law_394 : decode cL_law 394 = .ok (.aload_n 2, 1) := by decide +kernel
theorem dL_law_395 : decode cL_law 395 = .ok (.aload_n 0, 1) := by decide +kernel
theorem dL_law_396 : decode cL_law 396 = .ok (.iload_n 3, 1) := by decide +kernel
theorem dL_law_397 : decode cL_law 397 = .ok (.iconst 1, 1) := by decide +kernel
theorem dL_law_398 : decode cL_law 398 = .ok (.iadd, 1) := by decide +kernel
theorem dL_law_399 : decode cL_law 399 = .ok (.iaload, 1) := by decide +kernel
theorem dL_law_400 : decode cL_law 400 = .ok (.aload_n 0, 1) := by decide +kernel
theorem dL_law_401 : decode cL_law 401 = .ok (.iload_n 3, 1) := by decide +kernel
theorem dL_law_402 : decode cL_law 402 = .ok (.iconst 2, 1) := by decide +kernel
theorem dL_law_403 : decode cL_law 403 = .ok (.iadd, 1) := by decide +kernel
theorem dL_law_404 : decode cL_law 404 = .ok (.iaload, 1) := by decide +kernel
theorem dL_law_405 : decode cL_law 405 = .ok (.invokevirtual 52, 3) := by decide +kernel
theorem dL_law_408 : decode cL_law 408 = .ok (.if_icmp .eq 399, 3) := by decide +kernel
theorem dL_law_411 : decode cL_law 411 = .ok (.iconst 0, 1) := by decide +kernel
theorem dL_law_412 : decode cL_law 412 = .ok (.ireturn, 1) := by decide +kernel
theorem dL_law_413 : decode cL_law 413 = .ok (.aload_n 1, 1) := by decide +kernel
theorem dL_law_414 : decode cL_law 414 = .ok (.aload_n 0, 1) := by decide +kernel
theorem dL_law_415 : decode cL_law 415 = .ok (.iload_n 3, 1) := by decide +kernel
theorem dL_law_416 : decode cL_law 416 = .ok (.iconst 1, 1) := by decide +kernel
theorem dL_law_417 : decode cL_law 417 = .ok (.iadd, 1) := by decide +kernel
theorem dL_law_418 : decode cL_law 418 = .ok (.iaload, 1) := by decide +kernel
theorem dL_law_419 : decode cL_law 419 = .ok (.aload_n 0, 1) := by decide +kernel
theorem dL_law_420 : decode cL_law 420 = .ok (.iload_n 3, 1) := by decide +kernel
theorem dL_law_421 : decode cL_law 421 = .ok (.iconst 2, 1) := by decide +kernel
theorem dL_law_422 : decode cL_law 422 = .ok (.iadd, 1) := by decide +kernel
theorem dL_law_423 : decode cL_law 423 = .ok (.iaload, 1) := by decide +kernel
theorem dL_law_424 : decode cL_law 424 = .ok (.invokevirtual 53, 3) := by decide +kernel
theorem dL_law_427 : decode cL_law 427 = .ok (.aload_n 2, 1) := by decide +kernel
theorem dL_law_428 : decode cL_law 428 = .ok (.aload_n 0, 1) := by decide +kernel
theorem dL_law_429 : decode cL_law 429 = .ok (.iload_n 3, 1) := by decide +kernel
theorem dL_law_430 : decode cL_law 430 = .ok (.iconst 1, 1) := by decide +kernel
theorem dL_law_431 : decode cL_law 431 = .ok (.iadd, 1) := by decide +kernel
theorem dL_law_432 : decode cL_law 432 = .ok (.iaload, 1) := by decide +kernel
theorem dL_law_433 : decode cL_law 433 = .ok (.aload_n 0, 1) := by decide +kernel
theorem dL_law_434 : decode cL_law 434 = .ok (.iload_n 3, 1) := by decide +kernel
theorem dL_law_435 : decode cL_law 435 = .ok (.iconst 2, 1) := by decide +kernel
theorem dL_law_436 : decode cL_law 436 = .ok (.iadd, 1) := by decide +kernel
theorem dL_law_437 : decode cL_law 437 = .ok (.iaload, 1) := by decide +kernel
theorem dL_law_438 : decode cL_law 438 = .ok (.invokevirtual 56, 3) := by decide +kernel
theorem dL_law_441 : decode cL_law 441 = .ok (.if_icmp .eq 366, 3) := by decide +kernel
theorem dL_law_444 : decode cL_law 444 = .ok (.iconst 0, 1) := by decide +kernel
theorem dL_law_445 : decode cL_law 445 = .ok (.ireturn, 1) := by decide +kernel
theorem dL_law_446 : decode cL_law 446 = .ok (.aload_n 1, 1) := by decide +kernel
theorem dL_law_447 : decode cL_law 447 = .ok (.aload_n 0, 1) := by decide +kernel
theorem dL_law_448 : decode cL_law 448 = .ok (.iload_n 3, 1) := by decide +kernel
theorem dL_law_449 : decode cL_law 449 = .ok (.iconst 1, 1) := by decide +kernel
theorem dL_law_450 : decode cL_law 450 = .ok (.iadd, 1) := by decide +kernel
theorem dL_law_451 : decode cL_law 451 = .ok (.iaload, 1) := by decide +kernel
theorem dL_law_452 : decode cL_law 452 = .ok (.aload_n 0, 1) := by decide +kernel
theorem dL_law_453 : decode cL_law 453 = .ok (.iload_n 3, 1) := by decide +kernel
theorem dL_law_454 : decode cL_law 454 = .ok (.iconst 2, 1) := by decide +kernel
theorem dL_law_455 : decode cL_law 455 = .ok (.iadd, 1) := by decide +kernel
theorem dL_law_456 : decode cL_law 456 = .ok (.iaload, 1) := by decide +kernel
theorem dL_law_457 : decode cL_law 457 = .ok (.invokevirtual 57, 3) := by decide +kernel
theorem dL_law_460 : decode cL_law 460 = .ok (.aload_n 2, 1) := by decide +kernel
theorem dL_law_461 : decode cL_law 461 = .ok (.aload_n 0, 1) := by decide +kernel
theorem dL_law_462 : decode cL_law 462 = .ok (.iload_n 3, 1) := by decide +kernel
theorem dL_law_463 : decode cL_law 463 = .ok (.iconst 1, 1) := by decide +kernel
theorem dL_law_464 : decode cL_law 464 = .ok (.iadd, 1) := by decide +kernel
theorem dL_law_465 : decode cL_law 465 = .ok (.iaload, 1) := by decide +kernel
theorem dL_law_466 : decode cL_law 466 = .ok (.aload_n 0, 1) := by decide +kernel
theorem dL_law_467 : decode cL_law 467 = .ok (.iload_n 3, 1) := by decide +kernel
theorem dL_law_468 : decode cL_law 468 = .ok (.iconst 2, 1) := by decide +kernel
theorem dL_law_469 : decode cL_law 469 = .ok (.iadd, 1) := by decide +kernel
theorem dL_law_470 : decode cL_law 470 = .ok (.iaload, 1) := by decide +kernel
theorem dL_law_471 : decode cL_law 471 = .ok (.invokevirtual 60, 3) := by decide +kernel
theorem dL_law_474 : decode cL_law 474 = .ok (.if_icmp .eq 333, 3) := by decide +kernel
theorem dL_law_477 : decode cL_law 477 = .ok (.iconst 0, 1) := by decide +kernel
theorem dL_law_478 : decode cL_law 478 = .ok (.ireturn, 1) := by decide +kernel
theorem dL_law_479 : decode cL_law 479 = .ok (.aload_n 1, 1) := by decide +kernel
theorem dL_law_480 : decode cL_law 480 = .ok (.aload_n 0, 1) := by decide +kernel
theorem dL_law_481 : decode cL_law 481 = .ok (.iload_n 3, 1) := by decide +kernel
theorem dL_law_482 : decode cL_law 482 = .ok (.iconst 1, 1) := by decide +kernel
theorem dL_law_483 : decode cL_law 483 = .ok (.iadd, 1) := by decide +kernel
theorem dL_law_484 : decode cL_law 484 = .ok (.iaload, 1) := by decide +kernel
theorem dL_law_485 : decode cL_law 485 = .ok (.invokevirtual 61, 3) := by decide +kernel
theorem dL_law_488 : decode cL_law 488 = .ok (.aload_n 2, 1) := by decide +kernel
theorem dL_law_489 : decode cL_law 489 = .ok (.aload_n 0, 1) := by decide +kernel
theorem dL_law_490 : decode cL_law 490 = .ok (.iload_n 3, 1) := by decide +kernel
theorem dL_law_491 : decode cL_law 491 = .ok (.iconst 1, 1) := by decide +kernel
theorem dL_law_492 : decode cL_law 492 = .ok (.iadd, 1) := by decide +kernel
theorem dL_law_493 : decode cL_law 493 = .ok (.iaload, 1) := by decide +kernel
theorem dL_law_494 : decode cL_law 494 = .ok (.invokevirtual 64, 3) := by decide +kernel
theorem dL_law_497 : decode cL_law 497 = .ok (.if_icmp .eq 310, 3) := by decide +kernel
theorem dL_law_500 : decode cL_law 500 = .ok (.iconst 0, 1) := by decide +kernel
theorem dL_law_501 : decode cL_law 501 = .ok (.ireturn, 1) := by decide +kernel
theorem dL_law_502 : decode cL_law 502 = .ok (.aload_n 1, 1) := by decide +kernel
theorem dL_law_503 : decode cL_law 503 = .ok (.aload_n 0, 1) := by decide +kernel
theorem dL_law_504 : decode cL_law 504 = .ok (.iload_n 3, 1) := by decide +kernel
theorem dL_law_505 : decode cL_law 505 = .ok (.iconst 1, 1) := by decide +kernel
theorem dL_law_506 : decode cL_law 506 = .ok (.iadd, 1) := by decide +kernel
theorem dL_law_507 : decode cL_law 507 = .ok (.iaload, 1) := by decide +kernel
theorem dL_law_508 : decode cL_law 508 = .ok (.aload_n 0, 1) := by decide +kernel
theorem dL_law_509 : decode cL_law 509 = .ok (.iload_n 3, 1) := by decide +kernel
theorem dL_law_510 : decode cL_law 510 = .ok (.iconst 2, 1) := by decide +kernel
theorem dL_law_511 : decode cL_law 511 = .ok (.iadd, 1) := by decide +kernel
theorem dL_law_512 : decode cL_law 512 = .ok (.iaload, 1) := by decide +kernel
theorem dL_law_513 : decode cL_law 513 = .ok (.invokevirtual 65, 3) := by decide +kernel
theorem dL_law_516 : decode cL_law 516 = .ok (.aload_n 2, 1) := by decide +kernel
theorem dL_law_517 : decode cL_law 517 = .ok (.aload_n 0, 1) := by decide +kernel
theorem dL_law_518 : decode cL_law 518 = .ok (.iload_n 3, 1) := by decide +kernel
theorem dL_law_519 : decode cL_law 519 = .ok (.iconst 1, 1) := by decide +kernel
theorem dL_law_520 : decode cL_law 520 = .ok (.iadd, 1) := by decide +kernel
theorem dL_law_521 : decode cL_law 521 = .ok (.iaload, 1) := by decide +kernel
theorem dL_law_522 : decode cL_law 522 = .ok (.aload_n 0, 1) := by decide +kernel
theorem dL_law_523 : decode cL_law 523 = .ok (.iload_n 3, 1) := by decide +kernel
theorem dL_law_524 : decode cL_law 524 = .ok (.iconst 2, 1) := by decide +kernel
theorem dL_law_525 : decode cL_law 525 = .ok (.iadd, 1) := by decide +kernel
theorem dL_law_526 : decode cL_law 526 = .ok (.iaload, 1) := by decide +kernel
theorem dL_law_527 : decode cL_law 527 = .ok (.invokevirtual 68, 3) := by decide +kernel
theorem dL_law_530 : decode cL_law 530 = .ok (.if_icmp .eq 277, 3) := by decide +kernel
theorem dL_law_533 : decode cL_law 533 = .ok (.iconst 0, 1) := by decide +kernel
theorem dL_law_534 : decode cL_law 534 = .ok (.ireturn, 1) := by decide +kernel
theorem dL_law_535 : decode cL_law 535 = .ok (.aload_n 1, 1) := by decide +kernel
theorem dL_law_536 : decode cL_law 536 = .ok (.aload_n 0, 1) := by decide +kernel
theorem dL_law_537 : decode cL_law 537 = .ok (.iload_n 3, 1) := by decide +kernel
theorem dL_law_538 : decode cL_law 538 = .ok (.iconst 1, 1) := by decide +kernel
theorem dL_law_539 : decode cL_law 539 = .ok (.iadd, 1) := by decide +kernel
theorem dL_law_540 : decode cL_law 540 = .ok (.iaload, 1) := by decide +kernel
theorem dL_law_541 : decode cL_law 541 = .ok (.aload_n 0, 1) := by decide +kernel
theorem dL_law_542 : decode cL_law 542 = .ok (.iload_n 3, 1) := by decide +kernel
theorem dL_law_543 : decode cL_law 543 = .ok (.iconst 2, 1) := by decide +kernel
theorem dL_law_544 : decode cL_law 544 = .ok (.iadd, 1) := by decide +kernel
theorem dL_law_545 : decode cL_law 545 = .ok (.iaload, 1) := by decide +kernel
theorem dL_law_546 : decode cL_law 546 = .ok (.invokevirtual 69, 3) := by decide +kernel
theorem dL_law_549 : decode cL_law 549 = .ok (.aload_n 2, 1) := by decide +kernel
theorem dL_law_550 : decode cL_law 550 = .ok (.aload_n 0, 1) := by decide +kernel
theorem dL_law_551 : decode cL_law 551 = .ok (.iload_n 3, 1) := by decide +kernel
theorem dL_law_552 : decode cL_law 552 = .ok (.iconst 1, 1) := by decide +kernel
theorem dL_law_553 : decode cL_law 553 = .ok (.iadd, 1) := by decide +kernel
theorem dL_law_554 : decode cL_law 554 = .ok (.iaload, 1) := by decide +kernel
theorem dL_law_555 : decode cL_law 555 = .ok (.aload_n 0, 1) := by decide +kernel
theorem dL_law_556 : decode cL_law 556 = .ok (.iload_n 3, 1) := by decide +kernel
theorem dL_law_557 : decode cL_law 557 = .ok (.iconst 2, 1) := by decide +kernel
theorem dL_law_558 : decode cL_law 558 = .ok (.iadd, 1) := by decide +kernel
theorem dL_law_559 : decode cL_law 559 = .ok (.iaload, 1) := by decide +kernel
theorem dL_law_560 : decode cL_law 560 = .ok (.invokevirtual 72, 3) := by decide +kernel
theorem dL_law_563 : decode cL_law 563 = .ok (.if_icmp .eq 244, 3) := by decide +kernel
theorem dL_law_566 : decode cL_law 566 = .ok (.iconst 0, 1) := by decide +kernel
theorem dL_law_567 : decode cL_law 567 = .ok (.ireturn, 1) := by decide +kernel
theorem dL_law_568 : decode cL_law 568 = .ok (.aload_n 1, 1) := by decide +kernel
theorem dL_law_569 : decode cL_law 569 = .ok (.aload_n 0, 1) := by decide +kernel
theorem dL_law_570 : decode cL_law 570 = .ok (.iload_n 3, 1) := by decide +kernel
theorem dL_law_571 : decode cL_law 571 = .ok (.iconst 1, 1) := by decide +kernel
theorem dL_law_572 : decode cL_law 572 = .ok (.iadd, 1) := by decide +kernel
theorem dL_law_573 : decode cL_law 573 = .ok (.iaload, 1) := by decide +kernel
theorem dL_law_574 : decode cL_law 574 = .ok (.invokevirtual 73, 3) := by decide +kernel
theorem dL_law_577 : decode cL_law 577 = .ok (.aload_n 2, 1) := by decide +kernel
theorem dL_law_578 : decode cL_law 578 = .ok (.aload_n 0, 1) := by decide +kernel
theorem dL_law_579 : decode cL_law 579 = .ok (.iload_n 3, 1) := by decide +kernel
theorem dL_law_580 : decode cL_law 580 = .ok (.iconst 1, 1) := by decide +kernel
theorem dL_law_581 : decode cL_law 581 = .ok (.iadd, 1) := by decide +kernel
theorem dL_law_582 : decode cL_law 582 = .ok (.iaload, 1) := by decide +kernel
theorem dL_law_583 : decode cL_law 583 = .ok (.invokevirtual 76, 3) := by decide +kernel
theorem dL_law_586 : decode cL_law 586 = .ok (.if_icmp .eq 221, 3) := by decide +kernel
theorem dL_law_589 : decode cL_law 589 = .ok (.iconst 0, 1) := by decide +kernel
theorem dL_law_590 : decode cL_law 590 = .ok (.ireturn, 1) := by decide +kernel
theorem dL_law_591 : decode cL_law 591 = .ok (.aload_n 1, 1) := by decide +kernel
theorem dL_law_592 : decode cL_law 592 = .ok (.aload_n 0, 1) := by decide +kernel
theorem dL_law_593 : decode cL_law 593 = .ok (.iload_n 3, 1) := by decide +kernel
theorem dL_law_594 : decode cL_law 594 = .ok (.iconst 1, 1) := by decide +kernel
theorem dL_law_595 : decode cL_law 595 = .ok (.iadd, 1) := by decide +kernel
theorem dL_law_596 : decode cL_law 596 = .ok (.iaload, 1) := by decide +kernel
theorem dL_law_597 : decode cL_law 597 = .ok (.aload_n 0, 1) := by decide +kernel
theorem dL_law_598 : decode cL_law 598 = .ok (.iload_n 3, 1) := by decide +kernel
theorem dL_law_599 : decode cL_law 599 = .ok (.iconst 2, 1) := by decide +kernel
theorem dL_law_600 : decode cL_law 600 = .ok (.iadd, 1) := by decide +kernel
theorem dL_law_601 : decode cL_law 601 = .ok (.iaload, 1) := by decide +kernel
theorem dL_law_602 : decode cL_law 602 = .ok (.invokevirtual 77, 3) := by decide +kernel
theorem dL_law_605 : decode cL_law 605 = .ok (.aload_n 2, 1) := by decide +kernel
theorem dL_law_606 : decode cL_law 606 = .ok (.aload_n 0, 1) := by decide +kernel
theorem dL_law_607 : decode cL_law 607 = .ok (.iload_n 3, 1) := by decide +kernel
theorem dL_law_608 : decode cL_law 608 = .ok (.iconst 1, 1) := by decide +kernel
theorem dL_law_609 : decode cL_law 609 = .ok (.iadd, 1) := by decide +kernel
theorem dL_law_610 : decode cL_law 610 = .ok (.iaload, 1) := by decide +kernel
theorem dL_law_611 : decode cL_law 611 = .ok (.aload_n 0, 1) := by decide +kernel
theorem dL_law_612 : decode cL_law 612 = .ok (.iload_n 3, 1) := by decide +kernel
theorem dL_law_613 : decode cL_law 613 = .ok (.iconst 2, 1) := by decide +kernel
theorem dL_law_614 : decode cL_law 614 = .ok (.iadd, 1) := by decide +kernel
theorem dL_law_615 : decode cL_law 615 = .ok (.iaload, 1) := by decide +kernel
theorem dL_law_616 : decode cL_law 616 = .ok (.invokevirtual 80, 3) := by decide +kernel
theorem dL_law_619 : decode cL_law 619 = .ok (.if_icmp .eq 188, 3) := by decide +kernel
theorem dL_law_622 : decode cL_law 622 = .ok (.iconst 0, 1) := by decide +kernel
theorem dL_law_623 : decode cL_law 623 = .ok (.ireturn, 1) := by decide +kernel
theorem dL_law_624 : decode cL_law 624 = .ok (.aload_n 1, 1) := by decide +kernel
theorem dL_law_625 : decode cL_law 625 = .ok (.invokevirtual 81, 3) := by decide +kernel
theorem dL_law_628 : decode cL_law 628 = .ok (.aload_n 2, 1) := by decide +kernel
theorem dL_law_629 : decode cL_law 629 = .ok (.invokevirtual 84, 3) := by decide +kernel
theorem dL_law_632 : decode cL_law 632 = .ok (.if_icmp .eq 175, 3) := by decide +kernel
theorem dL_law_635 : decode cL_law 635 = .ok (.iconst 0, 1) := by decide +kernel
theorem dL_law_636 : decode cL_law 636 = .ok (.ireturn, 1) := by decide +kernel
theorem dL_law_637 : decode cL_law 637 = .ok (.aload_n 1, 1) := by decide +kernel
theorem dL_law_638 : decode cL_law 638 = .ok (.invokevirtual 85, 3) := by decide +kernel
theorem dL_law_641 : decode cL_law 641 = .ok (.aload_n 2, 1) := by decide +kernel
theorem dL_law_642 : decode cL_law 642 = .ok (.invokevirtual 88, 3) := by decide +kernel
theorem dL_law_645 : decode cL_law 645 = .ok (.if_icmp .eq 162, 3) := by decide +kernel
theorem dL_law_648 : decode cL_law 648 = .ok (.iconst 0, 1) := by decide +kernel
theorem dL_law_649 : decode cL_law 649 = .ok (.ireturn, 1) := by decide +kernel
theorem dL_law_650 : decode cL_law 650 = .ok (.aload_n 1, 1) := by decide +kernel
theorem dL_law_651 : decode cL_law 651 = .ok (.invokevirtual 89, 3) := by decide +kernel
theorem dL_law_654 : decode cL_law 654 = .ok (.aload_n 2, 1) := by decide +kernel
theorem dL_law_655 : decode cL_law 655 = .ok (.invokevirtual 92, 3) := by decide +kernel
theorem dL_law_658 : decode cL_law 658 = .ok (.if_icmp .eq 149, 3) := by decide +kernel
theorem dL_law_661 : decode cL_law 661 = .ok (.iconst 0, 1) := by decide +kernel
theorem dL_law_662 : decode cL_law 662 = .ok (.ireturn, 1) := by decide +kernel
theorem dL_law_663 : decode cL_law 663 = .ok (.aload_n 1, 1) := by decide +kernel
theorem dL_law_664 : decode cL_law 664 = .ok (.aload_n 0, 1) := by decide +kernel
theorem dL_law_665 : decode cL_law 665 = .ok (.iload_n 3, 1) := by decide +kernel
theorem dL_law_666 : decode cL_law 666 = .ok (.iconst 1, 1) := by decide +kernel
theorem dL_law_667 : decode cL_law 667 = .ok (.iadd, 1) := by decide +kernel
theorem dL_law_668 : decode cL_law 668 = .ok (.iaload, 1) := by decide +kernel
theorem dL_law_669 : decode cL_law 669 = .ok (.invokevirtual 93, 3) := by decide +kernel
theorem dL_law_672 : decode cL_law 672 = .ok (.aload_n 2, 1) := by decide +kernel
theorem dL_law_673 : decode cL_law 673 = .ok (.aload_n 0, 1) := by decide +kernel
theorem dL_law_674 : decode cL_law 674 = .ok (.iload_n 3, 1) := by decide +kernel
theorem dL_law_675 : decode cL_law 675 = .ok (.iconst 1, 1) := by decide +kernel
theorem dL_law_676 : decode cL_law 676 = .ok (.iadd, 1) := by decide +kernel
theorem dL_law_677 : decode cL_law 677 = .ok (.iaload, 1) := by decide +kernel
theorem dL_law_678 : decode cL_law 678 = .ok (.invokevirtual 96, 3) := by decide +kernel
theorem dL_law_681 : decode cL_law 681 = .ok (.if_icmp .eq 126, 3) := by decide +kernel
theorem dL_law_684 : decode cL_law 684 = .ok (.iconst 0, 1) := by decide +kernel
theorem dL_law_685 : decode cL_law 685 = .ok (.ireturn, 1) := by decide +kernel
theorem dL_law_686 : decode cL_law 686 = .ok (.aload_n 1, 1) := by decide +kernel
theorem dL_law_687 : decode cL_law 687 = .ok (.invokevirtual 97, 3) := by decide +kernel
theorem dL_law_690 : decode cL_law 690 = .ok (.aload_n 2, 1) := by decide +kernel
theorem dL_law_691 : decode cL_law 691 = .ok (.invokevirtual 100, 3) := by decide +kernel
theorem dL_law_694 : decode cL_law 694 = .ok (.if_icmp .eq 113, 3) := by decide +kernel
theorem dL_law_697 : decode cL_law 697 = .ok (.iconst 0, 1) := by decide +kernel
theorem dL_law_698 : decode cL_law 698 = .ok (.ireturn, 1) := by decide +kernel
theorem dL_law_699 : decode cL_law 699 = .ok (.aload_n 1, 1) := by decide +kernel
theorem dL_law_700 : decode cL_law 700 = .ok (.aload_n 0, 1) := by decide +kernel
theorem dL_law_701 : decode cL_law 701 = .ok (.iload_n 3, 1) := by decide +kernel
theorem dL_law_702 : decode cL_law 702 = .ok (.iconst 1, 1) := by decide +kernel
theorem dL_law_703 : decode cL_law 703 = .ok (.iadd, 1) := by decide +kernel
theorem dL_law_704 : decode cL_law 704 = .ok (.iaload, 1) := by decide +kernel
theorem dL_law_705 : decode cL_law 705 = .ok (.invokevirtual 101, 3) := by decide +kernel
theorem dL_law_708 : decode cL_law 708 = .ok (.aload_n 2, 1) := by decide +kernel
theorem dL_law_709 : decode cL_law 709 = .ok (.aload_n 0, 1) := by decide +kernel
theorem dL_law_710 : decode cL_law 710 = .ok (.iload_n 3, 1) := by decide +kernel
theorem dL_law_711 : decode cL_law 711 = .ok (.iconst 1, 1) := by decide +kernel
theorem dL_law_712 : decode cL_law 712 = .ok (.iadd, 1) := by decide +kernel
theorem dL_law_713 : decode cL_law 713 = .ok (.iaload, 1) := by decide +kernel
theorem dL_law_714 : decode cL_law 714 = .ok (.invokevirtual 104, 3) := by decide +kernel
theorem dL_law_717 : decode cL_law 717 = .ok (.if_icmp .eq 90, 3) := by decide +kernel
theorem dL_law_720 : decode cL_law 720 = .ok (.iconst 0, 1) := by decide +kernel
theorem dL_law_721 : decode cL_law 721 = .ok (.ireturn, 1) := by decide +kernel
theorem dL_law_722 : decode cL_law 722 = .ok (.aload_n 1, 1) := by decide +kernel
theorem dL_law_723 : decode cL_law 723 = .ok (.invokevirtual 105, 3) := by decide +kernel
theorem dL_law_726 : decode cL_law 726 = .ok (.aload_n 2, 1) := by decide +kernel
theorem dL_law_727 : decode cL_law 727 = .ok (.invokevirtual 108, 3) := by decide +kernel
theorem dL_law_730 : decode cL_law 730 = .ok (.if_icmp .eq 77, 3) := by decide +kernel
theorem dL_law_733 : decode cL_law 733 = .ok (.iconst 0, 1) := by decide +kernel
theorem dL_law_734 : decode cL_law 734 = .ok (.ireturn, 1) := by decide +kernel
theorem dL_law_735 : decode cL_law 735 = .ok (.aload_n 1, 1) := by decide +kernel
theorem dL_law_736 : decode cL_law 736 = .ok (.aload_n 0, 1) := by decide +kernel
theorem dL_law_737 : decode cL_law 737 = .ok (.iload_n 3, 1) := by decide +kernel
theorem dL_law_738 : decode cL_law 738 = .ok (.iconst 1, 1) := by decide +kernel
theorem dL_law_739 : decode cL_law 739 = .ok (.iadd, 1) := by decide +kernel
theorem dL_law_740 : decode cL_law 740 = .ok (.iaload, 1) := by decide +kernel
theorem dL_law_741 : decode cL_law 741 = .ok (.invokevirtual 109, 3) := by decide +kernel
theorem dL_law_744 : decode cL_law 744 = .ok (.aload_n 2, 1) := by decide +kernel
theorem dL_law_745 : decode cL_law 745 = .ok (.aload_n 0, 1) := by decide +kernel
theorem dL_law_746 : decode cL_law 746 = .ok (.iload_n 3, 1) := by decide +kernel
theorem dL_law_747 : decode cL_law 747 = .ok (.iconst 1, 1) := by decide +kernel
theorem dL_law_748 : decode cL_law 748 = .ok (.iadd, 1) := by decide +kernel
theorem dL_law_749 : decode cL_law 749 = .ok (.iaload, 1) := by decide +kernel
theorem dL_law_750 : decode cL_law 750 = .ok (.invokevirtual 112, 3) := by decide +kernel
theorem dL_law_753 : decode cL_law 753 = .ok (.if_icmp .eq 54, 3) := by decide +kernel
theorem dL_law_756 : decode cL_law 756 = .ok (.iconst 0, 1) := by decide +kernel
theorem dL_law_757 : decode cL_law 757 = .ok (.ireturn, 1) := by decide +kernel
theorem dL_law_758 : decode cL_law 758 = .ok (.aload_n 1, 1) := by decide +kernel
theorem dL_law_759 : decode cL_law 759 = .ok (.invokevirtual 113, 3) := by decide +kernel
theorem dL_law_762 : decode cL_law 762 = .ok (.aload_n 2, 1) := by decide +kernel
theorem dL_law_763 : decode cL_law 763 = .ok (.invokevirtual 116, 3) := by decide +kernel
theorem dL_law_766 : decode cL_law 766 = .ok (.if_icmp .eq 41, 3) := by decide +kernel
theorem dL_law_769 : decode cL_law 769 = .ok (.iconst 0, 1) := by decide +kernel
theorem dL_law_770 : decode cL_law 770 = .ok (.ireturn, 1) := by decide +kernel
theorem dL_law_771 : decode cL_law 771 = .ok (.aload_n 1, 1) := by decide +kernel
theorem dL_law_772 : decode cL_law 772 = .ok (.aload_n 0, 1) := by decide +kernel
theorem dL_law_773 : decode cL_law 773 = .ok (.iload_n 3, 1) := by decide +kernel
theorem dL_law_774 : decode cL_law 774 = .ok (.iconst 1, 1) := by decide +kernel
theorem dL_law_775 : decode cL_law 775 = .ok (.iadd, 1) := by decide +kernel
theorem dL_law_776 : decode cL_law 776 = .ok (.iaload, 1) := by decide +kernel
theorem dL_law_777 : decode cL_law 777 = .ok (.invokevirtual 117, 3) := by decide +kernel
theorem dL_law_780 : decode cL_law 780 = .ok (.aload_n 2, 1) := by decide +kernel
theorem dL_law_781 : decode cL_law 781 = .ok (.aload_n 0, 1) := by decide +kernel
theorem dL_law_782 : decode cL_law 782 = .ok (.iload_n 3, 1) := by decide +kernel
theorem dL_law_783 : decode cL_law 783 = .ok (.iconst 1, 1) := by decide +kernel
theorem dL_law_784 : decode cL_law 784 = .ok (.iadd, 1) := by decide +kernel
theorem dL_law_785 : decode cL_law 785 = .ok (.iaload, 1) := by decide +kernel
theorem dL_law_786 : decode cL_law 786 = .ok (.invokevirtual 120, 3) := by decide +kernel
theorem dL_law_789 : decode cL_law 789 = .ok (.if_icmp .eq 18, 3) := by decide +kernel
theorem dL_law_792 : decode cL_law 792 = .ok (.iconst 0, 1) := by decide +kernel
theorem dL_law_793 : decode cL_law 793 = .ok (.ireturn, 1) := by decide +kernel
theorem dL_law_794 : decode cL_law 794 = .ok (.aload_n 1, 1) := by decide +kernel
theorem dL_law_795 : decode cL_law 795 = .ok (.invokevirtual 121, 3) := by decide +kernel
theorem dL_law_798 : decode cL_law 798 = .ok (.aload_n 2, 1) := by decide +kernel
theorem dL_law_799 : decode cL_law 799 = .ok (.invokevirtual 124, 3) := by decide +kernel
theorem dL_law_802 : decode cL_law 802 = .ok (.if_icmp .eq 5, 3) := by decide +kernel
theorem dL_law_805 : decode cL_law 805 = .ok (.iconst 0, 1) := by decide +kernel
theorem dL_law_806 : decode cL_law 806 = .ok (.ireturn, 1) := by decide +kernel
theorem dL_law_807 : decode cL_law 807 = .ok (.iinc 3 5, 3) := by decide +kernel
theorem dL_law_810 : decode cL_law 810 = .ok (.goto (-792), 3) := by decide +kernel
theorem dL_law_813 : decode cL_law 813 = .ok (.iconst 1, 1) := by decide +kernel
theorem dL_law_814 : decode cL_law 814 = .ok (.ireturn, 1) := by decide +kernel
end
section
section ZK
variable {X : Nat × (Nat → Int32)} {M : zM} {pc : Nat} {ls st : List Value} {h : zH} {Q : zQt}
theorem k_callV0i {a idx ci : Nat} {M' : zM} {P : Option Int32 → zH → Prop} (hd : decode (zMb M) pc = .ok (.invokevirtual idx, 3)) (hl : zSV M idx M' 0 ci) (hT : zCT M' (.ref a :: []) 222 h 222 P) (hs : (zS a).1 = ci) (ha : a < 222)  (hst : (st.map fun v => v.category).sum ≤ 8) (hz : zMc M' = 0 ∧ zMs M' = 0) (hr : (zMr M').isSome = true) (kk : ∀ x h', P (some x) h' → zJ X M 222 (pc + 3) ls (.int x :: st) 222 h' Q) : zJ X M 222 pc ls (.ref a :: st) 222 h Q := j_callV0i hd hl hT hs ha  hst (Nat.le_refl _) (by rw [hz.1]) (by rw [hz.2, Nat.add_zero]) (by rw [hz.1, Nat.sub_self]; exact Nat.zero_le _) (by rw [hz.2, Nat.sub_self]; exact Nat.zero_le _) hr kk
theorem k_callV0v {a idx ci : Nat} {M' : zM} {P : Option Int32 → zH → Prop} (hd : decode (zMb M) pc = .ok (.invokevirtual idx, 3)) (hl : zSV M idx M' 0 ci) (hT : zCT M' (.ref a :: []) 222 h 222 P) (hs : (zS a).1 = ci) (ha : a < 222)  (hst : (st.map fun v => v.category).sum ≤ 8) (hz : zMc M' = 0 ∧ zMs M' = 0) (hr : (zMr M').isSome = false) (kk : ∀ h', P none h' → zJ X M 222 (pc + 3) ls st 222 h' Q) : zJ X M 222 pc ls (.ref a :: st) 222 h Q := j_callV0v hd hl hT hs ha  hst (Nat.le_refl _) (by rw [hz.1]) (by rw [hz.2, Nat.add_zero]) (by rw [hz.1, Nat.sub_self]; exact Nat.zero_le _) (by rw [hz.2, Nat.sub_self]; exact Nat.zero_le _) hr kk
theorem k_callV1i {a idx ci : Nat} {v1 : Value} {M' : zM} {P : Option Int32 → zH → Prop} (hd : decode (zMb M) pc = .ok (.invokevirtual idx, 3)) (hl : zSV M idx M' 1 ci) (hT : zCT M' (.ref a :: [v1]) 222 h 222 P) (hs : (zS a).1 = ci) (ha : a < 222) (hc1 : v1.category = 1) (hst : (st.map fun v => v.category).sum ≤ 8) (hz : zMc M' = 0 ∧ zMs M' = 0) (hr : (zMr M').isSome = true) (kk : ∀ x h', P (some x) h' → zJ X M 222 (pc + 3) ls (.int x :: st) 222 h' Q) : zJ X M 222 pc ls (v1 :: .ref a :: st) 222 h Q := j_callV1i hd hl hT hs ha hc1 hst (Nat.le_refl _) (by rw [hz.1]) (by rw [hz.2, Nat.add_zero]) (by rw [hz.1, Nat.sub_self]; exact Nat.zero_le _) (by rw [hz.2, Nat.sub_self]; exact Nat.zero_le _) hr kk
theorem k_callV1v {a idx ci : Nat} {v1 : Value} {M' : zM} {P : Option Int32 → zH → Prop} (hd : decode (zMb M) pc = .ok (.invokevirtual idx, 3)) (hl : zSV M idx M' 1 ci) (hT : zCT M' (.ref a :: [v1]) 222 h 222 P) (hs : (zS a).1 = ci) (ha : a < 222) (hc1 : v1.category = 1) (hst : (st.map fun v => v.category).sum ≤ 8) (hz : zMc M' = 0 ∧ zMs M' = 0) (hr : (zMr M').isSome = false) (kk : ∀ h', P none h' → zJ X M 222 (pc + 3) ls st 222 h' Q) : zJ X M 222 pc ls (v1 :: .ref a :: st) 222 h Q := j_callV1v hd hl hT hs ha hc1 hst (Nat.le_refl _) (by rw [hz.1]) (by rw [hz.2, Nat.add_zero]) (by rw [hz.1, Nat.sub_self]; exact Nat.zero_le _) (by rw [hz.2, Nat.sub_self]; exact Nat.zero_le _) hr kk
theorem k_callV2i {a idx ci : Nat} {v1 v2 : Value} {M' : zM} {P : Option Int32 → zH → Prop} (hd : decode (zMb M) pc = .ok (.invokevirtual idx, 3)) (hl : zSV M idx M' 2 ci) (hT : zCT M' (.ref a :: [v1, v2]) 222 h 222 P) (hs : (zS a).1 = ci) (ha : a < 222) (hc1 : v1.category = 1) (hc2 : v2.category = 1) (hst : (st.map fun v => v.category).sum ≤ 8) (hz : zMc M' = 0 ∧ zMs M' = 0) (hr : (zMr M').isSome = true) (kk : ∀ x h', P (some x) h' → zJ X M 222 (pc + 3) ls (.int x :: st) 222 h' Q) : zJ X M 222 pc ls (v2 :: v1 :: .ref a :: st) 222 h Q := j_callV2i hd hl hT hs ha hc1 hc2 hst (Nat.le_refl _) (by rw [hz.1]) (by rw [hz.2, Nat.add_zero]) (by rw [hz.1, Nat.sub_self]; exact Nat.zero_le _) (by rw [hz.2, Nat.sub_self]; exact Nat.zero_le _) hr kk
theorem k_callV2v {a idx ci : Nat} {v1 v2 : Value} {M' : zM} {P : Option Int32 → zH → Prop} (hd : decode (zMb M) pc = .ok (.invokevirtual idx, 3)) (hl : zSV M idx M' 2 ci) (hT : zCT M' (.ref a :: [v1, v2]) 222 h 222 P) (hs : (zS a).1 = ci) (ha : a < 222) (hc1 : v1.category = 1) (hc2 : v2.category = 1) (hst : (st.map fun v => v.category).sum ≤ 8) (hz : zMc M' = 0 ∧ zMs M' = 0) (hr : (zMr M').isSome = false) (kk : ∀ h', P none h' → zJ X M 222 (pc + 3) ls st 222 h' Q) : zJ X M 222 pc ls (v2 :: v1 :: .ref a :: st) 222 h Q := j_callV2v hd hl hT hs ha hc1 hc2 hst (Nat.le_refl _) (by rw [hz.1]) (by rw [hz.2, Nat.add_zero]) (by rw [hz.1, Nat.sub_self]; exact Nat.zero_le _) (by rw [hz.2, Nat.sub_self]; exact Nat.zero_le _) hr kk
theorem k_callV3i {a idx ci : Nat} {v1 v2 v3 : Value} {M' : zM} {P : Option Int32 → zH → Prop} (hd : decode (zMb M) pc = .ok (.invokevirtual idx, 3)) (hl : zSV M idx M' 3 ci) (hT : zCT M' (.ref a :: [v1, v2, v3]) 222 h 222 P) (hs : (zS a).1 = ci) (ha : a < 222) (hc1 : v1.category = 1) (hc2 : v2.category = 1) (hc3 : v3.category = 1) (hst : (st.map fun v => v.category).sum ≤ 8) (hz : zMc M' = 0 ∧ zMs M' = 0) (hr : (zMr M').isSome = true) (kk : ∀ x h', P (some x) h' → zJ X M 222 (pc + 3) ls (.int x :: st) 222 h' Q) : zJ X M 222 pc ls (v3 :: v2 :: v1 :: .ref a :: st) 222 h Q := j_callV3i hd hl hT hs ha hc1 hc2 hc3 hst (Nat.le_refl _) (by rw [hz.1]) (by rw [hz.2, Nat.add_zero]) (by rw [hz.1, Nat.sub_self]; exact Nat.zero_le _) (by rw [hz.2, Nat.sub_self]; exact Nat.zero_le _) hr kk
theorem k_callV3v {a idx ci : Nat} {v1 v2 v3 : Value} {M' : zM} {P : Option Int32 → zH → Prop} (hd : decode (zMb M) pc = .ok (.invokevirtual idx, 3)) (hl : zSV M idx M' 3 ci) (hT : zCT M' (.ref a :: [v1, v2, v3]) 222 h 222 P) (hs : (zS a).1 = ci) (ha : a < 222) (hc1 : v1.category = 1) (hc2 : v2.category = 1) (hc3 : v3.category = 1) (hst : (st.map fun v => v.category).sum ≤ 8) (hz : zMc M' = 0 ∧ zMs M' = 0) (hr : (zMr M').isSome = false) (kk : ∀ h', P none h' → zJ X M 222 (pc + 3) ls st 222 h' Q) : zJ X M 222 pc ls (v3 :: v2 :: v1 :: .ref a :: st) 222 h Q := j_callV3v hd hl hT hs ha hc1 hc2 hc3 hst (Nat.le_refl _) (by rw [hz.1]) (by rw [hz.2, Nat.add_zero]) (by rw [hz.1, Nat.sub_self]; exact Nat.zero_le _) (by rw [hz.2, Nat.sub_self]; exact Nat.zero_le _) hr kk
theorem k_callV4i {a idx ci : Nat} {v1 v2 v3 v4 : Value} {M' : zM} {P : Option Int32 → zH → Prop} (hd : decode (zMb M) pc = .ok (.invokevirtual idx, 3)) (hl : zSV M idx M' 4 ci) (hT : zCT M' (.ref a :: [v1, v2, v3, v4]) 222 h 222 P) (hs : (zS a).1 = ci) (ha : a < 222) (hc1 : v1.category = 1) (hc2 : v2.category = 1) (hc3 : v3.category = 1) (hc4 : v4.category = 1) (hst : (st.map fun v => v.category).sum ≤ 8) (hz : zMc M' = 0 ∧ zMs M' = 0) (hr : (zMr M').isSome = true) (kk : ∀ x h', P (some x) h' → zJ X M 222 (pc + 3) ls (.int x :: st) 222 h' Q) : zJ X M 222 pc ls (v4 :: v3 :: v2 :: v1 :: .ref a :: st) 222 h Q := j_callV4i hd hl hT hs ha hc1 hc2 hc3 hc4 hst (Nat.le_refl _) (by rw [hz.1]) (by rw [hz.2, Nat.add_zero]) (by rw [hz.1, Nat.sub_self]; exact Nat.zero_le _) (by rw [hz.2, Nat.sub_self]; exact Nat.zero_le _) hr kk
theorem k_callV4v {a idx ci : Nat} {v1 v2 v3 v4 : Value} {M' : zM} {P : Option Int32 → zH → Prop} (hd : decode (zMb M) pc = .ok (.invokevirtual idx, 3)) (hl : zSV M idx M' 4 ci) (hT : zCT M' (.ref a :: [v1, v2, v3, v4]) 222 h 222 P) (hs : (zS a).1 = ci) (ha : a < 222) (hc1 : v1.category = 1) (hc2 : v2.category = 1) (hc3 : v3.category = 1) (hc4 : v4.category = 1) (hst : (st.map fun v => v.category).sum ≤ 8) (hz : zMc M' = 0 ∧ zMs M' = 0) (hr : (zMr M').isSome = false) (kk : ∀ h', P none h' → zJ X M 222 (pc + 3) ls st 222 h' Q) : zJ X M 222 pc ls (v4 :: v3 :: v2 :: v1 :: .ref a :: st) 222 h Q := j_callV4v hd hl hT hs ha hc1 hc2 hc3 hc4 hst (Nat.le_refl _) (by rw [hz.1]) (by rw [hz.2, Nat.add_zero]) (by rw [hz.1, Nat.sub_self]; exact Nat.zero_le _) (by rw [hz.2, Nat.sub_self]; exact Nat.zero_le _) hr kk
theorem k_callS0i {idx : Nat} {M' : zM} {P : Option Int32 → zH → Prop} (hd : decode (zMb M) pc = .ok (.invokestatic idx, 3)) (hl : zSS M idx M' 0) (hT : zCT M' ([]) 222 h 222 P)  (hst : (st.map fun v => v.category).sum ≤ 8) (hz : zMc M' = 0 ∧ zMs M' = 0) (hr : (zMr M').isSome = true) (kk : ∀ x h', P (some x) h' → zJ X M 222 (pc + 3) ls (.int x :: st) 222 h' Q) : zJ X M 222 pc ls (st) 222 h Q := j_callS0i hd hl hT  hst (Nat.le_refl _) (by rw [hz.1]) (by rw [hz.2, Nat.add_zero]) (by rw [hz.1, Nat.sub_self]; exact Nat.zero_le _) (by rw [hz.2, Nat.sub_self]; exact Nat.zero_le _) hr kk
theorem k_callS0v {idx : Nat} {M' : zM} {P : Option Int32 → zH → Prop} (hd : decode (zMb M) pc = .ok (.invokestatic idx, 3)) (hl : zSS M idx M' 0) (hT : zCT M' ([]) 222 h 222 P)  (hst : (st.map fun v => v.category).sum ≤ 8) (hz : zMc M' = 0 ∧ zMs M' = 0) (hr : (zMr M').isSome = false) (kk : ∀ h', P none h' → zJ X M 222 (pc + 3) ls st 222 h' Q) : zJ X M 222 pc ls (st) 222 h Q := j_callS0v hd hl hT  hst (Nat.le_refl _) (by rw [hz.1]) (by rw [hz.2, Nat.add_zero]) (by rw [hz.1, Nat.sub_self]; exact Nat.zero_le _) (by rw [hz.2, Nat.sub_self]; exact Nat.zero_le _) hr kk
theorem k_callS1i {idx : Nat} {v1 : Value} {M' : zM} {P : Option Int32 → zH → Prop} (hd : decode (zMb M) pc = .ok (.invokestatic idx, 3)) (hl : zSS M idx M' 1) (hT : zCT M' ([v1]) 222 h 222 P) (hc1 : v1.category = 1) (hst : (st.map fun v => v.category).sum ≤ 8) (hz : zMc M' = 0 ∧ zMs M' = 0) (hr : (zMr M').isSome = true) (kk : ∀ x h', P (some x) h' → zJ X M 222 (pc + 3) ls (.int x :: st) 222 h' Q) : zJ X M 222 pc ls (v1 :: st) 222 h Q := j_callS1i hd hl hT hc1 hst (Nat.le_refl _) (by rw [hz.1]) (by rw [hz.2, Nat.add_zero]) (by rw [hz.1, Nat.sub_self]; exact Nat.zero_le _) (by rw [hz.2, Nat.sub_self]; exact Nat.zero_le _) hr kk
theorem k_callS1v {idx : Nat} {v1 : Value} {M' : zM} {P : Option Int32 → zH → Prop} (hd : decode (zMb M) pc = .ok (.invokestatic idx, 3)) (hl : zSS M idx M' 1) (hT : zCT M' ([v1]) 222 h 222 P) (hc1 : v1.category = 1) (hst : (st.map fun v => v.category).sum ≤ 8) (hz : zMc M' = 0 ∧ zMs M' = 0) (hr : (zMr M').isSome = false) (kk : ∀ h', P none h' → zJ X M 222 (pc + 3) ls st 222 h' Q) : zJ X M 222 pc ls (v1 :: st) 222 h Q := j_callS1v hd hl hT hc1 hst (Nat.le_refl _) (by rw [hz.1]) (by rw [hz.2, Nat.add_zero]) (by rw [hz.1, Nat.sub_self]; exact Nat.zero_le _) (by rw [hz.2, Nat.sub_self]; exact Nat.zero_le _) hr kk
theorem k_callS2i {idx : Nat} {v1 v2 : Value} {M' : zM} {P : Option Int32 → zH → Prop} (hd : decode (zMb M) pc = .ok (.invokestatic idx, 3)) (hl : zSS M idx M' 2) (hT : zCT M' ([v1, v2]) 222 h 222 P) (hc1 : v1.category = 1) (hc2 : v2.category = 1) (hst : (st.map fun v => v.category).sum ≤ 8) (hz : zMc M' = 0 ∧ zMs M' = 0) (hr : (zMr M').isSome = true) (kk : ∀ x h', P (some x) h' → zJ X M 222 (pc + 3) ls (.int x :: st) 222 h' Q) : zJ X M 222 pc ls (v2 :: v1 :: st) 222 h Q := j_callS2i hd hl hT hc1 hc2 hst (Nat.le_refl _) (by rw [hz.1]) (by rw [hz.2, Nat.add_zero]) (by rw [hz.1, Nat.sub_self]; exact Nat.zero_le _) (by rw [hz.2, Nat.sub_self]; exact Nat.zero_le _) hr kk
theorem k_callS2v {idx : Nat} {v1 v2 : Value} {M' : zM} {P : Option Int32 → zH → Prop} (hd : decode (zMb M) pc = .ok (.invokestatic idx, 3)) (hl : zSS M idx M' 2) (hT : zCT M' ([v1, v2]) 222 h 222 P) (hc1 : v1.category = 1) (hc2 : v2.category = 1) (hst : (st.map fun v => v.category).sum ≤ 8) (hz : zMc M' = 0 ∧ zMs M' = 0) (hr : (zMr M').isSome = false) (kk : ∀ h', P none h' → zJ X M 222 (pc + 3) ls st 222 h' Q) : zJ X M 222 pc ls (v2 :: v1 :: st) 222 h Q := j_callS2v hd hl hT hc1 hc2 hst (Nat.le_refl _) (by rw [hz.1]) (by rw [hz.2, Nat.add_zero]) (by rw [hz.1, Nat.sub_self]; exact Nat.zero_le _) (by rw [hz.2, Nat.sub_self]; exact Nat.zero_le _) hr kk
theorem k_callS3i {idx : Nat} {v1 v2 v3 : Value} {M' : zM} {P : Option Int32 → zH → Prop} (hd : decode (zMb M) pc = .ok (.invokestatic idx, 3)) (hl : zSS M idx M' 3) (hT : zCT M' ([v1, v2, v3]) 222 h 222 P) (hc1 : v1.category = 1) (hc2 : v2.category = 1) (hc3 : v3.category = 1) (hst : (st.map fun v => v.category).sum ≤ 8) (hz : zMc M' = 0 ∧ zMs M' = 0) (hr : (zMr M').isSome = true) (kk : ∀ x h', P (some x) h' → zJ X M 222 (pc + 3) ls (.int x :: st) 222 h' Q) : zJ X M 222 pc ls (v3 :: v2 :: v1 :: st) 222 h Q := j_callS3i hd hl hT hc1 hc2 hc3 hst (Nat.le_refl _) (by rw [hz.1]) (by rw [hz.2, Nat.add_zero]) (by rw [hz.1, Nat.sub_self]; exact Nat.zero_le _) (by rw [hz.2, Nat.sub_self]; exact Nat.zero_le _) hr kk
theorem k_callS3v {idx : Nat} {v1 v2 v3 : Value} {M' : zM} {P : Option Int32 → zH → Prop} (hd : decode (zMb M) pc = .ok (.invokestatic idx, 3)) (hl : zSS M idx M' 3) (hT : zCT M' ([v1, v2, v3]) 222 h 222 P) (hc1 : v1.category = 1) (hc2 : v2.category = 1) (hc3 : v3.category = 1) (hst : (st.map fun v => v.category).sum ≤ 8) (hz : zMc M' = 0 ∧ zMs M' = 0) (hr : (zMr M').isSome = false) (kk : ∀ h', P none h' → zJ X M 222 (pc + 3) ls st 222 h' Q) : zJ X M 222 pc ls (v3 :: v2 :: v1 :: st) 222 h Q := j_callS3v hd hl hT hc1 hc2 hc3 hst (Nat.le_refl _) (by rw [hz.1]) (by rw [hz.2, Nat.add_zero]) (by rw [hz.1, Nat.sub_self]; exact Nat.zero_le _) (by rw [hz.2, Nat.sub_self]; exact Nat.zero_le _) hr kk
theorem k_callS4i {idx : Nat} {v1 v2 v3 v4 : Value} {M' : zM} {P : Option Int32 → zH → Prop} (hd : decode (zMb M) pc = .ok (.invokestatic idx, 3)) (hl : zSS M idx M' 4) (hT : zCT M' ([v1, v2, v3, v4]) 222 h 222 P) (hc1 : v1.category = 1) (hc2 : v2.category = 1) (hc3 : v3.category = 1) (hc4 : v4.category = 1) (hst : (st.map fun v => v.category).sum ≤ 8) (hz : zMc M' = 0 ∧ zMs M' = 0) (hr : (zMr M').isSome = true) (kk : ∀ x h', P (some x) h' → zJ X M 222 (pc + 3) ls (.int x :: st) 222 h' Q) : zJ X M 222 pc ls (v4 :: v3 :: v2 :: v1 :: st) 222 h Q := j_callS4i hd hl hT hc1 hc2 hc3 hc4 hst (Nat.le_refl _) (by rw [hz.1]) (by rw [hz.2, Nat.add_zero]) (by rw [hz.1, Nat.sub_self]; exact Nat.zero_le _) (by rw [hz.2, Nat.sub_self]; exact Nat.zero_le _) hr kk
theorem k_callS4v {idx : Nat} {v1 v2 v3 v4 : Value} {M' : zM} {P : Option Int32 → zH → Prop} (hd : decode (zMb M) pc = .ok (.invokestatic idx, 3)) (hl : zSS M idx M' 4) (hT : zCT M' ([v1, v2, v3, v4]) 222 h 222 P) (hc1 : v1.category = 1) (hc2 : v2.category = 1) (hc3 : v3.category = 1) (hc4 : v4.category = 1) (hst : (st.map fun v => v.category).sum ≤ 8) (hz : zMc M' = 0 ∧ zMs M' = 0) (hr : (zMr M').isSome = false) (kk : ∀ h', P none h' → zJ X M 222 (pc + 3) ls st 222 h' Q) : zJ X M 222 pc ls (v4 :: v3 :: v2 :: v1 :: st) 222 h Q := j_callS4v hd hl hT hc1 hc2 hc3 hc4 hst (Nat.le_refl _) (by rw [hz.1]) (by rw [hz.2, Nat.add_zero]) (by rw [hz.1, Nat.sub_self]; exact Nat.zero_le _) (by rw [hz.2, Nat.sub_self]; exact Nat.zero_le _) hr kk
/-- the check's auction array s, in a heap g that has all else -/
def gS (g : zH) (s : Nat → Int32) : zH := va_up g 216 (fun k => .int (s k))
/-- the check's own pointers -/
def gP (g : zH) : Prop := g 215 0 = .ref 216 ∧ g 215 1 = .ref 217 ∧ g 215 2 = .ref 218 ∧ g 215 3 = .ref 219 ∧ g 215 6 = .ref 220 ∧ g 215 14 = .ref 221
theorem gS_ne {g : zH} {s : Nat → Int32} {a : Nat} (h : a ≠ 216) : gS g s a = g a := va_up_ne _ _ h
theorem gS_p0 {g : zH} {s : Nat → Int32} (hg : gP g) : gS g s 215 0 = .ref 216 := by rw [gS_ne (by decide)]; exact hg.1
theorem gS_p1 {g : zH} {s : Nat → Int32} (hg : gP g) : gS g s 215 1 = .ref 217 := by rw [gS_ne (by decide)]; exact hg.2.1
theorem gS_p2 {g : zH} {s : Nat → Int32} (hg : gP g) : gS g s 215 2 = .ref 218 := by rw [gS_ne (by decide)]; exact hg.2.2.1
theorem gS_p3 {g : zH} {s : Nat → Int32} (hg : gP g) : gS g s 215 3 = .ref 219 := by rw [gS_ne (by decide)]; exact hg.2.2.2.1
theorem gS_p6 {g : zH} {s : Nat → Int32} (hg : gP g) : gS g s 215 6 = .ref 220 := by rw [gS_ne (by decide)]; exact hg.2.2.2.2.1
theorem gS_p14 {g : zH} {s : Nat → Int32} (hg : gP g) : gS g s 215 14 = .ref 221 := by rw [gS_ne (by decide)]; exact hg.2.2.2.2.2
theorem gS_up {g : zH} {s : Nat → Int32} {j : Nat} {x : Int32} : va_up (gS g s) 216 (va_up (gS g s 216) j (.int x)) = gS g (upd s j x) := by
  funext a
  by_cases ha : a = 216
  · subst ha
    rw [va_up_self]
    unfold gS
    rw [va_up_self, va_up_self]
    funext k
    by_cases hk : k = j <;> simp [va_up, upd, hk]
  · unfold gS
    rw [va_up_ne _ _ ha, va_up_ne _ _ ha, va_up_ne _ _ ha]
theorem z_cl {j : Nat} (h : j < 1000) : (nI j).toNatClampNeg = j := nI_clamp (by omega)
theorem z_vin {i : Int32} {j n : Nat} (hi : i = nI j) (hj : j < n) (hn : n ≤ 1000) : vp_in i n := by
  rw [hi]
  exact vp_in_nI hj (by omega)
/-- s[i] -/
theorem s_ald {g : zH} {s : Nat → Int32} {i : Int32} (j : Nat) (hd : decode (zMb M) pc = .ok (.iaload, 1)) (hi : i = nI j) (hj : j < 215) (kk : zJ X M 222 (pc + 1) ls (.int (s j) :: st) 222 (gS g s) Q) : zJ X M 222 pc ls (.int i :: .ref 216 :: st) 222 (gS g s) Q :=
  j_iald (x := s j) hd (n := 215) rfl (by decide) (z_vin hi hj (by omega)) (by rw [hi, z_cl (by omega)]; unfold gS; rw [va_up_self]; rfl) kk
theorem s_ast {g : zH} {s : Nat → Int32} {i x : Int32} (j : Nat) (hd : decode (zMb M) pc = .ok (.iastore, 1)) (hi : i = nI j) (hj : j < 215) (kk : zJ X M 222 (pc + 1) ls st 222 (gS g (upd s j x)) Q) : zJ X M 222 pc ls (.int x :: .int i :: .ref 216 :: st) 222 (gS g s) Q :=
  j_iast hd (n := 215) rfl (by decide) (z_vin hi hj (by omega)) (by rw [hi, z_cl (by omega), gS_up]; exact kk)
end ZK
end
section
theorem z_n {n : Nat} : (OfNat.ofNat n : Int32) = nI n := rfl
/-- is v from a to b -/
def aIn (v a b : Int32) : Int32 := if v < a then 0 else if b < v then 0 else 1
set_option maxRecDepth 4000 in
set_option maxHeartbeats 1000000 in
theorem s_in {h : zH} {v a b : Int32} : zCT mX5_in [.int v, .int a, .int b] 222 (h) 222 (fun r h' => r = some (aIn v a b) ∧ h' = h) := by
  intro X Q hQ
  show zJ X mX5_in 222 0 [.int v, .int a, .int b] [] 222 (h) Q
  refine j_iload_n dX5_in_0 rfl ?_
  refine j_iload_n dX5_in_1 rfl ?_
  refine j_icmp_lt dX5_in_2 (tgt := 14) rfl (fun c1 => ?_) (fun c1 => ?_)
  · refine j_iconst (v := 0) dX5_in_14 (by decide) ?_
    refine j_iret dX5_in_15 rfl (rfl) ?_
    exact hQ _ _ ⟨by first | rfl | (simp [aIn, *]; done), rfl⟩
  · refine j_iload_n dX5_in_5 rfl ?_
    refine j_iload_n dX5_in_6 rfl ?_
    refine j_icmp_gt dX5_in_7 (tgt := 14) rfl (fun c2 => ?_) (fun c2 => ?_)
    · refine j_iconst (v := 0) dX5_in_14 (by decide) ?_
      refine j_iret dX5_in_15 rfl (rfl) ?_
      exact hQ _ _ ⟨by first | rfl | (simp [aIn, *]; done), rfl⟩
    · refine j_iconst (v := 1) dX5_in_10 (by decide) ?_
      refine j_goto dX5_in_11 (tgt := 15) rfl ?_
      refine j_iret dX5_in_15 rfl (rfl) ?_
      exact hQ _ _ ⟨by first | rfl | (simp [aIn, *]; done), rfl⟩
def aSeat (r c : Int32) : Int32 := if aIn r 0 5 = 0 then 0 else if aIn c 0 7 = 0 then 0 else 1
set_option maxRecDepth 4000 in
set_option maxHeartbeats 1000000 in
theorem s_isSeat {h : zH} {r c : Int32} : zCT mX5_isSeat [.int r, .int c] 222 (h) 222 (fun x h' => x = some (aSeat r c) ∧ h' = h) := by
  intro X Q hQ
  show zJ X mX5_isSeat 222 0 [.int r, .int c] [] 222 (h) Q
  refine j_iload_n dX5_isSeat_0 rfl ?_
  refine j_iconst (v := 0) dX5_isSeat_1 (by decide) ?_
  refine j_iconst (v := 5) dX5_isSeat_2 (by decide) ?_
  refine k_callS3i dX5_isSeat_3 vX5_isSeat_36 (s_in) rfl rfl rfl (Nat.le_of_ble_eq_true rfl) ⟨rfl, rfl⟩ rfl ?_
  rintro _ _ ⟨⟨⟩, rfl⟩
  refine j_if_eq dX5_isSeat_6 (tgt := 23) rfl (fun c1 => ?_) (fun c1 => ?_)
  · refine j_iconst (v := 0) dX5_isSeat_23 (by decide) ?_
    refine j_iret dX5_isSeat_24 rfl (rfl) ?_
    exact hQ _ _ ⟨by first | rfl | (simp [aSeat, *]; done), rfl⟩
  · refine j_iload_n dX5_isSeat_9 rfl ?_
    refine j_iconst (v := 0) dX5_isSeat_10 (by decide) ?_
    refine j_bipush (v := 7) dX5_isSeat_11 (by decide) ?_
    refine k_callS3i dX5_isSeat_13 vX5_isSeat_36 (s_in) rfl rfl rfl (Nat.le_of_ble_eq_true rfl) ⟨rfl, rfl⟩ rfl ?_
    rintro _ _ ⟨⟨⟩, rfl⟩
    refine j_if_eq dX5_isSeat_16 (tgt := 23) rfl (fun c2 => ?_) (fun c2 => ?_)
    · refine j_iconst (v := 0) dX5_isSeat_23 (by decide) ?_
      refine j_iret dX5_isSeat_24 rfl (rfl) ?_
      exact hQ _ _ ⟨by first | rfl | (simp [aSeat, *]; done), rfl⟩
    · refine j_iconst (v := 1) dX5_isSeat_19 (by decide) ?_
      refine j_goto dX5_isSeat_20 (tgt := 24) rfl ?_
      refine j_iret dX5_isSeat_24 rfl (rfl) ?_
      exact hQ _ _ ⟨by first | rfl | (simp [aSeat, *]; done), rfl⟩
set_option maxRecDepth 4000 in
set_option maxHeartbeats 1000000 in
theorem s_of {g : zH} {s : Nat → Int32} (hg : gP g) (k v : Nat) (hk : k < 12) (hv : v < 11) : zCT mX5_of [.ref 215, .int (nI k), .int (nI v)] 222 (gS g s) 222 (fun r h' => r = some (s (11 * k + v)) ∧ h' = gS g s) := by
  intro X Q hQ
  show zJ X mX5_of 222 0 [.ref 215, .int (nI k), .int (nI v)] [] 222 (gS g s) Q
  refine j_aload_n dX5_of_0 rfl ?_
  refine j_get (v := .ref 216) dX5_of_1 fX5_7 rfl (by decide) (gS_p0 hg) ?_
  refine j_bipush (v := 11) dX5_of_4 (by decide) ?_
  refine j_iload_n dX5_of_6 rfl ?_
  refine j_imul dX5_of_7 ?_
  refine j_iload_n dX5_of_8 rfl ?_
  refine j_iadd dX5_of_9 ?_
  refine s_ald ((11 * k) + v) dX5_of_10 (by first | rfl | (simp only [z_n, pk_mul, nI_add]; done) | (simp only [z_n, pk_mul, nI_add]; exact pk_sub (by omega)) | (simp only [z_n, pk_mul, nI_add, pk_sub, *]; done)) (by first | decide | omega) ?_
  refine j_iret dX5_of_11 rfl (rfl) ?_
  exact hQ _ _ ⟨by first | rfl | (simp [ *]; done), rfl⟩
set_option maxRecDepth 4000 in
set_option maxHeartbeats 1000000 in
theorem s_adds {g : zH} {s : Nat → Int32} (hg : gP g) (k v : Nat) {x : Int32} (hk : k < 12) (hv : v < 11) : zCT mX5_adds [.ref 215, .int (nI k), .int (nI v), .int x] 222 (gS g s) 222 (fun r h' => r = none ∧ h' = gS g (upd s (11 * k + v) (s (11 * k + v) + x))) := by
  intro X Q hQ
  show zJ X mX5_adds 222 0 [.ref 215, .int (nI k), .int (nI v), .int x] [] 222 (gS g s) Q
  refine j_aload_n dX5_adds_0 rfl ?_
  refine j_get (v := .ref 216) dX5_adds_1 fX5_7 rfl (by decide) (gS_p0 hg) ?_
  refine j_bipush (v := 11) dX5_adds_4 (by decide) ?_
  refine j_iload_n dX5_adds_6 rfl ?_
  refine j_imul dX5_adds_7 ?_
  refine j_iload_n dX5_adds_8 rfl ?_
  refine j_iadd dX5_adds_9 ?_
  refine j_dup2 dX5_adds_10 rfl rfl ?_
  refine s_ald ((11 * k) + v) dX5_adds_11 (by first | rfl | (simp only [z_n, pk_mul, nI_add]; done) | (simp only [z_n, pk_mul, nI_add]; exact pk_sub (by omega)) | (simp only [z_n, pk_mul, nI_add, pk_sub, *]; done)) (by first | decide | omega) ?_
  refine j_iload_n dX5_adds_12 rfl ?_
  refine j_iadd dX5_adds_13 ?_
  refine s_ast ((11 * k) + v) dX5_adds_14 (by first | rfl | (simp only [z_n, pk_mul, nI_add]; done) | (simp only [z_n, pk_mul, nI_add]; exact pk_sub (by omega)) | (simp only [z_n, pk_mul, nI_add, pk_sub, *]; done)) (by first | decide | omega) ?_
  refine j_vret dX5_adds_15 rfl ?_
  exact hQ _ _ ⟨rfl, rfl⟩
set_option maxRecDepth 4000 in
set_option maxHeartbeats 1000000 in
theorem s_lay {g : zH} {s : Nat → Int32} (hg : gP g) (k v : Nat) {x : Int32} (hk : k < 12) (hv : v < 11) : zCT mX5_lay [.ref 215, .int (nI k), .int (nI v), .int x] 222 (gS g s) 222 (fun r h' => r = none ∧ h' = gS g (upd s (11 * k + v) x)) := by
  intro X Q hQ
  show zJ X mX5_lay 222 0 [.ref 215, .int (nI k), .int (nI v), .int x] [] 222 (gS g s) Q
  refine j_aload_n dX5_lay_0 rfl ?_
  refine j_get (v := .ref 216) dX5_lay_1 fX5_7 rfl (by decide) (gS_p0 hg) ?_
  refine j_bipush (v := 11) dX5_lay_4 (by decide) ?_
  refine j_iload_n dX5_lay_6 rfl ?_
  refine j_imul dX5_lay_7 ?_
  refine j_iload_n dX5_lay_8 rfl ?_
  refine j_iadd dX5_lay_9 ?_
  refine j_iload_n dX5_lay_10 rfl ?_
  refine s_ast ((11 * k) + v) dX5_lay_11 (by first | rfl | (simp only [z_n, pk_mul, nI_add]; done) | (simp only [z_n, pk_mul, nI_add]; exact pk_sub (by omega)) | (simp only [z_n, pk_mul, nI_add, pk_sub, *]; done)) (by first | decide | omega) ?_
  refine j_vret dX5_lay_12 rfl ?_
  exact hQ _ _ ⟨rfl, rfl⟩
def aIs (s : Nat → Int32) (b : Int32) : Int32 := aIn b 0 (s 199 - 1)
def aLoud (s : Nat → Int32) (k : Nat) : Int32 := s (11 * k + 3) + s (11 * k + 4) - s (11 * k + 5) - s (11 * k + 0)
def aAsk (s : Nat → Int32) : Int32 := if s 152 ≤ 0 then s 149 else s 151 + s 150
def aBar (s : Nat → Int32) (k : Nat) : Int32 := if s 148 = 0 then 1 else if ¬ s 212 ≤ aLoud s k then 2 else if s 152 = nI k + 1 then 3 else if ¬ aAsk s ≤ s (11 * k + 2) then 4 else 0
theorem aIn_b {v a b : Int32} : narrow .boolean (.int (aIn v a b)) = .int (aIn v a b) := by
  unfold aIn
  split
  · rfl
  · split <;> rfl
set_option maxRecDepth 4000 in
set_option maxHeartbeats 1000000 in
theorem s_isBidder {g : zH} {s : Nat → Int32} (hg : gP g) {b : Int32} : zCT mX5_isBidder [.ref 215, .int b] 222 (gS g s) 222 (fun r h' => r = some (aIs s b) ∧ h' = gS g s) := by
  intro X Q hQ
  show zJ X mX5_isBidder 222 0 [.ref 215, .int b] [] 222 (gS g s) Q
  refine j_iload_n dX5_isBidder_0 rfl ?_
  refine j_iconst (v := 0) dX5_isBidder_1 (by decide) ?_
  refine j_aload_n dX5_isBidder_2 rfl ?_
  refine j_get (v := .ref 216) dX5_isBidder_3 fX5_7 rfl (by decide) (gS_p0 hg) ?_
  refine j_sipush (v := 199) dX5_isBidder_6 (by decide) ?_
  refine s_ald 199 dX5_isBidder_9 (rfl) (by first | decide | omega) ?_
  refine j_iconst (v := 1) dX5_isBidder_10 (by decide) ?_
  refine j_isub dX5_isBidder_11 ?_
  refine k_callS3i dX5_isBidder_12 vX5_isBidder_36 (s_in) rfl rfl rfl (Nat.le_of_ble_eq_true rfl) ⟨rfl, rfl⟩ rfl ?_
  rintro _ _ ⟨⟨⟩, rfl⟩
  refine j_iret dX5_isBidder_15 rfl (aIn_b) ?_
  exact hQ _ _ ⟨by first | rfl | (simp [aIs, *]; done), rfl⟩
set_option maxRecDepth 4000 in
set_option maxHeartbeats 1000000 in
theorem s_loud {g : zH} {s : Nat → Int32} (hg : gP g) (k : Nat) (hk : k < 12) : zCT mX5_loud [.ref 215, .int (nI k)] 222 (gS g s) 222 (fun r h' => r = some (aLoud s k) ∧ h' = gS g s) := by
  intro X Q hQ
  show zJ X mX5_loud 222 0 [.ref 215, .int (nI k)] [] 222 (gS g s) Q
  refine j_aload_n dX5_loud_0 rfl ?_
  refine j_iload_n dX5_loud_1 rfl ?_
  refine j_iconst (v := 3) dX5_loud_2 (by decide) ?_
  refine k_callV2i dX5_loud_3 vX5_loud_40 (s_of hg k 3 (by omega) (by omega)) rfl (by decide) rfl rfl (Nat.le_of_ble_eq_true rfl) ⟨rfl, rfl⟩ rfl ?_
  rintro _ _ ⟨⟨⟩, rfl⟩
  refine j_aload_n dX5_loud_6 rfl ?_
  refine j_iload_n dX5_loud_7 rfl ?_
  refine j_iconst (v := 4) dX5_loud_8 (by decide) ?_
  refine k_callV2i dX5_loud_9 vX5_loud_40 (s_of hg k 4 (by omega) (by omega)) rfl (by decide) rfl rfl (Nat.le_of_ble_eq_true rfl) ⟨rfl, rfl⟩ rfl ?_
  rintro _ _ ⟨⟨⟩, rfl⟩
  refine j_iadd dX5_loud_12 ?_
  refine j_aload_n dX5_loud_13 rfl ?_
  refine j_iload_n dX5_loud_14 rfl ?_
  refine j_iconst (v := 5) dX5_loud_15 (by decide) ?_
  refine k_callV2i dX5_loud_16 vX5_loud_40 (s_of hg k 5 (by omega) (by omega)) rfl (by decide) rfl rfl (Nat.le_of_ble_eq_true rfl) ⟨rfl, rfl⟩ rfl ?_
  rintro _ _ ⟨⟨⟩, rfl⟩
  refine j_isub dX5_loud_19 ?_
  refine j_aload_n dX5_loud_20 rfl ?_
  refine j_iload_n dX5_loud_21 rfl ?_
  refine j_iconst (v := 0) dX5_loud_22 (by decide) ?_
  refine k_callV2i dX5_loud_23 vX5_loud_40 (s_of hg k 0 (by omega) (by omega)) rfl (by decide) rfl rfl (Nat.le_of_ble_eq_true rfl) ⟨rfl, rfl⟩ rfl ?_
  rintro _ _ ⟨⟨⟩, rfl⟩
  refine j_isub dX5_loud_26 ?_
  refine j_iret dX5_loud_27 rfl (rfl) ?_
  exact hQ _ _ ⟨by first | rfl | (simp [aLoud, *]; done), rfl⟩
set_option maxRecDepth 4000 in
set_option maxHeartbeats 1000000 in
theorem s_asked {g : zH} {s : Nat → Int32} (hg : gP g) : zCT mX5_asked [.ref 215] 222 (gS g s) 222 (fun r h' => r = some (aAsk s) ∧ h' = gS g s) := by
  intro X Q hQ
  show zJ X mX5_asked 222 0 [.ref 215] [] 222 (gS g s) Q
  refine j_aload_n dX5_asked_0 rfl ?_
  refine j_get (v := .ref 216) dX5_asked_1 fX5_7 rfl (by decide) (gS_p0 hg) ?_
  refine j_sipush (v := 152) dX5_asked_4 (by decide) ?_
  refine s_ald 152 dX5_asked_7 (rfl) (by first | decide | omega) ?_
  refine j_if_le dX5_asked_8 (tgt := 31) rfl (fun c1 => ?_) (fun c1 => ?_)
  · refine j_aload_n dX5_asked_31 rfl ?_
    refine j_get (v := .ref 216) dX5_asked_32 fX5_7 rfl (by decide) (gS_p0 hg) ?_
    refine j_sipush (v := 149) dX5_asked_35 (by decide) ?_
    refine s_ald 149 dX5_asked_38 (rfl) (by first | decide | omega) ?_
    refine j_iret dX5_asked_39 rfl (rfl) ?_
    exact hQ _ _ ⟨by first | rfl | (simp [aAsk, *]; done), rfl⟩
  · refine j_aload_n dX5_asked_11 rfl ?_
    refine j_get (v := .ref 216) dX5_asked_12 fX5_7 rfl (by decide) (gS_p0 hg) ?_
    refine j_sipush (v := 151) dX5_asked_15 (by decide) ?_
    refine s_ald 151 dX5_asked_18 (rfl) (by first | decide | omega) ?_
    refine j_aload_n dX5_asked_19 rfl ?_
    refine j_get (v := .ref 216) dX5_asked_20 fX5_7 rfl (by decide) (gS_p0 hg) ?_
    refine j_sipush (v := 150) dX5_asked_23 (by decide) ?_
    refine s_ald 150 dX5_asked_26 (rfl) (by first | decide | omega) ?_
    refine j_iadd dX5_asked_27 ?_
    refine j_goto dX5_asked_28 (tgt := 39) rfl ?_
    refine j_iret dX5_asked_39 rfl (rfl) ?_
    exact hQ _ _ ⟨by first | rfl | (simp [aAsk, *]; done), rfl⟩
set_option maxRecDepth 4000 in
set_option maxHeartbeats 1000000 in
theorem s_barred {g : zH} {s : Nat → Int32} (hg : gP g) (k : Nat) (hk : k < 12) : zCT mX5_barred [.ref 215, .int (nI k)] 222 (gS g s) 222 (fun r h' => r = some (aBar s k) ∧ h' = gS g s) := by
  intro X Q hQ
  show zJ X mX5_barred 222 0 [.ref 215, .int (nI k)] [] 222 (gS g s) Q
  refine j_aload_n dX5_barred_0 rfl ?_
  refine j_get (v := .ref 216) dX5_barred_1 fX5_7 rfl (by decide) (gS_p0 hg) ?_
  refine j_sipush (v := 148) dX5_barred_4 (by decide) ?_
  refine s_ald 148 dX5_barred_7 (rfl) (by first | decide | omega) ?_
  refine j_if_ne dX5_barred_8 (tgt := 13) rfl (fun c1 => ?_) (fun c1 => ?_)
  · refine j_aload_n dX5_barred_13 rfl ?_
    refine j_iload_n dX5_barred_14 rfl ?_
    refine k_callV1i dX5_barred_15 vX5_barred_45 (s_loud hg k (by omega)) rfl (by decide) rfl (Nat.le_of_ble_eq_true rfl) ⟨rfl, rfl⟩ rfl ?_
    rintro _ _ ⟨⟨⟩, rfl⟩
    refine j_aload_n dX5_barred_18 rfl ?_
    refine j_get (v := .ref 216) dX5_barred_19 fX5_7 rfl (by decide) (gS_p0 hg) ?_
    refine j_sipush (v := 212) dX5_barred_22 (by decide) ?_
    refine s_ald 212 dX5_barred_25 (rfl) (by first | decide | omega) ?_
    refine j_icmp_ge dX5_barred_26 (tgt := 33) rfl (fun c2 => ?_) (fun c2 => ?_)
    · refine j_aload_n dX5_barred_33 rfl ?_
      refine j_get (v := .ref 216) dX5_barred_34 fX5_7 rfl (by decide) (gS_p0 hg) ?_
      refine j_sipush (v := 152) dX5_barred_37 (by decide) ?_
      refine s_ald 152 dX5_barred_40 (rfl) (by first | decide | omega) ?_
      refine j_iload_n dX5_barred_41 rfl ?_
      refine j_iconst (v := 1) dX5_barred_42 (by decide) ?_
      refine j_iadd dX5_barred_43 ?_
      refine j_icmp_ne dX5_barred_44 (tgt := 51) rfl (fun c3 => ?_) (fun c3 => ?_)
      · refine j_aload_n dX5_barred_51 rfl ?_
        refine j_iload_n dX5_barred_52 rfl ?_
        refine j_iconst (v := 2) dX5_barred_53 (by decide) ?_
        refine k_callV2i dX5_barred_54 vX5_barred_40 (s_of hg k 2 (by omega) (by omega)) rfl (by decide) rfl rfl (Nat.le_of_ble_eq_true rfl) ⟨rfl, rfl⟩ rfl ?_
        rintro _ _ ⟨⟨⟩, rfl⟩
        refine j_aload_n dX5_barred_57 rfl ?_
        refine k_callV0i dX5_barred_58 vX5_barred_49 (s_asked hg) rfl (by decide)  (Nat.le_of_ble_eq_true rfl) ⟨rfl, rfl⟩ rfl ?_
        rintro _ _ ⟨⟨⟩, rfl⟩
        refine j_icmp_ge dX5_barred_61 (tgt := 68) rfl (fun c4 => ?_) (fun c4 => ?_)
        · refine j_iconst (v := 0) dX5_barred_68 (by decide) ?_
          refine j_iret dX5_barred_69 rfl (rfl) ?_
          exact hQ _ _ ⟨by first | rfl | (simp [aBar, *]; done), rfl⟩
        · refine j_iconst (v := 4) dX5_barred_64 (by decide) ?_
          refine j_goto dX5_barred_65 (tgt := 69) rfl ?_
          refine j_iret dX5_barred_69 rfl (rfl) ?_
          exact hQ _ _ ⟨by first | rfl | (simp [aBar, *]; done), rfl⟩
      · refine j_iconst (v := 3) dX5_barred_47 (by decide) ?_
        refine j_goto dX5_barred_48 (tgt := 69) rfl ?_
        refine j_iret dX5_barred_69 rfl (rfl) ?_
        exact hQ _ _ ⟨by first | rfl | (simp [aBar, *]; done), rfl⟩
    · refine j_iconst (v := 2) dX5_barred_29 (by decide) ?_
      refine j_goto dX5_barred_30 (tgt := 69) rfl ?_
      refine j_iret dX5_barred_69 rfl (rfl) ?_
      exact hQ _ _ ⟨by first | rfl | (simp [aBar, *]; done), rfl⟩
  · refine j_iconst (v := 1) dX5_barred_11 (by decide) ?_
    refine j_iret dX5_barred_12 rfl (rfl) ?_
    exact hQ _ _ ⟨by first | rfl | (simp [aBar, *]; done), rfl⟩
end
section
theorem z_inc {k : Nat} : nI k + Int32.ofInt 1 = nI (k + 1) := nI_1 k
theorem z_dec {k : Nat} (h : 0 < k) : nI k + Int32.ofInt (-1) = nI (k - 1) := by
  obtain ⟨j, rfl⟩ : ∃ j, k = j + 1 := ⟨k - 1, by omega⟩
  exact pk_m1 j
theorem z_pr {g : zH} {p : Int32 × (Nat → Int32)} {x : Int32} {t : Nat → Int32} (e : p = (x, t)) : some x = some p.1 ∧ gS g t = gS g p.2 := by
  subst e
  exact ⟨rfl, rfl⟩
theorem z_pn {g : zH} {p t : Nat → Int32} (e : p = t) : (none : Option Int32) = none ∧ gS g t = gS g p := by
  subst e
  exact ⟨rfl, rfl⟩
theorem z_ps {g : zH} {s : Nat → Int32} {p x : Int32} (e : p = x) : some x = some p ∧ gS g s = gS g s := by
  subst e
  exact ⟨rfl, rfl⟩
/-- the first of n bidders from k on who sits there -/
def aFind (s : Nat → Int32) (row seat : Int32) : Nat → Nat → Int32
  | 0, _ => -1000004
  | n + 1, k => if s (11 * k + 0) = row then (if s (11 * k + 1) = seat then nI k else aFind s row seat n (k + 1)) else aFind s row seat n (k + 1)
set_option maxRecDepth 4000 in
set_option maxHeartbeats 2000000 in
theorem s_seated_lp {g : zH} {s : Nat → Int32} (hg : gP g) {row seat : Int32} {N : Nat} (hn : s 199 = nI N) (hN : N ≤ 12) {X : Nat × (Nat → Int32)} {Q : zQt} : ∀ (n k : Nat), k + n = N → (∀ r h', r = some (aFind s row seat n k) ∧ h' = gS g s → Q r 222 h') → zJ X mX5_seated 222 2 [.ref 215, .int row, .int seat, .int (nI k)] [] 222 (gS g s) Q := by
  intro n
  induction n with
  | zero =>
    intro k hk hQ
    refine j_iload_n dX5_seated_2 rfl ?_
    refine j_aload_n dX5_seated_3 rfl ?_
    refine j_get (v := .ref 216) dX5_seated_4 fX5_7 rfl (by decide) (gS_p0 hg) ?_
    refine j_sipush (v := 199) dX5_seated_7 (by decide) ?_
    refine s_ald 199 dX5_seated_10 (rfl) (by first | decide | omega) ?_
    refine j_icmp_ge dX5_seated_11 (tgt := 42) rfl (fun _ => ?_) (fun c1 => absurd (show s 199 ≤ nI k by rw [hn]; exact nI_le (by omega) (by omega)) c1)
    refine j_ldc (v := (-1000004)) dX5_seated_42 cX5_44 ?_
    refine j_iret dX5_seated_44 rfl (rfl) ?_
    exact hQ _ _ ⟨rfl, rfl⟩
  | succ n ih =>
    intro k hk hQ
    refine j_iload_n dX5_seated_2 rfl ?_
    refine j_aload_n dX5_seated_3 rfl ?_
    refine j_get (v := .ref 216) dX5_seated_4 fX5_7 rfl (by decide) (gS_p0 hg) ?_
    refine j_sipush (v := 199) dX5_seated_7 (by decide) ?_
    refine s_ald 199 dX5_seated_10 (rfl) (by first | decide | omega) ?_
    refine j_icmp_ge dX5_seated_11 (tgt := 42) rfl (fun c1 => absurd c1 (show ¬ s 199 ≤ nI k by rw [hn]; exact nI_ge (by omega) (by omega))) (fun _ => ?_)
    refine j_aload_n dX5_seated_14 rfl ?_
    refine j_iload_n dX5_seated_15 rfl ?_
    refine j_iconst (v := 0) dX5_seated_16 (by decide) ?_
    refine k_callV2i dX5_seated_17 vX5_seated_40 (s_of hg k 0 (by omega) (by omega)) rfl (by decide) rfl rfl (Nat.le_of_ble_eq_true rfl) ⟨rfl, rfl⟩ rfl ?_
    rintro _ _ ⟨⟨⟩, rfl⟩
    refine j_iload_n dX5_seated_20 rfl ?_
    refine j_icmp_ne dX5_seated_21 (tgt := 36) rfl (fun c2 => ?_) (fun c2 => ?_)
    · refine j_iinc (v := nI (k + 1)) dX5_seated_36 rfl z_inc (by decide) ?_
      refine j_goto dX5_seated_39 (tgt := 2) rfl ?_
      exact ih (k + 1) (by omega) (fun r h' h => hQ r h' ⟨h.1.trans (congrArg some (((if_neg c2).trans (rfl) : aFind s row seat (n + 1) k = aFind s row seat n (k + 1)).symm)), h.2⟩)
    · refine j_aload_n dX5_seated_24 rfl ?_
      refine j_iload_n dX5_seated_25 rfl ?_
      refine j_iconst (v := 1) dX5_seated_26 (by decide) ?_
      refine k_callV2i dX5_seated_27 vX5_seated_40 (s_of hg k 1 (by omega) (by omega)) rfl (by decide) rfl rfl (Nat.le_of_ble_eq_true rfl) ⟨rfl, rfl⟩ rfl ?_
      rintro _ _ ⟨⟨⟩, rfl⟩
      refine j_iload_n dX5_seated_30 rfl ?_
      refine j_icmp_ne dX5_seated_31 (tgt := 36) rfl (fun c3 => ?_) (fun c3 => ?_)
      · refine j_iinc (v := nI (k + 1)) dX5_seated_36 rfl z_inc (by decide) ?_
        refine j_goto dX5_seated_39 (tgt := 2) rfl ?_
        exact ih (k + 1) (by omega) (fun r h' h => hQ r h' ⟨h.1.trans (congrArg some (((if_pos c2).trans ((if_neg c3).trans (rfl)) : aFind s row seat (n + 1) k = aFind s row seat n (k + 1)).symm)), h.2⟩)
      · refine j_iload_n dX5_seated_34 rfl ?_
        refine j_iret dX5_seated_35 rfl (rfl) ?_
        exact hQ _ _ (z_ps ((if_pos c2).trans ((if_pos c3).trans (rfl))))
set_option maxRecDepth 4000 in
set_option maxHeartbeats 1000000 in
theorem s_seated {g : zH} {s : Nat → Int32} (hg : gP g) {row seat : Int32} {N : Nat} (hn : s 199 = nI N) (hN : N ≤ 12) : zCT mX5_seated [.ref 215, .int row, .int seat] 222 (gS g s) 222 (fun r h' => r = some (aFind s row seat N 0) ∧ h' = gS g s) := by
  intro X Q hQ
  show zJ X mX5_seated 222 0 [.ref 215, .int row, .int seat, .null] [] 222 (gS g s) Q
  refine j_iconst (v := 0) dX5_seated_0 (by decide) ?_
  refine j_istore_n dX5_seated_1 (by decide) ?_
  exact s_seated_lp hg hn hN N 0 (by omega) hQ
/-- the book makes room -/
def aShf (s : Nat → Int32) (k : Nat) : Nat → Int32 := fun j => if 158 + k < j ∧ j < 198 then s (j - 5) else s j
theorem aShf_39 {s : Nat → Int32} : aShf s 39 = s := by
  funext j
  unfold aShf
  rw [if_neg (by omega)]
theorem aShf_up {s : Nat → Int32} {k : Nat} (h1 : 5 ≤ k) (h2 : k ≤ 39) : upd (aShf s k) (158 + k) (aShf s k (158 + k - 5)) = aShf s (k - 1) := by
  funext j
  unfold upd aShf
  by_cases h : j = 158 + k
  · subst h
    rw [if_pos rfl, if_neg (by omega), if_pos (by omega)]
  · rw [if_neg h]
    by_cases h3 : 158 + k < j ∧ j < 198
    · rw [if_pos h3, if_pos (by omega)]
    · rw [if_neg h3, if_neg (by omega)]
def aGo1 (t : Nat → Int32) (how : Nat) : Nat → Int32 :=
  let t := upd t 158 (nI how)
  let t := upd t 159 (t 151)
  let t := upd t 160 (t 152)
  let t := upd t 161 (t 153)
  upd t 162 (t 155)
def aGo3 (t : Nat → Int32) (how : Nat) : Nat → Int32 := if nI how = 3 then upd (upd t 211 (t 211 + 1)) 148 0 else upd (upd t (202 + how) (t (202 + how) + 1)) 148 0
def aGo2 (t : Nat → Int32) (how : Nat) : Nat → Int32 := if 8 ≤ t 210 then aGo3 (upd t 210 (t 210 + 0)) how else aGo3 (upd t 210 (t 210 + 1)) how
/-- the lot that is up goes: 0 sold, 1 withdrawn, 2 without a bid, 3 for a cold -/
def aGo (s : Nat → Int32) (how : Nat) : Nat → Int32 := aGo2 (aGo1 (aShf s 4) how) how
set_option maxRecDepth 4000 in
set_option maxHeartbeats 2000000 in
theorem s_goes_lp {g : zH} {s : Nat → Int32} (hg : gP g) (how : Nat) (hh : how ≤ 3) {X : Nat × (Nat → Int32)} {Q : zQt} : ∀ (n k : Nat), k = 4 + n → n ≤ 35 → (∀ r h', r = none ∧ h' = gS g (aGo s how) → Q r 222 h') → zJ X mX5_goes 222 3 [.ref 215, .int (nI how), .int (nI k)] [] 222 (gS g (aShf s k)) Q := by
  intro n
  induction n with
  | zero =>
    intro k hk hn hQ
    obtain rfl : k = 4 := by omega
    refine j_iload_n dX5_goes_3 rfl ?_
    refine j_iconst (v := 5) dX5_goes_4 (by decide) ?_
    refine j_icmp_lt dX5_goes_5 (tgt := 36) rfl (fun _ => ?_) (fun c1 => absurd (show nI 4 < 5 by decide) c1)
    refine j_aload_n dX5_goes_36 rfl ?_
    refine j_get (v := .ref 216) dX5_goes_37 fX5_7 rfl (by decide) (gS_p0 hg) ?_
    refine j_sipush (v := 158) dX5_goes_40 (by decide) ?_
    refine j_iload_n dX5_goes_43 rfl ?_
    refine s_ast 158 dX5_goes_44 (rfl) (by first | decide | omega) ?_
    refine j_aload_n dX5_goes_45 rfl ?_
    refine j_get (v := .ref 216) dX5_goes_46 fX5_7 rfl (by decide) (gS_p0 hg) ?_
    refine j_sipush (v := 159) dX5_goes_49 (by decide) ?_
    refine j_aload_n dX5_goes_52 rfl ?_
    refine j_get (v := .ref 216) dX5_goes_53 fX5_7 rfl (by decide) (gS_p0 hg) ?_
    refine j_sipush (v := 151) dX5_goes_56 (by decide) ?_
    refine s_ald 151 dX5_goes_59 (rfl) (by first | decide | omega) ?_
    refine s_ast 159 dX5_goes_60 (rfl) (by first | decide | omega) ?_
    refine j_aload_n dX5_goes_61 rfl ?_
    refine j_get (v := .ref 216) dX5_goes_62 fX5_7 rfl (by decide) (gS_p0 hg) ?_
    refine j_sipush (v := 160) dX5_goes_65 (by decide) ?_
    refine j_aload_n dX5_goes_68 rfl ?_
    refine j_get (v := .ref 216) dX5_goes_69 fX5_7 rfl (by decide) (gS_p0 hg) ?_
    refine j_sipush (v := 152) dX5_goes_72 (by decide) ?_
    refine s_ald 152 dX5_goes_75 (rfl) (by first | decide | omega) ?_
    refine s_ast 160 dX5_goes_76 (rfl) (by first | decide | omega) ?_
    refine j_aload_n dX5_goes_77 rfl ?_
    refine j_get (v := .ref 216) dX5_goes_78 fX5_7 rfl (by decide) (gS_p0 hg) ?_
    refine j_sipush (v := 161) dX5_goes_81 (by decide) ?_
    refine j_aload_n dX5_goes_84 rfl ?_
    refine j_get (v := .ref 216) dX5_goes_85 fX5_7 rfl (by decide) (gS_p0 hg) ?_
    refine j_sipush (v := 153) dX5_goes_88 (by decide) ?_
    refine s_ald 153 dX5_goes_91 (rfl) (by first | decide | omega) ?_
    refine s_ast 161 dX5_goes_92 (rfl) (by first | decide | omega) ?_
    refine j_aload_n dX5_goes_93 rfl ?_
    refine j_get (v := .ref 216) dX5_goes_94 fX5_7 rfl (by decide) (gS_p0 hg) ?_
    refine j_sipush (v := 162) dX5_goes_97 (by decide) ?_
    refine j_aload_n dX5_goes_100 rfl ?_
    refine j_get (v := .ref 216) dX5_goes_101 fX5_7 rfl (by decide) (gS_p0 hg) ?_
    refine j_sipush (v := 155) dX5_goes_104 (by decide) ?_
    refine s_ald 155 dX5_goes_107 (rfl) (by first | decide | omega) ?_
    refine s_ast 162 dX5_goes_108 (rfl) (by first | decide | omega) ?_
    refine j_aload_n dX5_goes_109 rfl ?_
    refine j_get (v := .ref 216) dX5_goes_110 fX5_7 rfl (by decide) (gS_p0 hg) ?_
    refine j_sipush (v := 210) dX5_goes_113 (by decide) ?_
    refine j_dup2 dX5_goes_116 rfl rfl ?_
    refine s_ald 210 dX5_goes_117 (rfl) (by first | decide | omega) ?_
    refine j_aload_n dX5_goes_118 rfl ?_
    refine j_get (v := .ref 216) dX5_goes_119 fX5_7 rfl (by decide) (gS_p0 hg) ?_
    refine j_sipush (v := 210) dX5_goes_122 (by decide) ?_
    refine s_ald 210 dX5_goes_125 (rfl) (by first | decide | omega) ?_
    refine j_bipush (v := 8) dX5_goes_126 (by decide) ?_
    refine j_icmp_ge dX5_goes_128 (tgt := 135) rfl (fun c2 => ?_) (fun c2 => ?_)
    · refine j_iconst (v := 0) dX5_goes_135 (by decide) ?_
      refine j_iadd dX5_goes_136 ?_
      refine s_ast 210 dX5_goes_137 (rfl) (by first | decide | omega) ?_
      refine j_aload_n dX5_goes_138 rfl ?_
      refine j_get (v := .ref 216) dX5_goes_139 fX5_7 rfl (by decide) (gS_p0 hg) ?_
      refine j_iload_n dX5_goes_142 rfl ?_
      refine j_iconst (v := 3) dX5_goes_143 (by decide) ?_
      refine j_icmp_ne dX5_goes_144 (tgt := 153) rfl (fun c3 => ?_) (fun c3 => ?_)
      · refine j_sipush (v := 202) dX5_goes_153 (by decide) ?_
        refine j_iload_n dX5_goes_156 rfl ?_
        refine j_iadd dX5_goes_157 ?_
        refine j_dup2 dX5_goes_158 rfl rfl ?_
        refine s_ald (202 + how) dX5_goes_159 (by first | rfl | (simp only [z_n, pk_mul, nI_add]; done) | (simp only [z_n, pk_mul, nI_add]; exact pk_sub (by omega)) | (simp only [z_n, pk_mul, nI_add, pk_sub, *]; done)) (by first | decide | omega) ?_
        refine j_iconst (v := 1) dX5_goes_160 (by decide) ?_
        refine j_iadd dX5_goes_161 ?_
        refine s_ast (202 + how) dX5_goes_162 (by first | rfl | (simp only [z_n, pk_mul, nI_add]; done) | (simp only [z_n, pk_mul, nI_add]; exact pk_sub (by omega)) | (simp only [z_n, pk_mul, nI_add, pk_sub, *]; done)) (by first | decide | omega) ?_
        refine j_aload_n dX5_goes_163 rfl ?_
        refine j_get (v := .ref 216) dX5_goes_164 fX5_7 rfl (by decide) (gS_p0 hg) ?_
        refine j_sipush (v := 148) dX5_goes_167 (by decide) ?_
        refine j_iconst (v := 0) dX5_goes_170 (by decide) ?_
        refine s_ast 148 dX5_goes_171 (rfl) (by first | decide | omega) ?_
        refine j_vret dX5_goes_172 rfl ?_
        exact hQ _ _ (z_pn ((if_pos c2).trans ((if_neg c3).trans (rfl))))
      · refine j_sipush (v := 211) dX5_goes_147 (by decide) ?_
        refine j_goto dX5_goes_150 (tgt := 158) rfl ?_
        refine j_dup2 dX5_goes_158 rfl rfl ?_
        refine s_ald 211 dX5_goes_159 (rfl) (by first | decide | omega) ?_
        refine j_iconst (v := 1) dX5_goes_160 (by decide) ?_
        refine j_iadd dX5_goes_161 ?_
        refine s_ast 211 dX5_goes_162 (rfl) (by first | decide | omega) ?_
        refine j_aload_n dX5_goes_163 rfl ?_
        refine j_get (v := .ref 216) dX5_goes_164 fX5_7 rfl (by decide) (gS_p0 hg) ?_
        refine j_sipush (v := 148) dX5_goes_167 (by decide) ?_
        refine j_iconst (v := 0) dX5_goes_170 (by decide) ?_
        refine s_ast 148 dX5_goes_171 (rfl) (by first | decide | omega) ?_
        refine j_vret dX5_goes_172 rfl ?_
        exact hQ _ _ (z_pn ((if_pos c2).trans ((if_pos c3).trans (rfl))))
    · refine j_iconst (v := 1) dX5_goes_131 (by decide) ?_
      refine j_goto dX5_goes_132 (tgt := 136) rfl ?_
      refine j_iadd dX5_goes_136 ?_
      refine s_ast 210 dX5_goes_137 (rfl) (by first | decide | omega) ?_
      refine j_aload_n dX5_goes_138 rfl ?_
      refine j_get (v := .ref 216) dX5_goes_139 fX5_7 rfl (by decide) (gS_p0 hg) ?_
      refine j_iload_n dX5_goes_142 rfl ?_
      refine j_iconst (v := 3) dX5_goes_143 (by decide) ?_
      refine j_icmp_ne dX5_goes_144 (tgt := 153) rfl (fun c4 => ?_) (fun c4 => ?_)
      · refine j_sipush (v := 202) dX5_goes_153 (by decide) ?_
        refine j_iload_n dX5_goes_156 rfl ?_
        refine j_iadd dX5_goes_157 ?_
        refine j_dup2 dX5_goes_158 rfl rfl ?_
        refine s_ald (202 + how) dX5_goes_159 (by first | rfl | (simp only [z_n, pk_mul, nI_add]; done) | (simp only [z_n, pk_mul, nI_add]; exact pk_sub (by omega)) | (simp only [z_n, pk_mul, nI_add, pk_sub, *]; done)) (by first | decide | omega) ?_
        refine j_iconst (v := 1) dX5_goes_160 (by decide) ?_
        refine j_iadd dX5_goes_161 ?_
        refine s_ast (202 + how) dX5_goes_162 (by first | rfl | (simp only [z_n, pk_mul, nI_add]; done) | (simp only [z_n, pk_mul, nI_add]; exact pk_sub (by omega)) | (simp only [z_n, pk_mul, nI_add, pk_sub, *]; done)) (by first | decide | omega) ?_
        refine j_aload_n dX5_goes_163 rfl ?_
        refine j_get (v := .ref 216) dX5_goes_164 fX5_7 rfl (by decide) (gS_p0 hg) ?_
        refine j_sipush (v := 148) dX5_goes_167 (by decide) ?_
        refine j_iconst (v := 0) dX5_goes_170 (by decide) ?_
        refine s_ast 148 dX5_goes_171 (rfl) (by first | decide | omega) ?_
        refine j_vret dX5_goes_172 rfl ?_
        exact hQ _ _ (z_pn ((if_neg c2).trans ((if_neg c4).trans (rfl))))
      · refine j_sipush (v := 211) dX5_goes_147 (by decide) ?_
        refine j_goto dX5_goes_150 (tgt := 158) rfl ?_
        refine j_dup2 dX5_goes_158 rfl rfl ?_
        refine s_ald 211 dX5_goes_159 (rfl) (by first | decide | omega) ?_
        refine j_iconst (v := 1) dX5_goes_160 (by decide) ?_
        refine j_iadd dX5_goes_161 ?_
        refine s_ast 211 dX5_goes_162 (rfl) (by first | decide | omega) ?_
        refine j_aload_n dX5_goes_163 rfl ?_
        refine j_get (v := .ref 216) dX5_goes_164 fX5_7 rfl (by decide) (gS_p0 hg) ?_
        refine j_sipush (v := 148) dX5_goes_167 (by decide) ?_
        refine j_iconst (v := 0) dX5_goes_170 (by decide) ?_
        refine s_ast 148 dX5_goes_171 (rfl) (by first | decide | omega) ?_
        refine j_vret dX5_goes_172 rfl ?_
        exact hQ _ _ (z_pn ((if_neg c2).trans ((if_pos c4).trans (rfl))))
  | succ n ih =>
    intro k hk hn hQ
    refine j_iload_n dX5_goes_3 rfl ?_
    refine j_iconst (v := 5) dX5_goes_4 (by decide) ?_
    refine j_icmp_lt dX5_goes_5 (tgt := 36) rfl (fun c1 => absurd c1 (show ¬ nI k < nI 5 from nI_nlt (by omega) (by omega))) (fun _ => ?_)
    refine j_aload_n dX5_goes_8 rfl ?_
    refine j_get (v := .ref 216) dX5_goes_9 fX5_7 rfl (by decide) (gS_p0 hg) ?_
    refine j_sipush (v := 158) dX5_goes_12 (by decide) ?_
    refine j_iload_n dX5_goes_15 rfl ?_
    refine j_iadd dX5_goes_16 ?_
    refine j_aload_n dX5_goes_17 rfl ?_
    refine j_get (v := .ref 216) dX5_goes_18 fX5_7 rfl (by decide) (gS_p0 hg) ?_
    refine j_sipush (v := 158) dX5_goes_21 (by decide) ?_
    refine j_iload_n dX5_goes_24 rfl ?_
    refine j_iadd dX5_goes_25 ?_
    refine j_iconst (v := 5) dX5_goes_26 (by decide) ?_
    refine j_isub dX5_goes_27 ?_
    refine s_ald ((158 + k) - 5) dX5_goes_28 (by first | rfl | (simp only [z_n, pk_mul, nI_add]; done) | (simp only [z_n, pk_mul, nI_add]; exact pk_sub (by omega)) | (simp only [z_n, pk_mul, nI_add, pk_sub, *]; done)) (by first | decide | omega) ?_
    refine s_ast (158 + k) dX5_goes_29 (by first | rfl | (simp only [z_n, pk_mul, nI_add]; done) | (simp only [z_n, pk_mul, nI_add]; exact pk_sub (by omega)) | (simp only [z_n, pk_mul, nI_add, pk_sub, *]; done)) (by first | decide | omega) ?_
    refine j_iinc (v := nI (k - 1)) dX5_goes_30 rfl (z_dec (by omega)) (by decide) ?_
    refine j_goto dX5_goes_33 (tgt := 3) rfl ?_
    rw [aShf_up (by omega) (by omega)]
    exact ih (k - 1) (by omega) (by omega) hQ
set_option maxRecDepth 4000 in
set_option maxHeartbeats 1000000 in
theorem s_goes {g : zH} {s : Nat → Int32} (hg : gP g) (how : Nat) (hh : how ≤ 3) : zCT mX5_goes [.ref 215, .int (nI how)] 222 (gS g s) 222 (fun r h' => r = none ∧ h' = gS g (aGo s how)) := by
  intro X Q hQ
  show zJ X mX5_goes 222 0 [.ref 215, .int (nI how), .null] [] 222 (gS g s) Q
  refine j_bipush (v := 39) dX5_goes_0 (by decide) ?_
  refine j_istore_n dX5_goes_2 (by decide) ?_
  rw [← aShf_39 (s := s)]
  exact s_goes_lp hg how hh 35 39 (by omega) (by omega) hQ
def aC1 (s : Nat → Int32) (k : Nat) : Nat → Int32 :=
  let t := upd s (11 * k + 6) (s (11 * k + 6) + 1)
  upd t 206 (t 206 + 1)
def aC2 (t : Nat → Int32) (k : Nat) (c : Int32) : Nat → Int32 :=
  let t := upd t 151 (aAsk t)
  let t := upd t 152 (nI k + 1)
  let t := upd t 156 c
  let t := upd t 157 1
  let t := upd t 155 (t 155 + 1)
  let t := upd t 207 (t 207 + 1)
  upd t (11 * k + 7) (t (11 * k + 7) + 1)
def aC3 (t : Nat → Int32) : Nat → Int32 :=
  let t := upd t 153 (t 153 + 1)
  upd t 208 (t 208 + 1)
def aC4 (t : Nat → Int32) : Int32 × (Nat → Int32) := if t 153 < t 213 then (t 151, t) else (aGo t 1 151, aGo t 1)
def aC5 (t : Nat → Int32) (k : Nat) : Int32 × (Nat → Int32) := if t (11 * k + 4) ≤ t (11 * k + 3) then (t 151, t) else aC4 (aC3 t)
/-- a cough: the bid, 0 if it is none, and what is then -/
def aCgh (s : Nat → Int32) (k : Nat) (c : Int32) : Int32 × (Nat → Int32) := if aBar s k ≤ 0 then aC5 (aC2 (aC1 s k) k c) k else (0, aC1 s k)
set_option maxRecDepth 4000 in
set_option maxHeartbeats 1000000 in
theorem s_coughs {g : zH} {s : Nat → Int32} (hg : gP g) (k : Nat) (hk : k < 12) {c : Int32} : zCT mX5_coughs [.ref 215, .int (nI k), .int c] 222 (gS g s) 222 (fun r h' => r = some (aCgh s k c).1 ∧ h' = gS g (aCgh s k c).2) := by
  intro X Q hQ
  show zJ X mX5_coughs 222 0 [.ref 215, .int (nI k), .int c, .null] [] 222 (gS g s) Q
  refine j_aload_n dX5_coughs_0 rfl ?_
  refine j_iload_n dX5_coughs_1 rfl ?_
  refine k_callV1i dX5_coughs_2 vX5_coughs_53 (s_barred hg k (by omega)) rfl (by decide) rfl (Nat.le_of_ble_eq_true rfl) ⟨rfl, rfl⟩ rfl ?_
  rintro _ _ ⟨⟨⟩, rfl⟩
  refine j_istore_n dX5_coughs_5 (by decide) ?_
  refine j_aload_n dX5_coughs_6 rfl ?_
  refine j_iload_n dX5_coughs_7 rfl ?_
  refine j_bipush (v := 6) dX5_coughs_8 (by decide) ?_
  refine j_iconst (v := 1) dX5_coughs_10 (by decide) ?_
  refine k_callV3v dX5_coughs_11 vX5_coughs_56 (s_adds hg k 6 (by omega) (by omega)) rfl (by decide) rfl rfl rfl (Nat.le_of_ble_eq_true rfl) ⟨rfl, rfl⟩ rfl ?_
  rintro _ ⟨-, rfl⟩
  refine j_aload_n dX5_coughs_14 rfl ?_
  refine j_get (v := .ref 216) dX5_coughs_15 fX5_7 rfl (by decide) (gS_p0 hg) ?_
  refine j_sipush (v := 206) dX5_coughs_18 (by decide) ?_
  refine j_dup2 dX5_coughs_21 rfl rfl ?_
  refine s_ald 206 dX5_coughs_22 (rfl) (by first | decide | omega) ?_
  refine j_iconst (v := 1) dX5_coughs_23 (by decide) ?_
  refine j_iadd dX5_coughs_24 ?_
  refine s_ast 206 dX5_coughs_25 (rfl) (by first | decide | omega) ?_
  refine j_iload_n dX5_coughs_26 rfl ?_
  refine j_if_le dX5_coughs_27 (tgt := 32) rfl (fun c1 => ?_) (fun c1 => ?_)
  · refine j_aload_n dX5_coughs_32 rfl ?_
    refine j_get (v := .ref 216) dX5_coughs_33 fX5_7 rfl (by decide) (gS_p0 hg) ?_
    refine j_sipush (v := 151) dX5_coughs_36 (by decide) ?_
    refine j_aload_n dX5_coughs_39 rfl ?_
    refine k_callV0i dX5_coughs_40 vX5_coughs_49 (s_asked hg) rfl (by decide)  (Nat.le_of_ble_eq_true rfl) ⟨rfl, rfl⟩ rfl ?_
    rintro _ _ ⟨⟨⟩, rfl⟩
    refine s_ast 151 dX5_coughs_43 (rfl) (by first | decide | omega) ?_
    refine j_aload_n dX5_coughs_44 rfl ?_
    refine j_get (v := .ref 216) dX5_coughs_45 fX5_7 rfl (by decide) (gS_p0 hg) ?_
    refine j_sipush (v := 152) dX5_coughs_48 (by decide) ?_
    refine j_iload_n dX5_coughs_51 rfl ?_
    refine j_iconst (v := 1) dX5_coughs_52 (by decide) ?_
    refine j_iadd dX5_coughs_53 ?_
    refine s_ast 152 dX5_coughs_54 (rfl) (by first | decide | omega) ?_
    refine j_aload_n dX5_coughs_55 rfl ?_
    refine j_get (v := .ref 216) dX5_coughs_56 fX5_7 rfl (by decide) (gS_p0 hg) ?_
    refine j_sipush (v := 156) dX5_coughs_59 (by decide) ?_
    refine j_iload_n dX5_coughs_62 rfl ?_
    refine s_ast 156 dX5_coughs_63 (rfl) (by first | decide | omega) ?_
    refine j_aload_n dX5_coughs_64 rfl ?_
    refine j_get (v := .ref 216) dX5_coughs_65 fX5_7 rfl (by decide) (gS_p0 hg) ?_
    refine j_sipush (v := 157) dX5_coughs_68 (by decide) ?_
    refine j_iconst (v := 1) dX5_coughs_71 (by decide) ?_
    refine s_ast 157 dX5_coughs_72 (rfl) (by first | decide | omega) ?_
    refine j_aload_n dX5_coughs_73 rfl ?_
    refine j_get (v := .ref 216) dX5_coughs_74 fX5_7 rfl (by decide) (gS_p0 hg) ?_
    refine j_sipush (v := 155) dX5_coughs_77 (by decide) ?_
    refine j_dup2 dX5_coughs_80 rfl rfl ?_
    refine s_ald 155 dX5_coughs_81 (rfl) (by first | decide | omega) ?_
    refine j_iconst (v := 1) dX5_coughs_82 (by decide) ?_
    refine j_iadd dX5_coughs_83 ?_
    refine s_ast 155 dX5_coughs_84 (rfl) (by first | decide | omega) ?_
    refine j_aload_n dX5_coughs_85 rfl ?_
    refine j_get (v := .ref 216) dX5_coughs_86 fX5_7 rfl (by decide) (gS_p0 hg) ?_
    refine j_sipush (v := 207) dX5_coughs_89 (by decide) ?_
    refine j_dup2 dX5_coughs_92 rfl rfl ?_
    refine s_ald 207 dX5_coughs_93 (rfl) (by first | decide | omega) ?_
    refine j_iconst (v := 1) dX5_coughs_94 (by decide) ?_
    refine j_iadd dX5_coughs_95 ?_
    refine s_ast 207 dX5_coughs_96 (rfl) (by first | decide | omega) ?_
    refine j_aload_n dX5_coughs_97 rfl ?_
    refine j_iload_n dX5_coughs_98 rfl ?_
    refine j_bipush (v := 7) dX5_coughs_99 (by decide) ?_
    refine j_iconst (v := 1) dX5_coughs_101 (by decide) ?_
    refine k_callV3v dX5_coughs_102 vX5_coughs_56 (s_adds hg k 7 (by omega) (by omega)) rfl (by decide) rfl rfl rfl (Nat.le_of_ble_eq_true rfl) ⟨rfl, rfl⟩ rfl ?_
    rintro _ ⟨-, rfl⟩
    refine j_aload_n dX5_coughs_105 rfl ?_
    refine j_iload_n dX5_coughs_106 rfl ?_
    refine j_iconst (v := 4) dX5_coughs_107 (by decide) ?_
    refine k_callV2i dX5_coughs_108 vX5_coughs_40 (s_of hg k 4 (by omega) (by omega)) rfl (by decide) rfl rfl (Nat.le_of_ble_eq_true rfl) ⟨rfl, rfl⟩ rfl ?_
    rintro _ _ ⟨⟨⟩, rfl⟩
    refine j_aload_n dX5_coughs_111 rfl ?_
    refine j_iload_n dX5_coughs_112 rfl ?_
    refine j_iconst (v := 3) dX5_coughs_113 (by decide) ?_
    refine k_callV2i dX5_coughs_114 vX5_coughs_40 (s_of hg k 3 (by omega) (by omega)) rfl (by decide) rfl rfl (Nat.le_of_ble_eq_true rfl) ⟨rfl, rfl⟩ rfl ?_
    rintro _ _ ⟨⟨⟩, rfl⟩
    refine j_icmp_le dX5_coughs_117 (tgt := 168) rfl (fun c2 => ?_) (fun c2 => ?_)
    · refine j_aload_n dX5_coughs_168 rfl ?_
      refine j_get (v := .ref 216) dX5_coughs_169 fX5_7 rfl (by decide) (gS_p0 hg) ?_
      refine j_sipush (v := 151) dX5_coughs_172 (by decide) ?_
      refine s_ald 151 dX5_coughs_175 (rfl) (by first | decide | omega) ?_
      refine j_iret dX5_coughs_176 rfl (rfl) ?_
      exact hQ _ _ (z_pr ((if_pos c1).trans ((if_pos c2).trans (rfl))))
    · refine j_aload_n dX5_coughs_120 rfl ?_
      refine j_get (v := .ref 216) dX5_coughs_121 fX5_7 rfl (by decide) (gS_p0 hg) ?_
      refine j_sipush (v := 153) dX5_coughs_124 (by decide) ?_
      refine j_dup2 dX5_coughs_127 rfl rfl ?_
      refine s_ald 153 dX5_coughs_128 (rfl) (by first | decide | omega) ?_
      refine j_iconst (v := 1) dX5_coughs_129 (by decide) ?_
      refine j_iadd dX5_coughs_130 ?_
      refine s_ast 153 dX5_coughs_131 (rfl) (by first | decide | omega) ?_
      refine j_aload_n dX5_coughs_132 rfl ?_
      refine j_get (v := .ref 216) dX5_coughs_133 fX5_7 rfl (by decide) (gS_p0 hg) ?_
      refine j_sipush (v := 208) dX5_coughs_136 (by decide) ?_
      refine j_dup2 dX5_coughs_139 rfl rfl ?_
      refine s_ald 208 dX5_coughs_140 (rfl) (by first | decide | omega) ?_
      refine j_iconst (v := 1) dX5_coughs_141 (by decide) ?_
      refine j_iadd dX5_coughs_142 ?_
      refine s_ast 208 dX5_coughs_143 (rfl) (by first | decide | omega) ?_
      refine j_aload_n dX5_coughs_144 rfl ?_
      refine j_get (v := .ref 216) dX5_coughs_145 fX5_7 rfl (by decide) (gS_p0 hg) ?_
      refine j_sipush (v := 153) dX5_coughs_148 (by decide) ?_
      refine s_ald 153 dX5_coughs_151 (rfl) (by first | decide | omega) ?_
      refine j_aload_n dX5_coughs_152 rfl ?_
      refine j_get (v := .ref 216) dX5_coughs_153 fX5_7 rfl (by decide) (gS_p0 hg) ?_
      refine j_sipush (v := 213) dX5_coughs_156 (by decide) ?_
      refine s_ald 213 dX5_coughs_159 (rfl) (by first | decide | omega) ?_
      refine j_icmp_lt dX5_coughs_160 (tgt := 168) rfl (fun c3 => ?_) (fun c3 => ?_)
      · refine j_aload_n dX5_coughs_168 rfl ?_
        refine j_get (v := .ref 216) dX5_coughs_169 fX5_7 rfl (by decide) (gS_p0 hg) ?_
        refine j_sipush (v := 151) dX5_coughs_172 (by decide) ?_
        refine s_ald 151 dX5_coughs_175 (rfl) (by first | decide | omega) ?_
        refine j_iret dX5_coughs_176 rfl (rfl) ?_
        exact hQ _ _ (z_pr ((if_pos c1).trans ((if_neg c2).trans ((if_pos c3).trans (rfl)))))
      · refine j_aload_n dX5_coughs_163 rfl ?_
        refine j_iconst (v := 1) dX5_coughs_164 (by decide) ?_
        refine k_callV1v dX5_coughs_165 vX5_coughs_60 (s_goes hg 1 (by omega)) rfl (by decide) rfl (Nat.le_of_ble_eq_true rfl) ⟨rfl, rfl⟩ rfl ?_
        rintro _ ⟨-, rfl⟩
        refine j_aload_n dX5_coughs_168 rfl ?_
        refine j_get (v := .ref 216) dX5_coughs_169 fX5_7 rfl (by decide) (gS_p0 hg) ?_
        refine j_sipush (v := 151) dX5_coughs_172 (by decide) ?_
        refine s_ald 151 dX5_coughs_175 (rfl) (by first | decide | omega) ?_
        refine j_iret dX5_coughs_176 rfl (rfl) ?_
        exact hQ _ _ (z_pr ((if_pos c1).trans ((if_neg c2).trans ((if_neg c3).trans (rfl)))))
  · refine j_iconst (v := 0) dX5_coughs_30 (by decide) ?_
    refine j_iret dX5_coughs_31 rfl (rfl) ?_
    exact hQ _ _ (z_pr ((if_neg c1).trans (rfl)))
/-- does a bidder cough for a cold in the next beat -/
def aNext (s : Nat → Int32) (k : Nat) : Int32 := if s (11 * k + 4) ≤ 0 then 0 else if s 198 + nI k - (s 198 + nI k) / (7 - s (11 * k + 4)) * (7 - s (11 * k + 4)) = 0 then 1 else 0
set_option maxRecDepth 4000 in
set_option maxHeartbeats 1000000 in
theorem s_coughsNext {g : zH} {s : Nat → Int32} (hg : gP g) (k : Nat) (hk : k < 12) (hc : ¬ 7 - s (11 * k + 4) = 0) : zCT mX5_coughsNext [.ref 215, .int (nI k)] 222 (gS g s) 222 (fun r h' => r = some (aNext s k) ∧ h' = gS g s) := by
  intro X Q hQ
  show zJ X mX5_coughsNext 222 0 [.ref 215, .int (nI k), .null] [] 222 (gS g s) Q
  refine j_aload_n dX5_coughsNext_0 rfl ?_
  refine j_iload_n dX5_coughsNext_1 rfl ?_
  refine j_iconst (v := 4) dX5_coughsNext_2 (by decide) ?_
  refine k_callV2i dX5_coughsNext_3 vX5_coughsNext_40 (s_of hg k 4 (by omega) (by omega)) rfl (by decide) rfl rfl (Nat.le_of_ble_eq_true rfl) ⟨rfl, rfl⟩ rfl ?_
  rintro _ _ ⟨⟨⟩, rfl⟩
  refine j_istore_n dX5_coughsNext_6 (by decide) ?_
  refine j_iload_n dX5_coughsNext_7 rfl ?_
  refine j_if_le dX5_coughsNext_8 (tgt := 33) rfl (fun c1 => ?_) (fun c1 => ?_)
  · refine j_iconst (v := 0) dX5_coughsNext_33 (by decide) ?_
    refine j_iret dX5_coughsNext_34 rfl (rfl) ?_
    exact hQ _ _ (z_ps ((if_pos c1).trans (rfl)))
  · refine j_aload_n dX5_coughsNext_11 rfl ?_
    refine j_get (v := .ref 216) dX5_coughsNext_12 fX5_7 rfl (by decide) (gS_p0 hg) ?_
    refine j_sipush (v := 198) dX5_coughsNext_15 (by decide) ?_
    refine s_ald 198 dX5_coughsNext_18 (rfl) (by first | decide | omega) ?_
    refine j_iload_n dX5_coughsNext_19 rfl ?_
    refine j_iadd dX5_coughsNext_20 ?_
    refine j_bipush (v := 7) dX5_coughsNext_21 (by decide) ?_
    refine j_iload_n dX5_coughsNext_23 rfl ?_
    refine j_isub dX5_coughsNext_24 ?_
    refine j_irem dX5_coughsNext_25 (hc) ?_
    refine j_if_ne dX5_coughsNext_26 (tgt := 33) rfl (fun c2 => ?_) (fun c2 => ?_)
    · refine j_iconst (v := 0) dX5_coughsNext_33 (by decide) ?_
      refine j_iret dX5_coughsNext_34 rfl (rfl) ?_
      exact hQ _ _ (z_ps ((if_neg c1).trans ((if_neg c2).trans (rfl))))
    · refine j_iconst (v := 1) dX5_coughsNext_29 (by decide) ?_
      refine j_goto dX5_coughsNext_30 (tgt := 34) rfl ?_
      refine j_iret dX5_coughsNext_34 rfl (rfl) ?_
      exact hQ _ _ (z_ps ((if_neg c1).trans ((if_pos c2).trans (rfl))))
end
section
theorem upd_s {f : Nat → Int32} {k : Nat} {x : Int32} : upd f k x k = x := by simp [upd]
theorem upd_n {f : Nat → Int32} {k j : Nat} {x : Int32} (h : j ≠ k) : upd f k x j = f j := by simp [upd, h]
/-- whose the latest bid is -/
def aWho (s : Nat → Int32) : Nat := (s 152).toNatClampNeg - 1
def aWk (s : Nat → Int32) : Prop := aWho s < 12 ∧ (s 152 = 0 ∨ s 152 = nI (aWho s + 1))
theorem aWho_sub {s : Nat → Int32} (hw : aWk s) (h : ¬ s 152 = 0) : s 152 - 1 = nI (aWho s) := by
  rcases hw.2 with q | q
  · exact absurd q h
  · rw [q]
    exact nI_pred _
def aH1 (s : Nat → Int32) (j : Nat) : Nat → Int32 :=
  let t := upd s (11 * j + 2) (s (11 * j + 2) + (0 - s 151))
  let t := upd t (11 * j + 9) (t (11 * j + 9) + t 151)
  let t := upd t (11 * j + 8) (t (11 * j + 8) + 1)
  upd t 205 (t 205 + t 151)
def aHam (s : Nat → Int32) : Nat → Int32 := if s 152 = 0 then aGo s 2 else if s 156 = 1 then aGo s 3 else aGo (aH1 s (aWho s)) 0
set_option maxRecDepth 4000 in
set_option maxHeartbeats 1000000 in
theorem s_hammers {g : zH} {s : Nat → Int32} (hg : gP g) (hw : aWk s) : zCT mX5_hammers [.ref 215] 222 (gS g s) 222 (fun r h' => r = none ∧ h' = gS g (aHam s)) := by
  intro X Q hQ
  show zJ X mX5_hammers 222 0 [.ref 215, .null] [] 222 (gS g s) Q
  have hw1 := hw.1
  refine j_aload_n dX5_hammers_0 rfl ?_
  refine j_get (v := .ref 216) dX5_hammers_1 fX5_7 rfl (by decide) (gS_p0 hg) ?_
  refine j_sipush (v := 152) dX5_hammers_4 (by decide) ?_
  refine s_ald 152 dX5_hammers_7 (rfl) (by first | decide | omega) ?_
  refine j_if_ne dX5_hammers_8 (tgt := 19) rfl (fun c1 => ?_) (fun c1 => ?_)
  · refine j_aload_n dX5_hammers_19 rfl ?_
    refine j_get (v := .ref 216) dX5_hammers_20 fX5_7 rfl (by decide) (gS_p0 hg) ?_
    refine j_sipush (v := 156) dX5_hammers_23 (by decide) ?_
    refine s_ald 156 dX5_hammers_26 (rfl) (by first | decide | omega) ?_
    refine j_iconst (v := 1) dX5_hammers_27 (by decide) ?_
    refine j_icmp_ne dX5_hammers_28 (tgt := 39) rfl (fun c2 => ?_) (fun c2 => ?_)
    · refine j_aload_n dX5_hammers_39 rfl ?_
      refine j_get (v := .ref 216) dX5_hammers_40 fX5_7 rfl (by decide) (gS_p0 hg) ?_
      refine j_sipush (v := 152) dX5_hammers_43 (by decide) ?_
      refine s_ald 152 dX5_hammers_46 (rfl) (by first | decide | omega) ?_
      refine j_iconst (v := 1) dX5_hammers_47 (by decide) ?_
      refine j_isub dX5_hammers_48 ?_
      rw [aWho_sub hw c1]
      refine j_istore_n dX5_hammers_49 (by decide) ?_
      refine j_aload_n dX5_hammers_50 rfl ?_
      refine j_iload_n dX5_hammers_51 rfl ?_
      refine j_iconst (v := 2) dX5_hammers_52 (by decide) ?_
      refine j_aload_n dX5_hammers_53 rfl ?_
      refine j_get (v := .ref 216) dX5_hammers_54 fX5_7 rfl (by decide) (gS_p0 hg) ?_
      refine j_sipush (v := 151) dX5_hammers_57 (by decide) ?_
      refine s_ald 151 dX5_hammers_60 (rfl) (by first | decide | omega) ?_
      refine j_ineg dX5_hammers_61 ?_
      refine k_callV3v dX5_hammers_62 vX5_hammers_56 (s_adds hg (aWho s) 2 (by omega) (by omega)) rfl (by decide) rfl rfl rfl (Nat.le_of_ble_eq_true rfl) ⟨rfl, rfl⟩ rfl ?_
      rintro _ ⟨-, rfl⟩
      refine j_aload_n dX5_hammers_65 rfl ?_
      refine j_iload_n dX5_hammers_66 rfl ?_
      refine j_bipush (v := 9) dX5_hammers_67 (by decide) ?_
      refine j_aload_n dX5_hammers_69 rfl ?_
      refine j_get (v := .ref 216) dX5_hammers_70 fX5_7 rfl (by decide) (gS_p0 hg) ?_
      refine j_sipush (v := 151) dX5_hammers_73 (by decide) ?_
      refine s_ald 151 dX5_hammers_76 (rfl) (by first | decide | omega) ?_
      refine k_callV3v dX5_hammers_77 vX5_hammers_56 (s_adds hg (aWho s) 9 (by omega) (by omega)) rfl (by decide) rfl rfl rfl (Nat.le_of_ble_eq_true rfl) ⟨rfl, rfl⟩ rfl ?_
      rintro _ ⟨-, rfl⟩
      refine j_aload_n dX5_hammers_80 rfl ?_
      refine j_iload_n dX5_hammers_81 rfl ?_
      refine j_bipush (v := 8) dX5_hammers_82 (by decide) ?_
      refine j_iconst (v := 1) dX5_hammers_84 (by decide) ?_
      refine k_callV3v dX5_hammers_85 vX5_hammers_56 (s_adds hg (aWho s) 8 (by omega) (by omega)) rfl (by decide) rfl rfl rfl (Nat.le_of_ble_eq_true rfl) ⟨rfl, rfl⟩ rfl ?_
      rintro _ ⟨-, rfl⟩
      refine j_aload_n dX5_hammers_88 rfl ?_
      refine j_get (v := .ref 216) dX5_hammers_89 fX5_7 rfl (by decide) (gS_p0 hg) ?_
      refine j_sipush (v := 205) dX5_hammers_92 (by decide) ?_
      refine j_dup2 dX5_hammers_95 rfl rfl ?_
      refine s_ald 205 dX5_hammers_96 (rfl) (by first | decide | omega) ?_
      refine j_aload_n dX5_hammers_97 rfl ?_
      refine j_get (v := .ref 216) dX5_hammers_98 fX5_7 rfl (by decide) (gS_p0 hg) ?_
      refine j_sipush (v := 151) dX5_hammers_101 (by decide) ?_
      refine s_ald 151 dX5_hammers_104 (rfl) (by first | decide | omega) ?_
      refine j_iadd dX5_hammers_105 ?_
      refine s_ast 205 dX5_hammers_106 (rfl) (by first | decide | omega) ?_
      refine j_aload_n dX5_hammers_107 rfl ?_
      refine j_iconst (v := 0) dX5_hammers_108 (by decide) ?_
      refine k_callV1v dX5_hammers_109 vX5_hammers_60 (s_goes hg 0 (by omega)) rfl (by decide) rfl (Nat.le_of_ble_eq_true rfl) ⟨rfl, rfl⟩ rfl ?_
      rintro _ ⟨-, rfl⟩
      refine j_vret dX5_hammers_112 rfl ?_
      exact hQ _ _ (z_pn ((if_neg c1).trans ((if_neg c2).trans (rfl))))
    · refine j_aload_n dX5_hammers_31 rfl ?_
      refine j_iconst (v := 3) dX5_hammers_32 (by decide) ?_
      refine k_callV1v dX5_hammers_33 vX5_hammers_60 (s_goes hg 3 (by omega)) rfl (by decide) rfl (Nat.le_of_ble_eq_true rfl) ⟨rfl, rfl⟩ rfl ?_
      rintro _ ⟨-, rfl⟩
      refine j_goto dX5_hammers_36 (tgt := 112) rfl ?_
      refine j_vret dX5_hammers_112 rfl ?_
      exact hQ _ _ (z_pn ((if_neg c1).trans ((if_pos c2).trans (rfl))))
  · refine j_aload_n dX5_hammers_11 rfl ?_
    refine j_iconst (v := 2) dX5_hammers_12 (by decide) ?_
    refine k_callV1v dX5_hammers_13 vX5_hammers_60 (s_goes hg 2 (by omega)) rfl (by decide) rfl (Nat.le_of_ble_eq_true rfl) ⟨rfl, rfl⟩ rfl ?_
    rintro _ ⟨-, rfl⟩
    refine j_goto dX5_hammers_16 (tgt := 112) rfl ?_
    refine j_vret dX5_hammers_112 rfl ?_
    exact hQ _ _ (z_pn ((if_pos c1).trans (rfl)))
def aBf (t : Nat → Int32) : Nat → Int32 := if upd t 157 0 154 < upd t 157 0 214 then upd t 157 0 else aHam (upd t 157 0)
def aBg (t : Nat → Int32) : Nat → Int32 := if t 148 = 1 then (if t 157 = 1 then aBf (upd t 154 0) else aBf (upd t 154 (t 154 + 1))) else t
/-- a beat's end: it is counted, the hush, the hammer -/
def aBe (s : Nat → Int32) : Nat → Int32 := aBg (upd s 198 (s 198 + 1))
/-- coughs for a cold, of n bidders from k on -/
def aBt : Nat → Nat → Int32 → (Nat → Int32) → (Nat → Int32)
  | 0, _, _, s => s
  | n + 1, k, u, s => if u = 0 then s else if aNext s k = 0 then aBt n (k + 1) u s else if (aCgh s k 1).1 < 0 then aBt n (k + 1) 0 (aCgh s k 1).2 else aBt n (k + 1) 1 (aCgh s k 1).2
def aBeat (s : Nat → Int32) (N : Nat) : Nat → Int32 := if s 148 = 1 then aBe (aBt N 0 1 s) else aBe (aBt N 0 0 s)
/-- what the beats need of the array: how many bidders, no cold of 7, whose the latest bid is -/
def aOk (s : Nat → Int32) (N : Nat) : Prop := s 199 = nI N ∧ N ≤ 12 ∧ (∀ k, k < 12 → ¬ 7 - s (11 * k + 4) = 0) ∧ aWk s
theorem aShf_lo {s : Nat → Int32} {k j : Nat} (h : j ≤ 158 ∨ 198 ≤ j) : aShf s k j = s j := by
  unfold aShf
  rw [if_neg (by omega)]
theorem aGo_n {s : Nat → Int32} {how j : Nat} (hh : how ≤ 3) (h1 : j < 158 ∨ 198 ≤ j) (h2 : j ≠ 148) (h3 : j < 202 ∨ 205 < j) (h4 : j ≠ 210 ∧ j ≠ 211) : aGo s how j = s j := by
  have e1 : aGo1 (aShf s 4) how j = s j := by
    unfold aGo1
    rw [upd_n (by omega), upd_n (by omega), upd_n (by omega), upd_n (by omega), upd_n (by omega), aShf_lo (by omega)]
  have e3 : ∀ t : Nat → Int32, aGo3 t how j = t j := by
    intro t
    unfold aGo3
    split
    · rw [upd_n (by omega), upd_n (by omega)]
    · rw [upd_n (by omega), upd_n (by omega)]
  unfold aGo aGo2
  split
  · rw [e3, upd_n (by omega), e1]
  · rw [e3, upd_n (by omega), e1]
theorem aC1_n {s : Nat → Int32} {k j : Nat} (h : j ≠ 11 * k + 6) (h2 : j ≠ 206) : aC1 s k j = s j := by
  unfold aC1
  rw [upd_n (by omega), upd_n (by omega)]
theorem aC2_n {s : Nat → Int32} {k j : Nat} {c : Int32} (h : j ≠ 11 * k + 7) (h1 : j ≠ 151) (h2 : j < 155 ∨ 157 < j) (h3 : j ≠ 207) (h4 : j ≠ 152) : aC2 s k c j = s j := by
  unfold aC2
  rw [upd_n (by omega), upd_n (by omega), upd_n (by omega), upd_n (by omega), upd_n (by omega), upd_n (by omega), upd_n (by omega)]
theorem aC2_152 {s : Nat → Int32} {k : Nat} {c : Int32} (hk : k < 12) : aC2 s k c 152 = nI k + 1 := by
  unfold aC2
  rw [upd_n (by omega), upd_n (by omega), upd_n (by omega), upd_n (by omega), upd_n (by omega), upd_s]
theorem aC3_n {s : Nat → Int32} {j : Nat} (h : j ≠ 153) (h2 : j ≠ 208) : aC3 s j = s j := by
  unfold aC3
  rw [upd_n (by omega), upd_n (by omega)]
theorem aC4_n {s : Nat → Int32} {j : Nat} (h1 : j < 158 ∨ 198 ≤ j) (h2 : j ≠ 148) (h3 : j < 202 ∨ 205 < j) (h4 : j ≠ 210 ∧ j ≠ 211) : (aC4 s).2 j = s j := by
  unfold aC4
  split
  · rfl
  · exact aGo_n (by omega) h1 h2 h3 h4
theorem aC5_n {s : Nat → Int32} {k j : Nat} (h1 : j < 158 ∨ 198 ≤ j) (h2 : j ≠ 148) (h3 : j < 202 ∨ 205 < j) (h4 : j ≠ 210 ∧ j ≠ 211) (h5 : j ≠ 153) (h6 : j ≠ 208) : (aC5 s k).2 j = s j := by
  unfold aC5
  split
  · rfl
  · rw [aC4_n h1 h2 h3 h4, aC3_n h5 h6]
theorem aCgh_n {s : Nat → Int32} {k j : Nat} {c : Int32} (h1 : j < 148 ∨ 198 ≤ j) (h3 : j < 202 ∨ 208 < j) (h4 : j ≠ 210 ∧ j ≠ 211) (h5 : j ≠ 11 * k + 6) (h6 : j ≠ 11 * k + 7) : (aCgh s k c).2 j = s j := by
  unfold aCgh
  split
  · rw [aC5_n (by omega) (by omega) (by omega) h4 (by omega) (by omega), aC2_n h6 (by omega) (by omega) (by omega) (by omega), aC1_n h5 (by omega)]
  · exact aC1_n h5 (by omega)
theorem aCgh_152 {s : Nat → Int32} {k : Nat} {c : Int32} (hk : k < 12) : (aCgh s k c).2 152 = nI (k + 1) ∨ (aCgh s k c).2 152 = s 152 := by
  unfold aCgh
  split
  · left
    rw [aC5_n (by omega) (by omega) (by omega) (by omega) (by omega) (by omega), aC2_152 hk]
    exact nI_1 k
  · right
    exact aC1_n (j := 152) (k := k) (by omega) (by omega)
theorem aWk_of {s t : Nat → Int32} (hw : aWk s) (h : t 152 = s 152) : aWk t := by
  unfold aWk aWho at hw ⊢
  rw [h]
  exact hw
theorem aWk_k {t : Nat → Int32} {k : Nat} (hk : k < 12) (h : t 152 = nI (k + 1)) : aWk t := by
  unfold aWk aWho
  rw [h, nI_clamp (by omega)]
  exact ⟨by omega, Or.inr rfl⟩
theorem aOk_cgh {s : Nat → Int32} {N k : Nat} {c : Int32} (h : aOk s N) (hk : k < 12) : aOk (aCgh s k c).2 N := by
  refine ⟨?_, h.2.1, fun j hj => ?_, ?_⟩
  · rw [aCgh_n (by omega) (by omega) (by omega) (by omega) (by omega)]
    exact h.1
  · rw [aCgh_n (by omega) (by omega) (by omega) (by omega) (by omega)]
    exact h.2.2.1 j hj
  · rcases aCgh_152 (s := s) (c := c) hk with q | q
    · exact aWk_k hk q
    · exact aWk_of h.2.2.2 q
theorem aOk_bt : ∀ (n k : Nat) (u : Int32) (s : Nat → Int32) (N : Nat), k + n ≤ 12 → aOk s N → aOk (aBt n k u s) N
  | 0, _, _, _, _, _, h => h
  | n + 1, k, u, s, N, hk, h => by
    unfold aBt
    split
    · exact h
    · split
      · exact aOk_bt n (k + 1) u s N (by omega) h
      · split
        · exact aOk_bt n (k + 1) 0 _ N (by omega) (aOk_cgh h (by omega))
        · exact aOk_bt n (k + 1) 1 _ N (by omega) (aOk_cgh h (by omega))
theorem aHam_n {s : Nat → Int32} {j : Nat} (hw : aWk s) (h1 : j < 158 ∨ 198 ≤ j) (h2 : j ≠ 148) (h3 : j < 202 ∨ 205 < j) (h4 : j ≠ 210 ∧ j ≠ 211) (h5 : j ≠ 11 * aWho s + 2 ∧ j ≠ 11 * aWho s + 9 ∧ j ≠ 11 * aWho s + 8) : aHam s j = s j := by
  unfold aHam
  split
  · exact aGo_n (by omega) h1 h2 h3 h4
  · split
    · exact aGo_n (by omega) h1 h2 h3 h4
    · rw [aGo_n (by omega) h1 h2 h3 h4]
      unfold aH1
      rw [upd_n (by omega), upd_n (by omega), upd_n (by omega), upd_n (by omega)]
theorem aBe_n {s : Nat → Int32} {j : Nat} (hw : aWk s) (h1 : j < 148 ∨ 199 ≤ j ∨ j = 152) (h3 : j < 202 ∨ 205 < j) (h4 : j ≠ 210 ∧ j ≠ 211) (h5 : j ≠ 11 * aWho s + 2 ∧ j ≠ 11 * aWho s + 9 ∧ j ≠ 11 * aWho s + 8) : aBe s j = s j := by
  have e : ∀ t : Nat → Int32, t j = s j → t 152 = s 152 → aBf t j = s j := by
    intro t h6 h7
    have h8 : upd t 157 0 152 = s 152 := by rw [upd_n (by omega), h7]
    have h9 : aWho (upd t 157 0) = aWho s := by unfold aWho; rw [h8]
    unfold aBf
    split
    · rw [upd_n (by omega), h6]
    · rw [aHam_n (aWk_of hw h8) (by omega) (by omega) h3 h4 (by rw [h9]; exact h5), upd_n (by omega), h6]
  unfold aBe aBg
  split
  · split
    · exact e _ (by rw [upd_n (by omega), upd_n (by omega)]) (by rw [upd_n (by omega), upd_n (by omega)])
    · exact e _ (by rw [upd_n (by omega), upd_n (by omega)]) (by rw [upd_n (by omega), upd_n (by omega)])
  · rw [upd_n (by omega)]
theorem aOk_be {s : Nat → Int32} {N : Nat} (h : aOk s N) : aOk (aBe s) N := by
  have hw := h.2.2.2
  refine ⟨?_, h.2.1, fun j hj => ?_, aWk_of hw (aBe_n (j := 152) hw (by decide) (by decide) (by decide) (by have := hw.1; omega))⟩
  · rw [aBe_n hw (by omega) (by omega) (by omega) (by have := hw.1; omega)]
    exact h.1
  · rw [aBe_n hw (by omega) (by omega) (by omega) (by omega)]
    exact h.2.2.1 j hj
theorem aOk_beat {s : Nat → Int32} {N : Nat} (h : aOk s N) : aOk (aBeat s N) N := by
  have := h.2.1
  unfold aBeat
  split
  · exact aOk_be (aOk_bt N 0 1 s N (by omega) h)
  · exact aOk_be (aOk_bt N 0 0 s N (by omega) h)
set_option maxRecDepth 4000 in
set_option maxHeartbeats 2000000 in
theorem s_beat_end {g : zH} {s : Nat → Int32} (hg : gP g) (hw : aWk s) {v1 v2 v3 : Value} {X : Nat × (Nat → Int32)} {Q : zQt} (hQ : ∀ r h', r = none ∧ h' = gS g (aBe s) → Q r 222 h') : zJ X mX5_beat 222 67 [.ref 215, v1, v2, v3] [] 222 (gS g s) Q := by
  refine j_aload_n dX5_beat_67 rfl ?_
  refine j_get (v := .ref 216) dX5_beat_68 fX5_7 rfl (by decide) (gS_p0 hg) ?_
  refine j_sipush (v := 198) dX5_beat_71 (by decide) ?_
  refine j_dup2 dX5_beat_74 rfl rfl ?_
  refine s_ald 198 dX5_beat_75 (rfl) (by first | decide | omega) ?_
  refine j_iconst (v := 1) dX5_beat_76 (by decide) ?_
  refine j_iadd dX5_beat_77 ?_
  refine s_ast 198 dX5_beat_78 (rfl) (by first | decide | omega) ?_
  refine j_aload_n dX5_beat_79 rfl ?_
  refine j_get (v := .ref 216) dX5_beat_80 fX5_7 rfl (by decide) (gS_p0 hg) ?_
  refine j_sipush (v := 148) dX5_beat_83 (by decide) ?_
  refine s_ald 148 dX5_beat_86 (rfl) (by first | decide | omega) ?_
  refine j_iconst (v := 1) dX5_beat_87 (by decide) ?_
  refine j_icmp_ne dX5_beat_88 (tgt := 157) rfl (fun c1 => ?_) (fun c1 => ?_)
  · refine j_vret dX5_beat_157 rfl ?_
    exact hQ _ _ (z_pn ((if_neg c1).trans (rfl)))
  · refine j_aload_n dX5_beat_91 rfl ?_
    refine j_get (v := .ref 216) dX5_beat_92 fX5_7 rfl (by decide) (gS_p0 hg) ?_
    refine j_sipush (v := 154) dX5_beat_95 (by decide) ?_
    refine j_aload_n dX5_beat_98 rfl ?_
    refine j_get (v := .ref 216) dX5_beat_99 fX5_7 rfl (by decide) (gS_p0 hg) ?_
    refine j_sipush (v := 157) dX5_beat_102 (by decide) ?_
    refine s_ald 157 dX5_beat_105 (rfl) (by first | decide | omega) ?_
    refine j_iconst (v := 1) dX5_beat_106 (by decide) ?_
    refine j_icmp_ne dX5_beat_107 (tgt := 114) rfl (fun c2 => ?_) (fun c2 => ?_)
    · refine j_aload_n dX5_beat_114 rfl ?_
      refine j_get (v := .ref 216) dX5_beat_115 fX5_7 rfl (by decide) (gS_p0 hg) ?_
      refine j_sipush (v := 154) dX5_beat_118 (by decide) ?_
      refine s_ald 154 dX5_beat_121 (rfl) (by first | decide | omega) ?_
      refine j_iconst (v := 1) dX5_beat_122 (by decide) ?_
      refine j_iadd dX5_beat_123 ?_
      refine s_ast 154 dX5_beat_124 (rfl) (by first | decide | omega) ?_
      refine j_aload_n dX5_beat_125 rfl ?_
      refine j_get (v := .ref 216) dX5_beat_126 fX5_7 rfl (by decide) (gS_p0 hg) ?_
      refine j_sipush (v := 157) dX5_beat_129 (by decide) ?_
      refine j_iconst (v := 0) dX5_beat_132 (by decide) ?_
      refine s_ast 157 dX5_beat_133 (rfl) (by first | decide | omega) ?_
      refine j_aload_n dX5_beat_134 rfl ?_
      refine j_get (v := .ref 216) dX5_beat_135 fX5_7 rfl (by decide) (gS_p0 hg) ?_
      refine j_sipush (v := 154) dX5_beat_138 (by decide) ?_
      refine s_ald 154 dX5_beat_141 (rfl) (by first | decide | omega) ?_
      refine j_aload_n dX5_beat_142 rfl ?_
      refine j_get (v := .ref 216) dX5_beat_143 fX5_7 rfl (by decide) (gS_p0 hg) ?_
      refine j_sipush (v := 214) dX5_beat_146 (by decide) ?_
      refine s_ald 214 dX5_beat_149 (rfl) (by first | decide | omega) ?_
      refine j_icmp_lt dX5_beat_150 (tgt := 157) rfl (fun c3 => ?_) (fun c3 => ?_)
      · refine j_vret dX5_beat_157 rfl ?_
        exact hQ _ _ (z_pn ((if_pos c1).trans ((if_neg c2).trans ((if_pos c3).trans (rfl)))))
      · refine j_aload_n dX5_beat_153 rfl ?_
        refine k_callV0v dX5_beat_154 vX5_beat_71 (s_hammers hg hw) rfl (by decide)  (Nat.le_of_ble_eq_true rfl) ⟨rfl, rfl⟩ rfl ?_
        rintro _ ⟨-, rfl⟩
        refine j_vret dX5_beat_157 rfl ?_
        exact hQ _ _ (z_pn ((if_pos c1).trans ((if_neg c2).trans ((if_neg c3).trans (rfl)))))
    · refine j_iconst (v := 0) dX5_beat_110 (by decide) ?_
      refine j_goto dX5_beat_111 (tgt := 124) rfl ?_
      refine s_ast 154 dX5_beat_124 (rfl) (by first | decide | omega) ?_
      refine j_aload_n dX5_beat_125 rfl ?_
      refine j_get (v := .ref 216) dX5_beat_126 fX5_7 rfl (by decide) (gS_p0 hg) ?_
      refine j_sipush (v := 157) dX5_beat_129 (by decide) ?_
      refine j_iconst (v := 0) dX5_beat_132 (by decide) ?_
      refine s_ast 157 dX5_beat_133 (rfl) (by first | decide | omega) ?_
      refine j_aload_n dX5_beat_134 rfl ?_
      refine j_get (v := .ref 216) dX5_beat_135 fX5_7 rfl (by decide) (gS_p0 hg) ?_
      refine j_sipush (v := 154) dX5_beat_138 (by decide) ?_
      refine s_ald 154 dX5_beat_141 (rfl) (by first | decide | omega) ?_
      refine j_aload_n dX5_beat_142 rfl ?_
      refine j_get (v := .ref 216) dX5_beat_143 fX5_7 rfl (by decide) (gS_p0 hg) ?_
      refine j_sipush (v := 214) dX5_beat_146 (by decide) ?_
      refine s_ald 214 dX5_beat_149 (rfl) (by first | decide | omega) ?_
      refine j_icmp_lt dX5_beat_150 (tgt := 157) rfl (fun c4 => ?_) (fun c4 => ?_)
      · refine j_vret dX5_beat_157 rfl ?_
        exact hQ _ _ (z_pn ((if_pos c1).trans ((if_pos c2).trans ((if_pos c4).trans (rfl)))))
      · refine j_aload_n dX5_beat_153 rfl ?_
        refine k_callV0v dX5_beat_154 vX5_beat_71 (s_hammers hg hw) rfl (by decide)  (Nat.le_of_ble_eq_true rfl) ⟨rfl, rfl⟩ rfl ?_
        rintro _ ⟨-, rfl⟩
        refine j_vret dX5_beat_157 rfl ?_
        exact hQ _ _ (z_pn ((if_pos c1).trans ((if_pos c2).trans ((if_neg c4).trans (rfl)))))
set_option maxRecDepth 4000 in
set_option maxHeartbeats 2000000 in
theorem s_beat_lp {g : zH} (hg : gP g) {N : Nat} (hN : N ≤ 12) {X : Nat × (Nat → Int32)} {Q : zQt} : ∀ (n k : Nat) (u : Int32) (s : Nat → Int32) (v3 : Value), k + n = N → aOk s N → (∀ r h', r = none ∧ h' = gS g (aBe (aBt n k u s)) → Q r 222 h') → zJ X mX5_beat 222 20 [.ref 215, .int u, .int (nI k), v3] [] 222 (gS g s) Q := by
  intro n
  induction n with
  | zero =>
    intro k u s v3 hk hok hQ
    refine j_iload_n dX5_beat_20 rfl ?_
    refine j_aload_n dX5_beat_21 rfl ?_
    refine j_get (v := .ref 216) dX5_beat_22 fX5_7 rfl (by decide) (gS_p0 hg) ?_
    refine j_sipush (v := 199) dX5_beat_25 (by decide) ?_
    refine s_ald 199 dX5_beat_28 (rfl) (by first | decide | omega) ?_
    refine j_icmp_ge dX5_beat_29 (tgt := 67) rfl (fun _ => ?_) (fun c1 => absurd (show s 199 ≤ nI k by rw [hok.1]; exact nI_le (by omega) (by have := hok.2.1; omega)) c1)
    exact s_beat_end hg hok.2.2.2 hQ
  | succ n ih =>
    intro k u s v3 hk hok hQ
    have hc := hok.2.2.1
    refine j_iload_n dX5_beat_20 rfl ?_
    refine j_aload_n dX5_beat_21 rfl ?_
    refine j_get (v := .ref 216) dX5_beat_22 fX5_7 rfl (by decide) (gS_p0 hg) ?_
    refine j_sipush (v := 199) dX5_beat_25 (by decide) ?_
    refine s_ald 199 dX5_beat_28 (rfl) (by first | decide | omega) ?_
    refine j_icmp_ge dX5_beat_29 (tgt := 67) rfl (fun c1 => absurd c1 (show ¬ s 199 ≤ nI k by rw [hok.1]; exact nI_ge (by omega) (by have := hok.2.1; omega))) (fun _ => ?_)
    refine j_iload_n dX5_beat_32 rfl ?_
    refine j_if_eq dX5_beat_33 (tgt := 67) rfl (fun c2 => ?_) (fun c2 => ?_)
    · exact s_beat_end hg hok.2.2.2 (fun r h' h => hQ r h' ⟨h.1, h.2.trans (congrArg (fun t => gS g (aBe t)) (((if_pos c2).trans (rfl) : aBt (n + 1) k u s = s).symm))⟩)
    · refine j_aload_n dX5_beat_36 rfl ?_
      refine j_iload_n dX5_beat_37 rfl ?_
      refine k_callV1i dX5_beat_38 vX5_beat_64 (s_coughsNext hg k (by omega) (hc _ (by omega))) rfl (by decide) rfl (Nat.le_of_ble_eq_true rfl) ⟨rfl, rfl⟩ rfl ?_
      rintro _ _ ⟨⟨⟩, rfl⟩
      refine j_if_eq dX5_beat_41 (tgt := 61) rfl (fun c3 => ?_) (fun c3 => ?_)
      · refine j_iinc (v := nI (k + 1)) dX5_beat_61 rfl z_inc (by decide) ?_
        refine j_goto dX5_beat_64 (tgt := 20) rfl ?_
        exact ih (k + 1) _ _ _ (by omega) (hok) (fun r h' h => hQ r h' ⟨h.1, h.2.trans (congrArg (fun t => gS g (aBe t)) (((if_neg c2).trans ((if_pos c3).trans (rfl)) : aBt (n + 1) k u s = aBt n (k + 1) _ _).symm))⟩)
      · refine j_aload_n dX5_beat_44 rfl ?_
        refine j_iload_n dX5_beat_45 rfl ?_
        refine j_iconst (v := 1) dX5_beat_46 (by decide) ?_
        refine k_callV2i dX5_beat_47 vX5_beat_68 (s_coughs hg k (by omega)) rfl (by decide) rfl rfl (Nat.le_of_ble_eq_true rfl) ⟨rfl, rfl⟩ rfl ?_
        rintro _ _ ⟨⟨⟩, rfl⟩
        refine j_istore_n dX5_beat_50 (by decide) ?_
        refine j_iload_n dX5_beat_51 rfl ?_
        refine j_if_lt dX5_beat_52 (tgt := 59) rfl (fun c4 => ?_) (fun c4 => ?_)
        · refine j_iconst (v := 0) dX5_beat_59 (by decide) ?_
          refine j_istore_n dX5_beat_60 (by decide) ?_
          refine j_iinc (v := nI (k + 1)) dX5_beat_61 rfl z_inc (by decide) ?_
          refine j_goto dX5_beat_64 (tgt := 20) rfl ?_
          exact ih (k + 1) _ _ _ (by omega) (aOk_cgh hok (by omega)) (fun r h' h => hQ r h' ⟨h.1, h.2.trans (congrArg (fun t => gS g (aBe t)) (((if_neg c2).trans ((if_neg c3).trans ((if_pos c4).trans (rfl))) : aBt (n + 1) k u s = aBt n (k + 1) _ _).symm))⟩)
        · refine j_iconst (v := 1) dX5_beat_55 (by decide) ?_
          refine j_goto dX5_beat_56 (tgt := 60) rfl ?_
          refine j_istore_n dX5_beat_60 (by decide) ?_
          refine j_iinc (v := nI (k + 1)) dX5_beat_61 rfl z_inc (by decide) ?_
          refine j_goto dX5_beat_64 (tgt := 20) rfl ?_
          exact ih (k + 1) _ _ _ (by omega) (aOk_cgh hok (by omega)) (fun r h' h => hQ r h' ⟨h.1, h.2.trans (congrArg (fun t => gS g (aBe t)) (((if_neg c2).trans ((if_neg c3).trans ((if_neg c4).trans (rfl))) : aBt (n + 1) k u s = aBt n (k + 1) _ _).symm))⟩)
set_option maxRecDepth 4000 in
set_option maxHeartbeats 1000000 in
theorem s_beat {g : zH} {s : Nat → Int32} (hg : gP g) {N : Nat} (hok : aOk s N) : zCT mX5_beat [.ref 215] 222 (gS g s) 222 (fun r h' => r = none ∧ h' = gS g (aBeat s N)) := by
  intro X Q hQ
  show zJ X mX5_beat 222 0 [.ref 215, .null, .null, .null] [] 222 (gS g s) Q
  refine j_aload_n dX5_beat_0 rfl ?_
  refine j_get (v := .ref 216) dX5_beat_1 fX5_7 rfl (by decide) (gS_p0 hg) ?_
  refine j_sipush (v := 148) dX5_beat_4 (by decide) ?_
  refine s_ald 148 dX5_beat_7 (rfl) (by first | decide | omega) ?_
  refine j_iconst (v := 1) dX5_beat_8 (by decide) ?_
  refine j_icmp_ne dX5_beat_9 (tgt := 16) rfl (fun c1 => ?_) (fun c1 => ?_)
  · refine j_iconst (v := 0) dX5_beat_16 (by decide) ?_
    refine j_istore_n dX5_beat_17 (by decide) ?_
    refine j_iconst (v := 0) dX5_beat_18 (by decide) ?_
    refine j_istore_n dX5_beat_19 (by decide) ?_
    exact s_beat_lp hg hok.2.1 N 0 _ s _ (by omega) hok (fun r h' h => hQ r h' ⟨h.1, h.2.trans (congrArg (gS g) (((if_neg c1).trans (rfl) : aBeat s N = aBe (aBt N 0 _ s)).symm))⟩)
  · refine j_iconst (v := 1) dX5_beat_12 (by decide) ?_
    refine j_goto dX5_beat_13 (tgt := 17) rfl ?_
    refine j_istore_n dX5_beat_17 (by decide) ?_
    refine j_iconst (v := 0) dX5_beat_18 (by decide) ?_
    refine j_istore_n dX5_beat_19 (by decide) ?_
    exact s_beat_lp hg hok.2.1 N 0 _ s _ (by omega) hok (fun r h' h => hQ r h' ⟨h.1, h.2.trans (congrArg (gS g) (((if_pos c1).trans (rfl) : aBeat s N = aBe (aBt N 0 _ s)).symm))⟩)
def aPass (N : Nat) : Nat → (Nat → Int32) → (Nat → Int32)
  | 0, s => s
  | n + 1, s => aPass N n (aBeat s N)
theorem aOk_pass {N : Nat} : ∀ (n : Nat) (s : Nat → Int32), aOk s N → aOk (aPass N n s) N
  | 0, _, h => h
  | n + 1, s, h => aOk_pass n _ (aOk_beat h)
def aGone (s : Nat → Int32) : Int32 := s 202 + s 203 + s 204 + s 211
set_option maxRecDepth 4000 in
set_option maxHeartbeats 2000000 in
theorem s_pass_lp {g : zH} (hg : gP g) {N m : Nat} (hm : m < 1000) {X : Nat × (Nat → Int32)} {Q : zQt} : ∀ (n k : Nat) (s : Nat → Int32), k + n = m → aOk s N → (∀ r h', r = none ∧ h' = gS g (aPass N n s) → Q r 222 h') → zJ X mX5_pass 222 2 [.ref 215, .int (nI m), .int (nI k)] [] 222 (gS g s) Q := by
  intro n
  induction n with
  | zero =>
    intro k s hk hok hQ
    refine j_iload_n dX5_pass_2 rfl ?_
    refine j_iload_n dX5_pass_3 rfl ?_
    refine j_icmp_ge dX5_pass_4 (tgt := 17) rfl (fun _ => ?_) (fun c1 => absurd (show nI m ≤ nI k from nI_le (by omega) (by omega)) c1)
    refine j_vret dX5_pass_17 rfl ?_
    exact hQ _ _ ⟨rfl, rfl⟩
  | succ n ih =>
    intro k s hk hok hQ
    refine j_iload_n dX5_pass_2 rfl ?_
    refine j_iload_n dX5_pass_3 rfl ?_
    refine j_icmp_ge dX5_pass_4 (tgt := 17) rfl (fun c1 => absurd c1 (show ¬ nI m ≤ nI k from nI_ge (by omega) (by omega))) (fun _ => ?_)
    refine j_aload_n dX5_pass_7 rfl ?_
    refine k_callV0v dX5_pass_8 vX5_pass_93 (s_beat hg hok) rfl (by decide)  (Nat.le_of_ble_eq_true rfl) ⟨rfl, rfl⟩ rfl ?_
    rintro _ ⟨-, rfl⟩
    refine j_iinc (v := nI (k + 1)) dX5_pass_11 rfl z_inc (by decide) ?_
    refine j_goto dX5_pass_14 (tgt := 2) rfl ?_
    exact ih (k + 1) _ (by omega) (aOk_beat hok) hQ
set_option maxRecDepth 4000 in
set_option maxHeartbeats 1000000 in
theorem s_pass {g : zH} {s : Nat → Int32} (hg : gP g) {N : Nat} (hok : aOk s N) (m : Nat) (hm : m < 1000) : zCT mX5_pass [.ref 215, .int (nI m)] 222 (gS g s) 222 (fun r h' => r = none ∧ h' = gS g (aPass N m s)) := by
  intro X Q hQ
  show zJ X mX5_pass 222 0 [.ref 215, .int (nI m), .null] [] 222 (gS g s) Q
  refine j_iconst (v := 0) dX5_pass_0 (by decide) ?_
  refine j_istore_n dX5_pass_1 (by decide) ?_
  exact s_pass_lp hg hm m 0 s (by omega) hok hQ
set_option maxRecDepth 4000 in
set_option maxHeartbeats 1000000 in
theorem s_gone {g : zH} {s : Nat → Int32} (hg : gP g) : zCT mX5_gone [.ref 215] 222 (gS g s) 222 (fun r h' => r = some (aGone s) ∧ h' = gS g s) := by
  intro X Q hQ
  show zJ X mX5_gone 222 0 [.ref 215] [] 222 (gS g s) Q
  refine j_aload_n dX5_gone_0 rfl ?_
  refine j_get (v := .ref 216) dX5_gone_1 fX5_7 rfl (by decide) (gS_p0 hg) ?_
  refine j_sipush (v := 202) dX5_gone_4 (by decide) ?_
  refine s_ald 202 dX5_gone_7 (rfl) (by first | decide | omega) ?_
  refine j_aload_n dX5_gone_8 rfl ?_
  refine j_get (v := .ref 216) dX5_gone_9 fX5_7 rfl (by decide) (gS_p0 hg) ?_
  refine j_sipush (v := 203) dX5_gone_12 (by decide) ?_
  refine s_ald 203 dX5_gone_15 (rfl) (by first | decide | omega) ?_
  refine j_iadd dX5_gone_16 ?_
  refine j_aload_n dX5_gone_17 rfl ?_
  refine j_get (v := .ref 216) dX5_gone_18 fX5_7 rfl (by decide) (gS_p0 hg) ?_
  refine j_sipush (v := 204) dX5_gone_21 (by decide) ?_
  refine s_ald 204 dX5_gone_24 (rfl) (by first | decide | omega) ?_
  refine j_iadd dX5_gone_25 ?_
  refine j_aload_n dX5_gone_26 rfl ?_
  refine j_get (v := .ref 216) dX5_gone_27 fX5_7 rfl (by decide) (gS_p0 hg) ?_
  refine j_sipush (v := 211) dX5_gone_30 (by decide) ?_
  refine s_ald 211 dX5_gone_33 (rfl) (by first | decide | omega) ?_
  refine j_iadd dX5_gone_34 ?_
  refine j_iret dX5_gone_35 rfl (rfl) ?_
  exact hQ _ _ ⟨rfl, rfl⟩
end
section
abbrev iA (f : Nat → Int32) : Nat → Value := fun k => .int (f k)
theorem arrV_congr {cA : ClassId} {n : Nat} {f g : Nat → Value} (h : ∀ k, k < n → f k = g k) : arrV cA n f = arrV cA n g := by
  unfold arrV
  congr 2
  funext j
  exact h j.val j.isLt
/-- what lies outside an array says nothing -/
theorem j_same {X : Nat × (Nat → Int32)} {M : zM} {n0 pc : Nat} {ls st : List Value} {nx : Nat} {h h' : zH} {Q : zQt} (he : ∀ a, a < nx → ∀ k, k < zZ a → h a k = h' a k) (kk : zJ X M n0 pc ls st nx h' Q) : zJ X M n0 pc ls st nx h Q := by
  intro p l e R s m args below meth c D cA b z H locs Qm la C hX hll hw hS hend
  refine kk p l e R s m args below meth c D cA b z H locs Qm la C hX hll ⟨hw.1, hw.2.1, fun k q hq => ?_⟩ hS hend
  obtain ⟨hk, rfl⟩ := zW_of hq
  have h1 := hw.2.2 k _ (zW_get (h := h) hk)
  have h2 := he k hk
  unfold zZ at h2
  by_cases hc : (zS k).1 < 10
  · rw [if_pos hc] at h2
    have e : zE cA b z k (h' k) = zE cA b z k (h k) := by
      rw [zE_obj rfl hc, zE_obj rfl hc]
      congr 2
      apply List.map_congr_left
      intro i hi
      rw [h2 i (List.mem_range.mp hi)]
    rw [e]
    exact h1
  · rw [if_neg hc] at h2
    by_cases hc2 : (zS k).1 < 12
    · have e0 : zS k = (10 + ((zS k).1 - 10), (zS k).2) := by
        apply Prod.ext
        · show (zS k).1 = 10 + ((zS k).1 - 10)
          omega
        · rfl
      rw [zE_num e0 (by omega)] at h1 ⊢
      show H[z + k]? = some (vp_cell _ _)
      have h3 : H[z + k]? = some (vp_cell _ _) := h1
      rw [h3, vp_cell_i, vp_cell_i]
      exact congrArg some (arrV_congr (fun i hi => by rw [h2 i hi]))
    · have e0 : zS k = (12 + ((zS k).1 - 12), (zS k).2) := by
        apply Prod.ext
        · show (zS k).1 = 12 + ((zS k).1 - 12)
          omega
        · rfl
      rw [zE_arr e0] at h1 ⊢
      show H[z + k]? = some (vp_cell _ _)
      have h3 : H[z + k]? = some (vp_cell _ _) := h1
      rw [h3, vp_cell_q, vp_cell_q]
      exact congrArg some (arrV_congr (fun i hi => by rw [h2 i hi]))
/-- the first k of f, the rest of g -/
def aMix (f g : Nat → Int32) (k : Nat) : Nat → Int32 := fun j => if j < k then f j else g j
theorem aMix_up {f g : Nat → Int32} {k : Nat} : upd (aMix f g k) k (f k) = aMix f g (k + 1) := by
  funext j
  unfold upd aMix
  by_cases h : j = k
  · subst h
    rw [if_pos rfl, if_pos (by omega)]
  · rw [if_neg h]
    by_cases h2 : j < k
    · rw [if_pos h2, if_pos (by omega)]
    · rw [if_neg h2, if_neg (by omega)]
theorem iA_up {f : Nat → Int32} {j : Nat} {x : Int32} : va_up (iA f) j (.int x) = iA (upd f j x) := by
  funext k
  by_cases hk : k = j <;> simp [va_up, upd, hk]
theorem up_up {α : Type} {h : Nat → α} {a : Nat} {f g : α} : va_up (va_up h a f) a g = va_up h a g := by
  funext b
  by_cases hb : b = a <;> simp [va_up, hb]
theorem up_sw {h : zH} {a b : Nat} {f g : Nat → Value} (hn : a ≠ b) : va_up (va_up h a f) b g = va_up (va_up h b g) a f := by
  funext c
  by_cases h1 : c = a
  · subst h1
    simp [va_up, hn]
  · by_cases h2 : c = b
    · subst h2
      simp [va_up, Ne.symm hn]
    · simp [va_up, h1, h2]
theorem gS_upn {g : zH} {s : Nat → Int32} {a : Nat} {F : Nat → Value} (hn : a ≠ 216) : va_up (gS g s) a F = gS (va_up g a F) s := up_sw (Ne.symm hn)
theorem gS_s {g : zH} {s t : Nat → Int32} : va_up (gS g s) 216 (iA t) = gS g t := up_up
theorem s_copies_lp {h : zH} {a0 a1 : Nat} {f f1 : Nat → Int32} (h0 : h a0 = iA f) (hn : a0 ≠ a1) (hs0 : zS a0 = (10, 215)) (hs1 : zS a1 = (10, 215)) (ha0 : a0 < 222) (ha1 : a1 < 222) {X : Nat × (Nat → Int32)} {Q : zQt} (hQ : Q none 222 (va_up h a1 (iA f))) : ∀ (n k : Nat), k + n = 215 → zJ X mX5_copies 222 2 [.ref a0, .ref a1, .int (nI k)] [] 222 (va_up h a1 (iA (aMix f f1 k))) Q := by
  intro n
  induction n with
  | zero =>
    intro k hk
    obtain rfl : k = 215 := by omega
    refine j_same (h' := va_up h a1 (iA f)) (fun a ha k hk => ?_) ?_
    · by_cases q : a = a1
      · subst q
        rw [va_up_self, va_up_self]
        unfold zZ at hk
        rw [hs1, if_neg (by decide)] at hk
        have hk : k < 215 := hk
        simp [aMix, hk]
      · rw [va_up_ne _ _ q, va_up_ne _ _ q]
    refine j_iload_n dX5_copies_2 rfl ?_
    refine j_sipush (v := nI 215) dX5_copies_3 (by decide) ?_
    refine j_icmp_ge dX5_copies_6 (tgt := 21) rfl (fun _ => ?_) (fun c => absurd (Int32.le_refl _) c)
    exact j_vret dX5_copies_21 rfl hQ
  | succ n ih =>
    intro k hk
    refine j_iload_n dX5_copies_2 rfl ?_
    refine j_sipush (v := nI 215) dX5_copies_3 (by decide) ?_
    refine j_icmp_ge dX5_copies_6 (tgt := 21) rfl (fun c => absurd c (nI_ge (by omega) (by omega))) (fun _ => ?_)
    refine j_aload_n dX5_copies_9 rfl ?_
    refine j_iload_n dX5_copies_10 rfl ?_
    refine j_aload_n dX5_copies_11 rfl ?_
    refine j_iload_n dX5_copies_12 rfl ?_
    refine j_iald (x := f k) dX5_copies_13 hs0 ha0 (z_vin rfl (by omega) (by omega)) (by rw [va_up_ne _ _ hn, h0, z_cl (by omega)]; rfl) ?_
    refine j_iast dX5_copies_14 hs1 ha1 (z_vin rfl (by omega) (by omega)) ?_
    rw [va_up_self, z_cl (by omega), iA_up, up_up, aMix_up]
    refine j_iinc (v := nI (k + 1)) dX5_copies_15 rfl z_inc (by decide) ?_
    refine j_goto dX5_copies_18 (tgt := 2) rfl ?_
    exact ih (k + 1) (by omega)
theorem s_copies {h : zH} {a0 a1 : Nat} {f f1 : Nat → Int32} (h0 : h a0 = iA f) (h1 : h a1 = iA f1) (hn : a0 ≠ a1) (hs0 : zS a0 = (10, 215)) (hs1 : zS a1 = (10, 215)) (ha0 : a0 < 222) (ha1 : a1 < 222) : zCT mX5_copies [.ref a0, .ref a1] 222 h 222 (fun r h' => r = none ∧ h' = va_up h a1 (iA f)) := by
  intro X Q hQ
  show zJ X mX5_copies 222 0 [.ref a0, .ref a1, .null] [] 222 h Q
  refine j_iconst (v := 0) dX5_copies_0 (by decide) ?_
  refine j_istore_n dX5_copies_1 (by decide) ?_
  have e : h = va_up h a1 (iA (aMix f f1 0)) := by
    funext a
    by_cases q : a = a1
    · subst q
      rw [va_up_self, h1]
      funext k
      simp [aMix]
    · rw [va_up_ne _ _ q]
  have := s_copies_lp (X := X) (f1 := f1) h0 hn hs0 hs1 ha0 ha1 (hQ none _ ⟨rfl, rfl⟩) 215 0 (by omega)
  rw [← e] at this
  exact this
/-- the check's history: pa its array, p how many -/
def gH (g : zH) (pa : Nat → Int32) (p : Nat) : zH := va_up (va_up g 217 (iA pa)) 215 (va_up (g 215) 4 (.int (nI p)))
theorem gP_gH {g : zH} {pa : Nat → Int32} {p : Nat} (hg : gP g) : gP (gH g pa p) := by
  unfold gP gH
  rw [va_up_self]
  exact hg
theorem gH_4 {g : zH} {pa s : Nat → Int32} {p : Nat} : gS (gH g pa p) s 215 4 = .int (nI p) := by
  rw [gS_ne (by decide)]
  unfold gH
  rw [va_up_self, va_up_self]
theorem gH_k {g : zH} {pa s : Nat → Int32} {p k : Nat} (hk : k ≠ 4) : gS (gH g pa p) s 215 k = g 215 k := by
  rw [gS_ne (by decide)]
  unfold gH
  rw [va_up_self, va_up_ne _ _ hk]
theorem gH_217 {g : zH} {pa s : Nat → Int32} {p : Nat} : gS (gH g pa p) s 217 = iA pa := by
  rw [gS_ne (by decide)]
  unfold gH
  rw [va_up_ne _ _ (by decide), va_up_self]
theorem gH_put4 {g : zH} {pa s : Nat → Int32} {p q : Nat} : va_up (gS (gH g pa p) s) 215 (va_up (gS (gH g pa p) s 215) 4 (.int (nI q))) = gS (gH g pa q) s := by
  rw [gS_upn (by decide), gS_ne (by decide)]
  congr 1
  unfold gH
  rw [va_up_self, up_up, up_up]
theorem gH_put217 {g : zH} {pa s : Nat → Int32} {p j : Nat} {x : Int32} : va_up (gS (gH g pa p) s) 217 (va_up (gS (gH g pa p) s 217) j (.int x)) = gS (gH g (upd pa j x) p) s := by
  rw [gH_217, iA_up, gS_upn (by decide)]
  congr 1
  unfold gH
  rw [up_sw (a := 215) (b := 217) (by decide), up_up]
section ZH
variable {X : Nat × (Nat → Int32)} {M : zM} {pc : Nat} {ls st : List Value} {h : zH} {Q : zQt}
theorem h_ald {g : zH} {pa s : Nat → Int32} {p : Nat} {i : Int32} (j : Nat) (hd : decode (zMb M) pc = .ok (.iaload, 1)) (hi : i = nI j) (hj : j < 860) (kk : zJ X M 222 (pc + 1) ls (.int (pa j) :: st) 222 (gS (gH g pa p) s) Q) : zJ X M 222 pc ls (.int i :: .ref 217 :: st) 222 (gS (gH g pa p) s) Q :=
  j_iald (x := pa j) hd (n := 860) rfl (by decide) (z_vin hi hj (by omega)) (by rw [hi, z_cl (by omega), gH_217]; rfl) kk
theorem h_ast {g : zH} {pa s : Nat → Int32} {p : Nat} {i x : Int32} (j : Nat) (hd : decode (zMb M) pc = .ok (.iastore, 1)) (hi : i = nI j) (hj : j < 860) (kk : zJ X M 222 (pc + 1) ls st 222 (gS (gH g (upd pa j x) p) s) Q) : zJ X M 222 pc ls (.int x :: .int i :: .ref 217 :: st) 222 (gS (gH g pa p) s) Q :=
  j_iast hd (n := 860) rfl (by decide) (z_vin hi hj (by omega)) (by rw [hi, z_cl (by omega), gH_put217]; exact kk)
theorem h_put4 {g : zH} {pa s : Nat → Int32} {p : Nat} {x : Int32} (q idx : Nat) (hd : decode (zMb M) pc = .ok (.putfield idx, 3)) (hl : zLF (zMo M) idx 5 4 .int false) (hx : x = nI q) (kk : zJ X M 222 (pc + 3) ls st 222 (gS (gH g pa q) s) Q) : zJ X M 222 pc ls (.int x :: .ref 215 :: st) 222 (gS (gH g pa p) s) Q :=
  j_put hd hl rfl (by decide) rfl (by rw [hx, gH_put4]; exact kk)
end ZH
/-- s put at place q of the history, its first k cells -/
def aPut (pa : Nat → Int32) (q : Nat) (s : Nat → Int32) (k : Nat) : Nat → Int32 := fun j => if 215 * q ≤ j ∧ j < 215 * q + k then s (j - 215 * q) else pa j
theorem aPut_0 {pa s : Nat → Int32} {q : Nat} : aPut pa q s 0 = pa := by
  funext j
  unfold aPut
  rw [if_neg (by omega)]
theorem aPut_up {pa s : Nat → Int32} {q k : Nat} : upd (aPut pa q s k) (215 * q + k) (s k) = aPut pa q s (k + 1) := by
  funext j
  unfold upd aPut
  by_cases h : j = 215 * q + k
  · subst h
    rw [if_pos rfl, if_pos (by omega)]
    congr 1
    omega
  · rw [if_neg h]
    by_cases h2 : 215 * q ≤ j ∧ j < 215 * q + k
    · rw [if_pos h2, if_pos (by omega)]
    · rw [if_neg h2, if_neg (by omega)]
/-- the history's oldest goes -/
def aSh (pa : Nat → Int32) (k : Nat) : Nat → Int32 := fun j => if j < k then pa (j + 215) else pa j
theorem aSh_0 {pa : Nat → Int32} : aSh pa 0 = pa := by
  funext j
  simp [aSh]
theorem aSh_up {pa : Nat → Int32} {k : Nat} : upd (aSh pa k) k (aSh pa k (k + 215)) = aSh pa (k + 1) := by
  funext j
  unfold upd aSh
  by_cases h : j = k
  · subst h
    rw [if_pos rfl, if_neg (by omega), if_pos (by omega)]
  · rw [if_neg h]
    by_cases h2 : j < k
    · rw [if_pos h2, if_pos (by omega)]
    · rw [if_neg h2, if_neg (by omega)]
def aPa (pa : Nat → Int32) (p : Nat) (s : Nat → Int32) : Nat → Int32 := if p = 4 then aPut (aSh pa 645) 3 s 215 else aPut pa p s 215
def aPn (p : Nat) : Nat := if p = 4 then 4 else p + 1
set_option maxRecDepth 4000 in
set_option maxHeartbeats 2000000 in
theorem s_changes_lp {g : zH} (hg : gP g) (hr : g 215 5 = .int 0) {pa s : Nat → Int32} {q : Nat} (hq : q < 4) {X : Nat × (Nat → Int32)} {Q : zQt} (hQ : Q none 222 (gS (gH g (aPut pa q s 215) (q + 1)) s)) : ∀ (n k : Nat), k + n = 215 → zJ X mX5_changes 222 59 [.ref 215, .int (nI k)] [] 222 (gS (gH g (aPut pa q s k) q) s) Q := by
  intro n
  induction n with
  | zero =>
    intro k hk
    obtain rfl : k = 215 := by omega
    refine j_iload_n dX5_changes_59 rfl ?_
    refine j_sipush (v := 215) dX5_changes_60 (by decide) ?_
    refine j_icmp_ge dX5_changes_63 (tgt := 93) rfl (fun _ => ?_) (fun c1 => absurd (show nI 215 ≤ 215 by decide) c1)
    refine j_aload_n dX5_changes_93 rfl ?_
    refine j_dup dX5_changes_94 rfl ?_
    refine j_get (v := .int (nI q)) dX5_changes_95 fX5_32 rfl (by decide) gH_4 ?_
    refine j_iconst (v := 1) dX5_changes_98 (by decide) ?_
    refine j_iadd dX5_changes_99 ?_
    refine h_put4 ((q + 1)) 32 dX5_changes_100 fX5_32 (by first | rfl | (simp only [z_n, pk_mul, nI_add]; done) | (simp only [z_n, pk_mul, nI_add]; exact pk_sub (by omega)) | (simp only [z_n, pk_mul, nI_add, pk_sub, *]; done)) ?_
    refine j_vret dX5_changes_103 rfl ?_
    exact hQ
  | succ n ih =>
    intro k hk
    refine j_iload_n dX5_changes_59 rfl ?_
    refine j_sipush (v := 215) dX5_changes_60 (by decide) ?_
    refine j_icmp_ge dX5_changes_63 (tgt := 93) rfl (fun c1 => absurd c1 (show ¬ nI 215 ≤ nI k from nI_ge (by omega) (by omega))) (fun _ => ?_)
    refine j_aload_n dX5_changes_66 rfl ?_
    refine j_get (v := .ref 217) dX5_changes_67 fX5_13 rfl (by decide) (gS_p1 (gP_gH hg)) ?_
    refine j_sipush (v := 215) dX5_changes_70 (by decide) ?_
    refine j_aload_n dX5_changes_73 rfl ?_
    refine j_get (v := .int (nI q)) dX5_changes_74 fX5_32 rfl (by decide) gH_4 ?_
    refine j_imul dX5_changes_77 ?_
    refine j_iload_n dX5_changes_78 rfl ?_
    refine j_iadd dX5_changes_79 ?_
    refine j_aload_n dX5_changes_80 rfl ?_
    refine j_get (v := .ref 216) dX5_changes_81 fX5_7 rfl (by decide) (gS_p0 (gP_gH hg)) ?_
    refine j_iload_n dX5_changes_84 rfl ?_
    refine s_ald k dX5_changes_85 (by first | rfl | (simp only [z_n, pk_mul, nI_add]; done) | (simp only [z_n, pk_mul, nI_add]; exact pk_sub (by omega)) | (simp only [z_n, pk_mul, nI_add, pk_sub, *]; done)) (by first | decide | omega) ?_
    refine h_ast (((215 * q) + k)) dX5_changes_86 (by first | rfl | (simp only [z_n, pk_mul, nI_add]; done) | (simp only [z_n, pk_mul, nI_add]; exact pk_sub (by omega)) | (simp only [z_n, pk_mul, nI_add, pk_sub, *]; done)) (by first | decide | omega) ?_
    refine j_iinc (v := nI (k + 1)) dX5_changes_87 rfl z_inc (by decide) ?_
    refine j_goto dX5_changes_90 (tgt := 59) rfl ?_
    rw [aPut_up]
    exact ih (k + 1) (by omega)
set_option maxRecDepth 4000 in
set_option maxHeartbeats 2000000 in
theorem s_changes_l4 {g : zH} (hg : gP g) (hr : g 215 5 = .int 0) {pa s : Nat → Int32} {X : Nat × (Nat → Int32)} {Q : zQt} (hQ : Q none 222 (gS (gH g (aPut (aSh pa 645) 3 s 215) 4) s)) : ∀ (n k : Nat), k + n = 645 → zJ X mX5_changes 222 18 [.ref 215, .int (nI k)] [] 222 (gS (gH g (aSh pa k) 4) s) Q := by
  intro n
  induction n with
  | zero =>
    intro k hk
    obtain rfl : k = 645 := by omega
    refine j_iload_n dX5_changes_18 rfl ?_
    refine j_sipush (v := 645) dX5_changes_19 (by decide) ?_
    refine j_icmp_ge dX5_changes_22 (tgt := 47) rfl (fun _ => ?_) (fun c1 => absurd (show nI 645 ≤ 645 by decide) c1)
    refine j_aload_n dX5_changes_47 rfl ?_
    refine j_dup dX5_changes_48 rfl ?_
    refine j_get (v := .int (nI 4)) dX5_changes_49 fX5_32 rfl (by decide) gH_4 ?_
    refine j_iconst (v := 1) dX5_changes_52 (by decide) ?_
    refine j_isub dX5_changes_53 ?_
    refine h_put4 ((4 - 1)) 32 dX5_changes_54 fX5_32 (by first | rfl | (simp only [z_n, pk_mul, nI_add]; done) | (simp only [z_n, pk_mul, nI_add]; exact pk_sub (by omega)) | (simp only [z_n, pk_mul, nI_add, pk_sub, *]; done)) ?_
    refine j_iconst (v := 0) dX5_changes_57 (by decide) ?_
    refine j_istore_n dX5_changes_58 (by decide) ?_
    rw [← aPut_0 (pa := aSh pa 645) (q := 3) (s := s)]
    exact s_changes_lp hg hr (by omega) hQ 215 0 (by omega)
  | succ n ih =>
    intro k hk
    refine j_iload_n dX5_changes_18 rfl ?_
    refine j_sipush (v := 645) dX5_changes_19 (by decide) ?_
    refine j_icmp_ge dX5_changes_22 (tgt := 47) rfl (fun c1 => absurd c1 (show ¬ nI 645 ≤ nI k from nI_ge (by omega) (by omega))) (fun _ => ?_)
    refine j_aload_n dX5_changes_25 rfl ?_
    refine j_get (v := .ref 217) dX5_changes_26 fX5_13 rfl (by decide) (gS_p1 (gP_gH hg)) ?_
    refine j_iload_n dX5_changes_29 rfl ?_
    refine j_aload_n dX5_changes_30 rfl ?_
    refine j_get (v := .ref 217) dX5_changes_31 fX5_13 rfl (by decide) (gS_p1 (gP_gH hg)) ?_
    refine j_iload_n dX5_changes_34 rfl ?_
    refine j_sipush (v := 215) dX5_changes_35 (by decide) ?_
    refine j_iadd dX5_changes_38 ?_
    refine h_ald ((k + 215)) dX5_changes_39 (by first | rfl | (simp only [z_n, pk_mul, nI_add]; done) | (simp only [z_n, pk_mul, nI_add]; exact pk_sub (by omega)) | (simp only [z_n, pk_mul, nI_add, pk_sub, *]; done)) (by first | decide | omega) ?_
    refine h_ast (k) dX5_changes_40 (by first | rfl | (simp only [z_n, pk_mul, nI_add]; done) | (simp only [z_n, pk_mul, nI_add]; exact pk_sub (by omega)) | (simp only [z_n, pk_mul, nI_add, pk_sub, *]; done)) (by first | decide | omega) ?_
    refine j_iinc (v := nI (k + 1)) dX5_changes_41 rfl z_inc (by decide) ?_
    refine j_goto dX5_changes_44 (tgt := 18) rfl ?_
    rw [aSh_up]
    exact ih (k + 1) (by omega)
set_option maxRecDepth 4000 in
set_option maxHeartbeats 2000000 in
theorem s_changes {g : zH} (hg : gP g) (hr : g 215 5 = .int 0) {pa s : Nat → Int32} {p : Nat} (hp : p ≤ 4) : zCT mX5_changes [.ref 215] 222 (gS (gH g pa p) s) 222 (fun r h' => r = none ∧ h' = gS (gH g (aPa pa p s) (aPn p)) s) := by
  intro X Q hQ
  show zJ X mX5_changes 222 0 [.ref 215, .null] [] 222 (gS (gH g pa p) s) Q
  refine j_aload_n dX5_changes_0 rfl ?_
  refine j_get (v := .int 0) dX5_changes_1 fX5_28 rfl (by decide) ((gH_k (by decide)).trans hr) ?_
  refine j_if_eq dX5_changes_4 (tgt := 8) rfl (fun _ => ?_) (fun c1 => absurd (rfl : (0 : Int32) = 0) c1)
  refine j_aload_n dX5_changes_8 rfl ?_
  refine j_get (v := .int (nI p)) dX5_changes_9 fX5_32 rfl (by decide) gH_4 ?_
  refine j_iconst (v := 4) dX5_changes_12 (by decide) ?_
  refine j_icmp_ne dX5_changes_13 (tgt := 57) rfl (fun c2 => ?_) (fun c2 => ?_)
  · refine j_iconst (v := 0) dX5_changes_57 (by decide) ?_
    refine j_istore_n dX5_changes_58 (by decide) ?_
    have hp4 : p ≠ 4 := fun q => ‹¬ nI p = 4› (by rw [q]; rfl)
    rw [← aPut_0 (pa := pa) (q := p) (s := s)]
    exact s_changes_lp hg hr (by omega) (by have := hQ none _ ⟨rfl, rfl⟩; unfold aPa aPn at this; rw [if_neg hp4, if_neg hp4] at this; exact this) 215 0 (by omega)
  · obtain rfl : p = 4 := ((nI_eq (by omega) (by omega)).mp ‹nI p = 4›)
    refine j_iconst (v := 0) dX5_changes_16 (by decide) ?_
    refine j_istore_n dX5_changes_17 (by decide) ?_
    rw [← aSh_0 (pa := pa)]
    exact s_changes_l4 hg hr (hQ none _ ⟨rfl, rfl⟩) 645 0 (by omega)
/-- while orders are done nothing is recorded -/
theorem s_changes_run {g : zH} {s : Nat → Int32} (hr : g 215 5 = .int 1) : zCT mX5_changes [.ref 215] 222 (gS g s) 222 (fun r h' => r = none ∧ h' = gS g s) := by
  intro X Q hQ
  show zJ X mX5_changes 222 0 [.ref 215, .null] [] 222 (gS g s) Q
  refine j_aload_n dX5_changes_0 rfl ?_
  refine j_get (v := .int 1) dX5_changes_1 fX5_28 rfl (by decide) (by rw [gS_ne (by decide)]; exact hr) ?_
  refine j_if_eq dX5_changes_4 (tgt := 8) rfl (fun c => absurd c (by decide)) (fun _ => ?_)
  exact j_vret dX5_changes_7 rfl (hQ _ _ ⟨rfl, rfl⟩)
end
section
theorem s_aldv {X : Nat × (Nat → Int32)} {M : zM} {pc : Nat} {ls st : List Value} {Q : zQt} {g : zH} {s : Nat → Int32} {i v : Int32} (j : Nat) (hd : decode (zMb M) pc = .ok (.iaload, 1)) (hi : i = nI j) (hj : j < 215) (hv : s j = v) (kk : zJ X M 222 (pc + 1) ls (.int v :: st) 222 (gS g s) Q) : zJ X M 222 pc ls (.int i :: .ref 216 :: st) 222 (gS g s) Q :=
  s_ald j hd hi hj (by rw [hv]; exact kk)
/-- recording takes the heap g at s to g' -/
abbrev zCh (g g' : zH) (s : Nat → Int32) : Prop := zCT mX5_changes [.ref 215] 222 (gS g s) 222 (fun r h' => r = none ∧ h' = gS g' s)
theorem z_pc {g g' : zH} {p : Int32 × Bool × (Nat → Int32)} {x : Int32} {b : Bool} {t : Nat → Int32} (e : p = (x, b, t)) : some x = some p.1 ∧ gS (cond b g' g) t = gS (cond p.2.1 g' g) p.2.2 := by
  subst e
  exact ⟨rfl, rfl⟩
theorem aIn_of {v a b : Int32} (h : ¬ aIn v a b = 0) : a ≤ v ∧ v ≤ b := by
  unfold aIn at h
  by_cases h1 : v < a
  · rw [if_pos h1] at h
    exact absurd rfl h
  · rw [if_neg h1] at h
    by_cases h2 : b < v
    · rw [if_pos h2] at h
      exact absurd rfl h
    · exact ⟨Int32.not_lt.mp h1, Int32.not_lt.mp h2⟩
theorem aIn_nat {v : Int32} {a b : Nat} (hb : b < 1000) (ha : a ≤ b) (h : ¬ aIn v (nI a) (nI b) = 0) : ∃ k, a ≤ k ∧ k ≤ b ∧ v = nI k ∧ v.toNatClampNeg = k := by
  obtain ⟨h1, h2⟩ := aIn_of h
  have h0 : ¬ v < 0 := by
    rw [Int32.le_iff_toInt_le, nI_toInt (by omega)] at h1
    rw [Int32.lt_iff_toInt_lt]
    intro q
    have : (0 : Int32).toInt = 0 := by decide
    omega
  obtain ⟨k, hk, rfl⟩ := nI_of h0
  rw [nI_leI (by omega) hk] at h1
  rw [nI_leI hk (by omega)] at h2
  exact ⟨k, h1, h2, rfl, nI_clamp hk⟩
theorem aIs_nat {s : Nat → Int32} {b : Int32} {N : Nat} (hn : s 199 = nI N) (hN : N ≤ 12) (h : ¬ aIs s b = 0) : ∃ k, k < N ∧ b = nI k ∧ b.toNatClampNeg = k := by
  unfold aIs at h
  rw [hn] at h
  rcases Nat.eq_zero_or_pos N with rfl | hp
  · obtain ⟨h1, h2⟩ := aIn_of h
    rw [Int32.le_iff_toInt_le] at h1 h2
    have e1 : (nI 0 - 1).toInt = -1 := by decide
    have e2 : (0 : Int32).toInt = 0 := by decide
    omega
  · obtain ⟨m, rfl⟩ : ∃ m, N = m + 1 := ⟨N - 1, by omega⟩
    rw [nI_pred] at h
    obtain ⟨k, h1, h2, h3, h4⟩ := aIn_nat (a := 0) (b := m) (by omega) (by omega) h
    exact ⟨k, by omega, h3, h4⟩
def aBid (s : Nat → Int32) (N : Nat) (row seat purse strength : Int32) : Nat → Int32 :=
  let t := upd s (11 * N + 0) row
  let t := upd t (11 * N + 1) seat
  let t := upd t (11 * N + 2) purse
  let t := upd t (11 * N + 3) strength
  let t := upd t (11 * N + 10) purse
  upd t 199 (t 199 + 1)
def aBidder (s : Nat → Int32) (N : Nat) (row seat purse strength : Int32) : Int32 × Bool × (Nat → Int32) :=
  if aSeat row seat = 0 then (-1000001, false, s) else if aIn purse 0 999 = 0 then (-1000001, false, s) else if aIn strength 1 9 = 0 then (-1000001, false, s)
  else if aFind s row seat N 0 < 0 then (if s 199 = 12 then (-1000003, false, s) else (nI N, true, aBid s N row seat purse strength)) else (-1000002, false, s)
def aSetB (s : Nat → Int32) (b v : Int32) (cell : Nat) : Int32 × Bool × (Nat → Int32) :=
  if aIs s b = 0 then (-1000001, false, s) else if aIn v 0 5 = 0 then (-1000001, false, s) else (s (11 * b.toNatClampNeg + cell), true, upd s (11 * b.toNatClampNeg + cell) v)
def aLotT (s : Nat → Int32) (W : Nat) (r v : Int32) : Nat → Int32 :=
  let t := upd s (132 + 2 * W) r
  let t := upd t (132 + 2 * W + 1) v
  let t := upd t 200 (t 200 + 1)
  upd t 201 (t 201 + 1)
def aLot (s : Nat → Int32) (W : Nat) (r v : Int32) : Int32 × Bool × (Nat → Int32) :=
  if aIn r 1 99 = 0 then (-1000001, false, s) else if aIn v 1 20 = 0 then (-1000001, false, s) else if s 200 = 8 then (-1000003, false, s) else (aLotT s W r v 200, true, aLotT s W r v)
def aCough (s : Nat → Int32) (b : Int32) : Int32 × Bool × (Nat → Int32) := if aIs s b = 0 then (-1000001, false, s) else ((aCgh s b.toNatClampNeg 0).1, true, (aCgh s b.toNatClampNeg 0).2)
def aBeats (s : Nat → Int32) (N : Nat) (many : Int32) : Int32 × Bool × (Nat → Int32) :=
  if aIn many 1 50 = 0 then (-1000001, false, s) else if s 198 + many ≤ 9999 then (aGone (aPass N many.toNatClampNeg s) - aGone s, true, aPass N many.toNatClampNeg s) else (-1000003, false, s)
def aSet (s : Nat → Int32) (k v : Int32) : Int32 × Bool × (Nat → Int32) :=
  if aIn k 0 2 = 0 then (-1000001, false, s) else if aIn v 1 9 = 0 then (-1000001, false, s) else (s (212 + k.toNatClampNeg), true, upd s (212 + k.toNatClampNeg) v)
set_option maxRecDepth 4000 in
set_option maxHeartbeats 1000000 in
theorem s_bidder {g g' : zH} {s : Nat → Int32} (hg : gP g) (hg2 : gP g') (hch : zCh g g' s) {N : Nat} (hn : s 199 = nI N) (hN : N ≤ 12) {row seat purse strength : Int32} : zCT mX5_bidder [.ref 215, .int row, .int seat, .int purse, .int strength] 222 (gS g s) 222 (fun r h' => r = some (aBidder s N row seat purse strength).1 ∧ h' = gS (cond (aBidder s N row seat purse strength).2.1 g' g) (aBidder s N row seat purse strength).2.2) := by
  intro X Q hQ
  show zJ X mX5_bidder 222 0 [.ref 215, .int row, .int seat, .int purse, .int strength, .null] [] 222 (gS g s) Q
  refine j_iload_n dX5_bidder_0 rfl ?_
  refine j_iload_n dX5_bidder_1 rfl ?_
  refine k_callS2i dX5_bidder_2 vX5_bidder_74 (s_isSeat) rfl rfl (Nat.le_of_ble_eq_true rfl) ⟨rfl, rfl⟩ rfl ?_
  rintro _ _ ⟨⟨⟩, rfl⟩
  refine j_if_eq dX5_bidder_5 (tgt := 30) rfl (fun c1 => ?_) (fun c1 => ?_)
  · refine j_ldc (v := (-1000001)) dX5_bidder_30 cX5_78 ?_
    refine j_iret dX5_bidder_32 rfl (rfl) ?_
    exact hQ _ _ (z_pc (g := g) (g' := g') (b := false) ((if_pos c1).trans (rfl)))
  · refine j_iload_n dX5_bidder_8 rfl ?_
    refine j_iconst (v := 0) dX5_bidder_9 (by decide) ?_
    refine j_sipush (v := 999) dX5_bidder_10 (by decide) ?_
    refine k_callS3i dX5_bidder_13 vX5_bidder_36 (s_in) rfl rfl rfl (Nat.le_of_ble_eq_true rfl) ⟨rfl, rfl⟩ rfl ?_
    rintro _ _ ⟨⟨⟩, rfl⟩
    refine j_if_eq dX5_bidder_16 (tgt := 30) rfl (fun c2 => ?_) (fun c2 => ?_)
    · refine j_ldc (v := (-1000001)) dX5_bidder_30 cX5_78 ?_
      refine j_iret dX5_bidder_32 rfl (rfl) ?_
      exact hQ _ _ (z_pc (g := g) (g' := g') (b := false) ((if_neg c1).trans ((if_pos c2).trans (rfl))))
    · refine j_iload dX5_bidder_19 rfl ?_
      refine j_iconst (v := 1) dX5_bidder_21 (by decide) ?_
      refine j_bipush (v := 9) dX5_bidder_22 (by decide) ?_
      refine k_callS3i dX5_bidder_24 vX5_bidder_36 (s_in) rfl rfl rfl (Nat.le_of_ble_eq_true rfl) ⟨rfl, rfl⟩ rfl ?_
      rintro _ _ ⟨⟨⟩, rfl⟩
      refine j_if_ne dX5_bidder_27 (tgt := 33) rfl (fun c3 => ?_) (fun c3 => ?_)
      · refine j_aload_n dX5_bidder_33 rfl ?_
        refine j_iload_n dX5_bidder_34 rfl ?_
        refine j_iload_n dX5_bidder_35 rfl ?_
        refine k_callV2i dX5_bidder_36 vX5_bidder_79 (s_seated hg hn hN) rfl (by decide) rfl rfl (Nat.le_of_ble_eq_true rfl) ⟨rfl, rfl⟩ rfl ?_
        rintro _ _ ⟨⟨⟩, rfl⟩
        refine j_if_lt dX5_bidder_39 (tgt := 45) rfl (fun c4 => ?_) (fun c4 => ?_)
        · refine j_aload_n dX5_bidder_45 rfl ?_
          refine j_get (v := .ref 216) dX5_bidder_46 fX5_7 rfl (by decide) (gS_p0 hg) ?_
          refine j_sipush (v := 199) dX5_bidder_49 (by decide) ?_
          refine s_ald 199 dX5_bidder_52 (rfl) (by first | decide | omega) ?_
          refine j_bipush (v := 12) dX5_bidder_53 (by decide) ?_
          refine j_icmp_ne dX5_bidder_55 (tgt := 61) rfl (fun c5 => ?_) (fun c5 => ?_)
          · have hN2 : N < 12 := by
              rcases Nat.lt_or_ge N 12 with q | q
              · exact q
              · exact absurd (by rw [hn, show N = 12 by omega]; rfl) ‹¬ s 199 = 12›
            refine j_aload_n dX5_bidder_61 rfl ?_
            refine k_callV0v dX5_bidder_62 vX5_bidder_84 (hch) rfl (by decide)  (Nat.le_of_ble_eq_true rfl) ⟨rfl, rfl⟩ rfl ?_
            rintro _ ⟨-, rfl⟩
            refine j_aload_n dX5_bidder_65 rfl ?_
            refine j_get (v := .ref 216) dX5_bidder_66 fX5_7 rfl (by decide) (gS_p0 hg2) ?_
            refine j_sipush (v := 199) dX5_bidder_69 (by decide) ?_
            refine s_aldv (v := nI N) 199 dX5_bidder_72 (rfl) (by first | decide | omega) (hn) ?_
            refine j_istore dX5_bidder_73 (by decide) ?_
            refine j_aload_n dX5_bidder_75 rfl ?_
            refine j_iload dX5_bidder_76 rfl ?_
            refine j_iconst (v := 0) dX5_bidder_78 (by decide) ?_
            refine j_iload_n dX5_bidder_79 rfl ?_
            refine k_callV3v dX5_bidder_80 vX5_bidder_87 (s_lay hg2 N 0 (by omega) (by omega)) rfl (by decide) rfl rfl rfl (Nat.le_of_ble_eq_true rfl) ⟨rfl, rfl⟩ rfl ?_
            rintro _ ⟨-, rfl⟩
            refine j_aload_n dX5_bidder_83 rfl ?_
            refine j_iload dX5_bidder_84 rfl ?_
            refine j_iconst (v := 1) dX5_bidder_86 (by decide) ?_
            refine j_iload_n dX5_bidder_87 rfl ?_
            refine k_callV3v dX5_bidder_88 vX5_bidder_87 (s_lay hg2 N 1 (by omega) (by omega)) rfl (by decide) rfl rfl rfl (Nat.le_of_ble_eq_true rfl) ⟨rfl, rfl⟩ rfl ?_
            rintro _ ⟨-, rfl⟩
            refine j_aload_n dX5_bidder_91 rfl ?_
            refine j_iload dX5_bidder_92 rfl ?_
            refine j_iconst (v := 2) dX5_bidder_94 (by decide) ?_
            refine j_iload_n dX5_bidder_95 rfl ?_
            refine k_callV3v dX5_bidder_96 vX5_bidder_87 (s_lay hg2 N 2 (by omega) (by omega)) rfl (by decide) rfl rfl rfl (Nat.le_of_ble_eq_true rfl) ⟨rfl, rfl⟩ rfl ?_
            rintro _ ⟨-, rfl⟩
            refine j_aload_n dX5_bidder_99 rfl ?_
            refine j_iload dX5_bidder_100 rfl ?_
            refine j_iconst (v := 3) dX5_bidder_102 (by decide) ?_
            refine j_iload dX5_bidder_103 rfl ?_
            refine k_callV3v dX5_bidder_105 vX5_bidder_87 (s_lay hg2 N 3 (by omega) (by omega)) rfl (by decide) rfl rfl rfl (Nat.le_of_ble_eq_true rfl) ⟨rfl, rfl⟩ rfl ?_
            rintro _ ⟨-, rfl⟩
            refine j_aload_n dX5_bidder_108 rfl ?_
            refine j_iload dX5_bidder_109 rfl ?_
            refine j_bipush (v := 10) dX5_bidder_111 (by decide) ?_
            refine j_iload_n dX5_bidder_113 rfl ?_
            refine k_callV3v dX5_bidder_114 vX5_bidder_87 (s_lay hg2 N 10 (by omega) (by omega)) rfl (by decide) rfl rfl rfl (Nat.le_of_ble_eq_true rfl) ⟨rfl, rfl⟩ rfl ?_
            rintro _ ⟨-, rfl⟩
            refine j_aload_n dX5_bidder_117 rfl ?_
            refine j_get (v := .ref 216) dX5_bidder_118 fX5_7 rfl (by decide) (gS_p0 hg2) ?_
            refine j_sipush (v := 199) dX5_bidder_121 (by decide) ?_
            refine j_dup2 dX5_bidder_124 rfl rfl ?_
            refine s_ald 199 dX5_bidder_125 (rfl) (by first | decide | omega) ?_
            refine j_iconst (v := 1) dX5_bidder_126 (by decide) ?_
            refine j_iadd dX5_bidder_127 ?_
            refine s_ast 199 dX5_bidder_128 (rfl) (by first | decide | omega) ?_
            refine j_iload dX5_bidder_129 rfl ?_
            refine j_iret dX5_bidder_131 rfl (rfl) ?_
            exact hQ _ _ (z_pc (g := g) (g' := g') (b := true) ((if_neg c1).trans ((if_neg c2).trans ((if_neg c3).trans ((if_pos c4).trans ((if_neg c5).trans (rfl)))))))
          · refine j_ldc (v := (-1000003)) dX5_bidder_58 cX5_83 ?_
            refine j_iret dX5_bidder_60 rfl (rfl) ?_
            exact hQ _ _ (z_pc (g := g) (g' := g') (b := false) ((if_neg c1).trans ((if_neg c2).trans ((if_neg c3).trans ((if_pos c4).trans ((if_pos c5).trans (rfl)))))))
        · refine j_ldc (v := (-1000002)) dX5_bidder_42 cX5_82 ?_
          refine j_iret dX5_bidder_44 rfl (rfl) ?_
          exact hQ _ _ (z_pc (g := g) (g' := g') (b := false) ((if_neg c1).trans ((if_neg c2).trans ((if_neg c3).trans ((if_neg c4).trans (rfl))))))
      · refine j_ldc (v := (-1000001)) dX5_bidder_30 cX5_78 ?_
        refine j_iret dX5_bidder_32 rfl (rfl) ?_
        exact hQ _ _ (z_pc (g := g) (g' := g') (b := false) ((if_neg c1).trans ((if_neg c2).trans ((if_pos c3).trans (rfl)))))
set_option maxRecDepth 4000 in
set_option maxHeartbeats 1000000 in
theorem s_catches {g g' : zH} {s : Nat → Int32} (hg : gP g) (hg2 : gP g') (hch : zCh g g' s) {N : Nat} (hn : s 199 = nI N) (hN : N ≤ 12) {b v : Int32} : zCT mX5_catches [.ref 215, .int b, .int v] 222 (gS g s) 222 (fun r h' => r = some (aSetB s b v 4).1 ∧ h' = gS (cond (aSetB s b v 4).2.1 g' g) (aSetB s b v 4).2.2) := by
  intro X Q hQ
  show zJ X mX5_catches 222 0 [.ref 215, .int b, .int v, .null] [] 222 (gS g s) Q
  refine j_aload_n dX5_catches_0 rfl ?_
  refine j_iload_n dX5_catches_1 rfl ?_
  refine k_callV1i dX5_catches_2 vX5_catches_90 (s_isBidder hg) rfl (by decide) rfl (Nat.le_of_ble_eq_true rfl) ⟨rfl, rfl⟩ rfl ?_
  rintro _ _ ⟨⟨⟩, rfl⟩
  refine j_if_eq dX5_catches_5 (tgt := 17) rfl (fun c1 => ?_) (fun c1 => ?_)
  · refine j_ldc (v := (-1000001)) dX5_catches_17 cX5_78 ?_
    refine j_iret dX5_catches_19 rfl (rfl) ?_
    exact hQ _ _ (z_pc (g := g) (g' := g') (b := false) ((if_pos c1).trans (rfl)))
  · refine j_iload_n dX5_catches_8 rfl ?_
    refine j_iconst (v := 0) dX5_catches_9 (by decide) ?_
    refine j_iconst (v := 5) dX5_catches_10 (by decide) ?_
    refine k_callS3i dX5_catches_11 vX5_catches_36 (s_in) rfl rfl rfl (Nat.le_of_ble_eq_true rfl) ⟨rfl, rfl⟩ rfl ?_
    rintro _ _ ⟨⟨⟩, rfl⟩
    refine j_if_ne dX5_catches_14 (tgt := 20) rfl (fun c2 => ?_) (fun c2 => ?_)
    · obtain ⟨k, hk, rfl, hb2⟩ := aIs_nat hn hN ‹¬ aIs s b = 0›
      refine j_aload_n dX5_catches_20 rfl ?_
      refine k_callV0v dX5_catches_21 vX5_catches_84 (hch) rfl (by decide)  (Nat.le_of_ble_eq_true rfl) ⟨rfl, rfl⟩ rfl ?_
      rintro _ ⟨-, rfl⟩
      refine j_aload_n dX5_catches_24 rfl ?_
      refine j_iload_n dX5_catches_25 rfl ?_
      refine j_iconst (v := 4) dX5_catches_26 (by decide) ?_
      refine k_callV2i dX5_catches_27 vX5_catches_40 (s_of hg2 k 4 (by omega) (by omega)) rfl (by decide) rfl rfl (Nat.le_of_ble_eq_true rfl) ⟨rfl, rfl⟩ rfl ?_
      rintro _ _ ⟨⟨⟩, rfl⟩
      refine j_istore_n dX5_catches_30 (by decide) ?_
      refine j_aload_n dX5_catches_31 rfl ?_
      refine j_iload_n dX5_catches_32 rfl ?_
      refine j_iconst (v := 4) dX5_catches_33 (by decide) ?_
      refine j_iload_n dX5_catches_34 rfl ?_
      refine k_callV3v dX5_catches_35 vX5_catches_87 (s_lay hg2 k 4 (by omega) (by omega)) rfl (by decide) rfl rfl rfl (Nat.le_of_ble_eq_true rfl) ⟨rfl, rfl⟩ rfl ?_
      rintro _ ⟨-, rfl⟩
      refine j_iload_n dX5_catches_38 rfl ?_
      refine j_iret dX5_catches_39 rfl (rfl) ?_
      exact hQ _ _ (z_pc (g := g) (g' := g') (b := true) ((if_neg c1).trans ((if_neg c2).trans ((by rw [hb2])))))
    · refine j_ldc (v := (-1000001)) dX5_catches_17 cX5_78 ?_
      refine j_iret dX5_catches_19 rfl (rfl) ?_
      exact hQ _ _ (z_pc (g := g) (g' := g') (b := false) ((if_neg c1).trans ((if_pos c2).trans (rfl))))
set_option maxRecDepth 4000 in
set_option maxHeartbeats 1000000 in
theorem s_muffle {g g' : zH} {s : Nat → Int32} (hg : gP g) (hg2 : gP g') (hch : zCh g g' s) {N : Nat} (hn : s 199 = nI N) (hN : N ≤ 12) {b v : Int32} : zCT mX5_muffle [.ref 215, .int b, .int v] 222 (gS g s) 222 (fun r h' => r = some (aSetB s b v 5).1 ∧ h' = gS (cond (aSetB s b v 5).2.1 g' g) (aSetB s b v 5).2.2) := by
  intro X Q hQ
  show zJ X mX5_muffle 222 0 [.ref 215, .int b, .int v, .null] [] 222 (gS g s) Q
  refine j_aload_n dX5_muffle_0 rfl ?_
  refine j_iload_n dX5_muffle_1 rfl ?_
  refine k_callV1i dX5_muffle_2 vX5_muffle_90 (s_isBidder hg) rfl (by decide) rfl (Nat.le_of_ble_eq_true rfl) ⟨rfl, rfl⟩ rfl ?_
  rintro _ _ ⟨⟨⟩, rfl⟩
  refine j_if_eq dX5_muffle_5 (tgt := 17) rfl (fun c1 => ?_) (fun c1 => ?_)
  · refine j_ldc (v := (-1000001)) dX5_muffle_17 cX5_78 ?_
    refine j_iret dX5_muffle_19 rfl (rfl) ?_
    exact hQ _ _ (z_pc (g := g) (g' := g') (b := false) ((if_pos c1).trans (rfl)))
  · refine j_iload_n dX5_muffle_8 rfl ?_
    refine j_iconst (v := 0) dX5_muffle_9 (by decide) ?_
    refine j_iconst (v := 5) dX5_muffle_10 (by decide) ?_
    refine k_callS3i dX5_muffle_11 vX5_muffle_36 (s_in) rfl rfl rfl (Nat.le_of_ble_eq_true rfl) ⟨rfl, rfl⟩ rfl ?_
    rintro _ _ ⟨⟨⟩, rfl⟩
    refine j_if_ne dX5_muffle_14 (tgt := 20) rfl (fun c2 => ?_) (fun c2 => ?_)
    · obtain ⟨k, hk, rfl, hb2⟩ := aIs_nat hn hN ‹¬ aIs s b = 0›
      refine j_aload_n dX5_muffle_20 rfl ?_
      refine k_callV0v dX5_muffle_21 vX5_muffle_84 (hch) rfl (by decide)  (Nat.le_of_ble_eq_true rfl) ⟨rfl, rfl⟩ rfl ?_
      rintro _ ⟨-, rfl⟩
      refine j_aload_n dX5_muffle_24 rfl ?_
      refine j_iload_n dX5_muffle_25 rfl ?_
      refine j_iconst (v := 5) dX5_muffle_26 (by decide) ?_
      refine k_callV2i dX5_muffle_27 vX5_muffle_40 (s_of hg2 k 5 (by omega) (by omega)) rfl (by decide) rfl rfl (Nat.le_of_ble_eq_true rfl) ⟨rfl, rfl⟩ rfl ?_
      rintro _ _ ⟨⟨⟩, rfl⟩
      refine j_istore_n dX5_muffle_30 (by decide) ?_
      refine j_aload_n dX5_muffle_31 rfl ?_
      refine j_iload_n dX5_muffle_32 rfl ?_
      refine j_iconst (v := 5) dX5_muffle_33 (by decide) ?_
      refine j_iload_n dX5_muffle_34 rfl ?_
      refine k_callV3v dX5_muffle_35 vX5_muffle_87 (s_lay hg2 k 5 (by omega) (by omega)) rfl (by decide) rfl rfl rfl (Nat.le_of_ble_eq_true rfl) ⟨rfl, rfl⟩ rfl ?_
      rintro _ ⟨-, rfl⟩
      refine j_iload_n dX5_muffle_38 rfl ?_
      refine j_iret dX5_muffle_39 rfl (rfl) ?_
      exact hQ _ _ (z_pc (g := g) (g' := g') (b := true) ((if_neg c1).trans ((if_neg c2).trans ((by rw [hb2])))))
    · refine j_ldc (v := (-1000001)) dX5_muffle_17 cX5_78 ?_
      refine j_iret dX5_muffle_19 rfl (rfl) ?_
      exact hQ _ _ (z_pc (g := g) (g' := g') (b := false) ((if_neg c1).trans ((if_pos c2).trans (rfl))))
set_option maxRecDepth 4000 in
set_option maxHeartbeats 1000000 in
theorem s_lot {g g' : zH} {s : Nat → Int32} (hg : gP g) (hg2 : gP g') (hch : zCh g g' s) {W : Nat} (hW : s 200 = nI W) (hW8 : W ≤ 8) {rs v : Int32} : zCT mX5_lot [.ref 215, .int rs, .int v] 222 (gS g s) 222 (fun r h' => r = some (aLot s W rs v).1 ∧ h' = gS (cond (aLot s W rs v).2.1 g' g) (aLot s W rs v).2.2) := by
  intro X Q hQ
  show zJ X mX5_lot 222 0 [.ref 215, .int rs, .int v] [] 222 (gS g s) Q
  refine j_iload_n dX5_lot_0 rfl ?_
  refine j_iconst (v := 1) dX5_lot_1 (by decide) ?_
  refine j_bipush (v := 99) dX5_lot_2 (by decide) ?_
  refine k_callS3i dX5_lot_4 vX5_lot_36 (s_in) rfl rfl rfl (Nat.le_of_ble_eq_true rfl) ⟨rfl, rfl⟩ rfl ?_
  rintro _ _ ⟨⟨⟩, rfl⟩
  refine j_if_eq dX5_lot_7 (tgt := 20) rfl (fun c1 => ?_) (fun c1 => ?_)
  · refine j_ldc (v := (-1000001)) dX5_lot_20 cX5_78 ?_
    refine j_iret dX5_lot_22 rfl (rfl) ?_
    exact hQ _ _ (z_pc (g := g) (g' := g') (b := false) ((if_pos c1).trans (rfl)))
  · refine j_iload_n dX5_lot_10 rfl ?_
    refine j_iconst (v := 1) dX5_lot_11 (by decide) ?_
    refine j_bipush (v := 20) dX5_lot_12 (by decide) ?_
    refine k_callS3i dX5_lot_14 vX5_lot_36 (s_in) rfl rfl rfl (Nat.le_of_ble_eq_true rfl) ⟨rfl, rfl⟩ rfl ?_
    rintro _ _ ⟨⟨⟩, rfl⟩
    refine j_if_ne dX5_lot_17 (tgt := 23) rfl (fun c2 => ?_) (fun c2 => ?_)
    · refine j_aload_n dX5_lot_23 rfl ?_
      refine j_get (v := .ref 216) dX5_lot_24 fX5_7 rfl (by decide) (gS_p0 hg) ?_
      refine j_sipush (v := 200) dX5_lot_27 (by decide) ?_
      refine s_ald 200 dX5_lot_30 (rfl) (by first | decide | omega) ?_
      refine j_bipush (v := 8) dX5_lot_31 (by decide) ?_
      refine j_icmp_ne dX5_lot_33 (tgt := 39) rfl (fun c3 => ?_) (fun c3 => ?_)
      · have hW2 : W < 8 := by
          rcases Nat.lt_or_ge W 8 with q | q
          · exact q
          · exact absurd (by rw [hW, show W = 8 by omega]; rfl) ‹¬ s 200 = 8›
        refine j_aload_n dX5_lot_39 rfl ?_
        refine k_callV0v dX5_lot_40 vX5_lot_84 (hch) rfl (by decide)  (Nat.le_of_ble_eq_true rfl) ⟨rfl, rfl⟩ rfl ?_
        rintro _ ⟨-, rfl⟩
        refine j_aload_n dX5_lot_43 rfl ?_
        refine j_get (v := .ref 216) dX5_lot_44 fX5_7 rfl (by decide) (gS_p0 hg2) ?_
        refine j_sipush (v := 132) dX5_lot_47 (by decide) ?_
        refine j_iconst (v := 2) dX5_lot_50 (by decide) ?_
        refine j_aload_n dX5_lot_51 rfl ?_
        refine j_get (v := .ref 216) dX5_lot_52 fX5_7 rfl (by decide) (gS_p0 hg2) ?_
        refine j_sipush (v := 200) dX5_lot_55 (by decide) ?_
        refine s_aldv (v := nI W) 200 dX5_lot_58 (rfl) (by first | decide | omega) (hW) ?_
        refine j_imul dX5_lot_59 ?_
        refine j_iadd dX5_lot_60 ?_
        refine j_iload_n dX5_lot_61 rfl ?_
        refine s_ast (132 + (2 * W)) dX5_lot_62 (by first | rfl | (simp only [z_n, pk_mul, nI_add]; done) | (simp only [z_n, pk_mul, nI_add]; exact pk_sub (by omega)) | (simp only [z_n, pk_mul, nI_add, pk_sub, *]; done)) (by first | decide | omega) ?_
        refine j_aload_n dX5_lot_63 rfl ?_
        refine j_get (v := .ref 216) dX5_lot_64 fX5_7 rfl (by decide) (gS_p0 hg2) ?_
        refine j_sipush (v := 132) dX5_lot_67 (by decide) ?_
        refine j_iconst (v := 2) dX5_lot_70 (by decide) ?_
        refine j_aload_n dX5_lot_71 rfl ?_
        refine j_get (v := .ref 216) dX5_lot_72 fX5_7 rfl (by decide) (gS_p0 hg2) ?_
        refine j_sipush (v := 200) dX5_lot_75 (by decide) ?_
        refine s_aldv (v := nI W) 200 dX5_lot_78 (rfl) (by first | decide | omega) ((by rw [upd_n (by omega)]; exact hW)) ?_
        refine j_imul dX5_lot_79 ?_
        refine j_iadd dX5_lot_80 ?_
        refine j_iconst (v := 1) dX5_lot_81 (by decide) ?_
        refine j_iadd dX5_lot_82 ?_
        refine j_iload_n dX5_lot_83 rfl ?_
        refine s_ast ((132 + (2 * W)) + 1) dX5_lot_84 (by first | rfl | (simp only [z_n, pk_mul, nI_add]; done) | (simp only [z_n, pk_mul, nI_add]; exact pk_sub (by omega)) | (simp only [z_n, pk_mul, nI_add, pk_sub, *]; done)) (by first | decide | omega) ?_
        refine j_aload_n dX5_lot_85 rfl ?_
        refine j_get (v := .ref 216) dX5_lot_86 fX5_7 rfl (by decide) (gS_p0 hg2) ?_
        refine j_sipush (v := 200) dX5_lot_89 (by decide) ?_
        refine j_dup2 dX5_lot_92 rfl rfl ?_
        refine s_ald 200 dX5_lot_93 (rfl) (by first | decide | omega) ?_
        refine j_iconst (v := 1) dX5_lot_94 (by decide) ?_
        refine j_iadd dX5_lot_95 ?_
        refine s_ast 200 dX5_lot_96 (rfl) (by first | decide | omega) ?_
        refine j_aload_n dX5_lot_97 rfl ?_
        refine j_get (v := .ref 216) dX5_lot_98 fX5_7 rfl (by decide) (gS_p0 hg2) ?_
        refine j_sipush (v := 201) dX5_lot_101 (by decide) ?_
        refine j_dup2 dX5_lot_104 rfl rfl ?_
        refine s_ald 201 dX5_lot_105 (rfl) (by first | decide | omega) ?_
        refine j_iconst (v := 1) dX5_lot_106 (by decide) ?_
        refine j_iadd dX5_lot_107 ?_
        refine s_ast 201 dX5_lot_108 (rfl) (by first | decide | omega) ?_
        refine j_aload_n dX5_lot_109 rfl ?_
        refine j_get (v := .ref 216) dX5_lot_110 fX5_7 rfl (by decide) (gS_p0 hg2) ?_
        refine j_sipush (v := 200) dX5_lot_113 (by decide) ?_
        refine s_ald 200 dX5_lot_116 (rfl) (by first | decide | omega) ?_
        refine j_iret dX5_lot_117 rfl (rfl) ?_
        exact hQ _ _ (z_pc (g := g) (g' := g') (b := true) ((if_neg c1).trans ((if_neg c2).trans ((if_neg c3).trans (rfl)))))
      · refine j_ldc (v := (-1000003)) dX5_lot_36 cX5_83 ?_
        refine j_iret dX5_lot_38 rfl (rfl) ?_
        exact hQ _ _ (z_pc (g := g) (g' := g') (b := false) ((if_neg c1).trans ((if_neg c2).trans ((if_pos c3).trans (rfl)))))
    · refine j_ldc (v := (-1000001)) dX5_lot_20 cX5_78 ?_
      refine j_iret dX5_lot_22 rfl (rfl) ?_
      exact hQ _ _ (z_pc (g := g) (g' := g') (b := false) ((if_neg c1).trans ((if_pos c2).trans (rfl))))
set_option maxRecDepth 4000 in
set_option maxHeartbeats 1000000 in
theorem s_cough {g g' : zH} {s : Nat → Int32} (hg : gP g) (hg2 : gP g') (hch : zCh g g' s) {N : Nat} (hn : s 199 = nI N) (hN : N ≤ 12) {b : Int32} : zCT mX5_cough [.ref 215, .int b] 222 (gS g s) 222 (fun r h' => r = some (aCough s b).1 ∧ h' = gS (cond (aCough s b).2.1 g' g) (aCough s b).2.2) := by
  intro X Q hQ
  show zJ X mX5_cough 222 0 [.ref 215, .int b] [] 222 (gS g s) Q
  refine j_aload_n dX5_cough_0 rfl ?_
  refine j_iload_n dX5_cough_1 rfl ?_
  refine k_callV1i dX5_cough_2 vX5_cough_90 (s_isBidder hg) rfl (by decide) rfl (Nat.le_of_ble_eq_true rfl) ⟨rfl, rfl⟩ rfl ?_
  rintro _ _ ⟨⟨⟩, rfl⟩
  refine j_if_ne dX5_cough_5 (tgt := 11) rfl (fun c1 => ?_) (fun c1 => ?_)
  · obtain ⟨k, hk, rfl, hb2⟩ := aIs_nat hn hN ‹¬ aIs s b = 0›
    refine j_aload_n dX5_cough_11 rfl ?_
    refine k_callV0v dX5_cough_12 vX5_cough_84 (hch) rfl (by decide)  (Nat.le_of_ble_eq_true rfl) ⟨rfl, rfl⟩ rfl ?_
    rintro _ ⟨-, rfl⟩
    refine j_aload_n dX5_cough_15 rfl ?_
    refine j_iload_n dX5_cough_16 rfl ?_
    refine j_iconst (v := 0) dX5_cough_17 (by decide) ?_
    refine k_callV2i dX5_cough_18 vX5_cough_68 (s_coughs hg2 k (by omega)) rfl (by decide) rfl rfl (Nat.le_of_ble_eq_true rfl) ⟨rfl, rfl⟩ rfl ?_
    rintro _ _ ⟨⟨⟩, rfl⟩
    refine j_iret dX5_cough_21 rfl (rfl) ?_
    exact hQ _ _ (z_pc (g := g) (g' := g') (b := true) ((if_neg c1).trans ((by rw [hb2]))))
  · refine j_ldc (v := (-1000001)) dX5_cough_8 cX5_78 ?_
    refine j_iret dX5_cough_10 rfl (rfl) ?_
    exact hQ _ _ (z_pc (g := g) (g' := g') (b := false) ((if_pos c1).trans (rfl)))
set_option maxRecDepth 4000 in
set_option maxHeartbeats 1000000 in
theorem s_beats {g g' : zH} {s : Nat → Int32} (hg : gP g) (hg2 : gP g') (hch : zCh g g' s) {N : Nat} (hok : aOk s N) {many : Int32} : zCT mX5_beats [.ref 215, .int many] 222 (gS g s) 222 (fun r h' => r = some (aBeats s N many).1 ∧ h' = gS (cond (aBeats s N many).2.1 g' g) (aBeats s N many).2.2) := by
  intro X Q hQ
  show zJ X mX5_beats 222 0 [.ref 215, .int many, .null] [] 222 (gS g s) Q
  refine j_iload_n dX5_beats_0 rfl ?_
  refine j_iconst (v := 1) dX5_beats_1 (by decide) ?_
  refine j_bipush (v := 50) dX5_beats_2 (by decide) ?_
  refine k_callS3i dX5_beats_4 vX5_beats_36 (s_in) rfl rfl rfl (Nat.le_of_ble_eq_true rfl) ⟨rfl, rfl⟩ rfl ?_
  rintro _ _ ⟨⟨⟩, rfl⟩
  refine j_if_ne dX5_beats_7 (tgt := 13) rfl (fun c1 => ?_) (fun c1 => ?_)
  · refine j_aload_n dX5_beats_13 rfl ?_
    refine j_get (v := .ref 216) dX5_beats_14 fX5_7 rfl (by decide) (gS_p0 hg) ?_
    refine j_sipush (v := 198) dX5_beats_17 (by decide) ?_
    refine s_ald 198 dX5_beats_20 (rfl) (by first | decide | omega) ?_
    refine j_iload_n dX5_beats_21 rfl ?_
    refine j_iadd dX5_beats_22 ?_
    refine j_sipush (v := 9999) dX5_beats_23 (by decide) ?_
    refine j_icmp_le dX5_beats_26 (tgt := 32) rfl (fun c2 => ?_) (fun c2 => ?_)
    · obtain ⟨m, hm1, hm2, rfl, hb2⟩ := aIn_nat (a := 1) (b := 50) (by omega) (by omega) ‹¬ aIn many 1 50 = 0›
      refine j_aload_n dX5_beats_32 rfl ?_
      refine k_callV0v dX5_beats_33 vX5_beats_84 (hch) rfl (by decide)  (Nat.le_of_ble_eq_true rfl) ⟨rfl, rfl⟩ rfl ?_
      rintro _ ⟨-, rfl⟩
      refine j_aload_n dX5_beats_36 rfl ?_
      refine k_callV0i dX5_beats_37 vX5_beats_96 (s_gone hg2) rfl (by decide)  (Nat.le_of_ble_eq_true rfl) ⟨rfl, rfl⟩ rfl ?_
      rintro _ _ ⟨⟨⟩, rfl⟩
      refine j_istore_n dX5_beats_40 (by decide) ?_
      refine j_aload_n dX5_beats_41 rfl ?_
      refine j_iload_n dX5_beats_42 rfl ?_
      refine k_callV1v dX5_beats_43 vX5_beats_99 (s_pass hg2 hok m (by omega)) rfl (by decide) rfl (Nat.le_of_ble_eq_true rfl) ⟨rfl, rfl⟩ rfl ?_
      rintro _ ⟨-, rfl⟩
      refine j_aload_n dX5_beats_46 rfl ?_
      refine k_callV0i dX5_beats_47 vX5_beats_96 (s_gone hg2) rfl (by decide)  (Nat.le_of_ble_eq_true rfl) ⟨rfl, rfl⟩ rfl ?_
      rintro _ _ ⟨⟨⟩, rfl⟩
      refine j_iload_n dX5_beats_50 rfl ?_
      refine j_isub dX5_beats_51 ?_
      refine j_iret dX5_beats_52 rfl (rfl) ?_
      exact hQ _ _ (z_pc (g := g) (g' := g') (b := true) ((if_neg c1).trans ((if_pos c2).trans ((by rw [hb2])))))
    · refine j_ldc (v := (-1000003)) dX5_beats_29 cX5_83 ?_
      refine j_iret dX5_beats_31 rfl (rfl) ?_
      exact hQ _ _ (z_pc (g := g) (g' := g') (b := false) ((if_neg c1).trans ((if_neg c2).trans (rfl))))
  · refine j_ldc (v := (-1000001)) dX5_beats_10 cX5_78 ?_
    refine j_iret dX5_beats_12 rfl (rfl) ?_
    exact hQ _ _ (z_pc (g := g) (g' := g') (b := false) ((if_pos c1).trans (rfl)))
set_option maxRecDepth 4000 in
set_option maxHeartbeats 1000000 in
theorem s_set {g g' : zH} {s : Nat → Int32} (hg : gP g) (hg2 : gP g') (hch : zCh g g' s) {k v : Int32} : zCT mX5_set [.ref 215, .int k, .int v] 222 (gS g s) 222 (fun r h' => r = some (aSet s k v).1 ∧ h' = gS (cond (aSet s k v).2.1 g' g) (aSet s k v).2.2) := by
  intro X Q hQ
  show zJ X mX5_set 222 0 [.ref 215, .int k, .int v, .null] [] 222 (gS g s) Q
  refine j_iload_n dX5_set_0 rfl ?_
  refine j_iconst (v := 0) dX5_set_1 (by decide) ?_
  refine j_iconst (v := 2) dX5_set_2 (by decide) ?_
  refine k_callS3i dX5_set_3 vX5_set_36 (s_in) rfl rfl rfl (Nat.le_of_ble_eq_true rfl) ⟨rfl, rfl⟩ rfl ?_
  rintro _ _ ⟨⟨⟩, rfl⟩
  refine j_if_eq dX5_set_6 (tgt := 19) rfl (fun c1 => ?_) (fun c1 => ?_)
  · refine j_ldc (v := (-1000001)) dX5_set_19 cX5_78 ?_
    refine j_iret dX5_set_21 rfl (rfl) ?_
    exact hQ _ _ (z_pc (g := g) (g' := g') (b := false) ((if_pos c1).trans (rfl)))
  · refine j_iload_n dX5_set_9 rfl ?_
    refine j_iconst (v := 1) dX5_set_10 (by decide) ?_
    refine j_bipush (v := 9) dX5_set_11 (by decide) ?_
    refine k_callS3i dX5_set_13 vX5_set_36 (s_in) rfl rfl rfl (Nat.le_of_ble_eq_true rfl) ⟨rfl, rfl⟩ rfl ?_
    rintro _ _ ⟨⟨⟩, rfl⟩
    refine j_if_ne dX5_set_16 (tgt := 22) rfl (fun c2 => ?_) (fun c2 => ?_)
    · obtain ⟨j, hj1, hj2, rfl, hb2⟩ := aIn_nat (a := 0) (b := 2) (by omega) (by omega) ‹¬ aIn k 0 2 = 0›
      refine j_aload_n dX5_set_22 rfl ?_
      refine k_callV0v dX5_set_23 vX5_set_84 (hch) rfl (by decide)  (Nat.le_of_ble_eq_true rfl) ⟨rfl, rfl⟩ rfl ?_
      rintro _ ⟨-, rfl⟩
      refine j_aload_n dX5_set_26 rfl ?_
      refine j_get (v := .ref 216) dX5_set_27 fX5_7 rfl (by decide) (gS_p0 hg2) ?_
      refine j_sipush (v := 212) dX5_set_30 (by decide) ?_
      refine j_iload_n dX5_set_33 rfl ?_
      refine j_iadd dX5_set_34 ?_
      refine s_ald (212 + j) dX5_set_35 (by first | rfl | (simp only [z_n, pk_mul, nI_add]; done) | (simp only [z_n, pk_mul, nI_add]; exact pk_sub (by omega)) | (simp only [z_n, pk_mul, nI_add, pk_sub, *]; done)) (by first | decide | omega) ?_
      refine j_istore_n dX5_set_36 (by decide) ?_
      refine j_aload_n dX5_set_37 rfl ?_
      refine j_get (v := .ref 216) dX5_set_38 fX5_7 rfl (by decide) (gS_p0 hg2) ?_
      refine j_sipush (v := 212) dX5_set_41 (by decide) ?_
      refine j_iload_n dX5_set_44 rfl ?_
      refine j_iadd dX5_set_45 ?_
      refine j_iload_n dX5_set_46 rfl ?_
      refine s_ast (212 + j) dX5_set_47 (by first | rfl | (simp only [z_n, pk_mul, nI_add]; done) | (simp only [z_n, pk_mul, nI_add]; exact pk_sub (by omega)) | (simp only [z_n, pk_mul, nI_add, pk_sub, *]; done)) (by first | decide | omega) ?_
      refine j_iload_n dX5_set_48 rfl ?_
      refine j_iret dX5_set_49 rfl (rfl) ?_
      exact hQ _ _ (z_pc (g := g) (g' := g') (b := true) ((if_neg c1).trans ((if_neg c2).trans ((by rw [hb2])))))
    · refine j_ldc (v := (-1000001)) dX5_set_19 cX5_78 ?_
      refine j_iret dX5_set_21 rfl (rfl) ?_
      exact hQ _ _ (z_pc (g := g) (g' := g') (b := false) ((if_neg c1).trans ((if_pos c2).trans (rfl))))
def aZr (t : Nat → Int32) (k : Nat) : Nat → Int32 := fun j => if 151 ≤ j ∧ j < k then 0 else t j
theorem aZr_0 {t : Nat → Int32} : aZr t 151 = t := by
  funext j
  unfold aZr
  rw [if_neg (by omega)]
theorem aZr_up {t : Nat → Int32} {k : Nat} (h : 151 ≤ k) : upd (aZr t k) k 0 = aZr t (k + 1) := by
  funext j
  unfold upd aZr
  by_cases q : j = k
  · subst q
    rw [if_pos rfl, if_pos (by omega)]
  · rw [if_neg q]
    by_cases h2 : 151 ≤ j ∧ j < k
    · rw [if_pos h2, if_pos (by omega)]
    · rw [if_neg h2, if_neg (by omega)]
def aWs (t : Nat → Int32) (k : Nat) : Nat → Int32 := fun j => if 132 ≤ j ∧ j < 132 + k then t (j + 2) else t j
theorem aWs_0 {t : Nat → Int32} : aWs t 0 = t := by
  funext j
  unfold aWs
  rw [if_neg (by omega)]
theorem aWs_up {t : Nat → Int32} {k : Nat} : upd (aWs t k) (132 + k) (aWs t k (132 + k + 2)) = aWs t (k + 1) := by
  funext j
  unfold upd aWs
  by_cases q : j = 132 + k
  · subst q
    rw [if_pos rfl, if_neg (by omega), if_pos (by omega)]
  · rw [if_neg q]
    by_cases h2 : 132 ≤ j ∧ j < 132 + k
    · rw [if_pos h2, if_pos (by omega)]
    · rw [if_neg h2, if_neg (by omega)]
def aUp1 (s : Nat → Int32) : Nat → Int32 :=
  let t := upd s 148 1
  let t := upd t 149 (t 132)
  upd t 150 (t 133)
def aUp2 (t : Nat → Int32) : Nat → Int32 := upd t 200 (t 200 - 1)
def aUpT (s : Nat → Int32) (W : Nat) : Nat → Int32 := aWs (aUp2 (aZr (aUp1 s) 158)) (2 * (W - 1))
def aUp (s : Nat → Int32) (W : Nat) : Int32 × Bool × (Nat → Int32) := if s 148 = 1 then (-1000002, false, s) else if s 200 = 0 then (-1000002, false, s) else (aUpT s W 149, true, aUpT s W)
set_option maxRecDepth 4000 in
set_option maxHeartbeats 2000000 in
theorem s_putUp_l2 {g : zH} (hg : gP g) {t : Nat → Int32} {W : Nat} (hW8 : W ≤ 8) (hW : t 200 = nI (W - 1)) {X : Nat × (Nat → Int32)} {Q : zQt} (hQ : Q (some (aWs t (2 * (W - 1)) 149)) 222 (gS g (aWs t (2 * (W - 1))))) : ∀ (n k : Nat), k + n = 2 * (W - 1) → zJ X mX5_putUp 222 109 [.ref 215, .int (nI k)] [] 222 (gS g (aWs t k)) Q := by
  intro n
  induction n with
  | zero =>
    intro k hk
    obtain rfl : k = 2 * (W - 1) := by omega
    refine j_iload_n dX5_putUp_109 rfl ?_
    refine j_iconst (v := 2) dX5_putUp_110 (by decide) ?_
    refine j_aload_n dX5_putUp_111 rfl ?_
    refine j_get (v := .ref 216) dX5_putUp_112 fX5_7 rfl (by decide) (gS_p0 hg) ?_
    refine j_sipush (v := 200) dX5_putUp_115 (by decide) ?_
    refine s_aldv (v := nI (W - 1)) 200 dX5_putUp_118 (rfl) (by first | decide | omega) (((show aWs t _ 200 = t 200 from if_neg (by omega)).trans hW)) ?_
    refine j_imul dX5_putUp_119 ?_
    refine j_icmp_ge dX5_putUp_120 (tgt := 151) rfl (fun _ => ?_) (fun c1 => absurd (show 2 * nI (W - 1) ≤ nI (2 * (W - 1)) by rw [show (2 : Int32) = nI 2 from rfl, pk_mul]; exact nI_le (by omega) (by omega)) c1)
    refine j_aload_n dX5_putUp_151 rfl ?_
    refine j_get (v := .ref 216) dX5_putUp_152 fX5_7 rfl (by decide) (gS_p0 hg) ?_
    refine j_sipush (v := 149) dX5_putUp_155 (by decide) ?_
    refine s_ald 149 dX5_putUp_158 (rfl) (by first | decide | omega) ?_
    refine j_iret dX5_putUp_159 rfl (rfl) ?_
    exact hQ
  | succ n ih =>
    intro k hk
    refine j_iload_n dX5_putUp_109 rfl ?_
    refine j_iconst (v := 2) dX5_putUp_110 (by decide) ?_
    refine j_aload_n dX5_putUp_111 rfl ?_
    refine j_get (v := .ref 216) dX5_putUp_112 fX5_7 rfl (by decide) (gS_p0 hg) ?_
    refine j_sipush (v := 200) dX5_putUp_115 (by decide) ?_
    refine s_aldv (v := nI (W - 1)) 200 dX5_putUp_118 (rfl) (by first | decide | omega) (((show aWs t _ 200 = t 200 from if_neg (by omega)).trans hW)) ?_
    refine j_imul dX5_putUp_119 ?_
    refine j_icmp_ge dX5_putUp_120 (tgt := 151) rfl (fun c1 => absurd c1 (show ¬ 2 * nI (W - 1) ≤ nI k by rw [show (2 : Int32) = nI 2 from rfl, pk_mul]; exact nI_ge (by omega) (by omega))) (fun _ => ?_)
    refine j_aload_n dX5_putUp_123 rfl ?_
    refine j_get (v := .ref 216) dX5_putUp_124 fX5_7 rfl (by decide) (gS_p0 hg) ?_
    refine j_sipush (v := 132) dX5_putUp_127 (by decide) ?_
    refine j_iload_n dX5_putUp_130 rfl ?_
    refine j_iadd dX5_putUp_131 ?_
    refine j_aload_n dX5_putUp_132 rfl ?_
    refine j_get (v := .ref 216) dX5_putUp_133 fX5_7 rfl (by decide) (gS_p0 hg) ?_
    refine j_sipush (v := 132) dX5_putUp_136 (by decide) ?_
    refine j_iload_n dX5_putUp_139 rfl ?_
    refine j_iadd dX5_putUp_140 ?_
    refine j_iconst (v := 2) dX5_putUp_141 (by decide) ?_
    refine j_iadd dX5_putUp_142 ?_
    refine s_ald ((132 + k) + 2) dX5_putUp_143 (by first | rfl | (simp only [z_n, pk_mul, nI_add]; done) | (simp only [z_n, pk_mul, nI_add]; exact pk_sub (by omega)) | (simp only [z_n, pk_mul, nI_add, pk_sub, *]; done)) (by first | decide | omega) ?_
    refine s_ast (132 + k) dX5_putUp_144 (by first | rfl | (simp only [z_n, pk_mul, nI_add]; done) | (simp only [z_n, pk_mul, nI_add]; exact pk_sub (by omega)) | (simp only [z_n, pk_mul, nI_add, pk_sub, *]; done)) (by first | decide | omega) ?_
    refine j_iinc (v := nI (k + 1)) dX5_putUp_145 rfl z_inc (by decide) ?_
    refine j_goto dX5_putUp_148 (tgt := 109) rfl ?_
    rw [aWs_up]
    exact ih (k + 1) (by omega)
set_option maxRecDepth 4000 in
set_option maxHeartbeats 2000000 in
theorem s_putUp_l1 {g : zH} (hg : gP g) {t : Nat → Int32} {W : Nat} (hW8 : W ≤ 8) (hW0 : 0 < W) (hW : t 200 = nI W) {X : Nat × (Nat → Int32)} {Q : zQt} (hQ : Q (some (aWs (aUp2 (aZr t 158)) (2 * (W - 1)) 149)) 222 (gS g (aWs (aUp2 (aZr t 158)) (2 * (W - 1))))) : ∀ (n k : Nat), k + n = 158 → 151 ≤ k → zJ X mX5_putUp 222 75 [.ref 215, .int (nI k)] [] 222 (gS g (aZr t k)) Q := by
  intro n
  induction n with
  | zero =>
    intro k hk hk1
    obtain rfl : k = 158 := by omega
    refine j_iload_n dX5_putUp_75 rfl ?_
    refine j_sipush (v := 157) dX5_putUp_76 (by decide) ?_
    refine j_icmp_gt dX5_putUp_79 (tgt := 95) rfl (fun _ => ?_) (fun c1 => absurd (show 157 < nI 158 by decide) c1)
    refine j_aload_n dX5_putUp_95 rfl ?_
    refine j_get (v := .ref 216) dX5_putUp_96 fX5_7 rfl (by decide) (gS_p0 hg) ?_
    refine j_sipush (v := 200) dX5_putUp_99 (by decide) ?_
    refine j_dup2 dX5_putUp_102 rfl rfl ?_
    refine s_ald 200 dX5_putUp_103 (rfl) (by first | decide | omega) ?_
    refine j_iconst (v := 1) dX5_putUp_104 (by decide) ?_
    refine j_isub dX5_putUp_105 ?_
    refine s_ast 200 dX5_putUp_106 (rfl) (by first | decide | omega) ?_
    refine j_iconst (v := 0) dX5_putUp_107 (by decide) ?_
    refine j_istore_n dX5_putUp_108 (by decide) ?_
    rw [← aWs_0 (t := upd _ 200 _)]
    exact s_putUp_l2 hg hW8 (by show upd _ 200 _ 200 = _; rw [upd_s, show aZr t 158 200 = t 200 from if_neg (by omega), hW]; obtain ⟨m, rfl⟩ : ∃ m, W = m + 1 := ⟨W - 1, by omega⟩; exact nI_pred m) hQ (2 * (W - 1)) 0 (by omega)
  | succ n ih =>
    intro k hk hk1
    refine j_iload_n dX5_putUp_75 rfl ?_
    refine j_sipush (v := 157) dX5_putUp_76 (by decide) ?_
    refine j_icmp_gt dX5_putUp_79 (tgt := 95) rfl (fun c1 => absurd c1 (show ¬ nI 157 < nI k from nI_nlt (by omega) (by omega))) (fun _ => ?_)
    refine j_aload_n dX5_putUp_82 rfl ?_
    refine j_get (v := .ref 216) dX5_putUp_83 fX5_7 rfl (by decide) (gS_p0 hg) ?_
    refine j_iload_n dX5_putUp_86 rfl ?_
    refine j_iconst (v := 0) dX5_putUp_87 (by decide) ?_
    refine s_ast k dX5_putUp_88 (by first | rfl | (simp only [z_n, pk_mul, nI_add]; done) | (simp only [z_n, pk_mul, nI_add]; exact pk_sub (by omega)) | (simp only [z_n, pk_mul, nI_add, pk_sub, *]; done)) (by first | decide | omega) ?_
    refine j_iinc (v := nI (k + 1)) dX5_putUp_89 rfl z_inc (by decide) ?_
    refine j_goto dX5_putUp_92 (tgt := 75) rfl ?_
    rw [aZr_up (by omega)]
    exact ih (k + 1) (by omega) (by omega)
set_option maxRecDepth 4000 in
set_option maxHeartbeats 1000000 in
theorem s_putUp {g g' : zH} {s : Nat → Int32} (hg : gP g) (hg2 : gP g') (hch : zCh g g' s) {W : Nat} (hW : s 200 = nI W) (hW8 : W ≤ 8) : zCT mX5_putUp [.ref 215] 222 (gS g s) 222 (fun r h' => r = some (aUp s W).1 ∧ h' = gS (cond (aUp s W).2.1 g' g) (aUp s W).2.2) := by
  intro X Q hQ
  show zJ X mX5_putUp 222 0 [.ref 215, .null] [] 222 (gS g s) Q
  refine j_aload_n dX5_putUp_0 rfl ?_
  refine j_get (v := .ref 216) dX5_putUp_1 fX5_7 rfl (by decide) (gS_p0 hg) ?_
  refine j_sipush (v := 148) dX5_putUp_4 (by decide) ?_
  refine s_ald 148 dX5_putUp_7 (rfl) (by first | decide | omega) ?_
  refine j_iconst (v := 1) dX5_putUp_8 (by decide) ?_
  refine j_icmp_eq dX5_putUp_9 (tgt := 23) rfl (fun c1 => ?_) (fun c1 => ?_)
  · refine j_ldc (v := (-1000002)) dX5_putUp_23 cX5_82 ?_
    refine j_iret dX5_putUp_25 rfl (rfl) ?_
    exact hQ _ _ (z_pc (g := g) (g' := g') (b := false) ((if_pos c1).trans (rfl)))
  · refine j_aload_n dX5_putUp_12 rfl ?_
    refine j_get (v := .ref 216) dX5_putUp_13 fX5_7 rfl (by decide) (gS_p0 hg) ?_
    refine j_sipush (v := 200) dX5_putUp_16 (by decide) ?_
    refine s_ald 200 dX5_putUp_19 (rfl) (by first | decide | omega) ?_
    refine j_if_ne dX5_putUp_20 (tgt := 26) rfl (fun c2 => ?_) (fun c2 => ?_)
    · refine j_aload_n dX5_putUp_26 rfl ?_
      refine k_callV0v dX5_putUp_27 vX5_putUp_84 (hch) rfl (by decide)  (Nat.le_of_ble_eq_true rfl) ⟨rfl, rfl⟩ rfl ?_
      rintro _ ⟨-, rfl⟩
      refine j_aload_n dX5_putUp_30 rfl ?_
      refine j_get (v := .ref 216) dX5_putUp_31 fX5_7 rfl (by decide) (gS_p0 hg2) ?_
      refine j_sipush (v := 148) dX5_putUp_34 (by decide) ?_
      refine j_iconst (v := 1) dX5_putUp_37 (by decide) ?_
      refine s_ast 148 dX5_putUp_38 (rfl) (by first | decide | omega) ?_
      refine j_aload_n dX5_putUp_39 rfl ?_
      refine j_get (v := .ref 216) dX5_putUp_40 fX5_7 rfl (by decide) (gS_p0 hg2) ?_
      refine j_sipush (v := 149) dX5_putUp_43 (by decide) ?_
      refine j_aload_n dX5_putUp_46 rfl ?_
      refine j_get (v := .ref 216) dX5_putUp_47 fX5_7 rfl (by decide) (gS_p0 hg2) ?_
      refine j_sipush (v := 132) dX5_putUp_50 (by decide) ?_
      refine s_ald 132 dX5_putUp_53 (rfl) (by first | decide | omega) ?_
      refine s_ast 149 dX5_putUp_54 (rfl) (by first | decide | omega) ?_
      refine j_aload_n dX5_putUp_55 rfl ?_
      refine j_get (v := .ref 216) dX5_putUp_56 fX5_7 rfl (by decide) (gS_p0 hg2) ?_
      refine j_sipush (v := 150) dX5_putUp_59 (by decide) ?_
      refine j_aload_n dX5_putUp_62 rfl ?_
      refine j_get (v := .ref 216) dX5_putUp_63 fX5_7 rfl (by decide) (gS_p0 hg2) ?_
      refine j_sipush (v := 133) dX5_putUp_66 (by decide) ?_
      refine s_ald 133 dX5_putUp_69 (rfl) (by first | decide | omega) ?_
      refine s_ast 150 dX5_putUp_70 (rfl) (by first | decide | omega) ?_
      refine j_sipush (v := 151) dX5_putUp_71 (by decide) ?_
      refine j_istore_n dX5_putUp_74 (by decide) ?_
      have hW0 : 0 < W := by
        rcases Nat.eq_zero_or_pos W with q | q
        · exact absurd (by rw [hW, q]; rfl) ‹¬ s 200 = 0›
        · exact q
      rw [← aZr_0 (t := upd _ 150 _)]
      exact s_putUp_l1 hg2 hW8 hW0 (by show upd _ 150 _ 200 = _; rw [upd_n (by omega), upd_n (by omega), upd_n (by omega)]; exact hW) (hQ _ _ (z_pc (g := g) (g' := g') (b := true) ((if_neg c1).trans ((if_neg c2).trans (rfl))))) 7 151 (by omega) (by omega)
    · refine j_ldc (v := (-1000002)) dX5_putUp_23 cX5_82 ?_
      refine j_iret dX5_putUp_25 rfl (rfl) ?_
      exact hQ _ _ (z_pc (g := g) (g' := g') (b := false) ((if_neg c1).trans ((if_pos c2).trans (rfl))))
end
