-- begun from kit/laws/SKELETON.whole (PART A) and claim/NAMES.whole (printed): by wip/whole/mknames.py
-- ===== PART A: goes FIRST, ahead of the names: the tables' words, and 'selects' of the private methods out of them =====
/-- a private method of a class that the tables say can be made, by its rows of tables_1 -/
def lw_okq (q : MethodName × Nat) : Prop := (q.1.cls ≠ "java/lang/invoke/MethodHandle" ∧ q.1.cls ≠ "java/lang/invoke/VarHandle") ∧ Cond.instantiable q.1.cls q.2 ∈ tables_1 ∧ Cond.privateMethod q.1 ∈ tables_1 ∧ Cond.instanceMethod q.1 ∈ tables_1
theorem lw_p0 : lw_okq (⟨"CoughBids", "keep", "(I)I"⟩, 5) := ⟨⟨by decide +kernel, by decide +kernel⟩, List.mem_of_getElem? (i := 12) (by decide +kernel), List.mem_of_getElem? (i := 288) (by decide +kernel), List.mem_of_getElem? (i := 289) (by decide +kernel)⟩
theorem lw_p1 : lw_okq (⟨"CoughBids", "dropOldest", "()V"⟩, 5) := ⟨⟨by decide +kernel, by decide +kernel⟩, List.mem_of_getElem? (i := 12) (by decide +kernel), List.mem_of_getElem? (i := 292) (by decide +kernel), List.mem_of_getElem? (i := 293) (by decide +kernel)⟩
theorem lw_p2 : lw_okq (⟨"CoughBids$Auction", "doubtBid", "()V"⟩, 17) := ⟨⟨by decide +kernel, by decide +kernel⟩, List.mem_of_getElem? (i := 21) (by decide +kernel), List.mem_of_getElem? (i := 364) (by decide +kernel), List.mem_of_getElem? (i := 365) (by decide +kernel)⟩
theorem lw_p3 : lw_okq (⟨"CoughBids$Auction", "close", "(I)V"⟩, 17) := ⟨⟨by decide +kernel, by decide +kernel⟩, List.mem_of_getElem? (i := 21) (by decide +kernel), List.mem_of_getElem? (i := 368) (by decide +kernel), List.mem_of_getElem? (i := 369) (by decide +kernel)⟩
theorem lw_p4 : lw_okq (⟨"CoughBids$Auction", "hushOrHammer", "()V"⟩, 17) := ⟨⟨by decide +kernel, by decide +kernel⟩, List.mem_of_getElem? (i := 21) (by decide +kernel), List.mem_of_getElem? (i := 389) (by decide +kernel), List.mem_of_getElem? (i := 390) (by decide +kernel)⟩
theorem lw_p5 : lw_okq (⟨"CoughBids$Auction", "letHammerFall", "()V"⟩, 17) := ⟨⟨by decide +kernel, by decide +kernel⟩, List.mem_of_getElem? (i := 21) (by decide +kernel), List.mem_of_getElem? (i := 393) (by decide +kernel), List.mem_of_getElem? (i := 394) (by decide +kernel)⟩
theorem lw_p6 : lw_okq (⟨"CoughBids$Auction", "sitsBesideCold", "(LCoughBids$Bidder;)Z"⟩, 17) := ⟨⟨by decide +kernel, by decide +kernel⟩, List.mem_of_getElem? (i := 21) (by decide +kernel), List.mem_of_getElem? (i := 413) (by decide +kernel), List.mem_of_getElem? (i := 414) (by decide +kernel)⟩
theorem lw_p7 : lw_okq (⟨"CoughBids$Script", "readOrder", "()Z"⟩, 9) := ⟨⟨by decide +kernel, by decide +kernel⟩, List.mem_of_getElem? (i := 190) (by decide +kernel), List.mem_of_getElem? (i := 571) (by decide +kernel), List.mem_of_getElem? (i := 572) (by decide +kernel)⟩
theorem lw_p8 : lw_okq (⟨"CoughBids$Script", "next", "()C"⟩, 9) := ⟨⟨by decide +kernel, by decide +kernel⟩, List.mem_of_getElem? (i := 190) (by decide +kernel), List.mem_of_getElem? (i := 575) (by decide +kernel), List.mem_of_getElem? (i := 576) (by decide +kernel)⟩
theorem lw_p9 : lw_okq (⟨"CoughBids$Script", "readCharacter", "(C)Z"⟩, 9) := ⟨⟨by decide +kernel, by decide +kernel⟩, List.mem_of_getElem? (i := 190) (by decide +kernel), List.mem_of_getElem? (i := 582) (by decide +kernel), List.mem_of_getElem? (i := 583) (by decide +kernel)⟩
theorem lw_p10 : lw_okq (⟨"CoughBids$Script", "readNumber", "(I)Z"⟩, 9) := ⟨⟨by decide +kernel, by decide +kernel⟩, List.mem_of_getElem? (i := 190) (by decide +kernel), List.mem_of_getElem? (i := 586) (by decide +kernel), List.mem_of_getElem? (i := 587) (by decide +kernel)⟩
theorem lw_p11 : lw_okq (⟨"CoughBids$Script", "noteFault", "(III)V"⟩, 9) := ⟨⟨by decide +kernel, by decide +kernel⟩, List.mem_of_getElem? (i := 190) (by decide +kernel), List.mem_of_getElem? (i := 590) (by decide +kernel), List.mem_of_getElem? (i := 591) (by decide +kernel)⟩
theorem lw_p12 : lw_okq (⟨"CoughBidsModel", "seated", "(II)I"⟩, 15) := ⟨⟨by decide +kernel, by decide +kernel⟩, List.mem_of_getElem? (i := 609) (by decide +kernel), List.mem_of_getElem? (i := 672) (by decide +kernel), List.mem_of_getElem? (i := 673) (by decide +kernel)⟩
theorem lw_p13 : lw_okq (⟨"CoughBidsModel", "of", "(II)I"⟩, 15) := ⟨⟨by decide +kernel, by decide +kernel⟩, List.mem_of_getElem? (i := 609) (by decide +kernel), List.mem_of_getElem? (i := 676) (by decide +kernel), List.mem_of_getElem? (i := 677) (by decide +kernel)⟩
theorem lw_p14 : lw_okq (⟨"CoughBidsModel", "changes", "()V"⟩, 15) := ⟨⟨by decide +kernel, by decide +kernel⟩, List.mem_of_getElem? (i := 609) (by decide +kernel), List.mem_of_getElem? (i := 683) (by decide +kernel), List.mem_of_getElem? (i := 684) (by decide +kernel)⟩
theorem lw_p15 : lw_okq (⟨"CoughBidsModel", "lay", "(III)V"⟩, 15) := ⟨⟨by decide +kernel, by decide +kernel⟩, List.mem_of_getElem? (i := 609) (by decide +kernel), List.mem_of_getElem? (i := 687) (by decide +kernel), List.mem_of_getElem? (i := 688) (by decide +kernel)⟩
def lw_privs_1 : List (MethodName × Nat) := [(⟨"CoughBids", "keep", "(I)I"⟩, 5), (⟨"CoughBids", "dropOldest", "()V"⟩, 5), (⟨"CoughBids$Auction", "doubtBid", "()V"⟩, 17), (⟨"CoughBids$Auction", "close", "(I)V"⟩, 17), (⟨"CoughBids$Auction", "hushOrHammer", "()V"⟩, 17), (⟨"CoughBids$Auction", "letHammerFall", "()V"⟩, 17), (⟨"CoughBids$Auction", "sitsBesideCold", "(LCoughBids$Bidder;)Z"⟩, 17), (⟨"CoughBids$Script", "readOrder", "()Z"⟩, 9), (⟨"CoughBids$Script", "next", "()C"⟩, 9), (⟨"CoughBids$Script", "readCharacter", "(C)Z"⟩, 9), (⟨"CoughBids$Script", "readNumber", "(I)Z"⟩, 9), (⟨"CoughBids$Script", "noteFault", "(III)V"⟩, 9), (⟨"CoughBidsModel", "seated", "(II)I"⟩, 15), (⟨"CoughBidsModel", "of", "(II)I"⟩, 15), (⟨"CoughBidsModel", "changes", "()V"⟩, 15), (⟨"CoughBidsModel", "lay", "(III)V"⟩, 15)]
theorem lw_r1 : ∀ q ∈ lw_privs_1, lw_okq q := List.forall_mem_cons.mpr ⟨lw_p0, List.forall_mem_cons.mpr ⟨lw_p1, List.forall_mem_cons.mpr ⟨lw_p2, List.forall_mem_cons.mpr ⟨lw_p3, List.forall_mem_cons.mpr ⟨lw_p4, List.forall_mem_cons.mpr ⟨lw_p5, List.forall_mem_cons.mpr ⟨lw_p6, List.forall_mem_cons.mpr ⟨lw_p7, List.forall_mem_cons.mpr ⟨lw_p8, List.forall_mem_cons.mpr ⟨lw_p9, List.forall_mem_cons.mpr ⟨lw_p10, List.forall_mem_cons.mpr ⟨lw_p11, List.forall_mem_cons.mpr ⟨lw_p12, List.forall_mem_cons.mpr ⟨lw_p13, List.forall_mem_cons.mpr ⟨lw_p14, List.forall_mem_cons.mpr ⟨lw_p15, fun _ h => absurd h List.not_mem_nil⟩⟩⟩⟩⟩⟩⟩⟩⟩⟩⟩⟩⟩⟩⟩⟩
theorem lw_p16 : lw_okq (⟨"CoughBidsModel", "isBidder", "(I)Z"⟩, 15) := ⟨⟨by decide +kernel, by decide +kernel⟩, List.mem_of_getElem? (i := 609) (by decide +kernel), List.mem_of_getElem? (i := 695) (by decide +kernel), List.mem_of_getElem? (i := 696) (by decide +kernel)⟩
theorem lw_p17 : lw_okq (⟨"CoughBidsModel", "coughs", "(II)I"⟩, 15) := ⟨⟨by decide +kernel, by decide +kernel⟩, List.mem_of_getElem? (i := 609) (by decide +kernel), List.mem_of_getElem? (i := 715) (by decide +kernel), List.mem_of_getElem? (i := 716) (by decide +kernel)⟩
theorem lw_p18 : lw_okq (⟨"CoughBidsModel", "barred", "(I)I"⟩, 15) := ⟨⟨by decide +kernel, by decide +kernel⟩, List.mem_of_getElem? (i := 609) (by decide +kernel), List.mem_of_getElem? (i := 719) (by decide +kernel), List.mem_of_getElem? (i := 720) (by decide +kernel)⟩
theorem lw_p19 : lw_okq (⟨"CoughBidsModel", "loud", "(I)I"⟩, 15) := ⟨⟨by decide +kernel, by decide +kernel⟩, List.mem_of_getElem? (i := 609) (by decide +kernel), List.mem_of_getElem? (i := 723) (by decide +kernel), List.mem_of_getElem? (i := 724) (by decide +kernel)⟩
theorem lw_p20 : lw_okq (⟨"CoughBidsModel", "asked", "()I"⟩, 15) := ⟨⟨by decide +kernel, by decide +kernel⟩, List.mem_of_getElem? (i := 609) (by decide +kernel), List.mem_of_getElem? (i := 727) (by decide +kernel), List.mem_of_getElem? (i := 728) (by decide +kernel)⟩
theorem lw_p21 : lw_okq (⟨"CoughBidsModel", "adds", "(III)V"⟩, 15) := ⟨⟨by decide +kernel, by decide +kernel⟩, List.mem_of_getElem? (i := 609) (by decide +kernel), List.mem_of_getElem? (i := 731) (by decide +kernel), List.mem_of_getElem? (i := 732) (by decide +kernel)⟩
theorem lw_p22 : lw_okq (⟨"CoughBidsModel", "goes", "(I)V"⟩, 15) := ⟨⟨by decide +kernel, by decide +kernel⟩, List.mem_of_getElem? (i := 609) (by decide +kernel), List.mem_of_getElem? (i := 735) (by decide +kernel), List.mem_of_getElem? (i := 736) (by decide +kernel)⟩
theorem lw_p23 : lw_okq (⟨"CoughBidsModel", "gone", "()I"⟩, 15) := ⟨⟨by decide +kernel, by decide +kernel⟩, List.mem_of_getElem? (i := 609) (by decide +kernel), List.mem_of_getElem? (i := 743) (by decide +kernel), List.mem_of_getElem? (i := 744) (by decide +kernel)⟩
theorem lw_p24 : lw_okq (⟨"CoughBidsModel", "pass", "(I)V"⟩, 15) := ⟨⟨by decide +kernel, by decide +kernel⟩, List.mem_of_getElem? (i := 609) (by decide +kernel), List.mem_of_getElem? (i := 747) (by decide +kernel), List.mem_of_getElem? (i := 748) (by decide +kernel)⟩
theorem lw_p25 : lw_okq (⟨"CoughBidsModel", "beat", "()V"⟩, 15) := ⟨⟨by decide +kernel, by decide +kernel⟩, List.mem_of_getElem? (i := 609) (by decide +kernel), List.mem_of_getElem? (i := 751) (by decide +kernel), List.mem_of_getElem? (i := 752) (by decide +kernel)⟩
theorem lw_p26 : lw_okq (⟨"CoughBidsModel", "coughsNext", "(I)Z"⟩, 15) := ⟨⟨by decide +kernel, by decide +kernel⟩, List.mem_of_getElem? (i := 609) (by decide +kernel), List.mem_of_getElem? (i := 755) (by decide +kernel), List.mem_of_getElem? (i := 756) (by decide +kernel)⟩
theorem lw_p27 : lw_okq (⟨"CoughBidsModel", "hammers", "()V"⟩, 15) := ⟨⟨by decide +kernel, by decide +kernel⟩, List.mem_of_getElem? (i := 609) (by decide +kernel), List.mem_of_getElem? (i := 759) (by decide +kernel), List.mem_of_getElem? (i := 760) (by decide +kernel)⟩
theorem lw_p28 : lw_okq (⟨"CoughBidsModel", "nightPasses", "()V"⟩, 15) := ⟨⟨by decide +kernel, by decide +kernel⟩, List.mem_of_getElem? (i := 609) (by decide +kernel), List.mem_of_getElem? (i := 767) (by decide +kernel), List.mem_of_getElem? (i := 768) (by decide +kernel)⟩
theorem lw_p29 : lw_okq (⟨"CoughBidsModel", "catchesFrom", "(II)Z"⟩, 15) := ⟨⟨by decide +kernel, by decide +kernel⟩, List.mem_of_getElem? (i := 609) (by decide +kernel), List.mem_of_getElem? (i := 771) (by decide +kernel), List.mem_of_getElem? (i := 772) (by decide +kernel)⟩
theorem lw_p30 : lw_okq (⟨"CoughBidsModel", "colds", "()I"⟩, 15) := ⟨⟨by decide +kernel, by decide +kernel⟩, List.mem_of_getElem? (i := 609) (by decide +kernel), List.mem_of_getElem? (i := 775) (by decide +kernel), List.mem_of_getElem? (i := 776) (by decide +kernel)⟩
theorem lw_p31 : lw_okq (⟨"CoughBidsModel", "byPurses", "()I"⟩, 15) := ⟨⟨by decide +kernel, by decide +kernel⟩, List.mem_of_getElem? (i := 609) (by decide +kernel), List.mem_of_getElem? (i := 851) (by decide +kernel), List.mem_of_getElem? (i := 852) (by decide +kernel)⟩
def lw_privs_2 : List (MethodName × Nat) := [(⟨"CoughBidsModel", "isBidder", "(I)Z"⟩, 15), (⟨"CoughBidsModel", "coughs", "(II)I"⟩, 15), (⟨"CoughBidsModel", "barred", "(I)I"⟩, 15), (⟨"CoughBidsModel", "loud", "(I)I"⟩, 15), (⟨"CoughBidsModel", "asked", "()I"⟩, 15), (⟨"CoughBidsModel", "adds", "(III)V"⟩, 15), (⟨"CoughBidsModel", "goes", "(I)V"⟩, 15), (⟨"CoughBidsModel", "gone", "()I"⟩, 15), (⟨"CoughBidsModel", "pass", "(I)V"⟩, 15), (⟨"CoughBidsModel", "beat", "()V"⟩, 15), (⟨"CoughBidsModel", "coughsNext", "(I)Z"⟩, 15), (⟨"CoughBidsModel", "hammers", "()V"⟩, 15), (⟨"CoughBidsModel", "nightPasses", "()V"⟩, 15), (⟨"CoughBidsModel", "catchesFrom", "(II)Z"⟩, 15), (⟨"CoughBidsModel", "colds", "()I"⟩, 15), (⟨"CoughBidsModel", "byPurses", "()I"⟩, 15)]
theorem lw_r2 : ∀ q ∈ lw_privs_2, lw_okq q := List.forall_mem_cons.mpr ⟨lw_p16, List.forall_mem_cons.mpr ⟨lw_p17, List.forall_mem_cons.mpr ⟨lw_p18, List.forall_mem_cons.mpr ⟨lw_p19, List.forall_mem_cons.mpr ⟨lw_p20, List.forall_mem_cons.mpr ⟨lw_p21, List.forall_mem_cons.mpr ⟨lw_p22, List.forall_mem_cons.mpr ⟨lw_p23, List.forall_mem_cons.mpr ⟨lw_p24, List.forall_mem_cons.mpr ⟨lw_p25, List.forall_mem_cons.mpr ⟨lw_p26, List.forall_mem_cons.mpr ⟨lw_p27, List.forall_mem_cons.mpr ⟨lw_p28, List.forall_mem_cons.mpr ⟨lw_p29, List.forall_mem_cons.mpr ⟨lw_p30, List.forall_mem_cons.mpr ⟨lw_p31, fun _ h => absurd h List.not_mem_nil⟩⟩⟩⟩⟩⟩⟩⟩⟩⟩⟩⟩⟩⟩⟩⟩
theorem lw_p32 : lw_okq (⟨"CoughBidsModel", "plays", "()Z"⟩, 15) := ⟨⟨by decide +kernel, by decide +kernel⟩, List.mem_of_getElem? (i := 609) (by decide +kernel), List.mem_of_getElem? (i := 871) (by decide +kernel), List.mem_of_getElem? (i := 872) (by decide +kernel)⟩
theorem lw_p33 : lw_okq (⟨"CoughBidsModel", "parses", "()Z"⟩, 15) := ⟨⟨by decide +kernel, by decide +kernel⟩, List.mem_of_getElem? (i := 609) (by decide +kernel), List.mem_of_getElem? (i := 875) (by decide +kernel), List.mem_of_getElem? (i := 876) (by decide +kernel)⟩
theorem lw_p34 : lw_okq (⟨"CoughBidsModel", "isAt", "(II)Z"⟩, 15) := ⟨⟨by decide +kernel, by decide +kernel⟩, List.mem_of_getElem? (i := 609) (by decide +kernel), List.mem_of_getElem? (i := 879) (by decide +kernel), List.mem_of_getElem? (i := 880) (by decide +kernel)⟩
theorem lw_p35 : lw_okq (⟨"CoughBidsModel", "numbered", "(I)Z"⟩, 15) := ⟨⟨by decide +kernel, by decide +kernel⟩, List.mem_of_getElem? (i := 609) (by decide +kernel), List.mem_of_getElem? (i := 886) (by decide +kernel), List.mem_of_getElem? (i := 887) (by decide +kernel)⟩
theorem lw_p36 : lw_okq (⟨"CoughBidsModel", "sign", "(I)Z"⟩, 15) := ⟨⟨by decide +kernel, by decide +kernel⟩, List.mem_of_getElem? (i := 609) (by decide +kernel), List.mem_of_getElem? (i := 890) (by decide +kernel), List.mem_of_getElem? (i := 891) (by decide +kernel)⟩
theorem lw_p37 : lw_okq (⟨"CoughBidsModel", "does", "()I"⟩, 15) := ⟨⟨by decide +kernel, by decide +kernel⟩, List.mem_of_getElem? (i := 609) (by decide +kernel), List.mem_of_getElem? (i := 894) (by decide +kernel), List.mem_of_getElem? (i := 895) (by decide +kernel)⟩
def lw_privs_3 : List (MethodName × Nat) := [(⟨"CoughBidsModel", "plays", "()Z"⟩, 15), (⟨"CoughBidsModel", "parses", "()Z"⟩, 15), (⟨"CoughBidsModel", "isAt", "(II)Z"⟩, 15), (⟨"CoughBidsModel", "numbered", "(I)Z"⟩, 15), (⟨"CoughBidsModel", "sign", "(I)Z"⟩, 15), (⟨"CoughBidsModel", "does", "()I"⟩, 15)]
theorem lw_r3 : ∀ q ∈ lw_privs_3, lw_okq q := List.forall_mem_cons.mpr ⟨lw_p32, List.forall_mem_cons.mpr ⟨lw_p33, List.forall_mem_cons.mpr ⟨lw_p34, List.forall_mem_cons.mpr ⟨lw_p35, List.forall_mem_cons.mpr ⟨lw_p36, List.forall_mem_cons.mpr ⟨lw_p37, fun _ h => absurd h List.not_mem_nil⟩⟩⟩⟩⟩⟩
def lw_privs : List (MethodName × Nat) := lw_privs_1 ++ (lw_privs_2 ++ (lw_privs_3))
def lw_tbl : List Cond := k2_sels lw_privs ++ tables_1
theorem lw_privs_ok : ∀ q ∈ lw_privs, lw_okq q := by
  show ∀ q ∈ lw_privs_1 ++ (lw_privs_2 ++ (lw_privs_3)), lw_okq q
  exact List.forall_mem_append.mpr ⟨lw_r1, List.forall_mem_append.mpr ⟨lw_r2, lw_r3⟩⟩
/-- the streams that the claim lets the run draw from -/
abbrev lw_cs : List Choice := [Jvm.Choice.named "NaN.bits"]
theorem lw_bits : nanBits ∈ lw_cs := by first | decide | exact List.mem_cons_self | simp [lw_cs, nanBits]
-- ===== end of PART A; then your names; then what follows =====
/-! ===== BEGIN words of one list among another's, by their places ===== -/
/-! ===== END ===== -/

/-! ===== BEGIN printed: names, fields, word lists, decode rows ===== -/
def RX0 : String := "CoughBids$Auction"
def TX0 : u_T := fun k => match k with
  | 0 => ("CoughBids$Auction", "bidders", "[LCoughBids$Bidder;", true)
  | 1 => ("CoughBids$Auction", "queue", "[LCoughBids$Lot;", true)
  | 2 => ("CoughBids$Auction", "gone", "[LCoughBids$Lot;", true)
  | 3 => ("CoughBids$Auction", "fates", "[I", true)
  | 4 => ("CoughBids$Auction", "settings", "[I", true)
  | 5 => ("CoughBids$Auction", "bidderCount", "I", false)
  | 6 => ("CoughBids$Auction", "waitingCount", "I", false)
  | 7 => ("CoughBids$Auction", "goneCount", "I", false)
  | 8 => ("CoughBids$Auction", "isUp", "Z", false)
  | 9 => ("CoughBids$Auction", "raised", "LCoughBids$Lot;", false)
  | 10 => ("CoughBids$Auction", "beatsPassed", "I", false)
  | 11 => ("CoughBids$Auction", "nightsPassed", "I", false)
  | 12 => ("CoughBids$Auction", "lotsCame", "I", false)
  | 13 => ("CoughBids$Auction", "coinsPaid", "I", false)
  | 14 => ("CoughBids$Auction", "coughs", "I", false)
  | 15 => ("CoughBids$Auction", "bids", "I", false)
  | _ => ("CoughBids$Auction", "doubts", "I", false)
def tyX0 : Nat → FieldType := fun k => match k with
  | 0 => .array (.object "CoughBids$Bidder")
  | 1 => .array (.object "CoughBids$Lot")
  | 2 => .array (.object "CoughBids$Lot")
  | 3 => .array .int
  | 4 => .array .int
  | 5 => .int
  | 6 => .int
  | 7 => .int
  | 8 => .boolean
  | 9 => .object "CoughBids$Lot"
  | 10 => .int
  | 11 => .int
  | 12 => .int
  | 13 => .int
  | 14 => .int
  | 15 => .int
  | _ => .int
abbrev wsX00 : List Cond := u_ws RX0 TX0 17
theorem nmX0 : ∀ a, a < 17 → ∀ b, b < 17 → a ≠ b → (TX0 a).2.1 ≠ (TX0 b).2.1 := by decide +kernel
theorem tyX0_ok : ∀ k, k < 17 → parseFieldDescriptor (TX0 k).2.2.1 = some (tyX0 k) := by decide +kernel
abbrev cX0_init : ByteArray := prog_2_method_1_code
def yX0_init : MethodName := ⟨RX0, "<init>", "()V"⟩
abbrev cX0_copyFrom : ByteArray := prog_2_method_2_code
def yX0_copyFrom : MethodName := ⟨RX0, "copyFrom", "(LCoughBids$Auction;)V"⟩
abbrev cX0_hasBidder : ByteArray := prog_2_method_3_code
def yX0_hasBidder : MethodName := ⟨RX0, "hasBidder", "(I)Z"⟩
abbrev cX0_findSeated : ByteArray := prog_2_method_4_code
def yX0_findSeated : MethodName := ⟨RX0, "findSeated", "(II)I"⟩
abbrev cX0_seatBidder : ByteArray := prog_2_method_5_code
def yX0_seatBidder : MethodName := ⟨RX0, "seatBidder", "(IIII)I"⟩
abbrev cX0_changeCold : ByteArray := prog_2_method_6_code
def yX0_changeCold : MethodName := ⟨RX0, "changeCold", "(II)I"⟩
abbrev cX0_changeMuffler : ByteArray := prog_2_method_7_code
def yX0_changeMuffler : MethodName := ⟨RX0, "changeMuffler", "(II)I"⟩
abbrev cX0_bidderSetWithCold : ByteArray := prog_2_method_8_code
def yX0_bidderSetWithCold : MethodName := ⟨RX0, "bidderSetWithCold", "()I"⟩
abbrev cX0_changeSetting : ByteArray := prog_2_method_9_code
def yX0_changeSetting : MethodName := ⟨RX0, "changeSetting", "(II)I"⟩
abbrev cX0_addLot : ByteArray := prog_2_method_10_code
def yX0_addLot : MethodName := ⟨RX0, "addLot", "(II)I"⟩
abbrev cX0_raiseNextLot : ByteArray := prog_2_method_11_code
def yX0_raiseNextLot : MethodName := ⟨RX0, "raiseNextLot", "()I"⟩
abbrev cX0_close : ByteArray := prog_2_method_12_code
def yX0_close : MethodName := ⟨RX0, "close", "(I)V"⟩
abbrev cX0_reasonAgainst : ByteArray := prog_2_method_13_code
def yX0_reasonAgainst : MethodName := ⟨RX0, "reasonAgainst", "(I)I"⟩
abbrev cX0_takeCough : ByteArray := prog_2_method_14_code
def yX0_takeCough : MethodName := ⟨RX0, "takeCough", "(IZ)I"⟩
abbrev cX0_doubtBid : ByteArray := prog_2_method_15_code
def yX0_doubtBid : MethodName := ⟨RX0, "doubtBid", "()V"⟩
abbrev cX0_isDueToCough : ByteArray := prog_2_method_16_code
def yX0_isDueToCough : MethodName := ⟨RX0, "isDueToCough", "(I)Z"⟩
abbrev cX0_passBeats : ByteArray := prog_2_method_17_code
def yX0_passBeats : MethodName := ⟨RX0, "passBeats", "(I)I"⟩
abbrev cX0_passBeat : ByteArray := prog_2_method_18_code
def yX0_passBeat : MethodName := ⟨RX0, "passBeat", "()V"⟩
abbrev cX0_hushOrHammer : ByteArray := prog_2_method_19_code
def yX0_hushOrHammer : MethodName := ⟨RX0, "hushOrHammer", "()V"⟩
abbrev cX0_letHammerFall : ByteArray := prog_2_method_20_code
def yX0_letHammerFall : MethodName := ⟨RX0, "letHammerFall", "()V"⟩
abbrev cX0_passNight : ByteArray := prog_2_method_21_code
def yX0_passNight : MethodName := ⟨RX0, "passNight", "()I"⟩
abbrev cX0_spreadColds : ByteArray := prog_2_method_22_code
def yX0_spreadColds : MethodName := ⟨RX0, "spreadColds", "()V"⟩
abbrev cX0_sitsBesideCold : ByteArray := prog_2_method_23_code
def yX0_sitsBesideCold : MethodName := ⟨RX0, "sitsBesideCold", "(LCoughBids$Bidder;)Z"⟩
abbrev cX0_coinsGoneFromPurses : ByteArray := prog_2_method_24_code
def yX0_coinsGoneFromPurses : MethodName := ⟨RX0, "coinsGoneFromPurses", "()I"⟩
abbrev cX0_total : ByteArray := prog_2_method_25_code
def yX0_total : MethodName := ⟨RX0, "total", "(I)I"⟩
abbrev cX0_carryOut : ByteArray := prog_2_method_26_code
def yX0_carryOut : MethodName := ⟨RX0, "carryOut", "(C[I)I"⟩
def RX1 : String := "CoughBids$Bidder"
def TX1 : u_T := fun k => match k with
  | 0 => ("CoughBids$Bidder", "row", "I", false)
  | 1 => ("CoughBids$Bidder", "seat", "I", false)
  | 2 => ("CoughBids$Bidder", "purse", "I", false)
  | 3 => ("CoughBids$Bidder", "purseAtFirst", "I", false)
  | 4 => ("CoughBids$Bidder", "strength", "I", false)
  | 5 => ("CoughBids$Bidder", "cold", "I", false)
  | 6 => ("CoughBids$Bidder", "muffler", "I", false)
  | 7 => ("CoughBids$Bidder", "coughs", "I", false)
  | 8 => ("CoughBids$Bidder", "bids", "I", false)
  | 9 => ("CoughBids$Bidder", "lotsBought", "I", false)
  | _ => ("CoughBids$Bidder", "coinsPaid", "I", false)
def tyX1 : Nat → FieldType := fun k => match k with
  | 0 => .int
  | 1 => .int
  | 2 => .int
  | 3 => .int
  | 4 => .int
  | 5 => .int
  | 6 => .int
  | 7 => .int
  | 8 => .int
  | 9 => .int
  | _ => .int
abbrev wsX10 : List Cond := u_ws RX1 TX1 11
theorem nmX1 : ∀ a, a < 11 → ∀ b, b < 11 → a ≠ b → (TX1 a).2.1 ≠ (TX1 b).2.1 := by decide +kernel
theorem tyX1_ok : ∀ k, k < 11 → parseFieldDescriptor (TX1 k).2.2.1 = some (tyX1 k) := by decide +kernel
abbrev cX1_init : ByteArray := prog_3_method_1_code
def yX1_init : MethodName := ⟨RX1, "<init>", "()V"⟩
abbrev cX1_sitDown : ByteArray := prog_3_method_2_code
def yX1_sitDown : MethodName := ⟨RX1, "sitDown", "(IIII)V"⟩
abbrev cX1_copyFrom : ByteArray := prog_3_method_3_code
def yX1_copyFrom : MethodName := ⟨RX1, "copyFrom", "(LCoughBids$Bidder;)V"⟩
abbrev cX1_loudness : ByteArray := prog_3_method_4_code
def yX1_loudness : MethodName := ⟨RX1, "loudness", "()I"⟩
abbrev cX1_isBeside : ByteArray := prog_3_method_5_code
def yX1_isBeside : MethodName := ⟨RX1, "isBeside", "(LCoughBids$Bidder;)Z"⟩
abbrev cX1_pay : ByteArray := prog_3_method_6_code
def yX1_pay : MethodName := ⟨RX1, "pay", "(I)V"⟩
abbrev cX1_tell : ByteArray := prog_3_method_7_code
def yX1_tell : MethodName := ⟨RX1, "tell", "(I)I"⟩
def RX2 : String := "CoughBids$Lot"
def TX2 : u_T := fun k => match k with
  | 0 => ("CoughBids$Lot", "reserve", "I", false)
  | 1 => ("CoughBids$Lot", "step", "I", false)
  | 2 => ("CoughBids$Lot", "latestBid", "I", false)
  | 3 => ("CoughBids$Lot", "latestBidder", "I", false)
  | 4 => ("CoughBids$Lot", "isLatestForCold", "Z", false)
  | 5 => ("CoughBids$Lot", "hasBidSinceBeat", "Z", false)
  | 6 => ("CoughBids$Lot", "bids", "I", false)
  | 7 => ("CoughBids$Lot", "doubts", "I", false)
  | 8 => ("CoughBids$Lot", "hush", "I", false)
  | _ => ("CoughBids$Lot", "fate", "I", false)
def tyX2 : Nat → FieldType := fun k => match k with
  | 0 => .int
  | 1 => .int
  | 2 => .int
  | 3 => .int
  | 4 => .boolean
  | 5 => .boolean
  | 6 => .int
  | 7 => .int
  | 8 => .int
  | _ => .int
abbrev wsX20 : List Cond := u_ws RX2 TX2 10
theorem nmX2 : ∀ a, a < 10 → ∀ b, b < 10 → a ≠ b → (TX2 a).2.1 ≠ (TX2 b).2.1 := by decide +kernel
theorem tyX2_ok : ∀ k, k < 10 → parseFieldDescriptor (TX2 k).2.2.1 = some (tyX2 k) := by decide +kernel
abbrev cX2_init : ByteArray := prog_4_method_1_code
def yX2_init : MethodName := ⟨RX2, "<init>", "()V"⟩
abbrev cX2_come : ByteArray := prog_4_method_2_code
def yX2_come : MethodName := ⟨RX2, "come", "(II)V"⟩
abbrev cX2_copyFrom : ByteArray := prog_4_method_3_code
def yX2_copyFrom : MethodName := ⟨RX2, "copyFrom", "(LCoughBids$Lot;)V"⟩
abbrev cX2_hasBid : ByteArray := prog_4_method_4_code
def yX2_hasBid : MethodName := ⟨RX2, "hasBid", "()Z"⟩
abbrev cX2_asked : ByteArray := prog_4_method_5_code
def yX2_asked : MethodName := ⟨RX2, "asked", "()I"⟩
abbrev cX2_takeBid : ByteArray := prog_4_method_6_code
def yX2_takeBid : MethodName := ⟨RX2, "takeBid", "(IIZ)V"⟩
abbrev cX2_tellUp : ByteArray := prog_4_method_7_code
def yX2_tellUp : MethodName := ⟨RX2, "tellUp", "(I)I"⟩
abbrev cX2_tellGone : ByteArray := prog_4_method_8_code
def yX2_tellGone : MethodName := ⟨RX2, "tellGone", "(I)I"⟩
def RX3 : String := "CoughBids$Script"
def TX3 : u_T := fun k => match k with
  | 0 => ("CoughBids$Script", "characters", "[C", true)
  | 1 => ("CoughBids$Script", "numbers", "[I", true)
  | 2 => ("CoughBids$Script", "length", "I", false)
  | 3 => ("CoughBids$Script", "order", "C", false)
  | 4 => ("CoughBids$Script", "place", "I", false)
  | 5 => ("CoughBids$Script", "ordersDone", "I", false)
  | 6 => ("CoughBids$Script", "faultPosition", "I", false)
  | 7 => ("CoughBids$Script", "faultReason", "I", false)
  | _ => ("CoughBids$Script", "faultCause", "I", false)
def tyX3 : Nat → FieldType := fun k => match k with
  | 0 => .array .char
  | 1 => .array .int
  | 2 => .int
  | 3 => .char
  | 4 => .int
  | 5 => .int
  | 6 => .int
  | 7 => .int
  | _ => .int
abbrev wsX30 : List Cond := u_ws RX3 TX3 9
theorem nmX3 : ∀ a, a < 9 → ∀ b, b < 9 → a ≠ b → (TX3 a).2.1 ≠ (TX3 b).2.1 := by decide +kernel
theorem tyX3_ok : ∀ k, k < 9 → parseFieldDescriptor (TX3 k).2.2.1 = some (tyX3 k) := by decide +kernel
abbrev cX3_init : ByteArray := prog_5_method_1_code
def yX3_init : MethodName := ⟨RX3, "<init>", "()V"⟩
abbrev cX3_append : ByteArray := prog_5_method_2_code
def yX3_append : MethodName := ⟨RX3, "append", "(I)I"⟩
abbrev cX3_hasFault : ByteArray := prog_5_method_3_code
def yX3_hasFault : MethodName := ⟨RX3, "hasFault", "()Z"⟩
abbrev cX3_performOn : ByteArray := prog_5_method_4_code
def yX3_performOn : MethodName := ⟨RX3, "performOn", "(LCoughBids$Auction;)V"⟩
abbrev cX3_noteFault : ByteArray := prog_5_method_5_code
def yX3_noteFault : MethodName := ⟨RX3, "noteFault", "(III)V"⟩
abbrev cX3_numbersOf : ByteArray := prog_5_method_6_code
def yX3_numbersOf : MethodName := ⟨RX3, "numbersOf", "(C)I"⟩
abbrev cX3_readOrder : ByteArray := prog_5_method_7_code
def yX3_readOrder : MethodName := ⟨RX3, "readOrder", "()Z"⟩
abbrev cX3_next : ByteArray := prog_5_method_8_code
def yX3_next : MethodName := ⟨RX3, "next", "()C"⟩
abbrev cX3_readCharacter : ByteArray := prog_5_method_9_code
def yX3_readCharacter : MethodName := ⟨RX3, "readCharacter", "(C)Z"⟩
abbrev cX3_readNumber : ByteArray := prog_5_method_10_code
def yX3_readNumber : MethodName := ⟨RX3, "readNumber", "(I)Z"⟩
def RX4 : String := "CoughBids"
def TX4 : u_T := fun k => match k with
  | 0 => ("CoughBids", "history", "[LCoughBids$Auction;", true)
  | 1 => ("CoughBids", "script", "LCoughBids$Script;", true)
  | 2 => ("CoughBids", "recorded", "I", false)
  | 3 => ("CoughBids", "now", "LCoughBids$Auction;", false)
  | _ => ("CoughBids", "trial", "LCoughBids$Auction;", false)
def tyX4 : Nat → FieldType := fun k => match k with
  | 0 => .array (.object "CoughBids$Auction")
  | 1 => .object "CoughBids$Script"
  | 2 => .int
  | 3 => .object "CoughBids$Auction"
  | _ => .object "CoughBids$Auction"
abbrev wsX40 : List Cond := u_ws RX4 TX4 5
theorem nmX4 : ∀ a, a < 5 → ∀ b, b < 5 → a ≠ b → (TX4 a).2.1 ≠ (TX4 b).2.1 := by decide +kernel
theorem tyX4_ok : ∀ k, k < 5 → parseFieldDescriptor (TX4 k).2.2.1 = some (tyX4 k) := by decide +kernel
abbrev cX4_init : ByteArray := prog_1_method_1_code
def yX4_init : MethodName := ⟨RX4, "<init>", "()V"⟩
abbrev cX4_bidder : ByteArray := prog_1_method_2_code
def yX4_bidder : MethodName := ⟨RX4, "bidder", "(IIII)I"⟩
abbrev cX4_catches : ByteArray := prog_1_method_3_code
def yX4_catches : MethodName := ⟨RX4, "catches", "(II)I"⟩
abbrev cX4_muffle : ByteArray := prog_1_method_4_code
def yX4_muffle : MethodName := ⟨RX4, "muffle", "(II)I"⟩
abbrev cX4_lot : ByteArray := prog_1_method_5_code
def yX4_lot : MethodName := ⟨RX4, "lot", "(II)I"⟩
abbrev cX4_putUp : ByteArray := prog_1_method_6_code
def yX4_putUp : MethodName := ⟨RX4, "putUp", "()I"⟩
abbrev cX4_cough : ByteArray := prog_1_method_7_code
def yX4_cough : MethodName := ⟨RX4, "cough", "(I)I"⟩
abbrev cX4_beats : ByteArray := prog_1_method_8_code
def yX4_beats : MethodName := ⟨RX4, "beats", "(I)I"⟩
abbrev cX4_night : ByteArray := prog_1_method_9_code
def yX4_night : MethodName := ⟨RX4, "night", "()I"⟩
abbrev cX4_set : ByteArray := prog_1_method_10_code
def yX4_set : MethodName := ⟨RX4, "set", "(II)I"⟩
abbrev cX4_bidderOf : ByteArray := prog_1_method_11_code
def yX4_bidderOf : MethodName := ⟨RX4, "bidderOf", "(II)I"⟩
abbrev cX4_at : ByteArray := prog_1_method_12_code
def yX4_at : MethodName := ⟨RX4, "at", "(II)I"⟩
abbrev cX4_up : ByteArray := prog_1_method_13_code
def yX4_up : MethodName := ⟨RX4, "up", "(I)I"⟩
abbrev cX4_waiting : ByteArray := prog_1_method_14_code
def yX4_waiting : MethodName := ⟨RX4, "waiting", "(II)I"⟩
abbrev cX4_book : ByteArray := prog_1_method_15_code
def yX4_book : MethodName := ⟨RX4, "book", "(II)I"⟩
abbrev cX4_why : ByteArray := prog_1_method_16_code
def yX4_why : MethodName := ⟨RX4, "why", "(I)I"⟩
abbrev cX4_ifBeats : ByteArray := prog_1_method_17_code
def yX4_ifBeats : MethodName := ⟨RX4, "ifBeats", "(II)I"⟩
abbrev cX4_goneIn : ByteArray := prog_1_method_18_code
def yX4_goneIn : MethodName := ⟨RX4, "goneIn", "()I"⟩
abbrev cX4_coughing : ByteArray := prog_1_method_19_code
def yX4_coughing : MethodName := ⟨RX4, "coughing", "()I"⟩
abbrev cX4_loudest : ByteArray := prog_1_method_20_code
def yX4_loudest : MethodName := ⟨RX4, "loudest", "()I"⟩
abbrev cX4_ifNights : ByteArray := prog_1_method_21_code
def yX4_ifNights : MethodName := ⟨RX4, "ifNights", "(I)I"⟩
abbrev cX4_mean : ByteArray := prog_1_method_22_code
def yX4_mean : MethodName := ⟨RX4, "mean", "()I"⟩
abbrev cX4_count : ByteArray := prog_1_method_23_code
def yX4_count : MethodName := ⟨RX4, "count", "(I)I"⟩
abbrev cX4_undo : ByteArray := prog_1_method_24_code
def yX4_undo : MethodName := ⟨RX4, "undo", "()I"⟩
abbrev cX4_type : ByteArray := prog_1_method_25_code
def yX4_type : MethodName := ⟨RX4, "type", "(I)I"⟩
abbrev cX4_clearText : ByteArray := prog_1_method_26_code
def yX4_clearText : MethodName := ⟨RX4, "clearText", "()I"⟩
abbrev cX4_fault : ByteArray := prog_1_method_27_code
def yX4_fault : MethodName := ⟨RX4, "fault", "(I)I"⟩
abbrev cX4_play : ByteArray := prog_1_method_28_code
def yX4_play : MethodName := ⟨RX4, "play", "()I"⟩
abbrev cX4_keep : ByteArray := prog_1_method_29_code
def yX4_keep : MethodName := ⟨RX4, "keep", "(I)I"⟩
abbrev cX4_dropOldest : ByteArray := prog_1_method_30_code
def yX4_dropOldest : MethodName := ⟨RX4, "dropOldest", "()V"⟩
abbrev cX4_isWithin : ByteArray := prog_1_method_31_code
def yX4_isWithin : MethodName := ⟨RX4, "isWithin", "(III)Z"⟩
abbrev cX4_isSeat : ByteArray := prog_1_method_32_code
def yX4_isSeat : MethodName := ⟨RX4, "isSeat", "(II)Z"⟩
abbrev cX4_bitsOf : ByteArray := prog_1_method_33_code
def yX4_bitsOf : MethodName := ⟨RX4, "bitsOf", "(F)I"⟩
def RX5 : String := "CoughBidsModel"
def TX5 : u_T := fun k => match k with
  | 0 => ("CoughBidsModel", "s", "[I", true)
  | 1 => ("CoughBidsModel", "past", "[I", true)
  | 2 => ("CoughBidsModel", "held", "[I", true)
  | 3 => ("CoughBidsModel", "spare", "[I", true)
  | 4 => ("CoughBidsModel", "pasts", "I", false)
  | 5 => ("CoughBidsModel", "runs", "Z", false)
  | 6 => ("CoughBidsModel", "text", "[I", true)
  | 7 => ("CoughBidsModel", "typed", "I", false)
  | 8 => ("CoughBidsModel", "spot", "I", false)
  | 9 => ("CoughBidsModel", "from", "I", false)
  | 10 => ("CoughBidsModel", "reason", "I", false)
  | 11 => ("CoughBidsModel", "cause", "I", false)
  | 12 => ("CoughBidsModel", "orders", "I", false)
  | 13 => ("CoughBidsModel", "order", "I", false)
  | _ => ("CoughBidsModel", "numbers", "[I", true)
def tyX5 : Nat → FieldType := fun k => match k with
  | 0 => .array .int
  | 1 => .array .int
  | 2 => .array .int
  | 3 => .array .int
  | 4 => .int
  | 5 => .boolean
  | 6 => .array .int
  | 7 => .int
  | 8 => .int
  | 9 => .int
  | 10 => .int
  | 11 => .int
  | 12 => .int
  | 13 => .int
  | _ => .array .int
abbrev wsX50 : List Cond := u_ws RX5 TX5 15
theorem nmX5 : ∀ a, a < 15 → ∀ b, b < 15 → a ≠ b → (TX5 a).2.1 ≠ (TX5 b).2.1 := by decide +kernel
theorem tyX5_ok : ∀ k, k < 15 → parseFieldDescriptor (TX5 k).2.2.1 = some (tyX5 k) := by decide +kernel
abbrev cX5_init : ByteArray := prog_7_method_1_code
def yX5_init : MethodName := ⟨RX5, "<init>", "()V"⟩
abbrev cX5_in : ByteArray := prog_7_method_3_code
def yX5_in : MethodName := ⟨RX5, "in", "(III)Z"⟩
abbrev cX5_copies : ByteArray := prog_7_method_4_code
def yX5_copies : MethodName := ⟨RX5, "copies", "([I[I)V"⟩
abbrev cX5_changes : ByteArray := prog_7_method_5_code
def yX5_changes : MethodName := ⟨RX5, "changes", "()V"⟩
abbrev cX5_of : ByteArray := prog_7_method_6_code
def yX5_of : MethodName := ⟨RX5, "of", "(II)I"⟩
abbrev cX5_adds : ByteArray := prog_7_method_7_code
def yX5_adds : MethodName := ⟨RX5, "adds", "(III)V"⟩
abbrev cX5_lay : ByteArray := prog_7_method_8_code
def yX5_lay : MethodName := ⟨RX5, "lay", "(III)V"⟩
abbrev cX5_isBidder : ByteArray := prog_7_method_9_code
def yX5_isBidder : MethodName := ⟨RX5, "isBidder", "(I)Z"⟩
abbrev cX5_isSeat : ByteArray := prog_7_method_10_code
def yX5_isSeat : MethodName := ⟨RX5, "isSeat", "(II)Z"⟩
abbrev cX5_seated : ByteArray := prog_7_method_11_code
def yX5_seated : MethodName := ⟨RX5, "seated", "(II)I"⟩
abbrev cX5_loud : ByteArray := prog_7_method_12_code
def yX5_loud : MethodName := ⟨RX5, "loud", "(I)I"⟩
abbrev cX5_asked : ByteArray := prog_7_method_13_code
def yX5_asked : MethodName := ⟨RX5, "asked", "()I"⟩
abbrev cX5_barred : ByteArray := prog_7_method_14_code
def yX5_barred : MethodName := ⟨RX5, "barred", "(I)I"⟩
abbrev cX5_goes : ByteArray := prog_7_method_15_code
def yX5_goes : MethodName := ⟨RX5, "goes", "(I)V"⟩
abbrev cX5_coughs : ByteArray := prog_7_method_16_code
def yX5_coughs : MethodName := ⟨RX5, "coughs", "(II)I"⟩
abbrev cX5_coughsNext : ByteArray := prog_7_method_17_code
def yX5_coughsNext : MethodName := ⟨RX5, "coughsNext", "(I)Z"⟩
abbrev cX5_hammers : ByteArray := prog_7_method_18_code
def yX5_hammers : MethodName := ⟨RX5, "hammers", "()V"⟩
abbrev cX5_beat : ByteArray := prog_7_method_19_code
def yX5_beat : MethodName := ⟨RX5, "beat", "()V"⟩
abbrev cX5_bidder : ByteArray := prog_7_method_20_code
def yX5_bidder : MethodName := ⟨RX5, "bidder", "(IIII)I"⟩
abbrev cX5_catches : ByteArray := prog_7_method_21_code
def yX5_catches : MethodName := ⟨RX5, "catches", "(II)I"⟩
abbrev cX5_muffle : ByteArray := prog_7_method_22_code
def yX5_muffle : MethodName := ⟨RX5, "muffle", "(II)I"⟩
abbrev cX5_lot : ByteArray := prog_7_method_23_code
def yX5_lot : MethodName := ⟨RX5, "lot", "(II)I"⟩
abbrev cX5_putUp : ByteArray := prog_7_method_24_code
def yX5_putUp : MethodName := ⟨RX5, "putUp", "()I"⟩
abbrev cX5_cough : ByteArray := prog_7_method_25_code
def yX5_cough : MethodName := ⟨RX5, "cough", "(I)I"⟩
abbrev cX5_pass : ByteArray := prog_7_method_26_code
def yX5_pass : MethodName := ⟨RX5, "pass", "(I)V"⟩
abbrev cX5_gone : ByteArray := prog_7_method_27_code
def yX5_gone : MethodName := ⟨RX5, "gone", "()I"⟩
abbrev cX5_beats : ByteArray := prog_7_method_28_code
def yX5_beats : MethodName := ⟨RX5, "beats", "(I)I"⟩
abbrev cX5_catchesFrom : ByteArray := prog_7_method_29_code
def yX5_catchesFrom : MethodName := ⟨RX5, "catchesFrom", "(II)Z"⟩
abbrev cX5_nightPasses : ByteArray := prog_7_method_30_code
def yX5_nightPasses : MethodName := ⟨RX5, "nightPasses", "()V"⟩
abbrev cX5_colds : ByteArray := prog_7_method_31_code
def yX5_colds : MethodName := ⟨RX5, "colds", "()I"⟩
abbrev cX5_bits : ByteArray := prog_7_method_32_code
def yX5_bits : MethodName := ⟨RX5, "bits", "(I)I"⟩
abbrev cX5_night : ByteArray := prog_7_method_33_code
def yX5_night : MethodName := ⟨RX5, "night", "()I"⟩
abbrev cX5_set : ByteArray := prog_7_method_34_code
def yX5_set : MethodName := ⟨RX5, "set", "(II)I"⟩
abbrev cX5_bidderOf : ByteArray := prog_7_method_35_code
def yX5_bidderOf : MethodName := ⟨RX5, "bidderOf", "(II)I"⟩
abbrev cX5_at : ByteArray := prog_7_method_36_code
def yX5_at : MethodName := ⟨RX5, "at", "(II)I"⟩
abbrev cX5_up : ByteArray := prog_7_method_37_code
def yX5_up : MethodName := ⟨RX5, "up", "(I)I"⟩
abbrev cX5_waiting : ByteArray := prog_7_method_38_code
def yX5_waiting : MethodName := ⟨RX5, "waiting", "(II)I"⟩
abbrev cX5_book : ByteArray := prog_7_method_39_code
def yX5_book : MethodName := ⟨RX5, "book", "(II)I"⟩
abbrev cX5_why : ByteArray := prog_7_method_40_code
def yX5_why : MethodName := ⟨RX5, "why", "(I)I"⟩
abbrev cX5_ifBeats : ByteArray := prog_7_method_41_code
def yX5_ifBeats : MethodName := ⟨RX5, "ifBeats", "(II)I"⟩
abbrev cX5_goneIn : ByteArray := prog_7_method_42_code
def yX5_goneIn : MethodName := ⟨RX5, "goneIn", "()I"⟩
abbrev cX5_coughing : ByteArray := prog_7_method_43_code
def yX5_coughing : MethodName := ⟨RX5, "coughing", "()I"⟩
abbrev cX5_loudest : ByteArray := prog_7_method_44_code
def yX5_loudest : MethodName := ⟨RX5, "loudest", "()I"⟩
abbrev cX5_ifNights : ByteArray := prog_7_method_45_code
def yX5_ifNights : MethodName := ⟨RX5, "ifNights", "(I)I"⟩
abbrev cX5_mean : ByteArray := prog_7_method_46_code
def yX5_mean : MethodName := ⟨RX5, "mean", "()I"⟩
abbrev cX5_byPurses : ByteArray := prog_7_method_47_code
def yX5_byPurses : MethodName := ⟨RX5, "byPurses", "()I"⟩
abbrev cX5_count : ByteArray := prog_7_method_48_code
def yX5_count : MethodName := ⟨RX5, "count", "(I)I"⟩
abbrev cX5_undo : ByteArray := prog_7_method_49_code
def yX5_undo : MethodName := ⟨RX5, "undo", "()I"⟩
abbrev cX5_type : ByteArray := prog_7_method_50_code
def yX5_type : MethodName := ⟨RX5, "type", "(I)I"⟩
abbrev cX5_clearText : ByteArray := prog_7_method_51_code
def yX5_clearText : MethodName := ⟨RX5, "clearText", "()I"⟩
abbrev cX5_isAt : ByteArray := prog_7_method_52_code
def yX5_isAt : MethodName := ⟨RX5, "isAt", "(II)Z"⟩
abbrev cX5_sign : ByteArray := prog_7_method_53_code
def yX5_sign : MethodName := ⟨RX5, "sign", "(I)Z"⟩
abbrev cX5_numbered : ByteArray := prog_7_method_54_code
def yX5_numbered : MethodName := ⟨RX5, "numbered", "(I)Z"⟩
abbrev cX5_numbersOf : ByteArray := prog_7_method_55_code
def yX5_numbersOf : MethodName := ⟨RX5, "numbersOf", "(I)I"⟩
abbrev cX5_parses : ByteArray := prog_7_method_56_code
def yX5_parses : MethodName := ⟨RX5, "parses", "()Z"⟩
abbrev cX5_does : ByteArray := prog_7_method_57_code
def yX5_does : MethodName := ⟨RX5, "does", "()I"⟩
abbrev cX5_plays : ByteArray := prog_7_method_58_code
def yX5_plays : MethodName := ⟨RX5, "plays", "()Z"⟩
abbrev cX5_fault : ByteArray := prog_7_method_59_code
def yX5_fault : MethodName := ⟨RX5, "fault", "(I)I"⟩
abbrev cX5_play : ByteArray := prog_7_method_60_code
def yX5_play : MethodName := ⟨RX5, "play", "()I"⟩
def RJxf58ca : String := "java/lang/Float"
def TJxf58ca : u_T := fun k => match k with
  | _ => ("", "", "", false)
def tyJxf58ca : Nat → FieldType := fun k => match k with
  | _ => .int
abbrev wsJxf58ca0 : List Cond := u_ws RJxf58ca TJxf58ca 0
theorem nmJxf58ca : ∀ a, a < 0 → ∀ b, b < 0 → a ≠ b → (TJxf58ca a).2.1 ≠ (TJxf58ca b).2.1 := by decide +kernel
theorem tyJxf58ca_ok : ∀ k, k < 0 → parseFieldDescriptor (TJxf58ca k).2.2.1 = some (tyJxf58ca k) := by decide +kernel
abbrev cJxf58ca_isNaN_12338 : ByteArray := prog_8_method_6_code
def yJxf58ca_isNaN_12338 : MethodName := ⟨RJxf58ca, "isNaN", "(F)Z"⟩
abbrev cJxf58ca_floatToIntBits_5c35a : ByteArray := prog_8_method_24_code
def yJxf58ca_floatToIntBits_5c35a : MethodName := ⟨RJxf58ca, "floatToIntBits", "(F)I"⟩
def RJ6 : String := "java/lang/Integer"
def TJ6 : u_T := fun k => match k with
  | _ => ("", "", "", false)
def tyJ6 : Nat → FieldType := fun k => match k with
  | _ => .int
abbrev wsJ60 : List Cond := u_ws RJ6 TJ6 0
theorem nmJ6 : ∀ a, a < 0 → ∀ b, b < 0 → a ≠ b → (TJ6 a).2.1 ≠ (TJ6 b).2.1 := by decide +kernel
theorem tyJ6_ok : ∀ k, k < 0 → parseFieldDescriptor (TJ6 k).2.2.1 = some (tyJ6 k) := by decide +kernel
abbrev cJ6_bitCount_0f7a4 : ByteArray := prog_9_method_49_code
def yJ6_bitCount_0f7a4 : MethodName := ⟨RJ6, "bitCount", "(I)I"⟩
def RJ9 : String := "java/lang/Math"
def TJ9 : u_T := fun k => match k with
  | _ => ("", "", "", false)
def tyJ9 : Nat → FieldType := fun k => match k with
  | _ => .int
abbrev wsJ90 : List Cond := u_ws RJ9 TJ9 0
theorem nmJ9 : ∀ a, a < 0 → ∀ b, b < 0 → a ≠ b → (TJ9 a).2.1 ≠ (TJ9 b).2.1 := by decide +kernel
theorem tyJ9_ok : ∀ k, k < 0 → parseFieldDescriptor (TJ9 k).2.2.1 = some (tyJ9 k) := by decide +kernel
abbrev cJ9_max_7cf53 : ByteArray := prog_10_method_65_code
def yJ9_max_7cf53 : MethodName := ⟨RJ9, "max", "(II)I"⟩
abbrev cJ9_min_7cf53 : ByteArray := prog_10_method_69_code
def yJ9_min_7cf53 : MethodName := ⟨RJ9, "min", "(II)I"⟩
def RJ10 : String := "java/lang/System"
def TJ10 : u_T := fun k => match k with
  | _ => ("", "", "", false)
def tyJ10 : Nat → FieldType := fun k => match k with
  | _ => .int
abbrev wsJ100 : List Cond := u_ws RJ10 TJ10 0
theorem nmJ10 : ∀ a, a < 0 → ∀ b, b < 0 → a ≠ b → (TJ10 a).2.1 ≠ (TJ10 b).2.1 := by decide +kernel
theorem tyJ10_ok : ∀ k, k < 0 → parseFieldDescriptor (TJ10 k).2.2.1 = some (tyJ10 k) := by decide +kernel
def RL : String := "CoughBidsLaw"
abbrev cL_law : ByteArray := code
def yL_law : MethodName := ⟨RL, "law", "([I)Z"⟩
abbrev vwCl : List vw_C := [(RX0, TX0, 17), (RX1, TX1, 11), (RX2, TX2, 10), (RX3, TX3, 9), (RX4, TX4, 5), (RX5, TX5, 15)]
