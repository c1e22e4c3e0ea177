-- begun from kit/laws/SKELETON.whole (PART A) and claim/NAMES.whole (printed): by wip/whole/mknames.py
-- ===== PART A: goes FIRST, ahead of the names: the tables' words, and 'selects' of the private methods out of them =====
/-- a private method of a class that the tables say can be made, by its rows of tables_1 -/
def lw_okq (q : MethodName × Nat) : Prop := (q.1.cls ≠ "java/lang/invoke/MethodHandle" ∧ q.1.cls ≠ "java/lang/invoke/VarHandle") ∧ Cond.instantiable q.1.cls q.2 ∈ tables_1 ∧ Cond.privateMethod q.1 ∈ tables_1 ∧ Cond.instanceMethod q.1 ∈ tables_1
theorem lw_p0 : lw_okq (⟨"CoughBids", "keep", "(I)I"⟩, 5) := ⟨⟨by decide +kernel, by decide +kernel⟩, List.mem_of_getElem? (i := 10) (by decide +kernel), List.mem_of_getElem? (i := 400) (by decide +kernel), List.mem_of_getElem? (i := 401) (by decide +kernel)⟩
theorem lw_p1 : lw_okq (⟨"CoughBids", "dropOldest", "()V"⟩, 5) := ⟨⟨by decide +kernel, by decide +kernel⟩, List.mem_of_getElem? (i := 10) (by decide +kernel), List.mem_of_getElem? (i := 404) (by decide +kernel), List.mem_of_getElem? (i := 405) (by decide +kernel)⟩
theorem lw_p2 : lw_okq (⟨"CoughBids$Auction", "doubtBid", "()V"⟩, 17) := ⟨⟨by decide +kernel, by decide +kernel⟩, List.mem_of_getElem? (i := 19) (by decide +kernel), List.mem_of_getElem? (i := 445) (by decide +kernel), List.mem_of_getElem? (i := 446) (by decide +kernel)⟩
theorem lw_p3 : lw_okq (⟨"CoughBids$Auction", "close", "(I)V"⟩, 17) := ⟨⟨by decide +kernel, by decide +kernel⟩, List.mem_of_getElem? (i := 19) (by decide +kernel), List.mem_of_getElem? (i := 449) (by decide +kernel), List.mem_of_getElem? (i := 450) (by decide +kernel)⟩
theorem lw_p4 : lw_okq (⟨"CoughBids$Auction", "sitsBesideCold", "(LCoughBids$Bidder;)Z"⟩, 17) := ⟨⟨by decide +kernel, by decide +kernel⟩, List.mem_of_getElem? (i := 19) (by decide +kernel), List.mem_of_getElem? (i := 498) (by decide +kernel), List.mem_of_getElem? (i := 499) (by decide +kernel)⟩
theorem lw_p5 : lw_okq (⟨"CoughBids$Auction", "hushOrHammer", "()V"⟩, 17) := ⟨⟨by decide +kernel, by decide +kernel⟩, List.mem_of_getElem? (i := 19) (by decide +kernel), List.mem_of_getElem? (i := 541) (by decide +kernel), List.mem_of_getElem? (i := 542) (by decide +kernel)⟩
theorem lw_p6 : lw_okq (⟨"CoughBids$Auction", "letHammerFall", "()V"⟩, 17) := ⟨⟨by decide +kernel, by decide +kernel⟩, List.mem_of_getElem? (i := 19) (by decide +kernel), List.mem_of_getElem? (i := 545) (by decide +kernel), List.mem_of_getElem? (i := 546) (by decide +kernel)⟩
def lw_privs_1 : List (MethodName × Nat) := [(⟨"CoughBids", "keep", "(I)I"⟩, 5), (⟨"CoughBids", "dropOldest", "()V"⟩, 5), (⟨"CoughBids$Auction", "doubtBid", "()V"⟩, 17), (⟨"CoughBids$Auction", "close", "(I)V"⟩, 17), (⟨"CoughBids$Auction", "sitsBesideCold", "(LCoughBids$Bidder;)Z"⟩, 17), (⟨"CoughBids$Auction", "hushOrHammer", "()V"⟩, 17), (⟨"CoughBids$Auction", "letHammerFall", "()V"⟩, 17)]
theorem lw_r1 : ∀ q ∈ lw_privs_1, lw_okq q := List.forall_mem_cons.mpr ⟨lw_p0, List.forall_mem_cons.mpr ⟨lw_p1, List.forall_mem_cons.mpr ⟨lw_p2, List.forall_mem_cons.mpr ⟨lw_p3, List.forall_mem_cons.mpr ⟨lw_p4, List.forall_mem_cons.mpr ⟨lw_p5, List.forall_mem_cons.mpr ⟨lw_p6, fun _ h => absurd h List.not_mem_nil⟩⟩⟩⟩⟩⟩⟩
def lw_privs : List (MethodName × Nat) := lw_privs_1
def lw_tbl : List Cond := k2_sels lw_privs ++ tables_1
theorem lw_privs_ok : ∀ q ∈ lw_privs, lw_okq q := lw_r1
-- ===== end of PART A; then your names; then what follows =====
/-! ===== BEGIN words of one list among another's, by their places ===== -/
/-! ===== END ===== -/

/-! ===== BEGIN printed: names, fields, word lists, decode rows ===== -/
def RX0 : String := "CoughBids$Auction"
def TX0 : u_T := fun k => match k with
  | 0 => ("CoughBids$Auction", "bidders", "[LCoughBids$Bidder;", true)
  | 1 => ("CoughBids$Auction", "queue", "[LCoughBids$Lot;", true)
  | 2 => ("CoughBids$Auction", "gone", "[LCoughBids$Lot;", true)
  | 3 => ("CoughBids$Auction", "fates", "[I", true)
  | 4 => ("CoughBids$Auction", "settings", "[I", true)
  | 5 => ("CoughBids$Auction", "bidderCount", "I", false)
  | 6 => ("CoughBids$Auction", "waitingCount", "I", false)
  | 7 => ("CoughBids$Auction", "goneCount", "I", false)
  | 8 => ("CoughBids$Auction", "isUp", "Z", false)
  | 9 => ("CoughBids$Auction", "raised", "LCoughBids$Lot;", false)
  | 10 => ("CoughBids$Auction", "beatsPassed", "I", false)
  | 11 => ("CoughBids$Auction", "nightsPassed", "I", false)
  | 12 => ("CoughBids$Auction", "lotsCame", "I", false)
  | 13 => ("CoughBids$Auction", "coinsPaid", "I", false)
  | 14 => ("CoughBids$Auction", "coughs", "I", false)
  | 15 => ("CoughBids$Auction", "bids", "I", false)
  | _ => ("CoughBids$Auction", "doubts", "I", false)
def tyX0 : Nat → FieldType := fun k => match k with
  | 0 => .array (.object "CoughBids$Bidder")
  | 1 => .array (.object "CoughBids$Lot")
  | 2 => .array (.object "CoughBids$Lot")
  | 3 => .array .int
  | 4 => .array .int
  | 5 => .int
  | 6 => .int
  | 7 => .int
  | 8 => .boolean
  | 9 => .object "CoughBids$Lot"
  | 10 => .int
  | 11 => .int
  | 12 => .int
  | 13 => .int
  | 14 => .int
  | 15 => .int
  | _ => .int
abbrev wsX00 : List Cond := u_ws RX0 TX0 17
theorem nmX0 : ∀ a, a < 17 → ∀ b, b < 17 → a ≠ b → (TX0 a).2.1 ≠ (TX0 b).2.1 := by decide +kernel
theorem tyX0_ok : ∀ k, k < 17 → parseFieldDescriptor (TX0 k).2.2.1 = some (tyX0 k) := by decide +kernel
abbrev cX0_init : ByteArray := prog_2_method_1_code
def yX0_init : MethodName := ⟨RX0, "<init>", "()V"⟩
abbrev cX0_copyFrom : ByteArray := prog_2_method_2_code
def yX0_copyFrom : MethodName := ⟨RX0, "copyFrom", "(LCoughBids$Auction;)V"⟩
abbrev cX0_hasBidder : ByteArray := prog_2_method_3_code
def yX0_hasBidder : MethodName := ⟨RX0, "hasBidder", "(I)Z"⟩
abbrev cX0_findSeated : ByteArray := prog_2_method_4_code
def yX0_findSeated : MethodName := ⟨RX0, "findSeated", "(II)I"⟩
abbrev cX0_seatBidder : ByteArray := prog_2_method_5_code
def yX0_seatBidder : MethodName := ⟨RX0, "seatBidder", "(IIII)I"⟩
abbrev cX0_changeCold : ByteArray := prog_2_method_6_code
def yX0_changeCold : MethodName := ⟨RX0, "changeCold", "(II)I"⟩
abbrev cX0_changeMuffler : ByteArray := prog_2_method_7_code
def yX0_changeMuffler : MethodName := ⟨RX0, "changeMuffler", "(II)I"⟩
abbrev cX0_bidderSetWithCold : ByteArray := prog_2_method_8_code
def yX0_bidderSetWithCold : MethodName := ⟨RX0, "bidderSetWithCold", "()I"⟩
abbrev cX0_changeSetting : ByteArray := prog_2_method_9_code
def yX0_changeSetting : MethodName := ⟨RX0, "changeSetting", "(II)I"⟩
abbrev cX0_addLot : ByteArray := prog_2_method_10_code
def yX0_addLot : MethodName := ⟨RX0, "addLot", "(II)I"⟩
abbrev cX0_raiseNextLot : ByteArray := prog_2_method_11_code
def yX0_raiseNextLot : MethodName := ⟨RX0, "raiseNextLot", "()I"⟩
abbrev cX0_close : ByteArray := prog_2_method_12_code
def yX0_close : MethodName := ⟨RX0, "close", "(I)V"⟩
abbrev cX0_reasonAgainst : ByteArray := prog_2_method_13_code
def yX0_reasonAgainst : MethodName := ⟨RX0, "reasonAgainst", "(I)I"⟩
abbrev cX0_takeCough : ByteArray := prog_2_method_14_code
def yX0_takeCough : MethodName := ⟨RX0, "takeCough", "(IZ)I"⟩
abbrev cX0_doubtBid : ByteArray := prog_2_method_15_code
def yX0_doubtBid : MethodName := ⟨RX0, "doubtBid", "()V"⟩
abbrev cX0_isDueToCough : ByteArray := prog_2_method_16_code
def yX0_isDueToCough : MethodName := ⟨RX0, "isDueToCough", "(I)Z"⟩
abbrev cX0_passBeats : ByteArray := prog_2_method_17_code
def yX0_passBeats : MethodName := ⟨RX0, "passBeats", "(I)I"⟩
abbrev cX0_passBeat : ByteArray := prog_2_method_18_code
def yX0_passBeat : MethodName := ⟨RX0, "passBeat", "()V"⟩
abbrev cX0_hushOrHammer : ByteArray := prog_2_method_19_code
def yX0_hushOrHammer : MethodName := ⟨RX0, "hushOrHammer", "()V"⟩
abbrev cX0_letHammerFall : ByteArray := prog_2_method_20_code
def yX0_letHammerFall : MethodName := ⟨RX0, "letHammerFall", "()V"⟩
abbrev cX0_passNight : ByteArray := prog_2_method_21_code
def yX0_passNight : MethodName := ⟨RX0, "passNight", "()I"⟩
abbrev cX0_spreadColds : ByteArray := prog_2_method_22_code
def yX0_spreadColds : MethodName := ⟨RX0, "spreadColds", "()V"⟩
abbrev cX0_sitsBesideCold : ByteArray := prog_2_method_23_code
def yX0_sitsBesideCold : MethodName := ⟨RX0, "sitsBesideCold", "(LCoughBids$Bidder;)Z"⟩
abbrev cX0_coinsGoneFromPurses : ByteArray := prog_2_method_24_code
def yX0_coinsGoneFromPurses : MethodName := ⟨RX0, "coinsGoneFromPurses", "()I"⟩
abbrev cX0_total : ByteArray := prog_2_method_25_code
def yX0_total : MethodName := ⟨RX0, "total", "(I)I"⟩
def RX1 : String := "CoughBids$Bidder"
def TX1 : u_T := fun k => match k with
  | 0 => ("CoughBids$Bidder", "row", "I", false)
  | 1 => ("CoughBids$Bidder", "seat", "I", false)
  | 2 => ("CoughBids$Bidder", "purse", "I", false)
  | 3 => ("CoughBids$Bidder", "purseAtFirst", "I", false)
  | 4 => ("CoughBids$Bidder", "strength", "I", false)
  | 5 => ("CoughBids$Bidder", "cold", "I", false)
  | 6 => ("CoughBids$Bidder", "muffler", "I", false)
  | 7 => ("CoughBids$Bidder", "coughs", "I", false)
  | 8 => ("CoughBids$Bidder", "bids", "I", false)
  | 9 => ("CoughBids$Bidder", "lotsBought", "I", false)
  | _ => ("CoughBids$Bidder", "coinsPaid", "I", false)
def tyX1 : Nat → FieldType := fun k => match k with
  | 0 => .int
  | 1 => .int
  | 2 => .int
  | 3 => .int
  | 4 => .int
  | 5 => .int
  | 6 => .int
  | 7 => .int
  | 8 => .int
  | 9 => .int
  | _ => .int
abbrev wsX10 : List Cond := u_ws RX1 TX1 11
theorem nmX1 : ∀ a, a < 11 → ∀ b, b < 11 → a ≠ b → (TX1 a).2.1 ≠ (TX1 b).2.1 := by decide +kernel
theorem tyX1_ok : ∀ k, k < 11 → parseFieldDescriptor (TX1 k).2.2.1 = some (tyX1 k) := by decide +kernel
abbrev cX1_init : ByteArray := prog_3_method_1_code
def yX1_init : MethodName := ⟨RX1, "<init>", "()V"⟩
abbrev cX1_sitDown : ByteArray := prog_3_method_2_code
def yX1_sitDown : MethodName := ⟨RX1, "sitDown", "(IIII)V"⟩
abbrev cX1_copyFrom : ByteArray := prog_3_method_3_code
def yX1_copyFrom : MethodName := ⟨RX1, "copyFrom", "(LCoughBids$Bidder;)V"⟩
abbrev cX1_loudness : ByteArray := prog_3_method_4_code
def yX1_loudness : MethodName := ⟨RX1, "loudness", "()I"⟩
abbrev cX1_isBeside : ByteArray := prog_3_method_5_code
def yX1_isBeside : MethodName := ⟨RX1, "isBeside", "(LCoughBids$Bidder;)Z"⟩
abbrev cX1_pay : ByteArray := prog_3_method_6_code
def yX1_pay : MethodName := ⟨RX1, "pay", "(I)V"⟩
abbrev cX1_tell : ByteArray := prog_3_method_7_code
def yX1_tell : MethodName := ⟨RX1, "tell", "(I)I"⟩
def RX2 : String := "CoughBids$Lot"
def TX2 : u_T := fun k => match k with
  | 0 => ("CoughBids$Lot", "reserve", "I", false)
  | 1 => ("CoughBids$Lot", "step", "I", false)
  | 2 => ("CoughBids$Lot", "latestBid", "I", false)
  | 3 => ("CoughBids$Lot", "latestBidder", "I", false)
  | 4 => ("CoughBids$Lot", "isLatestForCold", "Z", false)
  | 5 => ("CoughBids$Lot", "hasBidSinceBeat", "Z", false)
  | 6 => ("CoughBids$Lot", "bids", "I", false)
  | 7 => ("CoughBids$Lot", "doubts", "I", false)
  | 8 => ("CoughBids$Lot", "hush", "I", false)
  | _ => ("CoughBids$Lot", "fate", "I", false)
def tyX2 : Nat → FieldType := fun k => match k with
  | 0 => .int
  | 1 => .int
  | 2 => .int
  | 3 => .int
  | 4 => .boolean
  | 5 => .boolean
  | 6 => .int
  | 7 => .int
  | 8 => .int
  | _ => .int
abbrev wsX20 : List Cond := u_ws RX2 TX2 10
theorem nmX2 : ∀ a, a < 10 → ∀ b, b < 10 → a ≠ b → (TX2 a).2.1 ≠ (TX2 b).2.1 := by decide +kernel
theorem tyX2_ok : ∀ k, k < 10 → parseFieldDescriptor (TX2 k).2.2.1 = some (tyX2 k) := by decide +kernel
abbrev cX2_init : ByteArray := prog_4_method_1_code
def yX2_init : MethodName := ⟨RX2, "<init>", "()V"⟩
abbrev cX2_come : ByteArray := prog_4_method_2_code
def yX2_come : MethodName := ⟨RX2, "come", "(II)V"⟩
abbrev cX2_copyFrom : ByteArray := prog_4_method_3_code
def yX2_copyFrom : MethodName := ⟨RX2, "copyFrom", "(LCoughBids$Lot;)V"⟩
abbrev cX2_hasBid : ByteArray := prog_4_method_4_code
def yX2_hasBid : MethodName := ⟨RX2, "hasBid", "()Z"⟩
abbrev cX2_asked : ByteArray := prog_4_method_5_code
def yX2_asked : MethodName := ⟨RX2, "asked", "()I"⟩
abbrev cX2_takeBid : ByteArray := prog_4_method_6_code
def yX2_takeBid : MethodName := ⟨RX2, "takeBid", "(IIZ)V"⟩
abbrev cX2_tellUp : ByteArray := prog_4_method_7_code
def yX2_tellUp : MethodName := ⟨RX2, "tellUp", "(I)I"⟩
abbrev cX2_tellGone : ByteArray := prog_4_method_8_code
def yX2_tellGone : MethodName := ⟨RX2, "tellGone", "(I)I"⟩
def RX3 : String := "CoughBids$Script"
def TX3 : u_T := fun k => match k with
  | 0 => ("CoughBids$Script", "characters", "[C", true)
  | 1 => ("CoughBids$Script", "numbers", "[I", true)
  | 2 => ("CoughBids$Script", "length", "I", false)
  | 3 => ("CoughBids$Script", "order", "C", false)
  | 4 => ("CoughBids$Script", "place", "I", false)
  | 5 => ("CoughBids$Script", "ordersDone", "I", false)
  | 6 => ("CoughBids$Script", "faultPosition", "I", false)
  | 7 => ("CoughBids$Script", "faultReason", "I", false)
  | _ => ("CoughBids$Script", "faultCause", "I", false)
def tyX3 : Nat → FieldType := fun k => match k with
  | 0 => .array .char
  | 1 => .array .int
  | 2 => .int
  | 3 => .char
  | 4 => .int
  | 5 => .int
  | 6 => .int
  | 7 => .int
  | _ => .int
abbrev wsX30 : List Cond := u_ws RX3 TX3 9
theorem nmX3 : ∀ a, a < 9 → ∀ b, b < 9 → a ≠ b → (TX3 a).2.1 ≠ (TX3 b).2.1 := by decide +kernel
theorem tyX3_ok : ∀ k, k < 9 → parseFieldDescriptor (TX3 k).2.2.1 = some (tyX3 k) := by decide +kernel
abbrev cX3_init : ByteArray := prog_5_method_1_code
def yX3_init : MethodName := ⟨RX3, "<init>", "()V"⟩
def RX4 : String := "CoughBids"
def TX4 : u_T := fun k => match k with
  | 0 => ("CoughBids", "history", "[LCoughBids$Auction;", true)
  | 1 => ("CoughBids", "script", "LCoughBids$Script;", true)
  | 2 => ("CoughBids", "recorded", "I", false)
  | 3 => ("CoughBids", "now", "LCoughBids$Auction;", false)
  | _ => ("CoughBids", "trial", "LCoughBids$Auction;", false)
def tyX4 : Nat → FieldType := fun k => match k with
  | 0 => .array (.object "CoughBids$Auction")
  | 1 => .object "CoughBids$Script"
  | 2 => .int
  | 3 => .object "CoughBids$Auction"
  | _ => .object "CoughBids$Auction"
abbrev wsX40 : List Cond := u_ws RX4 TX4 5
theorem nmX4 : ∀ a, a < 5 → ∀ b, b < 5 → a ≠ b → (TX4 a).2.1 ≠ (TX4 b).2.1 := by decide +kernel
theorem tyX4_ok : ∀ k, k < 5 → parseFieldDescriptor (TX4 k).2.2.1 = some (tyX4 k) := by decide +kernel
abbrev cX4_init : ByteArray := prog_1_method_1_code
def yX4_init : MethodName := ⟨RX4, "<init>", "()V"⟩
abbrev cX4_bidder : ByteArray := prog_1_method_2_code
def yX4_bidder : MethodName := ⟨RX4, "bidder", "(IIII)I"⟩
abbrev cX4_catches : ByteArray := prog_1_method_3_code
def yX4_catches : MethodName := ⟨RX4, "catches", "(II)I"⟩
abbrev cX4_muffle : ByteArray := prog_1_method_4_code
def yX4_muffle : MethodName := ⟨RX4, "muffle", "(II)I"⟩
abbrev cX4_lot : ByteArray := prog_1_method_5_code
def yX4_lot : MethodName := ⟨RX4, "lot", "(II)I"⟩
abbrev cX4_putUp : ByteArray := prog_1_method_6_code
def yX4_putUp : MethodName := ⟨RX4, "putUp", "()I"⟩
abbrev cX4_cough : ByteArray := prog_1_method_7_code
def yX4_cough : MethodName := ⟨RX4, "cough", "(I)I"⟩
abbrev cX4_beats : ByteArray := prog_1_method_8_code
def yX4_beats : MethodName := ⟨RX4, "beats", "(I)I"⟩
abbrev cX4_night : ByteArray := prog_1_method_9_code
def yX4_night : MethodName := ⟨RX4, "night", "()I"⟩
abbrev cX4_set : ByteArray := prog_1_method_10_code
def yX4_set : MethodName := ⟨RX4, "set", "(II)I"⟩
abbrev cX4_bidderOf : ByteArray := prog_1_method_11_code
def yX4_bidderOf : MethodName := ⟨RX4, "bidderOf", "(II)I"⟩
abbrev cX4_at : ByteArray := prog_1_method_12_code
def yX4_at : MethodName := ⟨RX4, "at", "(II)I"⟩
abbrev cX4_up : ByteArray := prog_1_method_13_code
def yX4_up : MethodName := ⟨RX4, "up", "(I)I"⟩
abbrev cX4_waiting : ByteArray := prog_1_method_14_code
def yX4_waiting : MethodName := ⟨RX4, "waiting", "(II)I"⟩
abbrev cX4_book : ByteArray := prog_1_method_15_code
def yX4_book : MethodName := ⟨RX4, "book", "(II)I"⟩
abbrev cX4_why : ByteArray := prog_1_method_16_code
def yX4_why : MethodName := ⟨RX4, "why", "(I)I"⟩
abbrev cX4_coughing : ByteArray := prog_1_method_19_code
def yX4_coughing : MethodName := ⟨RX4, "coughing", "()I"⟩
abbrev cX4_loudest : ByteArray := prog_1_method_20_code
def yX4_loudest : MethodName := ⟨RX4, "loudest", "()I"⟩
abbrev cX4_count : ByteArray := prog_1_method_23_code
def yX4_count : MethodName := ⟨RX4, "count", "(I)I"⟩
abbrev cX4_keep : ByteArray := prog_1_method_29_code
def yX4_keep : MethodName := ⟨RX4, "keep", "(I)I"⟩
abbrev cX4_dropOldest : ByteArray := prog_1_method_30_code
def yX4_dropOldest : MethodName := ⟨RX4, "dropOldest", "()V"⟩
abbrev cX4_isWithin : ByteArray := prog_1_method_31_code
def yX4_isWithin : MethodName := ⟨RX4, "isWithin", "(III)Z"⟩
abbrev cX4_isSeat : ByteArray := prog_1_method_32_code
def yX4_isSeat : MethodName := ⟨RX4, "isSeat", "(II)Z"⟩
def RX5 : String := "CoughBidsModel"
def TX5 : u_T := fun k => match k with
  | _ => ("", "", "", false)
def tyX5 : Nat → FieldType := fun k => match k with
  | _ => .int
abbrev wsX50 : List Cond := u_ws RX5 TX5 0
theorem nmX5 : ∀ a, a < 0 → ∀ b, b < 0 → a ≠ b → (TX5 a).2.1 ≠ (TX5 b).2.1 := by decide +kernel
theorem tyX5_ok : ∀ k, k < 0 → parseFieldDescriptor (TX5 k).2.2.1 = some (tyX5 k) := by decide +kernel
def RJ6 : String := "java/lang/Integer"
def TJ6 : u_T := fun k => match k with
  | _ => ("", "", "", false)
def tyJ6 : Nat → FieldType := fun k => match k with
  | _ => .int
abbrev wsJ60 : List Cond := u_ws RJ6 TJ6 0
theorem nmJ6 : ∀ a, a < 0 → ∀ b, b < 0 → a ≠ b → (TJ6 a).2.1 ≠ (TJ6 b).2.1 := by decide +kernel
theorem tyJ6_ok : ∀ k, k < 0 → parseFieldDescriptor (TJ6 k).2.2.1 = some (tyJ6 k) := by decide +kernel
abbrev cJ6_bitCount_0f7a4 : ByteArray := prog_8_method_49_code
def yJ6_bitCount_0f7a4 : MethodName := ⟨RJ6, "bitCount", "(I)I"⟩
def RJ9 : String := "java/lang/Math"
def TJ9 : u_T := fun k => match k with
  | _ => ("", "", "", false)
def tyJ9 : Nat → FieldType := fun k => match k with
  | _ => .int
abbrev wsJ90 : List Cond := u_ws RJ9 TJ9 0
theorem nmJ9 : ∀ a, a < 0 → ∀ b, b < 0 → a ≠ b → (TJ9 a).2.1 ≠ (TJ9 b).2.1 := by decide +kernel
theorem tyJ9_ok : ∀ k, k < 0 → parseFieldDescriptor (TJ9 k).2.2.1 = some (tyJ9 k) := by decide +kernel
abbrev cJ9_max_7cf53 : ByteArray := prog_9_method_65_code
def yJ9_max_7cf53 : MethodName := ⟨RJ9, "max", "(II)I"⟩
abbrev cJ9_min_7cf53 : ByteArray := prog_9_method_69_code
def yJ9_min_7cf53 : MethodName := ⟨RJ9, "min", "(II)I"⟩
def RJ10 : String := "java/lang/System"
def TJ10 : u_T := fun k => match k with
  | _ => ("", "", "", false)
def tyJ10 : Nat → FieldType := fun k => match k with
  | _ => .int
abbrev wsJ100 : List Cond := u_ws RJ10 TJ10 0
theorem nmJ10 : ∀ a, a < 0 → ∀ b, b < 0 → a ≠ b → (TJ10 a).2.1 ≠ (TJ10 b).2.1 := by decide +kernel
theorem tyJ10_ok : ∀ k, k < 0 → parseFieldDescriptor (TJ10 k).2.2.1 = some (tyJ10 k) := by decide +kernel
def RL : String := "CoughBidsLaw"
abbrev cL_cell : ByteArray := method_2_code
def yL_cell : MethodName := ⟨RL, "cell", "([II)I"⟩
abbrev cL_loud : ByteArray := method_4_code
def yL_loud : MethodName := ⟨RL, "loud", "([I[II)I"⟩
abbrev cL_why : ByteArray := method_5_code
def yL_why : MethodName := ⟨RL, "why", "([I[I[I[II)I"⟩
abbrev cL_gone : ByteArray := method_6_code
def yL_gone : MethodName := ⟨RL, "gone", "([I[I[II)V"⟩
abbrev cL_cough : ByteArray := method_7_code
def yL_cough : MethodName := ⟨RL, "cough", "([I[I[I[I[III)I"⟩
abbrev cL_next : ByteArray := method_8_code
def yL_next : MethodName := ⟨RL, "next", "([I[II)Z"⟩
abbrev cL_beat : ByteArray := method_9_code
def yL_beat : MethodName := ⟨RL, "beat", "([I[I[I[I[I)V"⟩
abbrev cL_seat : ByteArray := method_10_code
def yL_seat : MethodName := ⟨RL, "seat", "([I[III)I"⟩
abbrev cL_night : ByteArray := method_11_code
def yL_night : MethodName := ⟨RL, "night", "([I[I[I)V"⟩
abbrev cL_ill : ByteArray := method_12_code
def yL_ill : MethodName := ⟨RL, "ill", "([I[I)I"⟩
abbrev cL_areBidders : ByteArray := method_13_code
def yL_areBidders : MethodName := ⟨RL, "areBidders", "(LCoughBids;[I[I[I[I)Z"⟩
abbrev cL_areLots : ByteArray := method_14_code
def yL_areLots : MethodName := ⟨RL, "areLots", "(LCoughBids;[I[I[I[I)Z"⟩
abbrev cL_isComing : ByteArray := method_15_code
def yL_isComing : MethodName := ⟨RL, "isComing", "(LCoughBids;[I[I[I[III)Z"⟩
abbrev cL_isUp : ByteArray := method_16_code
def yL_isUp : MethodName := ⟨RL, "isUp", "(LCoughBids;[I[I[I)Z"⟩
abbrev cL_isChanged : ByteArray := method_17_code
def yL_isChanged : MethodName := ⟨RL, "isChanged", "(LCoughBids;[I[I[IIII)Z"⟩
abbrev cL_isActed : ByteArray := method_18_code
def yL_isActed : MethodName := ⟨RL, "isActed", "(LCoughBids;[I[I[I[I[I[III)Z"⟩
abbrev cL_law : ByteArray := code
def yL_law : MethodName := ⟨RL, "law", "([I)Z"⟩
abbrev vwCl : List vw_C := [(RX0, TX0, 17), (RX1, TX1, 11), (RX2, TX2, 10), (RX3, TX3, 9), (RX4, TX4, 5)]
