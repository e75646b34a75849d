-- ===== PART A: goes FIRST, ahead of the names: the tables' words, and 'selects' of the private methods out of them =====
/-- a private method of a class that the tables say can be made, by its rows of tables_1 -/
def lw_okq (q : MethodName × Nat) : Prop := (q.1.cls ≠ "java/lang/invoke/MethodHandle" ∧ q.1.cls ≠ "java/lang/invoke/VarHandle") ∧ Cond.instantiable q.1.cls q.2 ∈ tables_1 ∧ Cond.privateMethod q.1 ∈ tables_1 ∧ Cond.instanceMethod q.1 ∈ tables_1
theorem lw_p0 : lw_okq (⟨"LineBlocks$Sender", "sendGroup", "(LLineBlocks$Line;)V"⟩, 3) := ⟨⟨by decide +kernel, by decide +kernel⟩, List.mem_of_getElem? (i := 37) (by decide +kernel), List.mem_of_getElem? (i := 148) (by decide +kernel), List.mem_of_getElem? (i := 149) (by decide +kernel)⟩
theorem lw_p1 : lw_okq (⟨"LineBlocks$Sender", "sendBlock", "(IJLLineBlocks$Line;)V"⟩, 3) := ⟨⟨by decide +kernel, by decide +kernel⟩, List.mem_of_getElem? (i := 37) (by decide +kernel), List.mem_of_getElem? (i := 188) (by decide +kernel), List.mem_of_getElem? (i := 189) (by decide +kernel)⟩
theorem lw_p2 : lw_okq (⟨"LineBlocks$Line", "ringPlace", "(I)I"⟩, 3) := ⟨⟨by decide +kernel, by decide +kernel⟩, List.mem_of_getElem? (i := 20) (by decide +kernel), List.mem_of_getElem? (i := 196) (by decide +kernel), List.mem_of_getElem? (i := 197) (by decide +kernel)⟩
theorem lw_p3 : lw_okq (⟨"LineBlocks$Scrambler", "mixed", "(I)I"⟩, 1) := ⟨⟨by decide +kernel, by decide +kernel⟩, List.mem_of_getElem? (i := 43) (by decide +kernel), List.mem_of_getElem? (i := 208) (by decide +kernel), List.mem_of_getElem? (i := 209) (by decide +kernel)⟩
theorem lw_p4 : lw_okq (⟨"LineBlocks$Scrambler", "keep", "(I)V"⟩, 1) := ⟨⟨by decide +kernel, by decide +kernel⟩, List.mem_of_getElem? (i := 43) (by decide +kernel), List.mem_of_getElem? (i := 212) (by decide +kernel), List.mem_of_getElem? (i := 213) (by decide +kernel)⟩
theorem lw_p5 : lw_okq (⟨"LineBlocks$Receiver", "endBlock", "()V"⟩, 11) := ⟨⟨by decide +kernel, by decide +kernel⟩, List.mem_of_getElem? (i := 64) (by decide +kernel), List.mem_of_getElem? (i := 305) (by decide +kernel), List.mem_of_getElem? (i := 306) (by decide +kernel)⟩
theorem lw_p6 : lw_okq (⟨"LineBlocks$Receiver", "countInRow", "(Z)V"⟩, 11) := ⟨⟨by decide +kernel, by decide +kernel⟩, List.mem_of_getElem? (i := 64) (by decide +kernel), List.mem_of_getElem? (i := 320) (by decide +kernel), List.mem_of_getElem? (i := 321) (by decide +kernel)⟩
theorem lw_p7 : lw_okq (⟨"LineBlocks$Receiver", "slip", "()V"⟩, 11) := ⟨⟨by decide +kernel, by decide +kernel⟩, List.mem_of_getElem? (i := 64) (by decide +kernel), List.mem_of_getElem? (i := 324) (by decide +kernel), List.mem_of_getElem? (i := 325) (by decide +kernel)⟩
theorem lw_p8 : lw_okq (⟨"LineBlocks$Receiver", "beginRow", "()V"⟩, 11) := ⟨⟨by decide +kernel, by decide +kernel⟩, List.mem_of_getElem? (i := 64) (by decide +kernel), List.mem_of_getElem? (i := 328) (by decide +kernel), List.mem_of_getElem? (i := 329) (by decide +kernel)⟩
theorem lw_p9 : lw_okq (⟨"LineBlocks$Receiver", "countHit", "(Z)V"⟩, 11) := ⟨⟨by decide +kernel, by decide +kernel⟩, List.mem_of_getElem? (i := 64) (by decide +kernel), List.mem_of_getElem? (i := 332) (by decide +kernel), List.mem_of_getElem? (i := 333) (by decide +kernel)⟩
theorem lw_p10 : lw_okq (⟨"LineBlocks$Receiver", "beginBlock", "()V"⟩, 11) := ⟨⟨by decide +kernel, by decide +kernel⟩, List.mem_of_getElem? (i := 64) (by decide +kernel), List.mem_of_getElem? (i := 336) (by decide +kernel), List.mem_of_getElem? (i := 337) (by decide +kernel)⟩
theorem lw_p11 : lw_okq (⟨"LineBlocks$Groups", "isKept", "(I)Z"⟩, 3) := ⟨⟨by decide +kernel, by decide +kernel⟩, List.mem_of_getElem? (i := 72) (by decide +kernel), List.mem_of_getElem? (i := 356) (by decide +kernel), List.mem_of_getElem? (i := 357) (by decide +kernel)⟩
theorem lw_p12 : lw_okq (⟨"LineBlocksModel", "send", "()V"⟩, 17) := ⟨⟨by decide +kernel, by decide +kernel⟩, List.mem_of_getElem? (i := 399) (by decide +kernel), List.mem_of_getElem? (i := 468) (by decide +kernel), List.mem_of_getElem? (i := 469) (by decide +kernel)⟩
theorem lw_p13 : lw_okq (⟨"LineBlocksModel", "encode", "()V"⟩, 17) := ⟨⟨by decide +kernel, by decide +kernel⟩, List.mem_of_getElem? (i := 399) (by decide +kernel), List.mem_of_getElem? (i := 472) (by decide +kernel), List.mem_of_getElem? (i := 473) (by decide +kernel)⟩
theorem lw_p14 : lw_okq (⟨"LineBlocksModel", "are", "(IIZ)Z"⟩, 17) := ⟨⟨by decide +kernel, by decide +kernel⟩, List.mem_of_getElem? (i := 399) (by decide +kernel), List.mem_of_getElem? (i := 476) (by decide +kernel), List.mem_of_getElem? (i := 477) (by decide +kernel)⟩
theorem lw_p15 : lw_okq (⟨"LineBlocksModel", "setBits", "(III)V"⟩, 17) := ⟨⟨by decide +kernel, by decide +kernel⟩, List.mem_of_getElem? (i := 399) (by decide +kernel), List.mem_of_getElem? (i := 486) (by decide +kernel), List.mem_of_getElem? (i := 487) (by decide +kernel)⟩
def lw_privs_1 : List (MethodName × Nat) := [(⟨"LineBlocks$Sender", "sendGroup", "(LLineBlocks$Line;)V"⟩, 3), (⟨"LineBlocks$Sender", "sendBlock", "(IJLLineBlocks$Line;)V"⟩, 3), (⟨"LineBlocks$Line", "ringPlace", "(I)I"⟩, 3), (⟨"LineBlocks$Scrambler", "mixed", "(I)I"⟩, 1), (⟨"LineBlocks$Scrambler", "keep", "(I)V"⟩, 1), (⟨"LineBlocks$Receiver", "endBlock", "()V"⟩, 11), (⟨"LineBlocks$Receiver", "countInRow", "(Z)V"⟩, 11), (⟨"LineBlocks$Receiver", "slip", "()V"⟩, 11), (⟨"LineBlocks$Receiver", "beginRow", "()V"⟩, 11), (⟨"LineBlocks$Receiver", "countHit", "(Z)V"⟩, 11), (⟨"LineBlocks$Receiver", "beginBlock", "()V"⟩, 11), (⟨"LineBlocks$Groups", "isKept", "(I)Z"⟩, 3), (⟨"LineBlocksModel", "send", "()V"⟩, 17), (⟨"LineBlocksModel", "encode", "()V"⟩, 17), (⟨"LineBlocksModel", "are", "(IIZ)Z"⟩, 17), (⟨"LineBlocksModel", "setBits", "(III)V"⟩, 17)]
theorem lw_r1 : ∀ q ∈ lw_privs_1, lw_okq q := List.forall_mem_cons.mpr ⟨lw_p0, List.forall_mem_cons.mpr ⟨lw_p1, List.forall_mem_cons.mpr ⟨lw_p2, List.forall_mem_cons.mpr ⟨lw_p3, List.forall_mem_cons.mpr ⟨lw_p4, List.forall_mem_cons.mpr ⟨lw_p5, List.forall_mem_cons.mpr ⟨lw_p6, List.forall_mem_cons.mpr ⟨lw_p7, List.forall_mem_cons.mpr ⟨lw_p8, List.forall_mem_cons.mpr ⟨lw_p9, List.forall_mem_cons.mpr ⟨lw_p10, List.forall_mem_cons.mpr ⟨lw_p11, List.forall_mem_cons.mpr ⟨lw_p12, List.forall_mem_cons.mpr ⟨lw_p13, List.forall_mem_cons.mpr ⟨lw_p14, List.forall_mem_cons.mpr ⟨lw_p15, fun _ h => absurd h List.not_mem_nil⟩⟩⟩⟩⟩⟩⟩⟩⟩⟩⟩⟩⟩⟩⟩⟩
theorem lw_p16 : lw_okq (⟨"LineBlocksModel", "putCode", "(II)V"⟩, 17) := ⟨⟨by decide +kernel, by decide +kernel⟩, List.mem_of_getElem? (i := 399) (by decide +kernel), List.mem_of_getElem? (i := 490) (by decide +kernel), List.mem_of_getElem? (i := 491) (by decide +kernel)⟩
theorem lw_p17 : lw_okq (⟨"LineBlocksModel", "mixed", "(II)I"⟩, 17) := ⟨⟨by decide +kernel, by decide +kernel⟩, List.mem_of_getElem? (i := 399) (by decide +kernel), List.mem_of_getElem? (i := 497) (by decide +kernel), List.mem_of_getElem? (i := 498) (by decide +kernel)⟩
theorem lw_p18 : lw_okq (⟨"LineBlocksModel", "remember", "(II)V"⟩, 17) := ⟨⟨by decide +kernel, by decide +kernel⟩, List.mem_of_getElem? (i := 399) (by decide +kernel), List.mem_of_getElem? (i := 501) (by decide +kernel), List.mem_of_getElem? (i := 502) (by decide +kernel)⟩
theorem lw_p19 : lw_okq (⟨"LineBlocksModel", "whole", "()V"⟩, 17) := ⟨⟨by decide +kernel, by decide +kernel⟩, List.mem_of_getElem? (i := 399) (by decide +kernel), List.mem_of_getElem? (i := 534) (by decide +kernel), List.mem_of_getElem? (i := 535) (by decide +kernel)⟩
theorem lw_p20 : lw_okq (⟨"LineBlocksModel", "slip", "()V"⟩, 17) := ⟨⟨by decide +kernel, by decide +kernel⟩, List.mem_of_getElem? (i := 399) (by decide +kernel), List.mem_of_getElem? (i := 538) (by decide +kernel), List.mem_of_getElem? (i := 539) (by decide +kernel)⟩
theorem lw_p21 : lw_okq (⟨"LineBlocksModel", "tell", "()V"⟩, 17) := ⟨⟨by decide +kernel, by decide +kernel⟩, List.mem_of_getElem? (i := 399) (by decide +kernel), List.mem_of_getElem? (i := 542) (by decide +kernel), List.mem_of_getElem? (i := 543) (by decide +kernel)⟩
theorem lw_p22 : lw_okq (⟨"LineBlocksModel", "character", "(I)I"⟩, 17) := ⟨⟨by decide +kernel, by decide +kernel⟩, List.mem_of_getElem? (i := 399) (by decide +kernel), List.mem_of_getElem? (i := 546) (by decide +kernel), List.mem_of_getElem? (i := 547) (by decide +kernel)⟩
theorem lw_p23 : lw_okq (⟨"LineBlocksModel", "get", "(II)I"⟩, 17) := ⟨⟨by decide +kernel, by decide +kernel⟩, List.mem_of_getElem? (i := 399) (by decide +kernel), List.mem_of_getElem? (i := 550) (by decide +kernel), List.mem_of_getElem? (i := 551) (by decide +kernel)⟩
theorem lw_p24 : lw_okq (⟨"LineBlocksModel", "codeAt", "(I)I"⟩, 17) := ⟨⟨by decide +kernel, by decide +kernel⟩, List.mem_of_getElem? (i := 399) (by decide +kernel), List.mem_of_getElem? (i := 554) (by decide +kernel), List.mem_of_getElem? (i := 555) (by decide +kernel)⟩
theorem lw_p25 : lw_okq (⟨"LineBlocksModel", "endOf", "(I)I"⟩, 17) := ⟨⟨by decide +kernel, by decide +kernel⟩, List.mem_of_getElem? (i := 399) (by decide +kernel), List.mem_of_getElem? (i := 558) (by decide +kernel), List.mem_of_getElem? (i := 559) (by decide +kernel)⟩
def lw_privs_2 : List (MethodName × Nat) := [(⟨"LineBlocksModel", "putCode", "(II)V"⟩, 17), (⟨"LineBlocksModel", "mixed", "(II)I"⟩, 17), (⟨"LineBlocksModel", "remember", "(II)V"⟩, 17), (⟨"LineBlocksModel", "whole", "()V"⟩, 17), (⟨"LineBlocksModel", "slip", "()V"⟩, 17), (⟨"LineBlocksModel", "tell", "()V"⟩, 17), (⟨"LineBlocksModel", "character", "(I)I"⟩, 17), (⟨"LineBlocksModel", "get", "(II)I"⟩, 17), (⟨"LineBlocksModel", "codeAt", "(I)I"⟩, 17), (⟨"LineBlocksModel", "endOf", "(I)I"⟩, 17)]
theorem lw_r2 : ∀ q ∈ lw_privs_2, lw_okq q := List.forall_mem_cons.mpr ⟨lw_p16, List.forall_mem_cons.mpr ⟨lw_p17, List.forall_mem_cons.mpr ⟨lw_p18, List.forall_mem_cons.mpr ⟨lw_p19, List.forall_mem_cons.mpr ⟨lw_p20, List.forall_mem_cons.mpr ⟨lw_p21, List.forall_mem_cons.mpr ⟨lw_p22, List.forall_mem_cons.mpr ⟨lw_p23, List.forall_mem_cons.mpr ⟨lw_p24, List.forall_mem_cons.mpr ⟨lw_p25, fun _ h => absurd h List.not_mem_nil⟩⟩⟩⟩⟩⟩⟩⟩⟩⟩
def lw_privs : List (MethodName × Nat) := lw_privs_1 ++ (lw_privs_2)
def lw_tbl : List Cond := k2_sels lw_privs ++ tables_1
theorem lw_privs_ok : ∀ q ∈ lw_privs, lw_okq q := by
  show ∀ q ∈ lw_privs_1 ++ (lw_privs_2), lw_okq q
  exact List.forall_mem_append.mpr ⟨lw_r1, lw_r2⟩

def RX0 : String := "LineBlocks$Codec"
def TX0 : u_T := fun k => match k with
  | _ => ("", "", "", false)
def tyX0 : Nat → FieldType := fun k => match k with
  | _ => .int
abbrev wsX00 : List Cond := u_ws RX0 TX0 0
theorem nmX0 : ∀ a, a < 0 → ∀ b, b < 0 → a ≠ b → (TX0 a).2.1 ≠ (TX0 b).2.1 := by decide +kernel
theorem tyX0_ok : ∀ k, k < 0 → parseFieldDescriptor (TX0 k).2.2.1 = some (tyX0 k) := by decide +kernel
abbrev cX0_typeOfGroup : ByteArray := prog_2_method_2_code
def yX0_typeOfGroup : MethodName := ⟨RX0, "typeOfGroup", "([I)I"⟩
abbrev cX0_payloadOf : ByteArray := prog_2_method_3_code
def yX0_payloadOf : MethodName := ⟨RX0, "payloadOf", "(I[I)J"⟩
abbrev cX0_typeOfBlock : ByteArray := prog_2_method_4_code
def yX0_typeOfBlock : MethodName := ⟨RX0, "typeOfBlock", "(IJ)I"⟩
abbrev cX0_characterOf : ByteArray := prog_2_method_5_code
def yX0_characterOf : MethodName := ⟨RX0, "characterOf", "(IJI)I"⟩
abbrev cX0_characterByEnd : ByteArray := prog_2_method_6_code
def yX0_characterByEnd : MethodName := ⟨RX0, "characterByEnd", "(IIJI)I"⟩
abbrev cX0_characterByMiddleStart : ByteArray := prog_2_method_7_code
def yX0_characterByMiddleStart : MethodName := ⟨RX0, "characterByMiddleStart", "(JI)I"⟩
abbrev cX0_dataAt : ByteArray := prog_2_method_8_code
def yX0_dataAt : MethodName := ⟨RX0, "dataAt", "(IJI)I"⟩
abbrev cX0_codedAt : ByteArray := prog_2_method_9_code
def yX0_codedAt : MethodName := ⟨RX0, "codedAt", "(JI)I"⟩
abbrev cX0_bitsOf : ByteArray := prog_2_method_10_code
def yX0_bitsOf : MethodName := ⟨RX0, "bitsOf", "(III)J"⟩
abbrev cX0_dataShift : ByteArray := prog_2_method_11_code
def yX0_dataShift : MethodName := ⟨RX0, "dataShift", "(II)I"⟩
abbrev cX0_codeShift : ByteArray := prog_2_method_12_code
def yX0_codeShift : MethodName := ⟨RX0, "codeShift", "(I)I"⟩
abbrev cX0_endPlace : ByteArray := prog_2_method_13_code
def yX0_endPlace : MethodName := ⟨RX0, "endPlace", "(I)I"⟩
abbrev cX0_leadingData : ByteArray := prog_2_method_14_code
def yX0_leadingData : MethodName := ⟨RX0, "leadingData", "([I)I"⟩
abbrev cX0_areData : ByteArray := prog_2_method_15_code
def yX0_areData : MethodName := ⟨RX0, "areData", "([II)Z"⟩
abbrev cX0_areIdleOrError : ByteArray := prog_2_method_16_code
def yX0_areIdleOrError : MethodName := ⟨RX0, "areIdleOrError", "([III)Z"⟩
abbrev cX0_isData : ByteArray := prog_2_method_17_code
def yX0_isData : MethodName := ⟨RX0, "isData", "(I)Z"⟩
def RX1 : String := "LineBlocks$Groups"
def TX1 : u_T := fun k => match k with
  | 0 => ("LineBlocks$Groups", "types", "[I", true)
  | 1 => ("LineBlocks$Groups", "payloads", "[J", true)
  | _ => ("LineBlocks$Groups", "count", "I", false)
def tyX1 : Nat → FieldType := fun k => match k with
  | 0 => .array .int
  | 1 => .array .long
  | _ => .int
abbrev wsX10 : List Cond := u_ws RX1 TX1 3
theorem nmX1 : ∀ a, a < 3 → ∀ b, b < 3 → a ≠ b → (TX1 a).2.1 ≠ (TX1 b).2.1 := by decide +kernel
theorem tyX1_ok : ∀ k, k < 3 → parseFieldDescriptor (TX1 k).2.2.1 = some (tyX1 k) := by decide +kernel
abbrev cX1_init : ByteArray := prog_3_method_1_code
def yX1_init : MethodName := ⟨RX1, "<init>", "()V"⟩
abbrev cX1_count : ByteArray := prog_3_method_2_code
def yX1_count : MethodName := ⟨RX1, "count", "()I"⟩
abbrev cX1_keep : ByteArray := prog_3_method_3_code
def yX1_keep : MethodName := ⟨RX1, "keep", "(IJ)V"⟩
abbrev cX1_character : ByteArray := prog_3_method_4_code
def yX1_character : MethodName := ⟨RX1, "character", "(II)I"⟩
abbrev cX1_isKept : ByteArray := prog_3_method_5_code
def yX1_isKept : MethodName := ⟨RX1, "isKept", "(I)Z"⟩
abbrev cX1_slotOf : ByteArray := prog_3_method_6_code
def yX1_slotOf : MethodName := ⟨RX1, "slotOf", "(I)I"⟩
def RX2 : String := "LineBlocks$Line"
def TX2 : u_T := fun k => match k with
  | 0 => ("LineBlocks$Line", "words", "[J", true)
  | 1 => ("LineBlocks$Line", "first", "I", false)
  | _ => ("LineBlocks$Line", "count", "I", false)
def tyX2 : Nat → FieldType := fun k => match k with
  | 0 => .array .long
  | 1 => .int
  | _ => .int
abbrev wsX20 : List Cond := u_ws RX2 TX2 3
theorem nmX2 : ∀ a, a < 3 → ∀ b, b < 3 → a ≠ b → (TX2 a).2.1 ≠ (TX2 b).2.1 := by decide +kernel
theorem tyX2_ok : ∀ k, k < 3 → parseFieldDescriptor (TX2 k).2.2.1 = some (tyX2 k) := by decide +kernel
abbrev cX2_init : ByteArray := prog_4_method_1_code
def yX2_init : MethodName := ⟨RX2, "<init>", "()V"⟩
abbrev cX2_size : ByteArray := prog_4_method_2_code
def yX2_size : MethodName := ⟨RX2, "size", "()I"⟩
abbrev cX2_has : ByteArray := prog_4_method_3_code
def yX2_has : MethodName := ⟨RX2, "has", "(I)Z"⟩
abbrev cX2_at : ByteArray := prog_4_method_4_code
def yX2_at : MethodName := ⟨RX2, "at", "(I)I"⟩
abbrev cX2_flip : ByteArray := prog_4_method_5_code
def yX2_flip : MethodName := ⟨RX2, "flip", "(I)V"⟩
abbrev cX2_append : ByteArray := prog_4_method_6_code
def yX2_append : MethodName := ⟨RX2, "append", "(I)V"⟩
abbrev cX2_dropFirst : ByteArray := prog_4_method_7_code
def yX2_dropFirst : MethodName := ⟨RX2, "dropFirst", "(I)V"⟩
abbrev cX2_ringPlace : ByteArray := prog_4_method_8_code
def yX2_ringPlace : MethodName := ⟨RX2, "ringPlace", "(I)I"⟩
def RX3 : String := "LineBlocks$Receiver"
def TX3 : u_T := fun k => match k with
  | 0 => ("LineBlocks$Receiver", "scrambler", "LLineBlocks$Scrambler;", true)
  | 1 => ("LineBlocks$Receiver", "groups", "LLineBlocks$Groups;", true)
  | 2 => ("LineBlocks$Receiver", "head", "I", false)
  | 3 => ("LineBlocks$Receiver", "payload", "J", false)
  | 4 => ("LineBlocks$Receiver", "have", "I", false)
  | 5 => ("LineBlocks$Receiver", "locked", "Z", false)
  | 6 => ("LineBlocks$Receiver", "dropsNext", "Z", false)
  | 7 => ("LineBlocks$Receiver", "hits", "I", false)
  | 8 => ("LineBlocks$Receiver", "slips", "I", false)
  | 9 => ("LineBlocks$Receiver", "blocksOfRow", "I", false)
  | _ => ("LineBlocks$Receiver", "wrongHeads", "I", false)
def tyX3 : Nat → FieldType := fun k => match k with
  | 0 => .object "LineBlocks$Scrambler"
  | 1 => .object "LineBlocks$Groups"
  | 2 => .int
  | 3 => .long
  | 4 => .int
  | 5 => .boolean
  | 6 => .boolean
  | 7 => .int
  | 8 => .int
  | 9 => .int
  | _ => .int
abbrev wsX30 : List Cond := u_ws RX3 TX3 11
theorem nmX3 : ∀ a, a < 11 → ∀ b, b < 11 → a ≠ b → (TX3 a).2.1 ≠ (TX3 b).2.1 := by decide +kernel
theorem tyX3_ok : ∀ k, k < 11 → parseFieldDescriptor (TX3 k).2.2.1 = some (tyX3 k) := by decide +kernel
abbrev cX3_init : ByteArray := prog_5_method_1_code
def yX3_init : MethodName := ⟨RX3, "<init>", "()V"⟩
abbrev cX3_isLocked : ByteArray := prog_5_method_2_code
def yX3_isLocked : MethodName := ⟨RX3, "isLocked", "()Z"⟩
abbrev cX3_hitCount : ByteArray := prog_5_method_3_code
def yX3_hitCount : MethodName := ⟨RX3, "hitCount", "()I"⟩
abbrev cX3_slipCount : ByteArray := prog_5_method_4_code
def yX3_slipCount : MethodName := ⟨RX3, "slipCount", "()I"⟩
abbrev cX3_bitsOfBlock : ByteArray := prog_5_method_5_code
def yX3_bitsOfBlock : MethodName := ⟨RX3, "bitsOfBlock", "()I"⟩
abbrev cX3_groupCount : ByteArray := prog_5_method_6_code
def yX3_groupCount : MethodName := ⟨RX3, "groupCount", "()I"⟩
abbrev cX3_wrongHeadCount : ByteArray := prog_5_method_7_code
def yX3_wrongHeadCount : MethodName := ⟨RX3, "wrongHeadCount", "()I"⟩
abbrev cX3_character : ByteArray := prog_5_method_8_code
def yX3_character : MethodName := ⟨RX3, "character", "(II)I"⟩
abbrev cX3_exchangeState : ByteArray := prog_5_method_9_code
def yX3_exchangeState : MethodName := ⟨RX3, "exchangeState", "(J)J"⟩
abbrev cX3_take : ByteArray := prog_5_method_10_code
def yX3_take : MethodName := ⟨RX3, "take", "(I)V"⟩
abbrev cX3_beginBlock : ByteArray := prog_5_method_11_code
def yX3_beginBlock : MethodName := ⟨RX3, "beginBlock", "()V"⟩
abbrev cX3_endBlock : ByteArray := prog_5_method_12_code
def yX3_endBlock : MethodName := ⟨RX3, "endBlock", "()V"⟩
abbrev cX3_countHit : ByteArray := prog_5_method_13_code
def yX3_countHit : MethodName := ⟨RX3, "countHit", "(Z)V"⟩
abbrev cX3_countInRow : ByteArray := prog_5_method_14_code
def yX3_countInRow : MethodName := ⟨RX3, "countInRow", "(Z)V"⟩
abbrev cX3_beginRow : ByteArray := prog_5_method_15_code
def yX3_beginRow : MethodName := ⟨RX3, "beginRow", "()V"⟩
abbrev cX3_slip : ByteArray := prog_5_method_16_code
def yX3_slip : MethodName := ⟨RX3, "slip", "()V"⟩
def RX4 : String := "LineBlocks$Scrambler"
def TX4 : u_T := fun k => match k with
  | _ => ("LineBlocks$Scrambler", "latest", "J", false)
def tyX4 : Nat → FieldType := fun k => match k with
  | _ => .long
abbrev wsX40 : List Cond := u_ws RX4 TX4 1
theorem nmX4 : ∀ a, a < 1 → ∀ b, b < 1 → a ≠ b → (TX4 a).2.1 ≠ (TX4 b).2.1 := by decide +kernel
theorem tyX4_ok : ∀ k, k < 1 → parseFieldDescriptor (TX4 k).2.2.1 = some (tyX4 k) := by decide +kernel
abbrev cX4_init : ByteArray := prog_6_method_1_code
def yX4_init : MethodName := ⟨RX4, "<init>", "()V"⟩
abbrev cX4_exchange : ByteArray := prog_6_method_2_code
def yX4_exchange : MethodName := ⟨RX4, "exchange", "(J)J"⟩
abbrev cX4_scramble : ByteArray := prog_6_method_3_code
def yX4_scramble : MethodName := ⟨RX4, "scramble", "(I)I"⟩
abbrev cX4_unscramble : ByteArray := prog_6_method_4_code
def yX4_unscramble : MethodName := ⟨RX4, "unscramble", "(I)I"⟩
abbrev cX4_mixed : ByteArray := prog_6_method_5_code
def yX4_mixed : MethodName := ⟨RX4, "mixed", "(I)I"⟩
abbrev cX4_keep : ByteArray := prog_6_method_6_code
def yX4_keep : MethodName := ⟨RX4, "keep", "(I)V"⟩
def RX5 : String := "LineBlocks$Sender"
def TX5 : u_T := fun k => match k with
  | 0 => ("LineBlocks$Sender", "scrambler", "LLineBlocks$Scrambler;", true)
  | 1 => ("LineBlocks$Sender", "group", "[I", true)
  | _ => ("LineBlocks$Sender", "waiting", "I", false)
def tyX5 : Nat → FieldType := fun k => match k with
  | 0 => .object "LineBlocks$Scrambler"
  | 1 => .array .int
  | _ => .int
abbrev wsX50 : List Cond := u_ws RX5 TX5 3
theorem nmX5 : ∀ a, a < 3 → ∀ b, b < 3 → a ≠ b → (TX5 a).2.1 ≠ (TX5 b).2.1 := by decide +kernel
theorem tyX5_ok : ∀ k, k < 3 → parseFieldDescriptor (TX5 k).2.2.1 = some (tyX5 k) := by decide +kernel
abbrev cX5_init : ByteArray := prog_7_method_1_code
def yX5_init : MethodName := ⟨RX5, "<init>", "()V"⟩
abbrev cX5_waitingCount : ByteArray := prog_7_method_2_code
def yX5_waitingCount : MethodName := ⟨RX5, "waitingCount", "()I"⟩
abbrev cX5_exchangeState : ByteArray := prog_7_method_3_code
def yX5_exchangeState : MethodName := ⟨RX5, "exchangeState", "(J)J"⟩
abbrev cX5_accept : ByteArray := prog_7_method_4_code
def yX5_accept : MethodName := ⟨RX5, "accept", "(ILLineBlocks$Line;)V"⟩
abbrev cX5_acceptBytes : ByteArray := prog_7_method_5_code
def yX5_acceptBytes : MethodName := ⟨RX5, "acceptBytes", "(ILLineBlocks$Line;)V"⟩
abbrev cX5_sendIdleGroups : ByteArray := prog_7_method_6_code
def yX5_sendIdleGroups : MethodName := ⟨RX5, "sendIdleGroups", "(ILLineBlocks$Line;)V"⟩
abbrev cX5_sendGroup : ByteArray := prog_7_method_7_code
def yX5_sendGroup : MethodName := ⟨RX5, "sendGroup", "(LLineBlocks$Line;)V"⟩
abbrev cX5_sendBlock : ByteArray := prog_7_method_8_code
def yX5_sendBlock : MethodName := ⟨RX5, "sendBlock", "(IJLLineBlocks$Line;)V"⟩
def RX6 : String := "LineBlocks"
def TX6 : u_T := fun k => match k with
  | 0 => ("LineBlocks", "line", "LLineBlocks$Line;", true)
  | 1 => ("LineBlocks", "sender", "LLineBlocks$Sender;", true)
  | _ => ("LineBlocks", "taker", "LLineBlocks$Receiver;", true)
def tyX6 : Nat → FieldType := fun k => match k with
  | 0 => .object "LineBlocks$Line"
  | 1 => .object "LineBlocks$Sender"
  | _ => .object "LineBlocks$Receiver"
abbrev wsX60 : List Cond := u_ws RX6 TX6 3
theorem nmX6 : ∀ a, a < 3 → ∀ b, b < 3 → a ≠ b → (TX6 a).2.1 ≠ (TX6 b).2.1 := by decide +kernel
theorem tyX6_ok : ∀ k, k < 3 → parseFieldDescriptor (TX6 k).2.2.1 = some (tyX6 k) := by decide +kernel
abbrev cX6_init : ByteArray := prog_1_method_1_code
def yX6_init : MethodName := ⟨RX6, "<init>", "()V"⟩
abbrev cX6_put : ByteArray := prog_1_method_2_code
def yX6_put : MethodName := ⟨RX6, "put", "(I)I"⟩
abbrev cX6_word : ByteArray := prog_1_method_3_code
def yX6_word : MethodName := ⟨RX6, "word", "(II)I"⟩
abbrev cX6_idle : ByteArray := prog_1_method_4_code
def yX6_idle : MethodName := ⟨RX6, "idle", "(I)I"⟩
abbrev cX6_state : ByteArray := prog_1_method_5_code
def yX6_state : MethodName := ⟨RX6, "state", "(IJ)J"⟩
abbrev cX6_bits : ByteArray := prog_1_method_6_code
def yX6_bits : MethodName := ⟨RX6, "bits", "()I"⟩
abbrev cX6_bit : ByteArray := prog_1_method_7_code
def yX6_bit : MethodName := ⟨RX6, "bit", "(I)I"⟩
abbrev cX6_turn : ByteArray := prog_1_method_8_code
def yX6_turn : MethodName := ⟨RX6, "turn", "(I)I"⟩
abbrev cX6_add : ByteArray := prog_1_method_9_code
def yX6_add : MethodName := ⟨RX6, "add", "(I)I"⟩
abbrev cX6_receive : ByteArray := prog_1_method_10_code
def yX6_receive : MethodName := ⟨RX6, "receive", "(I)I"⟩
abbrev cX6_told : ByteArray := prog_1_method_11_code
def yX6_told : MethodName := ⟨RX6, "told", "(II)I"⟩
abbrev cX6_receiver : ByteArray := prog_1_method_12_code
def yX6_receiver : MethodName := ⟨RX6, "receiver", "(I)I"⟩
def RX7 : String := "LineBlocksModel"
def TX7 : u_T := fun k => match k with
  | 0 => ("LineBlocksModel", "thrown", "I", false)
  | 1 => ("LineBlocksModel", "waiting", "I", false)
  | 2 => ("LineBlocksModel", "group", "[I", true)
  | 3 => ("LineBlocksModel", "size", "I", false)
  | 4 => ("LineBlocksModel", "line", "[B", true)
  | 5 => ("LineBlocksModel", "latest", "[I", true)
  | 6 => ("LineBlocksModel", "block", "[I", true)
  | 7 => ("LineBlocksModel", "came", "[I", true)
  | 8 => ("LineBlocksModel", "taken", "I", false)
  | 9 => ("LineBlocksModel", "slips", "Z", false)
  | 10 => ("LineBlocksModel", "locked", "Z", false)
  | 11 => ("LineBlocksModel", "hits", "I", false)
  | 12 => ("LineBlocksModel", "slipped", "I", false)
  | 13 => ("LineBlocksModel", "row", "I", false)
  | 14 => ("LineBlocksModel", "wrong", "I", false)
  | 15 => ("LineBlocksModel", "toldCount", "I", false)
  | _ => ("LineBlocksModel", "told", "[I", true)
def tyX7 : Nat → FieldType := fun k => match k with
  | 0 => .int
  | 1 => .int
  | 2 => .array .int
  | 3 => .int
  | 4 => .array .byte
  | 5 => .array .int
  | 6 => .array .int
  | 7 => .array .int
  | 8 => .int
  | 9 => .boolean
  | 10 => .boolean
  | 11 => .int
  | 12 => .int
  | 13 => .int
  | 14 => .int
  | 15 => .int
  | _ => .array .int
abbrev wsX70 : List Cond := u_ws RX7 TX7 17
theorem nmX7 : ∀ a, a < 17 → ∀ b, b < 17 → a ≠ b → (TX7 a).2.1 ≠ (TX7 b).2.1 := by decide +kernel
theorem tyX7_ok : ∀ k, k < 17 → parseFieldDescriptor (TX7 k).2.2.1 = some (tyX7 k) := by decide +kernel
abbrev cX7_init : ByteArray := prog_9_method_1_code
def yX7_init : MethodName := ⟨RX7, "<init>", "()V"⟩
abbrev cX7_mixed : ByteArray := prog_9_method_3_code
def yX7_mixed : MethodName := ⟨RX7, "mixed", "(II)I"⟩
abbrev cX7_remember : ByteArray := prog_9_method_4_code
def yX7_remember : MethodName := ⟨RX7, "remember", "(II)V"⟩
abbrev cX7_state : ByteArray := prog_9_method_5_code
def yX7_state : MethodName := ⟨RX7, "state", "(IJ)J"⟩
abbrev cX7_isData : ByteArray := prog_9_method_6_code
def yX7_isData : MethodName := ⟨RX7, "isData", "(I)Z"⟩
abbrev cX7_isQuiet : ByteArray := prog_9_method_7_code
def yX7_isQuiet : MethodName := ⟨RX7, "isQuiet", "(I)Z"⟩
abbrev cX7_are : ByteArray := prog_9_method_8_code
def yX7_are : MethodName := ⟨RX7, "are", "(IIZ)Z"⟩
abbrev cX7_typeOf : ByteArray := prog_9_method_9_code
def yX7_typeOf : MethodName := ⟨RX7, "typeOf", "(I)I"⟩
abbrev cX7_setBits : ByteArray := prog_9_method_10_code
def yX7_setBits : MethodName := ⟨RX7, "setBits", "(III)V"⟩
abbrev cX7_putCode : ByteArray := prog_9_method_11_code
def yX7_putCode : MethodName := ⟨RX7, "putCode", "(II)V"⟩
abbrev cX7_encode : ByteArray := prog_9_method_12_code
def yX7_encode : MethodName := ⟨RX7, "encode", "()V"⟩
abbrev cX7_send : ByteArray := prog_9_method_13_code
def yX7_send : MethodName := ⟨RX7, "send", "()V"⟩
abbrev cX7_put : ByteArray := prog_9_method_14_code
def yX7_put : MethodName := ⟨RX7, "put", "(I)I"⟩
abbrev cX7_word : ByteArray := prog_9_method_15_code
def yX7_word : MethodName := ⟨RX7, "word", "(II)I"⟩
abbrev cX7_idle : ByteArray := prog_9_method_16_code
def yX7_idle : MethodName := ⟨RX7, "idle", "(I)I"⟩
abbrev cX7_bits : ByteArray := prog_9_method_17_code
def yX7_bits : MethodName := ⟨RX7, "bits", "()I"⟩
abbrev cX7_bit : ByteArray := prog_9_method_18_code
def yX7_bit : MethodName := ⟨RX7, "bit", "(I)I"⟩
abbrev cX7_turn : ByteArray := prog_9_method_19_code
def yX7_turn : MethodName := ⟨RX7, "turn", "(I)I"⟩
abbrev cX7_add : ByteArray := prog_9_method_20_code
def yX7_add : MethodName := ⟨RX7, "add", "(I)I"⟩
abbrev cX7_get : ByteArray := prog_9_method_21_code
def yX7_get : MethodName := ⟨RX7, "get", "(II)I"⟩
abbrev cX7_codeAt : ByteArray := prog_9_method_22_code
def yX7_codeAt : MethodName := ⟨RX7, "codeAt", "(I)I"⟩
abbrev cX7_endOf : ByteArray := prog_9_method_23_code
def yX7_endOf : MethodName := ⟨RX7, "endOf", "(I)I"⟩
abbrev cX7_character : ByteArray := prog_9_method_24_code
def yX7_character : MethodName := ⟨RX7, "character", "(I)I"⟩
abbrev cX7_tell : ByteArray := prog_9_method_25_code
def yX7_tell : MethodName := ⟨RX7, "tell", "()V"⟩
abbrev cX7_slip : ByteArray := prog_9_method_26_code
def yX7_slip : MethodName := ⟨RX7, "slip", "()V"⟩
abbrev cX7_whole : ByteArray := prog_9_method_27_code
def yX7_whole : MethodName := ⟨RX7, "whole", "()V"⟩
abbrev cX7_receive : ByteArray := prog_9_method_28_code
def yX7_receive : MethodName := ⟨RX7, "receive", "(I)I"⟩
abbrev cX7_told : ByteArray := prog_9_method_29_code
def yX7_told : MethodName := ⟨RX7, "told", "(II)I"⟩
abbrev cX7_receiver : ByteArray := prog_9_method_30_code
def yX7_receiver : MethodName := ⟨RX7, "receiver", "(I)I"⟩
def RJ9 : String := "java/lang/Math"
def TJ9 : u_T := fun k => match k with
  | _ => ("", "", "", false)
def tyJ9 : Nat → FieldType := fun k => match k with
  | _ => .int
abbrev wsJ90 : List Cond := u_ws RJ9 TJ9 0
theorem nmJ9 : ∀ a, a < 0 → ∀ b, b < 0 → a ≠ b → (TJ9 a).2.1 ≠ (TJ9 b).2.1 := by decide +kernel
theorem tyJ9_ok : ∀ k, k < 0 → parseFieldDescriptor (TJ9 k).2.2.1 = some (tyJ9 k) := by decide +kernel
abbrev cJ9_floorMod_7cf53 : ByteArray := prog_10_method_50_code
def yJ9_floorMod_7cf53 : MethodName := ⟨RJ9, "floorMod", "(II)I"⟩
abbrev cJ9_min_7cf53 : ByteArray := prog_10_method_69_code
def yJ9_min_7cf53 : MethodName := ⟨RJ9, "min", "(II)I"⟩
def RJ7 : String := "java/util/Arrays"
def TJ7 : u_T := fun k => match k with
  | _ => ("", "", "", false)
def tyJ7 : Nat → FieldType := fun k => match k with
  | _ => .int
abbrev wsJ70 : List Cond := u_ws RJ7 TJ7 0
theorem nmJ7 : ∀ a, a < 0 → ∀ b, b < 0 → a ≠ b → (TJ7 a).2.1 ≠ (TJ7 b).2.1 := by decide +kernel
theorem tyJ7_ok : ∀ k, k < 0 → parseFieldDescriptor (TJ7 k).2.2.1 = some (tyJ7 k) := by decide +kernel
abbrev cJ7_fill_53178 : ByteArray := prog_11_method_103_code
def yJ7_fill_53178 : MethodName := ⟨RJ7, "fill", "([II)V"⟩
def RL : String := "LineBlocksLaw"
abbrev cL_law : ByteArray := code
def yL_law : MethodName := ⟨RL, "law", "([I)Z"⟩
abbrev vwCl : List vw_C := [(RX1, TX1, 3), (RX2, TX2, 3), (RX3, TX3, 11), (RX4, TX4, 1), (RX5, TX5, 3), (RX6, TX6, 3), (RX7, TX7, 17)]
def nw_l : List (String × Nat × MethodName) := [(RX6, 11, yX2_init), (RX6, 18, yX5_init), (RX5, 13, yX4_init), (RX6, 25, yX3_init), (RX3, 11, yX4_init), (RX3, 20, yX1_init)]
