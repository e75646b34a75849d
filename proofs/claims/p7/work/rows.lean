section
-- ===== PART A: goes FIRST, ahead of the names: the tables' words, and 'selects' of the private methods out of them =====
/-- a private method of a class that the tables say can be made, by its rows of tables_1 -/
def lw_okq (q : MethodName × Nat) : Prop := (q.1.cls ≠ "java/lang/invoke/MethodHandle" ∧ q.1.cls ≠ "java/lang/invoke/VarHandle") ∧ Cond.instantiable q.1.cls q.2 ∈ tables_1 ∧ Cond.privateMethod q.1 ∈ tables_1 ∧ Cond.instanceMethod q.1 ∈ tables_1
theorem lw_p0 : lw_okq (⟨"LineBlocks$Sender", "sendGroup", "(LLineBlocks$Line;)V"⟩, 3) := ⟨⟨by decide +kernel, by decide +kernel⟩, List.mem_of_getElem? (i := 37) (by decide +kernel), List.mem_of_getElem? (i := 148) (by decide +kernel), List.mem_of_getElem? (i := 149) (by decide +kernel)⟩
theorem lw_p1 : lw_okq (⟨"LineBlocks$Sender", "sendBlock", "(IJLLineBlocks$Line;)V"⟩, 3) := ⟨⟨by decide +kernel, by decide +kernel⟩, List.mem_of_getElem? (i := 37) (by decide +kernel), List.mem_of_getElem? (i := 188) (by decide +kernel), List.mem_of_getElem? (i := 189) (by decide +kernel)⟩
theorem lw_p2 : lw_okq (⟨"LineBlocks$Line", "ringPlace", "(I)I"⟩, 3) := ⟨⟨by decide +kernel, by decide +kernel⟩, List.mem_of_getElem? (i := 20) (by decide +kernel), List.mem_of_getElem? (i := 196) (by decide +kernel), List.mem_of_getElem? (i := 197) (by decide +kernel)⟩
theorem lw_p3 : lw_okq (⟨"LineBlocks$Scrambler", "mixed", "(I)I"⟩, 1) := ⟨⟨by decide +kernel, by decide +kernel⟩, List.mem_of_getElem? (i := 43) (by decide +kernel), List.mem_of_getElem? (i := 208) (by decide +kernel), List.mem_of_getElem? (i := 209) (by decide +kernel)⟩
theorem lw_p4 : lw_okq (⟨"LineBlocks$Scrambler", "keep", "(I)V"⟩, 1) := ⟨⟨by decide +kernel, by decide +kernel⟩, List.mem_of_getElem? (i := 43) (by decide +kernel), List.mem_of_getElem? (i := 212) (by decide +kernel), List.mem_of_getElem? (i := 213) (by decide +kernel)⟩
theorem lw_p5 : lw_okq (⟨"LineBlocks$Receiver", "endBlock", "()V"⟩, 11) := ⟨⟨by decide +kernel, by decide +kernel⟩, List.mem_of_getElem? (i := 64) (by decide +kernel), List.mem_of_getElem? (i := 305) (by decide +kernel), List.mem_of_getElem? (i := 306) (by decide +kernel)⟩
theorem lw_p6 : lw_okq (⟨"LineBlocks$Receiver", "countInRow", "(Z)V"⟩, 11) := ⟨⟨by decide +kernel, by decide +kernel⟩, List.mem_of_getElem? (i := 64) (by decide +kernel), List.mem_of_getElem? (i := 320) (by decide +kernel), List.mem_of_getElem? (i := 321) (by decide +kernel)⟩
theorem lw_p7 : lw_okq (⟨"LineBlocks$Receiver", "slip", "()V"⟩, 11) := ⟨⟨by decide +kernel, by decide +kernel⟩, List.mem_of_getElem? (i := 64) (by decide +kernel), List.mem_of_getElem? (i := 324) (by decide +kernel), List.mem_of_getElem? (i := 325) (by decide +kernel)⟩
theorem lw_p8 : lw_okq (⟨"LineBlocks$Receiver", "beginRow", "()V"⟩, 11) := ⟨⟨by decide +kernel, by decide +kernel⟩, List.mem_of_getElem? (i := 64) (by decide +kernel), List.mem_of_getElem? (i := 328) (by decide +kernel), List.mem_of_getElem? (i := 329) (by decide +kernel)⟩
theorem lw_p9 : lw_okq (⟨"LineBlocks$Receiver", "countHit", "(Z)V"⟩, 11) := ⟨⟨by decide +kernel, by decide +kernel⟩, List.mem_of_getElem? (i := 64) (by decide +kernel), List.mem_of_getElem? (i := 332) (by decide +kernel), List.mem_of_getElem? (i := 333) (by decide +kernel)⟩
theorem lw_p10 : lw_okq (⟨"LineBlocks$Receiver", "beginBlock", "()V"⟩, 11) := ⟨⟨by decide +kernel, by decide +kernel⟩, List.mem_of_getElem? (i := 64) (by decide +kernel), List.mem_of_getElem? (i := 336) (by decide +kernel), List.mem_of_getElem? (i := 337) (by decide +kernel)⟩
theorem lw_p11 : lw_okq (⟨"LineBlocks$Groups", "isKept", "(I)Z"⟩, 3) := ⟨⟨by decide +kernel, by decide +kernel⟩, List.mem_of_getElem? (i := 72) (by decide +kernel), List.mem_of_getElem? (i := 356) (by decide +kernel), List.mem_of_getElem? (i := 357) (by decide +kernel)⟩
theorem lw_p12 : lw_okq (⟨"LineBlocksModel", "send", "()V"⟩, 17) := ⟨⟨by decide +kernel, by decide +kernel⟩, List.mem_of_getElem? (i := 399) (by decide +kernel), List.mem_of_getElem? (i := 468) (by decide +kernel), List.mem_of_getElem? (i := 469) (by decide +kernel)⟩
theorem lw_p13 : lw_okq (⟨"LineBlocksModel", "encode", "()V"⟩, 17) := ⟨⟨by decide +kernel, by decide +kernel⟩, List.mem_of_getElem? (i := 399) (by decide +kernel), List.mem_of_getElem? (i := 472) (by decide +kernel), List.mem_of_getElem? (i := 473) (by decide +kernel)⟩
theorem lw_p14 : lw_okq (⟨"LineBlocksModel", "are", "(IIZ)Z"⟩, 17) := ⟨⟨by decide +kernel, by decide +kernel⟩, List.mem_of_getElem? (i := 399) (by decide +kernel), List.mem_of_getElem? (i := 476) (by decide +kernel), List.mem_of_getElem? (i := 477) (by decide +kernel)⟩
theorem lw_p15 : lw_okq (⟨"LineBlocksModel", "setBits", "(III)V"⟩, 17) := ⟨⟨by decide +kernel, by decide +kernel⟩, List.mem_of_getElem? (i := 399) (by decide +kernel), List.mem_of_getElem? (i := 486) (by decide +kernel), List.mem_of_getElem? (i := 487) (by decide +kernel)⟩
def lw_privs_1 : List (MethodName × Nat) := [(⟨"LineBlocks$Sender", "sendGroup", "(LLineBlocks$Line;)V"⟩, 3), (⟨"LineBlocks$Sender", "sendBlock", "(IJLLineBlocks$Line;)V"⟩, 3), (⟨"LineBlocks$Line", "ringPlace", "(I)I"⟩, 3), (⟨"LineBlocks$Scrambler", "mixed", "(I)I"⟩, 1), (⟨"LineBlocks$Scrambler", "keep", "(I)V"⟩, 1), (⟨"LineBlocks$Receiver", "endBlock", "()V"⟩, 11), (⟨"LineBlocks$Receiver", "countInRow", "(Z)V"⟩, 11), (⟨"LineBlocks$Receiver", "slip", "()V"⟩, 11), (⟨"LineBlocks$Receiver", "beginRow", "()V"⟩, 11), (⟨"LineBlocks$Receiver", "countHit", "(Z)V"⟩, 11), (⟨"LineBlocks$Receiver", "beginBlock", "()V"⟩, 11), (⟨"LineBlocks$Groups", "isKept", "(I)Z"⟩, 3), (⟨"LineBlocksModel", "send", "()V"⟩, 17), (⟨"LineBlocksModel", "encode", "()V"⟩, 17), (⟨"LineBlocksModel", "are", "(IIZ)Z"⟩, 17), (⟨"LineBlocksModel", "setBits", "(III)V"⟩, 17)]
theorem lw_r1 : ∀ q ∈ lw_privs_1, lw_okq q := List.forall_mem_cons.mpr ⟨lw_p0, List.forall_mem_cons.mpr ⟨lw_p1, List.forall_mem_cons.mpr ⟨lw_p2, List.forall_mem_cons.mpr ⟨lw_p3, List.forall_mem_cons.mpr ⟨lw_p4, List.forall_mem_cons.mpr ⟨lw_p5, List.forall_mem_cons.mpr ⟨lw_p6, List.forall_mem_cons.mpr ⟨lw_p7, List.forall_mem_cons.mpr ⟨lw_p8, List.forall_mem_cons.mpr ⟨lw_p9, List.forall_mem_cons.mpr ⟨lw_p10, List.forall_mem_cons.mpr ⟨lw_p11, List.forall_mem_cons.mpr ⟨lw_p12, List.forall_mem_cons.mpr ⟨lw_p13, List.forall_mem_cons.mpr ⟨lw_p14, List.forall_mem_cons.mpr ⟨lw_p15, fun _ h => absurd h List.not_mem_nil⟩⟩⟩⟩⟩⟩⟩⟩⟩⟩⟩⟩⟩⟩⟩⟩
theorem lw_p16 : lw_okq (⟨"LineBlocksModel", "putCode", "(II)V"⟩, 17) := ⟨⟨by decide +kernel, by decide +kernel⟩, List.mem_of_getElem? (i := 399) (by decide +kernel), List.mem_of_getElem? (i := 490) (by decide +kernel), List.mem_of_getElem? (i := 491) (by decide +kernel)⟩
theorem lw_p17 : lw_okq (⟨"LineBlocksModel", "mixed", "(II)I"⟩, 17) := ⟨⟨by decide +kernel, by decide +kernel⟩, List.mem_of_getElem? (i := 399) (by decide +kernel), List.mem_of_getElem? (i := 497) (by decide +kernel), List.mem_of_getElem? (i := 498) (by decide +kernel)⟩
theorem lw_p18 : lw_okq (⟨"LineBlocksModel", "remember", "(II)V"⟩, 17) := ⟨⟨by decide +kernel, by decide +kernel⟩, List.mem_of_getElem? (i := 399) (by decide +kernel), List.mem_of_getElem? (i := 501) (by decide +kernel), List.mem_of_getElem? (i := 502) (by decide +kernel)⟩
theorem lw_p19 : lw_okq (⟨"LineBlocksModel", "whole", "()V"⟩, 17) := ⟨⟨by decide +kernel, by decide +kernel⟩, List.mem_of_getElem? (i := 399) (by decide +kernel), List.mem_of_getElem? (i := 534) (by decide +kernel), List.mem_of_getElem? (i := 535) (by decide +kernel)⟩
theorem lw_p20 : lw_okq (⟨"LineBlocksModel", "slip", "()V"⟩, 17) := ⟨⟨by decide +kernel, by decide +kernel⟩, List.mem_of_getElem? (i := 399) (by decide +kernel), List.mem_of_getElem? (i := 538) (by decide +kernel), List.mem_of_getElem? (i := 539) (by decide +kernel)⟩
theorem lw_p21 : lw_okq (⟨"LineBlocksModel", "tell", "()V"⟩, 17) := ⟨⟨by decide +kernel, by decide +kernel⟩, List.mem_of_getElem? (i := 399) (by decide +kernel), List.mem_of_getElem? (i := 542) (by decide +kernel), List.mem_of_getElem? (i := 543) (by decide +kernel)⟩
theorem lw_p22 : lw_okq (⟨"LineBlocksModel", "character", "(I)I"⟩, 17) := ⟨⟨by decide +kernel, by decide +kernel⟩, List.mem_of_getElem? (i := 399) (by decide +kernel), List.mem_of_getElem? (i := 546) (by decide +kernel), List.mem_of_getElem? (i := 547) (by decide +kernel)⟩
theorem lw_p23 : lw_okq (⟨"LineBlocksModel", "get", "(II)I"⟩, 17) := ⟨⟨by decide +kernel, by decide +kernel⟩, List.mem_of_getElem? (i := 399) (by decide +kernel), List.mem_of_getElem? (i := 550) (by decide +kernel), List.mem_of_getElem? (i := 551) (by decide +kernel)⟩
theorem lw_p24 : lw_okq (⟨"LineBlocksModel", "codeAt", "(I)I"⟩, 17) := ⟨⟨by decide +kernel, by decide +kernel⟩, List.mem_of_getElem? (i := 399) (by decide +kernel), List.mem_of_getElem? (i := 554) (by decide +kernel), List.mem_of_getElem? (i := 555) (by decide +kernel)⟩
theorem lw_p25 : lw_okq (⟨"LineBlocksModel", "endOf", "(I)I"⟩, 17) := ⟨⟨by decide +kernel, by decide +kernel⟩, List.mem_of_getElem? (i := 399) (by decide +kernel), List.mem_of_getElem? (i := 558) (by decide +kernel), List.mem_of_getElem? (i := 559) (by decide +kernel)⟩
def lw_privs_2 : List (MethodName × Nat) := [(⟨"LineBlocksModel", "putCode", "(II)V"⟩, 17), (⟨"LineBlocksModel", "mixed", "(II)I"⟩, 17), (⟨"LineBlocksModel", "remember", "(II)V"⟩, 17), (⟨"LineBlocksModel", "whole", "()V"⟩, 17), (⟨"LineBlocksModel", "slip", "()V"⟩, 17), (⟨"LineBlocksModel", "tell", "()V"⟩, 17), (⟨"LineBlocksModel", "character", "(I)I"⟩, 17), (⟨"LineBlocksModel", "get", "(II)I"⟩, 17), (⟨"LineBlocksModel", "codeAt", "(I)I"⟩, 17), (⟨"LineBlocksModel", "endOf", "(I)I"⟩, 17)]
theorem lw_r2 : ∀ q ∈ lw_privs_2, lw_okq q := List.forall_mem_cons.mpr ⟨lw_p16, List.forall_mem_cons.mpr ⟨lw_p17, List.forall_mem_cons.mpr ⟨lw_p18, List.forall_mem_cons.mpr ⟨lw_p19, List.forall_mem_cons.mpr ⟨lw_p20, List.forall_mem_cons.mpr ⟨lw_p21, List.forall_mem_cons.mpr ⟨lw_p22, List.forall_mem_cons.mpr ⟨lw_p23, List.forall_mem_cons.mpr ⟨lw_p24, List.forall_mem_cons.mpr ⟨lw_p25, fun _ h => absurd h List.not_mem_nil⟩⟩⟩⟩⟩⟩⟩⟩⟩⟩
def lw_privs : List (MethodName × Nat) := lw_privs_1 ++ (lw_privs_2)
def lw_tbl : List Cond := k2_sels lw_privs ++ tables_1
theorem lw_privs_ok : ∀ q ∈ lw_privs, lw_okq q := by
  show ∀ q ∈ lw_privs_1 ++ (lw_privs_2), lw_okq q
  exact List.forall_mem_append.mpr ⟨lw_r1, lw_r2⟩

def RX0 : String := "LineBlocks$Codec"
def TX0 : u_T := fun k => match k with
  | _ => ("", "", "", false)
def tyX0 : Nat → FieldType := fun k => match k with
  | _ => .int
abbrev wsX00 : List Cond := u_ws RX0 TX0 0
theorem nmX0 : ∀ a, a < 0 → ∀ b, b < 0 → a ≠ b → (TX0 a).2.1 ≠ (TX0 b).2.1 := by decide +kernel
theorem tyX0_ok : ∀ k, k < 0 → parseFieldDescriptor (TX0 k).2.2.1 = some (tyX0 k) := by decide +kernel
abbrev cX0_typeOfGroup : ByteArray := prog_2_method_2_code
def yX0_typeOfGroup : MethodName := ⟨RX0, "typeOfGroup", "([I)I"⟩
abbrev cX0_payloadOf : ByteArray := prog_2_method_3_code
def yX0_payloadOf : MethodName := ⟨RX0, "payloadOf", "(I[I)J"⟩
abbrev cX0_typeOfBlock : ByteArray := prog_2_method_4_code
def yX0_typeOfBlock : MethodName := ⟨RX0, "typeOfBlock", "(IJ)I"⟩
abbrev cX0_characterOf : ByteArray := prog_2_method_5_code
def yX0_characterOf : MethodName := ⟨RX0, "characterOf", "(IJI)I"⟩
abbrev cX0_characterByEnd : ByteArray := prog_2_method_6_code
def yX0_characterByEnd : MethodName := ⟨RX0, "characterByEnd", "(IIJI)I"⟩
abbrev cX0_characterByMiddleStart : ByteArray := prog_2_method_7_code
def yX0_characterByMiddleStart : MethodName := ⟨RX0, "characterByMiddleStart", "(JI)I"⟩
abbrev cX0_dataAt : ByteArray := prog_2_method_8_code
def yX0_dataAt : MethodName := ⟨RX0, "dataAt", "(IJI)I"⟩
abbrev cX0_codedAt : ByteArray := prog_2_method_9_code
def yX0_codedAt : MethodName := ⟨RX0, "codedAt", "(JI)I"⟩
abbrev cX0_bitsOf : ByteArray := prog_2_method_10_code
def yX0_bitsOf : MethodName := ⟨RX0, "bitsOf", "(III)J"⟩
abbrev cX0_dataShift : ByteArray := prog_2_method_11_code
def yX0_dataShift : MethodName := ⟨RX0, "dataShift", "(II)I"⟩
abbrev cX0_codeShift : ByteArray := prog_2_method_12_code
def yX0_codeShift : MethodName := ⟨RX0, "codeShift", "(I)I"⟩
abbrev cX0_endPlace : ByteArray := prog_2_method_13_code
def yX0_endPlace : MethodName := ⟨RX0, "endPlace", "(I)I"⟩
abbrev cX0_leadingData : ByteArray := prog_2_method_14_code
def yX0_leadingData : MethodName := ⟨RX0, "leadingData", "([I)I"⟩
abbrev cX0_areData : ByteArray := prog_2_method_15_code
def yX0_areData : MethodName := ⟨RX0, "areData", "([II)Z"⟩
abbrev cX0_areIdleOrError : ByteArray := prog_2_method_16_code
def yX0_areIdleOrError : MethodName := ⟨RX0, "areIdleOrError", "([III)Z"⟩
abbrev cX0_isData : ByteArray := prog_2_method_17_code
def yX0_isData : MethodName := ⟨RX0, "isData", "(I)Z"⟩
def RX1 : String := "LineBlocks$Groups"
def TX1 : u_T := fun k => match k with
  | 0 => ("LineBlocks$Groups", "types", "[I", true)
  | 1 => ("LineBlocks$Groups", "payloads", "[J", true)
  | _ => ("LineBlocks$Groups", "count", "I", false)
def tyX1 : Nat → FieldType := fun k => match k with
  | 0 => .array .int
  | 1 => .array .long
  | _ => .int
abbrev wsX10 : List Cond := u_ws RX1 TX1 3
theorem nmX1 : ∀ a, a < 3 → ∀ b, b < 3 → a ≠ b → (TX1 a).2.1 ≠ (TX1 b).2.1 := by decide +kernel
theorem tyX1_ok : ∀ k, k < 3 → parseFieldDescriptor (TX1 k).2.2.1 = some (tyX1 k) := by decide +kernel
abbrev cX1_init : ByteArray := prog_3_method_1_code
def yX1_init : MethodName := ⟨RX1, "<init>", "()V"⟩
abbrev cX1_count : ByteArray := prog_3_method_2_code
def yX1_count : MethodName := ⟨RX1, "count", "()I"⟩
abbrev cX1_keep : ByteArray := prog_3_method_3_code
def yX1_keep : MethodName := ⟨RX1, "keep", "(IJ)V"⟩
abbrev cX1_character : ByteArray := prog_3_method_4_code
def yX1_character : MethodName := ⟨RX1, "character", "(II)I"⟩
abbrev cX1_isKept : ByteArray := prog_3_method_5_code
def yX1_isKept : MethodName := ⟨RX1, "isKept", "(I)Z"⟩
abbrev cX1_slotOf : ByteArray := prog_3_method_6_code
def yX1_slotOf : MethodName := ⟨RX1, "slotOf", "(I)I"⟩
def RX2 : String := "LineBlocks$Line"
def TX2 : u_T := fun k => match k with
  | 0 => ("LineBlocks$Line", "words", "[J", true)
  | 1 => ("LineBlocks$Line", "first", "I", false)
  | _ => ("LineBlocks$Line", "count", "I", false)
def tyX2 : Nat → FieldType := fun k => match k with
  | 0 => .array .long
  | 1 => .int
  | _ => .int
abbrev wsX20 : List Cond := u_ws RX2 TX2 3
theorem nmX2 : ∀ a, a < 3 → ∀ b, b < 3 → a ≠ b → (TX2 a).2.1 ≠ (TX2 b).2.1 := by decide +kernel
theorem tyX2_ok : ∀ k, k < 3 → parseFieldDescriptor (TX2 k).2.2.1 = some (tyX2 k) := by decide +kernel
abbrev cX2_init : ByteArray := prog_4_method_1_code
def yX2_init : MethodName := ⟨RX2, "<init>", "()V"⟩
abbrev cX2_size : ByteArray := prog_4_method_2_code
def yX2_size : MethodName := ⟨RX2, "size", "()I"⟩
abbrev cX2_has : ByteArray := prog_4_method_3_code
def yX2_has : MethodName := ⟨RX2, "has", "(I)Z"⟩
abbrev cX2_at : ByteArray := prog_4_method_4_code
def yX2_at : MethodName := ⟨RX2, "at", "(I)I"⟩
abbrev cX2_flip : ByteArray := prog_4_method_5_code
def yX2_flip : MethodName := ⟨RX2, "flip", "(I)V"⟩
abbrev cX2_append : ByteArray := prog_4_method_6_code
def yX2_append : MethodName := ⟨RX2, "append", "(I)V"⟩
abbrev cX2_dropFirst : ByteArray := prog_4_method_7_code
def yX2_dropFirst : MethodName := ⟨RX2, "dropFirst", "(I)V"⟩
abbrev cX2_ringPlace : ByteArray := prog_4_method_8_code
def yX2_ringPlace : MethodName := ⟨RX2, "ringPlace", "(I)I"⟩
def RX3 : String := "LineBlocks$Receiver"
def TX3 : u_T := fun k => match k with
  | 0 => ("LineBlocks$Receiver", "scrambler", "LLineBlocks$Scrambler;", true)
  | 1 => ("LineBlocks$Receiver", "groups", "LLineBlocks$Groups;", true)
  | 2 => ("LineBlocks$Receiver", "head", "I", false)
  | 3 => ("LineBlocks$Receiver", "payload", "J", false)
  | 4 => ("LineBlocks$Receiver", "have", "I", false)
  | 5 => ("LineBlocks$Receiver", "locked", "Z", false)
  | 6 => ("LineBlocks$Receiver", "dropsNext", "Z", false)
  | 7 => ("LineBlocks$Receiver", "hits", "I", false)
  | 8 => ("LineBlocks$Receiver", "slips", "I", false)
  | 9 => ("LineBlocks$Receiver", "blocksOfRow", "I", false)
  | _ => ("LineBlocks$Receiver", "wrongHeads", "I", false)
def tyX3 : Nat → FieldType := fun k => match k with
  | 0 => .object "LineBlocks$Scrambler"
  | 1 => .object "LineBlocks$Groups"
  | 2 => .int
  | 3 => .long
  | 4 => .int
  | 5 => .boolean
  | 6 => .boolean
  | 7 => .int
  | 8 => .int
  | 9 => .int
  | _ => .int
abbrev wsX30 : List Cond := u_ws RX3 TX3 11
theorem nmX3 : ∀ a, a < 11 → ∀ b, b < 11 → a ≠ b → (TX3 a).2.1 ≠ (TX3 b).2.1 := by decide +kernel
theorem tyX3_ok : ∀ k, k < 11 → parseFieldDescriptor (TX3 k).2.2.1 = some (tyX3 k) := by decide +kernel
abbrev cX3_init : ByteArray := prog_5_method_1_code
def yX3_init : MethodName := ⟨RX3, "<init>", "()V"⟩
abbrev cX3_isLocked : ByteArray := prog_5_method_2_code
def yX3_isLocked : MethodName := ⟨RX3, "isLocked", "()Z"⟩
abbrev cX3_hitCount : ByteArray := prog_5_method_3_code
def yX3_hitCount : MethodName := ⟨RX3, "hitCount", "()I"⟩
abbrev cX3_slipCount : ByteArray := prog_5_method_4_code
def yX3_slipCount : MethodName := ⟨RX3, "slipCount", "()I"⟩
abbrev cX3_bitsOfBlock : ByteArray := prog_5_method_5_code
def yX3_bitsOfBlock : MethodName := ⟨RX3, "bitsOfBlock", "()I"⟩
abbrev cX3_groupCount : ByteArray := prog_5_method_6_code
def yX3_groupCount : MethodName := ⟨RX3, "groupCount", "()I"⟩
abbrev cX3_wrongHeadCount : ByteArray := prog_5_method_7_code
def yX3_wrongHeadCount : MethodName := ⟨RX3, "wrongHeadCount", "()I"⟩
abbrev cX3_character : ByteArray := prog_5_method_8_code
def yX3_character : MethodName := ⟨RX3, "character", "(II)I"⟩
abbrev cX3_exchangeState : ByteArray := prog_5_method_9_code
def yX3_exchangeState : MethodName := ⟨RX3, "exchangeState", "(J)J"⟩
abbrev cX3_take : ByteArray := prog_5_method_10_code
def yX3_take : MethodName := ⟨RX3, "take", "(I)V"⟩
abbrev cX3_beginBlock : ByteArray := prog_5_method_11_code
def yX3_beginBlock : MethodName := ⟨RX3, "beginBlock", "()V"⟩
abbrev cX3_endBlock : ByteArray := prog_5_method_12_code
def yX3_endBlock : MethodName := ⟨RX3, "endBlock", "()V"⟩
abbrev cX3_countHit : ByteArray := prog_5_method_13_code
def yX3_countHit : MethodName := ⟨RX3, "countHit", "(Z)V"⟩
abbrev cX3_countInRow : ByteArray := prog_5_method_14_code
def yX3_countInRow : MethodName := ⟨RX3, "countInRow", "(Z)V"⟩
abbrev cX3_beginRow : ByteArray := prog_5_method_15_code
def yX3_beginRow : MethodName := ⟨RX3, "beginRow", "()V"⟩
abbrev cX3_slip : ByteArray := prog_5_method_16_code
def yX3_slip : MethodName := ⟨RX3, "slip", "()V"⟩
def RX4 : String := "LineBlocks$Scrambler"
def TX4 : u_T := fun k => match k with
  | _ => ("LineBlocks$Scrambler", "latest", "J", false)
def tyX4 : Nat → FieldType := fun k => match k with
  | _ => .long
abbrev wsX40 : List Cond := u_ws RX4 TX4 1
theorem nmX4 : ∀ a, a < 1 → ∀ b, b < 1 → a ≠ b → (TX4 a).2.1 ≠ (TX4 b).2.1 := by decide +kernel
theorem tyX4_ok : ∀ k, k < 1 → parseFieldDescriptor (TX4 k).2.2.1 = some (tyX4 k) := by decide +kernel
abbrev cX4_init : ByteArray := prog_6_method_1_code
def yX4_init : MethodName := ⟨RX4, "<init>", "()V"⟩
abbrev cX4_exchange : ByteArray := prog_6_method_2_code
def yX4_exchange : MethodName := ⟨RX4, "exchange", "(J)J"⟩
abbrev cX4_scramble : ByteArray := prog_6_method_3_code
def yX4_scramble : MethodName := ⟨RX4, "scramble", "(I)I"⟩
abbrev cX4_unscramble : ByteArray := prog_6_method_4_code
def yX4_unscramble : MethodName := ⟨RX4, "unscramble", "(I)I"⟩
abbrev cX4_mixed : ByteArray := prog_6_method_5_code
def yX4_mixed : MethodName := ⟨RX4, "mixed", "(I)I"⟩
abbrev cX4_keep : ByteArray := prog_6_method_6_code
def yX4_keep : MethodName := ⟨RX4, "keep", "(I)V"⟩
def RX5 : String := "LineBlocks$Sender"
def TX5 : u_T := fun k => match k with
  | 0 => ("LineBlocks$Sender", "scrambler", "LLineBlocks$Scrambler;", true)
  | 1 => ("LineBlocks$Sender", "group", "[I", true)
  | _ => ("LineBlocks$Sender", "waiting", "I", false)
def tyX5 : Nat → FieldType := fun k => match k with
  | 0 => .object "LineBlocks$Scrambler"
  | 1 => .array .int
  | _ => .int
abbrev wsX50 : List Cond := u_ws RX5 TX5 3
theorem nmX5 : ∀ a, a < 3 → ∀ b, b < 3 → a ≠ b → (TX5 a).2.1 ≠ (TX5 b).2.1 := by decide +kernel
theorem tyX5_ok : ∀ k, k < 3 → parseFieldDescriptor (TX5 k).2.2.1 = some (tyX5 k) := by decide +kernel
abbrev cX5_init : ByteArray := prog_7_method_1_code
def yX5_init : MethodName := ⟨RX5, "<init>", "()V"⟩
abbrev cX5_waitingCount : ByteArray := prog_7_method_2_code
def yX5_waitingCount : MethodName := ⟨RX5, "waitingCount", "()I"⟩
abbrev cX5_exchangeState : ByteArray := prog_7_method_3_code
def yX5_exchangeState : MethodName := ⟨RX5, "exchangeState", "(J)J"⟩
abbrev cX5_accept : ByteArray := prog_7_method_4_code
def yX5_accept : MethodName := ⟨RX5, "accept", "(ILLineBlocks$Line;)V"⟩
abbrev cX5_acceptBytes : ByteArray := prog_7_method_5_code
def yX5_acceptBytes : MethodName := ⟨RX5, "acceptBytes", "(ILLineBlocks$Line;)V"⟩
abbrev cX5_sendIdleGroups : ByteArray := prog_7_method_6_code
def yX5_sendIdleGroups : MethodName := ⟨RX5, "sendIdleGroups", "(ILLineBlocks$Line;)V"⟩
abbrev cX5_sendGroup : ByteArray := prog_7_method_7_code
def yX5_sendGroup : MethodName := ⟨RX5, "sendGroup", "(LLineBlocks$Line;)V"⟩
abbrev cX5_sendBlock : ByteArray := prog_7_method_8_code
def yX5_sendBlock : MethodName := ⟨RX5, "sendBlock", "(IJLLineBlocks$Line;)V"⟩
def RX6 : String := "LineBlocks"
def TX6 : u_T := fun k => match k with
  | 0 => ("LineBlocks", "line", "LLineBlocks$Line;", true)
  | 1 => ("LineBlocks", "sender", "LLineBlocks$Sender;", true)
  | _ => ("LineBlocks", "taker", "LLineBlocks$Receiver;", true)
def tyX6 : Nat → FieldType := fun k => match k with
  | 0 => .object "LineBlocks$Line"
  | 1 => .object "LineBlocks$Sender"
  | _ => .object "LineBlocks$Receiver"
abbrev wsX60 : List Cond := u_ws RX6 TX6 3
theorem nmX6 : ∀ a, a < 3 → ∀ b, b < 3 → a ≠ b → (TX6 a).2.1 ≠ (TX6 b).2.1 := by decide +kernel
theorem tyX6_ok : ∀ k, k < 3 → parseFieldDescriptor (TX6 k).2.2.1 = some (tyX6 k) := by decide +kernel
abbrev cX6_init : ByteArray := prog_1_method_1_code
def yX6_init : MethodName := ⟨RX6, "<init>", "()V"⟩
abbrev cX6_put : ByteArray := prog_1_method_2_code
def yX6_put : MethodName := ⟨RX6, "put", "(I)I"⟩
abbrev cX6_word : ByteArray := prog_1_method_3_code
def yX6_word : MethodName := ⟨RX6, "word", "(II)I"⟩
abbrev cX6_idle : ByteArray := prog_1_method_4_code
def yX6_idle : MethodName := ⟨RX6, "idle", "(I)I"⟩
abbrev cX6_state : ByteArray := prog_1_method_5_code
def yX6_state : MethodName := ⟨RX6, "state", "(IJ)J"⟩
abbrev cX6_bits : ByteArray := prog_1_method_6_code
def yX6_bits : MethodName := ⟨RX6, "bits", "()I"⟩
abbrev cX6_bit : ByteArray := prog_1_method_7_code
def yX6_bit : MethodName := ⟨RX6, "bit", "(I)I"⟩
abbrev cX6_turn : ByteArray := prog_1_method_8_code
def yX6_turn : MethodName := ⟨RX6, "turn", "(I)I"⟩
abbrev cX6_add : ByteArray := prog_1_method_9_code
def yX6_add : MethodName := ⟨RX6, "add", "(I)I"⟩
abbrev cX6_receive : ByteArray := prog_1_method_10_code
def yX6_receive : MethodName := ⟨RX6, "receive", "(I)I"⟩
abbrev cX6_told : ByteArray := prog_1_method_11_code
def yX6_told : MethodName := ⟨RX6, "told", "(II)I"⟩
abbrev cX6_receiver : ByteArray := prog_1_method_12_code
def yX6_receiver : MethodName := ⟨RX6, "receiver", "(I)I"⟩
def RX7 : String := "LineBlocksModel"
def TX7 : u_T := fun k => match k with
  | 0 => ("LineBlocksModel", "thrown", "I", false)
  | 1 => ("LineBlocksModel", "waiting", "I", false)
  | 2 => ("LineBlocksModel", "group", "[I", true)
  | 3 => ("LineBlocksModel", "size", "I", false)
  | 4 => ("LineBlocksModel", "line", "[B", true)
  | 5 => ("LineBlocksModel", "latest", "[I", true)
  | 6 => ("LineBlocksModel", "block", "[I", true)
  | 7 => ("LineBlocksModel", "came", "[I", true)
  | 8 => ("LineBlocksModel", "taken", "I", false)
  | 9 => ("LineBlocksModel", "slips", "Z", false)
  | 10 => ("LineBlocksModel", "locked", "Z", false)
  | 11 => ("LineBlocksModel", "hits", "I", false)
  | 12 => ("LineBlocksModel", "slipped", "I", false)
  | 13 => ("LineBlocksModel", "row", "I", false)
  | 14 => ("LineBlocksModel", "wrong", "I", false)
  | 15 => ("LineBlocksModel", "toldCount", "I", false)
  | _ => ("LineBlocksModel", "told", "[I", true)
def tyX7 : Nat → FieldType := fun k => match k with
  | 0 => .int
  | 1 => .int
  | 2 => .array .int
  | 3 => .int
  | 4 => .array .byte
  | 5 => .array .int
  | 6 => .array .int
  | 7 => .array .int
  | 8 => .int
  | 9 => .boolean
  | 10 => .boolean
  | 11 => .int
  | 12 => .int
  | 13 => .int
  | 14 => .int
  | 15 => .int
  | _ => .array .int
abbrev wsX70 : List Cond := u_ws RX7 TX7 17
theorem nmX7 : ∀ a, a < 17 → ∀ b, b < 17 → a ≠ b → (TX7 a).2.1 ≠ (TX7 b).2.1 := by decide +kernel
theorem tyX7_ok : ∀ k, k < 17 → parseFieldDescriptor (TX7 k).2.2.1 = some (tyX7 k) := by decide +kernel
abbrev cX7_init : ByteArray := prog_9_method_1_code
def yX7_init : MethodName := ⟨RX7, "<init>", "()V"⟩
abbrev cX7_mixed : ByteArray := prog_9_method_3_code
def yX7_mixed : MethodName := ⟨RX7, "mixed", "(II)I"⟩
abbrev cX7_remember : ByteArray := prog_9_method_4_code
def yX7_remember : MethodName := ⟨RX7, "remember", "(II)V"⟩
abbrev cX7_state : ByteArray := prog_9_method_5_code
def yX7_state : MethodName := ⟨RX7, "state", "(IJ)J"⟩
abbrev cX7_isData : ByteArray := prog_9_method_6_code
def yX7_isData : MethodName := ⟨RX7, "isData", "(I)Z"⟩
abbrev cX7_isQuiet : ByteArray := prog_9_method_7_code
def yX7_isQuiet : MethodName := ⟨RX7, "isQuiet", "(I)Z"⟩
abbrev cX7_are : ByteArray := prog_9_method_8_code
def yX7_are : MethodName := ⟨RX7, "are", "(IIZ)Z"⟩
abbrev cX7_typeOf : ByteArray := prog_9_method_9_code
def yX7_typeOf : MethodName := ⟨RX7, "typeOf", "(I)I"⟩
abbrev cX7_setBits : ByteArray := prog_9_method_10_code
def yX7_setBits : MethodName := ⟨RX7, "setBits", "(III)V"⟩
abbrev cX7_putCode : ByteArray := prog_9_method_11_code
def yX7_putCode : MethodName := ⟨RX7, "putCode", "(II)V"⟩
abbrev cX7_encode : ByteArray := prog_9_method_12_code
def yX7_encode : MethodName := ⟨RX7, "encode", "()V"⟩
abbrev cX7_send : ByteArray := prog_9_method_13_code
def yX7_send : MethodName := ⟨RX7, "send", "()V"⟩
abbrev cX7_put : ByteArray := prog_9_method_14_code
def yX7_put : MethodName := ⟨RX7, "put", "(I)I"⟩
abbrev cX7_word : ByteArray := prog_9_method_15_code
def yX7_word : MethodName := ⟨RX7, "word", "(II)I"⟩
abbrev cX7_idle : ByteArray := prog_9_method_16_code
def yX7_idle : MethodName := ⟨RX7, "idle", "(I)I"⟩
abbrev cX7_bits : ByteArray := prog_9_method_17_code
def yX7_bits : MethodName := ⟨RX7, "bits", "()I"⟩
abbrev cX7_bit : ByteArray := prog_9_method_18_code
def yX7_bit : MethodName := ⟨RX7, "bit", "(I)I"⟩
abbrev cX7_turn : ByteArray := prog_9_method_19_code
def yX7_turn : MethodName := ⟨RX7, "turn", "(I)I"⟩
abbrev cX7_add : ByteArray := prog_9_method_20_code
def yX7_add : MethodName := ⟨RX7, "add", "(I)I"⟩
abbrev cX7_get : ByteArray := prog_9_method_21_code
def yX7_get : MethodName := ⟨RX7, "get", "(II)I"⟩
abbrev cX7_codeAt : ByteArray := prog_9_method_22_code
def yX7_codeAt : MethodName := ⟨RX7, "codeAt", "(I)I"⟩
abbrev cX7_endOf : ByteArray := prog_9_method_23_code
def yX7_endOf : MethodName := ⟨RX7, "endOf", "(I)I"⟩
abbrev cX7_character : ByteArray := prog_9_method_24_code
def yX7_character : MethodName := ⟨RX7, "character", "(I)I"⟩
abbrev cX7_tell : ByteArray := prog_9_method_25_code
def yX7_tell : MethodName := ⟨RX7, "tell", "()V"⟩
abbrev cX7_slip : ByteArray := prog_9_method_26_code
def yX7_slip : MethodName := ⟨RX7, "slip", "()V"⟩
abbrev cX7_whole : ByteArray := prog_9_method_27_code
def yX7_whole : MethodName := ⟨RX7, "whole", "()V"⟩
abbrev cX7_receive : ByteArray := prog_9_method_28_code
def yX7_receive : MethodName := ⟨RX7, "receive", "(I)I"⟩
abbrev cX7_told : ByteArray := prog_9_method_29_code
def yX7_told : MethodName := ⟨RX7, "told", "(II)I"⟩
abbrev cX7_receiver : ByteArray := prog_9_method_30_code
def yX7_receiver : MethodName := ⟨RX7, "receiver", "(I)I"⟩
def RJ9 : String := "java/lang/Math"
def TJ9 : u_T := fun k => match k with
  | _ => ("", "", "", false)
def tyJ9 : Nat → FieldType := fun k => match k with
  | _ => .int
abbrev wsJ90 : List Cond := u_ws RJ9 TJ9 0
theorem nmJ9 : ∀ a, a < 0 → ∀ b, b < 0 → a ≠ b → (TJ9 a).2.1 ≠ (TJ9 b).2.1 := by decide +kernel
theorem tyJ9_ok : ∀ k, k < 0 → parseFieldDescriptor (TJ9 k).2.2.1 = some (tyJ9 k) := by decide +kernel
abbrev cJ9_floorMod_7cf53 : ByteArray := prog_10_method_50_code
def yJ9_floorMod_7cf53 : MethodName := ⟨RJ9, "floorMod", "(II)I"⟩
abbrev cJ9_min_7cf53 : ByteArray := prog_10_method_69_code
def yJ9_min_7cf53 : MethodName := ⟨RJ9, "min", "(II)I"⟩
def RJ7 : String := "java/util/Arrays"
def TJ7 : u_T := fun k => match k with
  | _ => ("", "", "", false)
def tyJ7 : Nat → FieldType := fun k => match k with
  | _ => .int
abbrev wsJ70 : List Cond := u_ws RJ7 TJ7 0
theorem nmJ7 : ∀ a, a < 0 → ∀ b, b < 0 → a ≠ b → (TJ7 a).2.1 ≠ (TJ7 b).2.1 := by decide +kernel
theorem tyJ7_ok : ∀ k, k < 0 → parseFieldDescriptor (TJ7 k).2.2.1 = some (tyJ7 k) := by decide +kernel
abbrev cJ7_fill_53178 : ByteArray := prog_11_method_103_code
def yJ7_fill_53178 : MethodName := ⟨RJ7, "fill", "([II)V"⟩
def RL : String := "LineBlocksLaw"
abbrev cL_law : ByteArray := code
def yL_law : MethodName := ⟨RL, "law", "([I)Z"⟩
abbrev vwCl : List vw_C := [(RX1, TX1, 3), (RX2, TX2, 3), (RX3, TX3, 11), (RX4, TX4, 1), (RX5, TX5, 3), (RX6, TX6, 3), (RX7, TX7, 17)]
def nw_l : List (String × Nat × MethodName) := [(RX6, 11, yX2_init), (RX6, 18, yX5_init), (RX5, 13, yX4_init), (RX6, 25, yX3_init), (RX3, 11, yX4_init), (RX3, 20, yX1_init)]
end
section
/-! numbers: what an instruction's answer is as an integer -/
theorem zi_lt {x y : Int32} (h : x < y) : x.toInt < y.toInt := Int32.lt_iff_toInt_lt.mp h
theorem zi_nlt {x y : Int32} (h : ¬ x < y) : y.toInt ≤ x.toInt := Int.not_lt.mp (fun q => h (Int32.lt_iff_toInt_lt.mpr q))
theorem zi_le {x y : Int32} (h : x ≤ y) : x.toInt ≤ y.toInt := Int32.le_iff_toInt_le.mp h
theorem zi_nle {x y : Int32} (h : ¬ x ≤ y) : y.toInt < x.toInt := Int.not_le.mp (fun q => h (Int32.le_iff_toInt_le.mpr q))
theorem zi_eq {x y : Int32} (h : x = y) : x.toInt = y.toInt := congrArg Int32.toInt h
theorem zi_ne {x y : Int32} (h : ¬ x = y) : ¬ x.toInt = y.toInt := fun q => h (Int32.toInt_inj.mp q)
theorem zi_0 : (0 : Int32).toInt = 0 := by decide
theorem zi_lt0 {x : Int32} (h : x < 0) : x.toInt < 0 := zi_0 ▸ zi_lt h
theorem zi_nlt0 {x : Int32} (h : ¬ x < 0) : 0 ≤ x.toInt := zi_0 ▸ zi_nlt h
theorem zi_ge0 {x : Int32} (h : 0 ≤ x) : 0 ≤ x.toInt := zi_0 ▸ zi_le h
theorem zi_nge0 {x : Int32} (h : ¬ 0 ≤ x) : x.toInt < 0 := zi_0 ▸ zi_nle h
theorem zi_gt0 {x : Int32} (h : 0 < x) : 0 < x.toInt := zi_0 ▸ zi_lt h
theorem zi_ngt0 {x : Int32} (h : ¬ 0 < x) : x.toInt ≤ 0 := zi_0 ▸ zi_nlt h
theorem zi_le0 {x : Int32} (h : x ≤ 0) : x.toInt ≤ 0 := zi_0 ▸ zi_le h
theorem zi_nle0 {x : Int32} (h : ¬ x ≤ 0) : 0 < x.toInt := zi_0 ▸ zi_nle h
theorem zi_eq0 {x : Int32} (h : x = 0) : x.toInt = 0 := zi_0 ▸ zi_eq h
theorem zi_ne0 {x : Int32} (h : ¬ x = 0) : ¬ x.toInt = 0 := zi_0 ▸ zi_ne h
theorem zi_c {v k : Int32} {z : Int} (e : v = k) (h : k.toInt = z) : v.toInt = z := by rw [e]; exact h
theorem zi_rg (x : Int32) : -2147483648 ≤ x.toInt ∧ x.toInt ≤ 2147483647 := by
  have h1 := Int32.le_toInt x
  have h2 := Int32.toInt_lt x
  omega
theorem zi_add {v x y : Int32} (e : v = x + y) (h : -2147483648 ≤ x.toInt + y.toInt ∧ x.toInt + y.toInt ≤ 2147483647) : v.toInt = x.toInt + y.toInt := by
  rw [e, Int32.toInt_add]
  exact Int.bmod_eq_of_le (by omega) (by omega)
theorem zi_sub {v x y : Int32} (e : v = x - y) (h : -2147483648 ≤ x.toInt - y.toInt ∧ x.toInt - y.toInt ≤ 2147483647) : v.toInt = x.toInt - y.toInt := by
  rw [e, Int32.toInt_sub]
  exact Int.bmod_eq_of_le (by omega) (by omega)
theorem zi_mul {v x y : Int32} {k : Int} (e : v = x * y) (hk : y.toInt = k) (h : -2147483648 ≤ x.toInt * k ∧ x.toInt * k ≤ 2147483647) : v.toInt = x.toInt * k := by
  rw [e, Int32.toInt_mul, hk]
  exact Int.bmod_eq_of_le (by omega) (by omega)
theorem zi_mulL {v x y : Int32} {k : Int} (e : v = x * y) (hk : x.toInt = k) (h : -2147483648 ≤ k * y.toInt ∧ k * y.toInt ≤ 2147483647) : v.toInt = k * y.toInt := by
  rw [e, Int32.toInt_mul, hk]
  exact Int.bmod_eq_of_le (by omega) (by omega)
theorem zi_div {v x y : Int32} {k : Int} (e : v = x / y) (hk : y.toInt = k) (h : 0 ≤ x.toInt ∧ 0 < k) : v.toInt = x.toInt / k := by
  rw [e, lg_idiv_nonneg h.1 (by rw [hk]; exact h.2), hk]
theorem zi_rem {v x y : Int32} {k : Int} (e : v = x - x / y * y) (hk : y.toInt = k) (h : 0 ≤ x.toInt ∧ 0 < k) : v.toInt = x.toInt % k := by
  have h1 : (x / y).toInt = x.toInt / k := zi_div rfl hk h
  have hx := zi_rg x
  have hp := Int.mul_ediv_add_emod x.toInt k
  have hm := Int.emod_nonneg x.toInt (b := k) (by omega)
  have hq : 0 ≤ x.toInt / k := Int.ediv_nonneg h.1 (by omega)
  have hq2 : 0 ≤ k * (x.toInt / k) := Int.mul_nonneg (by omega) hq
  have h2 : (x / y * y).toInt = k * (x.toInt / k) := by
    rw [Int32.toInt_mul, h1, hk, Int.mul_comm]
    exact Int.bmod_eq_of_le (by omega) (by omega)
  rw [e, Int32.toInt_sub, h2]
  rw [Int.bmod_eq_of_le (by omega) (by omega)]
  omega
theorem zi_and {v x y m : Int32} (e : v = x &&& y) (ey : y = m) (k : Nat) {z : Int} (hm : m.toBitVec.toNat = 2 ^ k - 1) (hk : k ≤ 30) (hz : ((2 ^ k : Nat) : Int) = z) : 0 ≤ v.toInt ∧ v.toInt < z := by
  obtain ⟨j, hj, e2⟩ := pk_andE x k (m := m) hm
  have hp : 2 ^ k ≤ 2 ^ 30 := Nat.pow_le_pow_right (by decide) hk
  rw [e, ey, e2, nI_toInt (Nat.lt_of_lt_of_le hj (Nat.le_trans hp (by decide)))]
  rw [← hz]
  omega
theorem zi_in {x : Int32} {n : Nat} (h : 0 ≤ x.toInt ∧ x.toInt < n) : vp_in x n := vp_in_iff.mpr h
theorem zi_ne0' {x : Int32} {z : Int} (h : x.toInt = z) (hz : z ≠ 0) : ¬ x = 0 := fun e => hz (by rw [← h, e]; decide)
theorem zi_inc {v x : Int32} (k : Int32) {z : Int} (hk : k.toInt = z) (e : v = x + k) (h : -2147483648 ≤ x.toInt + z ∧ x.toInt + z ≤ 2147483647) : v.toInt = x.toInt + z := by
  rw [← hk] at h ⊢
  exact zi_add e h
theorem zi_min {v x y : Int32} (e : v = if y < x then y else x) : (v.toInt = x.toInt ∨ v.toInt = y.toInt) ∧ v.toInt ≤ x.toInt ∧ v.toInt ≤ y.toInt := by
  by_cases h : y < x
  · rw [if_pos h] at e
    have := zi_lt h
    subst e
    omega
  · rw [if_neg h] at e
    have := zi_nlt h
    subst e
    omega
theorem zb_01 {x : Int32} (h : 0 ≤ x.toInt ∧ x.toInt ≤ 1) : x = 0 ∨ x = 1 := by
  rcases (show x.toInt = 0 ∨ x.toInt = 1 by omega) with q | q
  · exact Or.inl (Int32.toInt_inj.mp (q.trans (by decide)))
  · exact Or.inr (Int32.toInt_inj.mp (q.trans (by decide)))
theorem zb_n {x : Int32} (h : 0 ≤ x.toInt ∧ x.toInt ≤ 1) : narrow .boolean (.int x) = .int x := by
  rcases zb_01 h with rfl | rfl <;> rfl
theorem zb_f {x : Int32} (h : 0 ≤ x.toInt ∧ x.toInt ≤ 1) : fits .boolean (.int x) = true := by
  rcases zb_01 h with rfl | rfl <;> rfl
theorem zi_xor {v x y : Int32} (e : v = x ^^^ y) (h : 0 ≤ x.toInt ∧ 0 ≤ y.toInt) : 0 ≤ v.toInt := by
  obtain ⟨i, hi, rfl⟩ := nI_of (x := x) (by rw [Int32.lt_iff_toInt_lt, zi_0]; omega)
  obtain ⟨j, hj, rfl⟩ := nI_of (x := y) (by rw [Int32.lt_iff_toInt_lt, zi_0]; omega)
  have e2 : nI i ^^^ nI j = nI (i ^^^ j) := by
    apply Int32.toBitVec_inj.mp
    apply BitVec.eq_of_toNat_eq
    show ((BitVec.ofNat 32 i) ^^^ (BitVec.ofNat 32 j)).toNat = (BitVec.ofNat 32 (i ^^^ j)).toNat
    rw [BitVec.toNat_xor, BitVec.toNat_ofNat, BitVec.toNat_ofNat, BitVec.toNat_ofNat, Nat.mod_eq_of_lt (by omega), Nat.mod_eq_of_lt (by omega), Nat.mod_eq_of_lt (Nat.lt_trans (Nat.xor_lt_two_pow hi hj) (by decide))]
  rw [e, e2, nI_toInt (Nat.xor_lt_two_pow hi hj)]
  omega
theorem zi_pne {y : Int32} (h : 0 < y.toInt) : ¬ y = 0 := fun e => by rw [e, zi_0] at h; omega
theorem zi_remv {v x y : Int32} (e : v = x - x / y * y) (h : 0 ≤ x.toInt) (hy : 0 < y.toInt) : (0 ≤ v.toInt ∧ v.toInt < y.toInt) ∧ v.toInt = x.toInt % y.toInt := by
  have h1 := zi_rem e (k := y.toInt) rfl ⟨h, hy⟩
  rw [h1]
  exact ⟨⟨Int.emod_nonneg _ (by omega), Int.emod_lt_of_pos _ hy⟩, rfl⟩
end
section
/-! contracts of one shape, their calls, their ends: short names over the kit's rows -/
theorem ty3_eq {D : va_G} {cl : List vw_C} {tys : List (ClassId × FieldType)} {s : State} {cA cN : ClassId} (t0 k : Nat) {ty : FieldType} (h : va_K D cl tys s) (h0 : tys[t0]? = some (cA, ty)) (h1 : tys[k]? = some (cN, ty)) (hty : va_RA s cA ty = (s.vm.findClass ("[" ++ ty.toString) = some cA)) (hty2 : va_RA s cN ty = (s.vm.findClass ("[" ++ ty.toString) = some cN)) : cN = cA := by
  have a := (h.2 t0 _ h0).2
  have b := (h.2 k _ h1).2
  rw [hty] at a
  rw [hty2] at b
  exact Option.some.inj (b.symm.trans a)
section HP1
def lw_good : List Cond := lw_tbl.filter goodWord
theorem gd_of {w : Cond} (h : w ∈ lw_tbl) (h2 : goodWord w = true) : w ∈ lw_good := List.mem_filter.mpr ⟨h, h2⟩
def st_k : Nat → Int32 := fun j => ([135, 153, 170, 180, 204, 210, 225, 255] : List Int32).getD j 0
def st_T (A : Nat → Prop) (U : State) (H : Heap) : Prop := ∃ t : Nat, va_Z "LineBlocks$Codec" "END_TYPES" "[I" (.ref t) A U H ∧ va_T .int t 8 (fun j => .int (st_k j)) A U H
theorem st_T.use {A B : Nat → Prop} {u U : State} {H H1 : Heap} (h : st_T A u H) (hvm : u.vm.Alike U.vm) (hq : ∀ a : Nat, a < H.size → ¬ A a → H1[a]? = H[a]?) (hAB : ∀ q, B q → A q) : st_T B U H1 := by
  obtain ⟨t, h1, h2⟩ := h
  exact ⟨t, va_Z.moved hvm ((h1.kept hq).narrow hAB), va_T.moved hvm ((h2.kept hq).narrow hAB)⟩
def nw_T (U : State) : Prop := ∀ q ∈ nw_l, va_Nw (.methodLinkNest q.1 q.2.1 q.2.2 "LineBlocks") U
theorem nw_T.warm {s U : State} (h : nw_T s) (hW : s.WarmedH U.vm) : nw_T U := fun q hq => va_Nw.warmM hW (h q hq)
theorem nw_T.same {s U : State} (h : nw_T s) (hW : s.vm = U.vm) : nw_T U := fun q hq => va_Nw.same rfl hW (h q hq)
def rmL (d lo cells slots : Nat) : Room := { frames := d, cells := cells, slots := slots, locals := lo }
abbrev classes : List vw_C := vwCl
def tys3 (cI cJ cB : ClassId) : List (ClassId × FieldType) := [(cI, .int), (cJ, .long), (cB, .byte)]
abbrev tyL : Type := List (ClassId × FieldType)
def ctP (D : va_G) (cl : List vw_C) (tys : tyL) (av : List Value) (w0 : va_W) (sz : Nat) : Array Value → State → Prop :=
  va_Pc av (fun U => U.heap.size = sz ∧ va_P D cl w0 U.heap ∧ va_K D cl tys U ∧ va_D (fun _ => True) w0 ∧ st_T (va_A w0 sz) U U.heap ∧ nw_T U)
def ctB {S : Type} (D : va_G) (cl : List vw_C) (tys : tyL) (w0 : va_W) (sz : Nat) (w1 : S → va_W) : S → State → Prop :=
  fun u t => va_P D cl (w1 u) t.heap ∧ va_K D cl tys t ∧ va_D (va_A w0 sz) (w1 u)
def cti (l : Launch) (y : MethodName) (ws : List Cond) (rm : Room) (D : va_G) (cl : List vw_C) (tys : tyL) (av : List Value) (w0 : va_W) {S : Type} (post : Int32 → S → Prop) (w1 : S → va_W) : Prop :=
  ∀ sz : Nat, Met l y ws rm (ctP D cl tys av w0 sz) (va_Qi post (ctB D cl tys w0 sz w1) (va_A w0 sz)) 0 0 (va_A w0 sz)
def ctl (l : Launch) (y : MethodName) (ws : List Cond) (rm : Room) (D : va_G) (cl : List vw_C) (tys : tyL) (av : List Value) (w0 : va_W) {S : Type} (post : Int64 → S → Prop) (w1 : S → va_W) : Prop :=
  ∀ sz : Nat, Met l y ws rm (ctP D cl tys av w0 sz) (va_Ql post (ctB D cl tys w0 sz w1) (va_A w0 sz)) 0 0 (va_A w0 sz)
def ctv (l : Launch) (y : MethodName) (ws : List Cond) (rm : Room) (D : va_G) (cl : List vw_C) (tys : tyL) (av : List Value) (w0 : va_W) {S : Type} (post : S → Prop) (w1 : S → va_W) (mc ms : Nat) : Prop :=
  ∀ sz : Nat, Met l y ws rm (ctP D cl tys av w0 sz) (va_Qv post (ctB D cl tys w0 sz w1) (va_A w0 sz)) mc ms (va_A w0 sz)
/-- the words of a method: its own code, and the tables -/
abbrev wsOf (y : MethodName) (cc : ByteArray) (n : Nat) (r : Option FieldType) : List Cond := .code y cc n r :: lw_good
/-- at a method's entry -/
def ctAt (p : Program) (s : State) (m : MethodId) (meth : Method) (c : Code) (args : Array Value) (y : MethodName) (cc : ByteArray) (maxL : Nat) (D : va_G) (cl : List vw_C) (tys : tyL) (av : List Value) (w0 : va_W) (A : Nat → Prop) (ls : Array Slot) : Prop :=
  p.tables.exec = Jvm.exec ∧ c.code = cc ∧ c.maxLocals = maxL ∧ s.vm.findClass y.cls = some m.cls ∧ (∀ w ∈ lw_good, w.before args s = true) ∧ meth.name = y.name ∧
  va_P D cl w0 s.heap ∧ va_K D cl tys s ∧ va_D A w0 ∧ (∀ q : Nat, s.heap.size ≤ q → A q) ∧ va_S A s.heap s.heap [] ∧ st_T A s s.heap ∧ nw_T s ∧ lv_has ls maxL (lv_args 0 av)
theorem ctAt.of {l : Launch} {y : MethodName} {rm : Room} {D : va_G} {cl : List vw_C} {tys : tyL} {av : List Value} {w0 : va_W} {cc : ByteArray} {maxL : Nat} {ret : Option FieldType} (hlen : (lg_sl av).length ≤ maxL) {p : Program} {e : Env} {s : State} {m : MethodId} {args : Array Value} {below : List Frame} {meth : Method} {c : Code} {s₁ : State} {sz : Nat}
    (B : BodyLoose p l y (headSpec (wsOf y cc maxL ret) rm) cc maxL ret e s m args below meth c s₁) (hml : c.maxLocals = maxL) (hv : ctP D cl tys av w0 sz args s) :
    args = av.toArray ∧ s.heap.size = sz ∧ meth.sig.returnType = ret ∧ meth.locks = false ∧ ctAt p s m meth c args y cc maxL D cl tys av w0 (va_A w0 sz) ((lg_sl av ++ List.replicate (maxL - (lg_sl av).length) Slot.unset).toArray) := by
  obtain ⟨rfl, hsz, hP, hK, hD, hZ, hN⟩ := hv
  have hts := atoms_spec (ws := wsOf y cc maxL ret) B.pre
  subst hsz
  exact ⟨rfl, rfl, B.returns, B.notSynchronized, B.exec, B.bytes, hml, findClass_of_methodNamed B.named, fun w h => hts w (List.mem_cons_of_mem _ h), (name_of_methodNamed B.named B.method).1, hP, hK, hD.self, fun q h => Or.inr h, va_S.rf, hZ, hN, lv_entry av hlen⟩
theorem cti.of {l : Launch} {y : MethodName} {rm : Room} {D : va_G} {cl : List vw_C} {tys : tyL} {av : List Value} {w0 : va_W} {S : Type} {post : Int32 → S → Prop} {w1 : S → va_W} {cc : ByteArray} {maxL : Nat} (hy : plainFor y = true) (hlen : (lg_sl av).length ≤ maxL)
    (body : ∀ p e s m args below meth c (A : Nat → Prop) ls (Q : State → Prop), ctAt p s m meth c args y cc maxL D cl tys av w0 A ls →
      (∀ (v : Int32) (u : S) (H : Heap) (locs : List Loc) (pc : Nat) (ls : Array Slot), decode cc pc = .ok (.ireturn, 1) → post v u → va_P D cl (w1 u) H → va_D A (w1 u) → va_S A s.heap H locs → W p l e rm s m args below meth c H locs 0 0 Q (F0 m pc ls [.int v])) →
      W p l e rm s m args below meth c s.heap [] 0 0 Q (F0 m 0 ls [])) :
    cti l y (wsOf y cc maxL (some .int)) rm D cl tys av w0 post w1 := by
  intro sz
  refine va_MetF (cc := cc) (maxL := maxL) (ret := some .int) hy rfl ?_
  intro p e s m args below meth c s₁ B hml hv
  obtain ⟨rfl, rfl, hr, hlk, h⟩ := ctAt.of hlen B hml hv
  rw [lg_entry_eq]
  refine body p e s m _ below meth c _ _ _ h ?_
  intro v u H locs pc ls hdg hq hP hD hS
  exact W.iret (v := v) B.exec B.bytes hr (fun t ht hW => ⟨⟨v, u, rfl, hq, by rw [ht]; exact hP, va_K.moved hW.alike h.2.2.2.2.2.2.2.1, hD⟩, hS.F ht⟩) hS.2.2 hdg hlk
theorem ctz.of {l : Launch} {y : MethodName} {rm : Room} {D : va_G} {cl : List vw_C} {tys : tyL} {av : List Value} {w0 : va_W} {S : Type} {post : Int32 → S → Prop} {w1 : S → va_W} {cc : ByteArray} {maxL : Nat} (hy : plainFor y = true) (hlen : (lg_sl av).length ≤ maxL)
    (body : ∀ p e s m args below meth c (A : Nat → Prop) ls (Q : State → Prop), ctAt p s m meth c args y cc maxL D cl tys av w0 A ls →
      (∀ (v : Int32) (u : S) (H : Heap) (locs : List Loc) (pc : Nat) (ls : Array Slot), decode cc pc = .ok (.ireturn, 1) → narrow .boolean (.int v) = .int v → post v u → va_P D cl (w1 u) H → va_D A (w1 u) → va_S A s.heap H locs → W p l e rm s m args below meth c H locs 0 0 Q (F0 m pc ls [.int v])) →
      W p l e rm s m args below meth c s.heap [] 0 0 Q (F0 m 0 ls [])) :
    cti l y (wsOf y cc maxL (some .boolean)) rm D cl tys av w0 post w1 := by
  intro sz
  refine va_MetF (cc := cc) (maxL := maxL) (ret := some .boolean) hy rfl ?_
  intro p e s m args below meth c s₁ B hml hv
  obtain ⟨rfl, rfl, hr, hlk, h⟩ := ctAt.of hlen B hml hv
  rw [lg_entry_eq]
  refine body p e s m _ below meth c _ _ _ h ?_
  intro v u H locs pc ls hdg hn hq hP hD hS
  exact W.zret (v := v) B.exec B.bytes hr hn (fun t ht hW => ⟨⟨v, u, rfl, hq, by rw [ht]; exact hP, va_K.moved hW.alike h.2.2.2.2.2.2.2.1, hD⟩, hS.F ht⟩) hS.2.2 hdg hlk
theorem ctl.of {l : Launch} {y : MethodName} {rm : Room} {D : va_G} {cl : List vw_C} {tys : tyL} {av : List Value} {w0 : va_W} {S : Type} {post : Int64 → S → Prop} {w1 : S → va_W} {cc : ByteArray} {maxL : Nat} (hy : plainFor y = true) (hlen : (lg_sl av).length ≤ maxL)
    (body : ∀ p e s m args below meth c (A : Nat → Prop) ls (Q : State → Prop), ctAt p s m meth c args y cc maxL D cl tys av w0 A ls →
      (∀ (v : Int64) (u : S) (H : Heap) (locs : List Loc) (pc : Nat) (ls : Array Slot), decode cc pc = .ok (.lreturn, 1) → post v u → va_P D cl (w1 u) H → va_D A (w1 u) → va_S A s.heap H locs → W p l e rm s m args below meth c H locs 0 0 Q (F0 m pc ls [.long v])) →
      W p l e rm s m args below meth c s.heap [] 0 0 Q (F0 m 0 ls [])) :
    ctl l y (wsOf y cc maxL (some .long)) rm D cl tys av w0 post w1 := by
  intro sz
  refine va_MetF (cc := cc) (maxL := maxL) (ret := some .long) hy rfl ?_
  intro p e s m args below meth c s₁ B hml hv
  obtain ⟨rfl, rfl, hr, hlk, h⟩ := ctAt.of hlen B hml hv
  rw [lg_entry_eq]
  refine body p e s m _ below meth c _ _ _ h ?_
  intro v u H locs pc ls hdg hq hP hD hS
  exact W.lret (v := v) B.exec B.bytes hr (fun t ht hW => ⟨⟨v, u, rfl, hq, by rw [ht]; exact hP, va_K.moved hW.alike h.2.2.2.2.2.2.2.1, hD⟩, hS.F ht⟩) hS.2.2 hdg hlk
theorem ctv.of {l : Launch} {y : MethodName} {rm : Room} {D : va_G} {cl : List vw_C} {tys : tyL} {av : List Value} {w0 : va_W} {S : Type} {post : S → Prop} {w1 : S → va_W} {mc ms : Nat} {cc : ByteArray} {maxL : Nat} (hy : plainFor y = true) (hlen : (lg_sl av).length ≤ maxL)
    (body : ∀ p e s m args below meth c (A : Nat → Prop) ls (Q : State → Prop), ctAt p s m meth c args y cc maxL D cl tys av w0 A ls →
      (∀ (u : S) (H : Heap) (locs : List Loc) (pc : Nat) (ls : Array Slot), decode cc pc = .ok (.return_, 1) → post u → va_P D cl (w1 u) H → va_D A (w1 u) → va_S A s.heap H locs → W p l e rm s m args below meth c H locs mc ms Q (F0 m pc ls [])) →
      W p l e rm s m args below meth c s.heap [] 0 0 Q (F0 m 0 ls [])) :
    ctv l y (wsOf y cc maxL none) rm D cl tys av w0 post w1 mc ms := by
  intro sz
  refine va_MetF (cc := cc) (maxL := maxL) (ret := none) hy rfl ?_
  intro p e s m args below meth c s₁ B hml hv
  obtain ⟨rfl, rfl, hr, hlk, h⟩ := ctAt.of hlen B hml hv
  rw [lg_entry_eq]
  refine body p e s m _ below meth c _ _ _ h ?_
  intro u H locs pc ls hdg hq hP hD hS
  exact W.vret B.exec B.bytes hr (fun t ht hW => ⟨⟨u, rfl, hq, by rw [ht]; exact hP, va_K.moved hW.alike h.2.2.2.2.2.2.2.1, hD⟩, hS.F ht⟩) hS.2.2 hdg hlk
end HP1
section HP2
variable {p : Program} {l : Launch} {e : Env} {R : Room} {s : State} {m : MethodId} {args : Array Value} {below : List Frame} {meth : Method} {c : Code} {H : Heap} {locs : List Loc} {cells slots : Nat} {Q : State → Prop}
variable {cc : ByteArray} {pc : Nat} {ls : Array Slot} {rest : List Value} {D : va_G} {cl : List vw_C} {A : Nat → Prop} {tys : tyL}
variable {ws0 wc wr : va_W} {nL n index maxL mc ms : Nat} {ret : Option FieldType} {own C : String} {y : MethodName} {bytes : ByteArray} {rm : Room} {b : Nat} {As st0 : List Value} {w : List Cond}
theorem ct_blind {av : List Value} {w0 : va_W} {sz : Nat} : FrameBlind (ctP D cl tys av w0 sz) := by
  intro a U g mk q
  obtain ⟨q0, q1, qP, qK, qD, qZ, qN⟩ := q
  exact ⟨q0, q1, qP, va_K.moved (u := U) (U := U.calling g mk a) (Vm.Alike.refl U.vm) qK, qD, qZ.use (U := U.calling g mk a) (Vm.Alike.refl U.vm) (fun _ _ _ => rfl) (fun _ h => h), qN.same rfl⟩
theorem ct_pre {av : List Value} (hK : va_K D cl tys s) (hP : va_P D cl ws0 H) (hD : va_D A ws0) (hS : va_S A s.heap H locs) (hA : ∀ q : Nat, s.heap.size ≤ q → A q) (hZ : st_T A s s.heap) (hN : nw_T s) (isC : List Nat) (hn : va_nd isC = true) (hC : isC.map (fun i => ws0[i]?) = wc.map some) (hC2 : isC.filterMap (fun i => ws0[i]?) = wc) :
    ∀ U : State, U.heap = H → s.WarmedH U.vm → ctP D cl tys av wc H.size av.toArray U := by
  intro U hU hW
  have hPc : va_P D cl wc H := hP.sub isC hC2
  have hF := va_free hD hS hA isC hC
  refine ⟨rfl, by rw [hU], by rw [hU]; exact hPc, va_K.moved hW.alike hK, (hD.sub isC hn hC).weaken (fun _ _ _ _ => trivial), ?_, hN.warm hW⟩
  exact hZ.use hW.alike (fun a h1 h2 => by rw [hU]; exact hS.2.1 a h1 h2) hF
theorem call_i {S : Type} {post : Int32 → S → Prop} {w1 : S → va_W} {a : Array Value} (hr : va_Run p l e R s m args below meth c H locs cells slots 0 0 (F0 m pc ls st0) rest (va_Qi post (ctB D cl tys wc H.size w1) (va_A wc H.size) a) (va_A wc H.size)) (hP : va_P D cl ws0 H) (hD : va_D A ws0) (hS : va_S A s.heap H locs) (hA : ∀ q : Nat, s.heap.size ≤ q → A q) (isC isR : List Nat) (hC : isC.map (fun i => ws0[i]?) = wc.map some) (hR : isR.map (fun i => ws0[i]?) = wr.map some) (hn : va_nd isR = true) (hdis : ∀ i ∈ isR, i ∉ isC)
    (kk : ∀ (r : Int32) (u : S) (H1 : Heap) (locs1 : List Loc), post r u → va_P D cl (wr ++ w1 u) H1 → va_D A (wr ++ w1 u) → va_S A s.heap H1 locs1 → W p l e R s m args below meth c H1 locs1 cells slots Q (F0 m (pc + 3) ls (.int r :: rest))) : W p l e R s m args below meth c H locs cells slots Q (F0 m pc ls st0) := by
  have hFc := va_free hD hS hA isC hC
  refine va_calli hr hS (fun q _ h => hFc q h) hFc (fun r u t H1 locs1 ht hvm hw hB hz1 hk1 hS1 => ?_)
  obtain ⟨hP1, hK1, hD1⟩ := hB
  rw [ht] at hP1
  obtain ⟨hP2, hD2⟩ := va_join hP hD isC isR hC hR hn hdis hk1 hFc hP1 hD1
  exact kk r u H1 locs1 hw hP2 hD2 hS1
theorem call_l {S : Type} {post : Int64 → S → Prop} {w1 : S → va_W} {a : Array Value} (hr : va_Run p l e R s m args below meth c H locs cells slots 0 0 (F0 m pc ls st0) rest (va_Ql post (ctB D cl tys wc H.size w1) (va_A wc H.size) a) (va_A wc H.size)) (hP : va_P D cl ws0 H) (hD : va_D A ws0) (hS : va_S A s.heap H locs) (hA : ∀ q : Nat, s.heap.size ≤ q → A q) (isC isR : List Nat) (hC : isC.map (fun i => ws0[i]?) = wc.map some) (hR : isR.map (fun i => ws0[i]?) = wr.map some) (hn : va_nd isR = true) (hdis : ∀ i ∈ isR, i ∉ isC)
    (kk : ∀ (r : Int64) (u : S) (H1 : Heap) (locs1 : List Loc), post r u → va_P D cl (wr ++ w1 u) H1 → va_D A (wr ++ w1 u) → va_S A s.heap H1 locs1 → W p l e R s m args below meth c H1 locs1 cells slots Q (F0 m (pc + 3) ls (.long r :: rest))) : W p l e R s m args below meth c H locs cells slots Q (F0 m pc ls st0) := by
  have hFc := va_free hD hS hA isC hC
  refine va_calll hr hS (fun q _ h => hFc q h) hFc (fun r u t H1 locs1 ht hvm hw hB hz1 hk1 hS1 => ?_)
  obtain ⟨hP1, hK1, hD1⟩ := hB
  rw [ht] at hP1
  obtain ⟨hP2, hD2⟩ := va_join hP hD isC isR hC hR hn hdis hk1 hFc hP1 hD1
  exact kk r u H1 locs1 hw hP2 hD2 hS1
theorem call_v {S : Type} {post : S → Prop} {w1 : S → va_W} {a : Array Value} (hr : va_Run p l e R s m args below meth c H locs cells slots mc ms (F0 m pc ls st0) rest (va_Qv post (ctB D cl tys wc H.size w1) (va_A wc H.size) a) (va_A wc H.size)) (hP : va_P D cl ws0 H) (hD : va_D A ws0) (hS : va_S A s.heap H locs) (hA : ∀ q : Nat, s.heap.size ≤ q → A q) (isC isR : List Nat) (hC : isC.map (fun i => ws0[i]?) = wc.map some) (hR : isR.map (fun i => ws0[i]?) = wr.map some) (hn : va_nd isR = true) (hdis : ∀ i ∈ isR, i ∉ isC)
    (kk : ∀ (u : S) (H1 : Heap) (locs1 : List Loc), post u → va_P D cl (wr ++ w1 u) H1 → va_D A (wr ++ w1 u) → va_S A s.heap H1 locs1 → W p l e R s m args below meth c H1 locs1 (cells + mc) (slots + ms) Q (F0 m (pc + 3) ls rest)) : W p l e R s m args below meth c H locs cells slots Q (F0 m pc ls st0) := by
  have hFc := va_free hD hS hA isC hC
  refine va_callv hr hS (fun q _ h => hFc q h) hFc (fun u t H1 locs1 ht hvm hw hB hz1 hk1 hS1 => ?_)
  obtain ⟨hP1, hK1, hD1⟩ := hB
  rw [ht] at hP1
  obtain ⟨hP2, hD2⟩ := va_join hP hD isC isR hC hR hn hdis hk1 hFc hP1 hD1
  exact kk u H1 locs1 hw hP2 hD2 hS1
end HP2
section HP3
variable {p : Program} {l : Launch} {e : Env} {R : Room} {s : State} {m : MethodId} {args : Array Value} {below : List Frame} {meth : Method} {c : Code} {H : Heap} {locs : List Loc} {cells slots : Nat}
variable {cc : ByteArray} {pc : Nat} {ls : Array Slot} {rest : List Value} {nL n index maxL mc ms : Nat} {ret : Option FieldType} {own : String} {y : MethodName} {bytes : ByteArray} {rm : Room} {b : Nat} {As st0 : List Value} {Pc : Array Value → State → Prop} {Qc : Array Value → State → Outcome → State → Prop} {free : Addr → Prop}
theorem gd_in (h : Cond.code y bytes maxL ret ∈ lw_good) : GoodIn lw_good (wsOf y bytes maxL ret) := by
  intro w hw
  rcases List.mem_cons.mp hw with rfl | hw
  · exact ⟨h, good_of_word (List.mem_filter.mp h).2⟩
  · exact ⟨hw, good_of_word (List.mem_filter.mp hw).2⟩
def lkV (own : String) (index : Nat) (y : MethodName) (bytes : ByteArray) (maxL : Nat) (ret : Option FieldType) (n : Nat) : Prop :=
  Cond.methodLink own index y ∈ lw_good ∧ Cond.instanceMethod y ∈ lw_good ∧ Cond.selects y.cls y y ∈ lw_good ∧ Cond.initialized y.cls ∈ lw_good ∧ Cond.code y bytes maxL ret ∈ lw_good ∧ (y.cls ≠ "java/lang/invoke/MethodHandle" ∧ y.cls ≠ "java/lang/invoke/VarHandle" ∧ (parseMethodDescriptor y.desc).map (fun d => d.parameters.length) = some n)
def lkS (own : String) (index : Nat) (y : MethodName) (bytes : ByteArray) (maxL : Nat) (ret : Option FieldType) (n : Nat) : Prop :=
  Cond.methodLink own index y ∈ lw_good ∧ Cond.static y ∈ lw_good ∧ Cond.initialized y.cls ∈ lw_good ∧ Cond.code y bytes maxL ret ∈ lw_good ∧ (y.cls ≠ "java/lang/invoke/MethodHandle" ∧ y.cls ≠ "java/lang/invoke/VarHandle" ∧ (parseMethodDescriptor y.desc).map (fun d => d.parameters.length) = some n)
def lkI (own : String) (index : Nat) (y : MethodName) (bytes : ByteArray) (maxL : Nat) (n : Nat) : Prop :=
  Cond.methodLink own index y ∈ lw_good ∧ Cond.instanceMethod y ∈ lw_good ∧ Cond.initialized y.cls ∈ lw_good ∧ Cond.code y bytes maxL none ∈ lw_good ∧ (y.cls ≠ "java/lang/invoke/MethodHandle" ∧ y.cls ≠ "java/lang/invoke/VarHandle" ∧ (parseMethodDescriptor y.desc).map (fun d => d.parameters.length) = some n) ∧ y.name = "<init>"
def lkN (own : String) (index : Nat) (y : MethodName) (bytes : ByteArray) (maxL : Nat) (n : Nat) : Prop :=
  (own, index, y) ∈ nw_l ∧ Cond.instanceMethod y ∈ lw_good ∧ Cond.initialized y.cls ∈ lw_good ∧ Cond.code y bytes maxL none ∈ lw_good ∧ (y.cls ≠ "java/lang/invoke/MethodHandle" ∧ y.cls ≠ "java/lang/invoke/VarHandle" ∧ (parseMethodDescriptor y.desc).map (fun d => d.parameters.length) = some n) ∧ y.name = "<init>"
theorem run_V (K : lkV own index y bytes maxL ret n) (hR : rm.frames + 1 ≤ R.frames ∧ 8 + (maxL + 11) + rm.locals ≤ R.locals) (hrc : rm.cells = mc ∧ rm.slots = ms) (S : CallFix p m c cc nL s args lw_good own) (hM : Met l y (wsOf y bytes maxL ret) rm Pc Qc mc ms free) (hbl : FrameBlind Pc) (hp : ∀ U : State, U.heap = H → s.WarmedH U.vm → Pc (Value.ref b :: As).toArray U) (hrv : ∃ cell : Cell, H[b]? = some cell ∧ cell.vm.isStatics = false ∧ s.vm.findClass y.cls = some cell.cls)
    (hn : As.length = n) (hsize : ls.size = nL) (hst : st0 = As.reverse ++ .ref b :: rest) (hW : (rest.map fun v => v.category).sum ≤ 8) (hdg : decode cc pc = .ok (.invokevirtual index, 3)) (hf : cells + mc ≤ R.cells ∧ slots + ms ≤ R.slots) :
    va_Run p l e R s m args below meth c H locs cells slots mc ms (F0 m pc ls st0) rest (Qc (Value.ref b :: As).toArray) free := by
  obtain ⟨k1, k2, k3, k4, k5, k6⟩ := K
  have hts := S.2.2.2.2
  exact va_runV (C := y.cls) S hM ⟨callB_of n hts (gd_in k5) rfl hrc.1 hrc.2 (hts _ k4) (hts _ k1) k6 hR, hts _ k2, hts _ k3⟩ ⟨hbl, hrv, hp⟩ rfl hn hsize hst (lv_room hW) hdg hf
theorem run_S (K : lkS own index y bytes maxL ret n) (hR : rm.frames + 1 ≤ R.frames ∧ 8 + (maxL + 11) + rm.locals ≤ R.locals) (hrc : rm.cells = mc ∧ rm.slots = ms) (S : CallFix p m c cc nL s args lw_good own) (hM : Met l y (wsOf y bytes maxL ret) rm Pc Qc mc ms free) (hbl : FrameBlind Pc) (hp : ∀ U : State, U.heap = H → s.WarmedH U.vm → Pc As.toArray U)
    (hn : As.length = n) (hsize : ls.size = nL) (hst : st0 = As.reverse ++ rest) (hW : (rest.map fun v => v.category).sum ≤ 8) (hdg : decode cc pc = .ok (.invokestatic index, 3)) (hf : cells + mc ≤ R.cells ∧ slots + ms ≤ R.slots) :
    va_Run p l e R s m args below meth c H locs cells slots mc ms (F0 m pc ls st0) rest (Qc As.toArray) free := by
  obtain ⟨k1, k2, k4, k5, k6⟩ := K
  have hts := S.2.2.2.2
  exact va_runS S hM ⟨callB_of n hts (gd_in k5) rfl hrc.1 hrc.2 (hts _ k4) (hts _ k1) k6 hR, hts _ k2⟩ ⟨hbl, hp⟩ rfl hn hsize hst (lv_room hW) hdg hf
theorem run_I (K : lkI own index y bytes maxL n) (hR : rm.frames + 1 ≤ R.frames ∧ 8 + (maxL + 11) + rm.locals ≤ R.locals) (hrc : rm.cells = mc ∧ rm.slots = ms) (S : CallFix p m c cc nL s args lw_good own) (hM : Met l y (wsOf y bytes maxL none) rm Pc Qc mc ms free) (hbl : FrameBlind Pc) (hp : ∀ U : State, U.heap = H → s.WarmedH U.vm → Pc (Value.ref b :: As).toArray U)
    (hn : As.length = n) (hsize : ls.size = nL) (hst : st0 = As.reverse ++ .ref b :: rest) (hW : (rest.map fun v => v.category).sum ≤ 8) (hdg : decode cc pc = .ok (.invokespecial index, 3)) (hf : cells + mc ≤ R.cells ∧ slots + ms ≤ R.slots) :
    va_Run p l e R s m args below meth c H locs cells slots mc ms (F0 m pc ls st0) rest (Qc (Value.ref b :: As).toArray) free := by
  obtain ⟨k1, k2, k4, k5, k6, k7⟩ := K
  have hts := S.2.2.2.2
  exact va_runI S hM ⟨callB_of n hts (gd_in k5) rfl hrc.1 hrc.2 (hts _ k4) (hts _ k1) k6 hR, k7, hts _ k2⟩ ⟨hbl, hp⟩ rfl hn hsize hst (lv_room hW) hdg hf
theorem run_N (K : lkN own index y bytes maxL n) (hN : nw_T s) (hR : rm.frames + 1 ≤ R.frames ∧ 8 + (maxL + 11) + rm.locals ≤ R.locals) (hrc : rm.cells = mc ∧ rm.slots = ms) (S : CallFix p m c cc nL s args lw_good own) (hM : Met l y (wsOf y bytes maxL none) rm Pc Qc mc ms free) (hbl : FrameBlind Pc) (hp : ∀ U : State, U.heap = H → s.WarmedH U.vm → Pc (Value.ref b :: As).toArray U)
    (hn : As.length = n) (hsize : ls.size = nL) (hst : st0 = As.reverse ++ .ref b :: rest) (hW : (rest.map fun v => v.category).sum ≤ 8) (hdg : decode cc pc = .ok (.invokespecial index, 3)) (hf : cells + mc ≤ R.cells ∧ slots + ms ≤ R.slots) :
    va_Run p l e R s m args below meth c H locs cells slots mc ms (F0 m pc ls st0) rest (Qc (Value.ref b :: As).toArray) free := by
  obtain ⟨k1, k2, k4, k5, k6, k7⟩ := K
  have hts := S.2.2.2.2
  exact va_runIN (host := "LineBlocks") S hM ⟨va_cnB n hts (gd_in k5) rfl hrc.1 hrc.2 (hN _ k1) (hts _ k4) k6 hR, k7, hts _ k2⟩ ⟨hbl, hp⟩ rfl hn hsize hst (lv_room hW) hdg hf
end HP3
end
section
set_option maxRecDepth 100000 in
theorem wk1 : Cond.instantiable RX6 3 ∈ lw_good := gd_of (List.mem_append_right _ (List.mem_append_left _ (List.mem_of_getElem? (i := 12) rfl))) rfl
set_option maxRecDepth 100000 in
theorem wk2 : Cond.initialized RX6 ∈ lw_good := gd_of (List.mem_append_right _ (List.mem_append_left _ (List.mem_of_getElem? (i := 1) rfl))) rfl
set_option maxRecDepth 100000 in
theorem wk4 : Cond.instantiable RX7 17 ∈ lw_good := gd_of (List.mem_append_right _ (List.mem_append_right _ (List.mem_append_left _ (List.mem_of_getElem? (i := 159) rfl)))) rfl
set_option maxRecDepth 100000 in
theorem wk5 : Cond.initialized RX7 ∈ lw_good := gd_of (List.mem_append_right _ (List.mem_append_left _ (List.mem_of_getElem? (i := 7) rfl))) rfl
set_option maxRecDepth 100000 in
theorem wk10 : Cond.methodLink RX6 3 objectInit ∈ lw_good := gd_of (List.mem_append_right _ (List.mem_append_left _ (List.mem_of_getElem? (i := 16) rfl))) rfl
set_option maxRecDepth 100000 in
theorem wk11 : Cond.instanceMethod objectInit ∈ lw_good := gd_of (List.mem_append_right _ (List.mem_append_left _ (List.mem_of_getElem? (i := 17) rfl))) rfl
set_option maxRecDepth 100000 in
theorem wk12 : Cond.code objectInit ⟨#[0xb1]⟩ 1 none ∈ lw_good := gd_of (List.mem_append_right _ (List.mem_append_left _ (List.mem_of_getElem? (i := 18) rfl))) rfl
set_option maxRecDepth 100000 in
theorem wk13 : Cond.classLink RX6 9 RX2 ∈ lw_good := gd_of (List.mem_append_right _ (List.mem_append_left _ (List.mem_of_getElem? (i := 19) rfl))) rfl
set_option maxRecDepth 100000 in
theorem wk14 : Cond.instantiable RX2 3 ∈ lw_good := gd_of (List.mem_append_right _ (List.mem_append_left _ (List.mem_of_getElem? (i := 20) rfl))) rfl
set_option maxRecDepth 100000 in
theorem wk15 : Cond.initialized RX2 ∈ lw_good := gd_of (List.mem_append_right _ (List.mem_append_left _ (List.mem_of_getElem? (i := 2) rfl))) rfl
set_option maxRecDepth 100000 in
theorem wk16 : Cond.fieldLink RX6 12 "LineBlocks" "line" "LLineBlocks$Line;" ∈ lw_good := gd_of (List.mem_append_right _ (List.mem_append_left _ (List.mem_of_getElem? (i := 121) rfl))) rfl
set_option maxRecDepth 100000 in
theorem wk17 : Cond.classLink RX6 16 RX5 ∈ lw_good := gd_of (List.mem_append_right _ (List.mem_append_left _ (List.mem_of_getElem? (i := 36) rfl))) rfl
set_option maxRecDepth 100000 in
theorem wk18 : Cond.instantiable RX5 3 ∈ lw_good := gd_of (List.mem_append_right _ (List.mem_append_left _ (List.mem_of_getElem? (i := 37) rfl))) rfl
set_option maxRecDepth 100000 in
theorem wk19 : Cond.initialized RX5 ∈ lw_good := gd_of (List.mem_append_right _ (List.mem_append_left _ (List.mem_of_getElem? (i := 3) rfl))) rfl
set_option maxRecDepth 100000 in
theorem wk20 : Cond.fieldLink RX6 19 "LineBlocks" "sender" "LLineBlocks$Sender;" ∈ lw_good := gd_of (List.mem_append_right _ (List.mem_append_left _ (List.mem_of_getElem? (i := 122) rfl))) rfl
set_option maxRecDepth 100000 in
theorem wk21 : Cond.classLink RX6 23 RX3 ∈ lw_good := gd_of (List.mem_append_right _ (List.mem_append_left _ (List.mem_of_getElem? (i := 63) rfl))) rfl
set_option maxRecDepth 100000 in
theorem wk22 : Cond.instantiable RX3 11 ∈ lw_good := gd_of (List.mem_append_right _ (List.mem_append_left _ (List.mem_of_getElem? (i := 64) rfl))) rfl
set_option maxRecDepth 100000 in
theorem wk23 : Cond.initialized RX3 ∈ lw_good := gd_of (List.mem_append_right _ (List.mem_append_left _ (List.mem_of_getElem? (i := 5) rfl))) rfl
set_option maxRecDepth 100000 in
theorem wk24 : Cond.fieldLink RX6 26 "LineBlocks" "taker" "LLineBlocks$Receiver;" ∈ lw_good := gd_of (List.mem_append_right _ (List.mem_append_left _ (List.mem_of_getElem? (i := 123) rfl))) rfl
set_option maxRecDepth 100000 in
theorem wk25 : Cond.instanceMethod yX2_init ∈ lw_good := gd_of (List.mem_append_right _ (List.mem_append_left _ (List.mem_of_getElem? (i := 22) rfl))) rfl
set_option maxRecDepth 100000 in
theorem wk26 : Cond.code yX2_init cX2_init 1 none ∈ lw_good := gd_of (List.mem_append_right _ (List.mem_append_left _ (List.mem_of_getElem? (i := 23) rfl))) rfl
set_option maxRecDepth 100000 in
theorem wk27 : Cond.methodLink RX2 5 objectInit ∈ lw_good := gd_of (List.mem_append_right _ (List.mem_append_left _ (List.mem_of_getElem? (i := 24) rfl))) rfl
set_option maxRecDepth 100000 in
theorem wk28 : Cond.arrayClass .long ∈ lw_good := gd_of (List.mem_append_right _ (List.mem_append_left _ (List.mem_of_getElem? (i := 35) rfl))) rfl
set_option maxRecDepth 100000 in
theorem wk29 : Cond.fieldLink RX2 11 "LineBlocks$Line" "words" "[J" ∈ lw_good := gd_of (List.mem_append_right _ (List.mem_append_left _ (List.mem_of_getElem? (i := 25) rfl))) rfl
set_option maxRecDepth 100000 in
theorem wk30 : Cond.instanceMethod yX5_init ∈ lw_good := gd_of (List.mem_append_right _ (List.mem_append_left _ (List.mem_of_getElem? (i := 39) rfl))) rfl
set_option maxRecDepth 100000 in
theorem wk31 : Cond.code yX5_init cX5_init 1 none ∈ lw_good := gd_of (List.mem_append_right _ (List.mem_append_left _ (List.mem_of_getElem? (i := 40) rfl))) rfl
set_option maxRecDepth 100000 in
theorem wk32 : Cond.methodLink RX5 5 objectInit ∈ lw_good := gd_of (List.mem_append_right _ (List.mem_append_left _ (List.mem_of_getElem? (i := 41) rfl))) rfl
set_option maxRecDepth 100000 in
theorem wk33 : Cond.classLink RX5 11 RX4 ∈ lw_good := gd_of (List.mem_append_right _ (List.mem_append_left _ (List.mem_of_getElem? (i := 42) rfl))) rfl
set_option maxRecDepth 100000 in
theorem wk34 : Cond.instantiable RX4 1 ∈ lw_good := gd_of (List.mem_append_right _ (List.mem_append_left _ (List.mem_of_getElem? (i := 43) rfl))) rfl
set_option maxRecDepth 100000 in
theorem wk35 : Cond.initialized RX4 ∈ lw_good := gd_of (List.mem_append_right _ (List.mem_append_left _ (List.mem_of_getElem? (i := 4) rfl))) rfl
set_option maxRecDepth 100000 in
theorem wk36 : Cond.fieldLink RX5 14 "LineBlocks$Sender" "scrambler" "LLineBlocks$Scrambler;" ∈ lw_good := gd_of (List.mem_append_right _ (List.mem_append_left _ (List.mem_of_getElem? (i := 52) rfl))) rfl
set_option maxRecDepth 100000 in
theorem wk37 : Cond.arrayClass .int ∈ lw_good := gd_of (List.mem_append_right _ (List.mem_append_left _ (List.mem_of_getElem? (i := 62) rfl))) rfl
set_option maxRecDepth 100000 in
theorem wk38 : Cond.fieldLink RX5 20 "LineBlocks$Sender" "group" "[I" ∈ lw_good := gd_of (List.mem_append_right _ (List.mem_append_left _ (List.mem_of_getElem? (i := 53) rfl))) rfl
set_option maxRecDepth 100000 in
theorem wk39 : Cond.instanceMethod yX4_init ∈ lw_good := gd_of (List.mem_append_right _ (List.mem_append_left _ (List.mem_of_getElem? (i := 45) rfl))) rfl
set_option maxRecDepth 100000 in
theorem wk40 : Cond.code yX4_init cX4_init 1 none ∈ lw_good := gd_of (List.mem_append_right _ (List.mem_append_left _ (List.mem_of_getElem? (i := 46) rfl))) rfl
set_option maxRecDepth 100000 in
theorem wk41 : Cond.methodLink RX4 1 objectInit ∈ lw_good := gd_of (List.mem_append_right _ (List.mem_append_left _ (List.mem_of_getElem? (i := 47) rfl))) rfl
set_option maxRecDepth 100000 in
theorem wk42 : Cond.instanceMethod yX3_init ∈ lw_good := gd_of (List.mem_append_right _ (List.mem_append_left _ (List.mem_of_getElem? (i := 66) rfl))) rfl
set_option maxRecDepth 100000 in
theorem wk43 : Cond.code yX3_init cX3_init 1 none ∈ lw_good := gd_of (List.mem_append_right _ (List.mem_append_left _ (List.mem_of_getElem? (i := 67) rfl))) rfl
set_option maxRecDepth 100000 in
theorem wk44 : Cond.methodLink RX3 3 objectInit ∈ lw_good := gd_of (List.mem_append_right _ (List.mem_append_left _ (List.mem_of_getElem? (i := 68) rfl))) rfl
set_option maxRecDepth 100000 in
theorem wk45 : Cond.classLink RX3 9 RX4 ∈ lw_good := gd_of (List.mem_append_right _ (List.mem_append_left _ (List.mem_of_getElem? (i := 69) rfl))) rfl
set_option maxRecDepth 100000 in
theorem wk46 : Cond.fieldLink RX3 12 "LineBlocks$Receiver" "scrambler" "LLineBlocks$Scrambler;" ∈ lw_good := gd_of (List.mem_append_right _ (List.mem_append_left _ (List.mem_of_getElem? (i := 87) rfl))) rfl
set_option maxRecDepth 100000 in
theorem wk47 : Cond.classLink RX3 18 RX1 ∈ lw_good := gd_of (List.mem_append_right _ (List.mem_append_left _ (List.mem_of_getElem? (i := 71) rfl))) rfl
set_option maxRecDepth 100000 in
theorem wk48 : Cond.instantiable RX1 3 ∈ lw_good := gd_of (List.mem_append_right _ (List.mem_append_left _ (List.mem_of_getElem? (i := 72) rfl))) rfl
set_option maxRecDepth 100000 in
theorem wk49 : Cond.initialized RX1 ∈ lw_good := gd_of (List.mem_append_right _ (List.mem_append_left _ (List.mem_of_getElem? (i := 6) rfl))) rfl
set_option maxRecDepth 100000 in
theorem wk50 : Cond.fieldLink RX3 21 "LineBlocks$Receiver" "groups" "LLineBlocks$Groups;" ∈ lw_good := gd_of (List.mem_append_right _ (List.mem_append_left _ (List.mem_of_getElem? (i := 88) rfl))) rfl
set_option maxRecDepth 100000 in
theorem wk51 : Cond.instanceMethod yX1_init ∈ lw_good := gd_of (List.mem_append_right _ (List.mem_append_left _ (List.mem_of_getElem? (i := 74) rfl))) rfl
set_option maxRecDepth 100000 in
theorem wk52 : Cond.code yX1_init cX1_init 1 none ∈ lw_good := gd_of (List.mem_append_right _ (List.mem_append_left _ (List.mem_of_getElem? (i := 75) rfl))) rfl
set_option maxRecDepth 100000 in
theorem wk53 : Cond.methodLink RX1 3 objectInit ∈ lw_good := gd_of (List.mem_append_right _ (List.mem_append_left _ (List.mem_of_getElem? (i := 76) rfl))) rfl
set_option maxRecDepth 100000 in
theorem wk54 : Cond.fieldLink RX1 11 "LineBlocks$Groups" "types" "[I" ∈ lw_good := gd_of (List.mem_append_right _ (List.mem_append_left _ (List.mem_of_getElem? (i := 77) rfl))) rfl
set_option maxRecDepth 100000 in
theorem wk55 : Cond.fieldLink RX1 15 "LineBlocks$Groups" "payloads" "[J" ∈ lw_good := gd_of (List.mem_append_right _ (List.mem_append_left _ (List.mem_of_getElem? (i := 78) rfl))) rfl
set_option maxRecDepth 100000 in
theorem wk59 : Cond.methodLink RX7 1 objectInit ∈ lw_good := gd_of (List.mem_append_right _ (List.mem_append_right _ (List.mem_append_left _ (List.mem_of_getElem? (i := 163) rfl)))) rfl
set_option maxRecDepth 100000 in
theorem wk60 : Cond.fieldLink RX7 7 "LineBlocksModel" "group" "[I" ∈ lw_good := gd_of (List.mem_append_right _ (List.mem_append_right _ (List.mem_append_left _ (List.mem_of_getElem? (i := 166) rfl)))) rfl
set_option maxRecDepth 100000 in
theorem wk61 : Cond.arrayClass .byte ∈ lw_good := gd_of (List.mem_append_right _ (List.mem_append_right _ (List.mem_append_left _ (List.mem_of_getElem? (i := 216) rfl)))) rfl
set_option maxRecDepth 100000 in
theorem wk62 : Cond.fieldLink RX7 13 "LineBlocksModel" "line" "[B" ∈ lw_good := gd_of (List.mem_append_right _ (List.mem_append_right _ (List.mem_append_left _ (List.mem_of_getElem? (i := 168) rfl)))) rfl
set_option maxRecDepth 100000 in
theorem wk63 : Cond.fieldLink RX7 17 "LineBlocksModel" "latest" "[I" ∈ lw_good := gd_of (List.mem_append_right _ (List.mem_append_right _ (List.mem_append_left _ (List.mem_of_getElem? (i := 169) rfl)))) rfl
set_option maxRecDepth 100000 in
theorem wk64 : Cond.fieldLink RX7 20 "LineBlocksModel" "block" "[I" ∈ lw_good := gd_of (List.mem_append_right _ (List.mem_append_right _ (List.mem_append_left _ (List.mem_of_getElem? (i := 170) rfl)))) rfl
set_option maxRecDepth 100000 in
theorem wk65 : Cond.fieldLink RX7 23 "LineBlocksModel" "came" "[I" ∈ lw_good := gd_of (List.mem_append_right _ (List.mem_append_right _ (List.mem_append_left _ (List.mem_of_getElem? (i := 171) rfl)))) rfl
set_option maxRecDepth 100000 in
theorem wk66 : Cond.fieldLink RX7 26 "LineBlocksModel" "told" "[I" ∈ lw_good := gd_of (List.mem_append_right _ (List.mem_append_right _ (List.mem_append_left _ (List.mem_of_getElem? (i := 180) rfl)))) rfl
set_option maxRecDepth 100000 in
theorem wk67 : Cond.fieldLink RX7 29 "LineBlocksModel" "size" "I" ∈ lw_good := gd_of (List.mem_append_right _ (List.mem_append_right _ (List.mem_append_left _ (List.mem_of_getElem? (i := 167) rfl)))) rfl
set_option maxRecDepth 100000 in
theorem wk72 : Cond.methodLink RX6 30 yX5_waitingCount ∈ lw_good := gd_of (List.mem_append_right _ (List.mem_append_left _ (List.mem_of_getElem? (i := 135) rfl))) rfl
set_option maxRecDepth 100000 in
theorem wk73 : Cond.instanceMethod yX5_waitingCount ∈ lw_good := gd_of (List.mem_append_right _ (List.mem_append_left _ (List.mem_of_getElem? (i := 136) rfl))) rfl
set_option maxRecDepth 100000 in
theorem wk74 : Cond.selects RX5 yX5_waitingCount yX5_waitingCount ∈ lw_good := gd_of (List.mem_append_right _ (List.mem_append_left _ (List.mem_of_getElem? (i := 137) rfl))) rfl
set_option maxRecDepth 100000 in
theorem wk75 : Cond.code yX5_waitingCount cX5_waitingCount 1 (some .int) ∈ lw_good := gd_of (List.mem_append_right _ (List.mem_append_left _ (List.mem_of_getElem? (i := 138) rfl))) rfl
set_option maxRecDepth 100000 in
theorem wk76 : Cond.fieldLink RX5 24 "LineBlocks$Sender" "waiting" "I" ∈ lw_good := gd_of (List.mem_append_right _ (List.mem_append_left _ (List.mem_of_getElem? (i := 54) rfl))) rfl
set_option maxRecDepth 100000 in
theorem wk77 : Cond.methodLink RX6 34 yX2_size ∈ lw_good := gd_of (List.mem_append_right _ (List.mem_append_left _ (List.mem_of_getElem? (i := 139) rfl))) rfl
set_option maxRecDepth 100000 in
theorem wk78 : Cond.instanceMethod yX2_size ∈ lw_good := gd_of (List.mem_append_right _ (List.mem_append_left _ (List.mem_of_getElem? (i := 140) rfl))) rfl
set_option maxRecDepth 100000 in
theorem wk79 : Cond.selects RX2 yX2_size yX2_size ∈ lw_good := gd_of (List.mem_append_right _ (List.mem_append_left _ (List.mem_of_getElem? (i := 141) rfl))) rfl
set_option maxRecDepth 100000 in
theorem wk80 : Cond.code yX2_size cX2_size 1 (some .int) ∈ lw_good := gd_of (List.mem_append_right _ (List.mem_append_left _ (List.mem_of_getElem? (i := 142) rfl))) rfl
set_option maxRecDepth 100000 in
theorem wk81 : Cond.fieldLink RX2 15 "LineBlocks$Line" "count" "I" ∈ lw_good := gd_of (List.mem_append_right _ (List.mem_append_left _ (List.mem_of_getElem? (i := 27) rfl))) rfl
set_option maxRecDepth 100000 in
theorem wk82 : Cond.methodLink RX6 37 yX5_accept ∈ lw_good := gd_of (List.mem_append_right _ (List.mem_append_left _ (List.mem_of_getElem? (i := 143) rfl))) rfl
set_option maxRecDepth 100000 in
theorem wk83 : Cond.instanceMethod yX5_accept ∈ lw_good := gd_of (List.mem_append_right _ (List.mem_append_left _ (List.mem_of_getElem? (i := 144) rfl))) rfl
set_option maxRecDepth 100000 in
theorem wk84 : Cond.selects RX5 yX5_accept yX5_accept ∈ lw_good := gd_of (List.mem_append_right _ (List.mem_append_left _ (List.mem_of_getElem? (i := 145) rfl))) rfl
set_option maxRecDepth 100000 in
theorem wk85 : Cond.code yX5_accept cX5_accept 3 none ∈ lw_good := gd_of (List.mem_append_right _ (List.mem_append_left _ (List.mem_of_getElem? (i := 146) rfl))) rfl
set_option maxRecDepth 100000 in
theorem wk86 : Cond.methodLink RX5 32 yX5_sendGroup ∈ lw_good := gd_of (List.mem_append_right _ (List.mem_append_left _ (List.mem_of_getElem? (i := 147) rfl))) rfl
set_option maxRecDepth 100000 in
theorem wk87 : Cond.instanceMethod yX5_sendGroup ∈ lw_good := gd_of (List.mem_append_right _ (List.mem_append_left _ (List.mem_of_getElem? (i := 149) rfl))) rfl
set_option maxRecDepth 100000 in
theorem wk88 : Cond.selects RX5 yX5_sendGroup yX5_sendGroup ∈ lw_good := gd_of (List.mem_append_left _ (List.mem_of_getElem? (i := 0) rfl)) rfl
set_option maxRecDepth 100000 in
theorem wk89 : Cond.code yX5_sendGroup cX5_sendGroup 4 none ∈ lw_good := gd_of (List.mem_append_right _ (List.mem_append_left _ (List.mem_of_getElem? (i := 150) rfl))) rfl
set_option maxRecDepth 100000 in
theorem wk90 : Cond.methodLink RX5 46 yX0_typeOfGroup ∈ lw_good := gd_of (List.mem_append_right _ (List.mem_append_left _ (List.mem_of_getElem? (i := 151) rfl))) rfl
set_option maxRecDepth 100000 in
theorem wk91 : Cond.static yX0_typeOfGroup ∈ lw_good := gd_of (List.mem_append_right _ (List.mem_append_left _ (List.mem_of_getElem? (i := 152) rfl))) rfl
set_option maxRecDepth 100000 in
theorem wk92 : Cond.initialized RX0 ∈ lw_good := gd_of (List.mem_append_right _ (List.mem_append_left _ (List.mem_of_getElem? (i := 8) rfl))) rfl
set_option maxRecDepth 100000 in
theorem wk93 : Cond.code yX0_typeOfGroup cX0_typeOfGroup 2 (some .int) ∈ lw_good := gd_of (List.mem_append_right _ (List.mem_append_left _ (List.mem_of_getElem? (i := 153) rfl))) rfl
set_option maxRecDepth 100000 in
theorem wk94 : Cond.fieldLink RX0 19 "LineBlocks$Codec" "END_TYPES" "[I" ∈ lw_good := gd_of (List.mem_append_right _ (List.mem_append_left _ (List.mem_of_getElem? (i := 163) rfl))) rfl
set_option maxRecDepth 100000 in
theorem wk95 : Cond.methodLink RX0 9 yX0_leadingData ∈ lw_good := gd_of (List.mem_append_right _ (List.mem_append_left _ (List.mem_of_getElem? (i := 154) rfl))) rfl
set_option maxRecDepth 100000 in
theorem wk96 : Cond.static yX0_leadingData ∈ lw_good := gd_of (List.mem_append_right _ (List.mem_append_left _ (List.mem_of_getElem? (i := 155) rfl))) rfl
set_option maxRecDepth 100000 in
theorem wk97 : Cond.code yX0_leadingData cX0_leadingData 2 (some .int) ∈ lw_good := gd_of (List.mem_append_right _ (List.mem_append_left _ (List.mem_of_getElem? (i := 156) rfl))) rfl
set_option maxRecDepth 100000 in
theorem wk98 : Cond.methodLink RX0 57 yX0_isData ∈ lw_good := gd_of (List.mem_append_right _ (List.mem_append_left _ (List.mem_of_getElem? (i := 157) rfl))) rfl
set_option maxRecDepth 100000 in
theorem wk99 : Cond.static yX0_isData ∈ lw_good := gd_of (List.mem_append_right _ (List.mem_append_left _ (List.mem_of_getElem? (i := 158) rfl))) rfl
set_option maxRecDepth 100000 in
theorem wk100 : Cond.code yX0_isData cX0_isData 1 (some .boolean) ∈ lw_good := gd_of (List.mem_append_right _ (List.mem_append_left _ (List.mem_of_getElem? (i := 159) rfl))) rfl
set_option maxRecDepth 100000 in
theorem wk101 : Cond.methodLink RX0 15 yX0_areIdleOrError ∈ lw_good := gd_of (List.mem_append_right _ (List.mem_append_left _ (List.mem_of_getElem? (i := 160) rfl))) rfl
set_option maxRecDepth 100000 in
theorem wk102 : Cond.static yX0_areIdleOrError ∈ lw_good := gd_of (List.mem_append_right _ (List.mem_append_left _ (List.mem_of_getElem? (i := 161) rfl))) rfl
set_option maxRecDepth 100000 in
theorem wk103 : Cond.code yX0_areIdleOrError cX0_areIdleOrError 4 (some .boolean) ∈ lw_good := gd_of (List.mem_append_right _ (List.mem_append_left _ (List.mem_of_getElem? (i := 162) rfl))) rfl
set_option maxRecDepth 100000 in
theorem wk104 : Cond.methodLink RX0 23 yX0_areData ∈ lw_good := gd_of (List.mem_append_right _ (List.mem_append_left _ (List.mem_of_getElem? (i := 165) rfl))) rfl
set_option maxRecDepth 100000 in
theorem wk105 : Cond.static yX0_areData ∈ lw_good := gd_of (List.mem_append_right _ (List.mem_append_left _ (List.mem_of_getElem? (i := 166) rfl))) rfl
set_option maxRecDepth 100000 in
theorem wk106 : Cond.code yX0_areData cX0_areData 3 (some .boolean) ∈ lw_good := gd_of (List.mem_append_right _ (List.mem_append_left _ (List.mem_of_getElem? (i := 167) rfl))) rfl
set_option maxRecDepth 100000 in
theorem wk107 : Cond.methodLink RX5 50 yJ7_fill_53178 ∈ lw_good := gd_of (List.mem_append_right _ (List.mem_append_left _ (List.mem_of_getElem? (i := 168) rfl))) rfl
set_option maxRecDepth 100000 in
theorem wk108 : Cond.static yJ7_fill_53178 ∈ lw_good := gd_of (List.mem_append_right _ (List.mem_append_left _ (List.mem_of_getElem? (i := 169) rfl))) rfl
set_option maxRecDepth 100000 in
theorem wk109 : Cond.initialized RJ7 ∈ lw_good := gd_of (List.mem_append_right _ (List.mem_append_left _ (List.mem_of_getElem? (i := 9) rfl))) rfl
set_option maxRecDepth 100000 in
theorem wk110 : Cond.code yJ7_fill_53178 cJ7_fill_53178 4 none ∈ lw_good := gd_of (List.mem_append_right _ (List.mem_append_left _ (List.mem_of_getElem? (i := 170) rfl))) rfl
set_option maxRecDepth 100000 in
theorem wk111 : Cond.methodLink RX5 56 yX0_payloadOf ∈ lw_good := gd_of (List.mem_append_right _ (List.mem_append_left _ (List.mem_of_getElem? (i := 171) rfl))) rfl
set_option maxRecDepth 100000 in
theorem wk112 : Cond.static yX0_payloadOf ∈ lw_good := gd_of (List.mem_append_right _ (List.mem_append_left _ (List.mem_of_getElem? (i := 172) rfl))) rfl
set_option maxRecDepth 100000 in
theorem wk113 : Cond.code yX0_payloadOf cX0_payloadOf 5 (some .long) ∈ lw_good := gd_of (List.mem_append_right _ (List.mem_append_left _ (List.mem_of_getElem? (i := 173) rfl))) rfl
set_option maxRecDepth 100000 in
theorem wk114 : Cond.methodLink RX0 27 yX0_bitsOf ∈ lw_good := gd_of (List.mem_append_right _ (List.mem_append_left _ (List.mem_of_getElem? (i := 174) rfl))) rfl
set_option maxRecDepth 100000 in
theorem wk115 : Cond.static yX0_bitsOf ∈ lw_good := gd_of (List.mem_append_right _ (List.mem_append_left _ (List.mem_of_getElem? (i := 175) rfl))) rfl
set_option maxRecDepth 100000 in
theorem wk116 : Cond.code yX0_bitsOf cX0_bitsOf 3 (some .long) ∈ lw_good := gd_of (List.mem_append_right _ (List.mem_append_left _ (List.mem_of_getElem? (i := 176) rfl))) rfl
set_option maxRecDepth 100000 in
theorem wk117 : Cond.constantLong RX0 61 (30) ∈ lw_good := gd_of (List.mem_append_right _ (List.mem_append_left _ (List.mem_of_getElem? (i := 183) rfl))) rfl
set_option maxRecDepth 100000 in
theorem wk118 : Cond.methodLink RX0 50 yX0_dataShift ∈ lw_good := gd_of (List.mem_append_right _ (List.mem_append_left _ (List.mem_of_getElem? (i := 177) rfl))) rfl
set_option maxRecDepth 100000 in
theorem wk119 : Cond.static yX0_dataShift ∈ lw_good := gd_of (List.mem_append_right _ (List.mem_append_left _ (List.mem_of_getElem? (i := 178) rfl))) rfl
set_option maxRecDepth 100000 in
theorem wk120 : Cond.code yX0_dataShift cX0_dataShift 2 (some .int) ∈ lw_good := gd_of (List.mem_append_right _ (List.mem_append_left _ (List.mem_of_getElem? (i := 179) rfl))) rfl
set_option maxRecDepth 100000 in
theorem wk121 : Cond.methodLink RX0 31 yX0_endPlace ∈ lw_good := gd_of (List.mem_append_right _ (List.mem_append_left _ (List.mem_of_getElem? (i := 180) rfl))) rfl
set_option maxRecDepth 100000 in
theorem wk122 : Cond.static yX0_endPlace ∈ lw_good := gd_of (List.mem_append_right _ (List.mem_append_left _ (List.mem_of_getElem? (i := 181) rfl))) rfl
set_option maxRecDepth 100000 in
theorem wk123 : Cond.code yX0_endPlace cX0_endPlace 2 (some .int) ∈ lw_good := gd_of (List.mem_append_right _ (List.mem_append_left _ (List.mem_of_getElem? (i := 182) rfl))) rfl
set_option maxRecDepth 100000 in
theorem wk124 : Cond.methodLink RX0 54 yX0_codeShift ∈ lw_good := gd_of (List.mem_append_right _ (List.mem_append_left _ (List.mem_of_getElem? (i := 184) rfl))) rfl
set_option maxRecDepth 100000 in
theorem wk125 : Cond.static yX0_codeShift ∈ lw_good := gd_of (List.mem_append_right _ (List.mem_append_left _ (List.mem_of_getElem? (i := 185) rfl))) rfl
set_option maxRecDepth 100000 in
theorem wk126 : Cond.code yX0_codeShift cX0_codeShift 1 (some .int) ∈ lw_good := gd_of (List.mem_append_right _ (List.mem_append_left _ (List.mem_of_getElem? (i := 186) rfl))) rfl
set_option maxRecDepth 100000 in
theorem wk127 : Cond.methodLink RX5 42 yX5_sendBlock ∈ lw_good := gd_of (List.mem_append_right _ (List.mem_append_left _ (List.mem_of_getElem? (i := 187) rfl))) rfl
set_option maxRecDepth 100000 in
theorem wk128 : Cond.instanceMethod yX5_sendBlock ∈ lw_good := gd_of (List.mem_append_right _ (List.mem_append_left _ (List.mem_of_getElem? (i := 189) rfl))) rfl
set_option maxRecDepth 100000 in
theorem wk129 : Cond.selects RX5 yX5_sendBlock yX5_sendBlock ∈ lw_good := gd_of (List.mem_append_left _ (List.mem_of_getElem? (i := 1) rfl)) rfl
set_option maxRecDepth 100000 in
theorem wk130 : Cond.code yX5_sendBlock cX5_sendBlock 6 none ∈ lw_good := gd_of (List.mem_append_right _ (List.mem_append_left _ (List.mem_of_getElem? (i := 190) rfl))) rfl
set_option maxRecDepth 100000 in
theorem wk131 : Cond.methodLink RX5 60 yX2_append ∈ lw_good := gd_of (List.mem_append_right _ (List.mem_append_left _ (List.mem_of_getElem? (i := 191) rfl))) rfl
set_option maxRecDepth 100000 in
theorem wk132 : Cond.instanceMethod yX2_append ∈ lw_good := gd_of (List.mem_append_right _ (List.mem_append_left _ (List.mem_of_getElem? (i := 192) rfl))) rfl
set_option maxRecDepth 100000 in
theorem wk133 : Cond.selects RX2 yX2_append yX2_append ∈ lw_good := gd_of (List.mem_append_right _ (List.mem_append_left _ (List.mem_of_getElem? (i := 193) rfl))) rfl
set_option maxRecDepth 100000 in
theorem wk134 : Cond.code yX2_append cX2_append 3 none ∈ lw_good := gd_of (List.mem_append_right _ (List.mem_append_left _ (List.mem_of_getElem? (i := 194) rfl))) rfl
set_option maxRecDepth 100000 in
theorem wk135 : Cond.constantLong RX2 23 (-1) ∈ lw_good := gd_of (List.mem_append_right _ (List.mem_append_left _ (List.mem_of_getElem? (i := 202) rfl))) rfl
set_option maxRecDepth 100000 in
theorem wk136 : Cond.methodLink RX2 19 yX2_ringPlace ∈ lw_good := gd_of (List.mem_append_right _ (List.mem_append_left _ (List.mem_of_getElem? (i := 195) rfl))) rfl
set_option maxRecDepth 100000 in
theorem wk137 : Cond.instanceMethod yX2_ringPlace ∈ lw_good := gd_of (List.mem_append_right _ (List.mem_append_left _ (List.mem_of_getElem? (i := 197) rfl))) rfl
set_option maxRecDepth 100000 in
theorem wk138 : Cond.selects RX2 yX2_ringPlace yX2_ringPlace ∈ lw_good := gd_of (List.mem_append_left _ (List.mem_of_getElem? (i := 2) rfl)) rfl
set_option maxRecDepth 100000 in
theorem wk139 : Cond.code yX2_ringPlace cX2_ringPlace 2 (some .int) ∈ lw_good := gd_of (List.mem_append_right _ (List.mem_append_left _ (List.mem_of_getElem? (i := 198) rfl))) rfl
set_option maxRecDepth 100000 in
theorem wk140 : Cond.fieldLink RX2 25 "LineBlocks$Line" "first" "I" ∈ lw_good := gd_of (List.mem_append_right _ (List.mem_append_left _ (List.mem_of_getElem? (i := 26) rfl))) rfl
set_option maxRecDepth 100000 in
theorem wk141 : Cond.methodLink RX2 28 yJ9_floorMod_7cf53 ∈ lw_good := gd_of (List.mem_append_right _ (List.mem_append_left _ (List.mem_of_getElem? (i := 199) rfl))) rfl
set_option maxRecDepth 100000 in
theorem wk142 : Cond.static yJ9_floorMod_7cf53 ∈ lw_good := gd_of (List.mem_append_right _ (List.mem_append_left _ (List.mem_of_getElem? (i := 200) rfl))) rfl
set_option maxRecDepth 100000 in
theorem wk143 : Cond.initialized RJ9 ∈ lw_good := gd_of (List.mem_append_right _ (List.mem_append_left _ (List.mem_of_getElem? (i := 10) rfl))) rfl
set_option maxRecDepth 100000 in
theorem wk144 : Cond.code yJ9_floorMod_7cf53 cJ9_floorMod_7cf53 3 (some .int) ∈ lw_good := gd_of (List.mem_append_right _ (List.mem_append_left _ (List.mem_of_getElem? (i := 201) rfl))) rfl
set_option maxRecDepth 100000 in
theorem wk145 : Cond.methodLink RX5 66 yX4_scramble ∈ lw_good := gd_of (List.mem_append_right _ (List.mem_append_left _ (List.mem_of_getElem? (i := 203) rfl))) rfl
set_option maxRecDepth 100000 in
theorem wk146 : Cond.instanceMethod yX4_scramble ∈ lw_good := gd_of (List.mem_append_right _ (List.mem_append_left _ (List.mem_of_getElem? (i := 204) rfl))) rfl
set_option maxRecDepth 100000 in
theorem wk147 : Cond.selects RX4 yX4_scramble yX4_scramble ∈ lw_good := gd_of (List.mem_append_right _ (List.mem_append_left _ (List.mem_of_getElem? (i := 205) rfl))) rfl
set_option maxRecDepth 100000 in
theorem wk148 : Cond.code yX4_scramble cX4_scramble 3 (some .int) ∈ lw_good := gd_of (List.mem_append_right _ (List.mem_append_left _ (List.mem_of_getElem? (i := 206) rfl))) rfl
set_option maxRecDepth 100000 in
theorem wk149 : Cond.methodLink RX4 15 yX4_mixed ∈ lw_good := gd_of (List.mem_append_right _ (List.mem_append_left _ (List.mem_of_getElem? (i := 207) rfl))) rfl
set_option maxRecDepth 100000 in
theorem wk150 : Cond.instanceMethod yX4_mixed ∈ lw_good := gd_of (List.mem_append_right _ (List.mem_append_left _ (List.mem_of_getElem? (i := 209) rfl))) rfl
set_option maxRecDepth 100000 in
theorem wk151 : Cond.selects RX4 yX4_mixed yX4_mixed ∈ lw_good := gd_of (List.mem_append_left _ (List.mem_of_getElem? (i := 3) rfl)) rfl
set_option maxRecDepth 100000 in
theorem wk152 : Cond.code yX4_mixed cX4_mixed 4 (some .int) ∈ lw_good := gd_of (List.mem_append_right _ (List.mem_append_left _ (List.mem_of_getElem? (i := 210) rfl))) rfl
set_option maxRecDepth 100000 in
theorem wk153 : Cond.fieldLink RX4 7 "LineBlocks$Scrambler" "latest" "J" ∈ lw_good := gd_of (List.mem_append_right _ (List.mem_append_left _ (List.mem_of_getElem? (i := 48) rfl))) rfl
set_option maxRecDepth 100000 in
theorem wk154 : Cond.methodLink RX4 19 yX4_keep ∈ lw_good := gd_of (List.mem_append_right _ (List.mem_append_left _ (List.mem_of_getElem? (i := 211) rfl))) rfl
set_option maxRecDepth 100000 in
theorem wk155 : Cond.instanceMethod yX4_keep ∈ lw_good := gd_of (List.mem_append_right _ (List.mem_append_left _ (List.mem_of_getElem? (i := 213) rfl))) rfl
set_option maxRecDepth 100000 in
theorem wk156 : Cond.selects RX4 yX4_keep yX4_keep ∈ lw_good := gd_of (List.mem_append_left _ (List.mem_of_getElem? (i := 4) rfl)) rfl
set_option maxRecDepth 100000 in
theorem wk157 : Cond.code yX4_keep cX4_keep 2 none ∈ lw_good := gd_of (List.mem_append_right _ (List.mem_append_left _ (List.mem_of_getElem? (i := 214) rfl))) rfl
set_option maxRecDepth 100000 in
theorem wk158 : Cond.constantLong RX4 13 (288230376151711743) ∈ lw_good := gd_of (List.mem_append_right _ (List.mem_append_left _ (List.mem_of_getElem? (i := 215) rfl))) rfl
set_option maxRecDepth 100000 in
theorem wk160 : Cond.instanceMethod yX7_put ∈ lw_good := gd_of (List.mem_append_right _ (List.mem_append_right _ (List.mem_append_left _ (List.mem_of_getElem? (i := 224) rfl)))) rfl
set_option maxRecDepth 100000 in
theorem wk161 : Cond.selects RX7 yX7_put yX7_put ∈ lw_good := gd_of (List.mem_append_right _ (List.mem_append_right _ (List.mem_append_left _ (List.mem_of_getElem? (i := 225) rfl)))) rfl
set_option maxRecDepth 100000 in
theorem wk162 : Cond.code yX7_put cX7_put 2 (some .int) ∈ lw_good := gd_of (List.mem_append_right _ (List.mem_append_right _ (List.mem_append_left _ (List.mem_of_getElem? (i := 226) rfl)))) rfl
set_option maxRecDepth 100000 in
theorem wk163 : Cond.fieldLink RX7 33 "LineBlocksModel" "thrown" "I" ∈ lw_good := gd_of (List.mem_append_right _ (List.mem_append_right _ (List.mem_append_left _ (List.mem_of_getElem? (i := 164) rfl)))) rfl
set_option maxRecDepth 100000 in
theorem wk164 : Cond.fieldLink RX7 73 "LineBlocksModel" "waiting" "I" ∈ lw_good := gd_of (List.mem_append_right _ (List.mem_append_right _ (List.mem_append_left _ (List.mem_of_getElem? (i := 165) rfl)))) rfl
set_option maxRecDepth 100000 in
theorem wk165 : Cond.methodLink RX7 76 yX7_send ∈ lw_good := gd_of (List.mem_append_right _ (List.mem_append_right _ (List.mem_append_left _ (List.mem_of_getElem? (i := 227) rfl)))) rfl
set_option maxRecDepth 100000 in
theorem wk166 : Cond.instanceMethod yX7_send ∈ lw_good := gd_of (List.mem_append_right _ (List.mem_append_right _ (List.mem_append_left _ (List.mem_of_getElem? (i := 229) rfl)))) rfl
set_option maxRecDepth 100000 in
theorem wk167 : Cond.selects RX7 yX7_send yX7_send ∈ lw_good := gd_of (List.mem_append_left _ (List.mem_of_getElem? (i := 12) rfl)) rfl
set_option maxRecDepth 100000 in
theorem wk168 : Cond.code yX7_send cX7_send 3 none ∈ lw_good := gd_of (List.mem_append_right _ (List.mem_append_right _ (List.mem_append_left _ (List.mem_of_getElem? (i := 230) rfl)))) rfl
set_option maxRecDepth 100000 in
theorem wk169 : Cond.methodLink RX7 63 yX7_encode ∈ lw_good := gd_of (List.mem_append_right _ (List.mem_append_right _ (List.mem_append_left _ (List.mem_of_getElem? (i := 231) rfl)))) rfl
set_option maxRecDepth 100000 in
theorem wk170 : Cond.instanceMethod yX7_encode ∈ lw_good := gd_of (List.mem_append_right _ (List.mem_append_right _ (List.mem_append_left _ (List.mem_of_getElem? (i := 233) rfl)))) rfl
set_option maxRecDepth 100000 in
theorem wk171 : Cond.selects RX7 yX7_encode yX7_encode ∈ lw_good := gd_of (List.mem_append_left _ (List.mem_of_getElem? (i := 13) rfl)) rfl
set_option maxRecDepth 100000 in
theorem wk172 : Cond.code yX7_encode cX7_encode 4 none ∈ lw_good := gd_of (List.mem_append_right _ (List.mem_append_right _ (List.mem_append_left _ (List.mem_of_getElem? (i := 234) rfl)))) rfl
set_option maxRecDepth 100000 in
theorem wk173 : Cond.methodLink RX7 51 yX7_are ∈ lw_good := gd_of (List.mem_append_right _ (List.mem_append_right _ (List.mem_append_left _ (List.mem_of_getElem? (i := 235) rfl)))) rfl
set_option maxRecDepth 100000 in
theorem wk174 : Cond.instanceMethod yX7_are ∈ lw_good := gd_of (List.mem_append_right _ (List.mem_append_right _ (List.mem_append_left _ (List.mem_of_getElem? (i := 237) rfl)))) rfl
set_option maxRecDepth 100000 in
theorem wk175 : Cond.selects RX7 yX7_are yX7_are ∈ lw_good := gd_of (List.mem_append_left _ (List.mem_of_getElem? (i := 14) rfl)) rfl
set_option maxRecDepth 100000 in
theorem wk176 : Cond.code yX7_are cX7_are 6 (some .boolean) ∈ lw_good := gd_of (List.mem_append_right _ (List.mem_append_right _ (List.mem_append_left _ (List.mem_of_getElem? (i := 238) rfl)))) rfl
set_option maxRecDepth 100000 in
theorem wk177 : Cond.methodLink RX7 40 yX7_isData ∈ lw_good := gd_of (List.mem_append_right _ (List.mem_append_right _ (List.mem_append_left _ (List.mem_of_getElem? (i := 239) rfl)))) rfl
set_option maxRecDepth 100000 in
theorem wk178 : Cond.static yX7_isData ∈ lw_good := gd_of (List.mem_append_right _ (List.mem_append_right _ (List.mem_append_right _ (List.mem_of_getElem? (i := 0) rfl)))) rfl
set_option maxRecDepth 100000 in
theorem wk179 : Cond.code yX7_isData cX7_isData 1 (some .boolean) ∈ lw_good := gd_of (List.mem_append_right _ (List.mem_append_right _ (List.mem_append_right _ (List.mem_of_getElem? (i := 1) rfl)))) rfl
set_option maxRecDepth 100000 in
theorem wk180 : Cond.methodLink RX7 44 yX7_isQuiet ∈ lw_good := gd_of (List.mem_append_right _ (List.mem_append_right _ (List.mem_append_right _ (List.mem_of_getElem? (i := 2) rfl)))) rfl
set_option maxRecDepth 100000 in
theorem wk181 : Cond.static yX7_isQuiet ∈ lw_good := gd_of (List.mem_append_right _ (List.mem_append_right _ (List.mem_append_right _ (List.mem_of_getElem? (i := 3) rfl)))) rfl
set_option maxRecDepth 100000 in
theorem wk182 : Cond.code yX7_isQuiet cX7_isQuiet 1 (some .boolean) ∈ lw_good := gd_of (List.mem_append_right _ (List.mem_append_right _ (List.mem_append_right _ (List.mem_of_getElem? (i := 4) rfl)))) rfl
set_option maxRecDepth 100000 in
theorem wk183 : Cond.methodLink RX7 47 yX7_setBits ∈ lw_good := gd_of (List.mem_append_right _ (List.mem_append_right _ (List.mem_append_right _ (List.mem_of_getElem? (i := 5) rfl)))) rfl
set_option maxRecDepth 100000 in
theorem wk184 : Cond.instanceMethod yX7_setBits ∈ lw_good := gd_of (List.mem_append_right _ (List.mem_append_right _ (List.mem_append_right _ (List.mem_of_getElem? (i := 7) rfl)))) rfl
set_option maxRecDepth 100000 in
theorem wk185 : Cond.selects RX7 yX7_setBits yX7_setBits ∈ lw_good := gd_of (List.mem_append_left _ (List.mem_of_getElem? (i := 15) rfl)) rfl
set_option maxRecDepth 100000 in
theorem wk186 : Cond.code yX7_setBits cX7_setBits 5 none ∈ lw_good := gd_of (List.mem_append_right _ (List.mem_append_right _ (List.mem_append_right _ (List.mem_of_getElem? (i := 8) rfl)))) rfl
set_option maxRecDepth 100000 in
theorem wk187 : Cond.methodLink RX7 55 yX7_putCode ∈ lw_good := gd_of (List.mem_append_right _ (List.mem_append_right _ (List.mem_append_right _ (List.mem_of_getElem? (i := 9) rfl)))) rfl
set_option maxRecDepth 100000 in
theorem wk188 : Cond.instanceMethod yX7_putCode ∈ lw_good := gd_of (List.mem_append_right _ (List.mem_append_right _ (List.mem_append_right _ (List.mem_of_getElem? (i := 11) rfl)))) rfl
set_option maxRecDepth 100000 in
theorem wk189 : Cond.selects RX7 yX7_putCode yX7_putCode ∈ lw_good := gd_of (List.mem_append_left _ (List.mem_of_getElem? (i := 16) rfl)) rfl
set_option maxRecDepth 100000 in
theorem wk190 : Cond.code yX7_putCode cX7_putCode 3 none ∈ lw_good := gd_of (List.mem_append_right _ (List.mem_append_right _ (List.mem_append_right _ (List.mem_of_getElem? (i := 12) rfl)))) rfl
set_option maxRecDepth 100000 in
theorem wk191 : Cond.methodLink RX7 59 yX7_typeOf ∈ lw_good := gd_of (List.mem_append_right _ (List.mem_append_right _ (List.mem_append_right _ (List.mem_of_getElem? (i := 13) rfl)))) rfl
set_option maxRecDepth 100000 in
theorem wk192 : Cond.static yX7_typeOf ∈ lw_good := gd_of (List.mem_append_right _ (List.mem_append_right _ (List.mem_append_right _ (List.mem_of_getElem? (i := 14) rfl)))) rfl
set_option maxRecDepth 100000 in
theorem wk193 : Cond.code yX7_typeOf cX7_typeOf 1 (some .int) ∈ lw_good := gd_of (List.mem_append_right _ (List.mem_append_right _ (List.mem_append_right _ (List.mem_of_getElem? (i := 15) rfl)))) rfl
set_option maxRecDepth 100000 in
theorem wk194 : Cond.methodLink RX7 66 yX7_mixed ∈ lw_good := gd_of (List.mem_append_right _ (List.mem_append_right _ (List.mem_append_right _ (List.mem_of_getElem? (i := 16) rfl)))) rfl
set_option maxRecDepth 100000 in
theorem wk195 : Cond.instanceMethod yX7_mixed ∈ lw_good := gd_of (List.mem_append_right _ (List.mem_append_right _ (List.mem_append_right _ (List.mem_of_getElem? (i := 18) rfl)))) rfl
set_option maxRecDepth 100000 in
theorem wk196 : Cond.selects RX7 yX7_mixed yX7_mixed ∈ lw_good := gd_of (List.mem_append_left _ (List.mem_of_getElem? (i := 17) rfl)) rfl
set_option maxRecDepth 100000 in
theorem wk197 : Cond.code yX7_mixed cX7_mixed 3 (some .int) ∈ lw_good := gd_of (List.mem_append_right _ (List.mem_append_right _ (List.mem_append_right _ (List.mem_of_getElem? (i := 19) rfl)))) rfl
set_option maxRecDepth 100000 in
theorem wk198 : Cond.methodLink RX7 70 yX7_remember ∈ lw_good := gd_of (List.mem_append_right _ (List.mem_append_right _ (List.mem_append_right _ (List.mem_of_getElem? (i := 20) rfl)))) rfl
set_option maxRecDepth 100000 in
theorem wk199 : Cond.instanceMethod yX7_remember ∈ lw_good := gd_of (List.mem_append_right _ (List.mem_append_right _ (List.mem_append_right _ (List.mem_of_getElem? (i := 22) rfl)))) rfl
set_option maxRecDepth 100000 in
theorem wk200 : Cond.selects RX7 yX7_remember yX7_remember ∈ lw_good := gd_of (List.mem_append_left _ (List.mem_of_getElem? (i := 18) rfl)) rfl
set_option maxRecDepth 100000 in
theorem wk201 : Cond.code yX7_remember cX7_remember 4 none ∈ lw_good := gd_of (List.mem_append_right _ (List.mem_append_right _ (List.mem_append_right _ (List.mem_of_getElem? (i := 23) rfl)))) rfl
set_option maxRecDepth 100000 in
theorem wk206 : Cond.methodLink RX6 41 yX5_acceptBytes ∈ lw_good := gd_of (List.mem_append_right _ (List.mem_append_left _ (List.mem_of_getElem? (i := 220) rfl))) rfl
set_option maxRecDepth 100000 in
theorem wk207 : Cond.instanceMethod yX5_acceptBytes ∈ lw_good := gd_of (List.mem_append_right _ (List.mem_append_left _ (List.mem_of_getElem? (i := 221) rfl))) rfl
set_option maxRecDepth 100000 in
theorem wk208 : Cond.selects RX5 yX5_acceptBytes yX5_acceptBytes ∈ lw_good := gd_of (List.mem_append_right _ (List.mem_append_left _ (List.mem_of_getElem? (i := 222) rfl))) rfl
set_option maxRecDepth 100000 in
theorem wk209 : Cond.code yX5_acceptBytes cX5_acceptBytes 4 none ∈ lw_good := gd_of (List.mem_append_right _ (List.mem_append_left _ (List.mem_of_getElem? (i := 223) rfl))) rfl
set_option maxRecDepth 100000 in
theorem wk210 : Cond.methodLink RX5 36 yX5_accept ∈ lw_good := gd_of (List.mem_append_right _ (List.mem_append_left _ (List.mem_of_getElem? (i := 224) rfl))) rfl
set_option maxRecDepth 100000 in
theorem wk215 : Cond.methodLink RX7 79 yX7_put ∈ lw_good := gd_of (List.mem_append_right _ (List.mem_append_right _ (List.mem_append_right _ (List.mem_of_getElem? (i := 28) rfl)))) rfl
set_option maxRecDepth 100000 in
theorem wk220 : Cond.methodLink RX6 44 yX5_sendIdleGroups ∈ lw_good := gd_of (List.mem_append_right _ (List.mem_append_left _ (List.mem_of_getElem? (i := 229) rfl))) rfl
set_option maxRecDepth 100000 in
theorem wk221 : Cond.instanceMethod yX5_sendIdleGroups ∈ lw_good := gd_of (List.mem_append_right _ (List.mem_append_left _ (List.mem_of_getElem? (i := 230) rfl))) rfl
set_option maxRecDepth 100000 in
theorem wk222 : Cond.selects RX5 yX5_sendIdleGroups yX5_sendIdleGroups ∈ lw_good := gd_of (List.mem_append_right _ (List.mem_append_left _ (List.mem_of_getElem? (i := 231) rfl))) rfl
set_option maxRecDepth 100000 in
theorem wk223 : Cond.code yX5_sendIdleGroups cX5_sendIdleGroups 4 none ∈ lw_good := gd_of (List.mem_append_right _ (List.mem_append_left _ (List.mem_of_getElem? (i := 232) rfl))) rfl
set_option maxRecDepth 100000 in
theorem wk224 : Cond.constantLong RX5 40 (30) ∈ lw_good := gd_of (List.mem_append_right _ (List.mem_append_left _ (List.mem_of_getElem? (i := 233) rfl))) rfl
set_option maxRecDepth 100000 in
theorem wk233 : Cond.constantLong RX6 52 (-12) ∈ lw_good := gd_of (List.mem_append_right _ (List.mem_append_right _ (List.mem_append_left _ (List.mem_of_getElem? (i := 11) rfl)))) rfl
set_option maxRecDepth 100000 in
theorem wk234 : Cond.methodLink RX6 47 yX5_exchangeState ∈ lw_good := gd_of (List.mem_append_right _ (List.mem_append_left _ (List.mem_of_getElem? (i := 238) rfl))) rfl
set_option maxRecDepth 100000 in
theorem wk235 : Cond.instanceMethod yX5_exchangeState ∈ lw_good := gd_of (List.mem_append_right _ (List.mem_append_left _ (List.mem_of_getElem? (i := 239) rfl))) rfl
set_option maxRecDepth 100000 in
theorem wk236 : Cond.selects RX5 yX5_exchangeState yX5_exchangeState ∈ lw_good := gd_of (List.mem_append_right _ (List.mem_append_right _ (List.mem_append_left _ (List.mem_of_getElem? (i := 0) rfl)))) rfl
set_option maxRecDepth 100000 in
theorem wk237 : Cond.code yX5_exchangeState cX5_exchangeState 3 (some .long) ∈ lw_good := gd_of (List.mem_append_right _ (List.mem_append_right _ (List.mem_append_left _ (List.mem_of_getElem? (i := 1) rfl)))) rfl
set_option maxRecDepth 100000 in
theorem wk238 : Cond.methodLink RX5 28 yX4_exchange ∈ lw_good := gd_of (List.mem_append_right _ (List.mem_append_right _ (List.mem_append_left _ (List.mem_of_getElem? (i := 2) rfl)))) rfl
set_option maxRecDepth 100000 in
theorem wk239 : Cond.instanceMethod yX4_exchange ∈ lw_good := gd_of (List.mem_append_right _ (List.mem_append_right _ (List.mem_append_left _ (List.mem_of_getElem? (i := 3) rfl)))) rfl
set_option maxRecDepth 100000 in
theorem wk240 : Cond.selects RX4 yX4_exchange yX4_exchange ∈ lw_good := gd_of (List.mem_append_right _ (List.mem_append_right _ (List.mem_append_left _ (List.mem_of_getElem? (i := 4) rfl)))) rfl
set_option maxRecDepth 100000 in
theorem wk241 : Cond.code yX4_exchange cX4_exchange 5 (some .long) ∈ lw_good := gd_of (List.mem_append_right _ (List.mem_append_right _ (List.mem_append_left _ (List.mem_of_getElem? (i := 5) rfl)))) rfl
set_option maxRecDepth 100000 in
theorem wk242 : Cond.methodLink RX6 51 yX3_exchangeState ∈ lw_good := gd_of (List.mem_append_right _ (List.mem_append_right _ (List.mem_append_left _ (List.mem_of_getElem? (i := 6) rfl)))) rfl
set_option maxRecDepth 100000 in
theorem wk243 : Cond.instanceMethod yX3_exchangeState ∈ lw_good := gd_of (List.mem_append_right _ (List.mem_append_right _ (List.mem_append_left _ (List.mem_of_getElem? (i := 7) rfl)))) rfl
set_option maxRecDepth 100000 in
theorem wk244 : Cond.selects RX3 yX3_exchangeState yX3_exchangeState ∈ lw_good := gd_of (List.mem_append_right _ (List.mem_append_right _ (List.mem_append_left _ (List.mem_of_getElem? (i := 8) rfl)))) rfl
set_option maxRecDepth 100000 in
theorem wk245 : Cond.code yX3_exchangeState cX3_exchangeState 3 (some .long) ∈ lw_good := gd_of (List.mem_append_right _ (List.mem_append_right _ (List.mem_append_left _ (List.mem_of_getElem? (i := 9) rfl)))) rfl
set_option maxRecDepth 100000 in
theorem wk246 : Cond.methodLink RX3 50 yX4_exchange ∈ lw_good := gd_of (List.mem_append_right _ (List.mem_append_right _ (List.mem_append_left _ (List.mem_of_getElem? (i := 10) rfl)))) rfl
set_option maxRecDepth 100000 in
theorem wk251 : Cond.constantLong RX7 36 (-12) ∈ lw_good := gd_of (List.mem_append_right _ (List.mem_append_right _ (List.mem_append_left _ (List.mem_of_getElem? (i := 221) rfl)))) rfl
set_option maxRecDepth 100000 in
theorem wk252 : Cond.constantLong RX7 38 (2) ∈ lw_good := gd_of (List.mem_append_right _ (List.mem_append_right _ (List.mem_append_left _ (List.mem_of_getElem? (i := 222) rfl)))) rfl
set_option maxRecDepth 100000 in
theorem wk265 : Cond.methodLink RX6 54 yX2_has ∈ lw_good := gd_of (List.mem_append_right _ (List.mem_append_right _ (List.mem_append_left _ (List.mem_of_getElem? (i := 20) rfl)))) rfl
set_option maxRecDepth 100000 in
theorem wk266 : Cond.instanceMethod yX2_has ∈ lw_good := gd_of (List.mem_append_right _ (List.mem_append_right _ (List.mem_append_left _ (List.mem_of_getElem? (i := 21) rfl)))) rfl
set_option maxRecDepth 100000 in
theorem wk267 : Cond.selects RX2 yX2_has yX2_has ∈ lw_good := gd_of (List.mem_append_right _ (List.mem_append_right _ (List.mem_append_left _ (List.mem_of_getElem? (i := 22) rfl)))) rfl
set_option maxRecDepth 100000 in
theorem wk268 : Cond.code yX2_has cX2_has 2 (some .boolean) ∈ lw_good := gd_of (List.mem_append_right _ (List.mem_append_right _ (List.mem_append_left _ (List.mem_of_getElem? (i := 23) rfl)))) rfl
set_option maxRecDepth 100000 in
theorem wk269 : Cond.methodLink RX6 58 yX2_at ∈ lw_good := gd_of (List.mem_append_right _ (List.mem_append_right _ (List.mem_append_left _ (List.mem_of_getElem? (i := 24) rfl)))) rfl
set_option maxRecDepth 100000 in
theorem wk270 : Cond.instanceMethod yX2_at ∈ lw_good := gd_of (List.mem_append_right _ (List.mem_append_right _ (List.mem_append_left _ (List.mem_of_getElem? (i := 25) rfl)))) rfl
set_option maxRecDepth 100000 in
theorem wk271 : Cond.selects RX2 yX2_at yX2_at ∈ lw_good := gd_of (List.mem_append_right _ (List.mem_append_right _ (List.mem_append_left _ (List.mem_of_getElem? (i := 26) rfl)))) rfl
set_option maxRecDepth 100000 in
theorem wk272 : Cond.code yX2_at cX2_at 3 (some .int) ∈ lw_good := gd_of (List.mem_append_right _ (List.mem_append_right _ (List.mem_append_left _ (List.mem_of_getElem? (i := 27) rfl)))) rfl
set_option maxRecDepth 100000 in
theorem wk281 : Cond.methodLink RX6 62 yX2_flip ∈ lw_good := gd_of (List.mem_append_right _ (List.mem_append_right _ (List.mem_append_left _ (List.mem_of_getElem? (i := 32) rfl)))) rfl
set_option maxRecDepth 100000 in
theorem wk282 : Cond.instanceMethod yX2_flip ∈ lw_good := gd_of (List.mem_append_right _ (List.mem_append_right _ (List.mem_append_left _ (List.mem_of_getElem? (i := 33) rfl)))) rfl
set_option maxRecDepth 100000 in
theorem wk283 : Cond.selects RX2 yX2_flip yX2_flip ∈ lw_good := gd_of (List.mem_append_right _ (List.mem_append_right _ (List.mem_append_left _ (List.mem_of_getElem? (i := 34) rfl)))) rfl
set_option maxRecDepth 100000 in
theorem wk284 : Cond.code yX2_flip cX2_flip 3 none ∈ lw_good := gd_of (List.mem_append_right _ (List.mem_append_right _ (List.mem_append_left _ (List.mem_of_getElem? (i := 35) rfl)))) rfl
set_option maxRecDepth 100000 in
theorem wk293 : Cond.methodLink RX6 66 yX2_append ∈ lw_good := gd_of (List.mem_append_right _ (List.mem_append_right _ (List.mem_append_left _ (List.mem_of_getElem? (i := 40) rfl)))) rfl
set_option maxRecDepth 100000 in
theorem wk302 : Cond.methodLink RX6 72 Lib.Math.min.name ∈ lw_good := gd_of (List.mem_append_right _ (List.mem_append_right _ (List.mem_append_left _ (List.mem_of_getElem? (i := 53) rfl)))) rfl
set_option maxRecDepth 100000 in
theorem wk303 : Cond.static Lib.Math.min.name ∈ lw_good := gd_of (List.mem_append_right _ (List.mem_append_right _ (List.mem_append_left _ (List.mem_of_getElem? (i := 54) rfl)))) rfl
set_option maxRecDepth 100000 in
theorem wk305 : Cond.code Lib.Math.min.name Lib.Math.min.code 2 (some .int) ∈ lw_good := gd_of (List.mem_append_right _ (List.mem_append_right _ (List.mem_append_left _ (List.mem_of_getElem? (i := 55) rfl)))) rfl
set_option maxRecDepth 100000 in
theorem wk306 : Cond.methodLink RX6 69 yX3_groupCount ∈ lw_good := gd_of (List.mem_append_right _ (List.mem_append_right _ (List.mem_append_left _ (List.mem_of_getElem? (i := 45) rfl)))) rfl
set_option maxRecDepth 100000 in
theorem wk307 : Cond.instanceMethod yX3_groupCount ∈ lw_good := gd_of (List.mem_append_right _ (List.mem_append_right _ (List.mem_append_left _ (List.mem_of_getElem? (i := 46) rfl)))) rfl
set_option maxRecDepth 100000 in
theorem wk308 : Cond.selects RX3 yX3_groupCount yX3_groupCount ∈ lw_good := gd_of (List.mem_append_right _ (List.mem_append_right _ (List.mem_append_left _ (List.mem_of_getElem? (i := 47) rfl)))) rfl
set_option maxRecDepth 100000 in
theorem wk309 : Cond.code yX3_groupCount cX3_groupCount 1 (some .int) ∈ lw_good := gd_of (List.mem_append_right _ (List.mem_append_right _ (List.mem_append_left _ (List.mem_of_getElem? (i := 48) rfl)))) rfl
set_option maxRecDepth 100000 in
theorem wk310 : Cond.methodLink RX3 39 yX1_count ∈ lw_good := gd_of (List.mem_append_right _ (List.mem_append_right _ (List.mem_append_left _ (List.mem_of_getElem? (i := 49) rfl)))) rfl
set_option maxRecDepth 100000 in
theorem wk311 : Cond.instanceMethod yX1_count ∈ lw_good := gd_of (List.mem_append_right _ (List.mem_append_right _ (List.mem_append_left _ (List.mem_of_getElem? (i := 50) rfl)))) rfl
set_option maxRecDepth 100000 in
theorem wk312 : Cond.selects RX1 yX1_count yX1_count ∈ lw_good := gd_of (List.mem_append_right _ (List.mem_append_right _ (List.mem_append_left _ (List.mem_of_getElem? (i := 51) rfl)))) rfl
set_option maxRecDepth 100000 in
theorem wk313 : Cond.code yX1_count cX1_count 1 (some .int) ∈ lw_good := gd_of (List.mem_append_right _ (List.mem_append_right _ (List.mem_append_left _ (List.mem_of_getElem? (i := 52) rfl)))) rfl
set_option maxRecDepth 100000 in
theorem wk314 : Cond.fieldLink RX1 19 "LineBlocks$Groups" "count" "I" ∈ lw_good := gd_of (List.mem_append_right _ (List.mem_append_left _ (List.mem_of_getElem? (i := 79) rfl))) rfl
set_option maxRecDepth 100000 in
theorem wk315 : Cond.methodLink RX6 78 yX3_take ∈ lw_good := gd_of (List.mem_append_right _ (List.mem_append_right _ (List.mem_append_left _ (List.mem_of_getElem? (i := 56) rfl)))) rfl
set_option maxRecDepth 100000 in
theorem wk316 : Cond.instanceMethod yX3_take ∈ lw_good := gd_of (List.mem_append_right _ (List.mem_append_right _ (List.mem_append_left _ (List.mem_of_getElem? (i := 57) rfl)))) rfl
set_option maxRecDepth 100000 in
theorem wk317 : Cond.selects RX3 yX3_take yX3_take ∈ lw_good := gd_of (List.mem_append_right _ (List.mem_append_right _ (List.mem_append_left _ (List.mem_of_getElem? (i := 58) rfl)))) rfl
set_option maxRecDepth 100000 in
theorem wk318 : Cond.code yX3_take cX3_take 2 none ∈ lw_good := gd_of (List.mem_append_right _ (List.mem_append_right _ (List.mem_append_left _ (List.mem_of_getElem? (i := 59) rfl)))) rfl
set_option maxRecDepth 100000 in
theorem wk319 : Cond.fieldLink RX3 54 "LineBlocks$Receiver" "dropsNext" "Z" ∈ lw_good := gd_of (List.mem_append_right _ (List.mem_append_left _ (List.mem_of_getElem? (i := 93) rfl))) rfl
set_option maxRecDepth 100000 in
theorem wk320 : Cond.fieldLink RX3 36 "LineBlocks$Receiver" "have" "I" ∈ lw_good := gd_of (List.mem_append_right _ (List.mem_append_left _ (List.mem_of_getElem? (i := 91) rfl))) rfl
set_option maxRecDepth 100000 in
theorem wk321 : Cond.fieldLink RX3 57 "LineBlocks$Receiver" "head" "I" ∈ lw_good := gd_of (List.mem_append_right _ (List.mem_append_left _ (List.mem_of_getElem? (i := 89) rfl))) rfl
set_option maxRecDepth 100000 in
theorem wk322 : Cond.fieldLink RX3 60 "LineBlocks$Receiver" "payload" "J" ∈ lw_good := gd_of (List.mem_append_right _ (List.mem_append_left _ (List.mem_of_getElem? (i := 90) rfl))) rfl
set_option maxRecDepth 100000 in
theorem wk323 : Cond.methodLink RX3 64 yX4_unscramble ∈ lw_good := gd_of (List.mem_append_right _ (List.mem_append_right _ (List.mem_append_left _ (List.mem_of_getElem? (i := 60) rfl)))) rfl
set_option maxRecDepth 100000 in
theorem wk324 : Cond.instanceMethod yX4_unscramble ∈ lw_good := gd_of (List.mem_append_right _ (List.mem_append_right _ (List.mem_append_left _ (List.mem_of_getElem? (i := 61) rfl)))) rfl
set_option maxRecDepth 100000 in
theorem wk325 : Cond.selects RX4 yX4_unscramble yX4_unscramble ∈ lw_good := gd_of (List.mem_append_right _ (List.mem_append_right _ (List.mem_append_left _ (List.mem_of_getElem? (i := 62) rfl)))) rfl
set_option maxRecDepth 100000 in
theorem wk326 : Cond.code yX4_unscramble cX4_unscramble 3 (some .int) ∈ lw_good := gd_of (List.mem_append_right _ (List.mem_append_right _ (List.mem_append_left _ (List.mem_of_getElem? (i := 63) rfl)))) rfl
set_option maxRecDepth 100000 in
theorem wk327 : Cond.methodLink RX3 68 yX3_endBlock ∈ lw_good := gd_of (List.mem_append_right _ (List.mem_append_right _ (List.mem_append_left _ (List.mem_of_getElem? (i := 64) rfl)))) rfl
set_option maxRecDepth 100000 in
theorem wk328 : Cond.instanceMethod yX3_endBlock ∈ lw_good := gd_of (List.mem_append_right _ (List.mem_append_right _ (List.mem_append_left _ (List.mem_of_getElem? (i := 66) rfl)))) rfl
set_option maxRecDepth 100000 in
theorem wk329 : Cond.selects RX3 yX3_endBlock yX3_endBlock ∈ lw_good := gd_of (List.mem_append_left _ (List.mem_of_getElem? (i := 5) rfl)) rfl
set_option maxRecDepth 100000 in
theorem wk330 : Cond.code yX3_endBlock cX3_endBlock 2 none ∈ lw_good := gd_of (List.mem_append_right _ (List.mem_append_right _ (List.mem_append_left _ (List.mem_of_getElem? (i := 67) rfl)))) rfl
set_option maxRecDepth 100000 in
theorem wk331 : Cond.fieldLink RX3 25 "LineBlocks$Receiver" "locked" "Z" ∈ lw_good := gd_of (List.mem_append_right _ (List.mem_append_left _ (List.mem_of_getElem? (i := 92) rfl))) rfl
set_option maxRecDepth 100000 in
theorem wk332 : Cond.methodLink RX3 74 yX0_typeOfBlock ∈ lw_good := gd_of (List.mem_append_right _ (List.mem_append_right _ (List.mem_append_left _ (List.mem_of_getElem? (i := 68) rfl)))) rfl
set_option maxRecDepth 100000 in
theorem wk333 : Cond.static yX0_typeOfBlock ∈ lw_good := gd_of (List.mem_append_right _ (List.mem_append_right _ (List.mem_append_left _ (List.mem_of_getElem? (i := 69) rfl)))) rfl
set_option maxRecDepth 100000 in
theorem wk334 : Cond.code yX0_typeOfBlock cX0_typeOfBlock 3 (some .int) ∈ lw_good := gd_of (List.mem_append_right _ (List.mem_append_right _ (List.mem_append_left _ (List.mem_of_getElem? (i := 70) rfl)))) rfl
set_option maxRecDepth 100000 in
theorem wk335 : Cond.methodLink RX3 80 yX1_keep ∈ lw_good := gd_of (List.mem_append_right _ (List.mem_append_right _ (List.mem_append_left _ (List.mem_of_getElem? (i := 71) rfl)))) rfl
set_option maxRecDepth 100000 in
theorem wk336 : Cond.instanceMethod yX1_keep ∈ lw_good := gd_of (List.mem_append_right _ (List.mem_append_right _ (List.mem_append_left _ (List.mem_of_getElem? (i := 72) rfl)))) rfl
set_option maxRecDepth 100000 in
theorem wk337 : Cond.selects RX1 yX1_keep yX1_keep ∈ lw_good := gd_of (List.mem_append_right _ (List.mem_append_right _ (List.mem_append_left _ (List.mem_of_getElem? (i := 73) rfl)))) rfl
set_option maxRecDepth 100000 in
theorem wk338 : Cond.code yX1_keep cX1_keep 5 none ∈ lw_good := gd_of (List.mem_append_right _ (List.mem_append_right _ (List.mem_append_left _ (List.mem_of_getElem? (i := 74) rfl)))) rfl
set_option maxRecDepth 100000 in
theorem wk339 : Cond.methodLink RX1 23 yX1_slotOf ∈ lw_good := gd_of (List.mem_append_right _ (List.mem_append_right _ (List.mem_append_left _ (List.mem_of_getElem? (i := 75) rfl)))) rfl
set_option maxRecDepth 100000 in
theorem wk340 : Cond.static yX1_slotOf ∈ lw_good := gd_of (List.mem_append_right _ (List.mem_append_right _ (List.mem_append_left _ (List.mem_of_getElem? (i := 76) rfl)))) rfl
set_option maxRecDepth 100000 in
theorem wk341 : Cond.code yX1_slotOf cX1_slotOf 1 (some .int) ∈ lw_good := gd_of (List.mem_append_right _ (List.mem_append_right _ (List.mem_append_left _ (List.mem_of_getElem? (i := 77) rfl)))) rfl
set_option maxRecDepth 100000 in
theorem wk342 : Cond.methodLink RX1 37 yJ9_floorMod_7cf53 ∈ lw_good := gd_of (List.mem_append_right _ (List.mem_append_right _ (List.mem_append_left _ (List.mem_of_getElem? (i := 78) rfl)))) rfl
set_option maxRecDepth 100000 in
theorem wk343 : Cond.methodLink RX3 84 yX3_countInRow ∈ lw_good := gd_of (List.mem_append_right _ (List.mem_append_right _ (List.mem_append_left _ (List.mem_of_getElem? (i := 79) rfl)))) rfl
set_option maxRecDepth 100000 in
theorem wk344 : Cond.instanceMethod yX3_countInRow ∈ lw_good := gd_of (List.mem_append_right _ (List.mem_append_right _ (List.mem_append_left _ (List.mem_of_getElem? (i := 81) rfl)))) rfl
set_option maxRecDepth 100000 in
theorem wk345 : Cond.selects RX3 yX3_countInRow yX3_countInRow ∈ lw_good := gd_of (List.mem_append_left _ (List.mem_of_getElem? (i := 6) rfl)) rfl
set_option maxRecDepth 100000 in
theorem wk346 : Cond.code yX3_countInRow cX3_countInRow 2 none ∈ lw_good := gd_of (List.mem_append_right _ (List.mem_append_right _ (List.mem_append_left _ (List.mem_of_getElem? (i := 82) rfl)))) rfl
set_option maxRecDepth 100000 in
theorem wk347 : Cond.fieldLink RX3 94 "LineBlocks$Receiver" "blocksOfRow" "I" ∈ lw_good := gd_of (List.mem_append_right _ (List.mem_append_left _ (List.mem_of_getElem? (i := 96) rfl))) rfl
set_option maxRecDepth 100000 in
theorem wk348 : Cond.fieldLink RX3 43 "LineBlocks$Receiver" "wrongHeads" "I" ∈ lw_good := gd_of (List.mem_append_right _ (List.mem_append_left _ (List.mem_of_getElem? (i := 97) rfl))) rfl
set_option maxRecDepth 100000 in
theorem wk349 : Cond.methodLink RX3 91 yX3_slip ∈ lw_good := gd_of (List.mem_append_right _ (List.mem_append_right _ (List.mem_append_left _ (List.mem_of_getElem? (i := 83) rfl)))) rfl
set_option maxRecDepth 100000 in
theorem wk350 : Cond.instanceMethod yX3_slip ∈ lw_good := gd_of (List.mem_append_right _ (List.mem_append_right _ (List.mem_append_left _ (List.mem_of_getElem? (i := 85) rfl)))) rfl
set_option maxRecDepth 100000 in
theorem wk351 : Cond.selects RX3 yX3_slip yX3_slip ∈ lw_good := gd_of (List.mem_append_left _ (List.mem_of_getElem? (i := 7) rfl)) rfl
set_option maxRecDepth 100000 in
theorem wk352 : Cond.code yX3_slip cX3_slip 1 none ∈ lw_good := gd_of (List.mem_append_right _ (List.mem_append_right _ (List.mem_append_left _ (List.mem_of_getElem? (i := 86) rfl)))) rfl
set_option maxRecDepth 100000 in
theorem wk353 : Cond.fieldLink RX3 29 "LineBlocks$Receiver" "hits" "I" ∈ lw_good := gd_of (List.mem_append_right _ (List.mem_append_left _ (List.mem_of_getElem? (i := 94) rfl))) rfl
set_option maxRecDepth 100000 in
theorem wk354 : Cond.fieldLink RX3 33 "LineBlocks$Receiver" "slips" "I" ∈ lw_good := gd_of (List.mem_append_right _ (List.mem_append_left _ (List.mem_of_getElem? (i := 95) rfl))) rfl
set_option maxRecDepth 100000 in
theorem wk355 : Cond.methodLink RX3 97 yX3_beginRow ∈ lw_good := gd_of (List.mem_append_right _ (List.mem_append_right _ (List.mem_append_left _ (List.mem_of_getElem? (i := 87) rfl)))) rfl
set_option maxRecDepth 100000 in
theorem wk356 : Cond.instanceMethod yX3_beginRow ∈ lw_good := gd_of (List.mem_append_right _ (List.mem_append_right _ (List.mem_append_left _ (List.mem_of_getElem? (i := 89) rfl)))) rfl
set_option maxRecDepth 100000 in
theorem wk357 : Cond.selects RX3 yX3_beginRow yX3_beginRow ∈ lw_good := gd_of (List.mem_append_left _ (List.mem_of_getElem? (i := 8) rfl)) rfl
set_option maxRecDepth 100000 in
theorem wk358 : Cond.code yX3_beginRow cX3_beginRow 1 none ∈ lw_good := gd_of (List.mem_append_right _ (List.mem_append_right _ (List.mem_append_left _ (List.mem_of_getElem? (i := 90) rfl)))) rfl
set_option maxRecDepth 100000 in
theorem wk359 : Cond.methodLink RX3 88 yX3_countHit ∈ lw_good := gd_of (List.mem_append_right _ (List.mem_append_right _ (List.mem_append_left _ (List.mem_of_getElem? (i := 91) rfl)))) rfl
set_option maxRecDepth 100000 in
theorem wk360 : Cond.instanceMethod yX3_countHit ∈ lw_good := gd_of (List.mem_append_right _ (List.mem_append_right _ (List.mem_append_left _ (List.mem_of_getElem? (i := 93) rfl)))) rfl
set_option maxRecDepth 100000 in
theorem wk361 : Cond.selects RX3 yX3_countHit yX3_countHit ∈ lw_good := gd_of (List.mem_append_left _ (List.mem_of_getElem? (i := 9) rfl)) rfl
set_option maxRecDepth 100000 in
theorem wk362 : Cond.code yX3_countHit cX3_countHit 2 none ∈ lw_good := gd_of (List.mem_append_right _ (List.mem_append_right _ (List.mem_append_left _ (List.mem_of_getElem? (i := 94) rfl)))) rfl
set_option maxRecDepth 100000 in
theorem wk363 : Cond.methodLink RX3 71 yX3_beginBlock ∈ lw_good := gd_of (List.mem_append_right _ (List.mem_append_right _ (List.mem_append_left _ (List.mem_of_getElem? (i := 95) rfl)))) rfl
set_option maxRecDepth 100000 in
theorem wk364 : Cond.instanceMethod yX3_beginBlock ∈ lw_good := gd_of (List.mem_append_right _ (List.mem_append_right _ (List.mem_append_left _ (List.mem_of_getElem? (i := 97) rfl)))) rfl
set_option maxRecDepth 100000 in
theorem wk365 : Cond.selects RX3 yX3_beginBlock yX3_beginBlock ∈ lw_good := gd_of (List.mem_append_left _ (List.mem_of_getElem? (i := 10) rfl)) rfl
set_option maxRecDepth 100000 in
theorem wk366 : Cond.code yX3_beginBlock cX3_beginBlock 1 none ∈ lw_good := gd_of (List.mem_append_right _ (List.mem_append_right _ (List.mem_append_left _ (List.mem_of_getElem? (i := 98) rfl)))) rfl
set_option maxRecDepth 100000 in
theorem wk367 : Cond.methodLink RX6 81 yX2_dropFirst ∈ lw_good := gd_of (List.mem_append_right _ (List.mem_append_right _ (List.mem_append_left _ (List.mem_of_getElem? (i := 99) rfl)))) rfl
set_option maxRecDepth 100000 in
theorem wk368 : Cond.instanceMethod yX2_dropFirst ∈ lw_good := gd_of (List.mem_append_right _ (List.mem_append_right _ (List.mem_append_left _ (List.mem_of_getElem? (i := 100) rfl)))) rfl
set_option maxRecDepth 100000 in
theorem wk369 : Cond.selects RX2 yX2_dropFirst yX2_dropFirst ∈ lw_good := gd_of (List.mem_append_right _ (List.mem_append_right _ (List.mem_append_left _ (List.mem_of_getElem? (i := 101) rfl)))) rfl
set_option maxRecDepth 100000 in
theorem wk370 : Cond.code yX2_dropFirst cX2_dropFirst 2 none ∈ lw_good := gd_of (List.mem_append_right _ (List.mem_append_right _ (List.mem_append_left _ (List.mem_of_getElem? (i := 102) rfl)))) rfl
set_option maxRecDepth 100000 in
theorem wk375 : Cond.fieldLink RX7 91 "LineBlocksModel" "toldCount" "I" ∈ lw_good := gd_of (List.mem_append_right _ (List.mem_append_right _ (List.mem_append_left _ (List.mem_of_getElem? (i := 179) rfl)))) rfl
set_option maxRecDepth 100000 in
theorem wk376 : Cond.fieldLink RX7 97 "LineBlocksModel" "slips" "Z" ∈ lw_good := gd_of (List.mem_append_right _ (List.mem_append_right _ (List.mem_append_left _ (List.mem_of_getElem? (i := 173) rfl)))) rfl
set_option maxRecDepth 100000 in
theorem wk377 : Cond.fieldLink RX7 104 "LineBlocksModel" "taken" "I" ∈ lw_good := gd_of (List.mem_append_right _ (List.mem_append_right _ (List.mem_append_left _ (List.mem_of_getElem? (i := 172) rfl)))) rfl
set_option maxRecDepth 100000 in
theorem wk378 : Cond.methodLink RX7 125 yX7_whole ∈ lw_good := gd_of (List.mem_append_right _ (List.mem_append_right _ (List.mem_append_right _ (List.mem_of_getElem? (i := 53) rfl)))) rfl
set_option maxRecDepth 100000 in
theorem wk379 : Cond.instanceMethod yX7_whole ∈ lw_good := gd_of (List.mem_append_right _ (List.mem_append_right _ (List.mem_append_right _ (List.mem_of_getElem? (i := 55) rfl)))) rfl
set_option maxRecDepth 100000 in
theorem wk380 : Cond.selects RX7 yX7_whole yX7_whole ∈ lw_good := gd_of (List.mem_append_left _ (List.mem_of_getElem? (i := 19) rfl)) rfl
set_option maxRecDepth 100000 in
theorem wk381 : Cond.code yX7_whole cX7_whole 3 none ∈ lw_good := gd_of (List.mem_append_right _ (List.mem_append_right _ (List.mem_append_right _ (List.mem_of_getElem? (i := 56) rfl)))) rfl
set_option maxRecDepth 100000 in
theorem wk382 : Cond.fieldLink RX7 107 "LineBlocksModel" "locked" "Z" ∈ lw_good := gd_of (List.mem_append_right _ (List.mem_append_right _ (List.mem_append_left _ (List.mem_of_getElem? (i := 174) rfl)))) rfl
set_option maxRecDepth 100000 in
theorem wk383 : Cond.fieldLink RX7 110 "LineBlocksModel" "hits" "I" ∈ lw_good := gd_of (List.mem_append_right _ (List.mem_append_right _ (List.mem_append_left _ (List.mem_of_getElem? (i := 175) rfl)))) rfl
set_option maxRecDepth 100000 in
theorem wk384 : Cond.fieldLink RX7 116 "LineBlocksModel" "row" "I" ∈ lw_good := gd_of (List.mem_append_right _ (List.mem_append_right _ (List.mem_append_left _ (List.mem_of_getElem? (i := 177) rfl)))) rfl
set_option maxRecDepth 100000 in
theorem wk385 : Cond.fieldLink RX7 119 "LineBlocksModel" "wrong" "I" ∈ lw_good := gd_of (List.mem_append_right _ (List.mem_append_right _ (List.mem_append_left _ (List.mem_of_getElem? (i := 178) rfl)))) rfl
set_option maxRecDepth 100000 in
theorem wk386 : Cond.methodLink RX7 113 yX7_slip ∈ lw_good := gd_of (List.mem_append_right _ (List.mem_append_right _ (List.mem_append_right _ (List.mem_of_getElem? (i := 57) rfl)))) rfl
set_option maxRecDepth 100000 in
theorem wk387 : Cond.instanceMethod yX7_slip ∈ lw_good := gd_of (List.mem_append_right _ (List.mem_append_right _ (List.mem_append_right _ (List.mem_of_getElem? (i := 59) rfl)))) rfl
set_option maxRecDepth 100000 in
theorem wk388 : Cond.selects RX7 yX7_slip yX7_slip ∈ lw_good := gd_of (List.mem_append_left _ (List.mem_of_getElem? (i := 20) rfl)) rfl
set_option maxRecDepth 100000 in
theorem wk389 : Cond.code yX7_slip cX7_slip 1 none ∈ lw_good := gd_of (List.mem_append_right _ (List.mem_append_right _ (List.mem_append_right _ (List.mem_of_getElem? (i := 60) rfl)))) rfl
set_option maxRecDepth 100000 in
theorem wk390 : Cond.fieldLink RX7 101 "LineBlocksModel" "slipped" "I" ∈ lw_good := gd_of (List.mem_append_right _ (List.mem_append_right _ (List.mem_append_left _ (List.mem_of_getElem? (i := 176) rfl)))) rfl
set_option maxRecDepth 100000 in
theorem wk391 : Cond.methodLink RX7 122 yX7_tell ∈ lw_good := gd_of (List.mem_append_right _ (List.mem_append_right _ (List.mem_append_right _ (List.mem_of_getElem? (i := 61) rfl)))) rfl
set_option maxRecDepth 100000 in
theorem wk392 : Cond.instanceMethod yX7_tell ∈ lw_good := gd_of (List.mem_append_right _ (List.mem_append_right _ (List.mem_append_right _ (List.mem_of_getElem? (i := 63) rfl)))) rfl
set_option maxRecDepth 100000 in
theorem wk393 : Cond.selects RX7 yX7_tell yX7_tell ∈ lw_good := gd_of (List.mem_append_left _ (List.mem_of_getElem? (i := 21) rfl)) rfl
set_option maxRecDepth 100000 in
theorem wk394 : Cond.code yX7_tell cX7_tell 2 none ∈ lw_good := gd_of (List.mem_append_right _ (List.mem_append_right _ (List.mem_append_right _ (List.mem_of_getElem? (i := 64) rfl)))) rfl
set_option maxRecDepth 100000 in
theorem wk395 : Cond.methodLink RX7 94 yX7_character ∈ lw_good := gd_of (List.mem_append_right _ (List.mem_append_right _ (List.mem_append_right _ (List.mem_of_getElem? (i := 65) rfl)))) rfl
set_option maxRecDepth 100000 in
theorem wk396 : Cond.instanceMethod yX7_character ∈ lw_good := gd_of (List.mem_append_right _ (List.mem_append_right _ (List.mem_append_right _ (List.mem_of_getElem? (i := 67) rfl)))) rfl
set_option maxRecDepth 100000 in
theorem wk397 : Cond.selects RX7 yX7_character yX7_character ∈ lw_good := gd_of (List.mem_append_left _ (List.mem_of_getElem? (i := 22) rfl)) rfl
set_option maxRecDepth 100000 in
theorem wk398 : Cond.code yX7_character cX7_character 4 (some .int) ∈ lw_good := gd_of (List.mem_append_right _ (List.mem_append_right _ (List.mem_append_right _ (List.mem_of_getElem? (i := 68) rfl)))) rfl
set_option maxRecDepth 100000 in
theorem wk399 : Cond.methodLink RX7 82 yX7_get ∈ lw_good := gd_of (List.mem_append_right _ (List.mem_append_right _ (List.mem_append_right _ (List.mem_of_getElem? (i := 69) rfl)))) rfl
set_option maxRecDepth 100000 in
theorem wk400 : Cond.instanceMethod yX7_get ∈ lw_good := gd_of (List.mem_append_right _ (List.mem_append_right _ (List.mem_append_right _ (List.mem_of_getElem? (i := 71) rfl)))) rfl
set_option maxRecDepth 100000 in
theorem wk401 : Cond.selects RX7 yX7_get yX7_get ∈ lw_good := gd_of (List.mem_append_left _ (List.mem_of_getElem? (i := 23) rfl)) rfl
set_option maxRecDepth 100000 in
theorem wk402 : Cond.code yX7_get cX7_get 5 (some .int) ∈ lw_good := gd_of (List.mem_append_right _ (List.mem_append_right _ (List.mem_append_right _ (List.mem_of_getElem? (i := 72) rfl)))) rfl
set_option maxRecDepth 100000 in
theorem wk403 : Cond.methodLink RX7 85 yX7_codeAt ∈ lw_good := gd_of (List.mem_append_right _ (List.mem_append_right _ (List.mem_append_right _ (List.mem_of_getElem? (i := 73) rfl)))) rfl
set_option maxRecDepth 100000 in
theorem wk404 : Cond.instanceMethod yX7_codeAt ∈ lw_good := gd_of (List.mem_append_right _ (List.mem_append_right _ (List.mem_append_right _ (List.mem_of_getElem? (i := 75) rfl)))) rfl
set_option maxRecDepth 100000 in
theorem wk405 : Cond.selects RX7 yX7_codeAt yX7_codeAt ∈ lw_good := gd_of (List.mem_append_left _ (List.mem_of_getElem? (i := 24) rfl)) rfl
set_option maxRecDepth 100000 in
theorem wk406 : Cond.code yX7_codeAt cX7_codeAt 2 (some .int) ∈ lw_good := gd_of (List.mem_append_right _ (List.mem_append_right _ (List.mem_append_right _ (List.mem_of_getElem? (i := 76) rfl)))) rfl
set_option maxRecDepth 100000 in
theorem wk407 : Cond.methodLink RX7 88 yX7_endOf ∈ lw_good := gd_of (List.mem_append_right _ (List.mem_append_right _ (List.mem_append_right _ (List.mem_of_getElem? (i := 77) rfl)))) rfl
set_option maxRecDepth 100000 in
theorem wk408 : Cond.instanceMethod yX7_endOf ∈ lw_good := gd_of (List.mem_append_right _ (List.mem_append_right _ (List.mem_append_right _ (List.mem_of_getElem? (i := 79) rfl)))) rfl
set_option maxRecDepth 100000 in
theorem wk409 : Cond.selects RX7 yX7_endOf yX7_endOf ∈ lw_good := gd_of (List.mem_append_left _ (List.mem_of_getElem? (i := 25) rfl)) rfl
set_option maxRecDepth 100000 in
theorem wk410 : Cond.code yX7_endOf cX7_endOf 4 (some .int) ∈ lw_good := gd_of (List.mem_append_right _ (List.mem_append_right _ (List.mem_append_right _ (List.mem_of_getElem? (i := 80) rfl)))) rfl
set_option maxRecDepth 100000 in
theorem wk415 : Cond.methodLink RX6 84 yX3_character ∈ lw_good := gd_of (List.mem_append_right _ (List.mem_append_right _ (List.mem_append_left _ (List.mem_of_getElem? (i := 107) rfl)))) rfl
set_option maxRecDepth 100000 in
theorem wk416 : Cond.instanceMethod yX3_character ∈ lw_good := gd_of (List.mem_append_right _ (List.mem_append_right _ (List.mem_append_left _ (List.mem_of_getElem? (i := 108) rfl)))) rfl
set_option maxRecDepth 100000 in
theorem wk417 : Cond.selects RX3 yX3_character yX3_character ∈ lw_good := gd_of (List.mem_append_right _ (List.mem_append_right _ (List.mem_append_left _ (List.mem_of_getElem? (i := 109) rfl)))) rfl
set_option maxRecDepth 100000 in
theorem wk418 : Cond.code yX3_character cX3_character 3 (some .int) ∈ lw_good := gd_of (List.mem_append_right _ (List.mem_append_right _ (List.mem_append_left _ (List.mem_of_getElem? (i := 110) rfl)))) rfl
set_option maxRecDepth 100000 in
theorem wk419 : Cond.methodLink RX3 46 yX1_character ∈ lw_good := gd_of (List.mem_append_right _ (List.mem_append_right _ (List.mem_append_left _ (List.mem_of_getElem? (i := 111) rfl)))) rfl
set_option maxRecDepth 100000 in
theorem wk420 : Cond.instanceMethod yX1_character ∈ lw_good := gd_of (List.mem_append_right _ (List.mem_append_right _ (List.mem_append_left _ (List.mem_of_getElem? (i := 112) rfl)))) rfl
set_option maxRecDepth 100000 in
theorem wk421 : Cond.selects RX1 yX1_character yX1_character ∈ lw_good := gd_of (List.mem_append_right _ (List.mem_append_right _ (List.mem_append_left _ (List.mem_of_getElem? (i := 113) rfl)))) rfl
set_option maxRecDepth 100000 in
theorem wk422 : Cond.code yX1_character cX1_character 4 (some .int) ∈ lw_good := gd_of (List.mem_append_right _ (List.mem_append_right _ (List.mem_append_left _ (List.mem_of_getElem? (i := 114) rfl)))) rfl
set_option maxRecDepth 100000 in
theorem wk423 : Cond.methodLink RX1 27 yX1_isKept ∈ lw_good := gd_of (List.mem_append_right _ (List.mem_append_right _ (List.mem_append_left _ (List.mem_of_getElem? (i := 115) rfl)))) rfl
set_option maxRecDepth 100000 in
theorem wk424 : Cond.instanceMethod yX1_isKept ∈ lw_good := gd_of (List.mem_append_right _ (List.mem_append_right _ (List.mem_append_left _ (List.mem_of_getElem? (i := 117) rfl)))) rfl
set_option maxRecDepth 100000 in
theorem wk425 : Cond.selects RX1 yX1_isKept yX1_isKept ∈ lw_good := gd_of (List.mem_append_left _ (List.mem_of_getElem? (i := 11) rfl)) rfl
set_option maxRecDepth 100000 in
theorem wk426 : Cond.code yX1_isKept cX1_isKept 2 (some .boolean) ∈ lw_good := gd_of (List.mem_append_right _ (List.mem_append_right _ (List.mem_append_left _ (List.mem_of_getElem? (i := 118) rfl)))) rfl
set_option maxRecDepth 100000 in
theorem wk427 : Cond.methodLink RX1 31 yX0_characterOf ∈ lw_good := gd_of (List.mem_append_right _ (List.mem_append_right _ (List.mem_append_left _ (List.mem_of_getElem? (i := 119) rfl)))) rfl
set_option maxRecDepth 100000 in
theorem wk428 : Cond.static yX0_characterOf ∈ lw_good := gd_of (List.mem_append_right _ (List.mem_append_right _ (List.mem_append_left _ (List.mem_of_getElem? (i := 120) rfl)))) rfl
set_option maxRecDepth 100000 in
theorem wk429 : Cond.code yX0_characterOf cX0_characterOf 5 (some .int) ∈ lw_good := gd_of (List.mem_append_right _ (List.mem_append_right _ (List.mem_append_left _ (List.mem_of_getElem? (i := 121) rfl)))) rfl
set_option maxRecDepth 100000 in
theorem wk430 : Cond.methodLink RX0 35 yX0_characterByEnd ∈ lw_good := gd_of (List.mem_append_right _ (List.mem_append_right _ (List.mem_append_left _ (List.mem_of_getElem? (i := 122) rfl)))) rfl
set_option maxRecDepth 100000 in
theorem wk431 : Cond.static yX0_characterByEnd ∈ lw_good := gd_of (List.mem_append_right _ (List.mem_append_right _ (List.mem_append_left _ (List.mem_of_getElem? (i := 123) rfl)))) rfl
set_option maxRecDepth 100000 in
theorem wk432 : Cond.code yX0_characterByEnd cX0_characterByEnd 5 (some .int) ∈ lw_good := gd_of (List.mem_append_right _ (List.mem_append_right _ (List.mem_append_left _ (List.mem_of_getElem? (i := 124) rfl)))) rfl
set_option maxRecDepth 100000 in
theorem wk433 : Cond.methodLink RX0 39 yX0_dataAt ∈ lw_good := gd_of (List.mem_append_right _ (List.mem_append_right _ (List.mem_append_left _ (List.mem_of_getElem? (i := 125) rfl)))) rfl
set_option maxRecDepth 100000 in
theorem wk434 : Cond.static yX0_dataAt ∈ lw_good := gd_of (List.mem_append_right _ (List.mem_append_right _ (List.mem_append_left _ (List.mem_of_getElem? (i := 126) rfl)))) rfl
set_option maxRecDepth 100000 in
theorem wk435 : Cond.code yX0_dataAt cX0_dataAt 4 (some .int) ∈ lw_good := gd_of (List.mem_append_right _ (List.mem_append_right _ (List.mem_append_left _ (List.mem_of_getElem? (i := 127) rfl)))) rfl
set_option maxRecDepth 100000 in
theorem wk436 : Cond.methodLink RX0 43 yX0_codedAt ∈ lw_good := gd_of (List.mem_append_right _ (List.mem_append_right _ (List.mem_append_left _ (List.mem_of_getElem? (i := 128) rfl)))) rfl
set_option maxRecDepth 100000 in
theorem wk437 : Cond.static yX0_codedAt ∈ lw_good := gd_of (List.mem_append_right _ (List.mem_append_right _ (List.mem_append_left _ (List.mem_of_getElem? (i := 129) rfl)))) rfl
set_option maxRecDepth 100000 in
theorem wk438 : Cond.code yX0_codedAt cX0_codedAt 4 (some .int) ∈ lw_good := gd_of (List.mem_append_right _ (List.mem_append_right _ (List.mem_append_left _ (List.mem_of_getElem? (i := 130) rfl)))) rfl
set_option maxRecDepth 100000 in
theorem wk439 : Cond.methodLink RX0 47 yX0_characterByMiddleStart ∈ lw_good := gd_of (List.mem_append_right _ (List.mem_append_right _ (List.mem_append_left _ (List.mem_of_getElem? (i := 131) rfl)))) rfl
set_option maxRecDepth 100000 in
theorem wk440 : Cond.static yX0_characterByMiddleStart ∈ lw_good := gd_of (List.mem_append_right _ (List.mem_append_right _ (List.mem_append_left _ (List.mem_of_getElem? (i := 132) rfl)))) rfl
set_option maxRecDepth 100000 in
theorem wk441 : Cond.code yX0_characterByMiddleStart cX0_characterByMiddleStart 3 (some .int) ∈ lw_good := gd_of (List.mem_append_right _ (List.mem_append_right _ (List.mem_append_left _ (List.mem_of_getElem? (i := 133) rfl)))) rfl
set_option maxRecDepth 100000 in
theorem wk450 : Cond.methodLink RX6 87 yX3_isLocked ∈ lw_good := gd_of (List.mem_append_right _ (List.mem_append_right _ (List.mem_append_left _ (List.mem_of_getElem? (i := 138) rfl)))) rfl
set_option maxRecDepth 100000 in
theorem wk451 : Cond.instanceMethod yX3_isLocked ∈ lw_good := gd_of (List.mem_append_right _ (List.mem_append_right _ (List.mem_append_left _ (List.mem_of_getElem? (i := 139) rfl)))) rfl
set_option maxRecDepth 100000 in
theorem wk452 : Cond.selects RX3 yX3_isLocked yX3_isLocked ∈ lw_good := gd_of (List.mem_append_right _ (List.mem_append_right _ (List.mem_append_left _ (List.mem_of_getElem? (i := 140) rfl)))) rfl
set_option maxRecDepth 100000 in
theorem wk453 : Cond.code yX3_isLocked cX3_isLocked 1 (some .boolean) ∈ lw_good := gd_of (List.mem_append_right _ (List.mem_append_right _ (List.mem_append_left _ (List.mem_of_getElem? (i := 141) rfl)))) rfl
set_option maxRecDepth 100000 in
theorem wk454 : Cond.methodLink RX6 91 yX3_hitCount ∈ lw_good := gd_of (List.mem_append_right _ (List.mem_append_right _ (List.mem_append_left _ (List.mem_of_getElem? (i := 142) rfl)))) rfl
set_option maxRecDepth 100000 in
theorem wk455 : Cond.instanceMethod yX3_hitCount ∈ lw_good := gd_of (List.mem_append_right _ (List.mem_append_right _ (List.mem_append_left _ (List.mem_of_getElem? (i := 143) rfl)))) rfl
set_option maxRecDepth 100000 in
theorem wk456 : Cond.selects RX3 yX3_hitCount yX3_hitCount ∈ lw_good := gd_of (List.mem_append_right _ (List.mem_append_right _ (List.mem_append_left _ (List.mem_of_getElem? (i := 144) rfl)))) rfl
set_option maxRecDepth 100000 in
theorem wk457 : Cond.code yX3_hitCount cX3_hitCount 1 (some .int) ∈ lw_good := gd_of (List.mem_append_right _ (List.mem_append_right _ (List.mem_append_left _ (List.mem_of_getElem? (i := 145) rfl)))) rfl
set_option maxRecDepth 100000 in
theorem wk458 : Cond.methodLink RX6 94 yX3_slipCount ∈ lw_good := gd_of (List.mem_append_right _ (List.mem_append_right _ (List.mem_append_left _ (List.mem_of_getElem? (i := 146) rfl)))) rfl
set_option maxRecDepth 100000 in
theorem wk459 : Cond.instanceMethod yX3_slipCount ∈ lw_good := gd_of (List.mem_append_right _ (List.mem_append_right _ (List.mem_append_left _ (List.mem_of_getElem? (i := 147) rfl)))) rfl
set_option maxRecDepth 100000 in
theorem wk460 : Cond.selects RX3 yX3_slipCount yX3_slipCount ∈ lw_good := gd_of (List.mem_append_right _ (List.mem_append_right _ (List.mem_append_left _ (List.mem_of_getElem? (i := 148) rfl)))) rfl
set_option maxRecDepth 100000 in
theorem wk461 : Cond.code yX3_slipCount cX3_slipCount 1 (some .int) ∈ lw_good := gd_of (List.mem_append_right _ (List.mem_append_right _ (List.mem_append_left _ (List.mem_of_getElem? (i := 149) rfl)))) rfl
set_option maxRecDepth 100000 in
theorem wk462 : Cond.methodLink RX6 97 yX3_bitsOfBlock ∈ lw_good := gd_of (List.mem_append_right _ (List.mem_append_right _ (List.mem_append_left _ (List.mem_of_getElem? (i := 150) rfl)))) rfl
set_option maxRecDepth 100000 in
theorem wk463 : Cond.instanceMethod yX3_bitsOfBlock ∈ lw_good := gd_of (List.mem_append_right _ (List.mem_append_right _ (List.mem_append_left _ (List.mem_of_getElem? (i := 151) rfl)))) rfl
set_option maxRecDepth 100000 in
theorem wk464 : Cond.selects RX3 yX3_bitsOfBlock yX3_bitsOfBlock ∈ lw_good := gd_of (List.mem_append_right _ (List.mem_append_right _ (List.mem_append_left _ (List.mem_of_getElem? (i := 152) rfl)))) rfl
set_option maxRecDepth 100000 in
theorem wk465 : Cond.code yX3_bitsOfBlock cX3_bitsOfBlock 1 (some .int) ∈ lw_good := gd_of (List.mem_append_right _ (List.mem_append_right _ (List.mem_append_left _ (List.mem_of_getElem? (i := 153) rfl)))) rfl
set_option maxRecDepth 100000 in
theorem wk466 : Cond.methodLink RX6 100 yX3_wrongHeadCount ∈ lw_good := gd_of (List.mem_append_right _ (List.mem_append_right _ (List.mem_append_left _ (List.mem_of_getElem? (i := 154) rfl)))) rfl
set_option maxRecDepth 100000 in
theorem wk467 : Cond.instanceMethod yX3_wrongHeadCount ∈ lw_good := gd_of (List.mem_append_right _ (List.mem_append_right _ (List.mem_append_left _ (List.mem_of_getElem? (i := 155) rfl)))) rfl
set_option maxRecDepth 100000 in
theorem wk468 : Cond.selects RX3 yX3_wrongHeadCount yX3_wrongHeadCount ∈ lw_good := gd_of (List.mem_append_right _ (List.mem_append_right _ (List.mem_append_left _ (List.mem_of_getElem? (i := 156) rfl)))) rfl
set_option maxRecDepth 100000 in
theorem wk469 : Cond.code yX3_wrongHeadCount cX3_wrongHeadCount 1 (some .int) ∈ lw_good := gd_of (List.mem_append_right _ (List.mem_append_right _ (List.mem_append_left _ (List.mem_of_getElem? (i := 157) rfl)))) rfl
set_option maxRecDepth 100000 in
theorem lay_X1_0 : u_lay RX1 TX1 0 ∈ lw_good := gd_of (w := .laysFinal "LineBlocks$Groups" "LineBlocks$Groups" "types" "[I") (List.mem_append_right _ (List.mem_append_left _ (List.mem_of_getElem? (i := 80) rfl))) rfl
set_option maxRecDepth 100000 in
theorem lay_X1_1 : u_lay RX1 TX1 1 ∈ lw_good := gd_of (w := .laysFinal "LineBlocks$Groups" "LineBlocks$Groups" "payloads" "[J") (List.mem_append_right _ (List.mem_append_left _ (List.mem_of_getElem? (i := 82) rfl))) rfl
set_option maxRecDepth 100000 in
theorem lay_X1_2 : u_lay RX1 TX1 2 ∈ lw_good := gd_of (w := .lays "LineBlocks$Groups" "LineBlocks$Groups" "count" "I") (List.mem_append_right _ (List.mem_append_left _ (List.mem_of_getElem? (i := 84) rfl))) rfl
theorem in_X1 : ∀ w ∈ u_ws RX1 TX1 3, w ∈ lw_good := show ∀ w ∈ [u_lay RX1 TX1 0, u_lay RX1 TX1 1, u_lay RX1 TX1 2], w ∈ lw_good from List.forall_mem_cons.mpr ⟨lay_X1_0, List.forall_mem_cons.mpr ⟨lay_X1_1, List.forall_mem_cons.mpr ⟨lay_X1_2, fun _ h => absurd h List.not_mem_nil⟩⟩⟩
set_option maxRecDepth 100000 in
theorem lay_X2_0 : u_lay RX2 TX2 0 ∈ lw_good := gd_of (w := .laysFinal "LineBlocks$Line" "LineBlocks$Line" "words" "[J") (List.mem_append_right _ (List.mem_append_left _ (List.mem_of_getElem? (i := 28) rfl))) rfl
set_option maxRecDepth 100000 in
theorem lay_X2_1 : u_lay RX2 TX2 1 ∈ lw_good := gd_of (w := .lays "LineBlocks$Line" "LineBlocks$Line" "first" "I") (List.mem_append_right _ (List.mem_append_left _ (List.mem_of_getElem? (i := 30) rfl))) rfl
set_option maxRecDepth 100000 in
theorem lay_X2_2 : u_lay RX2 TX2 2 ∈ lw_good := gd_of (w := .lays "LineBlocks$Line" "LineBlocks$Line" "count" "I") (List.mem_append_right _ (List.mem_append_left _ (List.mem_of_getElem? (i := 32) rfl))) rfl
theorem in_X2 : ∀ w ∈ u_ws RX2 TX2 3, w ∈ lw_good := show ∀ w ∈ [u_lay RX2 TX2 0, u_lay RX2 TX2 1, u_lay RX2 TX2 2], w ∈ lw_good from List.forall_mem_cons.mpr ⟨lay_X2_0, List.forall_mem_cons.mpr ⟨lay_X2_1, List.forall_mem_cons.mpr ⟨lay_X2_2, fun _ h => absurd h List.not_mem_nil⟩⟩⟩
set_option maxRecDepth 100000 in
theorem lay_X3_0 : u_lay RX3 TX3 0 ∈ lw_good := gd_of (w := .laysFinal "LineBlocks$Receiver" "LineBlocks$Receiver" "scrambler" "LLineBlocks$Scrambler;") (List.mem_append_right _ (List.mem_append_left _ (List.mem_of_getElem? (i := 98) rfl))) rfl
set_option maxRecDepth 100000 in
theorem lay_X3_1 : u_lay RX3 TX3 1 ∈ lw_good := gd_of (w := .laysFinal "LineBlocks$Receiver" "LineBlocks$Receiver" "groups" "LLineBlocks$Groups;") (List.mem_append_right _ (List.mem_append_left _ (List.mem_of_getElem? (i := 100) rfl))) rfl
set_option maxRecDepth 100000 in
theorem lay_X3_2 : u_lay RX3 TX3 2 ∈ lw_good := gd_of (w := .lays "LineBlocks$Receiver" "LineBlocks$Receiver" "head" "I") (List.mem_append_right _ (List.mem_append_left _ (List.mem_of_getElem? (i := 102) rfl))) rfl
set_option maxRecDepth 100000 in
theorem lay_X3_3 : u_lay RX3 TX3 3 ∈ lw_good := gd_of (w := .lays "LineBlocks$Receiver" "LineBlocks$Receiver" "payload" "J") (List.mem_append_right _ (List.mem_append_left _ (List.mem_of_getElem? (i := 104) rfl))) rfl
set_option maxRecDepth 100000 in
theorem lay_X3_4 : u_lay RX3 TX3 4 ∈ lw_good := gd_of (w := .lays "LineBlocks$Receiver" "LineBlocks$Receiver" "have" "I") (List.mem_append_right _ (List.mem_append_left _ (List.mem_of_getElem? (i := 106) rfl))) rfl
set_option maxRecDepth 100000 in
theorem lay_X3_5 : u_lay RX3 TX3 5 ∈ lw_good := gd_of (w := .lays "LineBlocks$Receiver" "LineBlocks$Receiver" "locked" "Z") (List.mem_append_right _ (List.mem_append_left _ (List.mem_of_getElem? (i := 108) rfl))) rfl
set_option maxRecDepth 100000 in
theorem lay_X3_6 : u_lay RX3 TX3 6 ∈ lw_good := gd_of (w := .lays "LineBlocks$Receiver" "LineBlocks$Receiver" "dropsNext" "Z") (List.mem_append_right _ (List.mem_append_left _ (List.mem_of_getElem? (i := 110) rfl))) rfl
set_option maxRecDepth 100000 in
theorem lay_X3_7 : u_lay RX3 TX3 7 ∈ lw_good := gd_of (w := .lays "LineBlocks$Receiver" "LineBlocks$Receiver" "hits" "I") (List.mem_append_right _ (List.mem_append_left _ (List.mem_of_getElem? (i := 112) rfl))) rfl
set_option maxRecDepth 100000 in
theorem lay_X3_8 : u_lay RX3 TX3 8 ∈ lw_good := gd_of (w := .lays "LineBlocks$Receiver" "LineBlocks$Receiver" "slips" "I") (List.mem_append_right _ (List.mem_append_left _ (List.mem_of_getElem? (i := 114) rfl))) rfl
set_option maxRecDepth 100000 in
theorem lay_X3_9 : u_lay RX3 TX3 9 ∈ lw_good := gd_of (w := .lays "LineBlocks$Receiver" "LineBlocks$Receiver" "blocksOfRow" "I") (List.mem_append_right _ (List.mem_append_left _ (List.mem_of_getElem? (i := 116) rfl))) rfl
set_option maxRecDepth 100000 in
theorem lay_X3_10 : u_lay RX3 TX3 10 ∈ lw_good := gd_of (w := .lays "LineBlocks$Receiver" "LineBlocks$Receiver" "wrongHeads" "I") (List.mem_append_right _ (List.mem_append_left _ (List.mem_of_getElem? (i := 118) rfl))) rfl
theorem in_X3 : ∀ w ∈ u_ws RX3 TX3 11, w ∈ lw_good := show ∀ w ∈ [u_lay RX3 TX3 0, u_lay RX3 TX3 1, u_lay RX3 TX3 2, u_lay RX3 TX3 3, u_lay RX3 TX3 4, u_lay RX3 TX3 5, u_lay RX3 TX3 6, u_lay RX3 TX3 7, u_lay RX3 TX3 8, u_lay RX3 TX3 9, u_lay RX3 TX3 10], w ∈ lw_good from List.forall_mem_cons.mpr ⟨lay_X3_0, List.forall_mem_cons.mpr ⟨lay_X3_1, List.forall_mem_cons.mpr ⟨lay_X3_2, List.forall_mem_cons.mpr ⟨lay_X3_3, List.forall_mem_cons.mpr ⟨lay_X3_4, List.forall_mem_cons.mpr ⟨lay_X3_5, List.forall_mem_cons.mpr ⟨lay_X3_6, List.forall_mem_cons.mpr ⟨lay_X3_7, List.forall_mem_cons.mpr ⟨lay_X3_8, List.forall_mem_cons.mpr ⟨lay_X3_9, List.forall_mem_cons.mpr ⟨lay_X3_10, fun _ h => absurd h List.not_mem_nil⟩⟩⟩⟩⟩⟩⟩⟩⟩⟩⟩
set_option maxRecDepth 100000 in
theorem lay_X4_0 : u_lay RX4 TX4 0 ∈ lw_good := gd_of (w := .lays "LineBlocks$Scrambler" "LineBlocks$Scrambler" "latest" "J") (List.mem_append_right _ (List.mem_append_left _ (List.mem_of_getElem? (i := 49) rfl))) rfl
theorem in_X4 : ∀ w ∈ u_ws RX4 TX4 1, w ∈ lw_good := show ∀ w ∈ [u_lay RX4 TX4 0], w ∈ lw_good from List.forall_mem_cons.mpr ⟨lay_X4_0, fun _ h => absurd h List.not_mem_nil⟩
set_option maxRecDepth 100000 in
theorem lay_X5_0 : u_lay RX5 TX5 0 ∈ lw_good := gd_of (w := .laysFinal "LineBlocks$Sender" "LineBlocks$Sender" "scrambler" "LLineBlocks$Scrambler;") (List.mem_append_right _ (List.mem_append_left _ (List.mem_of_getElem? (i := 55) rfl))) rfl
set_option maxRecDepth 100000 in
theorem lay_X5_1 : u_lay RX5 TX5 1 ∈ lw_good := gd_of (w := .laysFinal "LineBlocks$Sender" "LineBlocks$Sender" "group" "[I") (List.mem_append_right _ (List.mem_append_left _ (List.mem_of_getElem? (i := 57) rfl))) rfl
set_option maxRecDepth 100000 in
theorem lay_X5_2 : u_lay RX5 TX5 2 ∈ lw_good := gd_of (w := .lays "LineBlocks$Sender" "LineBlocks$Sender" "waiting" "I") (List.mem_append_right _ (List.mem_append_left _ (List.mem_of_getElem? (i := 59) rfl))) rfl
theorem in_X5 : ∀ w ∈ u_ws RX5 TX5 3, w ∈ lw_good := show ∀ w ∈ [u_lay RX5 TX5 0, u_lay RX5 TX5 1, u_lay RX5 TX5 2], w ∈ lw_good from List.forall_mem_cons.mpr ⟨lay_X5_0, List.forall_mem_cons.mpr ⟨lay_X5_1, List.forall_mem_cons.mpr ⟨lay_X5_2, fun _ h => absurd h List.not_mem_nil⟩⟩⟩
set_option maxRecDepth 100000 in
theorem lay_X6_0 : u_lay RX6 TX6 0 ∈ lw_good := gd_of (w := .laysFinal "LineBlocks" "LineBlocks" "line" "LLineBlocks$Line;") (List.mem_append_right _ (List.mem_append_left _ (List.mem_of_getElem? (i := 124) rfl))) rfl
set_option maxRecDepth 100000 in
theorem lay_X6_1 : u_lay RX6 TX6 1 ∈ lw_good := gd_of (w := .laysFinal "LineBlocks" "LineBlocks" "sender" "LLineBlocks$Sender;") (List.mem_append_right _ (List.mem_append_left _ (List.mem_of_getElem? (i := 126) rfl))) rfl
set_option maxRecDepth 100000 in
theorem lay_X6_2 : u_lay RX6 TX6 2 ∈ lw_good := gd_of (w := .laysFinal "LineBlocks" "LineBlocks" "taker" "LLineBlocks$Receiver;") (List.mem_append_right _ (List.mem_append_left _ (List.mem_of_getElem? (i := 128) rfl))) rfl
theorem in_X6 : ∀ w ∈ u_ws RX6 TX6 3, w ∈ lw_good := show ∀ w ∈ [u_lay RX6 TX6 0, u_lay RX6 TX6 1, u_lay RX6 TX6 2], w ∈ lw_good from List.forall_mem_cons.mpr ⟨lay_X6_0, List.forall_mem_cons.mpr ⟨lay_X6_1, List.forall_mem_cons.mpr ⟨lay_X6_2, fun _ h => absurd h List.not_mem_nil⟩⟩⟩
set_option maxRecDepth 100000 in
theorem lay_X7_0 : u_lay RX7 TX7 0 ∈ lw_good := gd_of (w := .lays "LineBlocksModel" "LineBlocksModel" "thrown" "I") (List.mem_append_right _ (List.mem_append_right _ (List.mem_append_left _ (List.mem_of_getElem? (i := 181) rfl)))) rfl
set_option maxRecDepth 100000 in
theorem lay_X7_1 : u_lay RX7 TX7 1 ∈ lw_good := gd_of (w := .lays "LineBlocksModel" "LineBlocksModel" "waiting" "I") (List.mem_append_right _ (List.mem_append_right _ (List.mem_append_left _ (List.mem_of_getElem? (i := 183) rfl)))) rfl
set_option maxRecDepth 100000 in
theorem lay_X7_2 : u_lay RX7 TX7 2 ∈ lw_good := gd_of (w := .laysFinal "LineBlocksModel" "LineBlocksModel" "group" "[I") (List.mem_append_right _ (List.mem_append_right _ (List.mem_append_left _ (List.mem_of_getElem? (i := 185) rfl)))) rfl
set_option maxRecDepth 100000 in
theorem lay_X7_3 : u_lay RX7 TX7 3 ∈ lw_good := gd_of (w := .lays "LineBlocksModel" "LineBlocksModel" "size" "I") (List.mem_append_right _ (List.mem_append_right _ (List.mem_append_left _ (List.mem_of_getElem? (i := 187) rfl)))) rfl
set_option maxRecDepth 100000 in
theorem lay_X7_4 : u_lay RX7 TX7 4 ∈ lw_good := gd_of (w := .laysFinal "LineBlocksModel" "LineBlocksModel" "line" "[B") (List.mem_append_right _ (List.mem_append_right _ (List.mem_append_left _ (List.mem_of_getElem? (i := 189) rfl)))) rfl
set_option maxRecDepth 100000 in
theorem lay_X7_5 : u_lay RX7 TX7 5 ∈ lw_good := gd_of (w := .laysFinal "LineBlocksModel" "LineBlocksModel" "latest" "[I") (List.mem_append_right _ (List.mem_append_right _ (List.mem_append_left _ (List.mem_of_getElem? (i := 191) rfl)))) rfl
set_option maxRecDepth 100000 in
theorem lay_X7_6 : u_lay RX7 TX7 6 ∈ lw_good := gd_of (w := .laysFinal "LineBlocksModel" "LineBlocksModel" "block" "[I") (List.mem_append_right _ (List.mem_append_right _ (List.mem_append_left _ (List.mem_of_getElem? (i := 193) rfl)))) rfl
set_option maxRecDepth 100000 in
theorem lay_X7_7 : u_lay RX7 TX7 7 ∈ lw_good := gd_of (w := .laysFinal "LineBlocksModel" "LineBlocksModel" "came" "[I") (List.mem_append_right _ (List.mem_append_right _ (List.mem_append_left _ (List.mem_of_getElem? (i := 195) rfl)))) rfl
set_option maxRecDepth 100000 in
theorem lay_X7_8 : u_lay RX7 TX7 8 ∈ lw_good := gd_of (w := .lays "LineBlocksModel" "LineBlocksModel" "taken" "I") (List.mem_append_right _ (List.mem_append_right _ (List.mem_append_left _ (List.mem_of_getElem? (i := 197) rfl)))) rfl
set_option maxRecDepth 100000 in
theorem lay_X7_9 : u_lay RX7 TX7 9 ∈ lw_good := gd_of (w := .lays "LineBlocksModel" "LineBlocksModel" "slips" "Z") (List.mem_append_right _ (List.mem_append_right _ (List.mem_append_left _ (List.mem_of_getElem? (i := 199) rfl)))) rfl
set_option maxRecDepth 100000 in
theorem lay_X7_10 : u_lay RX7 TX7 10 ∈ lw_good := gd_of (w := .lays "LineBlocksModel" "LineBlocksModel" "locked" "Z") (List.mem_append_right _ (List.mem_append_right _ (List.mem_append_left _ (List.mem_of_getElem? (i := 201) rfl)))) rfl
set_option maxRecDepth 100000 in
theorem lay_X7_11 : u_lay RX7 TX7 11 ∈ lw_good := gd_of (w := .lays "LineBlocksModel" "LineBlocksModel" "hits" "I") (List.mem_append_right _ (List.mem_append_right _ (List.mem_append_left _ (List.mem_of_getElem? (i := 203) rfl)))) rfl
set_option maxRecDepth 100000 in
theorem lay_X7_12 : u_lay RX7 TX7 12 ∈ lw_good := gd_of (w := .lays "LineBlocksModel" "LineBlocksModel" "slipped" "I") (List.mem_append_right _ (List.mem_append_right _ (List.mem_append_left _ (List.mem_of_getElem? (i := 205) rfl)))) rfl
set_option maxRecDepth 100000 in
theorem lay_X7_13 : u_lay RX7 TX7 13 ∈ lw_good := gd_of (w := .lays "LineBlocksModel" "LineBlocksModel" "row" "I") (List.mem_append_right _ (List.mem_append_right _ (List.mem_append_left _ (List.mem_of_getElem? (i := 207) rfl)))) rfl
set_option maxRecDepth 100000 in
theorem lay_X7_14 : u_lay RX7 TX7 14 ∈ lw_good := gd_of (w := .lays "LineBlocksModel" "LineBlocksModel" "wrong" "I") (List.mem_append_right _ (List.mem_append_right _ (List.mem_append_left _ (List.mem_of_getElem? (i := 209) rfl)))) rfl
set_option maxRecDepth 100000 in
theorem lay_X7_15 : u_lay RX7 TX7 15 ∈ lw_good := gd_of (w := .lays "LineBlocksModel" "LineBlocksModel" "toldCount" "I") (List.mem_append_right _ (List.mem_append_right _ (List.mem_append_left _ (List.mem_of_getElem? (i := 211) rfl)))) rfl
set_option maxRecDepth 100000 in
theorem lay_X7_16 : u_lay RX7 TX7 16 ∈ lw_good := gd_of (w := .laysFinal "LineBlocksModel" "LineBlocksModel" "told" "[I") (List.mem_append_right _ (List.mem_append_right _ (List.mem_append_left _ (List.mem_of_getElem? (i := 213) rfl)))) rfl
theorem in_X7 : ∀ w ∈ u_ws RX7 TX7 17, w ∈ lw_good := show ∀ w ∈ [u_lay RX7 TX7 0, u_lay RX7 TX7 1, u_lay RX7 TX7 2, u_lay RX7 TX7 3, u_lay RX7 TX7 4, u_lay RX7 TX7 5, u_lay RX7 TX7 6, u_lay RX7 TX7 7, u_lay RX7 TX7 8, u_lay RX7 TX7 9, u_lay RX7 TX7 10, u_lay RX7 TX7 11, u_lay RX7 TX7 12, u_lay RX7 TX7 13, u_lay RX7 TX7 14, u_lay RX7 TX7 15, u_lay RX7 TX7 16], w ∈ lw_good from List.forall_mem_cons.mpr ⟨lay_X7_0, List.forall_mem_cons.mpr ⟨lay_X7_1, List.forall_mem_cons.mpr ⟨lay_X7_2, List.forall_mem_cons.mpr ⟨lay_X7_3, List.forall_mem_cons.mpr ⟨lay_X7_4, List.forall_mem_cons.mpr ⟨lay_X7_5, List.forall_mem_cons.mpr ⟨lay_X7_6, List.forall_mem_cons.mpr ⟨lay_X7_7, List.forall_mem_cons.mpr ⟨lay_X7_8, List.forall_mem_cons.mpr ⟨lay_X7_9, List.forall_mem_cons.mpr ⟨lay_X7_10, List.forall_mem_cons.mpr ⟨lay_X7_11, List.forall_mem_cons.mpr ⟨lay_X7_12, List.forall_mem_cons.mpr ⟨lay_X7_13, List.forall_mem_cons.mpr ⟨lay_X7_14, List.forall_mem_cons.mpr ⟨lay_X7_15, List.forall_mem_cons.mpr ⟨lay_X7_16, fun _ h => absurd h List.not_mem_nil⟩⟩⟩⟩⟩⟩⟩⟩⟩⟩⟩⟩⟩⟩⟩⟩⟩
set_option maxRecDepth 100000 in
theorem nst_RX6_11 : Cond.methodLinkNest RX6 11 yX2_init "LineBlocks" ∈ lw_tbl := (List.mem_append_right _ (List.mem_append_left _ (List.mem_of_getElem? (i := 21) rfl)))
set_option maxRecDepth 100000 in
theorem nst_RX6_18 : Cond.methodLinkNest RX6 18 yX5_init "LineBlocks" ∈ lw_tbl := (List.mem_append_right _ (List.mem_append_left _ (List.mem_of_getElem? (i := 38) rfl)))
set_option maxRecDepth 100000 in
theorem nst_RX5_13 : Cond.methodLinkNest RX5 13 yX4_init "LineBlocks" ∈ lw_tbl := (List.mem_append_right _ (List.mem_append_left _ (List.mem_of_getElem? (i := 44) rfl)))
set_option maxRecDepth 100000 in
theorem nst_RX6_25 : Cond.methodLinkNest RX6 25 yX3_init "LineBlocks" ∈ lw_tbl := (List.mem_append_right _ (List.mem_append_left _ (List.mem_of_getElem? (i := 65) rfl)))
set_option maxRecDepth 100000 in
theorem nst_RX3_11 : Cond.methodLinkNest RX3 11 yX4_init "LineBlocks" ∈ lw_tbl := (List.mem_append_right _ (List.mem_append_left _ (List.mem_of_getElem? (i := 70) rfl)))
set_option maxRecDepth 100000 in
theorem nst_RX3_20 : Cond.methodLinkNest RX3 20 yX1_init "LineBlocks" ∈ lw_tbl := (List.mem_append_right _ (List.mem_append_left _ (List.mem_of_getElem? (i := 73) rfl)))
set_option maxRecDepth 100000 in
theorem lays_E : Cond.laysStatic "LineBlocks$Codec" "END_TYPES" "[I" ∈ lw_tbl := (List.mem_append_right _ (List.mem_append_left _ (List.mem_of_getElem? (i := 164) rfl)))
theorem ins_X1 : Cond.instantiable RX1 3 ∈ lw_good := gd_of (List.mem_append_right _ (List.mem_append_left _ (List.mem_of_getElem? (i := 72) rfl))) rfl
theorem ins_X2 : Cond.instantiable RX2 3 ∈ lw_good := gd_of (List.mem_append_right _ (List.mem_append_left _ (List.mem_of_getElem? (i := 20) rfl))) rfl
theorem ins_X3 : Cond.instantiable RX3 11 ∈ lw_good := gd_of (List.mem_append_right _ (List.mem_append_left _ (List.mem_of_getElem? (i := 64) rfl))) rfl
theorem ins_X4 : Cond.instantiable RX4 1 ∈ lw_good := gd_of (List.mem_append_right _ (List.mem_append_left _ (List.mem_of_getElem? (i := 43) rfl))) rfl
theorem ins_X5 : Cond.instantiable RX5 3 ∈ lw_good := gd_of (List.mem_append_right _ (List.mem_append_left _ (List.mem_of_getElem? (i := 37) rfl))) rfl
theorem ins_X6 : Cond.instantiable RX6 3 ∈ lw_good := gd_of (List.mem_append_right _ (List.mem_append_left _ (List.mem_of_getElem? (i := 12) rfl))) rfl
theorem ins_X7 : Cond.instantiable RX7 17 ∈ lw_good := gd_of (List.mem_append_right _ (List.mem_append_right _ (List.mem_append_left _ (List.mem_of_getElem? (i := 159) rfl)))) rfl
theorem arc_int : Cond.arrayClass .int ∈ lw_good := gd_of (List.mem_append_right _ (List.mem_append_left _ (List.mem_of_getElem? (i := 62) rfl))) rfl
theorem arc_long : Cond.arrayClass .long ∈ lw_good := gd_of (List.mem_append_right _ (List.mem_append_left _ (List.mem_of_getElem? (i := 35) rfl))) rfl
theorem arc_byte : Cond.arrayClass .byte ∈ lw_good := gd_of (List.mem_append_right _ (List.mem_append_right _ (List.mem_append_left _ (List.mem_of_getElem? (i := 216) rfl)))) rfl
theorem ini_E : Cond.initialized "LineBlocks$Codec" ∈ lw_good := gd_of (List.mem_append_right _ (List.mem_append_left _ (List.mem_of_getElem? (i := 8) rfl))) rfl
theorem kn_RX3_11 : lkN RX3 11 yX4_init cX4_init 1 0 := ⟨List.mem_of_getElem? (i := 4) rfl, wk39, wk35, wk40, ⟨by decide +kernel, by decide +kernel, by decide +kernel⟩, rfl⟩
theorem kn_RX3_20 : lkN RX3 20 yX1_init cX1_init 1 0 := ⟨List.mem_of_getElem? (i := 5) rfl, wk51, wk49, wk52, ⟨by decide +kernel, by decide +kernel, by decide +kernel⟩, rfl⟩
theorem kn_RX5_13 : lkN RX5 13 yX4_init cX4_init 1 0 := ⟨List.mem_of_getElem? (i := 2) rfl, wk39, wk35, wk40, ⟨by decide +kernel, by decide +kernel, by decide +kernel⟩, rfl⟩
theorem kn_RX6_11 : lkN RX6 11 yX2_init cX2_init 1 0 := ⟨List.mem_of_getElem? (i := 0) rfl, wk25, wk15, wk26, ⟨by decide +kernel, by decide +kernel, by decide +kernel⟩, rfl⟩
theorem kn_RX6_18 : lkN RX6 18 yX5_init cX5_init 1 0 := ⟨List.mem_of_getElem? (i := 1) rfl, wk30, wk19, wk31, ⟨by decide +kernel, by decide +kernel, by decide +kernel⟩, rfl⟩
theorem kn_RX6_25 : lkN RX6 25 yX3_init cX3_init 1 0 := ⟨List.mem_of_getElem? (i := 3) rfl, wk42, wk23, wk43, ⟨by decide +kernel, by decide +kernel, by decide +kernel⟩, rfl⟩
theorem ks_RX0_15 : lkS RX0 15 yX0_areIdleOrError cX0_areIdleOrError 4 (some .boolean) 3 := ⟨wk101, wk102, wk92, wk103, ⟨by decide +kernel, by decide +kernel, by decide +kernel⟩⟩
theorem ks_RX0_23 : lkS RX0 23 yX0_areData cX0_areData 3 (some .boolean) 2 := ⟨wk104, wk105, wk92, wk106, ⟨by decide +kernel, by decide +kernel, by decide +kernel⟩⟩
theorem ks_RX0_27 : lkS RX0 27 yX0_bitsOf cX0_bitsOf 3 (some .long) 3 := ⟨wk114, wk115, wk92, wk116, ⟨by decide +kernel, by decide +kernel, by decide +kernel⟩⟩
theorem ks_RX0_31 : lkS RX0 31 yX0_endPlace cX0_endPlace 2 (some .int) 1 := ⟨wk121, wk122, wk92, wk123, ⟨by decide +kernel, by decide +kernel, by decide +kernel⟩⟩
theorem ks_RX0_35 : lkS RX0 35 yX0_characterByEnd cX0_characterByEnd 5 (some .int) 4 := ⟨wk430, wk431, wk92, wk432, ⟨by decide +kernel, by decide +kernel, by decide +kernel⟩⟩
theorem ks_RX0_39 : lkS RX0 39 yX0_dataAt cX0_dataAt 4 (some .int) 3 := ⟨wk433, wk434, wk92, wk435, ⟨by decide +kernel, by decide +kernel, by decide +kernel⟩⟩
theorem ks_RX0_43 : lkS RX0 43 yX0_codedAt cX0_codedAt 4 (some .int) 2 := ⟨wk436, wk437, wk92, wk438, ⟨by decide +kernel, by decide +kernel, by decide +kernel⟩⟩
theorem ks_RX0_47 : lkS RX0 47 yX0_characterByMiddleStart cX0_characterByMiddleStart 3 (some .int) 2 := ⟨wk439, wk440, wk92, wk441, ⟨by decide +kernel, by decide +kernel, by decide +kernel⟩⟩
theorem ks_RX0_50 : lkS RX0 50 yX0_dataShift cX0_dataShift 2 (some .int) 2 := ⟨wk118, wk119, wk92, wk120, ⟨by decide +kernel, by decide +kernel, by decide +kernel⟩⟩
theorem ks_RX0_54 : lkS RX0 54 yX0_codeShift cX0_codeShift 1 (some .int) 1 := ⟨wk124, wk125, wk92, wk126, ⟨by decide +kernel, by decide +kernel, by decide +kernel⟩⟩
theorem ks_RX0_57 : lkS RX0 57 yX0_isData cX0_isData 1 (some .boolean) 1 := ⟨wk98, wk99, wk92, wk100, ⟨by decide +kernel, by decide +kernel, by decide +kernel⟩⟩
theorem ks_RX0_9 : lkS RX0 9 yX0_leadingData cX0_leadingData 2 (some .int) 1 := ⟨wk95, wk96, wk92, wk97, ⟨by decide +kernel, by decide +kernel, by decide +kernel⟩⟩
theorem ks_RX1_23 : lkS RX1 23 yX1_slotOf cX1_slotOf 1 (some .int) 1 := ⟨wk339, wk340, wk49, wk341, ⟨by decide +kernel, by decide +kernel, by decide +kernel⟩⟩
theorem ks_RX1_31 : lkS RX1 31 yX0_characterOf cX0_characterOf 5 (some .int) 3 := ⟨wk427, wk428, wk92, wk429, ⟨by decide +kernel, by decide +kernel, by decide +kernel⟩⟩
theorem ks_RX1_37 : lkS RX1 37 yJ9_floorMod_7cf53 cJ9_floorMod_7cf53 3 (some .int) 2 := ⟨wk342, wk142, wk143, wk144, ⟨by decide +kernel, by decide +kernel, by decide +kernel⟩⟩
theorem ks_RX2_28 : lkS RX2 28 yJ9_floorMod_7cf53 cJ9_floorMod_7cf53 3 (some .int) 2 := ⟨wk141, wk142, wk143, wk144, ⟨by decide +kernel, by decide +kernel, by decide +kernel⟩⟩
theorem ks_RX3_74 : lkS RX3 74 yX0_typeOfBlock cX0_typeOfBlock 3 (some .int) 2 := ⟨wk332, wk333, wk92, wk334, ⟨by decide +kernel, by decide +kernel, by decide +kernel⟩⟩
theorem ks_RX5_46 : lkS RX5 46 yX0_typeOfGroup cX0_typeOfGroup 2 (some .int) 1 := ⟨wk90, wk91, wk92, wk93, ⟨by decide +kernel, by decide +kernel, by decide +kernel⟩⟩
theorem ks_RX5_50 : lkS RX5 50 yJ7_fill_53178 cJ7_fill_53178 4 none 2 := ⟨wk107, wk108, wk109, wk110, ⟨by decide +kernel, by decide +kernel, by decide +kernel⟩⟩
theorem ks_RX5_56 : lkS RX5 56 yX0_payloadOf cX0_payloadOf 5 (some .long) 2 := ⟨wk111, wk112, wk92, wk113, ⟨by decide +kernel, by decide +kernel, by decide +kernel⟩⟩
theorem ks_RX7_40 : lkS RX7 40 yX7_isData cX7_isData 1 (some .boolean) 1 := ⟨wk177, wk178, wk5, wk179, ⟨by decide +kernel, by decide +kernel, by decide +kernel⟩⟩
theorem ks_RX7_44 : lkS RX7 44 yX7_isQuiet cX7_isQuiet 1 (some .boolean) 1 := ⟨wk180, wk181, wk5, wk182, ⟨by decide +kernel, by decide +kernel, by decide +kernel⟩⟩
theorem ks_RX7_59 : lkS RX7 59 yX7_typeOf cX7_typeOf 1 (some .int) 1 := ⟨wk191, wk192, wk5, wk193, ⟨by decide +kernel, by decide +kernel, by decide +kernel⟩⟩
theorem kv_RX1_27 : lkV RX1 27 yX1_isKept cX1_isKept 2 (some .boolean) 1 := ⟨wk423, wk424, wk425, wk49, wk426, ⟨by decide +kernel, by decide +kernel, by decide +kernel⟩⟩
theorem kv_RX2_19 : lkV RX2 19 yX2_ringPlace cX2_ringPlace 2 (some .int) 1 := ⟨wk136, wk137, wk138, wk15, wk139, ⟨by decide +kernel, by decide +kernel, by decide +kernel⟩⟩
theorem kv_RX3_39 : lkV RX3 39 yX1_count cX1_count 1 (some .int) 0 := ⟨wk310, wk311, wk312, wk49, wk313, ⟨by decide +kernel, by decide +kernel, by decide +kernel⟩⟩
theorem kv_RX3_46 : lkV RX3 46 yX1_character cX1_character 4 (some .int) 2 := ⟨wk419, wk420, wk421, wk49, wk422, ⟨by decide +kernel, by decide +kernel, by decide +kernel⟩⟩
theorem kv_RX3_50 : lkV RX3 50 yX4_exchange cX4_exchange 5 (some .long) 1 := ⟨wk246, wk239, wk240, wk35, wk241, ⟨by decide +kernel, by decide +kernel, by decide +kernel⟩⟩
theorem kv_RX3_64 : lkV RX3 64 yX4_unscramble cX4_unscramble 3 (some .int) 1 := ⟨wk323, wk324, wk325, wk35, wk326, ⟨by decide +kernel, by decide +kernel, by decide +kernel⟩⟩
theorem kv_RX3_68 : lkV RX3 68 yX3_endBlock cX3_endBlock 2 none 0 := ⟨wk327, wk328, wk329, wk23, wk330, ⟨by decide +kernel, by decide +kernel, by decide +kernel⟩⟩
theorem kv_RX3_71 : lkV RX3 71 yX3_beginBlock cX3_beginBlock 1 none 0 := ⟨wk363, wk364, wk365, wk23, wk366, ⟨by decide +kernel, by decide +kernel, by decide +kernel⟩⟩
theorem kv_RX3_80 : lkV RX3 80 yX1_keep cX1_keep 5 none 2 := ⟨wk335, wk336, wk337, wk49, wk338, ⟨by decide +kernel, by decide +kernel, by decide +kernel⟩⟩
theorem kv_RX3_84 : lkV RX3 84 yX3_countInRow cX3_countInRow 2 none 1 := ⟨wk343, wk344, wk345, wk23, wk346, ⟨by decide +kernel, by decide +kernel, by decide +kernel⟩⟩
theorem kv_RX3_88 : lkV RX3 88 yX3_countHit cX3_countHit 2 none 1 := ⟨wk359, wk360, wk361, wk23, wk362, ⟨by decide +kernel, by decide +kernel, by decide +kernel⟩⟩
theorem kv_RX3_91 : lkV RX3 91 yX3_slip cX3_slip 1 none 0 := ⟨wk349, wk350, wk351, wk23, wk352, ⟨by decide +kernel, by decide +kernel, by decide +kernel⟩⟩
theorem kv_RX3_97 : lkV RX3 97 yX3_beginRow cX3_beginRow 1 none 0 := ⟨wk355, wk356, wk357, wk23, wk358, ⟨by decide +kernel, by decide +kernel, by decide +kernel⟩⟩
theorem kv_RX4_15 : lkV RX4 15 yX4_mixed cX4_mixed 4 (some .int) 1 := ⟨wk149, wk150, wk151, wk35, wk152, ⟨by decide +kernel, by decide +kernel, by decide +kernel⟩⟩
theorem kv_RX4_19 : lkV RX4 19 yX4_keep cX4_keep 2 none 1 := ⟨wk154, wk155, wk156, wk35, wk157, ⟨by decide +kernel, by decide +kernel, by decide +kernel⟩⟩
theorem kv_RX5_28 : lkV RX5 28 yX4_exchange cX4_exchange 5 (some .long) 1 := ⟨wk238, wk239, wk240, wk35, wk241, ⟨by decide +kernel, by decide +kernel, by decide +kernel⟩⟩
theorem kv_RX5_32 : lkV RX5 32 yX5_sendGroup cX5_sendGroup 4 none 1 := ⟨wk86, wk87, wk88, wk19, wk89, ⟨by decide +kernel, by decide +kernel, by decide +kernel⟩⟩
theorem kv_RX5_36 : lkV RX5 36 yX5_accept cX5_accept 3 none 2 := ⟨wk210, wk83, wk84, wk19, wk85, ⟨by decide +kernel, by decide +kernel, by decide +kernel⟩⟩
theorem kv_RX5_42 : lkV RX5 42 yX5_sendBlock cX5_sendBlock 6 none 3 := ⟨wk127, wk128, wk129, wk19, wk130, ⟨by decide +kernel, by decide +kernel, by decide +kernel⟩⟩
theorem kv_RX5_60 : lkV RX5 60 yX2_append cX2_append 3 none 1 := ⟨wk131, wk132, wk133, wk15, wk134, ⟨by decide +kernel, by decide +kernel, by decide +kernel⟩⟩
theorem kv_RX5_66 : lkV RX5 66 yX4_scramble cX4_scramble 3 (some .int) 1 := ⟨wk145, wk146, wk147, wk35, wk148, ⟨by decide +kernel, by decide +kernel, by decide +kernel⟩⟩
theorem kv_RX6_100 : lkV RX6 100 yX3_wrongHeadCount cX3_wrongHeadCount 1 (some .int) 0 := ⟨wk466, wk467, wk468, wk23, wk469, ⟨by decide +kernel, by decide +kernel, by decide +kernel⟩⟩
theorem kv_RX6_30 : lkV RX6 30 yX5_waitingCount cX5_waitingCount 1 (some .int) 0 := ⟨wk72, wk73, wk74, wk19, wk75, ⟨by decide +kernel, by decide +kernel, by decide +kernel⟩⟩
theorem kv_RX6_34 : lkV RX6 34 yX2_size cX2_size 1 (some .int) 0 := ⟨wk77, wk78, wk79, wk15, wk80, ⟨by decide +kernel, by decide +kernel, by decide +kernel⟩⟩
theorem kv_RX6_37 : lkV RX6 37 yX5_accept cX5_accept 3 none 2 := ⟨wk82, wk83, wk84, wk19, wk85, ⟨by decide +kernel, by decide +kernel, by decide +kernel⟩⟩
theorem kv_RX6_41 : lkV RX6 41 yX5_acceptBytes cX5_acceptBytes 4 none 2 := ⟨wk206, wk207, wk208, wk19, wk209, ⟨by decide +kernel, by decide +kernel, by decide +kernel⟩⟩
theorem kv_RX6_44 : lkV RX6 44 yX5_sendIdleGroups cX5_sendIdleGroups 4 none 2 := ⟨wk220, wk221, wk222, wk19, wk223, ⟨by decide +kernel, by decide +kernel, by decide +kernel⟩⟩
theorem kv_RX6_47 : lkV RX6 47 yX5_exchangeState cX5_exchangeState 3 (some .long) 1 := ⟨wk234, wk235, wk236, wk19, wk237, ⟨by decide +kernel, by decide +kernel, by decide +kernel⟩⟩
theorem kv_RX6_51 : lkV RX6 51 yX3_exchangeState cX3_exchangeState 3 (some .long) 1 := ⟨wk242, wk243, wk244, wk23, wk245, ⟨by decide +kernel, by decide +kernel, by decide +kernel⟩⟩
theorem kv_RX6_54 : lkV RX6 54 yX2_has cX2_has 2 (some .boolean) 1 := ⟨wk265, wk266, wk267, wk15, wk268, ⟨by decide +kernel, by decide +kernel, by decide +kernel⟩⟩
theorem kv_RX6_58 : lkV RX6 58 yX2_at cX2_at 3 (some .int) 1 := ⟨wk269, wk270, wk271, wk15, wk272, ⟨by decide +kernel, by decide +kernel, by decide +kernel⟩⟩
theorem kv_RX6_62 : lkV RX6 62 yX2_flip cX2_flip 3 none 1 := ⟨wk281, wk282, wk283, wk15, wk284, ⟨by decide +kernel, by decide +kernel, by decide +kernel⟩⟩
theorem kv_RX6_66 : lkV RX6 66 yX2_append cX2_append 3 none 1 := ⟨wk293, wk132, wk133, wk15, wk134, ⟨by decide +kernel, by decide +kernel, by decide +kernel⟩⟩
theorem kv_RX6_69 : lkV RX6 69 yX3_groupCount cX3_groupCount 1 (some .int) 0 := ⟨wk306, wk307, wk308, wk23, wk309, ⟨by decide +kernel, by decide +kernel, by decide +kernel⟩⟩
theorem kv_RX6_78 : lkV RX6 78 yX3_take cX3_take 2 none 1 := ⟨wk315, wk316, wk317, wk23, wk318, ⟨by decide +kernel, by decide +kernel, by decide +kernel⟩⟩
theorem kv_RX6_81 : lkV RX6 81 yX2_dropFirst cX2_dropFirst 2 none 1 := ⟨wk367, wk368, wk369, wk15, wk370, ⟨by decide +kernel, by decide +kernel, by decide +kernel⟩⟩
theorem kv_RX6_84 : lkV RX6 84 yX3_character cX3_character 3 (some .int) 2 := ⟨wk415, wk416, wk417, wk23, wk418, ⟨by decide +kernel, by decide +kernel, by decide +kernel⟩⟩
theorem kv_RX6_87 : lkV RX6 87 yX3_isLocked cX3_isLocked 1 (some .boolean) 0 := ⟨wk450, wk451, wk452, wk23, wk453, ⟨by decide +kernel, by decide +kernel, by decide +kernel⟩⟩
theorem kv_RX6_91 : lkV RX6 91 yX3_hitCount cX3_hitCount 1 (some .int) 0 := ⟨wk454, wk455, wk456, wk23, wk457, ⟨by decide +kernel, by decide +kernel, by decide +kernel⟩⟩
theorem kv_RX6_94 : lkV RX6 94 yX3_slipCount cX3_slipCount 1 (some .int) 0 := ⟨wk458, wk459, wk460, wk23, wk461, ⟨by decide +kernel, by decide +kernel, by decide +kernel⟩⟩
theorem kv_RX6_97 : lkV RX6 97 yX3_bitsOfBlock cX3_bitsOfBlock 1 (some .int) 0 := ⟨wk462, wk463, wk464, wk23, wk465, ⟨by decide +kernel, by decide +kernel, by decide +kernel⟩⟩
theorem kv_RX7_113 : lkV RX7 113 yX7_slip cX7_slip 1 none 0 := ⟨wk386, wk387, wk388, wk5, wk389, ⟨by decide +kernel, by decide +kernel, by decide +kernel⟩⟩
theorem kv_RX7_122 : lkV RX7 122 yX7_tell cX7_tell 2 none 0 := ⟨wk391, wk392, wk393, wk5, wk394, ⟨by decide +kernel, by decide +kernel, by decide +kernel⟩⟩
theorem kv_RX7_125 : lkV RX7 125 yX7_whole cX7_whole 3 none 0 := ⟨wk378, wk379, wk380, wk5, wk381, ⟨by decide +kernel, by decide +kernel, by decide +kernel⟩⟩
theorem kv_RX7_47 : lkV RX7 47 yX7_setBits cX7_setBits 5 none 3 := ⟨wk183, wk184, wk185, wk5, wk186, ⟨by decide +kernel, by decide +kernel, by decide +kernel⟩⟩
theorem kv_RX7_51 : lkV RX7 51 yX7_are cX7_are 6 (some .boolean) 3 := ⟨wk173, wk174, wk175, wk5, wk176, ⟨by decide +kernel, by decide +kernel, by decide +kernel⟩⟩
theorem kv_RX7_55 : lkV RX7 55 yX7_putCode cX7_putCode 3 none 2 := ⟨wk187, wk188, wk189, wk5, wk190, ⟨by decide +kernel, by decide +kernel, by decide +kernel⟩⟩
theorem kv_RX7_63 : lkV RX7 63 yX7_encode cX7_encode 4 none 0 := ⟨wk169, wk170, wk171, wk5, wk172, ⟨by decide +kernel, by decide +kernel, by decide +kernel⟩⟩
theorem kv_RX7_66 : lkV RX7 66 yX7_mixed cX7_mixed 3 (some .int) 2 := ⟨wk194, wk195, wk196, wk5, wk197, ⟨by decide +kernel, by decide +kernel, by decide +kernel⟩⟩
theorem kv_RX7_70 : lkV RX7 70 yX7_remember cX7_remember 4 none 2 := ⟨wk198, wk199, wk200, wk5, wk201, ⟨by decide +kernel, by decide +kernel, by decide +kernel⟩⟩
theorem kv_RX7_76 : lkV RX7 76 yX7_send cX7_send 3 none 0 := ⟨wk165, wk166, wk167, wk5, wk168, ⟨by decide +kernel, by decide +kernel, by decide +kernel⟩⟩
theorem kv_RX7_79 : lkV RX7 79 yX7_put cX7_put 2 (some .int) 1 := ⟨wk215, wk160, wk161, wk5, wk162, ⟨by decide +kernel, by decide +kernel, by decide +kernel⟩⟩
theorem kv_RX7_82 : lkV RX7 82 yX7_get cX7_get 5 (some .int) 2 := ⟨wk399, wk400, wk401, wk5, wk402, ⟨by decide +kernel, by decide +kernel, by decide +kernel⟩⟩
theorem kv_RX7_85 : lkV RX7 85 yX7_codeAt cX7_codeAt 2 (some .int) 1 := ⟨wk403, wk404, wk405, wk5, wk406, ⟨by decide +kernel, by decide +kernel, by decide +kernel⟩⟩
theorem kv_RX7_88 : lkV RX7 88 yX7_endOf cX7_endOf 4 (some .int) 1 := ⟨wk407, wk408, wk409, wk5, wk410, ⟨by decide +kernel, by decide +kernel, by decide +kernel⟩⟩
theorem kv_RX7_94 : lkV RX7 94 yX7_character cX7_character 4 (some .int) 1 := ⟨wk395, wk396, wk397, wk5, wk398, ⟨by decide +kernel, by decide +kernel, by decide +kernel⟩⟩
end
section
/-! bits: of an int (bt), of a long (bl); a bit as an int (bi) -/
def bt (x : Int32) (i : Nat) : Bool := x.toBitVec.getLsbD i
def bl (x : Int64) (i : Nat) : Bool := x.toBitVec.getLsbD i
def bi (x : Bool) : Int32 := if x then 1 else 0
theorem bt_ext {x y : Int32} (h : ∀ i, i < 32 → bt x i = bt y i) : x = y := Int32.toBitVec_inj.mp (BitVec.eq_of_getLsbD_eq (fun i hi => h i hi))
theorem bl_ext {x y : Int64} (h : ∀ i, i < 64 → bl x i = bl y i) : x = y := Int64.toBitVec_inj.mp (BitVec.eq_of_getLsbD_eq (fun i hi => h i hi))
theorem bt_or (x y : Int32) (i : Nat) : bt (x ||| y) i = (bt x i || bt y i) := by unfold bt; rw [Int32.toBitVec_or, BitVec.getLsbD_or]
theorem bt_and (x y : Int32) (i : Nat) : bt (x &&& y) i = (bt x i && bt y i) := by unfold bt; rw [Int32.toBitVec_and, BitVec.getLsbD_and]
theorem bt_xor (x y : Int32) (i : Nat) : bt (x ^^^ y) i = (bt x i ^^ bt y i) := by unfold bt; rw [Int32.toBitVec_xor, BitVec.getLsbD_xor]
theorem bl_or (x y : Int64) (i : Nat) : bl (x ||| y) i = (bl x i || bl y i) := by unfold bl; rw [Int64.toBitVec_or, BitVec.getLsbD_or]
theorem bl_and (x y : Int64) (i : Nat) : bl (x &&& y) i = (bl x i && bl y i) := by unfold bl; rw [Int64.toBitVec_and, BitVec.getLsbD_and]
theorem bl_xor (x y : Int64) (i : Nat) : bl (x ^^^ y) i = (bl x i ^^ bl y i) := by unfold bl; rw [Int64.toBitVec_xor, BitVec.getLsbD_xor]
theorem bt_big {x : Int32} {i : Nat} (h : 32 ≤ i) : bt x i = false := BitVec.getLsbD_of_ge _ _ h
theorem bl_big {x : Int64} {i : Nat} (h : 64 ≤ i) : bl x i = false := BitVec.getLsbD_of_ge _ _ h
theorem bt_0 (i : Nat) : bt 0 i = false := BitVec.getLsbD_zero
theorem bl_0 (i : Nat) : bl 0 i = false := BitVec.getLsbD_zero
theorem bl_m1 : ∀ i, i < 64 → bl (-1) i = true := by decide +kernel
theorem bt_1 : ∀ i, i < 32 → bt 1 i = decide (i = 0) := by decide +kernel
theorem bl_1 : ∀ i, i < 64 → bl 1 i = decide (i = 0) := by decide +kernel
theorem bl_mask : ∀ i, i < 64 → bl 288230376151711743 i = decide (i < 58) := by decide +kernel
theorem bt_bi (b : Bool) (i : Nat) : bt (bi b) i = (b && decide (i = 0)) := by
  rcases Nat.lt_or_ge i 32 with h | h
  · cases b
    · show bt 0 i = _
      rw [bt_0]; rfl
    · show bt 1 i = _
      rw [bt_1 i h]; simp
  · rw [bt_big h]
    cases b
    · rfl
    · simp; omega
theorem bi_t0 (b : Bool) : bt (bi b) 0 = b := by rw [bt_bi]; simp
theorem bi_inj {a b : Bool} (h : bi a = bi b) : a = b := by rw [← bi_t0 a, h, bi_t0]
theorem bi_01 (b : Bool) : 0 ≤ (bi b).toInt ∧ (bi b).toInt ≤ 1 := by cases b <;> decide
theorem bi_of {x : Int32} (h : 0 ≤ x.toInt ∧ x.toInt ≤ 1) : x = bi (bt x 0) := by
  rcases zb_01 h with rfl | rfl <;> rfl
theorem and1 (x : Int32) : x &&& 1 = bi (bt x 0) := by
  apply bt_ext
  intro i hi
  rw [bt_and, bt_1 i hi, bt_bi]
  by_cases h : i = 0
  · subst h; simp
  · simp [h]
theorem bi_xor (a b : Bool) : bi a ^^^ bi b = bi (a ^^ b) := by cases a <;> cases b <;> rfl
theorem bi_not (a : Bool) : (1 : Int32) - bi a = bi (!a) := by cases a <;> rfl
theorem bi_byte (a : Bool) : vp_nar .byte (bi a).toInt8.toInt32 = bi a := by cases a <;> rfl
theorem bi_byte' (a : Bool) : vp_nar .byte (bi a) = bi a := by cases a <;> rfl
theorem bi_b (a : Bool) : (bi a).toInt8.toInt32 = bi a := by cases a <;> rfl
theorem sh_of {y : Int32} {k : Nat} (hy : y.toInt = k) (hk : k < 64) : y = nI k := Int32.toInt_inj.mp (hy.trans (nI_toInt (by omega)).symm)
theorem sh_c : ∀ k, k < 64 → ((nI k).toInt64 &&& 63) = lN k := by decide +kernel
theorem sh_cu : ∀ k, k < 64 → ((nI k).toInt64.toUInt64 &&& Int64.toUInt64 63) = UInt64.ofNat k := by decide +kernel
theorem sh_m : ∀ k, k < 64 → ((lN k).toBitVec.smod 64).toNat = k := by decide +kernel
theorem sh_mu : ∀ k, k < 64 → ((UInt64.ofNat k).toBitVec % 64).toNat = k := by decide +kernel
theorem bl_shl {x : Int64} {y : Int32} {k i : Nat} (hy : y.toInt = k) (hk : k < 64) (hi : i < 64) : bl (x <<< (y.toInt64 &&& 63)) i = (decide (k ≤ i) && bl x (i - k)) := by
  rw [sh_of hy hk, sh_c k hk]
  unfold bl
  rw [Int64.toBitVec_shiftLeft]
  show (x.toBitVec <<< ((lN k).toBitVec.smod 64).toNat).getLsbD i = _
  rw [sh_m k hk, BitVec.getLsbD_shiftLeft]
  rcases Nat.lt_or_ge i k with h | h
  · simp [h, Nat.not_le.mpr h]
  · simp [hi, h, Nat.not_lt.mpr h]
theorem bl_ushr {x : Int64} {y : Int32} {k i : Nat} (hy : y.toInt = k) (hk : k < 64) : bl ((x.toUInt64 >>> (y.toInt64.toUInt64 &&& Int64.toUInt64 63)).toInt64) i = bl x (k + i) := by
  rw [sh_of hy hk, sh_cu k hk]
  show (x.toUInt64 >>> UInt64.ofNat k).toBitVec.getLsbD i = x.toUInt64.toBitVec.getLsbD (k + i)
  rw [UInt64.toBitVec_shiftRight]
  show (x.toUInt64.toBitVec >>> ((UInt64.ofNat k).toBitVec % 64).toNat).getLsbD i = _
  rw [sh_mu k hk, BitVec.getLsbD_ushiftRight]
theorem bl_sshr {x : Int64} {y : Int32} {k i : Nat} (hy : y.toInt = k) (hk : k < 64) (hi : k + i < 64) : bl (x >>> (y.toInt64 &&& 63)) i = bl x (k + i) := by
  rw [sh_of hy hk, sh_c k hk]
  unfold bl
  rw [Int64.toBitVec_shiftRight]
  show (x.toBitVec.sshiftRight ((lN k).toBitVec.smod 64).toNat).getLsbD i = _
  rw [sh_m k hk, BitVec.getLsbD_sshiftRight]
  simp [hi, show i < 64 by omega]
theorem bt_l2i (x : Int64) {i : Nat} (hi : i < 32) : bt x.toInt32 i = bl x i := by
  unfold bt bl
  rw [Int64.toBitVec_toInt32, BitVec.getLsbD_signExtend]
  simp [hi, show i < 64 by omega]
theorem bl_i2l (x : Int32) {i : Nat} (hi : i < 64) : bl x.toInt64 i = if i < 32 then bt x i else bt x 31 := by
  unfold bt bl
  rw [Int32.toBitVec_toInt64, BitVec.getLsbD_signExtend, BitVec.msb_eq_getLsbD_last]
  simp [hi]
theorem bl_bi (b : Bool) {i : Nat} (hi : i < 64) : bl (bi b).toInt64 i = (b && decide (i = 0)) := by
  rw [bl_i2l _ hi]
  by_cases h : i < 32
  · rw [if_pos h, bt_bi]
  · rw [if_neg h, bt_bi]
    simp [show ¬ i = 0 by omega]
end
section
/-! the line's bits; the scrambler's stream -/
def lnB (fw : Nat → Int64) (f i : Int) : Bool := bl (fw (((f + i) % 9088).toNat / 64)) (((f + i) % 9088).toNat % 64)
def scO (σ : Nat → Bool) (d : Bool) : Bool := (d ^^ σ 38) ^^ σ 57
def scN (σ : Nat → Bool) (o : Bool) : Nat → Bool := fun j => if j = 0 then o else σ (j - 1)
def scS (σ p : Nat → Bool) : Nat → Nat → Bool
  | 0 => σ
  | k + 1 => scN (scS σ p k) (scO (scS σ p k) (p k))
def scB (σ p : Nat → Bool) (k : Nat) : Bool := scO (scS σ p k) (p k)
theorem scS_cg {σ τ p q : Nat → Bool} (h : ∀ j, j < 58 → σ j = τ j) : ∀ k, (∀ j, j < k → p j = q j) → ∀ j, j < 58 → scS σ p k j = scS τ q k j := by
  intro k
  induction k with
  | zero => exact fun _ j hj => h j hj
  | succ k ih =>
    intro hp j hj
    have hk := ih (fun j hj => hp j (by omega))
    show scN (scS σ p k) (scO (scS σ p k) (p k)) j = scN (scS τ q k) (scO (scS τ q k) (q k)) j
    unfold scN scO
    rw [hk 38 (by omega), hk 57 (by omega), hp k (by omega)]
    by_cases h0 : j = 0
    · rw [if_pos h0, if_pos h0]
    · rw [if_neg h0, if_neg h0, hk (j - 1) (by omega)]
theorem scB_cg {σ τ p q : Nat → Bool} (h : ∀ j, j < 58 → σ j = τ j) (k : Nat) (hp : ∀ j, j < k + 1 → p j = q j) : scB σ p k = scB τ q k := by
  unfold scB scO
  rw [scS_cg h k (fun j hj => hp j (by omega)) 38 (by omega), scS_cg h k (fun j hj => hp j (by omega)) 57 (by omega), hp k (by omega)]
/-- reading: (int) (w >>> s) & 1 -/
theorem rd_bit {w : Int64} {s : Int32} {x : Int64} {k : Nat} {u y r : Int32} (hs : s.toInt = k) (hk : k < 64) (hx : x = (w.toUInt64 >>> (s.toInt64.toUInt64 &&& Int64.toUInt64 63)).toInt64) (hu : u = x.toInt32) (hy : y = 1) (hr : r = u &&& y) : r = bi (bl w k) := by
  rw [hr, hy, and1, hu, bt_l2i _ (by omega), hx, bl_ushr hs hk]
  rfl
/-- the clearing and setting of one bit -/
theorem up_bit {w m n z a o y : Int64} {s b : Int32} {k : Nat} (hs : s.toInt = k) (hk : k < 64) (hm : m = (1 : Int64) <<< (s.toInt64 &&& 63)) (hn : n = m ^^^ (-1)) (ha : a = w &&& n) (hz : z = b.toInt64 <<< (s.toInt64 &&& 63)) (ho : o = a ||| z) (hb : 0 ≤ b.toInt ∧ b.toInt ≤ 1) {i : Nat} (hi : i < 64) : bl o i = if i = k then bt b 0 else bl w i := by
  rw [ho, bl_or, ha, bl_and, hn, bl_xor, hm, bl_shl hs hk hi, hz, bl_shl hs hk hi, bl_m1 i hi, bl_1 (i - k) (by omega), bi_of hb, bl_bi _ (by omega), bi_t0]
  by_cases h : i = k
  · subst h; simp
  · rw [if_neg h]
    by_cases h2 : k ≤ i
    · simp [h2, show ¬ i - k = 0 by omega]
    · simp [h2]
theorem fl_bit {w m o : Int64} {s : Int32} {k : Nat} (hs : s.toInt = k) (hk : k < 64) (hm : m = (1 : Int64) <<< (s.toInt64 &&& 63)) (ho : o = w ^^^ m) {i : Nat} (hi : i < 64) : bl o i = if i = k then !bl w i else bl w i := by
  rw [ho, bl_xor, hm, bl_shl hs hk hi, bl_1 (i - k) (by omega)]
  by_cases h : i = k
  · subst h; simp
  · rw [if_neg h]
    by_cases h2 : k ≤ i
    · simp [h2, show ¬ i - k = 0 by omega]
    · simp [h2]
/-- one place of the ring changed -/
theorem lnB_up {fw gw : Nat → Int64} {f p : Int} {c : Bool} (hp : 0 ≤ p ∧ p < 9088) (hsame : ∀ j, j ≠ p.toNat / 64 → gw j = fw j) (hbit : ∀ i, i < 64 → bl (gw (p.toNat / 64)) i = if i = p.toNat % 64 then c else bl (fw (p.toNat / 64)) i) (j : Int) : lnB gw f j = if (f + j) % 9088 = p then c else lnB fw f j := by
  unfold lnB
  have hr : 0 ≤ (f + j) % 9088 ∧ (f + j) % 9088 < 9088 := by omega
  by_cases h : (f + j) % 9088 = p
  · rw [if_pos h, h, hbit _ (by omega), if_pos rfl]
  · rw [if_neg h]
    by_cases h2 : ((f + j) % 9088).toNat / 64 = p.toNat / 64
    · rw [h2, hbit _ (by omega), if_neg (by omega)]
    · rw [hsame _ h2]
theorem lnB_drop {fw : Nat → Int64} {f g n : Int} (h : g = (f + n) % 9088) (j : Int) : lnB fw g j = lnB fw f (j + n) := by
  unfold lnB
  rw [show (g + j) % 9088 = (f + (j + n)) % 9088 by omega]
/-- the scrambler: what is mixed in, what is kept -/
theorem mx_bit {la x y : Int64} {a b c d e g o s t : Int32} (hs : s.toInt = 38) (ht : t.toInt = 57) (hx : x = (la.toUInt64 >>> (s.toInt64.toUInt64 &&& Int64.toUInt64 63)).toInt64) (ha : a = x.toInt32) (hb : b = a &&& c) (hc : c = 1) (hy : y = (la.toUInt64 >>> (t.toInt64.toUInt64 &&& Int64.toUInt64 63)).toInt64) (hd : d = y.toInt32) (he : e = d &&& g) (hg : g = 1) (ho : 0 ≤ o.toInt ∧ o.toInt ≤ 1) : (o ^^^ b) ^^^ e = bi (scO (bl la) (bt o 0)) := by
  rw [rd_bit (k := 38) hs (by omega) hx ha hc hb, rd_bit (k := 57) ht (by omega) hy hd hg he, bi_of ho, bi_xor, bi_xor, bi_t0]
  rfl
theorem kp_bit {la x y z o : Int64} {b s : Int32} (hs : s.toInt = 1) (hx : x = la <<< (s.toInt64 &&& 63)) (hy : y = b.toInt64) (hz : z = x ||| y) (ho : o = z &&& 288230376151711743) (hb : 0 ≤ b.toInt ∧ b.toInt ≤ 1) {j : Nat} (hj : j < 58) : bl o j = scN (bl la) (bt b 0) j := by
  rw [ho, bl_and, hz, bl_or, hx, bl_shl (k := 1) hs (by omega) (by omega), hy, bi_of hb, bl_bi _ (by omega), bi_t0, bl_mask j (by omega)]
  unfold scN
  by_cases h : j = 0
  · subst h; simp
  · simp [h, hj, show 1 ≤ j by omega]
end
section
/-! the block of a group, as a relation: what its 66 bits are -/
def aD (g : Nat → Int32) (a b : Nat) : Prop := ∀ k, a ≤ k → k < b → (g k).toInt < 256
def aQ (g : Nat → Int32) (a b : Nat) : Prop := ∀ k, a ≤ k → k < b → (g k).toInt = 256 ∨ (g k).toInt = 259
def fD (g : Nat → Int32) (B : Nat → Bool) (o a b : Nat) : Prop := ∀ k, a ≤ k → k < b → ∀ j, j < 8 → B (o + 8 * k + j) = bt (g k) j
def fC (g : Nat → Int32) (B : Nat → Bool) (a b : Nat) : Prop := ∀ k, a ≤ k → k < b → ∀ j, j < 7 → B (10 + 7 * k + j) = (decide (¬ (g k).toInt = 256) && bt 30 j)
def fT (B : Nat → Bool) (t : Int32) : Prop := B 0 = true ∧ B 1 = false ∧ ∀ j, j < 8 → B (2 + j) = bt t j
def fZ (B : Nat → Bool) (a b : Nat) : Prop := ∀ q, a ≤ q → q < b → B q = false
def gMid (g : Nat → Int32) : Prop := (g 4).toInt = 257 ∧ aQ g 0 4 ∧ aD g 5 8
def gSt (g : Nat → Int32) : Prop := (g 0).toInt = 257 ∧ aD g 1 8
def gEnd (g : Nat → Int32) (d : Nat) : Prop := (g d).toInt = 258 ∧ aD g 0 d ∧ aQ g (d + 1) 8
def fE (B : Nat → Bool) : Prop := ∀ k, k < 8 → ∀ j, j < 7 → B (10 + 7 * k + j) = bt 30 j
def blkR (g : Nat → Int32) (B : Nat → Bool) : Prop :=
  (aD g 0 8 → B 0 = false ∧ B 1 = true ∧ fD g B 2 0 8) ∧
  (gSt g → fT B 120 ∧ fD g B 2 1 8) ∧
  (gMid g → fT B 51 ∧ fC g B 0 4 ∧ fZ B 38 42 ∧ fD g B 2 5 8) ∧
  (∀ d, d < 8 → gEnd g d → fT B (st_k d) ∧ fD g B 10 0 d ∧ fZ B (10 + 8 * d) (17 + 7 * d) ∧ fC g B (d + 1) 8) ∧
  (aQ g 0 8 → fT B 30 ∧ fC g B 0 8) ∧
  (¬ aD g 0 8 → ¬ gSt g → ¬ gMid g → (∀ d, d < 8 → ¬ gEnd g d) → ¬ aQ g 0 8 → fT B 30 ∧ fE B)
theorem fT_eq {B C : Nat → Bool} {t : Int32} (h : fT B t) (k : fT C t) : ∀ q, q < 10 → B q = C q := by
  intro q hq
  rcases (show q = 0 ∨ q = 1 ∨ 2 ≤ q by omega) with rfl | rfl | h2
  · rw [h.1, k.1]
  · rw [h.2.1, k.2.1]
  · obtain ⟨j, rfl⟩ : ∃ j, q = 2 + j := ⟨q - 2, by omega⟩
    rw [h.2.2 j (by omega), k.2.2 j (by omega)]
theorem fD_eq {g g' : Nat → Int32} {B C : Nat → Bool} {o a b : Nat} (hg : ∀ k, k < 8 → g k = g' k) (hb : b ≤ 8) (h : fD g B o a b) (k : fD g' C o a b) : ∀ q, o + 8 * a ≤ q → q < o + 8 * b → B q = C q := by
  intro q h1 h2
  have e : q = o + 8 * ((q - o) / 8) + (q - o) % 8 := by omega
  rw [e, h _ (by omega) (by omega) _ (by omega), k _ (by omega) (by omega) _ (by omega), hg _ (by omega)]
theorem fC_eq {g g' : Nat → Int32} {B C : Nat → Bool} {a b : Nat} (hg : ∀ k, k < 8 → g k = g' k) (hb : b ≤ 8) (h : fC g B a b) (k : fC g' C a b) : ∀ q, 10 + 7 * a ≤ q → q < 10 + 7 * b → B q = C q := by
  intro q h1 h2
  have e : q = 10 + 7 * ((q - 10) / 7) + (q - 10) % 7 := by omega
  rw [e, h _ (by omega) (by omega) _ (by omega), k _ (by omega) (by omega) _ (by omega), hg _ (by omega)]
theorem fE_eq {B C : Nat → Bool} (h : fE B) (k : fE C) : ∀ q, 10 ≤ q → q < 66 → B q = C q := by
  intro q h1 h2
  have e : q = 10 + 7 * ((q - 10) / 7) + (q - 10) % 7 := by omega
  rw [e, h _ (by omega) _ (by omega), k _ (by omega) _ (by omega)]
theorem aD_cg {g g' : Nat → Int32} (hg : ∀ k, k < 8 → g k = g' k) {a b : Nat} (hb : b ≤ 8) (h : aD g a b) : aD g' a b := fun k h1 h2 => by rw [← hg k (by omega)]; exact h k h1 h2
theorem aQ_cg {g g' : Nat → Int32} (hg : ∀ k, k < 8 → g k = g' k) {a b : Nat} (hb : b ≤ 8) (h : aQ g a b) : aQ g' a b := fun k h1 h2 => by rw [← hg k (by omega)]; exact h k h1 h2
/-- a group's block is one -/
theorem blkR_eq {g g' : Nat → Int32} {B C : Nat → Bool} (hg : ∀ k, k < 8 → g k = g' k) (h : blkR g B) (k : blkR g' C) : ∀ q, q < 66 → B q = C q := by
  have hg' : ∀ k, k < 8 → g' k = g k := fun k hk => (hg k hk).symm
  intro q hq
  by_cases c1 : aD g 0 8
  · have a := h.1 c1
    have b := k.1 (aD_cg hg (by omega) c1)
    rcases (show q = 0 ∨ q = 1 ∨ 2 ≤ q by omega) with rfl | rfl | h2
    · rw [a.1, b.1]
    · rw [a.2.1, b.2.1]
    · exact fD_eq hg (by omega) a.2.2 b.2.2 q (by omega) (by omega)
  by_cases c2 : gSt g
  · have a := h.2.1 c2
    have b := k.2.1 ⟨by rw [← hg 0 (by omega)]; exact c2.1, aD_cg hg (by omega) c2.2⟩
    rcases Nat.lt_or_ge q 10 with h2 | h2
    · exact fT_eq a.1 b.1 q h2
    · exact fD_eq hg (by omega) a.2 b.2 q (by omega) (by omega)
  by_cases c3 : gMid g
  · have a := h.2.2.1 c3
    have b := k.2.2.1 ⟨by rw [← hg 4 (by omega)]; exact c3.1, aQ_cg hg (by omega) c3.2.1, aD_cg hg (by omega) c3.2.2⟩
    rcases (show q < 10 ∨ (10 ≤ q ∧ q < 38) ∨ (38 ≤ q ∧ q < 42) ∨ 42 ≤ q by omega) with h2 | h2 | h2 | h2
    · exact fT_eq a.1 b.1 q h2
    · exact fC_eq hg (by omega) a.2.1 b.2.1 q (by omega) (by omega)
    · rw [a.2.2.1 q h2.1 h2.2, b.2.2.1 q h2.1 h2.2]
    · exact fD_eq hg (by omega) a.2.2.2 b.2.2.2 q (by omega) (by omega)
  by_cases c4 : ∃ d, d < 8 ∧ gEnd g d
  · obtain ⟨d, hd, c4⟩ := c4
    have a := h.2.2.2.1 d hd c4
    have b := k.2.2.2.1 d hd ⟨by rw [← hg d hd]; exact c4.1, aD_cg hg (by omega) c4.2.1, aQ_cg hg (by omega) c4.2.2⟩
    rcases (show q < 10 ∨ (10 ≤ q ∧ q < 10 + 8 * d) ∨ (10 + 8 * d ≤ q ∧ q < 17 + 7 * d) ∨ 17 + 7 * d ≤ q by omega) with h2 | h2 | h2 | h2
    · exact fT_eq a.1 b.1 q h2
    · exact fD_eq hg (by omega) a.2.1 b.2.1 q (by omega) (by omega)
    · rw [a.2.2.1 q h2.1 h2.2, b.2.2.1 q h2.1 h2.2]
    · exact fC_eq hg (by omega) a.2.2.2 b.2.2.2 q (by omega) (by omega)
  have c4' : ∀ d, d < 8 → ¬ gEnd g d := fun d hd c => c4 ⟨d, hd, c⟩
  by_cases c5 : aQ g 0 8
  · have a := h.2.2.2.2.1 c5
    have b := k.2.2.2.2.1 (aQ_cg hg (by omega) c5)
    rcases Nat.lt_or_ge q 10 with h2 | h2
    · exact fT_eq a.1 b.1 q h2
    · exact fC_eq hg (by omega) a.2 b.2 q (by omega) (by omega)
  · have a := h.2.2.2.2.2 c1 c2 c3 c4' c5
    have b := k.2.2.2.2.2 (fun c => c1 (aD_cg hg' (by omega) c)) (fun c => c2 ⟨by rw [hg 0 (by omega)]; exact c.1, aD_cg hg' (by omega) c.2⟩) (fun c => c3 ⟨by rw [hg 4 (by omega)]; exact c.1, aQ_cg hg' (by omega) c.2.1, aD_cg hg' (by omega) c.2.2⟩) (fun d hd c => c4' d hd ⟨by rw [hg d hd]; exact c.1, aD_cg hg' (by omega) c.2.1, aQ_cg hg' (by omega) c.2.2⟩) (fun c => c5 (aQ_cg hg' (by omega) c))
    rcases Nat.lt_or_ge q 10 with h2 | h2
    · exact fT_eq a.1 b.1 q h2
    · exact fE_eq a.2 b.2 q (by omega) (by omega)
/-! the class's payload: fields put over each other -/
def orb (f : Nat → Bool) : Nat → Bool
  | 0 => false
  | k + 1 => orb f k || f k
theorem orb_none {f : Nat → Bool} : ∀ n, (∀ k, k < n → f k = false) → orb f n = false := by
  intro n
  induction n with
  | zero => exact fun _ => rfl
  | succ n ih => intro h; show (orb f n || f n) = false; rw [ih (fun k hk => h k (by omega)), h n (by omega)]; rfl
theorem orb_one {f : Nat → Bool} {k0 : Nat} : ∀ n, k0 < n → (∀ k, k < n → k ≠ k0 → f k = false) → orb f n = f k0 := by
  intro n
  induction n with
  | zero => intro h; omega
  | succ n ih =>
    intro h h2
    show (orb f n || f n) = f k0
    by_cases e : k0 = n
    · rw [e, orb_none n (fun k hk => h2 k (by omega) (by omega))]; simp
    · rw [ih (by omega) (fun k hk hne => h2 k (by omega) hne), h2 n (by omega) (by omega)]; simp
def bo (sh : Nat) (c : Int32) (x p : Nat) : Bool := if c.toInt < 256 then decide (sh ≤ p) && bt c (p - sh) else if c.toInt = 259 then decide (8 + 7 * x ≤ p) && bt 30 (p - (8 + 7 * x)) else false
theorem bt_hi {c : Int32} (h : 0 ≤ c.toInt ∧ c.toInt < 256) {j : Nat} (hj : 8 ≤ j) : bt c j = false := by
  rcases Nat.lt_or_ge j 32 with h2 | h2
  · obtain ⟨n, hn, rfl⟩ := nI_of (x := c) (by rw [Int32.lt_iff_toInt_lt, zi_0]; omega)
    rw [nI_toInt hn] at h
    show (BitVec.ofNat 32 n).getLsbD j = false
    rw [BitVec.getLsbD_ofNat]
    have e : n.testBit j = false := Nat.testBit_lt_two_pow (Nat.lt_of_lt_of_le (show n < 2 ^ 8 by omega) (Nat.pow_le_pow_right (by decide) hj))
    rw [e]; simp
  · exact bt_big h2
theorem bt_30 : ∀ j, j < 32 → 7 ≤ j → bt 30 j = false := by decide +kernel
theorem bo_d {sh : Nat} {c : Int32} {x p : Nat} (hc : 0 ≤ c.toInt ∧ c.toInt < 256) (h : p < sh ∨ sh + 8 ≤ p) : bo sh c x p = false := by
  unfold bo
  rw [if_pos hc.2]
  rcases h with h | h
  · simp [Nat.not_le.mpr h]
  · rw [bt_hi hc (by omega)]; simp
theorem bo_c {sh : Nat} {c : Int32} {x p : Nat} (hc : 256 ≤ c.toInt) (hx : x < 8) (hp : p < 64) (h : p < 8 + 7 * x ∨ 15 + 7 * x ≤ p) : bo sh c x p = false := by
  unfold bo
  rw [if_neg (by omega)]
  by_cases e : c.toInt = 259
  · rw [if_pos e]
    rcases h with h | h
    · simp [Nat.not_le.mpr h]
    · by_cases e2 : p - (8 + 7 * x) < 32
      · rw [bt_30 _ e2 (by omega)]; simp
      · rw [bt_big (by omega)]; simp
  · rw [if_neg e]
theorem bo_dv {sh : Nat} {c : Int32} {x j : Nat} (hc : c.toInt < 256) : bo sh c x (sh + j) = bt c j := by
  unfold bo
  rw [if_pos hc]; simp
theorem bo_cv {sh : Nat} {c : Int32} {x j : Nat} (hc : c.toInt = 256 ∨ c.toInt = 259) : bo sh c x (8 + 7 * x + j) = (decide (¬ c.toInt = 256) && bt 30 j) := by
  unfold bo
  rw [if_neg (by omega)]
  rcases hc with e | e
  · rw [if_neg (by omega)]; simp [e]
  · rw [if_pos e]; simp [e]
def tyR (g : Nat → Int32) (r : Int32) : Prop := (r.toInt = -1 ∧ aD g 0 8) ∨ (∃ d, d < 8 ∧ gEnd g d ∧ r = st_k d) ∨ (r.toInt = 120 ∧ gSt g) ∨ (r.toInt = 51 ∧ gMid g) ∨ (r.toInt = 30 ∧ aQ g 0 8) ∨ (r.toInt = -2 ∧ ¬ aD g 0 8 ∧ ¬ gSt g ∧ ¬ gMid g ∧ (∀ d, d < 8 → ¬ gEnd g d) ∧ ¬ aQ g 0 8)
theorem no_end {g : Nat → Int32} {d0 : Nat} (h1 : aD g 0 d0) (h2 : 256 ≤ (g d0).toInt) (h3 : ¬ ((g d0).toInt = 258 ∧ aQ g (d0 + 1) 8)) : ∀ d, d < 8 → ¬ gEnd g d := by
  intro d hd c
  rcases Nat.lt_trichotomy d d0 with h | h | h
  · have := h1 d (by omega) h
    have := c.1
    omega
  · subst h
    exact h3 ⟨c.1, c.2.2⟩
  · have := c.2.1 d0 (by omega) h
    omega
/-! one case holds: the relation -/
theorem x_st_end {g : Nat → Int32} {d : Nat} (hd : d < 8) (a : gSt g) (b : gEnd g d) : False := by
  rcases Nat.eq_zero_or_pos d with h | h
  · subst h; have := a.1; have := b.1; omega
  · have := b.2.1 0 (by omega) h; have := a.1; omega
theorem x_mid_end {g : Nat → Int32} {d : Nat} (hd : d < 8) (a : gMid g) (b : gEnd g d) : False := by
  have h0 := a.2.1 0 (by omega) (by omega)
  rcases Nat.eq_zero_or_pos d with h | h
  · subst h; have := b.1; omega
  · have := b.2.1 0 (by omega) h; omega
theorem x_all_end {g : Nat → Int32} {d : Nat} (hd : d < 8) (a : aD g 0 8) (b : gEnd g d) : False := by
  have := a d (by omega) hd; have := b.1; omega
theorem x_qui_end {g : Nat → Int32} {d : Nat} (hd : d < 8) (a : aQ g 0 8) (b : gEnd g d) : False := by
  have := a d (by omega) hd; have := b.1; omega
theorem x_end_end {g : Nat → Int32} {d e : Nat} (hd : d < 8) (he : e < 8) (a : gEnd g d) (b : gEnd g e) : d = e := by
  rcases Nat.lt_trichotomy d e with h | h | h
  · have := b.2.1 d (by omega) h; have := a.1; omega
  · exact h
  · have := a.2.1 e (by omega) h; have := b.1; omega
theorem x_all_st {g : Nat → Int32} (a : aD g 0 8) (b : gSt g) : False := by have := a 0 (by omega) (by omega); have := b.1; omega
theorem x_all_mid {g : Nat → Int32} (a : aD g 0 8) (b : gMid g) : False := by have := a 4 (by omega) (by omega); have := b.1; omega
theorem x_all_qui {g : Nat → Int32} (a : aD g 0 8) (b : aQ g 0 8) : False := by have := a 0 (by omega) (by omega); have := b 0 (by omega) (by omega); omega
theorem x_st_mid {g : Nat → Int32} (a : gSt g) (b : gMid g) : False := by have := b.2.1 0 (by omega) (by omega); have := a.1; omega
theorem x_st_qui {g : Nat → Int32} (a : gSt g) (b : aQ g 0 8) : False := by have := b 0 (by omega) (by omega); have := a.1; omega
theorem x_mid_qui {g : Nat → Int32} (a : gMid g) (b : aQ g 0 8) : False := by have := b 4 (by omega) (by omega); have := a.1; omega
theorem blkR_all {g : Nat → Int32} {B : Nat → Bool} (c : aD g 0 8) (h : B 0 = false ∧ B 1 = true ∧ fD g B 2 0 8) : blkR g B :=
  ⟨fun _ => h, fun k => (x_all_st c k).elim, fun k => (x_all_mid c k).elim, fun d hd k => (x_all_end hd c k).elim, fun k => (x_all_qui c k).elim, fun k => absurd c k⟩
theorem blkR_st {g : Nat → Int32} {B : Nat → Bool} (c : gSt g) (h : fT B 120 ∧ fD g B 2 1 8) : blkR g B :=
  ⟨fun k => (x_all_st k c).elim, fun _ => h, fun k => (x_st_mid c k).elim, fun d hd k => (x_st_end hd c k).elim, fun k => (x_st_qui c k).elim, fun _ k => absurd c k⟩
theorem blkR_mid {g : Nat → Int32} {B : Nat → Bool} (c : gMid g) (h : fT B 51 ∧ fC g B 0 4 ∧ fZ B 38 42 ∧ fD g B 2 5 8) : blkR g B :=
  ⟨fun k => (x_all_mid k c).elim, fun k => (x_st_mid k c).elim, fun _ => h, fun d hd k => (x_mid_end hd c k).elim, fun k => (x_mid_qui c k).elim, fun _ _ k => absurd c k⟩
theorem blkR_end {g : Nat → Int32} {B : Nat → Bool} {d : Nat} (hd : d < 8) (c : gEnd g d) (h : fT B (st_k d) ∧ fD g B 10 0 d ∧ fZ B (10 + 8 * d) (17 + 7 * d) ∧ fC g B (d + 1) 8) : blkR g B :=
  ⟨fun k => (x_all_end hd k c).elim, fun k => (x_st_end hd k c).elim, fun k => (x_mid_end hd k c).elim, fun e he k => by rw [← x_end_end hd he c k]; exact h, fun k => (x_qui_end hd k c).elim, fun _ _ _ k => absurd c (k d hd)⟩
theorem blkR_qui {g : Nat → Int32} {B : Nat → Bool} (c : aQ g 0 8) (h : fT B 30 ∧ fC g B 0 8) : blkR g B :=
  ⟨fun k => (x_all_qui k c).elim, fun k => (x_st_qui k c).elim, fun k => (x_mid_qui k c).elim, fun d hd k => (x_qui_end hd c k).elim, fun _ => h, fun _ _ _ _ k => absurd c k⟩
theorem blkR_err {g : Nat → Int32} {B : Nat → Bool} (c1 : ¬ aD g 0 8) (c2 : ¬ gSt g) (c3 : ¬ gMid g) (c4 : ∀ d, d < 8 → ¬ gEnd g d) (c5 : ¬ aQ g 0 8) (h : fT B 30 ∧ fE B) : blkR g B :=
  ⟨fun k => absurd k c1, fun k => absurd k c2, fun k => absurd k c3, fun d hd k => absurd k (c4 d hd), fun k => absurd k c5, fun _ _ _ _ _ => h⟩
theorem bl_30 : ∀ j, j < 64 → bl 30 j = bt 30 j := by decide +kernel
theorem bl_cn {c : Int32} (h : 0 ≤ c.toInt) {j : Nat} (hj : j < 64) : bl c.toInt64 j = bt c j := by
  rw [bl_i2l _ hj]
  by_cases h2 : j < 32
  · rw [if_pos h2]
  · rw [if_neg h2, bt_big (Nat.not_lt.mp h2)]
    obtain ⟨n, hn, rfl⟩ := nI_of (x := c) (by rw [Int32.lt_iff_toInt_lt, zi_0]; omega)
    show (BitVec.ofNat 32 n).getLsbD 31 = false
    rw [BitVec.getLsbD_ofNat, Nat.testBit_lt_two_pow hn]; simp
def tb (ty : Int32) (q : Nat) : Bool := if ty.toInt = -1 then false else bt ty q
end
section
/-! a group sent: what comes onto the line -/
def txB (σ B : Nat → Bool) (q : Nat) : Bool := if q < 2 then B q else scB σ (fun k => B (k + 2)) (q - 2)
def sndR (B : Nat → Bool) (cn cn2 : Int) (σ σ2 : Nat → Bool) (X X2 : Int → Bool) : Prop :=
  cn2 = cn + 66 ∧ (∀ q : Nat, q < 66 → X2 (cn + q) = txB σ B q) ∧ (∀ j : Int, 0 ≤ j → j < cn → X2 j = X j) ∧ ∀ j, j < 58 → σ2 j = scS σ (fun k => B (k + 2)) 64 j
def sameX (cn : Int) (X Y : Int → Bool) : Prop := ∀ j : Int, 0 ≤ j → j < cn → X j = Y j
def sameS (σ τ : Nat → Bool) : Prop := ∀ j, j < 58 → σ j = τ j
theorem sndR_cg {B C σ σ2 τ τ2 : Nat → Bool} {X X2 Y Y2 : Int → Bool} {cn cn2 dn dn2 : Int} (hc : cn = dn) (h0 : 0 ≤ cn) (hB : ∀ q, q < 66 → B q = C q) (hσ : sameS σ τ) (hX : sameX cn X Y) (h : sndR B cn cn2 σ σ2 X X2) (k : sndR C dn dn2 τ τ2 Y Y2) : cn2 = dn2 ∧ sameS σ2 τ2 ∧ sameX cn2 X2 Y2 := by
  obtain rfl := hc
  obtain ⟨h1, h2, h3, h4⟩ := h
  obtain ⟨k1, k2, k3, k4⟩ := k
  refine ⟨by omega, fun j hj => ?_, fun j a b => ?_⟩
  · rw [h4 j hj, k4 j hj]
    exact scS_cg hσ 64 (fun i hi => hB _ (by omega)) j hj
  · rcases (show j < cn ∨ cn ≤ j by omega) with c | c
    · rw [h3 j a c, k3 j a c]
      exact hX j a c
    · obtain ⟨q, rfl⟩ : ∃ q : Nat, j = cn + q := ⟨(j - cn).toNat, by omega⟩
      rw [h2 q (by omega), k2 q (by omega)]
      unfold txB
      by_cases e : q < 2
      · rw [if_pos e, if_pos e, hB q (by omega)]
      · rw [if_neg e, if_neg e]
        exact scB_cg hσ _ (fun i hi => hB _ (by omega))
/-- head and payload as 66 bits -/
def hpB (hd : Int32) (pl : Int64) (q : Nat) : Bool := if q = 0 then bt hd 1 else if q = 1 then bt hd 0 else bl pl (q - 2)
theorem hpB_2 (hd : Int32) (pl : Int64) (k : Nat) : hpB hd pl (k + 2) = bl pl k := by
  unfold hpB
  rw [if_neg (by omega), if_neg (by omega)]
  rfl
theorem hpB_2' (hd : Int32) (pl : Int64) (k : Nat) : hpB hd pl (2 + k) = bl pl k := by rw [Nat.add_comm, hpB_2]
theorem hd_1 {hd : Int32} (h : hd.toInt = 1) : bt hd 1 = false ∧ bt hd 0 = true := by
  obtain rfl : hd = 1 := Int32.toInt_inj.mp (h.trans (by decide))
  decide
theorem hd_2 {hd : Int32} (h : hd.toInt = 2) : bt hd 1 = true ∧ bt hd 0 = false := by
  obtain rfl : hd = 2 := Int32.toInt_inj.mp (h.trans (by decide))
  decide
theorem hpB_0 (hd : Int32) (pl : Int64) : hpB hd pl 0 = bt hd 1 := rfl
theorem hpB_1 (hd : Int32) (pl : Int64) : hpB hd pl 1 = bt hd 0 := rfl
def pbits (g : Nat → Int32) (ty : Int32) (pl : Int64) : Prop := (¬ (∃ d, d < 8 ∧ ty = st_k d) → ∀ q, q < 64 → bl pl q = (tb ty q || orb (fun j => bo (0 + 8 * j) (g j) j q) 8)) ∧ ((∃ d, d < 8 ∧ ty = st_k d) → ∀ q, q < 64 → bl pl q = (tb ty q || orb (fun j => bo (8 + 8 * j) (g j) j q) 8))
theorem st_ne : ∀ d, d < 8 → ¬ (st_k d).toInt = -1 ∧ ¬ (st_k d).toInt = 120 ∧ ¬ (st_k d).toInt = 51 ∧ ¬ (st_k d).toInt = 30 ∧ ¬ (st_k d).toInt = -2 ∧ 0 ≤ (st_k d).toInt ∧ (st_k d).toInt ≤ 255 := by decide +kernel
theorem no_eT {ty : Int32} (h : ty.toInt = -1 ∨ ty.toInt = 120 ∨ ty.toInt = 51 ∨ ty.toInt = 30) : ¬ ∃ d, d < 8 ∧ ty = st_k d := by
  rintro ⟨d, hd, rfl⟩
  have := st_ne d hd
  omega
theorem tb_lo {ty : Int32} (h : 0 ≤ ty.toInt ∧ ty.toInt ≤ 255) {q : Nat} : tb ty q = bt ty q := by
  unfold tb
  rw [if_neg (by omega)]
theorem tb_hi {ty : Int32} (h : ty.toInt = -1 ∨ (0 ≤ ty.toInt ∧ ty.toInt ≤ 255)) {q : Nat} (hq : 8 ≤ q) : tb ty q = false := by
  unfold tb
  by_cases e : ty.toInt = -1
  · rw [if_pos e]
  · rw [if_neg e]
    exact bt_hi (by omega) hq
theorem bo_n {sh : Nat} {c : Int32} {x p : Nat} (h : 256 ≤ c.toInt) (h2 : ¬ c.toInt = 259) : bo sh c x p = false := by
  unfold bo
  rw [if_neg (by omega), if_neg h2]
/-- fields of a payload whose bytes stand at 8 j + o -/
theorem pf_d {g : Nat → Int32} {ty : Int32} {o : Nat} (ho : o ≤ 8) (hg : ∀ j, j < 8 → 0 ≤ (g j).toInt ∧ (g j).toInt ≤ 259) (hty : ty.toInt = -1 ∨ (0 ≤ ty.toInt ∧ ty.toInt ≤ 255)) {k j : Nat} (hk : k < 8) (hj : j < 8) (h8 : 8 ≤ o + 8 * k + j ∨ ty.toInt = -1) (hd : (g k).toInt < 256) (hx : ∀ i, i < 8 → i ≠ k → (g i).toInt = 259 → o + 8 * k + j < 8 + 7 * i ∨ 15 + 7 * i ≤ o + 8 * k + j) (hp : o + 8 * k + j < 64) : (tb ty (o + 8 * k + j) || orb (fun i => bo (o + 8 * i) (g i) i (o + 8 * k + j)) 8) = bt (g k) j := by
  have ht : tb ty (o + 8 * k + j) = false := by
    rcases h8 with h | h
    · exact tb_hi hty h
    · unfold tb; rw [if_pos h]
  rw [ht, orb_one (k0 := k) 8 hk (fun i hi hne => ?_)]
  · show (false || bo (o + 8 * k) (g k) k (o + 8 * k + j)) = _
    rw [bo_dv hd]; simp
  · show bo (o + 8 * i) (g i) i (o + 8 * k + j) = false
    by_cases c : (g i).toInt < 256
    · exact bo_d ⟨(hg i hi).1, c⟩ (by omega)
    · by_cases c2 : (g i).toInt = 259
      · exact bo_c (by omega) hi hp (hx i hi hne c2)
      · exact bo_n (by omega) c2
theorem pf_c {g : Nat → Int32} {ty : Int32} {o : Nat} (hg : ∀ j, j < 8 → 0 ≤ (g j).toInt ∧ (g j).toInt ≤ 259) (hty : 0 ≤ ty.toInt ∧ ty.toInt ≤ 255) {k j : Nat} (hk : k < 8) (hj : j < 7) (hc : (g k).toInt = 256 ∨ (g k).toInt = 259) (hx : ∀ i, i < 8 → (g i).toInt < 256 → 8 + 7 * k + j < o + 8 * i ∨ o + 8 * i + 8 ≤ 8 + 7 * k + j) : (tb ty (8 + 7 * k + j) || orb (fun i => bo (o + 8 * i) (g i) i (8 + 7 * k + j)) 8) = (decide (¬ (g k).toInt = 256) && bt 30 j) := by
  rw [tb_hi (Or.inr hty) (by omega), orb_one (k0 := k) 8 hk (fun i hi hne => ?_)]
  · show (false || bo (o + 8 * k) (g k) k (8 + 7 * k + j)) = _
    rw [bo_cv hc]; simp
  · show bo (o + 8 * i) (g i) i (8 + 7 * k + j) = false
    by_cases c : (g i).toInt < 256
    · exact bo_d ⟨(hg i hi).1, c⟩ (hx i hi c)
    · exact bo_c (by omega) hi (by omega) (by omega)
theorem pf_z {g : Nat → Int32} {ty : Int32} {o q : Nat} (hg : ∀ j, j < 8 → 0 ≤ (g j).toInt ∧ (g j).toInt ≤ 259) (hty : 0 ≤ ty.toInt ∧ ty.toInt ≤ 255) (hq : 8 ≤ q ∧ q < 64) (hx : ∀ i, i < 8 → ((g i).toInt < 256 → q < o + 8 * i ∨ o + 8 * i + 8 ≤ q) ∧ ((g i).toInt = 259 → q < 8 + 7 * i ∨ 15 + 7 * i ≤ q)) : (tb ty q || orb (fun i => bo (o + 8 * i) (g i) i q) 8) = false := by
  rw [tb_hi (Or.inr hty) hq.1, orb_none 8 (fun i hi => ?_)]
  · rfl
  · show bo (o + 8 * i) (g i) i q = false
    by_cases c : (g i).toInt < 256
    · exact bo_d ⟨(hg i hi).1, c⟩ ((hx i hi).1 c)
    · by_cases c2 : (g i).toInt = 259
      · exact bo_c (by omega) hi hq.2 ((hx i hi).2 c2)
      · exact bo_n (by omega) c2
theorem pf_t {g : Nat → Int32} {ty : Int32} {o q : Nat} (hg : ∀ j, j < 8 → 0 ≤ (g j).toInt ∧ (g j).toInt ≤ 259) (hty : 0 ≤ ty.toInt ∧ ty.toInt ≤ 255) (hq : q < 8) (hx : ∀ i, i < 8 → (g i).toInt < 256 → 8 ≤ o + 8 * i) : (tb ty q || orb (fun i => bo (o + 8 * i) (g i) i q) 8) = bt ty q := by
  rw [tb_lo hty, orb_none 8 (fun i hi => ?_)]
  · simp
  · show bo (o + 8 * i) (g i) i q = false
    by_cases c : (g i).toInt < 256
    · have := hx i hi c
      exact bo_d ⟨(hg i hi).1, c⟩ (by omega)
    · exact bo_c (by omega) hi (by omega) (by omega)

theorem i_of {x y : Int32} {z : Int} (h : x.toInt = z) (hy : y.toInt = z) : x = y := Int32.toInt_inj.mp (h.trans hy.symm)
/-- what the class sends of a group whose type it has found -/
theorem cls_blk {g : Nat → Int32} {ty hd : Int32} {pl : Int64} (hg : ∀ j, j < 8 → 0 ≤ (g j).toInt ∧ (g j).toInt ≤ 259) (hty : tyR g ty) (hne : ¬ ty.toInt = -2) (h1 : ty.toInt = -1 → hd.toInt = 1) (h2 : ¬ ty.toInt = -1 → hd.toInt = 2) (hp : pbits g ty pl) : blkR g (hpB hd pl) := by
  rcases hty with ⟨e, c⟩ | ⟨d, hd8, c, e⟩ | ⟨e, c⟩ | ⟨e, c⟩ | ⟨e, c⟩ | ⟨e, _⟩
  · have hb := hp.1 (no_eT (by omega))
    have hh := hd_1 (h1 e)
    refine blkR_all c ⟨hh.1, hh.2, fun k a b j hj => ?_⟩
    rw [show 2 + 8 * k + j = 2 + (0 + 8 * k + j) by omega, hpB_2', hb _ (by omega)]
    exact pf_d (by omega) hg (Or.inl e) b hj (Or.inr e) (c k (by omega) b) (fun i hi hn q => by have := c i (by omega) hi; omega) (by omega)
  · have sn := st_ne d hd8
    rw [← e] at sn
    have hb := hp.2 ⟨d, hd8, e⟩
    have hh := hd_2 (h2 (by omega))
    refine blkR_end hd8 c ⟨⟨hh.1, hh.2, fun j hj => ?_⟩, fun k a b j hj => ?_, fun q a b => ?_, fun k a b j hj => ?_⟩
    · rw [hpB_2', hb _ (by omega), pf_t hg (by omega) hj (fun i hi _ => by omega), e]
    · rw [show 10 + 8 * k + j = 2 + (8 + 8 * k + j) by omega, hpB_2', hb _ (by omega)]
      exact pf_d (by omega) hg (Or.inr (by omega)) (by omega) hj (Or.inl (by omega)) (c.2.1 k (by omega) b) (fun i hi hn q => by
        rcases (show i < d ∨ i = d ∨ d < i by omega) with x | x | x
        · have := c.2.1 i (by omega) x; omega
        · subst x; have := c.1; omega
        · omega) (by omega)
    · rw [show q = 2 + (q - 2) by omega, hpB_2', hb _ (by omega)]
      refine pf_z hg (by omega) (by omega) (fun i hi => ⟨fun q9 => ?_, fun q9 => ?_⟩)
      · rcases (show i < d ∨ i = d ∨ d < i by omega) with x | x | x
        · omega
        · subst x; have := c.1; omega
        · have := c.2.2 i (by omega) hi; omega
      · rcases (show i < d ∨ i = d ∨ d < i by omega) with x | x | x
        · have := c.2.1 i (by omega) x; omega
        · subst x; have := c.1; omega
        · omega
    · rw [show 10 + 7 * k + j = 2 + (8 + 7 * k + j) by omega, hpB_2', hb _ (by omega)]
      exact pf_c hg (by omega) b hj (c.2.2 k (by omega) b) (fun i hi q => by
        rcases (show i < d ∨ i = d ∨ d < i by omega) with x | x | x
        · omega
        · subst x; have := c.1; omega
        · have := c.2.2 i (by omega) hi; omega)
  · have hb := hp.1 (no_eT (by omega))
    have hh := hd_2 (h2 (by omega))
    refine blkR_st c ⟨⟨hh.1, hh.2, fun j hj => ?_⟩, fun k a b j hj => ?_⟩
    · rw [hpB_2', hb _ (by omega), pf_t hg (by omega) hj (fun i hi q => by rcases (show i = 0 ∨ 1 ≤ i by omega) with x | x; (· subst x; have := c.1; omega); (· omega)), i_of e (y := 120) (by decide)]
    · rw [show 2 + 8 * k + j = 2 + (0 + 8 * k + j) by omega, hpB_2', hb _ (by omega)]
      exact pf_d (by omega) hg (Or.inr (by omega)) b hj (Or.inl (by omega)) (c.2 k a b) (fun i hi hn q => by rcases (show i = 0 ∨ 1 ≤ i by omega) with x | x; (· subst x; have := c.1; omega); (· have := c.2 i x hi; omega)) (by omega)
  · have hb := hp.1 (no_eT (by omega))
    have hh := hd_2 (h2 (by omega))
    have kd : ∀ i, i < 8 → (i < 4 ∧ ((g i).toInt = 256 ∨ (g i).toInt = 259)) ∨ (i = 4 ∧ (g i).toInt = 257) ∨ (5 ≤ i ∧ (g i).toInt < 256) := fun i hi => by
      rcases (show i < 4 ∨ i = 4 ∨ 5 ≤ i by omega) with x | x | x
      · exact Or.inl ⟨x, c.2.1 i (by omega) x⟩
      · subst x; exact Or.inr (Or.inl ⟨rfl, c.1⟩)
      · exact Or.inr (Or.inr ⟨x, c.2.2 i x hi⟩)
    refine blkR_mid c ⟨⟨hh.1, hh.2, fun j hj => ?_⟩, fun k a b j hj => ?_, fun q a b => ?_, fun k a b j hj => ?_⟩
    · rw [hpB_2', hb _ (by omega), pf_t hg (by omega) hj (fun i hi q => by have := kd i hi; omega), i_of e (y := 51) (by decide)]
    · rw [show 10 + 7 * k + j = 2 + (8 + 7 * k + j) by omega, hpB_2', hb _ (by omega)]
      exact pf_c hg (by omega) (by omega) hj (c.2.1 k (by omega) b) (fun i hi q => by have := kd i hi; omega)
    · rw [show q = 2 + (q - 2) by omega, hpB_2', hb _ (by omega)]
      exact pf_z hg (by omega) (by omega) (fun i hi => ⟨fun q9 => by have := kd i hi; omega, fun q9 => by have := kd i hi; omega⟩)
    · rw [show 2 + 8 * k + j = 2 + (0 + 8 * k + j) by omega, hpB_2', hb _ (by omega)]
      exact pf_d (by omega) hg (Or.inr (by omega)) b hj (Or.inl (by omega)) (c.2.2 k a b) (fun i hi hn q => by have := kd i hi; omega) (by omega)
  · have hb := hp.1 (no_eT (by omega))
    have hh := hd_2 (h2 (by omega))
    refine blkR_qui c ⟨⟨hh.1, hh.2, fun j hj => ?_⟩, fun k a b j hj => ?_⟩
    · rw [hpB_2', hb _ (by omega), pf_t hg (by omega) hj (fun i hi q => by have := c i (by omega) hi; omega), i_of e (y := 30) (by decide)]
    · rw [show 10 + 7 * k + j = 2 + (8 + 7 * k + j) by omega, hpB_2', hb _ (by omega)]
      exact pf_c hg (by omega) b hj (c k a b) (fun i hi q => by have := c i (by omega) hi; omega)
  · exact absurd e hne
/-- .. and of one that has none: all errors -/
theorem cls_err {g g2 : Nat → Int32} {ty tz hd : Int32} {pl : Int64} (hty : tyR g tz) (hz : tz.toInt = -2) (h9 : ∀ j, j < 8 → (g2 j).toInt = 259) (e : ty.toInt = 30) (h2 : hd.toInt = 2) (hp : pbits g2 ty pl) : blkR g (hpB hd pl) := by
  have hg : ∀ j, j < 8 → 0 ≤ (g2 j).toInt ∧ (g2 j).toInt ≤ 259 := fun j hj => by have := h9 j hj; omega
  have hb := hp.1 (no_eT (by omega))
  have hh := hd_2 h2
  have key : fT (hpB hd pl) 30 ∧ fE (hpB hd pl) := by
    refine ⟨⟨hh.1, hh.2, fun j hj => ?_⟩, fun k b j hj => ?_⟩
    · rw [hpB_2', hb _ (by omega), pf_t hg (by omega) hj (fun i hi q => by have := h9 i hi; omega), i_of e (y := 30) (by decide)]
    · rw [show 10 + 7 * k + j = 2 + (8 + 7 * k + j) by omega, hpB_2', hb _ (by omega)]
      rw [pf_c hg (by omega) b hj (Or.inr (h9 k b)) (fun i hi q => by have := h9 i hi; omega)]
      simp [h9 k b]
  rcases hty with ⟨q, _⟩ | ⟨d, hd8, _, q⟩ | ⟨q, _⟩ | ⟨q, _⟩ | ⟨q, _⟩ | ⟨_, c1, c2, c3, c4, c5⟩
  · omega
  · have := st_ne d hd8
    rw [← q] at this
    omega
  · omega
  · omega
  · omega
  · exact blkR_err c1 c2 c3 c4 c5 key

def sndI (hd : Int32) (pl : Int64) (f c : Int) (fw fw3 : Nat → Int64) (la la3 : Int64) (k : Nat) : Prop := (∀ j : Int, 0 ≤ j → j < c → lnB fw3 f j = lnB fw f j) ∧ (lnB fw3 f c = bt hd 1 ∧ lnB fw3 f (c + 1) = bt hd 0) ∧ (∀ q : Nat, q < k → lnB fw3 f (c + 2 + q) = scB (bl la) (bl pl) q) ∧ ∀ j, j < 58 → bl la3 j = scS (bl la) (bl pl) k j
theorem sndI_0 {hd b1 b0 : Int32} {pl : Int64} {f c d : Int} {fw fw1 fw2 : Nat → Int64} {la : Int64} (hc : 0 ≤ c ∧ c + 66 ≤ 9087) (hd' : d = c + 1) (h1 : ∀ j : Int, lnB fw1 f j = if (f + j) % 9088 = (f + c) % 9088 then bt b1 0 else lnB fw f j) (h2 : ∀ j : Int, lnB fw2 f j = if (f + j) % 9088 = (f + d) % 9088 then bt b0 0 else lnB fw1 f j) (e1 : bt b1 0 = bt hd 1) (e0 : bt b0 0 = bt hd 0) : sndI hd pl f c fw fw2 la la 0 := by
  subst hd'
  refine ⟨fun j a b => ?_, ⟨?_, ?_⟩, fun q hq => absurd hq (by omega), fun j _ => rfl⟩
  · rw [h2, if_neg (by omega), h1, if_neg (by omega)]
  · rw [h2, if_neg (by omega), h1, if_pos rfl, e1]
  · rw [h2, if_pos rfl, e0]
theorem sndI_s {hd r b : Int32} {pl : Int64} {f c d : Int} {fw fw3 fw4 : Nat → Int64} {la la3 la4 : Int64} {k : Nat} (hc : 0 ≤ c ∧ c + 66 ≤ 9087) (hk : k < 64) (hd' : d = c + 2 + k) (h : sndI hd pl f c fw fw3 la la3 k) (hb : bt b 0 = bl pl k) (hr : r = bi (scO (bl la3) (bt b 0))) (hl : ∀ j, j < 58 → bl la4 j = scN (bl la3) (scO (bl la3) (bt b 0)) j) (ha : ∀ j : Int, lnB fw4 f j = if (f + j) % 9088 = (f + d) % 9088 then bt r 0 else lnB fw3 f j) : sndI hd pl f c fw fw4 la la4 (k + 1) := by
  subst hd'
  obtain ⟨h1, h2, h3, h4⟩ := h
  have ho : scO (bl la3) (bt b 0) = scB (bl la) (bl pl) k := by
    unfold scB scO
    rw [h4 38 (by omega), h4 57 (by omega), hb]
  refine ⟨fun j a b => ?_, ⟨?_, ?_⟩, fun q hq => ?_, fun j hj => ?_⟩
  · rw [ha, if_neg (by omega), h1 j a b]
  · rw [ha, if_neg (by omega), h2.1]
  · rw [ha, if_neg (by omega), h2.2]
  · by_cases e : q = k
    · subst e
      rw [ha, if_pos rfl, hr, bi_t0, ho]
    · rw [ha, if_neg (by omega), h3 q (by omega)]
  · rw [hl j hj, ho]
    show scN (bl la3) _ j = scN (scS (bl la) (bl pl) k) (scO (scS (bl la) (bl pl) k) (bl pl k)) j
    unfold scN
    by_cases e : j = 0
    · rw [if_pos e, if_pos e]; rfl
    · rw [if_neg e, if_neg e, h4 (j - 1) (by omega)]
theorem sndI_e {hd : Int32} {pl : Int64} {f c d : Int} {fw fw3 : Nat → Int64} {la la3 : Int64} (hd' : d = c + 66) (h : sndI hd pl f c fw fw3 la la3 64) : sndR (hpB hd pl) c d (bl la) (bl la3) (lnB fw f) (lnB fw3 f) := by
  obtain ⟨h1, h2, h3, h4⟩ := h
  have hp : (fun k => hpB hd pl (k + 2)) = bl pl := funext (fun k => hpB_2 hd pl k)
  refine ⟨hd', fun q hq => ?_, h1, fun j hj => ?_⟩
  · unfold txB
    rw [hp]
    rcases (show q = 0 ∨ q = 1 ∨ 2 ≤ q by omega) with rfl | rfl | e
    · rw [if_pos (by omega), hpB_0, ← h2.1]; simp
    · rw [if_pos (by omega), hpB_1, ← h2.2]; simp
    · rw [if_neg (by omega), ← h3 (q - 2) (by omega)]
      congr 1
      omega
  · rw [hp]; exact h4 j hj
theorem iu_1 {hd v w : Int32} (hw : w = 1) (e : v = (hd.toUInt32 >>> (w.toUInt32 &&& Int32.toUInt32 31)).toInt32) (h : hd.toInt = 1 ∨ hd.toInt = 2) : v = bi (bt hd 1) := by
  rcases h with h | h
  · obtain rfl : hd = 1 := Int32.toInt_inj.mp (h.trans (by decide))
    rw [e, hw]; decide
  · obtain rfl : hd = 2 := Int32.toInt_inj.mp (h.trans (by decide))
    rw [e, hw]; decide
theorem ty_7 {g : Nat → Int32} {ty : Int32} (h : tyR g ty) : (∃ d, d < 8 ∧ ty = st_k d) → 256 ≤ (g 7).toInt := by
  rintro ⟨d, hd, e⟩
  have sn := st_ne d hd
  rw [← e] at sn
  rcases h with ⟨q, _⟩ | ⟨d2, hd2, c, _⟩ | ⟨q, _⟩ | ⟨q, _⟩ | ⟨q, _⟩ | ⟨q, _⟩
  · omega
  · rcases (show d2 = 7 ∨ d2 < 7 by omega) with x | x
    · subst x; have := c.1; omega
    · have := c.2.2 7 (by omega) (by omega); omega
  · omega
  · omega
  · omega
  · omega
theorem ty_rg {g : Nat → Int32} {ty : Int32} (h : tyR g ty) (hne : ¬ ty.toInt = -2) : ty.toInt = -1 ∨ (0 ≤ ty.toInt ∧ ty.toInt ≤ 255) := by
  rcases h with ⟨q, _⟩ | ⟨d, hd, _, e⟩ | ⟨q, _⟩ | ⟨q, _⟩ | ⟨q, _⟩ | ⟨q, _⟩
  · omega
  · have sn := st_ne d hd
    rw [← e] at sn
    omega
  · omega
  · omega
  · omega
  · omega
end
section
/-! characters taken in, on an abstract state: waiting, bits, group, scrambler, line -/
def accR (c : Int32) (wa wa2 cn cn2 : Int) (g g2 : Nat → Int32) (σ σ2 : Nat → Bool) (X X2 : Int → Bool) : Prop :=
  (wa < 7 → wa2 = wa + 1 ∧ cn2 = cn ∧ (∀ k : Nat, (k : Int) < wa → g2 k = g k) ∧ g2 wa.toNat = c ∧ sameS σ σ2 ∧ sameX cn X X2) ∧
  (wa = 7 → wa2 = 0 ∧ ∃ (G : Nat → Int32) (B : Nat → Bool), (∀ k, k < 7 → G k = g k) ∧ G 7 = c ∧ blkR G B ∧ sndR B cn cn2 σ σ2 X X2)
def cplR (wa cn : Int) (g h : Nat → Int32) (σ τ : Nat → Bool) (X Y : Int → Bool) : Prop := (∀ k : Nat, (k : Int) < wa → g k = h k) ∧ sameS σ τ ∧ sameX cn X Y
theorem accR_cg {c : Int32} {wa wa2 cn cn2 wb wb2 dn dn2 : Int} {g g2 h h2 : Nat → Int32} {σ σ2 τ τ2 : Nat → Bool} {X X2 Y Y2 : Int → Bool} (hw : wa = wb) (hc : cn = dn) (r : (0 ≤ wa ∧ wa < 8) ∧ 0 ≤ cn) (p : cplR wa cn g h σ τ X Y) (a : accR c wa wa2 cn cn2 g g2 σ σ2 X X2) (b : accR c wb wb2 dn dn2 h h2 τ τ2 Y Y2) : wa2 = wb2 ∧ cn2 = dn2 ∧ cplR wa2 cn2 g2 h2 σ2 τ2 X2 Y2 := by
  obtain rfl := hw
  obtain rfl := hc
  rcases (show wa < 7 ∨ wa = 7 by omega) with e | e
  · obtain ⟨a1, a2, a3, a4, a5, a6⟩ := a.1 e
    obtain ⟨b1, b2, b3, b4, b5, b6⟩ := b.1 e
    refine ⟨by omega, by omega, fun k hk => ?_, fun j hj => ?_, fun j x y => ?_⟩
    · rcases (show (k : Int) < wa ∨ k = wa.toNat by omega) with q | q
      · rw [a3 k q, b3 k q, p.1 k q]
      · rw [q, a4, b4]
    · rw [← a5 j hj, ← b5 j hj, p.2.1 j hj]
    · rw [← a6 j x (by omega), ← b6 j x (by omega), p.2.2 j x (by omega)]
  · obtain ⟨a1, G, B, a2, a3, a4, a5⟩ := a.2 e
    obtain ⟨b1, G', B', b2, b3, b4, b5⟩ := b.2 e
    have hG : ∀ k, k < 8 → G k = G' k := fun k hk => by
      rcases (show k < 7 ∨ k = 7 by omega) with q | q
      · rw [a2 k q, b2 k q, p.1 k (by omega)]
      · rw [q, a3, b3]
    obtain ⟨c1, c2, c3⟩ := sndR_cg rfl r.2 (blkR_eq hG a4 b4) p.2.1 p.2.2 a5 b5
    exact ⟨by omega, c1, fun k hk => absurd hk (by omega), c2, c3⟩
abbrev Ab : Type := Int × Int × (Nat → Int32) × (Nat → Bool) × (Int → Bool)
def acc1 (c : Int32) (s t : Ab) : Prop := accR c s.1 t.1 s.2.1 t.2.1 s.2.2.1 t.2.2.1 s.2.2.2.1 t.2.2.2.1 s.2.2.2.2 t.2.2.2.2
def accL : List Int32 → Ab → Ab → Prop
  | [], s, t => s = t
  | c :: cs, s, t => ∃ m, acc1 c s m ∧ accL cs m t
theorem accL_snoc {c : Int32} : ∀ {cs : List Int32} {s m t : Ab}, accL cs s m → acc1 c m t → accL (cs ++ [c]) s t := by
  intro cs
  induction cs with
  | nil => intro s m t h k; cases h; exact ⟨t, k, rfl⟩
  | cons d cs ih => intro s m t h k; obtain ⟨m', h1, h2⟩ := h; exact ⟨m', h1, ih h2 k⟩
theorem accL_app {cs ds : List Int32} : ∀ {s m t : Ab}, accL cs s m → accL ds m t → accL (cs ++ ds) s t := by
  induction cs with
  | nil => intro s m t h k; cases h; exact k
  | cons d cs ih => intro s m t h k; obtain ⟨m', h1, h2⟩ := h; exact ⟨m', h1, ih h2 k⟩
def okA (s : Ab) : Prop := (0 ≤ s.1 ∧ s.1 < 8) ∧ 0 ≤ s.2.1
def cplA (s t : Ab) : Prop := s.1 = t.1 ∧ s.2.1 = t.2.1 ∧ cplR s.1 s.2.1 s.2.2.1 t.2.2.1 s.2.2.2.1 t.2.2.2.1 s.2.2.2.2 t.2.2.2.2
theorem acc1_ok {c : Int32} {s t : Ab} (h : okA s) (k : acc1 c s t) : okA t := by
  obtain ⟨⟨h1, h2⟩, h3⟩ := h
  rcases (show s.1 < 7 ∨ s.1 = 7 by omega) with e | e
  · obtain ⟨a1, a2, -⟩ := k.1 e
    exact ⟨by omega, by omega⟩
  · obtain ⟨a1, G, B, -, -, -, a5⟩ := k.2 e
    have := a5.1
    exact ⟨by omega, by omega⟩
theorem acc1_cg {c : Int32} {s t s2 t2 : Ab} (h : okA s) (p : cplA s t) (a : acc1 c s s2) (b : acc1 c t t2) : cplA s2 t2 := accR_cg p.1 p.2.1 h p.2.2 a b
theorem accL_cg : ∀ {cs : List Int32} {s t s2 t2 : Ab}, okA s → cplA s t → accL cs s s2 → accL cs t t2 → cplA s2 t2 := by
  intro cs
  induction cs with
  | nil => intro s t s2 t2 _ p a b; cases a; cases b; exact p
  | cons c cs ih =>
    intro s t s2 t2 h p a b
    obtain ⟨m, a1, a2⟩ := a
    obtain ⟨n, b1, b2⟩ := b
    exact ih (acc1_ok h a1) (acc1_cg h p a1 b1) a2 b2
theorem accR_v {c : Int32} {wa wa2 cn cn2 : Int} {g g2 : Nat → Int32} {σ σ2 : Nat → Bool} {X X2 : Int → Bool} (h : ∀ k : Nat, (k : Int) < wa → 0 ≤ (g k).toInt ∧ (g k).toInt ≤ 259) (hc : 0 ≤ c.toInt ∧ c.toInt ≤ 259) (hw : 0 ≤ wa ∧ wa < 8) (a : accR c wa wa2 cn cn2 g g2 σ σ2 X X2) : ∀ k : Nat, (k : Int) < wa2 → 0 ≤ (g2 k).toInt ∧ (g2 k).toInt ≤ 259 := by
  intro k hk
  rcases (show wa < 7 ∨ wa = 7 by omega) with e | e
  · obtain ⟨a1, a2, a3, a4, -⟩ := a.1 e
    rcases (show (k : Int) < wa ∨ k = wa.toNat by omega) with q | q
    · rw [a3 k q]; exact h k q
    · rw [q, a4]; exact hc
  · obtain ⟨a1, -⟩ := a.2 e
    omega
/-- the bytes of an int, the highest first -/
def wch (w : Int32) (s : Nat) : Int32 := nI (w.toBitVec.toNat / 2 ^ s % 256)
def wl (w : Int32) : Nat → List Int32
  | 0 => []
  | n + 1 => wl w n ++ [wch w (24 - 8 * n)]
theorem su_k : ∀ k, k < 32 → (((nI k).toUInt32 &&& Int32.toUInt32 31).toBitVec % 32).toNat = k := by decide +kernel
theorem wch_u {w s x y r : Int32} {k : Nat} (hs : s.toInt = k) (hk : k < 32) (hx : x = (w.toUInt32 >>> (s.toUInt32 &&& Int32.toUInt32 31)).toInt32) (hy : y = 255) (hr : r = x &&& y) : r = wch w k := by
  have e : s = nI k := Int32.toInt_inj.mp (hs.trans (nI_toInt (by omega)).symm)
  rw [hr, hy, pk_and x 8 (m := 255) (by decide), hx, e, pk_ushr w (nI k) k (su_k k hk)]
  rfl
/-- idle groups sent -/
def idlR : Nat → Int → Int → (Nat → Bool) → (Nat → Bool) → (Int → Bool) → (Int → Bool) → Prop
  | 0, cn, cn2, σ, σ2, X, X2 => cn2 = cn ∧ sameS σ σ2 ∧ sameX cn X X2
  | n + 1, cn, cn2, σ, σ2, X, X2 => ∃ (d : Int) (τ : Nat → Bool) (Y : Int → Bool) (B : Nat → Bool), idlR n cn d σ τ X Y ∧ (∀ G : Nat → Int32, (∀ k, k < 8 → (G k).toInt = 256) → blkR G B) ∧ sndR B d cn2 τ σ2 Y X2
theorem blk_idle {hd : Int32} {pl : Int64} (h : hd.toInt = 2) (hp : pl = 30) : ∀ G : Nat → Int32, (∀ k, k < 8 → (G k).toInt = 256) → blkR G (hpB hd pl) := by
  intro G hG
  subst hp
  have hh := hd_2 h
  refine blkR_qui (fun k _ hk => Or.inl (hG k hk)) ⟨⟨hh.1, hh.2, fun j hj => ?_⟩, fun k a b j hj => ?_⟩
  · rw [hpB_2', bl_30 j (by omega)]
  · rw [show 10 + 7 * k + j = 2 + (8 + 7 * k + j) by omega, hpB_2', bl_30 _ (by omega)]
    rw [show bt 30 (8 + 7 * k + j) = false from by
      by_cases e2 : 8 + 7 * k + j < 32
      · exact bt_30 _ e2 (by omega)
      · exact bt_big (by omega)]
    simp [hG k b]
theorem idlR_cg : ∀ {n : Nat} {cn cn2 dn dn2 : Int} {σ σ2 τ τ2 : Nat → Bool} {X X2 Y Y2 : Int → Bool}, cn = dn → 0 ≤ cn → sameS σ τ → sameX cn X Y → idlR n cn cn2 σ σ2 X X2 → idlR n dn dn2 τ τ2 Y Y2 → (cn2 = dn2 ∧ 0 ≤ cn2) ∧ sameS σ2 τ2 ∧ sameX cn2 X2 Y2 := by
  intro n
  induction n with
  | zero =>
    intro cn cn2 dn dn2 σ σ2 τ τ2 X X2 Y Y2 hc h0 hs hX a b
    obtain rfl := hc
    obtain ⟨a1, a2, a3⟩ := a
    obtain ⟨b1, b2, b3⟩ := b
    refine ⟨by omega, fun j hj => ?_, fun j x y => ?_⟩
    · rw [← a2 j hj, ← b2 j hj, hs j hj]
    · rw [← a3 j x (by omega), ← b3 j x (by omega), hX j x (by omega)]
  | succ n ih =>
    intro cn cn2 dn dn2 σ σ2 τ τ2 X X2 Y Y2 hc h0 hs hX a b
    obtain ⟨d, t, Z, B, a1, a2, a3⟩ := a
    obtain ⟨d', t', Z', B', b1, b2, b3⟩ := b
    obtain ⟨⟨c1, c2⟩, c3, c4⟩ := ih hc h0 hs hX a1 b1
    have hB := blkR_eq (g := fun _ => nI 256) (g' := fun _ => nI 256) (fun _ _ => rfl) (a2 _ (fun _ _ => by decide)) (b2 _ (fun _ _ => by decide))
    obtain ⟨e1, e2, e3⟩ := sndR_cg c1 c2 hB c3 c4 a3 b3
    have := a3.1
    exact ⟨by omega, e2, e3⟩
/-! the model's reading of a group -/
def stD (al : Int32) (P : Prop) : Prop := (al.toInt = 1 ∧ P) ∨ (al.toInt = 0 ∧ ¬ P)
theorem stF {al v : Int32} {P P' : Prop} (h : stD al P) (h0 : al.toInt = 0) (hv : v.toInt = 0) (himp : P' → P) : stD v P' := by
  refine Or.inr ⟨hv, fun p' => ?_⟩
  rcases h with g | g
  · omega
  · exact g.2 (himp p')
theorem stT {al v : Int32} {P P' : Prop} (h : stD al P) (h0 : ¬ al.toInt = 0) (hv : v.toInt = 1) (himp : P → P') : stD v P' := by
  rcases h with g | g
  · exact Or.inl ⟨hv, himp g.2⟩
  · omega
theorem stX {v : Int32} {P' : Prop} (hv : v.toInt = 0) (himp : ¬ P') : stD v P' := Or.inr ⟨hv, himp⟩
theorem aD_s {g : Nat → Int32} {a k : Nat} (h : (g k).toInt < 256) (q : aD g a k) : aD g a (k + 1) := fun j x y => by
  rcases (show j < k ∨ j = k by omega) with e | e
  · exact q j x e
  · rw [e]; exact h
theorem aQ_s {g : Nat → Int32} {a k : Nat} (h : (g k).toInt = 256 ∨ (g k).toInt = 259) (q : aQ g a k) : aQ g a (k + 1) := fun j x y => by
  rcases (show j < k ∨ j = k by omega) with e | e
  · exact q j x e
  · rw [e]; exact h
theorem ss_k : ∀ n, n < 32 → ((nI n &&& 31).toBitVec.smod 32).toNat = n := by decide +kernel
theorem sb_k {x k : Int32} {n : Nat} (hk : k.toInt = n) (hn : n < 32) : bt (x >>> (k &&& 31)) 0 = bt x n := by
  have e : k = nI n := Int32.toInt_inj.mp (hk.trans (nI_toInt (by omega)).symm)
  rw [e]
  unfold bt
  rw [Int32.toBitVec_shiftRight]
  show (x.toBitVec.sshiftRight ((nI n &&& 31).toBitVec.smod 32).toNat).getLsbD 0 = _
  rw [ss_k n hn, BitVec.getLsbD_sshiftRight]
  simp [hn]
end
