section
-- ===== PART A: goes FIRST, ahead of the names: the tables' words, and 'selects' of the private methods out of them =====
/-- a private method of a class that the tables say can be made, by its rows of tables_1 -/
def lw_okq (q : MethodName × Nat) : Prop := (q.1.cls ≠ "java/lang/invoke/MethodHandle" ∧ q.1.cls ≠ "java/lang/invoke/VarHandle") ∧ Cond.instantiable q.1.cls q.2 ∈ tables_1 ∧ Cond.privateMethod q.1 ∈ tables_1 ∧ Cond.instanceMethod q.1 ∈ tables_1
theorem lw_p0 : lw_okq (⟨"LineBlocks$Sender", "sendGroup", "(LLineBlocks$Line;)V"⟩, 3) := ⟨⟨by decide +kernel, by decide +kernel⟩, List.mem_of_getElem? (i := 37) (by decide +kernel), List.mem_of_getElem? (i := 148) (by decide +kernel), List.mem_of_getElem? (i := 149) (by decide +kernel)⟩
theorem lw_p1 : lw_okq (⟨"LineBlocks$Sender", "sendBlock", "(IJLLineBlocks$Line;)V"⟩, 3) := ⟨⟨by decide +kernel, by decide +kernel⟩, List.mem_of_getElem? (i := 37) (by decide +kernel), List.mem_of_getElem? (i := 188) (by decide +kernel), List.mem_of_getElem? (i := 189) (by decide +kernel)⟩
theorem lw_p2 : lw_okq (⟨"LineBlocks$Line", "ringPlace", "(I)I"⟩, 3) := ⟨⟨by decide +kernel, by decide +kernel⟩, List.mem_of_getElem? (i := 20) (by decide +kernel), List.mem_of_getElem? (i := 196) (by decide +kernel), List.mem_of_getElem? (i := 197) (by decide +kernel)⟩
theorem lw_p3 : lw_okq (⟨"LineBlocks$Scrambler", "mixed", "(I)I"⟩, 1) := ⟨⟨by decide +kernel, by decide +kernel⟩, List.mem_of_getElem? (i := 43) (by decide +kernel), List.mem_of_getElem? (i := 208) (by decide +kernel), List.mem_of_getElem? (i := 209) (by decide +kernel)⟩
theorem lw_p4 : lw_okq (⟨"LineBlocks$Scrambler", "keep", "(I)V"⟩, 1) := ⟨⟨by decide +kernel, by decide +kernel⟩, List.mem_of_getElem? (i := 43) (by decide +kernel), List.mem_of_getElem? (i := 212) (by decide +kernel), List.mem_of_getElem? (i := 213) (by decide +kernel)⟩
theorem lw_p5 : lw_okq (⟨"LineBlocks$Receiver", "endBlock", "()V"⟩, 11) := ⟨⟨by decide +kernel, by decide +kernel⟩, List.mem_of_getElem? (i := 64) (by decide +kernel), List.mem_of_getElem? (i := 305) (by decide +kernel), List.mem_of_getElem? (i := 306) (by decide +kernel)⟩
theorem lw_p6 : lw_okq (⟨"LineBlocks$Receiver", "countInRow", "(Z)V"⟩, 11) := ⟨⟨by decide +kernel, by decide +kernel⟩, List.mem_of_getElem? (i := 64) (by decide +kernel), List.mem_of_getElem? (i := 320) (by decide +kernel), List.mem_of_getElem? (i := 321) (by decide +kernel)⟩
theorem lw_p7 : lw_okq (⟨"LineBlocks$Receiver", "slip", "()V"⟩, 11) := ⟨⟨by decide +kernel, by decide +kernel⟩, List.mem_of_getElem? (i := 64) (by decide +kernel), List.mem_of_getElem? (i := 324) (by decide +kernel), List.mem_of_getElem? (i := 325) (by decide +kernel)⟩
theorem lw_p8 : lw_okq (⟨"LineBlocks$Receiver", "beginRow", "()V"⟩, 11) := ⟨⟨by decide +kernel, by decide +kernel⟩, List.mem_of_getElem? (i := 64) (by decide +kernel), List.mem_of_getElem? (i := 328) (by decide +kernel), List.mem_of_getElem? (i := 329) (by decide +kernel)⟩
theorem lw_p9 : lw_okq (⟨"LineBlocks$Receiver", "countHit", "(Z)V"⟩, 11) := ⟨⟨by decide +kernel, by decide +kernel⟩, List.mem_of_getElem? (i := 64) (by decide +kernel), List.mem_of_getElem? (i := 332) (by decide +kernel), List.mem_of_getElem? (i := 333) (by decide +kernel)⟩
theorem lw_p10 : lw_okq (⟨"LineBlocks$Receiver", "beginBlock", "()V"⟩, 11) := ⟨⟨by decide +kernel, by decide +kernel⟩, List.mem_of_getElem? (i := 64) (by decide +kernel), List.mem_of_getElem? (i := 336) (by decide +kernel), List.mem_of_getElem? (i := 337) (by decide +kernel)⟩
theorem lw_p11 : lw_okq (⟨"LineBlocks$Groups", "isKept", "(I)Z"⟩, 3) := ⟨⟨by decide +kernel, by decide +kernel⟩, List.mem_of_getElem? (i := 72) (by decide +kernel), List.mem_of_getElem? (i := 356) (by decide +kernel), List.mem_of_getElem? (i := 357) (by decide +kernel)⟩
theorem lw_p12 : lw_okq (⟨"LineBlocksModel", "send", "()V"⟩, 17) := ⟨⟨by decide +kernel, by decide +kernel⟩, List.mem_of_getElem? (i := 399) (by decide +kernel), List.mem_of_getElem? (i := 468) (by decide +kernel), List.mem_of_getElem? (i := 469) (by decide +kernel)⟩
theorem lw_p13 : lw_okq (⟨"LineBlocksModel", "encode", "()V"⟩, 17) := ⟨⟨by decide +kernel, by decide +kernel⟩, List.mem_of_getElem? (i := 399) (by decide +kernel), List.mem_of_getElem? (i := 472) (by decide +kernel), List.mem_of_getElem? (i := 473) (by decide +kernel)⟩
theorem lw_p14 : lw_okq (⟨"LineBlocksModel", "are", "(IIZ)Z"⟩, 17) := ⟨⟨by decide +kernel, by decide +kernel⟩, List.mem_of_getElem? (i := 399) (by decide +kernel), List.mem_of_getElem? (i := 476) (by decide +kernel), List.mem_of_getElem? (i := 477) (by decide +kernel)⟩
theorem lw_p15 : lw_okq (⟨"LineBlocksModel", "setBits", "(III)V"⟩, 17) := ⟨⟨by decide +kernel, by decide +kernel⟩, List.mem_of_getElem? (i := 399) (by decide +kernel), List.mem_of_getElem? (i := 486) (by decide +kernel), List.mem_of_getElem? (i := 487) (by decide +kernel)⟩
def lw_privs_1 : List (MethodName × Nat) := [(⟨"LineBlocks$Sender", "sendGroup", "(LLineBlocks$Line;)V"⟩, 3), (⟨"LineBlocks$Sender", "sendBlock", "(IJLLineBlocks$Line;)V"⟩, 3), (⟨"LineBlocks$Line", "ringPlace", "(I)I"⟩, 3), (⟨"LineBlocks$Scrambler", "mixed", "(I)I"⟩, 1), (⟨"LineBlocks$Scrambler", "keep", "(I)V"⟩, 1), (⟨"LineBlocks$Receiver", "endBlock", "()V"⟩, 11), (⟨"LineBlocks$Receiver", "countInRow", "(Z)V"⟩, 11), (⟨"LineBlocks$Receiver", "slip", "()V"⟩, 11), (⟨"LineBlocks$Receiver", "beginRow", "()V"⟩, 11), (⟨"LineBlocks$Receiver", "countHit", "(Z)V"⟩, 11), (⟨"LineBlocks$Receiver", "beginBlock", "()V"⟩, 11), (⟨"LineBlocks$Groups", "isKept", "(I)Z"⟩, 3), (⟨"LineBlocksModel", "send", "()V"⟩, 17), (⟨"LineBlocksModel", "encode", "()V"⟩, 17), (⟨"LineBlocksModel", "are", "(IIZ)Z"⟩, 17), (⟨"LineBlocksModel", "setBits", "(III)V"⟩, 17)]
theorem lw_r1 : ∀ q ∈ lw_privs_1, lw_okq q := List.forall_mem_cons.mpr ⟨lw_p0, List.forall_mem_cons.mpr ⟨lw_p1, List.forall_mem_cons.mpr ⟨lw_p2, List.forall_mem_cons.mpr ⟨lw_p3, List.forall_mem_cons.mpr ⟨lw_p4, List.forall_mem_cons.mpr ⟨lw_p5, List.forall_mem_cons.mpr ⟨lw_p6, List.forall_mem_cons.mpr ⟨lw_p7, List.forall_mem_cons.mpr ⟨lw_p8, List.forall_mem_cons.mpr ⟨lw_p9, List.forall_mem_cons.mpr ⟨lw_p10, List.forall_mem_cons.mpr ⟨lw_p11, List.forall_mem_cons.mpr ⟨lw_p12, List.forall_mem_cons.mpr ⟨lw_p13, List.forall_mem_cons.mpr ⟨lw_p14, List.forall_mem_cons.mpr ⟨lw_p15, fun _ h => absurd h List.not_mem_nil⟩⟩⟩⟩⟩⟩⟩⟩⟩⟩⟩⟩⟩⟩⟩⟩
theorem lw_p16 : lw_okq (⟨"LineBlocksModel", "putCode", "(II)V"⟩, 17) := ⟨⟨by decide +kernel, by decide +kernel⟩, List.mem_of_getElem? (i := 399) (by decide +kernel), List.mem_of_getElem? (i := 490) (by decide +kernel), List.mem_of_getElem? (i := 491) (by decide +kernel)⟩
theorem lw_p17 : lw_okq (⟨"LineBlocksModel", "mixed", "(II)I"⟩, 17) := ⟨⟨by decide +kernel, by decide +kernel⟩, List.mem_of_getElem? (i := 399) (by decide +kernel), List.mem_of_getElem? (i := 497) (by decide +kernel), List.mem_of_getElem? (i := 498) (by decide +kernel)⟩
theorem lw_p18 : lw_okq (⟨"LineBlocksModel", "remember", "(II)V"⟩, 17) := ⟨⟨by decide +kernel, by decide +kernel⟩, List.mem_of_getElem? (i := 399) (by decide +kernel), List.mem_of_getElem? (i := 501) (by decide +kernel), List.mem_of_getElem? (i := 502) (by decide +kernel)⟩
theorem lw_p19 : lw_okq (⟨"LineBlocksModel", "whole", "()V"⟩, 17) := ⟨⟨by decide +kernel, by decide +kernel⟩, List.mem_of_getElem? (i := 399) (by decide +kernel), List.mem_of_getElem? (i := 534) (by decide +kernel), List.mem_of_getElem? (i := 535) (by decide +kernel)⟩
theorem lw_p20 : lw_okq (⟨"LineBlocksModel", "slip", "()V"⟩, 17) := ⟨⟨by decide +kernel, by decide +kernel⟩, List.mem_of_getElem? (i := 399) (by decide +kernel), List.mem_of_getElem? (i := 538) (by decide +kernel), List.mem_of_getElem? (i := 539) (by decide +kernel)⟩
theorem lw_p21 : lw_okq (⟨"LineBlocksModel", "tell", "()V"⟩, 17) := ⟨⟨by decide +kernel, by decide +kernel⟩, List.mem_of_getElem? (i := 399) (by decide +kernel), List.mem_of_getElem? (i := 542) (by decide +kernel), List.mem_of_getElem? (i := 543) (by decide +kernel)⟩
theorem lw_p22 : lw_okq (⟨"LineBlocksModel", "character", "(I)I"⟩, 17) := ⟨⟨by decide +kernel, by decide +kernel⟩, List.mem_of_getElem? (i := 399) (by decide +kernel), List.mem_of_getElem? (i := 546) (by decide +kernel), List.mem_of_getElem? (i := 547) (by decide +kernel)⟩
theorem lw_p23 : lw_okq (⟨"LineBlocksModel", "get", "(II)I"⟩, 17) := ⟨⟨by decide +kernel, by decide +kernel⟩, List.mem_of_getElem? (i := 399) (by decide +kernel), List.mem_of_getElem? (i := 550) (by decide +kernel), List.mem_of_getElem? (i := 551) (by decide +kernel)⟩
theorem lw_p24 : lw_okq (⟨"LineBlocksModel", "codeAt", "(I)I"⟩, 17) := ⟨⟨by decide +kernel, by decide +kernel⟩, List.mem_of_getElem? (i := 399) (by decide +kernel), List.mem_of_getElem? (i := 554) (by decide +kernel), List.mem_of_getElem? (i := 555) (by decide +kernel)⟩
theorem lw_p25 : lw_okq (⟨"LineBlocksModel", "endOf", "(I)I"⟩, 17) := ⟨⟨by decide +kernel, by decide +kernel⟩, List.mem_of_getElem? (i := 399) (by decide +kernel), List.mem_of_getElem? (i := 558) (by decide +kernel), List.mem_of_getElem? (i := 559) (by decide +kernel)⟩
def lw_privs_2 : List (MethodName × Nat) := [(⟨"LineBlocksModel", "putCode", "(II)V"⟩, 17), (⟨"LineBlocksModel", "mixed", "(II)I"⟩, 17), (⟨"LineBlocksModel", "remember", "(II)V"⟩, 17), (⟨"LineBlocksModel", "whole", "()V"⟩, 17), (⟨"LineBlocksModel", "slip", "()V"⟩, 17), (⟨"LineBlocksModel", "tell", "()V"⟩, 17), (⟨"LineBlocksModel", "character", "(I)I"⟩, 17), (⟨"LineBlocksModel", "get", "(II)I"⟩, 17), (⟨"LineBlocksModel", "codeAt", "(I)I"⟩, 17), (⟨"LineBlocksModel", "endOf", "(I)I"⟩, 17)]
theorem lw_r2 : ∀ q ∈ lw_privs_2, lw_okq q := List.forall_mem_cons.mpr ⟨lw_p16, List.forall_mem_cons.mpr ⟨lw_p17, List.forall_mem_cons.mpr ⟨lw_p18, List.forall_mem_cons.mpr ⟨lw_p19, List.forall_mem_cons.mpr ⟨lw_p20, List.forall_mem_cons.mpr ⟨lw_p21, List.forall_mem_cons.mpr ⟨lw_p22, List.forall_mem_cons.mpr ⟨lw_p23, List.forall_mem_cons.mpr ⟨lw_p24, List.forall_mem_cons.mpr ⟨lw_p25, fun _ h => absurd h List.not_mem_nil⟩⟩⟩⟩⟩⟩⟩⟩⟩⟩
def lw_privs : List (MethodName × Nat) := lw_privs_1 ++ (lw_privs_2)
def lw_tbl : List Cond := k2_sels lw_privs ++ tables_1
theorem lw_privs_ok : ∀ q ∈ lw_privs, lw_okq q := by
  show ∀ q ∈ lw_privs_1 ++ (lw_privs_2), lw_okq q
  exact List.forall_mem_append.mpr ⟨lw_r1, lw_r2⟩

def RX0 : String := "LineBlocks$Codec"
def TX0 : u_T := fun k => match k with
  | _ => ("", "", "", false)
def tyX0 : Nat → FieldType := fun k => match k with
  | _ => .int
abbrev wsX00 : List Cond := u_ws RX0 TX0 0
theorem nmX0 : ∀ a, a < 0 → ∀ b, b < 0 → a ≠ b → (TX0 a).2.1 ≠ (TX0 b).2.1 := by decide +kernel
theorem tyX0_ok : ∀ k, k < 0 → parseFieldDescriptor (TX0 k).2.2.1 = some (tyX0 k) := by decide +kernel
abbrev cX0_typeOfGroup : ByteArray := prog_2_method_2_code
def yX0_typeOfGroup : MethodName := ⟨RX0, "typeOfGroup", "([I)I"⟩
abbrev cX0_payloadOf : ByteArray := prog_2_method_3_code
def yX0_payloadOf : MethodName := ⟨RX0, "payloadOf", "(I[I)J"⟩
abbrev cX0_typeOfBlock : ByteArray := prog_2_method_4_code
def yX0_typeOfBlock : MethodName := ⟨RX0, "typeOfBlock", "(IJ)I"⟩
abbrev cX0_characterOf : ByteArray := prog_2_method_5_code
def yX0_characterOf : MethodName := ⟨RX0, "characterOf", "(IJI)I"⟩
abbrev cX0_characterByEnd : ByteArray := prog_2_method_6_code
def yX0_characterByEnd : MethodName := ⟨RX0, "characterByEnd", "(IIJI)I"⟩
abbrev cX0_characterByMiddleStart : ByteArray := prog_2_method_7_code
def yX0_characterByMiddleStart : MethodName := ⟨RX0, "characterByMiddleStart", "(JI)I"⟩
abbrev cX0_dataAt : ByteArray := prog_2_method_8_code
def yX0_dataAt : MethodName := ⟨RX0, "dataAt", "(IJI)I"⟩
abbrev cX0_codedAt : ByteArray := prog_2_method_9_code
def yX0_codedAt : MethodName := ⟨RX0, "codedAt", "(JI)I"⟩
abbrev cX0_bitsOf : ByteArray := prog_2_method_10_code
def yX0_bitsOf : MethodName := ⟨RX0, "bitsOf", "(III)J"⟩
abbrev cX0_dataShift : ByteArray := prog_2_method_11_code
def yX0_dataShift : MethodName := ⟨RX0, "dataShift", "(II)I"⟩
abbrev cX0_codeShift : ByteArray := prog_2_method_12_code
def yX0_codeShift : MethodName := ⟨RX0, "codeShift", "(I)I"⟩
abbrev cX0_endPlace : ByteArray := prog_2_method_13_code
def yX0_endPlace : MethodName := ⟨RX0, "endPlace", "(I)I"⟩
abbrev cX0_leadingData : ByteArray := prog_2_method_14_code
def yX0_leadingData : MethodName := ⟨RX0, "leadingData", "([I)I"⟩
abbrev cX0_areData : ByteArray := prog_2_method_15_code
def yX0_areData : MethodName := ⟨RX0, "areData", "([II)Z"⟩
abbrev cX0_areIdleOrError : ByteArray := prog_2_method_16_code
def yX0_areIdleOrError : MethodName := ⟨RX0, "areIdleOrError", "([III)Z"⟩
abbrev cX0_isData : ByteArray := prog_2_method_17_code
def yX0_isData : MethodName := ⟨RX0, "isData", "(I)Z"⟩
def RX1 : String := "LineBlocks$Groups"
def TX1 : u_T := fun k => match k with
  | 0 => ("LineBlocks$Groups", "types", "[I", true)
  | 1 => ("LineBlocks$Groups", "payloads", "[J", true)
  | _ => ("LineBlocks$Groups", "count", "I", false)
def tyX1 : Nat → FieldType := fun k => match k with
  | 0 => .array .int
  | 1 => .array .long
  | _ => .int
abbrev wsX10 : List Cond := u_ws RX1 TX1 3
theorem nmX1 : ∀ a, a < 3 → ∀ b, b < 3 → a ≠ b → (TX1 a).2.1 ≠ (TX1 b).2.1 := by decide +kernel
theorem tyX1_ok : ∀ k, k < 3 → parseFieldDescriptor (TX1 k).2.2.1 = some (tyX1 k) := by decide +kernel
abbrev cX1_init : ByteArray := prog_3_method_1_code
def yX1_init : MethodName := ⟨RX1, "<init>", "()V"⟩
abbrev cX1_count : ByteArray := prog_3_method_2_code
def yX1_count : MethodName := ⟨RX1, "count", "()I"⟩
abbrev cX1_keep : ByteArray := prog_3_method_3_code
def yX1_keep : MethodName := ⟨RX1, "keep", "(IJ)V"⟩
abbrev cX1_character : ByteArray := prog_3_method_4_code
def yX1_character : MethodName := ⟨RX1, "character", "(II)I"⟩
abbrev cX1_isKept : ByteArray := prog_3_method_5_code
def yX1_isKept : MethodName := ⟨RX1, "isKept", "(I)Z"⟩
abbrev cX1_slotOf : ByteArray := prog_3_method_6_code
def yX1_slotOf : MethodName := ⟨RX1, "slotOf", "(I)I"⟩
def RX2 : String := "LineBlocks$Line"
def TX2 : u_T := fun k => match k with
  | 0 => ("LineBlocks$Line", "words", "[J", true)
  | 1 => ("LineBlocks$Line", "first", "I", false)
  | _ => ("LineBlocks$Line", "count", "I", false)
def tyX2 : Nat → FieldType := fun k => match k with
  | 0 => .array .long
  | 1 => .int
  | _ => .int
abbrev wsX20 : List Cond := u_ws RX2 TX2 3
theorem nmX2 : ∀ a, a < 3 → ∀ b, b < 3 → a ≠ b → (TX2 a).2.1 ≠ (TX2 b).2.1 := by decide +kernel
theorem tyX2_ok : ∀ k, k < 3 → parseFieldDescriptor (TX2 k).2.2.1 = some (tyX2 k) := by decide +kernel
abbrev cX2_init : ByteArray := prog_4_method_1_code
def yX2_init : MethodName := ⟨RX2, "<init>", "()V"⟩
abbrev cX2_size : ByteArray := prog_4_method_2_code
def yX2_size : MethodName := ⟨RX2, "size", "()I"⟩
abbrev cX2_has : ByteArray := prog_4_method_3_code
def yX2_has : MethodName := ⟨RX2, "has", "(I)Z"⟩
abbrev cX2_at : ByteArray := prog_4_method_4_code
def yX2_at : MethodName := ⟨RX2, "at", "(I)I"⟩
abbrev cX2_flip : ByteArray := prog_4_method_5_code
def yX2_flip : MethodName := ⟨RX2, "flip", "(I)V"⟩
abbrev cX2_append : ByteArray := prog_4_method_6_code
def yX2_append : MethodName := ⟨RX2, "append", "(I)V"⟩
abbrev cX2_dropFirst : ByteArray := prog_4_method_7_code
def yX2_dropFirst : MethodName := ⟨RX2, "dropFirst", "(I)V"⟩
abbrev cX2_ringPlace : ByteArray := prog_4_method_8_code
def yX2_ringPlace : MethodName := ⟨RX2, "ringPlace", "(I)I"⟩
def RX3 : String := "LineBlocks$Receiver"
def TX3 : u_T := fun k => match k with
  | 0 => ("LineBlocks$Receiver", "scrambler", "LLineBlocks$Scrambler;", true)
  | 1 => ("LineBlocks$Receiver", "groups", "LLineBlocks$Groups;", true)
  | 2 => ("LineBlocks$Receiver", "head", "I", false)
  | 3 => ("LineBlocks$Receiver", "payload", "J", false)
  | 4 => ("LineBlocks$Receiver", "have", "I", false)
  | 5 => ("LineBlocks$Receiver", "locked", "Z", false)
  | 6 => ("LineBlocks$Receiver", "dropsNext", "Z", false)
  | 7 => ("LineBlocks$Receiver", "hits", "I", false)
  | 8 => ("LineBlocks$Receiver", "slips", "I", false)
  | 9 => ("LineBlocks$Receiver", "blocksOfRow", "I", false)
  | _ => ("LineBlocks$Receiver", "wrongHeads", "I", false)
def tyX3 : Nat → FieldType := fun k => match k with
  | 0 => .object "LineBlocks$Scrambler"
  | 1 => .object "LineBlocks$Groups"
  | 2 => .int
  | 3 => .long
  | 4 => .int
  | 5 => .boolean
  | 6 => .boolean
  | 7 => .int
  | 8 => .int
  | 9 => .int
  | _ => .int
abbrev wsX30 : List Cond := u_ws RX3 TX3 11
theorem nmX3 : ∀ a, a < 11 → ∀ b, b < 11 → a ≠ b → (TX3 a).2.1 ≠ (TX3 b).2.1 := by decide +kernel
theorem tyX3_ok : ∀ k, k < 11 → parseFieldDescriptor (TX3 k).2.2.1 = some (tyX3 k) := by decide +kernel
abbrev cX3_init : ByteArray := prog_5_method_1_code
def yX3_init : MethodName := ⟨RX3, "<init>", "()V"⟩
abbrev cX3_isLocked : ByteArray := prog_5_method_2_code
def yX3_isLocked : MethodName := ⟨RX3, "isLocked", "()Z"⟩
abbrev cX3_hitCount : ByteArray := prog_5_method_3_code
def yX3_hitCount : MethodName := ⟨RX3, "hitCount", "()I"⟩
abbrev cX3_slipCount : ByteArray := prog_5_method_4_code
def yX3_slipCount : MethodName := ⟨RX3, "slipCount", "()I"⟩
abbrev cX3_bitsOfBlock : ByteArray := prog_5_method_5_code
def yX3_bitsOfBlock : MethodName := ⟨RX3, "bitsOfBlock", "()I"⟩
abbrev cX3_groupCount : ByteArray := prog_5_method_6_code
def yX3_groupCount : MethodName := ⟨RX3, "groupCount", "()I"⟩
abbrev cX3_wrongHeadCount : ByteArray := prog_5_method_7_code
def yX3_wrongHeadCount : MethodName := ⟨RX3, "wrongHeadCount", "()I"⟩
abbrev cX3_character : ByteArray := prog_5_method_8_code
def yX3_character : MethodName := ⟨RX3, "character", "(II)I"⟩
abbrev cX3_exchangeState : ByteArray := prog_5_method_9_code
def yX3_exchangeState : MethodName := ⟨RX3, "exchangeState", "(J)J"⟩
abbrev cX3_take : ByteArray := prog_5_method_10_code
def yX3_take : MethodName := ⟨RX3, "take", "(I)V"⟩
abbrev cX3_beginBlock : ByteArray := prog_5_method_11_code
def yX3_beginBlock : MethodName := ⟨RX3, "beginBlock", "()V"⟩
abbrev cX3_endBlock : ByteArray := prog_5_method_12_code
def yX3_endBlock : MethodName := ⟨RX3, "endBlock", "()V"⟩
abbrev cX3_countHit : ByteArray := prog_5_method_13_code
def yX3_countHit : MethodName := ⟨RX3, "countHit", "(Z)V"⟩
abbrev cX3_countInRow : ByteArray := prog_5_method_14_code
def yX3_countInRow : MethodName := ⟨RX3, "countInRow", "(Z)V"⟩
abbrev cX3_beginRow : ByteArray := prog_5_method_15_code
def yX3_beginRow : MethodName := ⟨RX3, "beginRow", "()V"⟩
abbrev cX3_slip : ByteArray := prog_5_method_16_code
def yX3_slip : MethodName := ⟨RX3, "slip", "()V"⟩
def RX4 : String := "LineBlocks$Scrambler"
def TX4 : u_T := fun k => match k with
  | _ => ("LineBlocks$Scrambler", "latest", "J", false)
def tyX4 : Nat → FieldType := fun k => match k with
  | _ => .long
abbrev wsX40 : List Cond := u_ws RX4 TX4 1
theorem nmX4 : ∀ a, a < 1 → ∀ b, b < 1 → a ≠ b → (TX4 a).2.1 ≠ (TX4 b).2.1 := by decide +kernel
theorem tyX4_ok : ∀ k, k < 1 → parseFieldDescriptor (TX4 k).2.2.1 = some (tyX4 k) := by decide +kernel
abbrev cX4_init : ByteArray := prog_6_method_1_code
def yX4_init : MethodName := ⟨RX4, "<init>", "()V"⟩
abbrev cX4_exchange : ByteArray := prog_6_method_2_code
def yX4_exchange : MethodName := ⟨RX4, "exchange", "(J)J"⟩
abbrev cX4_scramble : ByteArray := prog_6_method_3_code
def yX4_scramble : MethodName := ⟨RX4, "scramble", "(I)I"⟩
abbrev cX4_unscramble : ByteArray := prog_6_method_4_code
def yX4_unscramble : MethodName := ⟨RX4, "unscramble", "(I)I"⟩
abbrev cX4_mixed : ByteArray := prog_6_method_5_code
def yX4_mixed : MethodName := ⟨RX4, "mixed", "(I)I"⟩
abbrev cX4_keep : ByteArray := prog_6_method_6_code
def yX4_keep : MethodName := ⟨RX4, "keep", "(I)V"⟩
def RX5 : String := "LineBlocks$Sender"
def TX5 : u_T := fun k => match k with
  | 0 => ("LineBlocks$Sender", "scrambler", "LLineBlocks$Scrambler;", true)
  | 1 => ("LineBlocks$Sender", "group", "[I", true)
  | _ => ("LineBlocks$Sender", "waiting", "I", false)
def tyX5 : Nat → FieldType := fun k => match k with
  | 0 => .object "LineBlocks$Scrambler"
  | 1 => .array .int
  | _ => .int
abbrev wsX50 : List Cond := u_ws RX5 TX5 3
theorem nmX5 : ∀ a, a < 3 → ∀ b, b < 3 → a ≠ b → (TX5 a).2.1 ≠ (TX5 b).2.1 := by decide +kernel
theorem tyX5_ok : ∀ k, k < 3 → parseFieldDescriptor (TX5 k).2.2.1 = some (tyX5 k) := by decide +kernel
abbrev cX5_init : ByteArray := prog_7_method_1_code
def yX5_init : MethodName := ⟨RX5, "<init>", "()V"⟩
abbrev cX5_waitingCount : ByteArray := prog_7_method_2_code
def yX5_waitingCount : MethodName := ⟨RX5, "waitingCount", "()I"⟩
abbrev cX5_exchangeState : ByteArray := prog_7_method_3_code
def yX5_exchangeState : MethodName := ⟨RX5, "exchangeState", "(J)J"⟩
abbrev cX5_accept : ByteArray := prog_7_method_4_code
def yX5_accept : MethodName := ⟨RX5, "accept", "(ILLineBlocks$Line;)V"⟩
abbrev cX5_acceptBytes : ByteArray := prog_7_method_5_code
def yX5_acceptBytes : MethodName := ⟨RX5, "acceptBytes", "(ILLineBlocks$Line;)V"⟩
abbrev cX5_sendIdleGroups : ByteArray := prog_7_method_6_code
def yX5_sendIdleGroups : MethodName := ⟨RX5, "sendIdleGroups", "(ILLineBlocks$Line;)V"⟩
abbrev cX5_sendGroup : ByteArray := prog_7_method_7_code
def yX5_sendGroup : MethodName := ⟨RX5, "sendGroup", "(LLineBlocks$Line;)V"⟩
abbrev cX5_sendBlock : ByteArray := prog_7_method_8_code
def yX5_sendBlock : MethodName := ⟨RX5, "sendBlock", "(IJLLineBlocks$Line;)V"⟩
def RX6 : String := "LineBlocks"
def TX6 : u_T := fun k => match k with
  | 0 => ("LineBlocks", "line", "LLineBlocks$Line;", true)
  | 1 => ("LineBlocks", "sender", "LLineBlocks$Sender;", true)
  | _ => ("LineBlocks", "taker", "LLineBlocks$Receiver;", true)
def tyX6 : Nat → FieldType := fun k => match k with
  | 0 => .object "LineBlocks$Line"
  | 1 => .object "LineBlocks$Sender"
  | _ => .object "LineBlocks$Receiver"
abbrev wsX60 : List Cond := u_ws RX6 TX6 3
theorem nmX6 : ∀ a, a < 3 → ∀ b, b < 3 → a ≠ b → (TX6 a).2.1 ≠ (TX6 b).2.1 := by decide +kernel
theorem tyX6_ok : ∀ k, k < 3 → parseFieldDescriptor (TX6 k).2.2.1 = some (tyX6 k) := by decide +kernel
abbrev cX6_init : ByteArray := prog_1_method_1_code
def yX6_init : MethodName := ⟨RX6, "<init>", "()V"⟩
abbrev cX6_put : ByteArray := prog_1_method_2_code
def yX6_put : MethodName := ⟨RX6, "put", "(I)I"⟩
abbrev cX6_word : ByteArray := prog_1_method_3_code
def yX6_word : MethodName := ⟨RX6, "word", "(II)I"⟩
abbrev cX6_idle : ByteArray := prog_1_method_4_code
def yX6_idle : MethodName := ⟨RX6, "idle", "(I)I"⟩
abbrev cX6_state : ByteArray := prog_1_method_5_code
def yX6_state : MethodName := ⟨RX6, "state", "(IJ)J"⟩
abbrev cX6_bits : ByteArray := prog_1_method_6_code
def yX6_bits : MethodName := ⟨RX6, "bits", "()I"⟩
abbrev cX6_bit : ByteArray := prog_1_method_7_code
def yX6_bit : MethodName := ⟨RX6, "bit", "(I)I"⟩
abbrev cX6_turn : ByteArray := prog_1_method_8_code
def yX6_turn : MethodName := ⟨RX6, "turn", "(I)I"⟩
abbrev cX6_add : ByteArray := prog_1_method_9_code
def yX6_add : MethodName := ⟨RX6, "add", "(I)I"⟩
abbrev cX6_receive : ByteArray := prog_1_method_10_code
def yX6_receive : MethodName := ⟨RX6, "receive", "(I)I"⟩
abbrev cX6_told : ByteArray := prog_1_method_11_code
def yX6_told : MethodName := ⟨RX6, "told", "(II)I"⟩
abbrev cX6_receiver : ByteArray := prog_1_method_12_code
def yX6_receiver : MethodName := ⟨RX6, "receiver", "(I)I"⟩
def RX7 : String := "LineBlocksModel"
def TX7 : u_T := fun k => match k with
  | 0 => ("LineBlocksModel", "thrown", "I", false)
  | 1 => ("LineBlocksModel", "waiting", "I", false)
  | 2 => ("LineBlocksModel", "group", "[I", true)
  | 3 => ("LineBlocksModel", "size", "I", false)
  | 4 => ("LineBlocksModel", "line", "[B", true)
  | 5 => ("LineBlocksModel", "latest", "[I", true)
  | 6 => ("LineBlocksModel", "block", "[I", true)
  | 7 => ("LineBlocksModel", "came", "[I", true)
  | 8 => ("LineBlocksModel", "taken", "I", false)
  | 9 => ("LineBlocksModel", "slips", "Z", false)
  | 10 => ("LineBlocksModel", "locked", "Z", false)
  | 11 => ("LineBlocksModel", "hits", "I", false)
  | 12 => ("LineBlocksModel", "slipped", "I", false)
  | 13 => ("LineBlocksModel", "row", "I", false)
  | 14 => ("LineBlocksModel", "wrong", "I", false)
  | 15 => ("LineBlocksModel", "toldCount", "I", false)
  | _ => ("LineBlocksModel", "told", "[I", true)
def tyX7 : Nat → FieldType := fun k => match k with
  | 0 => .int
  | 1 => .int
  | 2 => .array .int
  | 3 => .int
  | 4 => .array .byte
  | 5 => .array .int
  | 6 => .array .int
  | 7 => .array .int
  | 8 => .int
  | 9 => .boolean
  | 10 => .boolean
  | 11 => .int
  | 12 => .int
  | 13 => .int
  | 14 => .int
  | 15 => .int
  | _ => .array .int
abbrev wsX70 : List Cond := u_ws RX7 TX7 17
theorem nmX7 : ∀ a, a < 17 → ∀ b, b < 17 → a ≠ b → (TX7 a).2.1 ≠ (TX7 b).2.1 := by decide +kernel
theorem tyX7_ok : ∀ k, k < 17 → parseFieldDescriptor (TX7 k).2.2.1 = some (tyX7 k) := by decide +kernel
abbrev cX7_init : ByteArray := prog_9_method_1_code
def yX7_init : MethodName := ⟨RX7, "<init>", "()V"⟩
abbrev cX7_mixed : ByteArray := prog_9_method_3_code
def yX7_mixed : MethodName := ⟨RX7, "mixed", "(II)I"⟩
abbrev cX7_remember : ByteArray := prog_9_method_4_code
def yX7_remember : MethodName := ⟨RX7, "remember", "(II)V"⟩
abbrev cX7_state : ByteArray := prog_9_method_5_code
def yX7_state : MethodName := ⟨RX7, "state", "(IJ)J"⟩
abbrev cX7_isData : ByteArray := prog_9_method_6_code
def yX7_isData : MethodName := ⟨RX7, "isData", "(I)Z"⟩
abbrev cX7_isQuiet : ByteArray := prog_9_method_7_code
def yX7_isQuiet : MethodName := ⟨RX7, "isQuiet", "(I)Z"⟩
abbrev cX7_are : ByteArray := prog_9_method_8_code
def yX7_are : MethodName := ⟨RX7, "are", "(IIZ)Z"⟩
abbrev cX7_typeOf : ByteArray := prog_9_method_9_code
def yX7_typeOf : MethodName := ⟨RX7, "typeOf", "(I)I"⟩
abbrev cX7_setBits : ByteArray := prog_9_method_10_code
def yX7_setBits : MethodName := ⟨RX7, "setBits", "(III)V"⟩
abbrev cX7_putCode : ByteArray := prog_9_method_11_code
def yX7_putCode : MethodName := ⟨RX7, "putCode", "(II)V"⟩
abbrev cX7_encode : ByteArray := prog_9_method_12_code
def yX7_encode : MethodName := ⟨RX7, "encode", "()V"⟩
abbrev cX7_send : ByteArray := prog_9_method_13_code
def yX7_send : MethodName := ⟨RX7, "send", "()V"⟩
abbrev cX7_put : ByteArray := prog_9_method_14_code
def yX7_put : MethodName := ⟨RX7, "put", "(I)I"⟩
abbrev cX7_word : ByteArray := prog_9_method_15_code
def yX7_word : MethodName := ⟨RX7, "word", "(II)I"⟩
abbrev cX7_idle : ByteArray := prog_9_method_16_code
def yX7_idle : MethodName := ⟨RX7, "idle", "(I)I"⟩
abbrev cX7_bits : ByteArray := prog_9_method_17_code
def yX7_bits : MethodName := ⟨RX7, "bits", "()I"⟩
abbrev cX7_bit : ByteArray := prog_9_method_18_code
def yX7_bit : MethodName := ⟨RX7, "bit", "(I)I"⟩
abbrev cX7_turn : ByteArray := prog_9_method_19_code
def yX7_turn : MethodName := ⟨RX7, "turn", "(I)I"⟩
abbrev cX7_add : ByteArray := prog_9_method_20_code
def yX7_add : MethodName := ⟨RX7, "add", "(I)I"⟩
abbrev cX7_get : ByteArray := prog_9_method_21_code
def yX7_get : MethodName := ⟨RX7, "get", "(II)I"⟩
abbrev cX7_codeAt : ByteArray := prog_9_method_22_code
def yX7_codeAt : MethodName := ⟨RX7, "codeAt", "(I)I"⟩
abbrev cX7_endOf : ByteArray := prog_9_method_23_code
def yX7_endOf : MethodName := ⟨RX7, "endOf", "(I)I"⟩
abbrev cX7_character : ByteArray := prog_9_method_24_code
def yX7_character : MethodName := ⟨RX7, "character", "(I)I"⟩
abbrev cX7_tell : ByteArray := prog_9_method_25_code
def yX7_tell : MethodName := ⟨RX7, "tell", "()V"⟩
abbrev cX7_slip : ByteArray := prog_9_method_26_code
def yX7_slip : MethodName := ⟨RX7, "slip", "()V"⟩
abbrev cX7_whole : ByteArray := prog_9_method_27_code
def yX7_whole : MethodName := ⟨RX7, "whole", "()V"⟩
abbrev cX7_receive : ByteArray := prog_9_method_28_code
def yX7_receive : MethodName := ⟨RX7, "receive", "(I)I"⟩
abbrev cX7_told : ByteArray := prog_9_method_29_code
def yX7_told : MethodName := ⟨RX7, "told", "(II)I"⟩
abbrev cX7_receiver : ByteArray := prog_9_method_30_code
def yX7_receiver : MethodName := ⟨RX7, "receiver", "(I)I"⟩
def RJ9 : String := "java/lang/Math"
def TJ9 : u_T := fun k => match k with
  | _ => ("", "", "", false)
def tyJ9 : Nat → FieldType := fun k => match k with
  | _ => .int
abbrev wsJ90 : List Cond := u_ws RJ9 TJ9 0
theorem nmJ9 : ∀ a, a < 0 → ∀ b, b < 0 → a ≠ b → (TJ9 a).2.1 ≠ (TJ9 b).2.1 := by decide +kernel
theorem tyJ9_ok : ∀ k, k < 0 → parseFieldDescriptor (TJ9 k).2.2.1 = some (tyJ9 k) := by decide +kernel
abbrev cJ9_floorMod_7cf53 : ByteArray := prog_10_method_50_code
def yJ9_floorMod_7cf53 : MethodName := ⟨RJ9, "floorMod", "(II)I"⟩
abbrev cJ9_min_7cf53 : ByteArray := prog_10_method_69_code
def yJ9_min_7cf53 : MethodName := ⟨RJ9, "min", "(II)I"⟩
def RJ7 : String := "java/util/Arrays"
def TJ7 : u_T := fun k => match k with
  | _ => ("", "", "", false)
def tyJ7 : Nat → FieldType := fun k => match k with
  | _ => .int
abbrev wsJ70 : List Cond := u_ws RJ7 TJ7 0
theorem nmJ7 : ∀ a, a < 0 → ∀ b, b < 0 → a ≠ b → (TJ7 a).2.1 ≠ (TJ7 b).2.1 := by decide +kernel
theorem tyJ7_ok : ∀ k, k < 0 → parseFieldDescriptor (TJ7 k).2.2.1 = some (tyJ7 k) := by decide +kernel
abbrev cJ7_fill_53178 : ByteArray := prog_11_method_103_code
def yJ7_fill_53178 : MethodName := ⟨RJ7, "fill", "([II)V"⟩
def RL : String := "LineBlocksLaw"
abbrev cL_law : ByteArray := code
def yL_law : MethodName := ⟨RL, "law", "([I)Z"⟩
abbrev vwCl : List vw_C := [(RX1, TX1, 3), (RX2, TX2, 3), (RX3, TX3, 11), (RX4, TX4, 1), (RX5, TX5, 3), (RX6, TX6, 3), (RX7, TX7, 17)]
def nw_l : List (String × Nat × MethodName) := [(RX6, 11, yX2_init), (RX6, 18, yX5_init), (RX5, 13, yX4_init), (RX6, 25, yX3_init), (RX3, 11, yX4_init), (RX3, 20, yX1_init)]
end
section
theorem dX0_typeOfGroup_0 : decode cX0_typeOfGroup 0 = .ok (.aload_n 0, 1) := by decide +kernel
theorem dX0_typeOfGroup_1 : decode cX0_typeOfGroup 1 = .ok (.invokestatic 9, 3) := by decide +kernel
theorem dX0_typeOfGroup_4 : decode cX0_typeOfGroup 4 = .ok (.istore_n 1, 1) := by decide +kernel
theorem dX0_typeOfGroup_5 : decode cX0_typeOfGroup 5 = .ok (.iload_n 1, 1) := by decide +kernel
theorem dX0_typeOfGroup_6 : decode cX0_typeOfGroup 6 = .ok (.bipush 8, 2) := by decide +kernel
theorem dX0_typeOfGroup_8 : decode cX0_typeOfGroup 8 = .ok (.if_icmp .ne 5, 3) := by decide +kernel
theorem dX0_typeOfGroup_11 : decode cX0_typeOfGroup 11 = .ok (.iconst (-1), 1) := by decide +kernel
theorem dX0_typeOfGroup_12 : decode cX0_typeOfGroup 12 = .ok (.ireturn, 1) := by decide +kernel
theorem dX0_typeOfGroup_13 : decode cX0_typeOfGroup 13 = .ok (.aload_n 0, 1) := by decide +kernel
theorem dX0_typeOfGroup_14 : decode cX0_typeOfGroup 14 = .ok (.iload_n 1, 1) := by decide +kernel
theorem dX0_typeOfGroup_15 : decode cX0_typeOfGroup 15 = .ok (.iaload, 1) := by decide +kernel
theorem dX0_typeOfGroup_16 : decode cX0_typeOfGroup 16 = .ok (.sipush 258, 3) := by decide +kernel
theorem dX0_typeOfGroup_19 : decode cX0_typeOfGroup 19 = .ok (.if_icmp .ne 21, 3) := by decide +kernel
theorem dX0_typeOfGroup_22 : decode cX0_typeOfGroup 22 = .ok (.aload_n 0, 1) := by decide +kernel
theorem dX0_typeOfGroup_23 : decode cX0_typeOfGroup 23 = .ok (.iload_n 1, 1) := by decide +kernel
theorem dX0_typeOfGroup_24 : decode cX0_typeOfGroup 24 = .ok (.iconst 1, 1) := by decide +kernel
theorem dX0_typeOfGroup_25 : decode cX0_typeOfGroup 25 = .ok (.iadd, 1) := by decide +kernel
theorem dX0_typeOfGroup_26 : decode cX0_typeOfGroup 26 = .ok (.bipush 8, 2) := by decide +kernel
theorem dX0_typeOfGroup_28 : decode cX0_typeOfGroup 28 = .ok (.invokestatic 15, 3) := by decide +kernel
theorem dX0_typeOfGroup_31 : decode cX0_typeOfGroup 31 = .ok (.ifCond .eq 9, 3) := by decide +kernel
theorem dX0_typeOfGroup_34 : decode cX0_typeOfGroup 34 = .ok (.getstatic 19, 3) := by decide +kernel
theorem dX0_typeOfGroup_37 : decode cX0_typeOfGroup 37 = .ok (.iload_n 1, 1) := by decide +kernel
theorem dX0_typeOfGroup_38 : decode cX0_typeOfGroup 38 = .ok (.iaload, 1) := by decide +kernel
theorem dX0_typeOfGroup_39 : decode cX0_typeOfGroup 39 = .ok (.ireturn, 1) := by decide +kernel
theorem dX0_typeOfGroup_40 : decode cX0_typeOfGroup 40 = .ok (.aload_n 0, 1) := by decide +kernel
theorem dX0_typeOfGroup_41 : decode cX0_typeOfGroup 41 = .ok (.iconst 0, 1) := by decide +kernel
theorem dX0_typeOfGroup_42 : decode cX0_typeOfGroup 42 = .ok (.iaload, 1) := by decide +kernel
theorem dX0_typeOfGroup_43 : decode cX0_typeOfGroup 43 = .ok (.sipush 257, 3) := by decide +kernel
theorem dX0_typeOfGroup_46 : decode cX0_typeOfGroup 46 = .ok (.if_icmp .ne 14, 3) := by decide +kernel
theorem dX0_typeOfGroup_49 : decode cX0_typeOfGroup 49 = .ok (.aload_n 0, 1) := by decide +kernel
theorem dX0_typeOfGroup_50 : decode cX0_typeOfGroup 50 = .ok (.iconst 1, 1) := by decide +kernel
theorem dX0_typeOfGroup_51 : decode cX0_typeOfGroup 51 = .ok (.invokestatic 23, 3) := by decide +kernel
theorem dX0_typeOfGroup_54 : decode cX0_typeOfGroup 54 = .ok (.ifCond .eq 6, 3) := by decide +kernel
theorem dX0_typeOfGroup_57 : decode cX0_typeOfGroup 57 = .ok (.bipush 120, 2) := by decide +kernel
theorem dX0_typeOfGroup_59 : decode cX0_typeOfGroup 59 = .ok (.ireturn, 1) := by decide +kernel
theorem dX0_typeOfGroup_60 : decode cX0_typeOfGroup 60 = .ok (.aload_n 0, 1) := by decide +kernel
theorem dX0_typeOfGroup_61 : decode cX0_typeOfGroup 61 = .ok (.iconst 0, 1) := by decide +kernel
theorem dX0_typeOfGroup_62 : decode cX0_typeOfGroup 62 = .ok (.iconst 4, 1) := by decide +kernel
theorem dX0_typeOfGroup_63 : decode cX0_typeOfGroup 63 = .ok (.invokestatic 15, 3) := by decide +kernel
theorem dX0_typeOfGroup_66 : decode cX0_typeOfGroup 66 = .ok (.ifCond .eq 23, 3) := by decide +kernel
theorem dX0_typeOfGroup_69 : decode cX0_typeOfGroup 69 = .ok (.aload_n 0, 1) := by decide +kernel
theorem dX0_typeOfGroup_70 : decode cX0_typeOfGroup 70 = .ok (.iconst 4, 1) := by decide +kernel
theorem dX0_typeOfGroup_71 : decode cX0_typeOfGroup 71 = .ok (.iaload, 1) := by decide +kernel
theorem dX0_typeOfGroup_72 : decode cX0_typeOfGroup 72 = .ok (.sipush 257, 3) := by decide +kernel
theorem dX0_typeOfGroup_75 : decode cX0_typeOfGroup 75 = .ok (.if_icmp .ne 14, 3) := by decide +kernel
theorem dX0_typeOfGroup_78 : decode cX0_typeOfGroup 78 = .ok (.aload_n 0, 1) := by decide +kernel
theorem dX0_typeOfGroup_79 : decode cX0_typeOfGroup 79 = .ok (.iconst 5, 1) := by decide +kernel
theorem dX0_typeOfGroup_80 : decode cX0_typeOfGroup 80 = .ok (.invokestatic 23, 3) := by decide +kernel
theorem dX0_typeOfGroup_83 : decode cX0_typeOfGroup 83 = .ok (.ifCond .eq 6, 3) := by decide +kernel
theorem dX0_typeOfGroup_86 : decode cX0_typeOfGroup 86 = .ok (.bipush 51, 2) := by decide +kernel
theorem dX0_typeOfGroup_88 : decode cX0_typeOfGroup 88 = .ok (.ireturn, 1) := by decide +kernel
theorem dX0_typeOfGroup_89 : decode cX0_typeOfGroup 89 = .ok (.aload_n 0, 1) := by decide +kernel
theorem dX0_typeOfGroup_90 : decode cX0_typeOfGroup 90 = .ok (.iconst 0, 1) := by decide +kernel
theorem dX0_typeOfGroup_91 : decode cX0_typeOfGroup 91 = .ok (.bipush 8, 2) := by decide +kernel
theorem dX0_typeOfGroup_93 : decode cX0_typeOfGroup 93 = .ok (.invokestatic 15, 3) := by decide +kernel
theorem dX0_typeOfGroup_96 : decode cX0_typeOfGroup 96 = .ok (.ifCond .eq 8, 3) := by decide +kernel
theorem dX0_typeOfGroup_99 : decode cX0_typeOfGroup 99 = .ok (.bipush 30, 2) := by decide +kernel
theorem dX0_typeOfGroup_101 : decode cX0_typeOfGroup 101 = .ok (.goto 5, 3) := by decide +kernel
theorem dX0_typeOfGroup_104 : decode cX0_typeOfGroup 104 = .ok (.bipush (-2), 2) := by decide +kernel
theorem dX0_typeOfGroup_106 : decode cX0_typeOfGroup 106 = .ok (.ireturn, 1) := by decide +kernel
theorem dX0_payloadOf_0 : decode cX0_payloadOf 0 = .ok (.iload_n 0, 1) := by decide +kernel
theorem dX0_payloadOf_1 : decode cX0_payloadOf 1 = .ok (.iconst (-1), 1) := by decide +kernel
theorem dX0_payloadOf_2 : decode cX0_payloadOf 2 = .ok (.if_icmp .ne 7, 3) := by decide +kernel
theorem dX0_payloadOf_5 : decode cX0_payloadOf 5 = .ok (.lconst 0, 1) := by decide +kernel
theorem dX0_payloadOf_6 : decode cX0_payloadOf 6 = .ok (.goto 5, 3) := by decide +kernel
theorem dX0_payloadOf_9 : decode cX0_payloadOf 9 = .ok (.iload_n 0, 1) := by decide +kernel
theorem dX0_payloadOf_10 : decode cX0_payloadOf 10 = .ok (.i2l, 1) := by decide +kernel
theorem dX0_payloadOf_11 : decode cX0_payloadOf 11 = .ok (.lstore_n 2, 1) := by decide +kernel
theorem dX0_payloadOf_12 : decode cX0_payloadOf 12 = .ok (.iconst 0, 1) := by decide +kernel
theorem dX0_payloadOf_13 : decode cX0_payloadOf 13 = .ok (.istore 4, 2) := by decide +kernel
theorem dX0_payloadOf_15 : decode cX0_payloadOf 15 = .ok (.iload 4, 2) := by decide +kernel
theorem dX0_payloadOf_17 : decode cX0_payloadOf 17 = .ok (.bipush 8, 2) := by decide +kernel
theorem dX0_payloadOf_19 : decode cX0_payloadOf 19 = .ok (.if_icmp .ge 22, 3) := by decide +kernel
theorem dX0_payloadOf_22 : decode cX0_payloadOf 22 = .ok (.lload_n 2, 1) := by decide +kernel
theorem dX0_payloadOf_23 : decode cX0_payloadOf 23 = .ok (.iload_n 0, 1) := by decide +kernel
theorem dX0_payloadOf_24 : decode cX0_payloadOf 24 = .ok (.aload_n 1, 1) := by decide +kernel
theorem dX0_payloadOf_25 : decode cX0_payloadOf 25 = .ok (.iload 4, 2) := by decide +kernel
theorem dX0_payloadOf_27 : decode cX0_payloadOf 27 = .ok (.iaload, 1) := by decide +kernel
theorem dX0_payloadOf_28 : decode cX0_payloadOf 28 = .ok (.iload 4, 2) := by decide +kernel
theorem dX0_payloadOf_30 : decode cX0_payloadOf 30 = .ok (.invokestatic 27, 3) := by decide +kernel
theorem dX0_payloadOf_33 : decode cX0_payloadOf 33 = .ok (.lor, 1) := by decide +kernel
theorem dX0_payloadOf_34 : decode cX0_payloadOf 34 = .ok (.lstore_n 2, 1) := by decide +kernel
theorem dX0_payloadOf_35 : decode cX0_payloadOf 35 = .ok (.iinc 4 1, 3) := by decide +kernel
theorem dX0_payloadOf_38 : decode cX0_payloadOf 38 = .ok (.goto (-23), 3) := by decide +kernel
theorem dX0_payloadOf_41 : decode cX0_payloadOf 41 = .ok (.lload_n 2, 1) := by decide +kernel
theorem dX0_payloadOf_42 : decode cX0_payloadOf 42 = .ok (.lreturn, 1) := by decide +kernel
theorem dX0_typeOfBlock_0 : decode cX0_typeOfBlock 0 = .ok (.iload_n 0, 1) := by decide +kernel
theorem dX0_typeOfBlock_1 : decode cX0_typeOfBlock 1 = .ok (.iconst 1, 1) := by decide +kernel
theorem dX0_typeOfBlock_2 : decode cX0_typeOfBlock 2 = .ok (.if_icmp .ne 5, 3) := by decide +kernel
theorem dX0_typeOfBlock_5 : decode cX0_typeOfBlock 5 = .ok (.iconst (-1), 1) := by decide +kernel
theorem dX0_typeOfBlock_6 : decode cX0_typeOfBlock 6 = .ok (.ireturn, 1) := by decide +kernel
theorem dX0_typeOfBlock_7 : decode cX0_typeOfBlock 7 = .ok (.iload_n 0, 1) := by decide +kernel
theorem dX0_typeOfBlock_8 : decode cX0_typeOfBlock 8 = .ok (.iconst 2, 1) := by decide +kernel
theorem dX0_typeOfBlock_9 : decode cX0_typeOfBlock 9 = .ok (.if_icmp .ne 12, 3) := by decide +kernel
theorem dX0_typeOfBlock_12 : decode cX0_typeOfBlock 12 = .ok (.lload_n 1, 1) := by decide +kernel
theorem dX0_typeOfBlock_13 : decode cX0_typeOfBlock 13 = .ok (.l2i, 1) := by decide +kernel
theorem dX0_typeOfBlock_14 : decode cX0_typeOfBlock 14 = .ok (.sipush 255, 3) := by decide +kernel
theorem dX0_typeOfBlock_17 : decode cX0_typeOfBlock 17 = .ok (.iand, 1) := by decide +kernel
theorem dX0_typeOfBlock_18 : decode cX0_typeOfBlock 18 = .ok (.goto 5, 3) := by decide +kernel
theorem dX0_typeOfBlock_21 : decode cX0_typeOfBlock 21 = .ok (.bipush (-2), 2) := by decide +kernel
theorem dX0_typeOfBlock_23 : decode cX0_typeOfBlock 23 = .ok (.ireturn, 1) := by decide +kernel
theorem dX0_characterOf_0 : decode cX0_characterOf 0 = .ok (.iload_n 0, 1) := by decide +kernel
theorem dX0_characterOf_1 : decode cX0_characterOf 1 = .ok (.invokestatic 31, 3) := by decide +kernel
theorem dX0_characterOf_4 : decode cX0_characterOf 4 = .ok (.istore 4, 2) := by decide +kernel
theorem dX0_characterOf_6 : decode cX0_characterOf 6 = .ok (.iload 4, 2) := by decide +kernel
theorem dX0_characterOf_8 : decode cX0_characterOf 8 = .ok (.iconst (-1), 1) := by decide +kernel
theorem dX0_characterOf_9 : decode cX0_characterOf 9 = .ok (.if_icmp .eq 12, 3) := by decide +kernel
theorem dX0_characterOf_12 : decode cX0_characterOf 12 = .ok (.iload 4, 2) := by decide +kernel
theorem dX0_characterOf_14 : decode cX0_characterOf 14 = .ok (.iload_n 0, 1) := by decide +kernel
theorem dX0_characterOf_15 : decode cX0_characterOf 15 = .ok (.lload_n 1, 1) := by decide +kernel
theorem dX0_characterOf_16 : decode cX0_characterOf 16 = .ok (.iload_n 3, 1) := by decide +kernel
theorem dX0_characterOf_17 : decode cX0_characterOf 17 = .ok (.invokestatic 35, 3) := by decide +kernel
theorem dX0_characterOf_20 : decode cX0_characterOf 20 = .ok (.ireturn, 1) := by decide +kernel
theorem dX0_characterOf_21 : decode cX0_characterOf 21 = .ok (.iload_n 0, 1) := by decide +kernel
theorem dX0_characterOf_22 : decode cX0_characterOf 22 = .ok (.lookupswitch 78 #[(-1, 42), (30, 49), (51, 72), (120, 55)], 42) := by decide +kernel
theorem dX0_characterOf_64 : decode cX0_characterOf 64 = .ok (.iload_n 0, 1) := by decide +kernel
theorem dX0_characterOf_65 : decode cX0_characterOf 65 = .ok (.lload_n 1, 1) := by decide +kernel
theorem dX0_characterOf_66 : decode cX0_characterOf 66 = .ok (.iload_n 3, 1) := by decide +kernel
theorem dX0_characterOf_67 : decode cX0_characterOf 67 = .ok (.invokestatic 39, 3) := by decide +kernel
theorem dX0_characterOf_70 : decode cX0_characterOf 70 = .ok (.ireturn, 1) := by decide +kernel
theorem dX0_characterOf_71 : decode cX0_characterOf 71 = .ok (.lload_n 1, 1) := by decide +kernel
theorem dX0_characterOf_72 : decode cX0_characterOf 72 = .ok (.iload_n 3, 1) := by decide +kernel
theorem dX0_characterOf_73 : decode cX0_characterOf 73 = .ok (.invokestatic 43, 3) := by decide +kernel
theorem dX0_characterOf_76 : decode cX0_characterOf 76 = .ok (.ireturn, 1) := by decide +kernel
theorem dX0_characterOf_77 : decode cX0_characterOf 77 = .ok (.iload_n 3, 1) := by decide +kernel
theorem dX0_characterOf_78 : decode cX0_characterOf 78 = .ok (.ifCond .ne 9, 3) := by decide +kernel
theorem dX0_characterOf_81 : decode cX0_characterOf 81 = .ok (.sipush 257, 3) := by decide +kernel
theorem dX0_characterOf_84 : decode cX0_characterOf 84 = .ok (.goto 9, 3) := by decide +kernel
theorem dX0_characterOf_87 : decode cX0_characterOf 87 = .ok (.iload_n 0, 1) := by decide +kernel
theorem dX0_characterOf_88 : decode cX0_characterOf 88 = .ok (.lload_n 1, 1) := by decide +kernel
theorem dX0_characterOf_89 : decode cX0_characterOf 89 = .ok (.iload_n 3, 1) := by decide +kernel
theorem dX0_characterOf_90 : decode cX0_characterOf 90 = .ok (.invokestatic 39, 3) := by decide +kernel
theorem dX0_characterOf_93 : decode cX0_characterOf 93 = .ok (.ireturn, 1) := by decide +kernel
theorem dX0_characterOf_94 : decode cX0_characterOf 94 = .ok (.lload_n 1, 1) := by decide +kernel
theorem dX0_characterOf_95 : decode cX0_characterOf 95 = .ok (.iload_n 3, 1) := by decide +kernel
theorem dX0_characterOf_96 : decode cX0_characterOf 96 = .ok (.invokestatic 47, 3) := by decide +kernel
theorem dX0_characterOf_99 : decode cX0_characterOf 99 = .ok (.ireturn, 1) := by decide +kernel
theorem dX0_characterOf_100 : decode cX0_characterOf 100 = .ok (.sipush 259, 3) := by decide +kernel
theorem dX0_characterOf_103 : decode cX0_characterOf 103 = .ok (.ireturn, 1) := by decide +kernel
theorem dX0_characterByEnd_0 : decode cX0_characterByEnd 0 = .ok (.iload 4, 2) := by decide +kernel
theorem dX0_characterByEnd_2 : decode cX0_characterByEnd 2 = .ok (.iload_n 0, 1) := by decide +kernel
theorem dX0_characterByEnd_3 : decode cX0_characterByEnd 3 = .ok (.if_icmp .ne 7, 3) := by decide +kernel
theorem dX0_characterByEnd_6 : decode cX0_characterByEnd 6 = .ok (.sipush 258, 3) := by decide +kernel
theorem dX0_characterByEnd_9 : decode cX0_characterByEnd 9 = .ok (.ireturn, 1) := by decide +kernel
theorem dX0_characterByEnd_10 : decode cX0_characterByEnd 10 = .ok (.iload 4, 2) := by decide +kernel
theorem dX0_characterByEnd_12 : decode cX0_characterByEnd 12 = .ok (.iload_n 0, 1) := by decide +kernel
theorem dX0_characterByEnd_13 : decode cX0_characterByEnd 13 = .ok (.if_icmp .ge 13, 3) := by decide +kernel
theorem dX0_characterByEnd_16 : decode cX0_characterByEnd 16 = .ok (.iload_n 1, 1) := by decide +kernel
theorem dX0_characterByEnd_17 : decode cX0_characterByEnd 17 = .ok (.lload_n 2, 1) := by decide +kernel
theorem dX0_characterByEnd_18 : decode cX0_characterByEnd 18 = .ok (.iload 4, 2) := by decide +kernel
theorem dX0_characterByEnd_20 : decode cX0_characterByEnd 20 = .ok (.invokestatic 39, 3) := by decide +kernel
theorem dX0_characterByEnd_23 : decode cX0_characterByEnd 23 = .ok (.goto 9, 3) := by decide +kernel
theorem dX0_characterByEnd_26 : decode cX0_characterByEnd 26 = .ok (.lload_n 2, 1) := by decide +kernel
theorem dX0_characterByEnd_27 : decode cX0_characterByEnd 27 = .ok (.iload 4, 2) := by decide +kernel
theorem dX0_characterByEnd_29 : decode cX0_characterByEnd 29 = .ok (.invokestatic 43, 3) := by decide +kernel
theorem dX0_characterByEnd_32 : decode cX0_characterByEnd 32 = .ok (.ireturn, 1) := by decide +kernel
theorem dX0_characterByMiddleStart_0 : decode cX0_characterByMiddleStart 0 = .ok (.iload_n 2, 1) := by decide +kernel
theorem dX0_characterByMiddleStart_1 : decode cX0_characterByMiddleStart 1 = .ok (.iconst 4, 1) := by decide +kernel
theorem dX0_characterByMiddleStart_2 : decode cX0_characterByMiddleStart 2 = .ok (.if_icmp .ne 7, 3) := by decide +kernel
theorem dX0_characterByMiddleStart_5 : decode cX0_characterByMiddleStart 5 = .ok (.sipush 257, 3) := by decide +kernel
theorem dX0_characterByMiddleStart_8 : decode cX0_characterByMiddleStart 8 = .ok (.ireturn, 1) := by decide +kernel
theorem dX0_characterByMiddleStart_9 : decode cX0_characterByMiddleStart 9 = .ok (.iload_n 2, 1) := by decide +kernel
theorem dX0_characterByMiddleStart_10 : decode cX0_characterByMiddleStart 10 = .ok (.iconst 4, 1) := by decide +kernel
theorem dX0_characterByMiddleStart_11 : decode cX0_characterByMiddleStart 11 = .ok (.if_icmp .ge 11, 3) := by decide +kernel
theorem dX0_characterByMiddleStart_14 : decode cX0_characterByMiddleStart 14 = .ok (.lload_n 0, 1) := by decide +kernel
theorem dX0_characterByMiddleStart_15 : decode cX0_characterByMiddleStart 15 = .ok (.iload_n 2, 1) := by decide +kernel
theorem dX0_characterByMiddleStart_16 : decode cX0_characterByMiddleStart 16 = .ok (.invokestatic 43, 3) := by decide +kernel
theorem dX0_characterByMiddleStart_19 : decode cX0_characterByMiddleStart 19 = .ok (.goto 10, 3) := by decide +kernel
theorem dX0_characterByMiddleStart_22 : decode cX0_characterByMiddleStart 22 = .ok (.bipush 51, 2) := by decide +kernel
theorem dX0_characterByMiddleStart_24 : decode cX0_characterByMiddleStart 24 = .ok (.lload_n 0, 1) := by decide +kernel
theorem dX0_characterByMiddleStart_25 : decode cX0_characterByMiddleStart 25 = .ok (.iload_n 2, 1) := by decide +kernel
theorem dX0_characterByMiddleStart_26 : decode cX0_characterByMiddleStart 26 = .ok (.invokestatic 39, 3) := by decide +kernel
theorem dX0_characterByMiddleStart_29 : decode cX0_characterByMiddleStart 29 = .ok (.ireturn, 1) := by decide +kernel
theorem dX0_dataAt_0 : decode cX0_dataAt 0 = .ok (.lload_n 1, 1) := by decide +kernel
theorem dX0_dataAt_1 : decode cX0_dataAt 1 = .ok (.iload_n 0, 1) := by decide +kernel
theorem dX0_dataAt_2 : decode cX0_dataAt 2 = .ok (.iload_n 3, 1) := by decide +kernel
theorem dX0_dataAt_3 : decode cX0_dataAt 3 = .ok (.invokestatic 50, 3) := by decide +kernel
theorem dX0_dataAt_6 : decode cX0_dataAt 6 = .ok (.lushr, 1) := by decide +kernel
theorem dX0_dataAt_7 : decode cX0_dataAt 7 = .ok (.l2i, 1) := by decide +kernel
theorem dX0_dataAt_8 : decode cX0_dataAt 8 = .ok (.sipush 255, 3) := by decide +kernel
theorem dX0_dataAt_11 : decode cX0_dataAt 11 = .ok (.iand, 1) := by decide +kernel
theorem dX0_dataAt_12 : decode cX0_dataAt 12 = .ok (.ireturn, 1) := by decide +kernel
theorem dX0_codedAt_0 : decode cX0_codedAt 0 = .ok (.lload_n 0, 1) := by decide +kernel
theorem dX0_codedAt_1 : decode cX0_codedAt 1 = .ok (.iload_n 2, 1) := by decide +kernel
theorem dX0_codedAt_2 : decode cX0_codedAt 2 = .ok (.invokestatic 54, 3) := by decide +kernel
theorem dX0_codedAt_5 : decode cX0_codedAt 5 = .ok (.lushr, 1) := by decide +kernel
theorem dX0_codedAt_6 : decode cX0_codedAt 6 = .ok (.l2i, 1) := by decide +kernel
theorem dX0_codedAt_7 : decode cX0_codedAt 7 = .ok (.bipush 127, 2) := by decide +kernel
theorem dX0_codedAt_9 : decode cX0_codedAt 9 = .ok (.iand, 1) := by decide +kernel
theorem dX0_codedAt_10 : decode cX0_codedAt 10 = .ok (.istore_n 3, 1) := by decide +kernel
theorem dX0_codedAt_11 : decode cX0_codedAt 11 = .ok (.iload_n 3, 1) := by decide +kernel
theorem dX0_codedAt_12 : decode cX0_codedAt 12 = .ok (.ifCond .ne 9, 3) := by decide +kernel
theorem dX0_codedAt_15 : decode cX0_codedAt 15 = .ok (.sipush 256, 3) := by decide +kernel
theorem dX0_codedAt_18 : decode cX0_codedAt 18 = .ok (.goto 6, 3) := by decide +kernel
theorem dX0_codedAt_21 : decode cX0_codedAt 21 = .ok (.sipush 259, 3) := by decide +kernel
theorem dX0_codedAt_24 : decode cX0_codedAt 24 = .ok (.ireturn, 1) := by decide +kernel
theorem dX0_bitsOf_0 : decode cX0_bitsOf 0 = .ok (.iload_n 1, 1) := by decide +kernel
theorem dX0_bitsOf_1 : decode cX0_bitsOf 1 = .ok (.invokestatic 57, 3) := by decide +kernel
theorem dX0_bitsOf_4 : decode cX0_bitsOf 4 = .ok (.ifCond .eq 12, 3) := by decide +kernel
theorem dX0_bitsOf_7 : decode cX0_bitsOf 7 = .ok (.iload_n 1, 1) := by decide +kernel
theorem dX0_bitsOf_8 : decode cX0_bitsOf 8 = .ok (.i2l, 1) := by decide +kernel
theorem dX0_bitsOf_9 : decode cX0_bitsOf 9 = .ok (.iload_n 0, 1) := by decide +kernel
theorem dX0_bitsOf_10 : decode cX0_bitsOf 10 = .ok (.iload_n 2, 1) := by decide +kernel
theorem dX0_bitsOf_11 : decode cX0_bitsOf 11 = .ok (.invokestatic 50, 3) := by decide +kernel
theorem dX0_bitsOf_14 : decode cX0_bitsOf 14 = .ok (.lshl, 1) := by decide +kernel
theorem dX0_bitsOf_15 : decode cX0_bitsOf 15 = .ok (.lreturn, 1) := by decide +kernel
theorem dX0_bitsOf_16 : decode cX0_bitsOf 16 = .ok (.iload_n 1, 1) := by decide +kernel
theorem dX0_bitsOf_17 : decode cX0_bitsOf 17 = .ok (.sipush 259, 3) := by decide +kernel
theorem dX0_bitsOf_20 : decode cX0_bitsOf 20 = .ok (.if_icmp .ne 14, 3) := by decide +kernel
theorem dX0_bitsOf_23 : decode cX0_bitsOf 23 = .ok (.ldc2_w 61, 3) := by decide +kernel
theorem dX0_bitsOf_26 : decode cX0_bitsOf 26 = .ok (.iload_n 2, 1) := by decide +kernel
theorem dX0_bitsOf_27 : decode cX0_bitsOf 27 = .ok (.invokestatic 54, 3) := by decide +kernel
theorem dX0_bitsOf_30 : decode cX0_bitsOf 30 = .ok (.lshl, 1) := by decide +kernel
theorem dX0_bitsOf_31 : decode cX0_bitsOf 31 = .ok (.goto 4, 3) := by decide +kernel
theorem dX0_bitsOf_34 : decode cX0_bitsOf 34 = .ok (.lconst 0, 1) := by decide +kernel
theorem dX0_bitsOf_35 : decode cX0_bitsOf 35 = .ok (.lreturn, 1) := by decide +kernel
theorem dX0_dataShift_0 : decode cX0_dataShift 0 = .ok (.iload_n 0, 1) := by decide +kernel
theorem dX0_dataShift_1 : decode cX0_dataShift 1 = .ok (.invokestatic 31, 3) := by decide +kernel
theorem dX0_dataShift_4 : decode cX0_dataShift 4 = .ok (.iconst (-1), 1) := by decide +kernel
theorem dX0_dataShift_5 : decode cX0_dataShift 5 = .ok (.if_icmp .ne 10, 3) := by decide +kernel
theorem dX0_dataShift_8 : decode cX0_dataShift 8 = .ok (.iload_n 1, 1) := by decide +kernel
theorem dX0_dataShift_9 : decode cX0_dataShift 9 = .ok (.bipush 8, 2) := by decide +kernel
theorem dX0_dataShift_11 : decode cX0_dataShift 11 = .ok (.imul, 1) := by decide +kernel
theorem dX0_dataShift_12 : decode cX0_dataShift 12 = .ok (.goto 10, 3) := by decide +kernel
theorem dX0_dataShift_15 : decode cX0_dataShift 15 = .ok (.bipush 8, 2) := by decide +kernel
theorem dX0_dataShift_17 : decode cX0_dataShift 17 = .ok (.iload_n 1, 1) := by decide +kernel
theorem dX0_dataShift_18 : decode cX0_dataShift 18 = .ok (.bipush 8, 2) := by decide +kernel
theorem dX0_dataShift_20 : decode cX0_dataShift 20 = .ok (.imul, 1) := by decide +kernel
theorem dX0_dataShift_21 : decode cX0_dataShift 21 = .ok (.iadd, 1) := by decide +kernel
theorem dX0_dataShift_22 : decode cX0_dataShift 22 = .ok (.ireturn, 1) := by decide +kernel
theorem dX0_codeShift_0 : decode cX0_codeShift 0 = .ok (.bipush 8, 2) := by decide +kernel
theorem dX0_codeShift_2 : decode cX0_codeShift 2 = .ok (.iload_n 0, 1) := by decide +kernel
theorem dX0_codeShift_3 : decode cX0_codeShift 3 = .ok (.bipush 7, 2) := by decide +kernel
theorem dX0_codeShift_5 : decode cX0_codeShift 5 = .ok (.imul, 1) := by decide +kernel
theorem dX0_codeShift_6 : decode cX0_codeShift 6 = .ok (.iadd, 1) := by decide +kernel
theorem dX0_codeShift_7 : decode cX0_codeShift 7 = .ok (.ireturn, 1) := by decide +kernel
theorem dX0_endPlace_0 : decode cX0_endPlace 0 = .ok (.iconst 0, 1) := by decide +kernel
theorem dX0_endPlace_1 : decode cX0_endPlace 1 = .ok (.istore_n 1, 1) := by decide +kernel
theorem dX0_endPlace_2 : decode cX0_endPlace 2 = .ok (.iload_n 1, 1) := by decide +kernel
theorem dX0_endPlace_3 : decode cX0_endPlace 3 = .ok (.getstatic 19, 3) := by decide +kernel
theorem dX0_endPlace_6 : decode cX0_endPlace 6 = .ok (.arraylength, 1) := by decide +kernel
theorem dX0_endPlace_7 : decode cX0_endPlace 7 = .ok (.if_icmp .ge 20, 3) := by decide +kernel
theorem dX0_endPlace_10 : decode cX0_endPlace 10 = .ok (.getstatic 19, 3) := by decide +kernel
theorem dX0_endPlace_13 : decode cX0_endPlace 13 = .ok (.iload_n 1, 1) := by decide +kernel
theorem dX0_endPlace_14 : decode cX0_endPlace 14 = .ok (.iaload, 1) := by decide +kernel
theorem dX0_endPlace_15 : decode cX0_endPlace 15 = .ok (.iload_n 0, 1) := by decide +kernel
theorem dX0_endPlace_16 : decode cX0_endPlace 16 = .ok (.if_icmp .ne 5, 3) := by decide +kernel
theorem dX0_endPlace_19 : decode cX0_endPlace 19 = .ok (.iload_n 1, 1) := by decide +kernel
theorem dX0_endPlace_20 : decode cX0_endPlace 20 = .ok (.ireturn, 1) := by decide +kernel
theorem dX0_endPlace_21 : decode cX0_endPlace 21 = .ok (.iinc 1 1, 3) := by decide +kernel
theorem dX0_endPlace_24 : decode cX0_endPlace 24 = .ok (.goto (-22), 3) := by decide +kernel
theorem dX0_endPlace_27 : decode cX0_endPlace 27 = .ok (.iconst (-1), 1) := by decide +kernel
theorem dX0_endPlace_28 : decode cX0_endPlace 28 = .ok (.ireturn, 1) := by decide +kernel
theorem dX0_leadingData_0 : decode cX0_leadingData 0 = .ok (.iconst 0, 1) := by decide +kernel
theorem dX0_leadingData_1 : decode cX0_leadingData 1 = .ok (.istore_n 1, 1) := by decide +kernel
theorem dX0_leadingData_2 : decode cX0_leadingData 2 = .ok (.iload_n 1, 1) := by decide +kernel
theorem dX0_leadingData_3 : decode cX0_leadingData 3 = .ok (.bipush 8, 2) := by decide +kernel
theorem dX0_leadingData_5 : decode cX0_leadingData 5 = .ok (.if_icmp .ge 18, 3) := by decide +kernel
theorem dX0_leadingData_8 : decode cX0_leadingData 8 = .ok (.aload_n 0, 1) := by decide +kernel
theorem dX0_leadingData_9 : decode cX0_leadingData 9 = .ok (.iload_n 1, 1) := by decide +kernel
theorem dX0_leadingData_10 : decode cX0_leadingData 10 = .ok (.iaload, 1) := by decide +kernel
theorem dX0_leadingData_11 : decode cX0_leadingData 11 = .ok (.invokestatic 57, 3) := by decide +kernel
theorem dX0_leadingData_14 : decode cX0_leadingData 14 = .ok (.ifCond .eq 9, 3) := by decide +kernel
theorem dX0_leadingData_17 : decode cX0_leadingData 17 = .ok (.iinc 1 1, 3) := by decide +kernel
theorem dX0_leadingData_20 : decode cX0_leadingData 20 = .ok (.goto (-18), 3) := by decide +kernel
theorem dX0_leadingData_23 : decode cX0_leadingData 23 = .ok (.iload_n 1, 1) := by decide +kernel
theorem dX0_leadingData_24 : decode cX0_leadingData 24 = .ok (.ireturn, 1) := by decide +kernel
theorem dX0_areData_0 : decode cX0_areData 0 = .ok (.iload_n 1, 1) := by decide +kernel
theorem dX0_areData_1 : decode cX0_areData 1 = .ok (.istore_n 2, 1) := by decide +kernel
theorem dX0_areData_2 : decode cX0_areData 2 = .ok (.iload_n 2, 1) := by decide +kernel
theorem dX0_areData_3 : decode cX0_areData 3 = .ok (.bipush 8, 2) := by decide +kernel
theorem dX0_areData_5 : decode cX0_areData 5 = .ok (.if_icmp .ge 20, 3) := by decide +kernel
theorem dX0_areData_8 : decode cX0_areData 8 = .ok (.aload_n 0, 1) := by decide +kernel
theorem dX0_areData_9 : decode cX0_areData 9 = .ok (.iload_n 2, 1) := by decide +kernel
theorem dX0_areData_10 : decode cX0_areData 10 = .ok (.iaload, 1) := by decide +kernel
theorem dX0_areData_11 : decode cX0_areData 11 = .ok (.invokestatic 57, 3) := by decide +kernel
theorem dX0_areData_14 : decode cX0_areData 14 = .ok (.ifCond .ne 5, 3) := by decide +kernel
theorem dX0_areData_17 : decode cX0_areData 17 = .ok (.iconst 0, 1) := by decide +kernel
theorem dX0_areData_18 : decode cX0_areData 18 = .ok (.ireturn, 1) := by decide +kernel
theorem dX0_areData_19 : decode cX0_areData 19 = .ok (.iinc 2 1, 3) := by decide +kernel
theorem dX0_areData_22 : decode cX0_areData 22 = .ok (.goto (-20), 3) := by decide +kernel
theorem dX0_areData_25 : decode cX0_areData 25 = .ok (.iconst 1, 1) := by decide +kernel
theorem dX0_areData_26 : decode cX0_areData 26 = .ok (.ireturn, 1) := by decide +kernel
theorem dX0_areIdleOrError_0 : decode cX0_areIdleOrError 0 = .ok (.iload_n 1, 1) := by decide +kernel
theorem dX0_areIdleOrError_1 : decode cX0_areIdleOrError 1 = .ok (.istore_n 3, 1) := by decide +kernel
theorem dX0_areIdleOrError_2 : decode cX0_areIdleOrError 2 = .ok (.iload_n 3, 1) := by decide +kernel
theorem dX0_areIdleOrError_3 : decode cX0_areIdleOrError 3 = .ok (.iload_n 2, 1) := by decide +kernel
theorem dX0_areIdleOrError_4 : decode cX0_areIdleOrError 4 = .ok (.if_icmp .ge 29, 3) := by decide +kernel
theorem dX0_areIdleOrError_7 : decode cX0_areIdleOrError 7 = .ok (.aload_n 0, 1) := by decide +kernel
theorem dX0_areIdleOrError_8 : decode cX0_areIdleOrError 8 = .ok (.iload_n 3, 1) := by decide +kernel
theorem dX0_areIdleOrError_9 : decode cX0_areIdleOrError 9 = .ok (.iaload, 1) := by decide +kernel
theorem dX0_areIdleOrError_10 : decode cX0_areIdleOrError 10 = .ok (.sipush 256, 3) := by decide +kernel
theorem dX0_areIdleOrError_13 : decode cX0_areIdleOrError 13 = .ok (.if_icmp .eq 14, 3) := by decide +kernel
theorem dX0_areIdleOrError_16 : decode cX0_areIdleOrError 16 = .ok (.aload_n 0, 1) := by decide +kernel
theorem dX0_areIdleOrError_17 : decode cX0_areIdleOrError 17 = .ok (.iload_n 3, 1) := by decide +kernel
theorem dX0_areIdleOrError_18 : decode cX0_areIdleOrError 18 = .ok (.iaload, 1) := by decide +kernel
theorem dX0_areIdleOrError_19 : decode cX0_areIdleOrError 19 = .ok (.sipush 259, 3) := by decide +kernel
theorem dX0_areIdleOrError_22 : decode cX0_areIdleOrError 22 = .ok (.if_icmp .eq 5, 3) := by decide +kernel
theorem dX0_areIdleOrError_25 : decode cX0_areIdleOrError 25 = .ok (.iconst 0, 1) := by decide +kernel
theorem dX0_areIdleOrError_26 : decode cX0_areIdleOrError 26 = .ok (.ireturn, 1) := by decide +kernel
theorem dX0_areIdleOrError_27 : decode cX0_areIdleOrError 27 = .ok (.iinc 3 1, 3) := by decide +kernel
theorem dX0_areIdleOrError_30 : decode cX0_areIdleOrError 30 = .ok (.goto (-28), 3) := by decide +kernel
theorem dX0_areIdleOrError_33 : decode cX0_areIdleOrError 33 = .ok (.iconst 1, 1) := by decide +kernel
theorem dX0_areIdleOrError_34 : decode cX0_areIdleOrError 34 = .ok (.ireturn, 1) := by decide +kernel
theorem dX0_isData_0 : decode cX0_isData 0 = .ok (.iload_n 0, 1) := by decide +kernel
theorem dX0_isData_1 : decode cX0_isData 1 = .ok (.sipush 256, 3) := by decide +kernel
theorem dX0_isData_4 : decode cX0_isData 4 = .ok (.if_icmp .ge 7, 3) := by decide +kernel
theorem dX0_isData_7 : decode cX0_isData 7 = .ok (.iconst 1, 1) := by decide +kernel
theorem dX0_isData_8 : decode cX0_isData 8 = .ok (.goto 4, 3) := by decide +kernel
theorem dX0_isData_11 : decode cX0_isData 11 = .ok (.iconst 0, 1) := by decide +kernel
theorem dX0_isData_12 : decode cX0_isData 12 = .ok (.ireturn, 1) := by decide +kernel
theorem dX1_init_0 : decode cX1_init 0 = .ok (.aload_n 0, 1) := by decide +kernel
theorem dX1_init_1 : decode cX1_init 1 = .ok (.invokespecial 3, 3) := by decide +kernel
theorem dX1_init_4 : decode cX1_init 4 = .ok (.aload_n 0, 1) := by decide +kernel
theorem dX1_init_5 : decode cX1_init 5 = .ok (.sipush 300, 3) := by decide +kernel
theorem dX1_init_8 : decode cX1_init 8 = .ok (.newarray .int, 2) := by decide +kernel
theorem dX1_init_10 : decode cX1_init 10 = .ok (.putfield 11, 3) := by decide +kernel
theorem dX1_init_13 : decode cX1_init 13 = .ok (.aload_n 0, 1) := by decide +kernel
theorem dX1_init_14 : decode cX1_init 14 = .ok (.sipush 300, 3) := by decide +kernel
theorem dX1_init_17 : decode cX1_init 17 = .ok (.newarray .long, 2) := by decide +kernel
theorem dX1_init_19 : decode cX1_init 19 = .ok (.putfield 15, 3) := by decide +kernel
theorem dX1_init_22 : decode cX1_init 22 = .ok (.return_, 1) := by decide +kernel
theorem dX1_count_0 : decode cX1_count 0 = .ok (.aload_n 0, 1) := by decide +kernel
theorem dX1_count_1 : decode cX1_count 1 = .ok (.getfield 19, 3) := by decide +kernel
theorem dX1_count_4 : decode cX1_count 4 = .ok (.ireturn, 1) := by decide +kernel
theorem dX1_keep_0 : decode cX1_keep 0 = .ok (.aload_n 0, 1) := by decide +kernel
theorem dX1_keep_1 : decode cX1_keep 1 = .ok (.getfield 19, 3) := by decide +kernel
theorem dX1_keep_4 : decode cX1_keep 4 = .ok (.invokestatic 23, 3) := by decide +kernel
theorem dX1_keep_7 : decode cX1_keep 7 = .ok (.istore 4, 2) := by decide +kernel
theorem dX1_keep_9 : decode cX1_keep 9 = .ok (.aload_n 0, 1) := by decide +kernel
theorem dX1_keep_10 : decode cX1_keep 10 = .ok (.getfield 11, 3) := by decide +kernel
theorem dX1_keep_13 : decode cX1_keep 13 = .ok (.iload 4, 2) := by decide +kernel
theorem dX1_keep_15 : decode cX1_keep 15 = .ok (.iload_n 1, 1) := by decide +kernel
theorem dX1_keep_16 : decode cX1_keep 16 = .ok (.iastore, 1) := by decide +kernel
theorem dX1_keep_17 : decode cX1_keep 17 = .ok (.aload_n 0, 1) := by decide +kernel
theorem dX1_keep_18 : decode cX1_keep 18 = .ok (.getfield 15, 3) := by decide +kernel
theorem dX1_keep_21 : decode cX1_keep 21 = .ok (.iload 4, 2) := by decide +kernel
theorem dX1_keep_23 : decode cX1_keep 23 = .ok (.lload_n 2, 1) := by decide +kernel
theorem dX1_keep_24 : decode cX1_keep 24 = .ok (.lastore, 1) := by decide +kernel
theorem dX1_keep_25 : decode cX1_keep 25 = .ok (.aload_n 0, 1) := by decide +kernel
theorem dX1_keep_26 : decode cX1_keep 26 = .ok (.dup, 1) := by decide +kernel
theorem dX1_keep_27 : decode cX1_keep 27 = .ok (.getfield 19, 3) := by decide +kernel
theorem dX1_keep_30 : decode cX1_keep 30 = .ok (.iconst 1, 1) := by decide +kernel
theorem dX1_keep_31 : decode cX1_keep 31 = .ok (.iadd, 1) := by decide +kernel
theorem dX1_keep_32 : decode cX1_keep 32 = .ok (.putfield 19, 3) := by decide +kernel
theorem dX1_keep_35 : decode cX1_keep 35 = .ok (.return_, 1) := by decide +kernel
theorem dX1_character_0 : decode cX1_character 0 = .ok (.iload_n 2, 1) := by decide +kernel
theorem dX1_character_1 : decode cX1_character 1 = .ok (.ifCond .lt 17, 3) := by decide +kernel
theorem dX1_character_4 : decode cX1_character 4 = .ok (.iload_n 2, 1) := by decide +kernel
theorem dX1_character_5 : decode cX1_character 5 = .ok (.bipush 8, 2) := by decide +kernel
theorem dX1_character_7 : decode cX1_character 7 = .ok (.if_icmp .ge 11, 3) := by decide +kernel
theorem dX1_character_10 : decode cX1_character 10 = .ok (.aload_n 0, 1) := by decide +kernel
theorem dX1_character_11 : decode cX1_character 11 = .ok (.iload_n 1, 1) := by decide +kernel
theorem dX1_character_12 : decode cX1_character 12 = .ok (.invokevirtual 27, 3) := by decide +kernel
theorem dX1_character_15 : decode cX1_character 15 = .ok (.ifCond .ne 5, 3) := by decide +kernel
theorem dX1_character_18 : decode cX1_character 18 = .ok (.iconst (-1), 1) := by decide +kernel
theorem dX1_character_19 : decode cX1_character 19 = .ok (.ireturn, 1) := by decide +kernel
theorem dX1_character_20 : decode cX1_character 20 = .ok (.iload_n 1, 1) := by decide +kernel
theorem dX1_character_21 : decode cX1_character 21 = .ok (.invokestatic 23, 3) := by decide +kernel
theorem dX1_character_24 : decode cX1_character 24 = .ok (.istore_n 3, 1) := by decide +kernel
theorem dX1_character_25 : decode cX1_character 25 = .ok (.aload_n 0, 1) := by decide +kernel
theorem dX1_character_26 : decode cX1_character 26 = .ok (.getfield 11, 3) := by decide +kernel
theorem dX1_character_29 : decode cX1_character 29 = .ok (.iload_n 3, 1) := by decide +kernel
theorem dX1_character_30 : decode cX1_character 30 = .ok (.iaload, 1) := by decide +kernel
theorem dX1_character_31 : decode cX1_character 31 = .ok (.aload_n 0, 1) := by decide +kernel
theorem dX1_character_32 : decode cX1_character 32 = .ok (.getfield 15, 3) := by decide +kernel
theorem dX1_character_35 : decode cX1_character 35 = .ok (.iload_n 3, 1) := by decide +kernel
theorem dX1_character_36 : decode cX1_character 36 = .ok (.laload, 1) := by decide +kernel
theorem dX1_character_37 : decode cX1_character 37 = .ok (.iload_n 2, 1) := by decide +kernel
theorem dX1_character_38 : decode cX1_character 38 = .ok (.invokestatic 31, 3) := by decide +kernel
theorem dX1_character_41 : decode cX1_character 41 = .ok (.ireturn, 1) := by decide +kernel
theorem dX1_isKept_0 : decode cX1_isKept 0 = .ok (.iload_n 1, 1) := by decide +kernel
theorem dX1_isKept_1 : decode cX1_isKept 1 = .ok (.ifCond .lt 27, 3) := by decide +kernel
theorem dX1_isKept_4 : decode cX1_isKept 4 = .ok (.iload_n 1, 1) := by decide +kernel
theorem dX1_isKept_5 : decode cX1_isKept 5 = .ok (.aload_n 0, 1) := by decide +kernel
theorem dX1_isKept_6 : decode cX1_isKept 6 = .ok (.getfield 19, 3) := by decide +kernel
theorem dX1_isKept_9 : decode cX1_isKept 9 = .ok (.if_icmp .ge 19, 3) := by decide +kernel
theorem dX1_isKept_12 : decode cX1_isKept 12 = .ok (.iload_n 1, 1) := by decide +kernel
theorem dX1_isKept_13 : decode cX1_isKept 13 = .ok (.aload_n 0, 1) := by decide +kernel
theorem dX1_isKept_14 : decode cX1_isKept 14 = .ok (.getfield 19, 3) := by decide +kernel
theorem dX1_isKept_17 : decode cX1_isKept 17 = .ok (.sipush 300, 3) := by decide +kernel
theorem dX1_isKept_20 : decode cX1_isKept 20 = .ok (.isub, 1) := by decide +kernel
theorem dX1_isKept_21 : decode cX1_isKept 21 = .ok (.if_icmp .lt 7, 3) := by decide +kernel
theorem dX1_isKept_24 : decode cX1_isKept 24 = .ok (.iconst 1, 1) := by decide +kernel
theorem dX1_isKept_25 : decode cX1_isKept 25 = .ok (.goto 4, 3) := by decide +kernel
theorem dX1_isKept_28 : decode cX1_isKept 28 = .ok (.iconst 0, 1) := by decide +kernel
theorem dX1_isKept_29 : decode cX1_isKept 29 = .ok (.ireturn, 1) := by decide +kernel
theorem dX1_slotOf_0 : decode cX1_slotOf 0 = .ok (.iload_n 0, 1) := by decide +kernel
theorem dX1_slotOf_1 : decode cX1_slotOf 1 = .ok (.sipush 300, 3) := by decide +kernel
theorem dX1_slotOf_4 : decode cX1_slotOf 4 = .ok (.invokestatic 37, 3) := by decide +kernel
theorem dX1_slotOf_7 : decode cX1_slotOf 7 = .ok (.ireturn, 1) := by decide +kernel
theorem dX2_init_0 : decode cX2_init 0 = .ok (.aload_n 0, 1) := by decide +kernel
theorem dX2_init_1 : decode cX2_init 1 = .ok (.invokespecial 5, 3) := by decide +kernel
theorem dX2_init_4 : decode cX2_init 4 = .ok (.aload_n 0, 1) := by decide +kernel
theorem dX2_init_5 : decode cX2_init 5 = .ok (.sipush 142, 3) := by decide +kernel
theorem dX2_init_8 : decode cX2_init 8 = .ok (.newarray .long, 2) := by decide +kernel
theorem dX2_init_10 : decode cX2_init 10 = .ok (.putfield 11, 3) := by decide +kernel
theorem dX2_init_13 : decode cX2_init 13 = .ok (.return_, 1) := by decide +kernel
theorem dX2_size_0 : decode cX2_size 0 = .ok (.aload_n 0, 1) := by decide +kernel
theorem dX2_size_1 : decode cX2_size 1 = .ok (.getfield 15, 3) := by decide +kernel
theorem dX2_size_4 : decode cX2_size 4 = .ok (.ireturn, 1) := by decide +kernel
theorem dX2_has_0 : decode cX2_has 0 = .ok (.iload_n 1, 1) := by decide +kernel
theorem dX2_has_1 : decode cX2_has 1 = .ok (.ifCond .lt 15, 3) := by decide +kernel
theorem dX2_has_4 : decode cX2_has 4 = .ok (.iload_n 1, 1) := by decide +kernel
theorem dX2_has_5 : decode cX2_has 5 = .ok (.aload_n 0, 1) := by decide +kernel
theorem dX2_has_6 : decode cX2_has 6 = .ok (.getfield 15, 3) := by decide +kernel
theorem dX2_has_9 : decode cX2_has 9 = .ok (.if_icmp .ge 7, 3) := by decide +kernel
theorem dX2_has_12 : decode cX2_has 12 = .ok (.iconst 1, 1) := by decide +kernel
theorem dX2_has_13 : decode cX2_has 13 = .ok (.goto 4, 3) := by decide +kernel
theorem dX2_has_16 : decode cX2_has 16 = .ok (.iconst 0, 1) := by decide +kernel
theorem dX2_has_17 : decode cX2_has 17 = .ok (.ireturn, 1) := by decide +kernel
theorem dX2_at_0 : decode cX2_at 0 = .ok (.aload_n 0, 1) := by decide +kernel
theorem dX2_at_1 : decode cX2_at 1 = .ok (.iload_n 1, 1) := by decide +kernel
theorem dX2_at_2 : decode cX2_at 2 = .ok (.invokevirtual 19, 3) := by decide +kernel
theorem dX2_at_5 : decode cX2_at 5 = .ok (.istore_n 2, 1) := by decide +kernel
theorem dX2_at_6 : decode cX2_at 6 = .ok (.aload_n 0, 1) := by decide +kernel
theorem dX2_at_7 : decode cX2_at 7 = .ok (.getfield 11, 3) := by decide +kernel
theorem dX2_at_10 : decode cX2_at 10 = .ok (.iload_n 2, 1) := by decide +kernel
theorem dX2_at_11 : decode cX2_at 11 = .ok (.bipush 64, 2) := by decide +kernel
theorem dX2_at_13 : decode cX2_at 13 = .ok (.idiv, 1) := by decide +kernel
theorem dX2_at_14 : decode cX2_at 14 = .ok (.laload, 1) := by decide +kernel
theorem dX2_at_15 : decode cX2_at 15 = .ok (.iload_n 2, 1) := by decide +kernel
theorem dX2_at_16 : decode cX2_at 16 = .ok (.bipush 64, 2) := by decide +kernel
theorem dX2_at_18 : decode cX2_at 18 = .ok (.irem, 1) := by decide +kernel
theorem dX2_at_19 : decode cX2_at 19 = .ok (.lushr, 1) := by decide +kernel
theorem dX2_at_20 : decode cX2_at 20 = .ok (.l2i, 1) := by decide +kernel
theorem dX2_at_21 : decode cX2_at 21 = .ok (.iconst 1, 1) := by decide +kernel
theorem dX2_at_22 : decode cX2_at 22 = .ok (.iand, 1) := by decide +kernel
theorem dX2_at_23 : decode cX2_at 23 = .ok (.ireturn, 1) := by decide +kernel
theorem dX2_flip_0 : decode cX2_flip 0 = .ok (.aload_n 0, 1) := by decide +kernel
theorem dX2_flip_1 : decode cX2_flip 1 = .ok (.iload_n 1, 1) := by decide +kernel
theorem dX2_flip_2 : decode cX2_flip 2 = .ok (.invokevirtual 19, 3) := by decide +kernel
theorem dX2_flip_5 : decode cX2_flip 5 = .ok (.istore_n 2, 1) := by decide +kernel
theorem dX2_flip_6 : decode cX2_flip 6 = .ok (.aload_n 0, 1) := by decide +kernel
theorem dX2_flip_7 : decode cX2_flip 7 = .ok (.getfield 11, 3) := by decide +kernel
theorem dX2_flip_10 : decode cX2_flip 10 = .ok (.iload_n 2, 1) := by decide +kernel
theorem dX2_flip_11 : decode cX2_flip 11 = .ok (.bipush 64, 2) := by decide +kernel
theorem dX2_flip_13 : decode cX2_flip 13 = .ok (.idiv, 1) := by decide +kernel
theorem dX2_flip_14 : decode cX2_flip 14 = .ok (.dup2, 1) := by decide +kernel
theorem dX2_flip_15 : decode cX2_flip 15 = .ok (.laload, 1) := by decide +kernel
theorem dX2_flip_16 : decode cX2_flip 16 = .ok (.lconst 1, 1) := by decide +kernel
theorem dX2_flip_17 : decode cX2_flip 17 = .ok (.iload_n 2, 1) := by decide +kernel
theorem dX2_flip_18 : decode cX2_flip 18 = .ok (.bipush 64, 2) := by decide +kernel
theorem dX2_flip_20 : decode cX2_flip 20 = .ok (.irem, 1) := by decide +kernel
theorem dX2_flip_21 : decode cX2_flip 21 = .ok (.lshl, 1) := by decide +kernel
theorem dX2_flip_22 : decode cX2_flip 22 = .ok (.lxor, 1) := by decide +kernel
theorem dX2_flip_23 : decode cX2_flip 23 = .ok (.lastore, 1) := by decide +kernel
theorem dX2_flip_24 : decode cX2_flip 24 = .ok (.return_, 1) := by decide +kernel
theorem dX2_append_0 : decode cX2_append 0 = .ok (.aload_n 0, 1) := by decide +kernel
theorem dX2_append_1 : decode cX2_append 1 = .ok (.aload_n 0, 1) := by decide +kernel
theorem dX2_append_2 : decode cX2_append 2 = .ok (.getfield 15, 3) := by decide +kernel
theorem dX2_append_5 : decode cX2_append 5 = .ok (.invokevirtual 19, 3) := by decide +kernel
theorem dX2_append_8 : decode cX2_append 8 = .ok (.istore_n 2, 1) := by decide +kernel
theorem dX2_append_9 : decode cX2_append 9 = .ok (.aload_n 0, 1) := by decide +kernel
theorem dX2_append_10 : decode cX2_append 10 = .ok (.getfield 11, 3) := by decide +kernel
theorem dX2_append_13 : decode cX2_append 13 = .ok (.iload_n 2, 1) := by decide +kernel
theorem dX2_append_14 : decode cX2_append 14 = .ok (.bipush 64, 2) := by decide +kernel
theorem dX2_append_16 : decode cX2_append 16 = .ok (.idiv, 1) := by decide +kernel
theorem dX2_append_17 : decode cX2_append 17 = .ok (.dup2, 1) := by decide +kernel
theorem dX2_append_18 : decode cX2_append 18 = .ok (.laload, 1) := by decide +kernel
theorem dX2_append_19 : decode cX2_append 19 = .ok (.lconst 1, 1) := by decide +kernel
theorem dX2_append_20 : decode cX2_append 20 = .ok (.iload_n 2, 1) := by decide +kernel
theorem dX2_append_21 : decode cX2_append 21 = .ok (.bipush 64, 2) := by decide +kernel
theorem dX2_append_23 : decode cX2_append 23 = .ok (.irem, 1) := by decide +kernel
theorem dX2_append_24 : decode cX2_append 24 = .ok (.lshl, 1) := by decide +kernel
theorem dX2_append_25 : decode cX2_append 25 = .ok (.ldc2_w 23, 3) := by decide +kernel
theorem dX2_append_28 : decode cX2_append 28 = .ok (.lxor, 1) := by decide +kernel
theorem dX2_append_29 : decode cX2_append 29 = .ok (.land, 1) := by decide +kernel
theorem dX2_append_30 : decode cX2_append 30 = .ok (.lastore, 1) := by decide +kernel
theorem dX2_append_31 : decode cX2_append 31 = .ok (.aload_n 0, 1) := by decide +kernel
theorem dX2_append_32 : decode cX2_append 32 = .ok (.getfield 11, 3) := by decide +kernel
theorem dX2_append_35 : decode cX2_append 35 = .ok (.iload_n 2, 1) := by decide +kernel
theorem dX2_append_36 : decode cX2_append 36 = .ok (.bipush 64, 2) := by decide +kernel
theorem dX2_append_38 : decode cX2_append 38 = .ok (.idiv, 1) := by decide +kernel
theorem dX2_append_39 : decode cX2_append 39 = .ok (.dup2, 1) := by decide +kernel
theorem dX2_append_40 : decode cX2_append 40 = .ok (.laload, 1) := by decide +kernel
theorem dX2_append_41 : decode cX2_append 41 = .ok (.iload_n 1, 1) := by decide +kernel
theorem dX2_append_42 : decode cX2_append 42 = .ok (.i2l, 1) := by decide +kernel
theorem dX2_append_43 : decode cX2_append 43 = .ok (.iload_n 2, 1) := by decide +kernel
theorem dX2_append_44 : decode cX2_append 44 = .ok (.bipush 64, 2) := by decide +kernel
theorem dX2_append_46 : decode cX2_append 46 = .ok (.irem, 1) := by decide +kernel
theorem dX2_append_47 : decode cX2_append 47 = .ok (.lshl, 1) := by decide +kernel
theorem dX2_append_48 : decode cX2_append 48 = .ok (.lor, 1) := by decide +kernel
theorem dX2_append_49 : decode cX2_append 49 = .ok (.lastore, 1) := by decide +kernel
theorem dX2_append_50 : decode cX2_append 50 = .ok (.aload_n 0, 1) := by decide +kernel
theorem dX2_append_51 : decode cX2_append 51 = .ok (.dup, 1) := by decide +kernel
theorem dX2_append_52 : decode cX2_append 52 = .ok (.getfield 15, 3) := by decide +kernel
theorem dX2_append_55 : decode cX2_append 55 = .ok (.iconst 1, 1) := by decide +kernel
theorem dX2_append_56 : decode cX2_append 56 = .ok (.iadd, 1) := by decide +kernel
theorem dX2_append_57 : decode cX2_append 57 = .ok (.putfield 15, 3) := by decide +kernel
theorem dX2_append_60 : decode cX2_append 60 = .ok (.return_, 1) := by decide +kernel
theorem dX2_dropFirst_0 : decode cX2_dropFirst 0 = .ok (.aload_n 0, 1) := by decide +kernel
theorem dX2_dropFirst_1 : decode cX2_dropFirst 1 = .ok (.aload_n 0, 1) := by decide +kernel
theorem dX2_dropFirst_2 : decode cX2_dropFirst 2 = .ok (.iload_n 1, 1) := by decide +kernel
theorem dX2_dropFirst_3 : decode cX2_dropFirst 3 = .ok (.invokevirtual 19, 3) := by decide +kernel
theorem dX2_dropFirst_6 : decode cX2_dropFirst 6 = .ok (.putfield 25, 3) := by decide +kernel
theorem dX2_dropFirst_9 : decode cX2_dropFirst 9 = .ok (.aload_n 0, 1) := by decide +kernel
theorem dX2_dropFirst_10 : decode cX2_dropFirst 10 = .ok (.dup, 1) := by decide +kernel
theorem dX2_dropFirst_11 : decode cX2_dropFirst 11 = .ok (.getfield 15, 3) := by decide +kernel
theorem dX2_dropFirst_14 : decode cX2_dropFirst 14 = .ok (.iload_n 1, 1) := by decide +kernel
theorem dX2_dropFirst_15 : decode cX2_dropFirst 15 = .ok (.isub, 1) := by decide +kernel
theorem dX2_dropFirst_16 : decode cX2_dropFirst 16 = .ok (.putfield 15, 3) := by decide +kernel
theorem dX2_dropFirst_19 : decode cX2_dropFirst 19 = .ok (.return_, 1) := by decide +kernel
theorem dX2_ringPlace_0 : decode cX2_ringPlace 0 = .ok (.aload_n 0, 1) := by decide +kernel
theorem dX2_ringPlace_1 : decode cX2_ringPlace 1 = .ok (.getfield 25, 3) := by decide +kernel
theorem dX2_ringPlace_4 : decode cX2_ringPlace 4 = .ok (.iload_n 1, 1) := by decide +kernel
theorem dX2_ringPlace_5 : decode cX2_ringPlace 5 = .ok (.iadd, 1) := by decide +kernel
theorem dX2_ringPlace_6 : decode cX2_ringPlace 6 = .ok (.sipush 9088, 3) := by decide +kernel
theorem dX2_ringPlace_9 : decode cX2_ringPlace 9 = .ok (.invokestatic 28, 3) := by decide +kernel
theorem dX2_ringPlace_12 : decode cX2_ringPlace 12 = .ok (.ireturn, 1) := by decide +kernel
theorem dX3_init_0 : decode cX3_init 0 = .ok (.aload_n 0, 1) := by decide +kernel
theorem dX3_init_1 : decode cX3_init 1 = .ok (.invokespecial 3, 3) := by decide +kernel
theorem dX3_init_4 : decode cX3_init 4 = .ok (.aload_n 0, 1) := by decide +kernel
theorem dX3_init_5 : decode cX3_init 5 = .ok (.new 9, 3) := by decide +kernel
theorem dX3_init_8 : decode cX3_init 8 = .ok (.dup, 1) := by decide +kernel
theorem dX3_init_9 : decode cX3_init 9 = .ok (.invokespecial 11, 3) := by decide +kernel
theorem dX3_init_12 : decode cX3_init 12 = .ok (.putfield 12, 3) := by decide +kernel
theorem dX3_init_15 : decode cX3_init 15 = .ok (.aload_n 0, 1) := by decide +kernel
theorem dX3_init_16 : decode cX3_init 16 = .ok (.new 18, 3) := by decide +kernel
theorem dX3_init_19 : decode cX3_init 19 = .ok (.dup, 1) := by decide +kernel
theorem dX3_init_20 : decode cX3_init 20 = .ok (.invokespecial 20, 3) := by decide +kernel
theorem dX3_init_23 : decode cX3_init 23 = .ok (.putfield 21, 3) := by decide +kernel
theorem dX3_init_26 : decode cX3_init 26 = .ok (.return_, 1) := by decide +kernel
theorem dX3_isLocked_0 : decode cX3_isLocked 0 = .ok (.aload_n 0, 1) := by decide +kernel
theorem dX3_isLocked_1 : decode cX3_isLocked 1 = .ok (.getfield 25, 3) := by decide +kernel
theorem dX3_isLocked_4 : decode cX3_isLocked 4 = .ok (.ireturn, 1) := by decide +kernel
theorem dX3_hitCount_0 : decode cX3_hitCount 0 = .ok (.aload_n 0, 1) := by decide +kernel
theorem dX3_hitCount_1 : decode cX3_hitCount 1 = .ok (.getfield 29, 3) := by decide +kernel
theorem dX3_hitCount_4 : decode cX3_hitCount 4 = .ok (.ireturn, 1) := by decide +kernel
theorem dX3_slipCount_0 : decode cX3_slipCount 0 = .ok (.aload_n 0, 1) := by decide +kernel
theorem dX3_slipCount_1 : decode cX3_slipCount 1 = .ok (.getfield 33, 3) := by decide +kernel
theorem dX3_slipCount_4 : decode cX3_slipCount 4 = .ok (.ireturn, 1) := by decide +kernel
theorem dX3_bitsOfBlock_0 : decode cX3_bitsOfBlock 0 = .ok (.aload_n 0, 1) := by decide +kernel
theorem dX3_bitsOfBlock_1 : decode cX3_bitsOfBlock 1 = .ok (.getfield 36, 3) := by decide +kernel
theorem dX3_bitsOfBlock_4 : decode cX3_bitsOfBlock 4 = .ok (.ireturn, 1) := by decide +kernel
theorem dX3_groupCount_0 : decode cX3_groupCount 0 = .ok (.aload_n 0, 1) := by decide +kernel
theorem dX3_groupCount_1 : decode cX3_groupCount 1 = .ok (.getfield 21, 3) := by decide +kernel
theorem dX3_groupCount_4 : decode cX3_groupCount 4 = .ok (.invokevirtual 39, 3) := by decide +kernel
theorem dX3_groupCount_7 : decode cX3_groupCount 7 = .ok (.ireturn, 1) := by decide +kernel
theorem dX3_wrongHeadCount_0 : decode cX3_wrongHeadCount 0 = .ok (.aload_n 0, 1) := by decide +kernel
theorem dX3_wrongHeadCount_1 : decode cX3_wrongHeadCount 1 = .ok (.getfield 43, 3) := by decide +kernel
theorem dX3_wrongHeadCount_4 : decode cX3_wrongHeadCount 4 = .ok (.ireturn, 1) := by decide +kernel
theorem dX3_character_0 : decode cX3_character 0 = .ok (.aload_n 0, 1) := by decide +kernel
theorem dX3_character_1 : decode cX3_character 1 = .ok (.getfield 21, 3) := by decide +kernel
theorem dX3_character_4 : decode cX3_character 4 = .ok (.iload_n 1, 1) := by decide +kernel
theorem dX3_character_5 : decode cX3_character 5 = .ok (.iload_n 2, 1) := by decide +kernel
theorem dX3_character_6 : decode cX3_character 6 = .ok (.invokevirtual 46, 3) := by decide +kernel
theorem dX3_character_9 : decode cX3_character 9 = .ok (.ireturn, 1) := by decide +kernel
theorem dX3_exchangeState_0 : decode cX3_exchangeState 0 = .ok (.aload_n 0, 1) := by decide +kernel
theorem dX3_exchangeState_1 : decode cX3_exchangeState 1 = .ok (.getfield 12, 3) := by decide +kernel
theorem dX3_exchangeState_4 : decode cX3_exchangeState 4 = .ok (.lload_n 1, 1) := by decide +kernel
theorem dX3_exchangeState_5 : decode cX3_exchangeState 5 = .ok (.invokevirtual 50, 3) := by decide +kernel
theorem dX3_exchangeState_8 : decode cX3_exchangeState 8 = .ok (.lreturn, 1) := by decide +kernel
theorem dX3_take_0 : decode cX3_take 0 = .ok (.aload_n 0, 1) := by decide +kernel
theorem dX3_take_1 : decode cX3_take 1 = .ok (.getfield 54, 3) := by decide +kernel
theorem dX3_take_4 : decode cX3_take 4 = .ok (.ifCond .eq 9, 3) := by decide +kernel
theorem dX3_take_7 : decode cX3_take 7 = .ok (.aload_n 0, 1) := by decide +kernel
theorem dX3_take_8 : decode cX3_take 8 = .ok (.iconst 0, 1) := by decide +kernel
theorem dX3_take_9 : decode cX3_take 9 = .ok (.putfield 54, 3) := by decide +kernel
theorem dX3_take_12 : decode cX3_take 12 = .ok (.return_, 1) := by decide +kernel
theorem dX3_take_13 : decode cX3_take 13 = .ok (.aload_n 0, 1) := by decide +kernel
theorem dX3_take_14 : decode cX3_take 14 = .ok (.getfield 36, 3) := by decide +kernel
theorem dX3_take_17 : decode cX3_take 17 = .ok (.iconst 2, 1) := by decide +kernel
theorem dX3_take_18 : decode cX3_take 18 = .ok (.if_icmp .ge 18, 3) := by decide +kernel
theorem dX3_take_21 : decode cX3_take 21 = .ok (.aload_n 0, 1) := by decide +kernel
theorem dX3_take_22 : decode cX3_take 22 = .ok (.aload_n 0, 1) := by decide +kernel
theorem dX3_take_23 : decode cX3_take 23 = .ok (.getfield 57, 3) := by decide +kernel
theorem dX3_take_26 : decode cX3_take 26 = .ok (.iconst 1, 1) := by decide +kernel
theorem dX3_take_27 : decode cX3_take 27 = .ok (.ishl, 1) := by decide +kernel
theorem dX3_take_28 : decode cX3_take 28 = .ok (.iload_n 1, 1) := by decide +kernel
theorem dX3_take_29 : decode cX3_take 29 = .ok (.ior, 1) := by decide +kernel
theorem dX3_take_30 : decode cX3_take 30 = .ok (.putfield 57, 3) := by decide +kernel
theorem dX3_take_33 : decode cX3_take 33 = .ok (.goto 28, 3) := by decide +kernel
theorem dX3_take_36 : decode cX3_take 36 = .ok (.aload_n 0, 1) := by decide +kernel
theorem dX3_take_37 : decode cX3_take 37 = .ok (.dup, 1) := by decide +kernel
theorem dX3_take_38 : decode cX3_take 38 = .ok (.getfield 60, 3) := by decide +kernel
theorem dX3_take_41 : decode cX3_take 41 = .ok (.aload_n 0, 1) := by decide +kernel
theorem dX3_take_42 : decode cX3_take 42 = .ok (.getfield 12, 3) := by decide +kernel
theorem dX3_take_45 : decode cX3_take 45 = .ok (.iload_n 1, 1) := by decide +kernel
theorem dX3_take_46 : decode cX3_take 46 = .ok (.invokevirtual 64, 3) := by decide +kernel
theorem dX3_take_49 : decode cX3_take 49 = .ok (.i2l, 1) := by decide +kernel
theorem dX3_take_50 : decode cX3_take 50 = .ok (.aload_n 0, 1) := by decide +kernel
theorem dX3_take_51 : decode cX3_take 51 = .ok (.getfield 36, 3) := by decide +kernel
theorem dX3_take_54 : decode cX3_take 54 = .ok (.iconst 2, 1) := by decide +kernel
theorem dX3_take_55 : decode cX3_take 55 = .ok (.isub, 1) := by decide +kernel
theorem dX3_take_56 : decode cX3_take 56 = .ok (.lshl, 1) := by decide +kernel
theorem dX3_take_57 : decode cX3_take 57 = .ok (.lor, 1) := by decide +kernel
theorem dX3_take_58 : decode cX3_take 58 = .ok (.putfield 60, 3) := by decide +kernel
theorem dX3_take_61 : decode cX3_take 61 = .ok (.aload_n 0, 1) := by decide +kernel
theorem dX3_take_62 : decode cX3_take 62 = .ok (.dup, 1) := by decide +kernel
theorem dX3_take_63 : decode cX3_take 63 = .ok (.getfield 36, 3) := by decide +kernel
theorem dX3_take_66 : decode cX3_take 66 = .ok (.iconst 1, 1) := by decide +kernel
theorem dX3_take_67 : decode cX3_take 67 = .ok (.iadd, 1) := by decide +kernel
theorem dX3_take_68 : decode cX3_take 68 = .ok (.putfield 36, 3) := by decide +kernel
theorem dX3_take_71 : decode cX3_take 71 = .ok (.aload_n 0, 1) := by decide +kernel
theorem dX3_take_72 : decode cX3_take 72 = .ok (.getfield 36, 3) := by decide +kernel
theorem dX3_take_75 : decode cX3_take 75 = .ok (.bipush 66, 2) := by decide +kernel
theorem dX3_take_77 : decode cX3_take 77 = .ok (.if_icmp .ne 11, 3) := by decide +kernel
theorem dX3_take_80 : decode cX3_take 80 = .ok (.aload_n 0, 1) := by decide +kernel
theorem dX3_take_81 : decode cX3_take 81 = .ok (.invokevirtual 68, 3) := by decide +kernel
theorem dX3_take_84 : decode cX3_take 84 = .ok (.aload_n 0, 1) := by decide +kernel
theorem dX3_take_85 : decode cX3_take 85 = .ok (.invokevirtual 71, 3) := by decide +kernel
theorem dX3_take_88 : decode cX3_take 88 = .ok (.return_, 1) := by decide +kernel
theorem dX3_beginBlock_0 : decode cX3_beginBlock 0 = .ok (.aload_n 0, 1) := by decide +kernel
theorem dX3_beginBlock_1 : decode cX3_beginBlock 1 = .ok (.iconst 0, 1) := by decide +kernel
theorem dX3_beginBlock_2 : decode cX3_beginBlock 2 = .ok (.putfield 57, 3) := by decide +kernel
theorem dX3_beginBlock_5 : decode cX3_beginBlock 5 = .ok (.aload_n 0, 1) := by decide +kernel
theorem dX3_beginBlock_6 : decode cX3_beginBlock 6 = .ok (.lconst 0, 1) := by decide +kernel
theorem dX3_beginBlock_7 : decode cX3_beginBlock 7 = .ok (.putfield 60, 3) := by decide +kernel
theorem dX3_beginBlock_10 : decode cX3_beginBlock 10 = .ok (.aload_n 0, 1) := by decide +kernel
theorem dX3_beginBlock_11 : decode cX3_beginBlock 11 = .ok (.iconst 0, 1) := by decide +kernel
theorem dX3_beginBlock_12 : decode cX3_beginBlock 12 = .ok (.putfield 36, 3) := by decide +kernel
theorem dX3_beginBlock_15 : decode cX3_beginBlock 15 = .ok (.return_, 1) := by decide +kernel
theorem dX3_endBlock_0 : decode cX3_endBlock 0 = .ok (.aload_n 0, 1) := by decide +kernel
theorem dX3_endBlock_1 : decode cX3_endBlock 1 = .ok (.getfield 57, 3) := by decide +kernel
theorem dX3_endBlock_4 : decode cX3_endBlock 4 = .ok (.iconst 1, 1) := by decide +kernel
theorem dX3_endBlock_5 : decode cX3_endBlock 5 = .ok (.if_icmp .eq 11, 3) := by decide +kernel
theorem dX3_endBlock_8 : decode cX3_endBlock 8 = .ok (.aload_n 0, 1) := by decide +kernel
theorem dX3_endBlock_9 : decode cX3_endBlock 9 = .ok (.getfield 57, 3) := by decide +kernel
theorem dX3_endBlock_12 : decode cX3_endBlock 12 = .ok (.iconst 2, 1) := by decide +kernel
theorem dX3_endBlock_13 : decode cX3_endBlock 13 = .ok (.if_icmp .ne 7, 3) := by decide +kernel
theorem dX3_endBlock_16 : decode cX3_endBlock 16 = .ok (.iconst 1, 1) := by decide +kernel
theorem dX3_endBlock_17 : decode cX3_endBlock 17 = .ok (.goto 4, 3) := by decide +kernel
theorem dX3_endBlock_20 : decode cX3_endBlock 20 = .ok (.iconst 0, 1) := by decide +kernel
theorem dX3_endBlock_21 : decode cX3_endBlock 21 = .ok (.istore_n 1, 1) := by decide +kernel
theorem dX3_endBlock_22 : decode cX3_endBlock 22 = .ok (.aload_n 0, 1) := by decide +kernel
theorem dX3_endBlock_23 : decode cX3_endBlock 23 = .ok (.getfield 25, 3) := by decide +kernel
theorem dX3_endBlock_26 : decode cX3_endBlock 26 = .ok (.ifCond .eq 33, 3) := by decide +kernel
theorem dX3_endBlock_29 : decode cX3_endBlock 29 = .ok (.aload_n 0, 1) := by decide +kernel
theorem dX3_endBlock_30 : decode cX3_endBlock 30 = .ok (.getfield 21, 3) := by decide +kernel
theorem dX3_endBlock_33 : decode cX3_endBlock 33 = .ok (.aload_n 0, 1) := by decide +kernel
theorem dX3_endBlock_34 : decode cX3_endBlock 34 = .ok (.getfield 57, 3) := by decide +kernel
theorem dX3_endBlock_37 : decode cX3_endBlock 37 = .ok (.aload_n 0, 1) := by decide +kernel
theorem dX3_endBlock_38 : decode cX3_endBlock 38 = .ok (.getfield 60, 3) := by decide +kernel
theorem dX3_endBlock_41 : decode cX3_endBlock 41 = .ok (.invokestatic 74, 3) := by decide +kernel
theorem dX3_endBlock_44 : decode cX3_endBlock 44 = .ok (.aload_n 0, 1) := by decide +kernel
theorem dX3_endBlock_45 : decode cX3_endBlock 45 = .ok (.getfield 60, 3) := by decide +kernel
theorem dX3_endBlock_48 : decode cX3_endBlock 48 = .ok (.invokevirtual 80, 3) := by decide +kernel
theorem dX3_endBlock_51 : decode cX3_endBlock 51 = .ok (.aload_n 0, 1) := by decide +kernel
theorem dX3_endBlock_52 : decode cX3_endBlock 52 = .ok (.iload_n 1, 1) := by decide +kernel
theorem dX3_endBlock_53 : decode cX3_endBlock 53 = .ok (.invokevirtual 84, 3) := by decide +kernel
theorem dX3_endBlock_56 : decode cX3_endBlock 56 = .ok (.goto 8, 3) := by decide +kernel
theorem dX3_endBlock_59 : decode cX3_endBlock 59 = .ok (.aload_n 0, 1) := by decide +kernel
theorem dX3_endBlock_60 : decode cX3_endBlock 60 = .ok (.iload_n 1, 1) := by decide +kernel
theorem dX3_endBlock_61 : decode cX3_endBlock 61 = .ok (.invokevirtual 88, 3) := by decide +kernel
theorem dX3_endBlock_64 : decode cX3_endBlock 64 = .ok (.return_, 1) := by decide +kernel
theorem dX3_countHit_0 : decode cX3_countHit 0 = .ok (.iload_n 1, 1) := by decide +kernel
theorem dX3_countHit_1 : decode cX3_countHit 1 = .ok (.ifCond .ne 8, 3) := by decide +kernel
theorem dX3_countHit_4 : decode cX3_countHit 4 = .ok (.aload_n 0, 1) := by decide +kernel
theorem dX3_countHit_5 : decode cX3_countHit 5 = .ok (.invokevirtual 91, 3) := by decide +kernel
end
section
theorem dX3_countHit_8 : decode cX3_countHit 8 = .ok (.return_, 1) := by decide +kernel
theorem dX3_countHit_9 : decode cX3_countHit 9 = .ok (.aload_n 0, 1) := by decide +kernel
theorem dX3_countHit_10 : decode cX3_countHit 10 = .ok (.dup, 1) := by decide +kernel
theorem dX3_countHit_11 : decode cX3_countHit 11 = .ok (.getfield 29, 3) := by decide +kernel
theorem dX3_countHit_14 : decode cX3_countHit 14 = .ok (.iconst 1, 1) := by decide +kernel
theorem dX3_countHit_15 : decode cX3_countHit 15 = .ok (.iadd, 1) := by decide +kernel
theorem dX3_countHit_16 : decode cX3_countHit 16 = .ok (.putfield 29, 3) := by decide +kernel
theorem dX3_countHit_19 : decode cX3_countHit 19 = .ok (.aload_n 0, 1) := by decide +kernel
theorem dX3_countHit_20 : decode cX3_countHit 20 = .ok (.getfield 29, 3) := by decide +kernel
theorem dX3_countHit_23 : decode cX3_countHit 23 = .ok (.bipush 64, 2) := by decide +kernel
theorem dX3_countHit_25 : decode cX3_countHit 25 = .ok (.if_icmp .ne 13, 3) := by decide +kernel
theorem dX3_countHit_28 : decode cX3_countHit 28 = .ok (.aload_n 0, 1) := by decide +kernel
theorem dX3_countHit_29 : decode cX3_countHit 29 = .ok (.iconst 1, 1) := by decide +kernel
theorem dX3_countHit_30 : decode cX3_countHit 30 = .ok (.putfield 25, 3) := by decide +kernel
theorem dX3_countHit_33 : decode cX3_countHit 33 = .ok (.aload_n 0, 1) := by decide +kernel
theorem dX3_countHit_34 : decode cX3_countHit 34 = .ok (.iconst 0, 1) := by decide +kernel
theorem dX3_countHit_35 : decode cX3_countHit 35 = .ok (.putfield 29, 3) := by decide +kernel
theorem dX3_countHit_38 : decode cX3_countHit 38 = .ok (.return_, 1) := by decide +kernel
theorem dX3_countInRow_0 : decode cX3_countInRow 0 = .ok (.aload_n 0, 1) := by decide +kernel
theorem dX3_countInRow_1 : decode cX3_countInRow 1 = .ok (.dup, 1) := by decide +kernel
theorem dX3_countInRow_2 : decode cX3_countInRow 2 = .ok (.getfield 94, 3) := by decide +kernel
theorem dX3_countInRow_5 : decode cX3_countInRow 5 = .ok (.iconst 1, 1) := by decide +kernel
theorem dX3_countInRow_6 : decode cX3_countInRow 6 = .ok (.iadd, 1) := by decide +kernel
theorem dX3_countInRow_7 : decode cX3_countInRow 7 = .ok (.putfield 94, 3) := by decide +kernel
theorem dX3_countInRow_10 : decode cX3_countInRow 10 = .ok (.iload_n 1, 1) := by decide +kernel
theorem dX3_countInRow_11 : decode cX3_countInRow 11 = .ok (.ifCond .ne 13, 3) := by decide +kernel
theorem dX3_countInRow_14 : decode cX3_countInRow 14 = .ok (.aload_n 0, 1) := by decide +kernel
theorem dX3_countInRow_15 : decode cX3_countInRow 15 = .ok (.dup, 1) := by decide +kernel
theorem dX3_countInRow_16 : decode cX3_countInRow 16 = .ok (.getfield 43, 3) := by decide +kernel
theorem dX3_countInRow_19 : decode cX3_countInRow 19 = .ok (.iconst 1, 1) := by decide +kernel
theorem dX3_countInRow_20 : decode cX3_countInRow 20 = .ok (.iadd, 1) := by decide +kernel
theorem dX3_countInRow_21 : decode cX3_countInRow 21 = .ok (.putfield 43, 3) := by decide +kernel
theorem dX3_countInRow_24 : decode cX3_countInRow 24 = .ok (.aload_n 0, 1) := by decide +kernel
theorem dX3_countInRow_25 : decode cX3_countInRow 25 = .ok (.getfield 43, 3) := by decide +kernel
theorem dX3_countInRow_28 : decode cX3_countInRow 28 = .ok (.bipush 16, 2) := by decide +kernel
theorem dX3_countInRow_30 : decode cX3_countInRow 30 = .ok (.if_icmp .ne 10, 3) := by decide +kernel
theorem dX3_countInRow_33 : decode cX3_countInRow 33 = .ok (.aload_n 0, 1) := by decide +kernel
theorem dX3_countInRow_34 : decode cX3_countInRow 34 = .ok (.invokevirtual 91, 3) := by decide +kernel
theorem dX3_countInRow_37 : decode cX3_countInRow 37 = .ok (.goto 16, 3) := by decide +kernel
theorem dX3_countInRow_40 : decode cX3_countInRow 40 = .ok (.aload_n 0, 1) := by decide +kernel
theorem dX3_countInRow_41 : decode cX3_countInRow 41 = .ok (.getfield 94, 3) := by decide +kernel
theorem dX3_countInRow_44 : decode cX3_countInRow 44 = .ok (.bipush 64, 2) := by decide +kernel
theorem dX3_countInRow_46 : decode cX3_countInRow 46 = .ok (.if_icmp .ne 7, 3) := by decide +kernel
theorem dX3_countInRow_49 : decode cX3_countInRow 49 = .ok (.aload_n 0, 1) := by decide +kernel
theorem dX3_countInRow_50 : decode cX3_countInRow 50 = .ok (.invokevirtual 97, 3) := by decide +kernel
theorem dX3_countInRow_53 : decode cX3_countInRow 53 = .ok (.return_, 1) := by decide +kernel
theorem dX3_beginRow_0 : decode cX3_beginRow 0 = .ok (.aload_n 0, 1) := by decide +kernel
theorem dX3_beginRow_1 : decode cX3_beginRow 1 = .ok (.iconst 0, 1) := by decide +kernel
theorem dX3_beginRow_2 : decode cX3_beginRow 2 = .ok (.putfield 94, 3) := by decide +kernel
theorem dX3_beginRow_5 : decode cX3_beginRow 5 = .ok (.aload_n 0, 1) := by decide +kernel
theorem dX3_beginRow_6 : decode cX3_beginRow 6 = .ok (.iconst 0, 1) := by decide +kernel
theorem dX3_beginRow_7 : decode cX3_beginRow 7 = .ok (.putfield 43, 3) := by decide +kernel
theorem dX3_beginRow_10 : decode cX3_beginRow 10 = .ok (.return_, 1) := by decide +kernel
theorem dX3_slip_0 : decode cX3_slip 0 = .ok (.aload_n 0, 1) := by decide +kernel
theorem dX3_slip_1 : decode cX3_slip 1 = .ok (.iconst 0, 1) := by decide +kernel
theorem dX3_slip_2 : decode cX3_slip 2 = .ok (.putfield 25, 3) := by decide +kernel
theorem dX3_slip_5 : decode cX3_slip 5 = .ok (.aload_n 0, 1) := by decide +kernel
theorem dX3_slip_6 : decode cX3_slip 6 = .ok (.iconst 0, 1) := by decide +kernel
theorem dX3_slip_7 : decode cX3_slip 7 = .ok (.putfield 29, 3) := by decide +kernel
theorem dX3_slip_10 : decode cX3_slip 10 = .ok (.aload_n 0, 1) := by decide +kernel
theorem dX3_slip_11 : decode cX3_slip 11 = .ok (.invokevirtual 97, 3) := by decide +kernel
theorem dX3_slip_14 : decode cX3_slip 14 = .ok (.aload_n 0, 1) := by decide +kernel
theorem dX3_slip_15 : decode cX3_slip 15 = .ok (.dup, 1) := by decide +kernel
theorem dX3_slip_16 : decode cX3_slip 16 = .ok (.getfield 33, 3) := by decide +kernel
theorem dX3_slip_19 : decode cX3_slip 19 = .ok (.iconst 1, 1) := by decide +kernel
theorem dX3_slip_20 : decode cX3_slip 20 = .ok (.iadd, 1) := by decide +kernel
theorem dX3_slip_21 : decode cX3_slip 21 = .ok (.putfield 33, 3) := by decide +kernel
theorem dX3_slip_24 : decode cX3_slip 24 = .ok (.aload_n 0, 1) := by decide +kernel
theorem dX3_slip_25 : decode cX3_slip 25 = .ok (.iconst 1, 1) := by decide +kernel
theorem dX3_slip_26 : decode cX3_slip 26 = .ok (.putfield 54, 3) := by decide +kernel
theorem dX3_slip_29 : decode cX3_slip 29 = .ok (.return_, 1) := by decide +kernel
theorem dX4_init_0 : decode cX4_init 0 = .ok (.aload_n 0, 1) := by decide +kernel
theorem dX4_init_1 : decode cX4_init 1 = .ok (.invokespecial 1, 3) := by decide +kernel
theorem dX4_init_4 : decode cX4_init 4 = .ok (.return_, 1) := by decide +kernel
theorem dX4_exchange_0 : decode cX4_exchange 0 = .ok (.aload_n 0, 1) := by decide +kernel
theorem dX4_exchange_1 : decode cX4_exchange 1 = .ok (.getfield 7, 3) := by decide +kernel
theorem dX4_exchange_4 : decode cX4_exchange 4 = .ok (.lstore_n 3, 1) := by decide +kernel
theorem dX4_exchange_5 : decode cX4_exchange 5 = .ok (.aload_n 0, 1) := by decide +kernel
theorem dX4_exchange_6 : decode cX4_exchange 6 = .ok (.lload_n 1, 1) := by decide +kernel
theorem dX4_exchange_7 : decode cX4_exchange 7 = .ok (.ldc2_w 13, 3) := by decide +kernel
theorem dX4_exchange_10 : decode cX4_exchange 10 = .ok (.land, 1) := by decide +kernel
theorem dX4_exchange_11 : decode cX4_exchange 11 = .ok (.putfield 7, 3) := by decide +kernel
theorem dX4_exchange_14 : decode cX4_exchange 14 = .ok (.lload_n 3, 1) := by decide +kernel
theorem dX4_exchange_15 : decode cX4_exchange 15 = .ok (.lreturn, 1) := by decide +kernel
theorem dX4_scramble_0 : decode cX4_scramble 0 = .ok (.aload_n 0, 1) := by decide +kernel
theorem dX4_scramble_1 : decode cX4_scramble 1 = .ok (.iload_n 1, 1) := by decide +kernel
theorem dX4_scramble_2 : decode cX4_scramble 2 = .ok (.invokevirtual 15, 3) := by decide +kernel
theorem dX4_scramble_5 : decode cX4_scramble 5 = .ok (.istore_n 2, 1) := by decide +kernel
theorem dX4_scramble_6 : decode cX4_scramble 6 = .ok (.aload_n 0, 1) := by decide +kernel
theorem dX4_scramble_7 : decode cX4_scramble 7 = .ok (.iload_n 2, 1) := by decide +kernel
theorem dX4_scramble_8 : decode cX4_scramble 8 = .ok (.invokevirtual 19, 3) := by decide +kernel
theorem dX4_scramble_11 : decode cX4_scramble 11 = .ok (.iload_n 2, 1) := by decide +kernel
theorem dX4_scramble_12 : decode cX4_scramble 12 = .ok (.ireturn, 1) := by decide +kernel
theorem dX4_unscramble_0 : decode cX4_unscramble 0 = .ok (.aload_n 0, 1) := by decide +kernel
theorem dX4_unscramble_1 : decode cX4_unscramble 1 = .ok (.iload_n 1, 1) := by decide +kernel
theorem dX4_unscramble_2 : decode cX4_unscramble 2 = .ok (.invokevirtual 15, 3) := by decide +kernel
theorem dX4_unscramble_5 : decode cX4_unscramble 5 = .ok (.istore_n 2, 1) := by decide +kernel
theorem dX4_unscramble_6 : decode cX4_unscramble 6 = .ok (.aload_n 0, 1) := by decide +kernel
theorem dX4_unscramble_7 : decode cX4_unscramble 7 = .ok (.iload_n 1, 1) := by decide +kernel
theorem dX4_unscramble_8 : decode cX4_unscramble 8 = .ok (.invokevirtual 19, 3) := by decide +kernel
theorem dX4_unscramble_11 : decode cX4_unscramble 11 = .ok (.iload_n 2, 1) := by decide +kernel
theorem dX4_unscramble_12 : decode cX4_unscramble 12 = .ok (.ireturn, 1) := by decide +kernel
theorem dX4_mixed_0 : decode cX4_mixed 0 = .ok (.aload_n 0, 1) := by decide +kernel
theorem dX4_mixed_1 : decode cX4_mixed 1 = .ok (.getfield 7, 3) := by decide +kernel
theorem dX4_mixed_4 : decode cX4_mixed 4 = .ok (.bipush 38, 2) := by decide +kernel
theorem dX4_mixed_6 : decode cX4_mixed 6 = .ok (.lushr, 1) := by decide +kernel
theorem dX4_mixed_7 : decode cX4_mixed 7 = .ok (.l2i, 1) := by decide +kernel
theorem dX4_mixed_8 : decode cX4_mixed 8 = .ok (.iconst 1, 1) := by decide +kernel
theorem dX4_mixed_9 : decode cX4_mixed 9 = .ok (.iand, 1) := by decide +kernel
theorem dX4_mixed_10 : decode cX4_mixed 10 = .ok (.istore_n 2, 1) := by decide +kernel
theorem dX4_mixed_11 : decode cX4_mixed 11 = .ok (.aload_n 0, 1) := by decide +kernel
theorem dX4_mixed_12 : decode cX4_mixed 12 = .ok (.getfield 7, 3) := by decide +kernel
theorem dX4_mixed_15 : decode cX4_mixed 15 = .ok (.bipush 57, 2) := by decide +kernel
theorem dX4_mixed_17 : decode cX4_mixed 17 = .ok (.lushr, 1) := by decide +kernel
theorem dX4_mixed_18 : decode cX4_mixed 18 = .ok (.l2i, 1) := by decide +kernel
theorem dX4_mixed_19 : decode cX4_mixed 19 = .ok (.iconst 1, 1) := by decide +kernel
theorem dX4_mixed_20 : decode cX4_mixed 20 = .ok (.iand, 1) := by decide +kernel
theorem dX4_mixed_21 : decode cX4_mixed 21 = .ok (.istore_n 3, 1) := by decide +kernel
theorem dX4_mixed_22 : decode cX4_mixed 22 = .ok (.iload_n 1, 1) := by decide +kernel
theorem dX4_mixed_23 : decode cX4_mixed 23 = .ok (.iload_n 2, 1) := by decide +kernel
theorem dX4_mixed_24 : decode cX4_mixed 24 = .ok (.ixor, 1) := by decide +kernel
theorem dX4_mixed_25 : decode cX4_mixed 25 = .ok (.iload_n 3, 1) := by decide +kernel
theorem dX4_mixed_26 : decode cX4_mixed 26 = .ok (.ixor, 1) := by decide +kernel
theorem dX4_mixed_27 : decode cX4_mixed 27 = .ok (.ireturn, 1) := by decide +kernel
theorem dX4_keep_0 : decode cX4_keep 0 = .ok (.aload_n 0, 1) := by decide +kernel
theorem dX4_keep_1 : decode cX4_keep 1 = .ok (.aload_n 0, 1) := by decide +kernel
theorem dX4_keep_2 : decode cX4_keep 2 = .ok (.getfield 7, 3) := by decide +kernel
theorem dX4_keep_5 : decode cX4_keep 5 = .ok (.iconst 1, 1) := by decide +kernel
theorem dX4_keep_6 : decode cX4_keep 6 = .ok (.lshl, 1) := by decide +kernel
theorem dX4_keep_7 : decode cX4_keep 7 = .ok (.iload_n 1, 1) := by decide +kernel
theorem dX4_keep_8 : decode cX4_keep 8 = .ok (.i2l, 1) := by decide +kernel
theorem dX4_keep_9 : decode cX4_keep 9 = .ok (.lor, 1) := by decide +kernel
theorem dX4_keep_10 : decode cX4_keep 10 = .ok (.ldc2_w 13, 3) := by decide +kernel
theorem dX4_keep_13 : decode cX4_keep 13 = .ok (.land, 1) := by decide +kernel
theorem dX4_keep_14 : decode cX4_keep 14 = .ok (.putfield 7, 3) := by decide +kernel
theorem dX4_keep_17 : decode cX4_keep 17 = .ok (.return_, 1) := by decide +kernel
theorem dX5_init_0 : decode cX5_init 0 = .ok (.aload_n 0, 1) := by decide +kernel
theorem dX5_init_1 : decode cX5_init 1 = .ok (.invokespecial 5, 3) := by decide +kernel
theorem dX5_init_4 : decode cX5_init 4 = .ok (.aload_n 0, 1) := by decide +kernel
theorem dX5_init_5 : decode cX5_init 5 = .ok (.new 11, 3) := by decide +kernel
theorem dX5_init_8 : decode cX5_init 8 = .ok (.dup, 1) := by decide +kernel
theorem dX5_init_9 : decode cX5_init 9 = .ok (.invokespecial 13, 3) := by decide +kernel
theorem dX5_init_12 : decode cX5_init 12 = .ok (.putfield 14, 3) := by decide +kernel
theorem dX5_init_15 : decode cX5_init 15 = .ok (.aload_n 0, 1) := by decide +kernel
theorem dX5_init_16 : decode cX5_init 16 = .ok (.bipush 8, 2) := by decide +kernel
theorem dX5_init_18 : decode cX5_init 18 = .ok (.newarray .int, 2) := by decide +kernel
theorem dX5_init_20 : decode cX5_init 20 = .ok (.putfield 20, 3) := by decide +kernel
theorem dX5_init_23 : decode cX5_init 23 = .ok (.return_, 1) := by decide +kernel
theorem dX5_waitingCount_0 : decode cX5_waitingCount 0 = .ok (.aload_n 0, 1) := by decide +kernel
theorem dX5_waitingCount_1 : decode cX5_waitingCount 1 = .ok (.getfield 24, 3) := by decide +kernel
theorem dX5_waitingCount_4 : decode cX5_waitingCount 4 = .ok (.ireturn, 1) := by decide +kernel
theorem dX5_exchangeState_0 : decode cX5_exchangeState 0 = .ok (.aload_n 0, 1) := by decide +kernel
theorem dX5_exchangeState_1 : decode cX5_exchangeState 1 = .ok (.getfield 14, 3) := by decide +kernel
theorem dX5_exchangeState_4 : decode cX5_exchangeState 4 = .ok (.lload_n 1, 1) := by decide +kernel
theorem dX5_exchangeState_5 : decode cX5_exchangeState 5 = .ok (.invokevirtual 28, 3) := by decide +kernel
theorem dX5_exchangeState_8 : decode cX5_exchangeState 8 = .ok (.lreturn, 1) := by decide +kernel
theorem dX5_accept_0 : decode cX5_accept 0 = .ok (.aload_n 0, 1) := by decide +kernel
theorem dX5_accept_1 : decode cX5_accept 1 = .ok (.getfield 20, 3) := by decide +kernel
theorem dX5_accept_4 : decode cX5_accept 4 = .ok (.aload_n 0, 1) := by decide +kernel
theorem dX5_accept_5 : decode cX5_accept 5 = .ok (.getfield 24, 3) := by decide +kernel
theorem dX5_accept_8 : decode cX5_accept 8 = .ok (.iload_n 1, 1) := by decide +kernel
theorem dX5_accept_9 : decode cX5_accept 9 = .ok (.iastore, 1) := by decide +kernel
theorem dX5_accept_10 : decode cX5_accept 10 = .ok (.aload_n 0, 1) := by decide +kernel
theorem dX5_accept_11 : decode cX5_accept 11 = .ok (.dup, 1) := by decide +kernel
theorem dX5_accept_12 : decode cX5_accept 12 = .ok (.getfield 24, 3) := by decide +kernel
theorem dX5_accept_15 : decode cX5_accept 15 = .ok (.iconst 1, 1) := by decide +kernel
theorem dX5_accept_16 : decode cX5_accept 16 = .ok (.iadd, 1) := by decide +kernel
theorem dX5_accept_17 : decode cX5_accept 17 = .ok (.putfield 24, 3) := by decide +kernel
theorem dX5_accept_20 : decode cX5_accept 20 = .ok (.aload_n 0, 1) := by decide +kernel
theorem dX5_accept_21 : decode cX5_accept 21 = .ok (.getfield 24, 3) := by decide +kernel
theorem dX5_accept_24 : decode cX5_accept 24 = .ok (.bipush 8, 2) := by decide +kernel
theorem dX5_accept_26 : decode cX5_accept 26 = .ok (.if_icmp .ne 13, 3) := by decide +kernel
theorem dX5_accept_29 : decode cX5_accept 29 = .ok (.aload_n 0, 1) := by decide +kernel
theorem dX5_accept_30 : decode cX5_accept 30 = .ok (.iconst 0, 1) := by decide +kernel
theorem dX5_accept_31 : decode cX5_accept 31 = .ok (.putfield 24, 3) := by decide +kernel
theorem dX5_accept_34 : decode cX5_accept 34 = .ok (.aload_n 0, 1) := by decide +kernel
theorem dX5_accept_35 : decode cX5_accept 35 = .ok (.aload_n 2, 1) := by decide +kernel
theorem dX5_accept_36 : decode cX5_accept 36 = .ok (.invokevirtual 32, 3) := by decide +kernel
theorem dX5_accept_39 : decode cX5_accept 39 = .ok (.return_, 1) := by decide +kernel
theorem dX5_acceptBytes_0 : decode cX5_acceptBytes 0 = .ok (.iconst 3, 1) := by decide +kernel
theorem dX5_acceptBytes_1 : decode cX5_acceptBytes 1 = .ok (.istore_n 3, 1) := by decide +kernel
theorem dX5_acceptBytes_2 : decode cX5_acceptBytes 2 = .ok (.iload_n 3, 1) := by decide +kernel
theorem dX5_acceptBytes_3 : decode cX5_acceptBytes 3 = .ok (.ifCond .lt 24, 3) := by decide +kernel
theorem dX5_acceptBytes_6 : decode cX5_acceptBytes 6 = .ok (.aload_n 0, 1) := by decide +kernel
theorem dX5_acceptBytes_7 : decode cX5_acceptBytes 7 = .ok (.iload_n 1, 1) := by decide +kernel
theorem dX5_acceptBytes_8 : decode cX5_acceptBytes 8 = .ok (.iload_n 3, 1) := by decide +kernel
theorem dX5_acceptBytes_9 : decode cX5_acceptBytes 9 = .ok (.bipush 8, 2) := by decide +kernel
theorem dX5_acceptBytes_11 : decode cX5_acceptBytes 11 = .ok (.imul, 1) := by decide +kernel
theorem dX5_acceptBytes_12 : decode cX5_acceptBytes 12 = .ok (.iushr, 1) := by decide +kernel
theorem dX5_acceptBytes_13 : decode cX5_acceptBytes 13 = .ok (.sipush 255, 3) := by decide +kernel
theorem dX5_acceptBytes_16 : decode cX5_acceptBytes 16 = .ok (.iand, 1) := by decide +kernel
theorem dX5_acceptBytes_17 : decode cX5_acceptBytes 17 = .ok (.aload_n 2, 1) := by decide +kernel
theorem dX5_acceptBytes_18 : decode cX5_acceptBytes 18 = .ok (.invokevirtual 36, 3) := by decide +kernel
theorem dX5_acceptBytes_21 : decode cX5_acceptBytes 21 = .ok (.iinc 3 (-1), 3) := by decide +kernel
theorem dX5_acceptBytes_24 : decode cX5_acceptBytes 24 = .ok (.goto (-22), 3) := by decide +kernel
theorem dX5_acceptBytes_27 : decode cX5_acceptBytes 27 = .ok (.return_, 1) := by decide +kernel
theorem dX5_sendIdleGroups_0 : decode cX5_sendIdleGroups 0 = .ok (.iconst 0, 1) := by decide +kernel
theorem dX5_sendIdleGroups_1 : decode cX5_sendIdleGroups 1 = .ok (.istore_n 3, 1) := by decide +kernel
theorem dX5_sendIdleGroups_2 : decode cX5_sendIdleGroups 2 = .ok (.iload_n 3, 1) := by decide +kernel
theorem dX5_sendIdleGroups_3 : decode cX5_sendIdleGroups 3 = .ok (.iload_n 1, 1) := by decide +kernel
theorem dX5_sendIdleGroups_4 : decode cX5_sendIdleGroups 4 = .ok (.if_icmp .ge 18, 3) := by decide +kernel
theorem dX5_sendIdleGroups_7 : decode cX5_sendIdleGroups 7 = .ok (.aload_n 0, 1) := by decide +kernel
theorem dX5_sendIdleGroups_8 : decode cX5_sendIdleGroups 8 = .ok (.iconst 2, 1) := by decide +kernel
theorem dX5_sendIdleGroups_9 : decode cX5_sendIdleGroups 9 = .ok (.ldc2_w 40, 3) := by decide +kernel
theorem dX5_sendIdleGroups_12 : decode cX5_sendIdleGroups 12 = .ok (.aload_n 2, 1) := by decide +kernel
theorem dX5_sendIdleGroups_13 : decode cX5_sendIdleGroups 13 = .ok (.invokevirtual 42, 3) := by decide +kernel
theorem dX5_sendIdleGroups_16 : decode cX5_sendIdleGroups 16 = .ok (.iinc 3 1, 3) := by decide +kernel
theorem dX5_sendIdleGroups_19 : decode cX5_sendIdleGroups 19 = .ok (.goto (-17), 3) := by decide +kernel
theorem dX5_sendIdleGroups_22 : decode cX5_sendIdleGroups 22 = .ok (.return_, 1) := by decide +kernel
theorem dX5_sendGroup_0 : decode cX5_sendGroup 0 = .ok (.aload_n 0, 1) := by decide +kernel
theorem dX5_sendGroup_1 : decode cX5_sendGroup 1 = .ok (.getfield 20, 3) := by decide +kernel
theorem dX5_sendGroup_4 : decode cX5_sendGroup 4 = .ok (.invokestatic 46, 3) := by decide +kernel
theorem dX5_sendGroup_7 : decode cX5_sendGroup 7 = .ok (.istore_n 2, 1) := by decide +kernel
theorem dX5_sendGroup_8 : decode cX5_sendGroup 8 = .ok (.iload_n 2, 1) := by decide +kernel
theorem dX5_sendGroup_9 : decode cX5_sendGroup 9 = .ok (.bipush (-2), 2) := by decide +kernel
theorem dX5_sendGroup_11 : decode cX5_sendGroup 11 = .ok (.if_icmp .ne 16, 3) := by decide +kernel
theorem dX5_sendGroup_14 : decode cX5_sendGroup 14 = .ok (.aload_n 0, 1) := by decide +kernel
theorem dX5_sendGroup_15 : decode cX5_sendGroup 15 = .ok (.getfield 20, 3) := by decide +kernel
theorem dX5_sendGroup_18 : decode cX5_sendGroup 18 = .ok (.sipush 259, 3) := by decide +kernel
theorem dX5_sendGroup_21 : decode cX5_sendGroup 21 = .ok (.invokestatic 50, 3) := by decide +kernel
theorem dX5_sendGroup_24 : decode cX5_sendGroup 24 = .ok (.bipush 30, 2) := by decide +kernel
theorem dX5_sendGroup_26 : decode cX5_sendGroup 26 = .ok (.istore_n 2, 1) := by decide +kernel
theorem dX5_sendGroup_27 : decode cX5_sendGroup 27 = .ok (.iload_n 2, 1) := by decide +kernel
theorem dX5_sendGroup_28 : decode cX5_sendGroup 28 = .ok (.iconst (-1), 1) := by decide +kernel
theorem dX5_sendGroup_29 : decode cX5_sendGroup 29 = .ok (.if_icmp .ne 7, 3) := by decide +kernel
theorem dX5_sendGroup_32 : decode cX5_sendGroup 32 = .ok (.iconst 1, 1) := by decide +kernel
theorem dX5_sendGroup_33 : decode cX5_sendGroup 33 = .ok (.goto 4, 3) := by decide +kernel
theorem dX5_sendGroup_36 : decode cX5_sendGroup 36 = .ok (.iconst 2, 1) := by decide +kernel
theorem dX5_sendGroup_37 : decode cX5_sendGroup 37 = .ok (.istore_n 3, 1) := by decide +kernel
theorem dX5_sendGroup_38 : decode cX5_sendGroup 38 = .ok (.aload_n 0, 1) := by decide +kernel
theorem dX5_sendGroup_39 : decode cX5_sendGroup 39 = .ok (.iload_n 3, 1) := by decide +kernel
theorem dX5_sendGroup_40 : decode cX5_sendGroup 40 = .ok (.iload_n 2, 1) := by decide +kernel
theorem dX5_sendGroup_41 : decode cX5_sendGroup 41 = .ok (.aload_n 0, 1) := by decide +kernel
theorem dX5_sendGroup_42 : decode cX5_sendGroup 42 = .ok (.getfield 20, 3) := by decide +kernel
theorem dX5_sendGroup_45 : decode cX5_sendGroup 45 = .ok (.invokestatic 56, 3) := by decide +kernel
theorem dX5_sendGroup_48 : decode cX5_sendGroup 48 = .ok (.aload_n 1, 1) := by decide +kernel
theorem dX5_sendGroup_49 : decode cX5_sendGroup 49 = .ok (.invokevirtual 42, 3) := by decide +kernel
theorem dX5_sendGroup_52 : decode cX5_sendGroup 52 = .ok (.return_, 1) := by decide +kernel
theorem dX5_sendBlock_0 : decode cX5_sendBlock 0 = .ok (.aload 4, 2) := by decide +kernel
theorem dX5_sendBlock_2 : decode cX5_sendBlock 2 = .ok (.iload_n 1, 1) := by decide +kernel
theorem dX5_sendBlock_3 : decode cX5_sendBlock 3 = .ok (.iconst 1, 1) := by decide +kernel
theorem dX5_sendBlock_4 : decode cX5_sendBlock 4 = .ok (.iushr, 1) := by decide +kernel
theorem dX5_sendBlock_5 : decode cX5_sendBlock 5 = .ok (.invokevirtual 60, 3) := by decide +kernel
theorem dX5_sendBlock_8 : decode cX5_sendBlock 8 = .ok (.aload 4, 2) := by decide +kernel
theorem dX5_sendBlock_10 : decode cX5_sendBlock 10 = .ok (.iload_n 1, 1) := by decide +kernel
theorem dX5_sendBlock_11 : decode cX5_sendBlock 11 = .ok (.iconst 1, 1) := by decide +kernel
theorem dX5_sendBlock_12 : decode cX5_sendBlock 12 = .ok (.iand, 1) := by decide +kernel
theorem dX5_sendBlock_13 : decode cX5_sendBlock 13 = .ok (.invokevirtual 60, 3) := by decide +kernel
theorem dX5_sendBlock_16 : decode cX5_sendBlock 16 = .ok (.iconst 0, 1) := by decide +kernel
theorem dX5_sendBlock_17 : decode cX5_sendBlock 17 = .ok (.istore 5, 2) := by decide +kernel
theorem dX5_sendBlock_19 : decode cX5_sendBlock 19 = .ok (.iload 5, 2) := by decide +kernel
theorem dX5_sendBlock_21 : decode cX5_sendBlock 21 = .ok (.bipush 64, 2) := by decide +kernel
theorem dX5_sendBlock_23 : decode cX5_sendBlock 23 = .ok (.if_icmp .ge 28, 3) := by decide +kernel
theorem dX5_sendBlock_26 : decode cX5_sendBlock 26 = .ok (.aload 4, 2) := by decide +kernel
theorem dX5_sendBlock_28 : decode cX5_sendBlock 28 = .ok (.aload_n 0, 1) := by decide +kernel
theorem dX5_sendBlock_29 : decode cX5_sendBlock 29 = .ok (.getfield 14, 3) := by decide +kernel
theorem dX5_sendBlock_32 : decode cX5_sendBlock 32 = .ok (.lload_n 2, 1) := by decide +kernel
theorem dX5_sendBlock_33 : decode cX5_sendBlock 33 = .ok (.iload 5, 2) := by decide +kernel
theorem dX5_sendBlock_35 : decode cX5_sendBlock 35 = .ok (.lushr, 1) := by decide +kernel
theorem dX5_sendBlock_36 : decode cX5_sendBlock 36 = .ok (.l2i, 1) := by decide +kernel
theorem dX5_sendBlock_37 : decode cX5_sendBlock 37 = .ok (.iconst 1, 1) := by decide +kernel
theorem dX5_sendBlock_38 : decode cX5_sendBlock 38 = .ok (.iand, 1) := by decide +kernel
theorem dX5_sendBlock_39 : decode cX5_sendBlock 39 = .ok (.invokevirtual 66, 3) := by decide +kernel
theorem dX5_sendBlock_42 : decode cX5_sendBlock 42 = .ok (.invokevirtual 60, 3) := by decide +kernel
theorem dX5_sendBlock_45 : decode cX5_sendBlock 45 = .ok (.iinc 5 1, 3) := by decide +kernel
theorem dX5_sendBlock_48 : decode cX5_sendBlock 48 = .ok (.goto (-29), 3) := by decide +kernel
theorem dX5_sendBlock_51 : decode cX5_sendBlock 51 = .ok (.return_, 1) := by decide +kernel
theorem dX6_init_0 : decode cX6_init 0 = .ok (.aload_n 0, 1) := by decide +kernel
theorem dX6_init_1 : decode cX6_init 1 = .ok (.invokespecial 3, 3) := by decide +kernel
theorem dX6_init_4 : decode cX6_init 4 = .ok (.aload_n 0, 1) := by decide +kernel
theorem dX6_init_5 : decode cX6_init 5 = .ok (.new 9, 3) := by decide +kernel
theorem dX6_init_8 : decode cX6_init 8 = .ok (.dup, 1) := by decide +kernel
theorem dX6_init_9 : decode cX6_init 9 = .ok (.invokespecial 11, 3) := by decide +kernel
theorem dX6_init_12 : decode cX6_init 12 = .ok (.putfield 12, 3) := by decide +kernel
theorem dX6_init_15 : decode cX6_init 15 = .ok (.aload_n 0, 1) := by decide +kernel
theorem dX6_init_16 : decode cX6_init 16 = .ok (.new 16, 3) := by decide +kernel
theorem dX6_init_19 : decode cX6_init 19 = .ok (.dup, 1) := by decide +kernel
theorem dX6_init_20 : decode cX6_init 20 = .ok (.invokespecial 18, 3) := by decide +kernel
theorem dX6_init_23 : decode cX6_init 23 = .ok (.putfield 19, 3) := by decide +kernel
theorem dX6_init_26 : decode cX6_init 26 = .ok (.aload_n 0, 1) := by decide +kernel
theorem dX6_init_27 : decode cX6_init 27 = .ok (.new 23, 3) := by decide +kernel
theorem dX6_init_30 : decode cX6_init 30 = .ok (.dup, 1) := by decide +kernel
theorem dX6_init_31 : decode cX6_init 31 = .ok (.invokespecial 25, 3) := by decide +kernel
theorem dX6_init_34 : decode cX6_init 34 = .ok (.putfield 26, 3) := by decide +kernel
theorem dX6_init_37 : decode cX6_init 37 = .ok (.return_, 1) := by decide +kernel
theorem dX6_put_0 : decode cX6_put 0 = .ok (.iload_n 1, 1) := by decide +kernel
theorem dX6_put_1 : decode cX6_put 1 = .ok (.ifCond .lt 10, 3) := by decide +kernel
theorem dX6_put_4 : decode cX6_put 4 = .ok (.iload_n 1, 1) := by decide +kernel
theorem dX6_put_5 : decode cX6_put 5 = .ok (.sipush 259, 3) := by decide +kernel
theorem dX6_put_8 : decode cX6_put 8 = .ok (.if_icmp .le 6, 3) := by decide +kernel
theorem dX6_put_11 : decode cX6_put 11 = .ok (.bipush (-12), 2) := by decide +kernel
theorem dX6_put_13 : decode cX6_put 13 = .ok (.ireturn, 1) := by decide +kernel
theorem dX6_put_14 : decode cX6_put 14 = .ok (.aload_n 0, 1) := by decide +kernel
theorem dX6_put_15 : decode cX6_put 15 = .ok (.getfield 19, 3) := by decide +kernel
theorem dX6_put_18 : decode cX6_put 18 = .ok (.invokevirtual 30, 3) := by decide +kernel
theorem dX6_put_21 : decode cX6_put 21 = .ok (.bipush 7, 2) := by decide +kernel
theorem dX6_put_23 : decode cX6_put 23 = .ok (.if_icmp .ne 19, 3) := by decide +kernel
theorem dX6_put_26 : decode cX6_put 26 = .ok (.aload_n 0, 1) := by decide +kernel
theorem dX6_put_27 : decode cX6_put 27 = .ok (.getfield 12, 3) := by decide +kernel
theorem dX6_put_30 : decode cX6_put 30 = .ok (.invokevirtual 34, 3) := by decide +kernel
theorem dX6_put_33 : decode cX6_put 33 = .ok (.sipush 9000, 3) := by decide +kernel
theorem dX6_put_36 : decode cX6_put 36 = .ok (.if_icmp .lt 6, 3) := by decide +kernel
theorem dX6_put_39 : decode cX6_put 39 = .ok (.bipush (-14), 2) := by decide +kernel
theorem dX6_put_41 : decode cX6_put 41 = .ok (.ireturn, 1) := by decide +kernel
theorem dX6_put_42 : decode cX6_put 42 = .ok (.aload_n 0, 1) := by decide +kernel
theorem dX6_put_43 : decode cX6_put 43 = .ok (.getfield 19, 3) := by decide +kernel
theorem dX6_put_46 : decode cX6_put 46 = .ok (.iload_n 1, 1) := by decide +kernel
theorem dX6_put_47 : decode cX6_put 47 = .ok (.aload_n 0, 1) := by decide +kernel
theorem dX6_put_48 : decode cX6_put 48 = .ok (.getfield 12, 3) := by decide +kernel
theorem dX6_put_51 : decode cX6_put 51 = .ok (.invokevirtual 37, 3) := by decide +kernel
theorem dX6_put_54 : decode cX6_put 54 = .ok (.aload_n 0, 1) := by decide +kernel
theorem dX6_put_55 : decode cX6_put 55 = .ok (.getfield 19, 3) := by decide +kernel
theorem dX6_put_58 : decode cX6_put 58 = .ok (.invokevirtual 30, 3) := by decide +kernel
theorem dX6_put_61 : decode cX6_put 61 = .ok (.ireturn, 1) := by decide +kernel
theorem dX6_word_0 : decode cX6_word 0 = .ok (.aload_n 0, 1) := by decide +kernel
theorem dX6_word_1 : decode cX6_word 1 = .ok (.getfield 12, 3) := by decide +kernel
theorem dX6_word_4 : decode cX6_word 4 = .ok (.invokevirtual 34, 3) := by decide +kernel
theorem dX6_word_7 : decode cX6_word 7 = .ok (.sipush 9000, 3) := by decide +kernel
theorem dX6_word_10 : decode cX6_word 10 = .ok (.if_icmp .lt 6, 3) := by decide +kernel
theorem dX6_word_13 : decode cX6_word 13 = .ok (.bipush (-14), 2) := by decide +kernel
theorem dX6_word_15 : decode cX6_word 15 = .ok (.ireturn, 1) := by decide +kernel
theorem dX6_word_16 : decode cX6_word 16 = .ok (.aload_n 0, 1) := by decide +kernel
theorem dX6_word_17 : decode cX6_word 17 = .ok (.getfield 19, 3) := by decide +kernel
theorem dX6_word_20 : decode cX6_word 20 = .ok (.iload_n 1, 1) := by decide +kernel
theorem dX6_word_21 : decode cX6_word 21 = .ok (.aload_n 0, 1) := by decide +kernel
theorem dX6_word_22 : decode cX6_word 22 = .ok (.getfield 12, 3) := by decide +kernel
theorem dX6_word_25 : decode cX6_word 25 = .ok (.invokevirtual 41, 3) := by decide +kernel
theorem dX6_word_28 : decode cX6_word 28 = .ok (.aload_n 0, 1) := by decide +kernel
theorem dX6_word_29 : decode cX6_word 29 = .ok (.getfield 19, 3) := by decide +kernel
theorem dX6_word_32 : decode cX6_word 32 = .ok (.iload_n 2, 1) := by decide +kernel
theorem dX6_word_33 : decode cX6_word 33 = .ok (.aload_n 0, 1) := by decide +kernel
theorem dX6_word_34 : decode cX6_word 34 = .ok (.getfield 12, 3) := by decide +kernel
theorem dX6_word_37 : decode cX6_word 37 = .ok (.invokevirtual 41, 3) := by decide +kernel
theorem dX6_word_40 : decode cX6_word 40 = .ok (.aload_n 0, 1) := by decide +kernel
theorem dX6_word_41 : decode cX6_word 41 = .ok (.getfield 19, 3) := by decide +kernel
theorem dX6_word_44 : decode cX6_word 44 = .ok (.invokevirtual 30, 3) := by decide +kernel
theorem dX6_word_47 : decode cX6_word 47 = .ok (.ireturn, 1) := by decide +kernel
theorem dX6_idle_0 : decode cX6_idle 0 = .ok (.iload_n 1, 1) := by decide +kernel
theorem dX6_idle_1 : decode cX6_idle 1 = .ok (.iconst 1, 1) := by decide +kernel
theorem dX6_idle_2 : decode cX6_idle 2 = .ok (.if_icmp .lt 19, 3) := by decide +kernel
theorem dX6_idle_5 : decode cX6_idle 5 = .ok (.iload_n 1, 1) := by decide +kernel
theorem dX6_idle_6 : decode cX6_idle 6 = .ok (.bipush 100, 2) := by decide +kernel
theorem dX6_idle_8 : decode cX6_idle 8 = .ok (.if_icmp .gt 13, 3) := by decide +kernel
theorem dX6_idle_11 : decode cX6_idle 11 = .ok (.aload_n 0, 1) := by decide +kernel
theorem dX6_idle_12 : decode cX6_idle 12 = .ok (.getfield 19, 3) := by decide +kernel
theorem dX6_idle_15 : decode cX6_idle 15 = .ok (.invokevirtual 30, 3) := by decide +kernel
theorem dX6_idle_18 : decode cX6_idle 18 = .ok (.ifCond .eq 6, 3) := by decide +kernel
theorem dX6_idle_21 : decode cX6_idle 21 = .ok (.bipush (-12), 2) := by decide +kernel
theorem dX6_idle_23 : decode cX6_idle 23 = .ok (.ireturn, 1) := by decide +kernel
theorem dX6_idle_24 : decode cX6_idle 24 = .ok (.aload_n 0, 1) := by decide +kernel
theorem dX6_idle_25 : decode cX6_idle 25 = .ok (.getfield 12, 3) := by decide +kernel
theorem dX6_idle_28 : decode cX6_idle 28 = .ok (.invokevirtual 34, 3) := by decide +kernel
theorem dX6_idle_31 : decode cX6_idle 31 = .ok (.iload_n 1, 1) := by decide +kernel
theorem dX6_idle_32 : decode cX6_idle 32 = .ok (.iconst 1, 1) := by decide +kernel
theorem dX6_idle_33 : decode cX6_idle 33 = .ok (.isub, 1) := by decide +kernel
theorem dX6_idle_34 : decode cX6_idle 34 = .ok (.bipush 66, 2) := by decide +kernel
theorem dX6_idle_36 : decode cX6_idle 36 = .ok (.imul, 1) := by decide +kernel
theorem dX6_idle_37 : decode cX6_idle 37 = .ok (.iadd, 1) := by decide +kernel
theorem dX6_idle_38 : decode cX6_idle 38 = .ok (.sipush 9000, 3) := by decide +kernel
theorem dX6_idle_41 : decode cX6_idle 41 = .ok (.if_icmp .lt 6, 3) := by decide +kernel
theorem dX6_idle_44 : decode cX6_idle 44 = .ok (.bipush (-14), 2) := by decide +kernel
theorem dX6_idle_46 : decode cX6_idle 46 = .ok (.ireturn, 1) := by decide +kernel
theorem dX6_idle_47 : decode cX6_idle 47 = .ok (.aload_n 0, 1) := by decide +kernel
theorem dX6_idle_48 : decode cX6_idle 48 = .ok (.getfield 19, 3) := by decide +kernel
theorem dX6_idle_51 : decode cX6_idle 51 = .ok (.iload_n 1, 1) := by decide +kernel
theorem dX6_idle_52 : decode cX6_idle 52 = .ok (.aload_n 0, 1) := by decide +kernel
theorem dX6_idle_53 : decode cX6_idle 53 = .ok (.getfield 12, 3) := by decide +kernel
theorem dX6_idle_56 : decode cX6_idle 56 = .ok (.invokevirtual 44, 3) := by decide +kernel
theorem dX6_idle_59 : decode cX6_idle 59 = .ok (.aload_n 0, 1) := by decide +kernel
theorem dX6_idle_60 : decode cX6_idle 60 = .ok (.getfield 12, 3) := by decide +kernel
theorem dX6_idle_63 : decode cX6_idle 63 = .ok (.invokevirtual 34, 3) := by decide +kernel
theorem dX6_idle_66 : decode cX6_idle 66 = .ok (.ireturn, 1) := by decide +kernel
theorem dX6_state_0 : decode cX6_state 0 = .ok (.iload_n 1, 1) := by decide +kernel
theorem dX6_state_1 : decode cX6_state 1 = .ok (.ifCond .ne 12, 3) := by decide +kernel
theorem dX6_state_4 : decode cX6_state 4 = .ok (.aload_n 0, 1) := by decide +kernel
theorem dX6_state_5 : decode cX6_state 5 = .ok (.getfield 19, 3) := by decide +kernel
theorem dX6_state_8 : decode cX6_state 8 = .ok (.lload_n 2, 1) := by decide +kernel
theorem dX6_state_9 : decode cX6_state 9 = .ok (.invokevirtual 47, 3) := by decide +kernel
theorem dX6_state_12 : decode cX6_state 12 = .ok (.lreturn, 1) := by decide +kernel
theorem dX6_state_13 : decode cX6_state 13 = .ok (.iload_n 1, 1) := by decide +kernel
theorem dX6_state_14 : decode cX6_state 14 = .ok (.iconst 1, 1) := by decide +kernel
theorem dX6_state_15 : decode cX6_state 15 = .ok (.if_icmp .ne 12, 3) := by decide +kernel
theorem dX6_state_18 : decode cX6_state 18 = .ok (.aload_n 0, 1) := by decide +kernel
theorem dX6_state_19 : decode cX6_state 19 = .ok (.getfield 26, 3) := by decide +kernel
theorem dX6_state_22 : decode cX6_state 22 = .ok (.lload_n 2, 1) := by decide +kernel
theorem dX6_state_23 : decode cX6_state 23 = .ok (.invokevirtual 51, 3) := by decide +kernel
theorem dX6_state_26 : decode cX6_state 26 = .ok (.lreturn, 1) := by decide +kernel
theorem dX6_state_27 : decode cX6_state 27 = .ok (.ldc2_w 52, 3) := by decide +kernel
theorem dX6_state_30 : decode cX6_state 30 = .ok (.lreturn, 1) := by decide +kernel
theorem dX6_bits_0 : decode cX6_bits 0 = .ok (.aload_n 0, 1) := by decide +kernel
theorem dX6_bits_1 : decode cX6_bits 1 = .ok (.getfield 12, 3) := by decide +kernel
theorem dX6_bits_4 : decode cX6_bits 4 = .ok (.invokevirtual 34, 3) := by decide +kernel
theorem dX6_bits_7 : decode cX6_bits 7 = .ok (.ireturn, 1) := by decide +kernel
theorem dX6_bit_0 : decode cX6_bit 0 = .ok (.aload_n 0, 1) := by decide +kernel
theorem dX6_bit_1 : decode cX6_bit 1 = .ok (.getfield 12, 3) := by decide +kernel
theorem dX6_bit_4 : decode cX6_bit 4 = .ok (.iload_n 1, 1) := by decide +kernel
theorem dX6_bit_5 : decode cX6_bit 5 = .ok (.invokevirtual 54, 3) := by decide +kernel
theorem dX6_bit_8 : decode cX6_bit 8 = .ok (.ifCond .eq 14, 3) := by decide +kernel
theorem dX6_bit_11 : decode cX6_bit 11 = .ok (.aload_n 0, 1) := by decide +kernel
theorem dX6_bit_12 : decode cX6_bit 12 = .ok (.getfield 12, 3) := by decide +kernel
theorem dX6_bit_15 : decode cX6_bit 15 = .ok (.iload_n 1, 1) := by decide +kernel
theorem dX6_bit_16 : decode cX6_bit 16 = .ok (.invokevirtual 58, 3) := by decide +kernel
theorem dX6_bit_19 : decode cX6_bit 19 = .ok (.goto 4, 3) := by decide +kernel
theorem dX6_bit_22 : decode cX6_bit 22 = .ok (.iconst (-1), 1) := by decide +kernel
theorem dX6_bit_23 : decode cX6_bit 23 = .ok (.ireturn, 1) := by decide +kernel
theorem dX6_turn_0 : decode cX6_turn 0 = .ok (.aload_n 0, 1) := by decide +kernel
theorem dX6_turn_1 : decode cX6_turn 1 = .ok (.getfield 12, 3) := by decide +kernel
theorem dX6_turn_4 : decode cX6_turn 4 = .ok (.iload_n 1, 1) := by decide +kernel
theorem dX6_turn_5 : decode cX6_turn 5 = .ok (.invokevirtual 54, 3) := by decide +kernel
theorem dX6_turn_8 : decode cX6_turn 8 = .ok (.ifCond .ne 6, 3) := by decide +kernel
theorem dX6_turn_11 : decode cX6_turn 11 = .ok (.bipush (-12), 2) := by decide +kernel
theorem dX6_turn_13 : decode cX6_turn 13 = .ok (.ireturn, 1) := by decide +kernel
theorem dX6_turn_14 : decode cX6_turn 14 = .ok (.aload_n 0, 1) := by decide +kernel
theorem dX6_turn_15 : decode cX6_turn 15 = .ok (.getfield 12, 3) := by decide +kernel
theorem dX6_turn_18 : decode cX6_turn 18 = .ok (.iload_n 1, 1) := by decide +kernel
theorem dX6_turn_19 : decode cX6_turn 19 = .ok (.invokevirtual 62, 3) := by decide +kernel
theorem dX6_turn_22 : decode cX6_turn 22 = .ok (.aload_n 0, 1) := by decide +kernel
theorem dX6_turn_23 : decode cX6_turn 23 = .ok (.getfield 12, 3) := by decide +kernel
theorem dX6_turn_26 : decode cX6_turn 26 = .ok (.iload_n 1, 1) := by decide +kernel
theorem dX6_turn_27 : decode cX6_turn 27 = .ok (.invokevirtual 58, 3) := by decide +kernel
theorem dX6_turn_30 : decode cX6_turn 30 = .ok (.ireturn, 1) := by decide +kernel
theorem dX6_add_0 : decode cX6_add 0 = .ok (.iload_n 1, 1) := by decide +kernel
theorem dX6_add_1 : decode cX6_add 1 = .ok (.ifCond .eq 11, 3) := by decide +kernel
theorem dX6_add_4 : decode cX6_add 4 = .ok (.iload_n 1, 1) := by decide +kernel
theorem dX6_add_5 : decode cX6_add 5 = .ok (.iconst 1, 1) := by decide +kernel
theorem dX6_add_6 : decode cX6_add 6 = .ok (.if_icmp .eq 6, 3) := by decide +kernel
theorem dX6_add_9 : decode cX6_add 9 = .ok (.bipush (-12), 2) := by decide +kernel
theorem dX6_add_11 : decode cX6_add 11 = .ok (.ireturn, 1) := by decide +kernel
theorem dX6_add_12 : decode cX6_add 12 = .ok (.aload_n 0, 1) := by decide +kernel
theorem dX6_add_13 : decode cX6_add 13 = .ok (.getfield 12, 3) := by decide +kernel
theorem dX6_add_16 : decode cX6_add 16 = .ok (.invokevirtual 34, 3) := by decide +kernel
theorem dX6_add_19 : decode cX6_add 19 = .ok (.sipush 9066, 3) := by decide +kernel
theorem dX6_add_22 : decode cX6_add 22 = .ok (.if_icmp .lt 6, 3) := by decide +kernel
theorem dX6_add_25 : decode cX6_add 25 = .ok (.bipush (-14), 2) := by decide +kernel
theorem dX6_add_27 : decode cX6_add 27 = .ok (.ireturn, 1) := by decide +kernel
theorem dX6_add_28 : decode cX6_add 28 = .ok (.aload_n 0, 1) := by decide +kernel
theorem dX6_add_29 : decode cX6_add 29 = .ok (.getfield 12, 3) := by decide +kernel
theorem dX6_add_32 : decode cX6_add 32 = .ok (.iload_n 1, 1) := by decide +kernel
theorem dX6_add_33 : decode cX6_add 33 = .ok (.invokevirtual 66, 3) := by decide +kernel
theorem dX6_add_36 : decode cX6_add 36 = .ok (.aload_n 0, 1) := by decide +kernel
theorem dX6_add_37 : decode cX6_add 37 = .ok (.getfield 12, 3) := by decide +kernel
theorem dX6_add_40 : decode cX6_add 40 = .ok (.invokevirtual 34, 3) := by decide +kernel
theorem dX6_add_43 : decode cX6_add 43 = .ok (.ireturn, 1) := by decide +kernel
theorem dX6_receive_0 : decode cX6_receive 0 = .ok (.iload_n 1, 1) := by decide +kernel
theorem dX6_receive_1 : decode cX6_receive 1 = .ok (.ifCond .ge 6, 3) := by decide +kernel
theorem dX6_receive_4 : decode cX6_receive 4 = .ok (.bipush (-12), 2) := by decide +kernel
theorem dX6_receive_6 : decode cX6_receive 6 = .ok (.ireturn, 1) := by decide +kernel
theorem dX6_receive_7 : decode cX6_receive 7 = .ok (.aload_n 0, 1) := by decide +kernel
theorem dX6_receive_8 : decode cX6_receive 8 = .ok (.getfield 26, 3) := by decide +kernel
theorem dX6_receive_11 : decode cX6_receive 11 = .ok (.invokevirtual 69, 3) := by decide +kernel
theorem dX6_receive_14 : decode cX6_receive 14 = .ok (.istore_n 2, 1) := by decide +kernel
theorem dX6_receive_15 : decode cX6_receive 15 = .ok (.iload_n 1, 1) := by decide +kernel
theorem dX6_receive_16 : decode cX6_receive 16 = .ok (.aload_n 0, 1) := by decide +kernel
theorem dX6_receive_17 : decode cX6_receive 17 = .ok (.getfield 12, 3) := by decide +kernel
theorem dX6_receive_20 : decode cX6_receive 20 = .ok (.invokevirtual 34, 3) := by decide +kernel
theorem dX6_receive_23 : decode cX6_receive 23 = .ok (.invokestatic 72, 3) := by decide +kernel
theorem dX6_receive_26 : decode cX6_receive 26 = .ok (.istore_n 3, 1) := by decide +kernel
theorem dX6_receive_27 : decode cX6_receive 27 = .ok (.iconst 0, 1) := by decide +kernel
theorem dX6_receive_28 : decode cX6_receive 28 = .ok (.istore 4, 2) := by decide +kernel
theorem dX6_receive_30 : decode cX6_receive 30 = .ok (.iload 4, 2) := by decide +kernel
theorem dX6_receive_32 : decode cX6_receive 32 = .ok (.iload_n 3, 1) := by decide +kernel
theorem dX6_receive_33 : decode cX6_receive 33 = .ok (.if_icmp .ge 25, 3) := by decide +kernel
theorem dX6_receive_36 : decode cX6_receive 36 = .ok (.aload_n 0, 1) := by decide +kernel
theorem dX6_receive_37 : decode cX6_receive 37 = .ok (.getfield 26, 3) := by decide +kernel
theorem dX6_receive_40 : decode cX6_receive 40 = .ok (.aload_n 0, 1) := by decide +kernel
theorem dX6_receive_41 : decode cX6_receive 41 = .ok (.getfield 12, 3) := by decide +kernel
theorem dX6_receive_44 : decode cX6_receive 44 = .ok (.iload 4, 2) := by decide +kernel
theorem dX6_receive_46 : decode cX6_receive 46 = .ok (.invokevirtual 58, 3) := by decide +kernel
theorem dX6_receive_49 : decode cX6_receive 49 = .ok (.invokevirtual 78, 3) := by decide +kernel
theorem dX6_receive_52 : decode cX6_receive 52 = .ok (.iinc 4 1, 3) := by decide +kernel
theorem dX6_receive_55 : decode cX6_receive 55 = .ok (.goto (-25), 3) := by decide +kernel
theorem dX6_receive_58 : decode cX6_receive 58 = .ok (.aload_n 0, 1) := by decide +kernel
theorem dX6_receive_59 : decode cX6_receive 59 = .ok (.getfield 12, 3) := by decide +kernel
theorem dX6_receive_62 : decode cX6_receive 62 = .ok (.iload_n 3, 1) := by decide +kernel
theorem dX6_receive_63 : decode cX6_receive 63 = .ok (.invokevirtual 81, 3) := by decide +kernel
theorem dX6_receive_66 : decode cX6_receive 66 = .ok (.aload_n 0, 1) := by decide +kernel
theorem dX6_receive_67 : decode cX6_receive 67 = .ok (.getfield 26, 3) := by decide +kernel
theorem dX6_receive_70 : decode cX6_receive 70 = .ok (.invokevirtual 69, 3) := by decide +kernel
theorem dX6_receive_73 : decode cX6_receive 73 = .ok (.iload_n 2, 1) := by decide +kernel
theorem dX6_receive_74 : decode cX6_receive 74 = .ok (.isub, 1) := by decide +kernel
theorem dX6_receive_75 : decode cX6_receive 75 = .ok (.ireturn, 1) := by decide +kernel
theorem dX6_told_0 : decode cX6_told 0 = .ok (.aload_n 0, 1) := by decide +kernel
theorem dX6_told_1 : decode cX6_told 1 = .ok (.getfield 26, 3) := by decide +kernel
theorem dX6_told_4 : decode cX6_told 4 = .ok (.iload_n 1, 1) := by decide +kernel
theorem dX6_told_5 : decode cX6_told 5 = .ok (.iload_n 2, 1) := by decide +kernel
theorem dX6_told_6 : decode cX6_told 6 = .ok (.invokevirtual 84, 3) := by decide +kernel
theorem dX6_told_9 : decode cX6_told 9 = .ok (.ireturn, 1) := by decide +kernel
theorem dX6_receiver_0 : decode cX6_receiver 0 = .ok (.iload_n 1, 1) := by decide +kernel
theorem dX6_receiver_1 : decode cX6_receiver 1 = .ok (.tableswitch 95 0 5 #[39, 55, 63, 71, 79, 87], 39) := by decide +kernel
theorem dX6_receiver_40 : decode cX6_receiver 40 = .ok (.aload_n 0, 1) := by decide +kernel
theorem dX6_receiver_41 : decode cX6_receiver 41 = .ok (.getfield 26, 3) := by decide +kernel
theorem dX6_receiver_44 : decode cX6_receiver 44 = .ok (.invokevirtual 87, 3) := by decide +kernel
theorem dX6_receiver_47 : decode cX6_receiver 47 = .ok (.ifCond .eq 7, 3) := by decide +kernel
theorem dX6_receiver_50 : decode cX6_receiver 50 = .ok (.iconst 1, 1) := by decide +kernel
theorem dX6_receiver_51 : decode cX6_receiver 51 = .ok (.goto 4, 3) := by decide +kernel
theorem dX6_receiver_54 : decode cX6_receiver 54 = .ok (.iconst 0, 1) := by decide +kernel
theorem dX6_receiver_55 : decode cX6_receiver 55 = .ok (.ireturn, 1) := by decide +kernel
theorem dX6_receiver_56 : decode cX6_receiver 56 = .ok (.aload_n 0, 1) := by decide +kernel
theorem dX6_receiver_57 : decode cX6_receiver 57 = .ok (.getfield 26, 3) := by decide +kernel
theorem dX6_receiver_60 : decode cX6_receiver 60 = .ok (.invokevirtual 91, 3) := by decide +kernel
theorem dX6_receiver_63 : decode cX6_receiver 63 = .ok (.ireturn, 1) := by decide +kernel
theorem dX6_receiver_64 : decode cX6_receiver 64 = .ok (.aload_n 0, 1) := by decide +kernel
theorem dX6_receiver_65 : decode cX6_receiver 65 = .ok (.getfield 26, 3) := by decide +kernel
theorem dX6_receiver_68 : decode cX6_receiver 68 = .ok (.invokevirtual 94, 3) := by decide +kernel
theorem dX6_receiver_71 : decode cX6_receiver 71 = .ok (.ireturn, 1) := by decide +kernel
theorem dX6_receiver_72 : decode cX6_receiver 72 = .ok (.aload_n 0, 1) := by decide +kernel
theorem dX6_receiver_73 : decode cX6_receiver 73 = .ok (.getfield 26, 3) := by decide +kernel
theorem dX6_receiver_76 : decode cX6_receiver 76 = .ok (.invokevirtual 97, 3) := by decide +kernel
theorem dX6_receiver_79 : decode cX6_receiver 79 = .ok (.ireturn, 1) := by decide +kernel
theorem dX6_receiver_80 : decode cX6_receiver 80 = .ok (.aload_n 0, 1) := by decide +kernel
theorem dX6_receiver_81 : decode cX6_receiver 81 = .ok (.getfield 26, 3) := by decide +kernel
theorem dX6_receiver_84 : decode cX6_receiver 84 = .ok (.invokevirtual 69, 3) := by decide +kernel
theorem dX6_receiver_87 : decode cX6_receiver 87 = .ok (.ireturn, 1) := by decide +kernel
theorem dX6_receiver_88 : decode cX6_receiver 88 = .ok (.aload_n 0, 1) := by decide +kernel
theorem dX6_receiver_89 : decode cX6_receiver 89 = .ok (.getfield 26, 3) := by decide +kernel
theorem dX6_receiver_92 : decode cX6_receiver 92 = .ok (.invokevirtual 100, 3) := by decide +kernel
theorem dX6_receiver_95 : decode cX6_receiver 95 = .ok (.ireturn, 1) := by decide +kernel
theorem dX6_receiver_96 : decode cX6_receiver 96 = .ok (.bipush (-12), 2) := by decide +kernel
theorem dX6_receiver_98 : decode cX6_receiver 98 = .ok (.ireturn, 1) := by decide +kernel
theorem dJ9_floorMod_7cf53_0 : decode cJ9_floorMod_7cf53 0 = .ok (.iload_n 0, 1) := by decide +kernel
theorem dJ9_floorMod_7cf53_1 : decode cJ9_floorMod_7cf53 1 = .ok (.iload_n 1, 1) := by decide +kernel
theorem dJ9_floorMod_7cf53_2 : decode cJ9_floorMod_7cf53 2 = .ok (.irem, 1) := by decide +kernel
theorem dJ9_floorMod_7cf53_3 : decode cJ9_floorMod_7cf53 3 = .ok (.istore_n 2, 1) := by decide +kernel
theorem dJ9_floorMod_7cf53_4 : decode cJ9_floorMod_7cf53 4 = .ok (.iload_n 0, 1) := by decide +kernel
theorem dJ9_floorMod_7cf53_5 : decode cJ9_floorMod_7cf53 5 = .ok (.iload_n 1, 1) := by decide +kernel
theorem dJ9_floorMod_7cf53_6 : decode cJ9_floorMod_7cf53 6 = .ok (.ixor, 1) := by decide +kernel
theorem dJ9_floorMod_7cf53_7 : decode cJ9_floorMod_7cf53 7 = .ok (.ifCond .ge 11, 3) := by decide +kernel
theorem dJ9_floorMod_7cf53_10 : decode cJ9_floorMod_7cf53 10 = .ok (.iload_n 2, 1) := by decide +kernel
theorem dJ9_floorMod_7cf53_11 : decode cJ9_floorMod_7cf53 11 = .ok (.ifCond .eq 7, 3) := by decide +kernel
theorem dJ9_floorMod_7cf53_14 : decode cJ9_floorMod_7cf53 14 = .ok (.iload_n 2, 1) := by decide +kernel
theorem dJ9_floorMod_7cf53_15 : decode cJ9_floorMod_7cf53 15 = .ok (.iload_n 1, 1) := by decide +kernel
theorem dJ9_floorMod_7cf53_16 : decode cJ9_floorMod_7cf53 16 = .ok (.iadd, 1) := by decide +kernel
theorem dJ9_floorMod_7cf53_17 : decode cJ9_floorMod_7cf53 17 = .ok (.ireturn, 1) := by decide +kernel
theorem dJ9_floorMod_7cf53_18 : decode cJ9_floorMod_7cf53 18 = .ok (.iload_n 2, 1) := by decide +kernel
theorem dJ9_floorMod_7cf53_19 : decode cJ9_floorMod_7cf53 19 = .ok (.ireturn, 1) := by decide +kernel
theorem dJ9_min_7cf53_0 : decode cJ9_min_7cf53 0 = .ok (.iload_n 0, 1) := by decide +kernel
theorem dJ9_min_7cf53_1 : decode cJ9_min_7cf53 1 = .ok (.iload_n 1, 1) := by decide +kernel
theorem dJ9_min_7cf53_2 : decode cJ9_min_7cf53 2 = .ok (.if_icmp .gt 7, 3) := by decide +kernel
theorem dJ9_min_7cf53_5 : decode cJ9_min_7cf53 5 = .ok (.iload_n 0, 1) := by decide +kernel
theorem dJ9_min_7cf53_6 : decode cJ9_min_7cf53 6 = .ok (.goto 4, 3) := by decide +kernel
theorem dJ9_min_7cf53_9 : decode cJ9_min_7cf53 9 = .ok (.iload_n 1, 1) := by decide +kernel
theorem dJ9_min_7cf53_10 : decode cJ9_min_7cf53 10 = .ok (.ireturn, 1) := by decide +kernel
theorem dJ7_fill_53178_0 : decode cJ7_fill_53178 0 = .ok (.iconst 0, 1) := by decide +kernel
theorem dJ7_fill_53178_1 : decode cJ7_fill_53178 1 = .ok (.istore_n 2, 1) := by decide +kernel
theorem dJ7_fill_53178_2 : decode cJ7_fill_53178 2 = .ok (.aload_n 0, 1) := by decide +kernel
theorem dJ7_fill_53178_3 : decode cJ7_fill_53178 3 = .ok (.arraylength, 1) := by decide +kernel
theorem dJ7_fill_53178_4 : decode cJ7_fill_53178 4 = .ok (.istore_n 3, 1) := by decide +kernel
theorem dJ7_fill_53178_5 : decode cJ7_fill_53178 5 = .ok (.iload_n 2, 1) := by decide +kernel
theorem dJ7_fill_53178_6 : decode cJ7_fill_53178 6 = .ok (.iload_n 3, 1) := by decide +kernel
theorem dJ7_fill_53178_7 : decode cJ7_fill_53178 7 = .ok (.if_icmp .ge 13, 3) := by decide +kernel
theorem dJ7_fill_53178_10 : decode cJ7_fill_53178 10 = .ok (.aload_n 0, 1) := by decide +kernel
theorem dJ7_fill_53178_11 : decode cJ7_fill_53178 11 = .ok (.iload_n 2, 1) := by decide +kernel
theorem dJ7_fill_53178_12 : decode cJ7_fill_53178 12 = .ok (.iload_n 1, 1) := by decide +kernel
theorem dJ7_fill_53178_13 : decode cJ7_fill_53178 13 = .ok (.iastore, 1) := by decide +kernel
theorem dJ7_fill_53178_14 : decode cJ7_fill_53178 14 = .ok (.iinc 2 1, 3) := by decide +kernel
theorem dJ7_fill_53178_17 : decode cJ7_fill_53178 17 = .ok (.goto (-12), 3) := by decide +kernel
theorem dJ7_fill_53178_20 : decode cJ7_fill_53178 20 = .ok (.return_, 1) := by decide +kernel
end
section
theorem dX7_init_0 : decode cX7_init 0 = .ok (.aload_n 0, 1) := by decide +kernel
theorem dX7_init_1 : decode cX7_init 1 = .ok (.invokespecial 1, 3) := by decide +kernel
theorem dX7_init_4 : decode cX7_init 4 = .ok (.aload_n 0, 1) := by decide +kernel
theorem dX7_init_5 : decode cX7_init 5 = .ok (.bipush 8, 2) := by decide +kernel
theorem dX7_init_7 : decode cX7_init 7 = .ok (.newarray .int, 2) := by decide +kernel
theorem dX7_init_9 : decode cX7_init 9 = .ok (.putfield 7, 3) := by decide +kernel
theorem dX7_init_12 : decode cX7_init 12 = .ok (.aload_n 0, 1) := by decide +kernel
theorem dX7_init_13 : decode cX7_init 13 = .ok (.sipush 9200, 3) := by decide +kernel
theorem dX7_init_16 : decode cX7_init 16 = .ok (.newarray .byte, 2) := by decide +kernel
theorem dX7_init_18 : decode cX7_init 18 = .ok (.putfield 13, 3) := by decide +kernel
theorem dX7_init_21 : decode cX7_init 21 = .ok (.aload_n 0, 1) := by decide +kernel
theorem dX7_init_22 : decode cX7_init 22 = .ok (.bipush 116, 2) := by decide +kernel
theorem dX7_init_24 : decode cX7_init 24 = .ok (.newarray .int, 2) := by decide +kernel
theorem dX7_init_26 : decode cX7_init 26 = .ok (.putfield 17, 3) := by decide +kernel
theorem dX7_init_29 : decode cX7_init 29 = .ok (.aload_n 0, 1) := by decide +kernel
theorem dX7_init_30 : decode cX7_init 30 = .ok (.bipush 66, 2) := by decide +kernel
theorem dX7_init_32 : decode cX7_init 32 = .ok (.newarray .int, 2) := by decide +kernel
theorem dX7_init_34 : decode cX7_init 34 = .ok (.putfield 20, 3) := by decide +kernel
theorem dX7_init_37 : decode cX7_init 37 = .ok (.aload_n 0, 1) := by decide +kernel
theorem dX7_init_38 : decode cX7_init 38 = .ok (.bipush 66, 2) := by decide +kernel
theorem dX7_init_40 : decode cX7_init 40 = .ok (.newarray .int, 2) := by decide +kernel
theorem dX7_init_42 : decode cX7_init 42 = .ok (.putfield 23, 3) := by decide +kernel
theorem dX7_init_45 : decode cX7_init 45 = .ok (.aload_n 0, 1) := by decide +kernel
theorem dX7_init_46 : decode cX7_init 46 = .ok (.sipush 2400, 3) := by decide +kernel
theorem dX7_init_49 : decode cX7_init 49 = .ok (.newarray .int, 2) := by decide +kernel
theorem dX7_init_51 : decode cX7_init 51 = .ok (.putfield 26, 3) := by decide +kernel
theorem dX7_init_54 : decode cX7_init 54 = .ok (.aload_n 0, 1) := by decide +kernel
theorem dX7_init_55 : decode cX7_init 55 = .ok (.iconst 0, 1) := by decide +kernel
theorem dX7_init_56 : decode cX7_init 56 = .ok (.putfield 29, 3) := by decide +kernel
theorem dX7_init_59 : decode cX7_init 59 = .ok (.return_, 1) := by decide +kernel
theorem dX7_mixed_0 : decode cX7_mixed 0 = .ok (.iload_n 2, 1) := by decide +kernel
theorem dX7_mixed_1 : decode cX7_mixed 1 = .ok (.aload_n 0, 1) := by decide +kernel
theorem dX7_mixed_2 : decode cX7_mixed 2 = .ok (.getfield 17, 3) := by decide +kernel
theorem dX7_mixed_5 : decode cX7_mixed 5 = .ok (.bipush 58, 2) := by decide +kernel
theorem dX7_mixed_7 : decode cX7_mixed 7 = .ok (.iload_n 1, 1) := by decide +kernel
theorem dX7_mixed_8 : decode cX7_mixed 8 = .ok (.imul, 1) := by decide +kernel
theorem dX7_mixed_9 : decode cX7_mixed 9 = .ok (.bipush 38, 2) := by decide +kernel
theorem dX7_mixed_11 : decode cX7_mixed 11 = .ok (.iadd, 1) := by decide +kernel
theorem dX7_mixed_12 : decode cX7_mixed 12 = .ok (.iaload, 1) := by decide +kernel
theorem dX7_mixed_13 : decode cX7_mixed 13 = .ok (.ixor, 1) := by decide +kernel
theorem dX7_mixed_14 : decode cX7_mixed 14 = .ok (.aload_n 0, 1) := by decide +kernel
theorem dX7_mixed_15 : decode cX7_mixed 15 = .ok (.getfield 17, 3) := by decide +kernel
theorem dX7_mixed_18 : decode cX7_mixed 18 = .ok (.bipush 58, 2) := by decide +kernel
theorem dX7_mixed_20 : decode cX7_mixed 20 = .ok (.iload_n 1, 1) := by decide +kernel
theorem dX7_mixed_21 : decode cX7_mixed 21 = .ok (.imul, 1) := by decide +kernel
theorem dX7_mixed_22 : decode cX7_mixed 22 = .ok (.bipush 57, 2) := by decide +kernel
theorem dX7_mixed_24 : decode cX7_mixed 24 = .ok (.iadd, 1) := by decide +kernel
theorem dX7_mixed_25 : decode cX7_mixed 25 = .ok (.iaload, 1) := by decide +kernel
theorem dX7_mixed_26 : decode cX7_mixed 26 = .ok (.ixor, 1) := by decide +kernel
theorem dX7_mixed_27 : decode cX7_mixed 27 = .ok (.ireturn, 1) := by decide +kernel
theorem dX7_remember_0 : decode cX7_remember 0 = .ok (.bipush 57, 2) := by decide +kernel
theorem dX7_remember_2 : decode cX7_remember 2 = .ok (.istore_n 3, 1) := by decide +kernel
theorem dX7_remember_3 : decode cX7_remember 3 = .ok (.iload_n 3, 1) := by decide +kernel
theorem dX7_remember_4 : decode cX7_remember 4 = .ok (.ifCond .le 33, 3) := by decide +kernel
theorem dX7_remember_7 : decode cX7_remember 7 = .ok (.aload_n 0, 1) := by decide +kernel
theorem dX7_remember_8 : decode cX7_remember 8 = .ok (.getfield 17, 3) := by decide +kernel
theorem dX7_remember_11 : decode cX7_remember 11 = .ok (.bipush 58, 2) := by decide +kernel
theorem dX7_remember_13 : decode cX7_remember 13 = .ok (.iload_n 1, 1) := by decide +kernel
theorem dX7_remember_14 : decode cX7_remember 14 = .ok (.imul, 1) := by decide +kernel
theorem dX7_remember_15 : decode cX7_remember 15 = .ok (.iload_n 3, 1) := by decide +kernel
theorem dX7_remember_16 : decode cX7_remember 16 = .ok (.iadd, 1) := by decide +kernel
theorem dX7_remember_17 : decode cX7_remember 17 = .ok (.aload_n 0, 1) := by decide +kernel
theorem dX7_remember_18 : decode cX7_remember 18 = .ok (.getfield 17, 3) := by decide +kernel
theorem dX7_remember_21 : decode cX7_remember 21 = .ok (.bipush 58, 2) := by decide +kernel
theorem dX7_remember_23 : decode cX7_remember 23 = .ok (.iload_n 1, 1) := by decide +kernel
theorem dX7_remember_24 : decode cX7_remember 24 = .ok (.imul, 1) := by decide +kernel
theorem dX7_remember_25 : decode cX7_remember 25 = .ok (.iload_n 3, 1) := by decide +kernel
theorem dX7_remember_26 : decode cX7_remember 26 = .ok (.iadd, 1) := by decide +kernel
theorem dX7_remember_27 : decode cX7_remember 27 = .ok (.iconst 1, 1) := by decide +kernel
theorem dX7_remember_28 : decode cX7_remember 28 = .ok (.isub, 1) := by decide +kernel
theorem dX7_remember_29 : decode cX7_remember 29 = .ok (.iaload, 1) := by decide +kernel
theorem dX7_remember_30 : decode cX7_remember 30 = .ok (.iastore, 1) := by decide +kernel
theorem dX7_remember_31 : decode cX7_remember 31 = .ok (.iinc 3 (-1), 3) := by decide +kernel
theorem dX7_remember_34 : decode cX7_remember 34 = .ok (.goto (-31), 3) := by decide +kernel
theorem dX7_remember_37 : decode cX7_remember 37 = .ok (.aload_n 0, 1) := by decide +kernel
theorem dX7_remember_38 : decode cX7_remember 38 = .ok (.getfield 17, 3) := by decide +kernel
theorem dX7_remember_41 : decode cX7_remember 41 = .ok (.bipush 58, 2) := by decide +kernel
theorem dX7_remember_43 : decode cX7_remember 43 = .ok (.iload_n 1, 1) := by decide +kernel
theorem dX7_remember_44 : decode cX7_remember 44 = .ok (.imul, 1) := by decide +kernel
theorem dX7_remember_45 : decode cX7_remember 45 = .ok (.iload_n 2, 1) := by decide +kernel
theorem dX7_remember_46 : decode cX7_remember 46 = .ok (.iastore, 1) := by decide +kernel
theorem dX7_remember_47 : decode cX7_remember 47 = .ok (.return_, 1) := by decide +kernel
theorem dX7_state_0 : decode cX7_state 0 = .ok (.aload_n 0, 1) := by decide +kernel
theorem dX7_state_1 : decode cX7_state 1 = .ok (.iconst 0, 1) := by decide +kernel
theorem dX7_state_2 : decode cX7_state 2 = .ok (.putfield 33, 3) := by decide +kernel
theorem dX7_state_5 : decode cX7_state 5 = .ok (.iload_n 1, 1) := by decide +kernel
theorem dX7_state_6 : decode cX7_state 6 = .ok (.ifCond .lt 8, 3) := by decide +kernel
theorem dX7_state_9 : decode cX7_state 9 = .ok (.iload_n 1, 1) := by decide +kernel
theorem dX7_state_10 : decode cX7_state 10 = .ok (.iconst 1, 1) := by decide +kernel
theorem dX7_state_11 : decode cX7_state 11 = .ok (.if_icmp .le 7, 3) := by decide +kernel
theorem dX7_state_14 : decode cX7_state 14 = .ok (.ldc2_w 36, 3) := by decide +kernel
theorem dX7_state_17 : decode cX7_state 17 = .ok (.lreturn, 1) := by decide +kernel
theorem dX7_state_18 : decode cX7_state 18 = .ok (.lconst 0, 1) := by decide +kernel
theorem dX7_state_19 : decode cX7_state 19 = .ok (.lstore 4, 2) := by decide +kernel
theorem dX7_state_21 : decode cX7_state 21 = .ok (.bipush 57, 2) := by decide +kernel
theorem dX7_state_23 : decode cX7_state 23 = .ok (.istore 6, 2) := by decide +kernel
theorem dX7_state_25 : decode cX7_state 25 = .ok (.iload 6, 2) := by decide +kernel
theorem dX7_state_27 : decode cX7_state 27 = .ok (.ifCond .lt 50, 3) := by decide +kernel
theorem dX7_state_30 : decode cX7_state 30 = .ok (.ldc2_w 38, 3) := by decide +kernel
theorem dX7_state_33 : decode cX7_state 33 = .ok (.lload 4, 2) := by decide +kernel
theorem dX7_state_35 : decode cX7_state 35 = .ok (.lmul, 1) := by decide +kernel
theorem dX7_state_36 : decode cX7_state 36 = .ok (.aload_n 0, 1) := by decide +kernel
theorem dX7_state_37 : decode cX7_state 37 = .ok (.getfield 17, 3) := by decide +kernel
theorem dX7_state_40 : decode cX7_state 40 = .ok (.bipush 58, 2) := by decide +kernel
theorem dX7_state_42 : decode cX7_state 42 = .ok (.iload_n 1, 1) := by decide +kernel
theorem dX7_state_43 : decode cX7_state 43 = .ok (.imul, 1) := by decide +kernel
theorem dX7_state_44 : decode cX7_state 44 = .ok (.iload 6, 2) := by decide +kernel
theorem dX7_state_46 : decode cX7_state 46 = .ok (.iadd, 1) := by decide +kernel
theorem dX7_state_47 : decode cX7_state 47 = .ok (.iaload, 1) := by decide +kernel
theorem dX7_state_48 : decode cX7_state 48 = .ok (.i2l, 1) := by decide +kernel
theorem dX7_state_49 : decode cX7_state 49 = .ok (.ladd, 1) := by decide +kernel
theorem dX7_state_50 : decode cX7_state 50 = .ok (.lstore 4, 2) := by decide +kernel
theorem dX7_state_52 : decode cX7_state 52 = .ok (.aload_n 0, 1) := by decide +kernel
theorem dX7_state_53 : decode cX7_state 53 = .ok (.getfield 17, 3) := by decide +kernel
theorem dX7_state_56 : decode cX7_state 56 = .ok (.bipush 58, 2) := by decide +kernel
theorem dX7_state_58 : decode cX7_state 58 = .ok (.iload_n 1, 1) := by decide +kernel
theorem dX7_state_59 : decode cX7_state 59 = .ok (.imul, 1) := by decide +kernel
theorem dX7_state_60 : decode cX7_state 60 = .ok (.iload 6, 2) := by decide +kernel
theorem dX7_state_62 : decode cX7_state 62 = .ok (.iadd, 1) := by decide +kernel
theorem dX7_state_63 : decode cX7_state 63 = .ok (.lload_n 2, 1) := by decide +kernel
theorem dX7_state_64 : decode cX7_state 64 = .ok (.iload 6, 2) := by decide +kernel
theorem dX7_state_66 : decode cX7_state 66 = .ok (.lshr, 1) := by decide +kernel
theorem dX7_state_67 : decode cX7_state 67 = .ok (.lconst 1, 1) := by decide +kernel
theorem dX7_state_68 : decode cX7_state 68 = .ok (.land, 1) := by decide +kernel
theorem dX7_state_69 : decode cX7_state 69 = .ok (.l2i, 1) := by decide +kernel
theorem dX7_state_70 : decode cX7_state 70 = .ok (.iastore, 1) := by decide +kernel
theorem dX7_state_71 : decode cX7_state 71 = .ok (.iinc 6 (-1), 3) := by decide +kernel
theorem dX7_state_74 : decode cX7_state 74 = .ok (.goto (-49), 3) := by decide +kernel
theorem dX7_state_77 : decode cX7_state 77 = .ok (.lload 4, 2) := by decide +kernel
theorem dX7_state_79 : decode cX7_state 79 = .ok (.lreturn, 1) := by decide +kernel
theorem dX7_isData_0 : decode cX7_isData 0 = .ok (.iload_n 0, 1) := by decide +kernel
theorem dX7_isData_1 : decode cX7_isData 1 = .ok (.sipush 256, 3) := by decide +kernel
theorem dX7_isData_4 : decode cX7_isData 4 = .ok (.if_icmp .ge 7, 3) := by decide +kernel
theorem dX7_isData_7 : decode cX7_isData 7 = .ok (.iconst 1, 1) := by decide +kernel
theorem dX7_isData_8 : decode cX7_isData 8 = .ok (.goto 4, 3) := by decide +kernel
theorem dX7_isData_11 : decode cX7_isData 11 = .ok (.iconst 0, 1) := by decide +kernel
theorem dX7_isData_12 : decode cX7_isData 12 = .ok (.ireturn, 1) := by decide +kernel
theorem dX7_isQuiet_0 : decode cX7_isQuiet 0 = .ok (.iload_n 0, 1) := by decide +kernel
theorem dX7_isQuiet_1 : decode cX7_isQuiet 1 = .ok (.sipush 256, 3) := by decide +kernel
theorem dX7_isQuiet_4 : decode cX7_isQuiet 4 = .ok (.if_icmp .eq 10, 3) := by decide +kernel
theorem dX7_isQuiet_7 : decode cX7_isQuiet 7 = .ok (.iload_n 0, 1) := by decide +kernel
theorem dX7_isQuiet_8 : decode cX7_isQuiet 8 = .ok (.sipush 259, 3) := by decide +kernel
theorem dX7_isQuiet_11 : decode cX7_isQuiet 11 = .ok (.if_icmp .ne 7, 3) := by decide +kernel
theorem dX7_isQuiet_14 : decode cX7_isQuiet 14 = .ok (.iconst 1, 1) := by decide +kernel
theorem dX7_isQuiet_15 : decode cX7_isQuiet 15 = .ok (.goto 4, 3) := by decide +kernel
theorem dX7_isQuiet_18 : decode cX7_isQuiet 18 = .ok (.iconst 0, 1) := by decide +kernel
theorem dX7_isQuiet_19 : decode cX7_isQuiet 19 = .ok (.ireturn, 1) := by decide +kernel
theorem dX7_are_0 : decode cX7_are 0 = .ok (.iconst 1, 1) := by decide +kernel
theorem dX7_are_1 : decode cX7_are 1 = .ok (.istore 4, 2) := by decide +kernel
theorem dX7_are_3 : decode cX7_are 3 = .ok (.iload_n 1, 1) := by decide +kernel
theorem dX7_are_4 : decode cX7_are 4 = .ok (.istore 5, 2) := by decide +kernel
theorem dX7_are_6 : decode cX7_are 6 = .ok (.iload 5, 2) := by decide +kernel
theorem dX7_are_8 : decode cX7_are 8 = .ok (.iload_n 2, 1) := by decide +kernel
theorem dX7_are_9 : decode cX7_are 9 = .ok (.if_icmp .ge 54, 3) := by decide +kernel
theorem dX7_are_12 : decode cX7_are 12 = .ok (.iload 4, 2) := by decide +kernel
theorem dX7_are_14 : decode cX7_are 14 = .ok (.ifCond .eq 40, 3) := by decide +kernel
theorem dX7_are_17 : decode cX7_are 17 = .ok (.iload_n 3, 1) := by decide +kernel
theorem dX7_are_18 : decode cX7_are 18 = .ok (.ifCond .eq 19, 3) := by decide +kernel
theorem dX7_are_21 : decode cX7_are 21 = .ok (.aload_n 0, 1) := by decide +kernel
theorem dX7_are_22 : decode cX7_are 22 = .ok (.getfield 7, 3) := by decide +kernel
theorem dX7_are_25 : decode cX7_are 25 = .ok (.iload 5, 2) := by decide +kernel
theorem dX7_are_27 : decode cX7_are 27 = .ok (.iaload, 1) := by decide +kernel
theorem dX7_are_28 : decode cX7_are 28 = .ok (.invokestatic 40, 3) := by decide +kernel
theorem dX7_are_31 : decode cX7_are 31 = .ok (.ifCond .eq 23, 3) := by decide +kernel
theorem dX7_are_34 : decode cX7_are 34 = .ok (.goto 16, 3) := by decide +kernel
theorem dX7_are_37 : decode cX7_are 37 = .ok (.aload_n 0, 1) := by decide +kernel
theorem dX7_are_38 : decode cX7_are 38 = .ok (.getfield 7, 3) := by decide +kernel
theorem dX7_are_41 : decode cX7_are 41 = .ok (.iload 5, 2) := by decide +kernel
theorem dX7_are_43 : decode cX7_are 43 = .ok (.iaload, 1) := by decide +kernel
theorem dX7_are_44 : decode cX7_are 44 = .ok (.invokestatic 44, 3) := by decide +kernel
theorem dX7_are_47 : decode cX7_are 47 = .ok (.ifCond .eq 7, 3) := by decide +kernel
theorem dX7_are_50 : decode cX7_are 50 = .ok (.iconst 1, 1) := by decide +kernel
theorem dX7_are_51 : decode cX7_are 51 = .ok (.goto 4, 3) := by decide +kernel
theorem dX7_are_54 : decode cX7_are 54 = .ok (.iconst 0, 1) := by decide +kernel
theorem dX7_are_55 : decode cX7_are 55 = .ok (.istore 4, 2) := by decide +kernel
theorem dX7_are_57 : decode cX7_are 57 = .ok (.iinc 5 1, 3) := by decide +kernel
theorem dX7_are_60 : decode cX7_are 60 = .ok (.goto (-54), 3) := by decide +kernel
theorem dX7_are_63 : decode cX7_are 63 = .ok (.iload 4, 2) := by decide +kernel
theorem dX7_are_65 : decode cX7_are 65 = .ok (.ireturn, 1) := by decide +kernel
theorem dX7_typeOf_0 : decode cX7_typeOf 0 = .ok (.iload_n 0, 1) := by decide +kernel
theorem dX7_typeOf_1 : decode cX7_typeOf 1 = .ok (.ifCond .ne 9, 3) := by decide +kernel
theorem dX7_typeOf_4 : decode cX7_typeOf 4 = .ok (.sipush 135, 3) := by decide +kernel
theorem dX7_typeOf_7 : decode cX7_typeOf 7 = .ok (.goto 73, 3) := by decide +kernel
theorem dX7_typeOf_10 : decode cX7_typeOf 10 = .ok (.iload_n 0, 1) := by decide +kernel
theorem dX7_typeOf_11 : decode cX7_typeOf 11 = .ok (.iconst 1, 1) := by decide +kernel
theorem dX7_typeOf_12 : decode cX7_typeOf 12 = .ok (.if_icmp .ne 9, 3) := by decide +kernel
theorem dX7_typeOf_15 : decode cX7_typeOf 15 = .ok (.sipush 153, 3) := by decide +kernel
theorem dX7_typeOf_18 : decode cX7_typeOf 18 = .ok (.goto 62, 3) := by decide +kernel
theorem dX7_typeOf_21 : decode cX7_typeOf 21 = .ok (.iload_n 0, 1) := by decide +kernel
theorem dX7_typeOf_22 : decode cX7_typeOf 22 = .ok (.iconst 2, 1) := by decide +kernel
theorem dX7_typeOf_23 : decode cX7_typeOf 23 = .ok (.if_icmp .ne 9, 3) := by decide +kernel
theorem dX7_typeOf_26 : decode cX7_typeOf 26 = .ok (.sipush 170, 3) := by decide +kernel
theorem dX7_typeOf_29 : decode cX7_typeOf 29 = .ok (.goto 51, 3) := by decide +kernel
theorem dX7_typeOf_32 : decode cX7_typeOf 32 = .ok (.iload_n 0, 1) := by decide +kernel
theorem dX7_typeOf_33 : decode cX7_typeOf 33 = .ok (.iconst 3, 1) := by decide +kernel
theorem dX7_typeOf_34 : decode cX7_typeOf 34 = .ok (.if_icmp .ne 9, 3) := by decide +kernel
theorem dX7_typeOf_37 : decode cX7_typeOf 37 = .ok (.sipush 180, 3) := by decide +kernel
theorem dX7_typeOf_40 : decode cX7_typeOf 40 = .ok (.goto 40, 3) := by decide +kernel
theorem dX7_typeOf_43 : decode cX7_typeOf 43 = .ok (.iload_n 0, 1) := by decide +kernel
theorem dX7_typeOf_44 : decode cX7_typeOf 44 = .ok (.iconst 4, 1) := by decide +kernel
theorem dX7_typeOf_45 : decode cX7_typeOf 45 = .ok (.if_icmp .ne 9, 3) := by decide +kernel
theorem dX7_typeOf_48 : decode cX7_typeOf 48 = .ok (.sipush 204, 3) := by decide +kernel
theorem dX7_typeOf_51 : decode cX7_typeOf 51 = .ok (.goto 29, 3) := by decide +kernel
theorem dX7_typeOf_54 : decode cX7_typeOf 54 = .ok (.iload_n 0, 1) := by decide +kernel
theorem dX7_typeOf_55 : decode cX7_typeOf 55 = .ok (.iconst 5, 1) := by decide +kernel
theorem dX7_typeOf_56 : decode cX7_typeOf 56 = .ok (.if_icmp .ne 9, 3) := by decide +kernel
theorem dX7_typeOf_59 : decode cX7_typeOf 59 = .ok (.sipush 210, 3) := by decide +kernel
theorem dX7_typeOf_62 : decode cX7_typeOf 62 = .ok (.goto 18, 3) := by decide +kernel
theorem dX7_typeOf_65 : decode cX7_typeOf 65 = .ok (.iload_n 0, 1) := by decide +kernel
theorem dX7_typeOf_66 : decode cX7_typeOf 66 = .ok (.bipush 6, 2) := by decide +kernel
theorem dX7_typeOf_68 : decode cX7_typeOf 68 = .ok (.if_icmp .ne 9, 3) := by decide +kernel
theorem dX7_typeOf_71 : decode cX7_typeOf 71 = .ok (.sipush 225, 3) := by decide +kernel
theorem dX7_typeOf_74 : decode cX7_typeOf 74 = .ok (.goto 6, 3) := by decide +kernel
theorem dX7_typeOf_77 : decode cX7_typeOf 77 = .ok (.sipush 255, 3) := by decide +kernel
theorem dX7_typeOf_80 : decode cX7_typeOf 80 = .ok (.ireturn, 1) := by decide +kernel
theorem dX7_setBits_0 : decode cX7_setBits 0 = .ok (.iconst 0, 1) := by decide +kernel
theorem dX7_setBits_1 : decode cX7_setBits 1 = .ok (.istore 4, 2) := by decide +kernel
theorem dX7_setBits_3 : decode cX7_setBits 3 = .ok (.iload 4, 2) := by decide +kernel
theorem dX7_setBits_5 : decode cX7_setBits 5 = .ok (.iload_n 3, 1) := by decide +kernel
theorem dX7_setBits_6 : decode cX7_setBits 6 = .ok (.if_icmp .ge 24, 3) := by decide +kernel
theorem dX7_setBits_9 : decode cX7_setBits 9 = .ok (.aload_n 0, 1) := by decide +kernel
theorem dX7_setBits_10 : decode cX7_setBits 10 = .ok (.getfield 20, 3) := by decide +kernel
theorem dX7_setBits_13 : decode cX7_setBits 13 = .ok (.iload_n 2, 1) := by decide +kernel
theorem dX7_setBits_14 : decode cX7_setBits 14 = .ok (.iload 4, 2) := by decide +kernel
theorem dX7_setBits_16 : decode cX7_setBits 16 = .ok (.iadd, 1) := by decide +kernel
theorem dX7_setBits_17 : decode cX7_setBits 17 = .ok (.iload_n 1, 1) := by decide +kernel
theorem dX7_setBits_18 : decode cX7_setBits 18 = .ok (.iload 4, 2) := by decide +kernel
theorem dX7_setBits_20 : decode cX7_setBits 20 = .ok (.ishr, 1) := by decide +kernel
theorem dX7_setBits_21 : decode cX7_setBits 21 = .ok (.iconst 1, 1) := by decide +kernel
theorem dX7_setBits_22 : decode cX7_setBits 22 = .ok (.iand, 1) := by decide +kernel
theorem dX7_setBits_23 : decode cX7_setBits 23 = .ok (.iastore, 1) := by decide +kernel
theorem dX7_setBits_24 : decode cX7_setBits 24 = .ok (.iinc 4 1, 3) := by decide +kernel
theorem dX7_setBits_27 : decode cX7_setBits 27 = .ok (.goto (-24), 3) := by decide +kernel
theorem dX7_setBits_30 : decode cX7_setBits 30 = .ok (.return_, 1) := by decide +kernel
theorem dX7_putCode_0 : decode cX7_putCode 0 = .ok (.aload_n 0, 1) := by decide +kernel
theorem dX7_putCode_1 : decode cX7_putCode 1 = .ok (.aload_n 0, 1) := by decide +kernel
theorem dX7_putCode_2 : decode cX7_putCode 2 = .ok (.getfield 7, 3) := by decide +kernel
theorem dX7_putCode_5 : decode cX7_putCode 5 = .ok (.iload_n 1, 1) := by decide +kernel
theorem dX7_putCode_6 : decode cX7_putCode 6 = .ok (.iaload, 1) := by decide +kernel
theorem dX7_putCode_7 : decode cX7_putCode 7 = .ok (.sipush 256, 3) := by decide +kernel
theorem dX7_putCode_10 : decode cX7_putCode 10 = .ok (.if_icmp .ne 7, 3) := by decide +kernel
theorem dX7_putCode_13 : decode cX7_putCode 13 = .ok (.iconst 0, 1) := by decide +kernel
theorem dX7_putCode_14 : decode cX7_putCode 14 = .ok (.goto 5, 3) := by decide +kernel
theorem dX7_putCode_17 : decode cX7_putCode 17 = .ok (.bipush 30, 2) := by decide +kernel
theorem dX7_putCode_19 : decode cX7_putCode 19 = .ok (.iload_n 2, 1) := by decide +kernel
theorem dX7_putCode_20 : decode cX7_putCode 20 = .ok (.bipush 7, 2) := by decide +kernel
theorem dX7_putCode_22 : decode cX7_putCode 22 = .ok (.invokevirtual 47, 3) := by decide +kernel
theorem dX7_putCode_25 : decode cX7_putCode 25 = .ok (.return_, 1) := by decide +kernel
theorem dX7_encode_0 : decode cX7_encode 0 = .ok (.iconst 0, 1) := by decide +kernel
theorem dX7_encode_1 : decode cX7_encode 1 = .ok (.istore_n 1, 1) := by decide +kernel
theorem dX7_encode_2 : decode cX7_encode 2 = .ok (.iload_n 1, 1) := by decide +kernel
theorem dX7_encode_3 : decode cX7_encode 3 = .ok (.bipush 66, 2) := by decide +kernel
theorem dX7_encode_5 : decode cX7_encode 5 = .ok (.if_icmp .ge 16, 3) := by decide +kernel
theorem dX7_encode_8 : decode cX7_encode 8 = .ok (.aload_n 0, 1) := by decide +kernel
theorem dX7_encode_9 : decode cX7_encode 9 = .ok (.getfield 20, 3) := by decide +kernel
theorem dX7_encode_12 : decode cX7_encode 12 = .ok (.iload_n 1, 1) := by decide +kernel
theorem dX7_encode_13 : decode cX7_encode 13 = .ok (.iconst 0, 1) := by decide +kernel
theorem dX7_encode_14 : decode cX7_encode 14 = .ok (.iastore, 1) := by decide +kernel
theorem dX7_encode_15 : decode cX7_encode 15 = .ok (.iinc 1 1, 3) := by decide +kernel
theorem dX7_encode_18 : decode cX7_encode 18 = .ok (.goto (-16), 3) := by decide +kernel
theorem dX7_encode_21 : decode cX7_encode 21 = .ok (.iconst (-1), 1) := by decide +kernel
theorem dX7_encode_22 : decode cX7_encode 22 = .ok (.istore_n 1, 1) := by decide +kernel
theorem dX7_encode_23 : decode cX7_encode 23 = .ok (.iconst 0, 1) := by decide +kernel
theorem dX7_encode_24 : decode cX7_encode 24 = .ok (.istore_n 2, 1) := by decide +kernel
theorem dX7_encode_25 : decode cX7_encode 25 = .ok (.iload_n 2, 1) := by decide +kernel
theorem dX7_encode_26 : decode cX7_encode 26 = .ok (.bipush 8, 2) := by decide +kernel
theorem dX7_encode_28 : decode cX7_encode 28 = .ok (.if_icmp .ge 31, 3) := by decide +kernel
theorem dX7_encode_31 : decode cX7_encode 31 = .ok (.aload_n 0, 1) := by decide +kernel
theorem dX7_encode_32 : decode cX7_encode 32 = .ok (.getfield 7, 3) := by decide +kernel
theorem dX7_encode_35 : decode cX7_encode 35 = .ok (.iload_n 2, 1) := by decide +kernel
theorem dX7_encode_36 : decode cX7_encode 36 = .ok (.iaload, 1) := by decide +kernel
theorem dX7_encode_37 : decode cX7_encode 37 = .ok (.sipush 258, 3) := by decide +kernel
theorem dX7_encode_40 : decode cX7_encode 40 = .ok (.if_icmp .ne 11, 3) := by decide +kernel
theorem dX7_encode_43 : decode cX7_encode 43 = .ok (.iload_n 1, 1) := by decide +kernel
theorem dX7_encode_44 : decode cX7_encode 44 = .ok (.ifCond .ge 7, 3) := by decide +kernel
theorem dX7_encode_47 : decode cX7_encode 47 = .ok (.iload_n 2, 1) := by decide +kernel
theorem dX7_encode_48 : decode cX7_encode 48 = .ok (.goto 4, 3) := by decide +kernel
theorem dX7_encode_51 : decode cX7_encode 51 = .ok (.iload_n 1, 1) := by decide +kernel
theorem dX7_encode_52 : decode cX7_encode 52 = .ok (.istore_n 1, 1) := by decide +kernel
theorem dX7_encode_53 : decode cX7_encode 53 = .ok (.iinc 2 1, 3) := by decide +kernel
theorem dX7_encode_56 : decode cX7_encode 56 = .ok (.goto (-31), 3) := by decide +kernel
theorem dX7_encode_59 : decode cX7_encode 59 = .ok (.aload_n 0, 1) := by decide +kernel
theorem dX7_encode_60 : decode cX7_encode 60 = .ok (.iconst 0, 1) := by decide +kernel
theorem dX7_encode_61 : decode cX7_encode 61 = .ok (.bipush 8, 2) := by decide +kernel
theorem dX7_encode_63 : decode cX7_encode 63 = .ok (.iconst 1, 1) := by decide +kernel
theorem dX7_encode_64 : decode cX7_encode 64 = .ok (.invokevirtual 51, 3) := by decide +kernel
theorem dX7_encode_67 : decode cX7_encode 67 = .ok (.ifCond .eq 43, 3) := by decide +kernel
theorem dX7_encode_70 : decode cX7_encode 70 = .ok (.aload_n 0, 1) := by decide +kernel
theorem dX7_encode_71 : decode cX7_encode 71 = .ok (.getfield 20, 3) := by decide +kernel
theorem dX7_encode_74 : decode cX7_encode 74 = .ok (.iconst 1, 1) := by decide +kernel
theorem dX7_encode_75 : decode cX7_encode 75 = .ok (.iconst 1, 1) := by decide +kernel
theorem dX7_encode_76 : decode cX7_encode 76 = .ok (.iastore, 1) := by decide +kernel
theorem dX7_encode_77 : decode cX7_encode 77 = .ok (.iconst 0, 1) := by decide +kernel
theorem dX7_encode_78 : decode cX7_encode 78 = .ok (.istore_n 2, 1) := by decide +kernel
theorem dX7_encode_79 : decode cX7_encode 79 = .ok (.iload_n 2, 1) := by decide +kernel
theorem dX7_encode_80 : decode cX7_encode 80 = .ok (.bipush 8, 2) := by decide +kernel
theorem dX7_encode_82 : decode cX7_encode 82 = .ok (.if_icmp .ge 27, 3) := by decide +kernel
theorem dX7_encode_85 : decode cX7_encode 85 = .ok (.aload_n 0, 1) := by decide +kernel
theorem dX7_encode_86 : decode cX7_encode 86 = .ok (.aload_n 0, 1) := by decide +kernel
theorem dX7_encode_87 : decode cX7_encode 87 = .ok (.getfield 7, 3) := by decide +kernel
theorem dX7_encode_90 : decode cX7_encode 90 = .ok (.iload_n 2, 1) := by decide +kernel
theorem dX7_encode_91 : decode cX7_encode 91 = .ok (.iaload, 1) := by decide +kernel
theorem dX7_encode_92 : decode cX7_encode 92 = .ok (.iconst 2, 1) := by decide +kernel
theorem dX7_encode_93 : decode cX7_encode 93 = .ok (.bipush 8, 2) := by decide +kernel
theorem dX7_encode_95 : decode cX7_encode 95 = .ok (.iload_n 2, 1) := by decide +kernel
theorem dX7_encode_96 : decode cX7_encode 96 = .ok (.imul, 1) := by decide +kernel
theorem dX7_encode_97 : decode cX7_encode 97 = .ok (.iadd, 1) := by decide +kernel
theorem dX7_encode_98 : decode cX7_encode 98 = .ok (.bipush 8, 2) := by decide +kernel
theorem dX7_encode_100 : decode cX7_encode 100 = .ok (.invokevirtual 47, 3) := by decide +kernel
theorem dX7_encode_103 : decode cX7_encode 103 = .ok (.iinc 2 1, 3) := by decide +kernel
theorem dX7_encode_106 : decode cX7_encode 106 = .ok (.goto (-27), 3) := by decide +kernel
theorem dX7_encode_109 : decode cX7_encode 109 = .ok (.return_, 1) := by decide +kernel
theorem dX7_encode_110 : decode cX7_encode 110 = .ok (.aload_n 0, 1) := by decide +kernel
theorem dX7_encode_111 : decode cX7_encode 111 = .ok (.getfield 20, 3) := by decide +kernel
theorem dX7_encode_114 : decode cX7_encode 114 = .ok (.iconst 0, 1) := by decide +kernel
theorem dX7_encode_115 : decode cX7_encode 115 = .ok (.iconst 1, 1) := by decide +kernel
theorem dX7_encode_116 : decode cX7_encode 116 = .ok (.iastore, 1) := by decide +kernel
theorem dX7_encode_117 : decode cX7_encode 117 = .ok (.aload_n 0, 1) := by decide +kernel
theorem dX7_encode_118 : decode cX7_encode 118 = .ok (.getfield 7, 3) := by decide +kernel
theorem dX7_encode_121 : decode cX7_encode 121 = .ok (.iconst 0, 1) := by decide +kernel
theorem dX7_encode_122 : decode cX7_encode 122 = .ok (.iaload, 1) := by decide +kernel
theorem dX7_encode_123 : decode cX7_encode 123 = .ok (.sipush 257, 3) := by decide +kernel
theorem dX7_encode_126 : decode cX7_encode 126 = .ok (.if_icmp .ne 58, 3) := by decide +kernel
theorem dX7_encode_129 : decode cX7_encode 129 = .ok (.aload_n 0, 1) := by decide +kernel
theorem dX7_encode_130 : decode cX7_encode 130 = .ok (.iconst 1, 1) := by decide +kernel
theorem dX7_encode_131 : decode cX7_encode 131 = .ok (.bipush 8, 2) := by decide +kernel
theorem dX7_encode_133 : decode cX7_encode 133 = .ok (.iconst 1, 1) := by decide +kernel
theorem dX7_encode_134 : decode cX7_encode 134 = .ok (.invokevirtual 51, 3) := by decide +kernel
theorem dX7_encode_137 : decode cX7_encode 137 = .ok (.ifCond .eq 47, 3) := by decide +kernel
theorem dX7_encode_140 : decode cX7_encode 140 = .ok (.aload_n 0, 1) := by decide +kernel
theorem dX7_encode_141 : decode cX7_encode 141 = .ok (.bipush 120, 2) := by decide +kernel
theorem dX7_encode_143 : decode cX7_encode 143 = .ok (.iconst 2, 1) := by decide +kernel
theorem dX7_encode_144 : decode cX7_encode 144 = .ok (.bipush 8, 2) := by decide +kernel
theorem dX7_encode_146 : decode cX7_encode 146 = .ok (.invokevirtual 47, 3) := by decide +kernel
theorem dX7_encode_149 : decode cX7_encode 149 = .ok (.iconst 1, 1) := by decide +kernel
theorem dX7_encode_150 : decode cX7_encode 150 = .ok (.istore_n 2, 1) := by decide +kernel
theorem dX7_encode_151 : decode cX7_encode 151 = .ok (.iload_n 2, 1) := by decide +kernel
theorem dX7_encode_152 : decode cX7_encode 152 = .ok (.bipush 8, 2) := by decide +kernel
theorem dX7_encode_154 : decode cX7_encode 154 = .ok (.if_icmp .ge 27, 3) := by decide +kernel
theorem dX7_encode_157 : decode cX7_encode 157 = .ok (.aload_n 0, 1) := by decide +kernel
theorem dX7_encode_158 : decode cX7_encode 158 = .ok (.aload_n 0, 1) := by decide +kernel
theorem dX7_encode_159 : decode cX7_encode 159 = .ok (.getfield 7, 3) := by decide +kernel
theorem dX7_encode_162 : decode cX7_encode 162 = .ok (.iload_n 2, 1) := by decide +kernel
theorem dX7_encode_163 : decode cX7_encode 163 = .ok (.iaload, 1) := by decide +kernel
theorem dX7_encode_164 : decode cX7_encode 164 = .ok (.iconst 2, 1) := by decide +kernel
theorem dX7_encode_165 : decode cX7_encode 165 = .ok (.bipush 8, 2) := by decide +kernel
theorem dX7_encode_167 : decode cX7_encode 167 = .ok (.iload_n 2, 1) := by decide +kernel
theorem dX7_encode_168 : decode cX7_encode 168 = .ok (.imul, 1) := by decide +kernel
theorem dX7_encode_169 : decode cX7_encode 169 = .ok (.iadd, 1) := by decide +kernel
theorem dX7_encode_170 : decode cX7_encode 170 = .ok (.bipush 8, 2) := by decide +kernel
theorem dX7_encode_172 : decode cX7_encode 172 = .ok (.invokevirtual 47, 3) := by decide +kernel
theorem dX7_encode_175 : decode cX7_encode 175 = .ok (.iinc 2 1, 3) := by decide +kernel
theorem dX7_encode_178 : decode cX7_encode 178 = .ok (.goto (-27), 3) := by decide +kernel
theorem dX7_encode_181 : decode cX7_encode 181 = .ok (.goto 275, 3) := by decide +kernel
theorem dX7_encode_184 : decode cX7_encode 184 = .ok (.aload_n 0, 1) := by decide +kernel
theorem dX7_encode_185 : decode cX7_encode 185 = .ok (.getfield 7, 3) := by decide +kernel
theorem dX7_encode_188 : decode cX7_encode 188 = .ok (.iconst 4, 1) := by decide +kernel
theorem dX7_encode_189 : decode cX7_encode 189 = .ok (.iaload, 1) := by decide +kernel
theorem dX7_encode_190 : decode cX7_encode 190 = .ok (.sipush 257, 3) := by decide +kernel
theorem dX7_encode_193 : decode cX7_encode 193 = .ok (.if_icmp .ne 93, 3) := by decide +kernel
theorem dX7_encode_196 : decode cX7_encode 196 = .ok (.aload_n 0, 1) := by decide +kernel
theorem dX7_encode_197 : decode cX7_encode 197 = .ok (.iconst 0, 1) := by decide +kernel
theorem dX7_encode_198 : decode cX7_encode 198 = .ok (.iconst 4, 1) := by decide +kernel
theorem dX7_encode_199 : decode cX7_encode 199 = .ok (.iconst 0, 1) := by decide +kernel
theorem dX7_encode_200 : decode cX7_encode 200 = .ok (.invokevirtual 51, 3) := by decide +kernel
theorem dX7_encode_203 : decode cX7_encode 203 = .ok (.ifCond .eq 83, 3) := by decide +kernel
theorem dX7_encode_206 : decode cX7_encode 206 = .ok (.aload_n 0, 1) := by decide +kernel
theorem dX7_encode_207 : decode cX7_encode 207 = .ok (.iconst 5, 1) := by decide +kernel
theorem dX7_encode_208 : decode cX7_encode 208 = .ok (.bipush 8, 2) := by decide +kernel
theorem dX7_encode_210 : decode cX7_encode 210 = .ok (.iconst 1, 1) := by decide +kernel
theorem dX7_encode_211 : decode cX7_encode 211 = .ok (.invokevirtual 51, 3) := by decide +kernel
theorem dX7_encode_214 : decode cX7_encode 214 = .ok (.ifCond .eq 72, 3) := by decide +kernel
theorem dX7_encode_217 : decode cX7_encode 217 = .ok (.aload_n 0, 1) := by decide +kernel
theorem dX7_encode_218 : decode cX7_encode 218 = .ok (.bipush 51, 2) := by decide +kernel
theorem dX7_encode_220 : decode cX7_encode 220 = .ok (.iconst 2, 1) := by decide +kernel
theorem dX7_encode_221 : decode cX7_encode 221 = .ok (.bipush 8, 2) := by decide +kernel
theorem dX7_encode_223 : decode cX7_encode 223 = .ok (.invokevirtual 47, 3) := by decide +kernel
theorem dX7_encode_226 : decode cX7_encode 226 = .ok (.iconst 0, 1) := by decide +kernel
theorem dX7_encode_227 : decode cX7_encode 227 = .ok (.istore_n 2, 1) := by decide +kernel
theorem dX7_encode_228 : decode cX7_encode 228 = .ok (.iload_n 2, 1) := by decide +kernel
theorem dX7_encode_229 : decode cX7_encode 229 = .ok (.iconst 4, 1) := by decide +kernel
theorem dX7_encode_230 : decode cX7_encode 230 = .ok (.if_icmp .ge 21, 3) := by decide +kernel
theorem dX7_encode_233 : decode cX7_encode 233 = .ok (.aload_n 0, 1) := by decide +kernel
theorem dX7_encode_234 : decode cX7_encode 234 = .ok (.iload_n 2, 1) := by decide +kernel
theorem dX7_encode_235 : decode cX7_encode 235 = .ok (.bipush 10, 2) := by decide +kernel
theorem dX7_encode_237 : decode cX7_encode 237 = .ok (.bipush 7, 2) := by decide +kernel
theorem dX7_encode_239 : decode cX7_encode 239 = .ok (.iload_n 2, 1) := by decide +kernel
theorem dX7_encode_240 : decode cX7_encode 240 = .ok (.imul, 1) := by decide +kernel
theorem dX7_encode_241 : decode cX7_encode 241 = .ok (.iadd, 1) := by decide +kernel
theorem dX7_encode_242 : decode cX7_encode 242 = .ok (.invokevirtual 55, 3) := by decide +kernel
theorem dX7_encode_245 : decode cX7_encode 245 = .ok (.iinc 2 1, 3) := by decide +kernel
theorem dX7_encode_248 : decode cX7_encode 248 = .ok (.goto (-20), 3) := by decide +kernel
theorem dX7_encode_251 : decode cX7_encode 251 = .ok (.iconst 5, 1) := by decide +kernel
theorem dX7_encode_252 : decode cX7_encode 252 = .ok (.istore_n 2, 1) := by decide +kernel
theorem dX7_encode_253 : decode cX7_encode 253 = .ok (.iload_n 2, 1) := by decide +kernel
theorem dX7_encode_254 : decode cX7_encode 254 = .ok (.bipush 8, 2) := by decide +kernel
theorem dX7_encode_256 : decode cX7_encode 256 = .ok (.if_icmp .ge 27, 3) := by decide +kernel
theorem dX7_encode_259 : decode cX7_encode 259 = .ok (.aload_n 0, 1) := by decide +kernel
theorem dX7_encode_260 : decode cX7_encode 260 = .ok (.aload_n 0, 1) := by decide +kernel
theorem dX7_encode_261 : decode cX7_encode 261 = .ok (.getfield 7, 3) := by decide +kernel
theorem dX7_encode_264 : decode cX7_encode 264 = .ok (.iload_n 2, 1) := by decide +kernel
theorem dX7_encode_265 : decode cX7_encode 265 = .ok (.iaload, 1) := by decide +kernel
theorem dX7_encode_266 : decode cX7_encode 266 = .ok (.iconst 2, 1) := by decide +kernel
theorem dX7_encode_267 : decode cX7_encode 267 = .ok (.bipush 8, 2) := by decide +kernel
theorem dX7_encode_269 : decode cX7_encode 269 = .ok (.iload_n 2, 1) := by decide +kernel
theorem dX7_encode_270 : decode cX7_encode 270 = .ok (.imul, 1) := by decide +kernel
theorem dX7_encode_271 : decode cX7_encode 271 = .ok (.iadd, 1) := by decide +kernel
theorem dX7_encode_272 : decode cX7_encode 272 = .ok (.bipush 8, 2) := by decide +kernel
theorem dX7_encode_274 : decode cX7_encode 274 = .ok (.invokevirtual 47, 3) := by decide +kernel
theorem dX7_encode_277 : decode cX7_encode 277 = .ok (.iinc 2 1, 3) := by decide +kernel
theorem dX7_encode_280 : decode cX7_encode 280 = .ok (.goto (-27), 3) := by decide +kernel
theorem dX7_encode_283 : decode cX7_encode 283 = .ok (.goto 173, 3) := by decide +kernel
theorem dX7_encode_286 : decode cX7_encode 286 = .ok (.iload_n 1, 1) := by decide +kernel
theorem dX7_encode_287 : decode cX7_encode 287 = .ok (.ifCond .lt 103, 3) := by decide +kernel
theorem dX7_encode_290 : decode cX7_encode 290 = .ok (.aload_n 0, 1) := by decide +kernel
theorem dX7_encode_291 : decode cX7_encode 291 = .ok (.iconst 0, 1) := by decide +kernel
theorem dX7_encode_292 : decode cX7_encode 292 = .ok (.iload_n 1, 1) := by decide +kernel
theorem dX7_encode_293 : decode cX7_encode 293 = .ok (.iconst 1, 1) := by decide +kernel
theorem dX7_encode_294 : decode cX7_encode 294 = .ok (.invokevirtual 51, 3) := by decide +kernel
theorem dX7_encode_297 : decode cX7_encode 297 = .ok (.ifCond .eq 93, 3) := by decide +kernel
theorem dX7_encode_300 : decode cX7_encode 300 = .ok (.aload_n 0, 1) := by decide +kernel
theorem dX7_encode_301 : decode cX7_encode 301 = .ok (.iload_n 1, 1) := by decide +kernel
theorem dX7_encode_302 : decode cX7_encode 302 = .ok (.iconst 1, 1) := by decide +kernel
theorem dX7_encode_303 : decode cX7_encode 303 = .ok (.iadd, 1) := by decide +kernel
theorem dX7_encode_304 : decode cX7_encode 304 = .ok (.bipush 8, 2) := by decide +kernel
theorem dX7_encode_306 : decode cX7_encode 306 = .ok (.iconst 0, 1) := by decide +kernel
theorem dX7_encode_307 : decode cX7_encode 307 = .ok (.invokevirtual 51, 3) := by decide +kernel
theorem dX7_encode_310 : decode cX7_encode 310 = .ok (.ifCond .eq 80, 3) := by decide +kernel
theorem dX7_encode_313 : decode cX7_encode 313 = .ok (.aload_n 0, 1) := by decide +kernel
theorem dX7_encode_314 : decode cX7_encode 314 = .ok (.iload_n 1, 1) := by decide +kernel
theorem dX7_encode_315 : decode cX7_encode 315 = .ok (.invokestatic 59, 3) := by decide +kernel
theorem dX7_encode_318 : decode cX7_encode 318 = .ok (.iconst 2, 1) := by decide +kernel
theorem dX7_encode_319 : decode cX7_encode 319 = .ok (.bipush 8, 2) := by decide +kernel
theorem dX7_encode_321 : decode cX7_encode 321 = .ok (.invokevirtual 47, 3) := by decide +kernel
theorem dX7_encode_324 : decode cX7_encode 324 = .ok (.iconst 0, 1) := by decide +kernel
theorem dX7_encode_325 : decode cX7_encode 325 = .ok (.istore_n 2, 1) := by decide +kernel
theorem dX7_encode_326 : decode cX7_encode 326 = .ok (.iload_n 2, 1) := by decide +kernel
theorem dX7_encode_327 : decode cX7_encode 327 = .ok (.iload_n 1, 1) := by decide +kernel
theorem dX7_encode_328 : decode cX7_encode 328 = .ok (.if_icmp .ge 28, 3) := by decide +kernel
theorem dX7_encode_331 : decode cX7_encode 331 = .ok (.aload_n 0, 1) := by decide +kernel
theorem dX7_encode_332 : decode cX7_encode 332 = .ok (.aload_n 0, 1) := by decide +kernel
theorem dX7_encode_333 : decode cX7_encode 333 = .ok (.getfield 7, 3) := by decide +kernel
theorem dX7_encode_336 : decode cX7_encode 336 = .ok (.iload_n 2, 1) := by decide +kernel
theorem dX7_encode_337 : decode cX7_encode 337 = .ok (.iaload, 1) := by decide +kernel
theorem dX7_encode_338 : decode cX7_encode 338 = .ok (.bipush 10, 2) := by decide +kernel
theorem dX7_encode_340 : decode cX7_encode 340 = .ok (.bipush 8, 2) := by decide +kernel
theorem dX7_encode_342 : decode cX7_encode 342 = .ok (.iload_n 2, 1) := by decide +kernel
theorem dX7_encode_343 : decode cX7_encode 343 = .ok (.imul, 1) := by decide +kernel
theorem dX7_encode_344 : decode cX7_encode 344 = .ok (.iadd, 1) := by decide +kernel
theorem dX7_encode_345 : decode cX7_encode 345 = .ok (.bipush 8, 2) := by decide +kernel
theorem dX7_encode_347 : decode cX7_encode 347 = .ok (.invokevirtual 47, 3) := by decide +kernel
theorem dX7_encode_350 : decode cX7_encode 350 = .ok (.iinc 2 1, 3) := by decide +kernel
theorem dX7_encode_353 : decode cX7_encode 353 = .ok (.goto (-27), 3) := by decide +kernel
theorem dX7_encode_356 : decode cX7_encode 356 = .ok (.iload_n 1, 1) := by decide +kernel
theorem dX7_encode_357 : decode cX7_encode 357 = .ok (.iconst 1, 1) := by decide +kernel
theorem dX7_encode_358 : decode cX7_encode 358 = .ok (.iadd, 1) := by decide +kernel
theorem dX7_encode_359 : decode cX7_encode 359 = .ok (.istore_n 2, 1) := by decide +kernel
theorem dX7_encode_360 : decode cX7_encode 360 = .ok (.iload_n 2, 1) := by decide +kernel
theorem dX7_encode_361 : decode cX7_encode 361 = .ok (.bipush 8, 2) := by decide +kernel
theorem dX7_encode_363 : decode cX7_encode 363 = .ok (.if_icmp .ge 24, 3) := by decide +kernel
theorem dX7_encode_366 : decode cX7_encode 366 = .ok (.aload_n 0, 1) := by decide +kernel
theorem dX7_encode_367 : decode cX7_encode 367 = .ok (.iload_n 2, 1) := by decide +kernel
theorem dX7_encode_368 : decode cX7_encode 368 = .ok (.bipush 66, 2) := by decide +kernel
theorem dX7_encode_370 : decode cX7_encode 370 = .ok (.bipush 7, 2) := by decide +kernel
theorem dX7_encode_372 : decode cX7_encode 372 = .ok (.bipush 8, 2) := by decide +kernel
theorem dX7_encode_374 : decode cX7_encode 374 = .ok (.iload_n 2, 1) := by decide +kernel
theorem dX7_encode_375 : decode cX7_encode 375 = .ok (.isub, 1) := by decide +kernel
theorem dX7_encode_376 : decode cX7_encode 376 = .ok (.imul, 1) := by decide +kernel
theorem dX7_encode_377 : decode cX7_encode 377 = .ok (.isub, 1) := by decide +kernel
theorem dX7_encode_378 : decode cX7_encode 378 = .ok (.invokevirtual 55, 3) := by decide +kernel
theorem dX7_encode_381 : decode cX7_encode 381 = .ok (.iinc 2 1, 3) := by decide +kernel
theorem dX7_encode_384 : decode cX7_encode 384 = .ok (.goto (-24), 3) := by decide +kernel
theorem dX7_encode_387 : decode cX7_encode 387 = .ok (.goto 69, 3) := by decide +kernel
theorem dX7_encode_390 : decode cX7_encode 390 = .ok (.aload_n 0, 1) := by decide +kernel
theorem dX7_encode_391 : decode cX7_encode 391 = .ok (.iconst 0, 1) := by decide +kernel
theorem dX7_encode_392 : decode cX7_encode 392 = .ok (.bipush 8, 2) := by decide +kernel
theorem dX7_encode_394 : decode cX7_encode 394 = .ok (.iconst 0, 1) := by decide +kernel
theorem dX7_encode_395 : decode cX7_encode 395 = .ok (.invokevirtual 51, 3) := by decide +kernel
theorem dX7_encode_398 : decode cX7_encode 398 = .ok (.istore_n 2, 1) := by decide +kernel
theorem dX7_encode_399 : decode cX7_encode 399 = .ok (.aload_n 0, 1) := by decide +kernel
theorem dX7_encode_400 : decode cX7_encode 400 = .ok (.bipush 30, 2) := by decide +kernel
theorem dX7_encode_402 : decode cX7_encode 402 = .ok (.iconst 2, 1) := by decide +kernel
theorem dX7_encode_403 : decode cX7_encode 403 = .ok (.bipush 8, 2) := by decide +kernel
theorem dX7_encode_405 : decode cX7_encode 405 = .ok (.invokevirtual 47, 3) := by decide +kernel
theorem dX7_encode_408 : decode cX7_encode 408 = .ok (.iconst 0, 1) := by decide +kernel
theorem dX7_encode_409 : decode cX7_encode 409 = .ok (.istore_n 3, 1) := by decide +kernel
theorem dX7_encode_410 : decode cX7_encode 410 = .ok (.iload_n 3, 1) := by decide +kernel
theorem dX7_encode_411 : decode cX7_encode 411 = .ok (.bipush 8, 2) := by decide +kernel
theorem dX7_encode_413 : decode cX7_encode 413 = .ok (.if_icmp .ge 43, 3) := by decide +kernel
theorem dX7_encode_416 : decode cX7_encode 416 = .ok (.aload_n 0, 1) := by decide +kernel
theorem dX7_encode_417 : decode cX7_encode 417 = .ok (.getfield 7, 3) := by decide +kernel
theorem dX7_encode_420 : decode cX7_encode 420 = .ok (.iload_n 3, 1) := by decide +kernel
theorem dX7_encode_421 : decode cX7_encode 421 = .ok (.iload_n 2, 1) := by decide +kernel
theorem dX7_encode_422 : decode cX7_encode 422 = .ok (.ifCond .eq 12, 3) := by decide +kernel
theorem dX7_encode_425 : decode cX7_encode 425 = .ok (.aload_n 0, 1) := by decide +kernel
theorem dX7_encode_426 : decode cX7_encode 426 = .ok (.getfield 7, 3) := by decide +kernel
theorem dX7_encode_429 : decode cX7_encode 429 = .ok (.iload_n 3, 1) := by decide +kernel
theorem dX7_encode_430 : decode cX7_encode 430 = .ok (.iaload, 1) := by decide +kernel
theorem dX7_encode_431 : decode cX7_encode 431 = .ok (.goto 6, 3) := by decide +kernel
theorem dX7_encode_434 : decode cX7_encode 434 = .ok (.sipush 259, 3) := by decide +kernel
theorem dX7_encode_437 : decode cX7_encode 437 = .ok (.iastore, 1) := by decide +kernel
theorem dX7_encode_438 : decode cX7_encode 438 = .ok (.aload_n 0, 1) := by decide +kernel
theorem dX7_encode_439 : decode cX7_encode 439 = .ok (.iload_n 3, 1) := by decide +kernel
theorem dX7_encode_440 : decode cX7_encode 440 = .ok (.bipush 10, 2) := by decide +kernel
theorem dX7_encode_442 : decode cX7_encode 442 = .ok (.bipush 7, 2) := by decide +kernel
theorem dX7_encode_444 : decode cX7_encode 444 = .ok (.iload_n 3, 1) := by decide +kernel
theorem dX7_encode_445 : decode cX7_encode 445 = .ok (.imul, 1) := by decide +kernel
theorem dX7_encode_446 : decode cX7_encode 446 = .ok (.iadd, 1) := by decide +kernel
theorem dX7_encode_447 : decode cX7_encode 447 = .ok (.invokevirtual 55, 3) := by decide +kernel
theorem dX7_encode_450 : decode cX7_encode 450 = .ok (.iinc 3 1, 3) := by decide +kernel
theorem dX7_encode_453 : decode cX7_encode 453 = .ok (.goto (-43), 3) := by decide +kernel
theorem dX7_encode_456 : decode cX7_encode 456 = .ok (.return_, 1) := by decide +kernel
theorem dX7_send_0 : decode cX7_send 0 = .ok (.aload_n 0, 1) := by decide +kernel
theorem dX7_send_1 : decode cX7_send 1 = .ok (.invokevirtual 63, 3) := by decide +kernel
theorem dX7_send_4 : decode cX7_send 4 = .ok (.iconst 0, 1) := by decide +kernel
theorem dX7_send_5 : decode cX7_send 5 = .ok (.istore_n 1, 1) := by decide +kernel
theorem dX7_send_6 : decode cX7_send 6 = .ok (.iload_n 1, 1) := by decide +kernel
theorem dX7_send_7 : decode cX7_send 7 = .ok (.bipush 66, 2) := by decide +kernel
theorem dX7_send_9 : decode cX7_send 9 = .ok (.if_icmp .ge 67, 3) := by decide +kernel
theorem dX7_send_12 : decode cX7_send 12 = .ok (.iload_n 1, 1) := by decide +kernel
theorem dX7_send_13 : decode cX7_send 13 = .ok (.iconst 2, 1) := by decide +kernel
theorem dX7_send_14 : decode cX7_send 14 = .ok (.if_icmp .ge 12, 3) := by decide +kernel
theorem dX7_send_17 : decode cX7_send 17 = .ok (.aload_n 0, 1) := by decide +kernel
theorem dX7_send_18 : decode cX7_send 18 = .ok (.getfield 20, 3) := by decide +kernel
theorem dX7_send_21 : decode cX7_send 21 = .ok (.iload_n 1, 1) := by decide +kernel
theorem dX7_send_22 : decode cX7_send 22 = .ok (.iaload, 1) := by decide +kernel
theorem dX7_send_23 : decode cX7_send 23 = .ok (.goto 14, 3) := by decide +kernel
theorem dX7_send_26 : decode cX7_send 26 = .ok (.aload_n 0, 1) := by decide +kernel
theorem dX7_send_27 : decode cX7_send 27 = .ok (.iconst 0, 1) := by decide +kernel
theorem dX7_send_28 : decode cX7_send 28 = .ok (.aload_n 0, 1) := by decide +kernel
theorem dX7_send_29 : decode cX7_send 29 = .ok (.getfield 20, 3) := by decide +kernel
theorem dX7_send_32 : decode cX7_send 32 = .ok (.iload_n 1, 1) := by decide +kernel
theorem dX7_send_33 : decode cX7_send 33 = .ok (.iaload, 1) := by decide +kernel
theorem dX7_send_34 : decode cX7_send 34 = .ok (.invokevirtual 66, 3) := by decide +kernel
theorem dX7_send_37 : decode cX7_send 37 = .ok (.istore_n 2, 1) := by decide +kernel
theorem dX7_send_38 : decode cX7_send 38 = .ok (.iload_n 1, 1) := by decide +kernel
theorem dX7_send_39 : decode cX7_send 39 = .ok (.iconst 1, 1) := by decide +kernel
theorem dX7_send_40 : decode cX7_send 40 = .ok (.if_icmp .le 9, 3) := by decide +kernel
theorem dX7_send_43 : decode cX7_send 43 = .ok (.aload_n 0, 1) := by decide +kernel
theorem dX7_send_44 : decode cX7_send 44 = .ok (.iconst 0, 1) := by decide +kernel
theorem dX7_send_45 : decode cX7_send 45 = .ok (.iload_n 2, 1) := by decide +kernel
theorem dX7_send_46 : decode cX7_send 46 = .ok (.invokevirtual 70, 3) := by decide +kernel
theorem dX7_send_49 : decode cX7_send 49 = .ok (.aload_n 0, 1) := by decide +kernel
theorem dX7_send_50 : decode cX7_send 50 = .ok (.getfield 13, 3) := by decide +kernel
theorem dX7_send_53 : decode cX7_send 53 = .ok (.aload_n 0, 1) := by decide +kernel
theorem dX7_send_54 : decode cX7_send 54 = .ok (.getfield 29, 3) := by decide +kernel
theorem dX7_send_57 : decode cX7_send 57 = .ok (.iload_n 2, 1) := by decide +kernel
theorem dX7_send_58 : decode cX7_send 58 = .ok (.i2b, 1) := by decide +kernel
theorem dX7_send_59 : decode cX7_send 59 = .ok (.bastore, 1) := by decide +kernel
theorem dX7_send_60 : decode cX7_send 60 = .ok (.aload_n 0, 1) := by decide +kernel
theorem dX7_send_61 : decode cX7_send 61 = .ok (.dup, 1) := by decide +kernel
theorem dX7_send_62 : decode cX7_send 62 = .ok (.getfield 29, 3) := by decide +kernel
theorem dX7_send_65 : decode cX7_send 65 = .ok (.iconst 1, 1) := by decide +kernel
theorem dX7_send_66 : decode cX7_send 66 = .ok (.iadd, 1) := by decide +kernel
theorem dX7_send_67 : decode cX7_send 67 = .ok (.putfield 29, 3) := by decide +kernel
theorem dX7_send_70 : decode cX7_send 70 = .ok (.iinc 1 1, 3) := by decide +kernel
theorem dX7_send_73 : decode cX7_send 73 = .ok (.goto (-67), 3) := by decide +kernel
theorem dX7_send_76 : decode cX7_send 76 = .ok (.aload_n 0, 1) := by decide +kernel
theorem dX7_send_77 : decode cX7_send 77 = .ok (.iconst 0, 1) := by decide +kernel
theorem dX7_send_78 : decode cX7_send 78 = .ok (.putfield 73, 3) := by decide +kernel
theorem dX7_send_81 : decode cX7_send 81 = .ok (.return_, 1) := by decide +kernel
theorem dX7_put_0 : decode cX7_put 0 = .ok (.aload_n 0, 1) := by decide +kernel
theorem dX7_put_1 : decode cX7_put 1 = .ok (.iconst 0, 1) := by decide +kernel
theorem dX7_put_2 : decode cX7_put 2 = .ok (.putfield 33, 3) := by decide +kernel
theorem dX7_put_5 : decode cX7_put 5 = .ok (.iload_n 1, 1) := by decide +kernel
theorem dX7_put_6 : decode cX7_put 6 = .ok (.ifCond .lt 10, 3) := by decide +kernel
theorem dX7_put_9 : decode cX7_put 9 = .ok (.iload_n 1, 1) := by decide +kernel
theorem dX7_put_10 : decode cX7_put 10 = .ok (.sipush 259, 3) := by decide +kernel
theorem dX7_put_13 : decode cX7_put 13 = .ok (.if_icmp .le 6, 3) := by decide +kernel
theorem dX7_put_16 : decode cX7_put 16 = .ok (.bipush (-12), 2) := by decide +kernel
theorem dX7_put_18 : decode cX7_put 18 = .ok (.ireturn, 1) := by decide +kernel
theorem dX7_put_19 : decode cX7_put 19 = .ok (.aload_n 0, 1) := by decide +kernel
theorem dX7_put_20 : decode cX7_put 20 = .ok (.getfield 73, 3) := by decide +kernel
theorem dX7_put_23 : decode cX7_put 23 = .ok (.bipush 7, 2) := by decide +kernel
theorem dX7_put_25 : decode cX7_put 25 = .ok (.if_icmp .ne 16, 3) := by decide +kernel
theorem dX7_put_28 : decode cX7_put 28 = .ok (.aload_n 0, 1) := by decide +kernel
theorem dX7_put_29 : decode cX7_put 29 = .ok (.getfield 29, 3) := by decide +kernel
theorem dX7_put_32 : decode cX7_put 32 = .ok (.sipush 9000, 3) := by decide +kernel
theorem dX7_put_35 : decode cX7_put 35 = .ok (.if_icmp .lt 6, 3) := by decide +kernel
theorem dX7_put_38 : decode cX7_put 38 = .ok (.bipush (-14), 2) := by decide +kernel
theorem dX7_put_40 : decode cX7_put 40 = .ok (.ireturn, 1) := by decide +kernel
theorem dX7_put_41 : decode cX7_put 41 = .ok (.aload_n 0, 1) := by decide +kernel
theorem dX7_put_42 : decode cX7_put 42 = .ok (.getfield 7, 3) := by decide +kernel
theorem dX7_put_45 : decode cX7_put 45 = .ok (.aload_n 0, 1) := by decide +kernel
theorem dX7_put_46 : decode cX7_put 46 = .ok (.getfield 73, 3) := by decide +kernel
theorem dX7_put_49 : decode cX7_put 49 = .ok (.iload_n 1, 1) := by decide +kernel
theorem dX7_put_50 : decode cX7_put 50 = .ok (.iastore, 1) := by decide +kernel
theorem dX7_put_51 : decode cX7_put 51 = .ok (.aload_n 0, 1) := by decide +kernel
theorem dX7_put_52 : decode cX7_put 52 = .ok (.dup, 1) := by decide +kernel
theorem dX7_put_53 : decode cX7_put 53 = .ok (.getfield 73, 3) := by decide +kernel
theorem dX7_put_56 : decode cX7_put 56 = .ok (.iconst 1, 1) := by decide +kernel
theorem dX7_put_57 : decode cX7_put 57 = .ok (.iadd, 1) := by decide +kernel
theorem dX7_put_58 : decode cX7_put 58 = .ok (.putfield 73, 3) := by decide +kernel
theorem dX7_put_61 : decode cX7_put 61 = .ok (.aload_n 0, 1) := by decide +kernel
theorem dX7_put_62 : decode cX7_put 62 = .ok (.getfield 73, 3) := by decide +kernel
theorem dX7_put_65 : decode cX7_put 65 = .ok (.bipush 8, 2) := by decide +kernel
theorem dX7_put_67 : decode cX7_put 67 = .ok (.if_icmp .ne 7, 3) := by decide +kernel
theorem dX7_put_70 : decode cX7_put 70 = .ok (.aload_n 0, 1) := by decide +kernel
theorem dX7_put_71 : decode cX7_put 71 = .ok (.invokevirtual 76, 3) := by decide +kernel
theorem dX7_put_74 : decode cX7_put 74 = .ok (.aload_n 0, 1) := by decide +kernel
theorem dX7_put_75 : decode cX7_put 75 = .ok (.getfield 73, 3) := by decide +kernel
theorem dX7_put_78 : decode cX7_put 78 = .ok (.ireturn, 1) := by decide +kernel
theorem dX7_word_0 : decode cX7_word 0 = .ok (.aload_n 0, 1) := by decide +kernel
theorem dX7_word_1 : decode cX7_word 1 = .ok (.iconst 0, 1) := by decide +kernel
theorem dX7_word_2 : decode cX7_word 2 = .ok (.putfield 33, 3) := by decide +kernel
theorem dX7_word_5 : decode cX7_word 5 = .ok (.aload_n 0, 1) := by decide +kernel
theorem dX7_word_6 : decode cX7_word 6 = .ok (.getfield 29, 3) := by decide +kernel
theorem dX7_word_9 : decode cX7_word 9 = .ok (.sipush 9000, 3) := by decide +kernel
theorem dX7_word_12 : decode cX7_word 12 = .ok (.if_icmp .lt 6, 3) := by decide +kernel
theorem dX7_word_15 : decode cX7_word 15 = .ok (.bipush (-14), 2) := by decide +kernel
theorem dX7_word_17 : decode cX7_word 17 = .ok (.ireturn, 1) := by decide +kernel
theorem dX7_word_18 : decode cX7_word 18 = .ok (.iconst 0, 1) := by decide +kernel
theorem dX7_word_19 : decode cX7_word 19 = .ok (.istore_n 3, 1) := by decide +kernel
theorem dX7_word_20 : decode cX7_word 20 = .ok (.iload_n 3, 1) := by decide +kernel
theorem dX7_word_21 : decode cX7_word 21 = .ok (.bipush 8, 2) := by decide +kernel
theorem dX7_word_23 : decode cX7_word 23 = .ok (.if_icmp .ge 38, 3) := by decide +kernel
theorem dX7_word_26 : decode cX7_word 26 = .ok (.aload_n 0, 1) := by decide +kernel
theorem dX7_word_27 : decode cX7_word 27 = .ok (.iload_n 3, 1) := by decide +kernel
theorem dX7_word_28 : decode cX7_word 28 = .ok (.iconst 4, 1) := by decide +kernel
theorem dX7_word_29 : decode cX7_word 29 = .ok (.if_icmp .ge 7, 3) := by decide +kernel
theorem dX7_word_32 : decode cX7_word 32 = .ok (.iload_n 1, 1) := by decide +kernel
theorem dX7_word_33 : decode cX7_word 33 = .ok (.goto 4, 3) := by decide +kernel
theorem dX7_word_36 : decode cX7_word 36 = .ok (.iload_n 2, 1) := by decide +kernel
theorem dX7_word_37 : decode cX7_word 37 = .ok (.bipush 24, 2) := by decide +kernel
theorem dX7_word_39 : decode cX7_word 39 = .ok (.bipush 8, 2) := by decide +kernel
theorem dX7_word_41 : decode cX7_word 41 = .ok (.iload_n 3, 1) := by decide +kernel
theorem dX7_word_42 : decode cX7_word 42 = .ok (.iconst 4, 1) := by decide +kernel
theorem dX7_word_43 : decode cX7_word 43 = .ok (.irem, 1) := by decide +kernel
theorem dX7_word_44 : decode cX7_word 44 = .ok (.imul, 1) := by decide +kernel
theorem dX7_word_45 : decode cX7_word 45 = .ok (.isub, 1) := by decide +kernel
theorem dX7_word_46 : decode cX7_word 46 = .ok (.ishr, 1) := by decide +kernel
theorem dX7_word_47 : decode cX7_word 47 = .ok (.sipush 255, 3) := by decide +kernel
theorem dX7_word_50 : decode cX7_word 50 = .ok (.iand, 1) := by decide +kernel
theorem dX7_word_51 : decode cX7_word 51 = .ok (.invokevirtual 79, 3) := by decide +kernel
theorem dX7_word_54 : decode cX7_word 54 = .ok (.pop, 1) := by decide +kernel
theorem dX7_word_55 : decode cX7_word 55 = .ok (.iinc 3 1, 3) := by decide +kernel
theorem dX7_word_58 : decode cX7_word 58 = .ok (.goto (-38), 3) := by decide +kernel
theorem dX7_word_61 : decode cX7_word 61 = .ok (.aload_n 0, 1) := by decide +kernel
theorem dX7_word_62 : decode cX7_word 62 = .ok (.getfield 73, 3) := by decide +kernel
theorem dX7_word_65 : decode cX7_word 65 = .ok (.ireturn, 1) := by decide +kernel
theorem dX7_idle_0 : decode cX7_idle 0 = .ok (.aload_n 0, 1) := by decide +kernel
theorem dX7_idle_1 : decode cX7_idle 1 = .ok (.iconst 0, 1) := by decide +kernel
theorem dX7_idle_2 : decode cX7_idle 2 = .ok (.putfield 33, 3) := by decide +kernel
theorem dX7_idle_5 : decode cX7_idle 5 = .ok (.iload_n 1, 1) := by decide +kernel
theorem dX7_idle_6 : decode cX7_idle 6 = .ok (.iconst 1, 1) := by decide +kernel
theorem dX7_idle_7 : decode cX7_idle 7 = .ok (.if_icmp .lt 16, 3) := by decide +kernel
theorem dX7_idle_10 : decode cX7_idle 10 = .ok (.iload_n 1, 1) := by decide +kernel
theorem dX7_idle_11 : decode cX7_idle 11 = .ok (.bipush 100, 2) := by decide +kernel
theorem dX7_idle_13 : decode cX7_idle 13 = .ok (.if_icmp .gt 10, 3) := by decide +kernel
theorem dX7_idle_16 : decode cX7_idle 16 = .ok (.aload_n 0, 1) := by decide +kernel
end
section
theorem dX7_idle_17 : decode cX7_idle 17 = .ok (.getfield 73, 3) := by decide +kernel
theorem dX7_idle_20 : decode cX7_idle 20 = .ok (.ifCond .le 6, 3) := by decide +kernel
theorem dX7_idle_23 : decode cX7_idle 23 = .ok (.bipush (-12), 2) := by decide +kernel
theorem dX7_idle_25 : decode cX7_idle 25 = .ok (.ireturn, 1) := by decide +kernel
theorem dX7_idle_26 : decode cX7_idle 26 = .ok (.aload_n 0, 1) := by decide +kernel
theorem dX7_idle_27 : decode cX7_idle 27 = .ok (.getfield 29, 3) := by decide +kernel
theorem dX7_idle_30 : decode cX7_idle 30 = .ok (.bipush 66, 2) := by decide +kernel
theorem dX7_idle_32 : decode cX7_idle 32 = .ok (.iload_n 1, 1) := by decide +kernel
theorem dX7_idle_33 : decode cX7_idle 33 = .ok (.iconst 1, 1) := by decide +kernel
theorem dX7_idle_34 : decode cX7_idle 34 = .ok (.isub, 1) := by decide +kernel
theorem dX7_idle_35 : decode cX7_idle 35 = .ok (.imul, 1) := by decide +kernel
theorem dX7_idle_36 : decode cX7_idle 36 = .ok (.iadd, 1) := by decide +kernel
theorem dX7_idle_37 : decode cX7_idle 37 = .ok (.sipush 9000, 3) := by decide +kernel
theorem dX7_idle_40 : decode cX7_idle 40 = .ok (.if_icmp .lt 6, 3) := by decide +kernel
theorem dX7_idle_43 : decode cX7_idle 43 = .ok (.bipush (-14), 2) := by decide +kernel
theorem dX7_idle_45 : decode cX7_idle 45 = .ok (.ireturn, 1) := by decide +kernel
theorem dX7_idle_46 : decode cX7_idle 46 = .ok (.iconst 0, 1) := by decide +kernel
theorem dX7_idle_47 : decode cX7_idle 47 = .ok (.istore_n 2, 1) := by decide +kernel
theorem dX7_idle_48 : decode cX7_idle 48 = .ok (.iload_n 2, 1) := by decide +kernel
theorem dX7_idle_49 : decode cX7_idle 49 = .ok (.iload_n 1, 1) := by decide +kernel
theorem dX7_idle_50 : decode cX7_idle 50 = .ok (.if_icmp .ge 36, 3) := by decide +kernel
theorem dX7_idle_53 : decode cX7_idle 53 = .ok (.iconst 0, 1) := by decide +kernel
theorem dX7_idle_54 : decode cX7_idle 54 = .ok (.istore_n 3, 1) := by decide +kernel
theorem dX7_idle_55 : decode cX7_idle 55 = .ok (.iload_n 3, 1) := by decide +kernel
theorem dX7_idle_56 : decode cX7_idle 56 = .ok (.bipush 8, 2) := by decide +kernel
theorem dX7_idle_58 : decode cX7_idle 58 = .ok (.if_icmp .ge 18, 3) := by decide +kernel
theorem dX7_idle_61 : decode cX7_idle 61 = .ok (.aload_n 0, 1) := by decide +kernel
theorem dX7_idle_62 : decode cX7_idle 62 = .ok (.getfield 7, 3) := by decide +kernel
theorem dX7_idle_65 : decode cX7_idle 65 = .ok (.iload_n 3, 1) := by decide +kernel
theorem dX7_idle_66 : decode cX7_idle 66 = .ok (.sipush 256, 3) := by decide +kernel
theorem dX7_idle_69 : decode cX7_idle 69 = .ok (.iastore, 1) := by decide +kernel
theorem dX7_idle_70 : decode cX7_idle 70 = .ok (.iinc 3 1, 3) := by decide +kernel
theorem dX7_idle_73 : decode cX7_idle 73 = .ok (.goto (-18), 3) := by decide +kernel
theorem dX7_idle_76 : decode cX7_idle 76 = .ok (.aload_n 0, 1) := by decide +kernel
theorem dX7_idle_77 : decode cX7_idle 77 = .ok (.invokevirtual 76, 3) := by decide +kernel
theorem dX7_idle_80 : decode cX7_idle 80 = .ok (.iinc 2 1, 3) := by decide +kernel
theorem dX7_idle_83 : decode cX7_idle 83 = .ok (.goto (-35), 3) := by decide +kernel
theorem dX7_idle_86 : decode cX7_idle 86 = .ok (.aload_n 0, 1) := by decide +kernel
theorem dX7_idle_87 : decode cX7_idle 87 = .ok (.getfield 29, 3) := by decide +kernel
theorem dX7_idle_90 : decode cX7_idle 90 = .ok (.ireturn, 1) := by decide +kernel
theorem dX7_bits_0 : decode cX7_bits 0 = .ok (.aload_n 0, 1) := by decide +kernel
theorem dX7_bits_1 : decode cX7_bits 1 = .ok (.iconst 0, 1) := by decide +kernel
theorem dX7_bits_2 : decode cX7_bits 2 = .ok (.putfield 33, 3) := by decide +kernel
theorem dX7_bits_5 : decode cX7_bits 5 = .ok (.aload_n 0, 1) := by decide +kernel
theorem dX7_bits_6 : decode cX7_bits 6 = .ok (.getfield 29, 3) := by decide +kernel
theorem dX7_bits_9 : decode cX7_bits 9 = .ok (.ireturn, 1) := by decide +kernel
theorem dX7_bit_0 : decode cX7_bit 0 = .ok (.aload_n 0, 1) := by decide +kernel
theorem dX7_bit_1 : decode cX7_bit 1 = .ok (.iconst 0, 1) := by decide +kernel
theorem dX7_bit_2 : decode cX7_bit 2 = .ok (.putfield 33, 3) := by decide +kernel
theorem dX7_bit_5 : decode cX7_bit 5 = .ok (.iload_n 1, 1) := by decide +kernel
theorem dX7_bit_6 : decode cX7_bit 6 = .ok (.ifCond .lt 11, 3) := by decide +kernel
theorem dX7_bit_9 : decode cX7_bit 9 = .ok (.iload_n 1, 1) := by decide +kernel
theorem dX7_bit_10 : decode cX7_bit 10 = .ok (.aload_n 0, 1) := by decide +kernel
theorem dX7_bit_11 : decode cX7_bit 11 = .ok (.getfield 29, 3) := by decide +kernel
theorem dX7_bit_14 : decode cX7_bit 14 = .ok (.if_icmp .lt 7, 3) := by decide +kernel
theorem dX7_bit_17 : decode cX7_bit 17 = .ok (.iconst (-1), 1) := by decide +kernel
theorem dX7_bit_18 : decode cX7_bit 18 = .ok (.goto 9, 3) := by decide +kernel
theorem dX7_bit_21 : decode cX7_bit 21 = .ok (.aload_n 0, 1) := by decide +kernel
theorem dX7_bit_22 : decode cX7_bit 22 = .ok (.getfield 13, 3) := by decide +kernel
theorem dX7_bit_25 : decode cX7_bit 25 = .ok (.iload_n 1, 1) := by decide +kernel
theorem dX7_bit_26 : decode cX7_bit 26 = .ok (.baload, 1) := by decide +kernel
theorem dX7_bit_27 : decode cX7_bit 27 = .ok (.ireturn, 1) := by decide +kernel
theorem dX7_turn_0 : decode cX7_turn 0 = .ok (.aload_n 0, 1) := by decide +kernel
theorem dX7_turn_1 : decode cX7_turn 1 = .ok (.iconst 0, 1) := by decide +kernel
theorem dX7_turn_2 : decode cX7_turn 2 = .ok (.putfield 33, 3) := by decide +kernel
theorem dX7_turn_5 : decode cX7_turn 5 = .ok (.iload_n 1, 1) := by decide +kernel
theorem dX7_turn_6 : decode cX7_turn 6 = .ok (.ifCond .lt 11, 3) := by decide +kernel
theorem dX7_turn_9 : decode cX7_turn 9 = .ok (.iload_n 1, 1) := by decide +kernel
theorem dX7_turn_10 : decode cX7_turn 10 = .ok (.aload_n 0, 1) := by decide +kernel
theorem dX7_turn_11 : decode cX7_turn 11 = .ok (.getfield 29, 3) := by decide +kernel
theorem dX7_turn_14 : decode cX7_turn 14 = .ok (.if_icmp .lt 6, 3) := by decide +kernel
theorem dX7_turn_17 : decode cX7_turn 17 = .ok (.bipush (-12), 2) := by decide +kernel
theorem dX7_turn_19 : decode cX7_turn 19 = .ok (.ireturn, 1) := by decide +kernel
theorem dX7_turn_20 : decode cX7_turn 20 = .ok (.aload_n 0, 1) := by decide +kernel
theorem dX7_turn_21 : decode cX7_turn 21 = .ok (.getfield 13, 3) := by decide +kernel
theorem dX7_turn_24 : decode cX7_turn 24 = .ok (.iload_n 1, 1) := by decide +kernel
theorem dX7_turn_25 : decode cX7_turn 25 = .ok (.iconst 1, 1) := by decide +kernel
theorem dX7_turn_26 : decode cX7_turn 26 = .ok (.aload_n 0, 1) := by decide +kernel
theorem dX7_turn_27 : decode cX7_turn 27 = .ok (.getfield 13, 3) := by decide +kernel
theorem dX7_turn_30 : decode cX7_turn 30 = .ok (.iload_n 1, 1) := by decide +kernel
theorem dX7_turn_31 : decode cX7_turn 31 = .ok (.baload, 1) := by decide +kernel
theorem dX7_turn_32 : decode cX7_turn 32 = .ok (.isub, 1) := by decide +kernel
theorem dX7_turn_33 : decode cX7_turn 33 = .ok (.i2b, 1) := by decide +kernel
theorem dX7_turn_34 : decode cX7_turn 34 = .ok (.bastore, 1) := by decide +kernel
theorem dX7_turn_35 : decode cX7_turn 35 = .ok (.aload_n 0, 1) := by decide +kernel
theorem dX7_turn_36 : decode cX7_turn 36 = .ok (.getfield 13, 3) := by decide +kernel
theorem dX7_turn_39 : decode cX7_turn 39 = .ok (.iload_n 1, 1) := by decide +kernel
theorem dX7_turn_40 : decode cX7_turn 40 = .ok (.baload, 1) := by decide +kernel
theorem dX7_turn_41 : decode cX7_turn 41 = .ok (.ireturn, 1) := by decide +kernel
theorem dX7_add_0 : decode cX7_add 0 = .ok (.aload_n 0, 1) := by decide +kernel
theorem dX7_add_1 : decode cX7_add 1 = .ok (.iconst 0, 1) := by decide +kernel
theorem dX7_add_2 : decode cX7_add 2 = .ok (.putfield 33, 3) := by decide +kernel
theorem dX7_add_5 : decode cX7_add 5 = .ok (.iload_n 1, 1) := by decide +kernel
theorem dX7_add_6 : decode cX7_add 6 = .ok (.ifCond .eq 11, 3) := by decide +kernel
theorem dX7_add_9 : decode cX7_add 9 = .ok (.iload_n 1, 1) := by decide +kernel
theorem dX7_add_10 : decode cX7_add 10 = .ok (.iconst 1, 1) := by decide +kernel
theorem dX7_add_11 : decode cX7_add 11 = .ok (.if_icmp .eq 6, 3) := by decide +kernel
theorem dX7_add_14 : decode cX7_add 14 = .ok (.bipush (-12), 2) := by decide +kernel
theorem dX7_add_16 : decode cX7_add 16 = .ok (.ireturn, 1) := by decide +kernel
theorem dX7_add_17 : decode cX7_add 17 = .ok (.aload_n 0, 1) := by decide +kernel
theorem dX7_add_18 : decode cX7_add 18 = .ok (.getfield 29, 3) := by decide +kernel
theorem dX7_add_21 : decode cX7_add 21 = .ok (.sipush 9066, 3) := by decide +kernel
theorem dX7_add_24 : decode cX7_add 24 = .ok (.if_icmp .lt 6, 3) := by decide +kernel
theorem dX7_add_27 : decode cX7_add 27 = .ok (.bipush (-14), 2) := by decide +kernel
theorem dX7_add_29 : decode cX7_add 29 = .ok (.ireturn, 1) := by decide +kernel
theorem dX7_add_30 : decode cX7_add 30 = .ok (.aload_n 0, 1) := by decide +kernel
theorem dX7_add_31 : decode cX7_add 31 = .ok (.getfield 13, 3) := by decide +kernel
theorem dX7_add_34 : decode cX7_add 34 = .ok (.aload_n 0, 1) := by decide +kernel
theorem dX7_add_35 : decode cX7_add 35 = .ok (.getfield 29, 3) := by decide +kernel
theorem dX7_add_38 : decode cX7_add 38 = .ok (.iload_n 1, 1) := by decide +kernel
theorem dX7_add_39 : decode cX7_add 39 = .ok (.i2b, 1) := by decide +kernel
theorem dX7_add_40 : decode cX7_add 40 = .ok (.bastore, 1) := by decide +kernel
theorem dX7_add_41 : decode cX7_add 41 = .ok (.aload_n 0, 1) := by decide +kernel
theorem dX7_add_42 : decode cX7_add 42 = .ok (.dup, 1) := by decide +kernel
theorem dX7_add_43 : decode cX7_add 43 = .ok (.getfield 29, 3) := by decide +kernel
theorem dX7_add_46 : decode cX7_add 46 = .ok (.iconst 1, 1) := by decide +kernel
theorem dX7_add_47 : decode cX7_add 47 = .ok (.iadd, 1) := by decide +kernel
theorem dX7_add_48 : decode cX7_add 48 = .ok (.putfield 29, 3) := by decide +kernel
theorem dX7_add_51 : decode cX7_add 51 = .ok (.aload_n 0, 1) := by decide +kernel
theorem dX7_add_52 : decode cX7_add 52 = .ok (.getfield 29, 3) := by decide +kernel
theorem dX7_add_55 : decode cX7_add 55 = .ok (.ireturn, 1) := by decide +kernel
theorem dX7_get_0 : decode cX7_get 0 = .ok (.iconst 0, 1) := by decide +kernel
theorem dX7_get_1 : decode cX7_get 1 = .ok (.istore_n 3, 1) := by decide +kernel
theorem dX7_get_2 : decode cX7_get 2 = .ok (.iconst 0, 1) := by decide +kernel
theorem dX7_get_3 : decode cX7_get 3 = .ok (.istore 4, 2) := by decide +kernel
theorem dX7_get_5 : decode cX7_get 5 = .ok (.iload 4, 2) := by decide +kernel
theorem dX7_get_7 : decode cX7_get 7 = .ok (.iload_n 2, 1) := by decide +kernel
theorem dX7_get_8 : decode cX7_get 8 = .ok (.if_icmp .ge 24, 3) := by decide +kernel
theorem dX7_get_11 : decode cX7_get 11 = .ok (.iload_n 3, 1) := by decide +kernel
theorem dX7_get_12 : decode cX7_get 12 = .ok (.aload_n 0, 1) := by decide +kernel
theorem dX7_get_13 : decode cX7_get 13 = .ok (.getfield 23, 3) := by decide +kernel
theorem dX7_get_16 : decode cX7_get 16 = .ok (.iload_n 1, 1) := by decide +kernel
theorem dX7_get_17 : decode cX7_get 17 = .ok (.iload 4, 2) := by decide +kernel
theorem dX7_get_19 : decode cX7_get 19 = .ok (.iadd, 1) := by decide +kernel
theorem dX7_get_20 : decode cX7_get 20 = .ok (.iaload, 1) := by decide +kernel
theorem dX7_get_21 : decode cX7_get 21 = .ok (.iload 4, 2) := by decide +kernel
theorem dX7_get_23 : decode cX7_get 23 = .ok (.ishl, 1) := by decide +kernel
theorem dX7_get_24 : decode cX7_get 24 = .ok (.ior, 1) := by decide +kernel
theorem dX7_get_25 : decode cX7_get 25 = .ok (.istore_n 3, 1) := by decide +kernel
theorem dX7_get_26 : decode cX7_get 26 = .ok (.iinc 4 1, 3) := by decide +kernel
theorem dX7_get_29 : decode cX7_get 29 = .ok (.goto (-24), 3) := by decide +kernel
theorem dX7_get_32 : decode cX7_get 32 = .ok (.iload_n 3, 1) := by decide +kernel
theorem dX7_get_33 : decode cX7_get 33 = .ok (.ireturn, 1) := by decide +kernel
theorem dX7_codeAt_0 : decode cX7_codeAt 0 = .ok (.aload_n 0, 1) := by decide +kernel
theorem dX7_codeAt_1 : decode cX7_codeAt 1 = .ok (.iload_n 1, 1) := by decide +kernel
theorem dX7_codeAt_2 : decode cX7_codeAt 2 = .ok (.bipush 7, 2) := by decide +kernel
theorem dX7_codeAt_4 : decode cX7_codeAt 4 = .ok (.invokevirtual 82, 3) := by decide +kernel
theorem dX7_codeAt_7 : decode cX7_codeAt 7 = .ok (.ifCond .ne 9, 3) := by decide +kernel
theorem dX7_codeAt_10 : decode cX7_codeAt 10 = .ok (.sipush 256, 3) := by decide +kernel
theorem dX7_codeAt_13 : decode cX7_codeAt 13 = .ok (.goto 6, 3) := by decide +kernel
theorem dX7_codeAt_16 : decode cX7_codeAt 16 = .ok (.sipush 259, 3) := by decide +kernel
theorem dX7_codeAt_19 : decode cX7_codeAt 19 = .ok (.ireturn, 1) := by decide +kernel
theorem dX7_endOf_0 : decode cX7_endOf 0 = .ok (.iconst (-1), 1) := by decide +kernel
theorem dX7_endOf_1 : decode cX7_endOf 1 = .ok (.istore_n 2, 1) := by decide +kernel
theorem dX7_endOf_2 : decode cX7_endOf 2 = .ok (.iconst 0, 1) := by decide +kernel
theorem dX7_endOf_3 : decode cX7_endOf 3 = .ok (.istore_n 3, 1) := by decide +kernel
theorem dX7_endOf_4 : decode cX7_endOf 4 = .ok (.iload_n 3, 1) := by decide +kernel
theorem dX7_endOf_5 : decode cX7_endOf 5 = .ok (.bipush 8, 2) := by decide +kernel
theorem dX7_endOf_7 : decode cX7_endOf 7 = .ok (.if_icmp .ge 23, 3) := by decide +kernel
theorem dX7_endOf_10 : decode cX7_endOf 10 = .ok (.iload_n 3, 1) := by decide +kernel
theorem dX7_endOf_11 : decode cX7_endOf 11 = .ok (.invokestatic 59, 3) := by decide +kernel
theorem dX7_endOf_14 : decode cX7_endOf 14 = .ok (.iload_n 1, 1) := by decide +kernel
theorem dX7_endOf_15 : decode cX7_endOf 15 = .ok (.if_icmp .ne 7, 3) := by decide +kernel
theorem dX7_endOf_18 : decode cX7_endOf 18 = .ok (.iload_n 3, 1) := by decide +kernel
theorem dX7_endOf_19 : decode cX7_endOf 19 = .ok (.goto 4, 3) := by decide +kernel
theorem dX7_endOf_22 : decode cX7_endOf 22 = .ok (.iload_n 2, 1) := by decide +kernel
theorem dX7_endOf_23 : decode cX7_endOf 23 = .ok (.istore_n 2, 1) := by decide +kernel
theorem dX7_endOf_24 : decode cX7_endOf 24 = .ok (.iinc 3 1, 3) := by decide +kernel
theorem dX7_endOf_27 : decode cX7_endOf 27 = .ok (.goto (-23), 3) := by decide +kernel
theorem dX7_endOf_30 : decode cX7_endOf 30 = .ok (.iload_n 2, 1) := by decide +kernel
theorem dX7_endOf_31 : decode cX7_endOf 31 = .ok (.ireturn, 1) := by decide +kernel
theorem dX7_character_0 : decode cX7_character 0 = .ok (.aload_n 0, 1) := by decide +kernel
theorem dX7_character_1 : decode cX7_character 1 = .ok (.getfield 23, 3) := by decide +kernel
theorem dX7_character_4 : decode cX7_character 4 = .ok (.iconst 0, 1) := by decide +kernel
theorem dX7_character_5 : decode cX7_character 5 = .ok (.iaload, 1) := by decide +kernel
theorem dX7_character_6 : decode cX7_character 6 = .ok (.aload_n 0, 1) := by decide +kernel
theorem dX7_character_7 : decode cX7_character 7 = .ok (.getfield 23, 3) := by decide +kernel
theorem dX7_character_10 : decode cX7_character 10 = .ok (.iconst 1, 1) := by decide +kernel
theorem dX7_character_11 : decode cX7_character 11 = .ok (.iaload, 1) := by decide +kernel
theorem dX7_character_12 : decode cX7_character 12 = .ok (.if_icmp .ne 7, 3) := by decide +kernel
theorem dX7_character_15 : decode cX7_character 15 = .ok (.sipush 259, 3) := by decide +kernel
theorem dX7_character_18 : decode cX7_character 18 = .ok (.ireturn, 1) := by decide +kernel
theorem dX7_character_19 : decode cX7_character 19 = .ok (.aload_n 0, 1) := by decide +kernel
theorem dX7_character_20 : decode cX7_character 20 = .ok (.getfield 23, 3) := by decide +kernel
theorem dX7_character_23 : decode cX7_character 23 = .ok (.iconst 0, 1) := by decide +kernel
theorem dX7_character_24 : decode cX7_character 24 = .ok (.iaload, 1) := by decide +kernel
theorem dX7_character_25 : decode cX7_character 25 = .ok (.ifCond .ne 16, 3) := by decide +kernel
theorem dX7_character_28 : decode cX7_character 28 = .ok (.aload_n 0, 1) := by decide +kernel
theorem dX7_character_29 : decode cX7_character 29 = .ok (.iconst 2, 1) := by decide +kernel
theorem dX7_character_30 : decode cX7_character 30 = .ok (.bipush 8, 2) := by decide +kernel
theorem dX7_character_32 : decode cX7_character 32 = .ok (.iload_n 1, 1) := by decide +kernel
theorem dX7_character_33 : decode cX7_character 33 = .ok (.imul, 1) := by decide +kernel
theorem dX7_character_34 : decode cX7_character 34 = .ok (.iadd, 1) := by decide +kernel
theorem dX7_character_35 : decode cX7_character 35 = .ok (.bipush 8, 2) := by decide +kernel
theorem dX7_character_37 : decode cX7_character 37 = .ok (.invokevirtual 82, 3) := by decide +kernel
theorem dX7_character_40 : decode cX7_character 40 = .ok (.ireturn, 1) := by decide +kernel
theorem dX7_character_41 : decode cX7_character 41 = .ok (.aload_n 0, 1) := by decide +kernel
theorem dX7_character_42 : decode cX7_character 42 = .ok (.iconst 2, 1) := by decide +kernel
theorem dX7_character_43 : decode cX7_character 43 = .ok (.bipush 8, 2) := by decide +kernel
theorem dX7_character_45 : decode cX7_character 45 = .ok (.invokevirtual 82, 3) := by decide +kernel
theorem dX7_character_48 : decode cX7_character 48 = .ok (.istore_n 2, 1) := by decide +kernel
theorem dX7_character_49 : decode cX7_character 49 = .ok (.iload_n 2, 1) := by decide +kernel
theorem dX7_character_50 : decode cX7_character 50 = .ok (.bipush 30, 2) := by decide +kernel
theorem dX7_character_52 : decode cX7_character 52 = .ok (.if_icmp .ne 15, 3) := by decide +kernel
theorem dX7_character_55 : decode cX7_character 55 = .ok (.aload_n 0, 1) := by decide +kernel
theorem dX7_character_56 : decode cX7_character 56 = .ok (.bipush 10, 2) := by decide +kernel
theorem dX7_character_58 : decode cX7_character 58 = .ok (.bipush 7, 2) := by decide +kernel
theorem dX7_character_60 : decode cX7_character 60 = .ok (.iload_n 1, 1) := by decide +kernel
theorem dX7_character_61 : decode cX7_character 61 = .ok (.imul, 1) := by decide +kernel
theorem dX7_character_62 : decode cX7_character 62 = .ok (.iadd, 1) := by decide +kernel
theorem dX7_character_63 : decode cX7_character 63 = .ok (.invokevirtual 85, 3) := by decide +kernel
theorem dX7_character_66 : decode cX7_character 66 = .ok (.ireturn, 1) := by decide +kernel
theorem dX7_character_67 : decode cX7_character 67 = .ok (.iload_n 2, 1) := by decide +kernel
theorem dX7_character_68 : decode cX7_character 68 = .ok (.bipush 120, 2) := by decide +kernel
theorem dX7_character_70 : decode cX7_character 70 = .ok (.if_icmp .ne 26, 3) := by decide +kernel
theorem dX7_character_73 : decode cX7_character 73 = .ok (.iload_n 1, 1) := by decide +kernel
theorem dX7_character_74 : decode cX7_character 74 = .ok (.ifCond .ne 9, 3) := by decide +kernel
theorem dX7_character_77 : decode cX7_character 77 = .ok (.sipush 257, 3) := by decide +kernel
theorem dX7_character_80 : decode cX7_character 80 = .ok (.goto 15, 3) := by decide +kernel
theorem dX7_character_83 : decode cX7_character 83 = .ok (.aload_n 0, 1) := by decide +kernel
theorem dX7_character_84 : decode cX7_character 84 = .ok (.iconst 2, 1) := by decide +kernel
theorem dX7_character_85 : decode cX7_character 85 = .ok (.bipush 8, 2) := by decide +kernel
theorem dX7_character_87 : decode cX7_character 87 = .ok (.iload_n 1, 1) := by decide +kernel
theorem dX7_character_88 : decode cX7_character 88 = .ok (.imul, 1) := by decide +kernel
theorem dX7_character_89 : decode cX7_character 89 = .ok (.iadd, 1) := by decide +kernel
theorem dX7_character_90 : decode cX7_character 90 = .ok (.bipush 8, 2) := by decide +kernel
theorem dX7_character_92 : decode cX7_character 92 = .ok (.invokevirtual 82, 3) := by decide +kernel
theorem dX7_character_95 : decode cX7_character 95 = .ok (.ireturn, 1) := by decide +kernel
theorem dX7_character_96 : decode cX7_character 96 = .ok (.iload_n 2, 1) := by decide +kernel
theorem dX7_character_97 : decode cX7_character 97 = .ok (.bipush 51, 2) := by decide +kernel
theorem dX7_character_99 : decode cX7_character 99 = .ok (.if_icmp .ne 46, 3) := by decide +kernel
theorem dX7_character_102 : decode cX7_character 102 = .ok (.iload_n 1, 1) := by decide +kernel
theorem dX7_character_103 : decode cX7_character 103 = .ok (.iconst 4, 1) := by decide +kernel
theorem dX7_character_104 : decode cX7_character 104 = .ok (.if_icmp .ge 17, 3) := by decide +kernel
theorem dX7_character_107 : decode cX7_character 107 = .ok (.aload_n 0, 1) := by decide +kernel
theorem dX7_character_108 : decode cX7_character 108 = .ok (.bipush 10, 2) := by decide +kernel
theorem dX7_character_110 : decode cX7_character 110 = .ok (.bipush 7, 2) := by decide +kernel
theorem dX7_character_112 : decode cX7_character 112 = .ok (.iload_n 1, 1) := by decide +kernel
theorem dX7_character_113 : decode cX7_character 113 = .ok (.imul, 1) := by decide +kernel
theorem dX7_character_114 : decode cX7_character 114 = .ok (.iadd, 1) := by decide +kernel
theorem dX7_character_115 : decode cX7_character 115 = .ok (.invokevirtual 85, 3) := by decide +kernel
theorem dX7_character_118 : decode cX7_character 118 = .ok (.goto 26, 3) := by decide +kernel
theorem dX7_character_121 : decode cX7_character 121 = .ok (.iload_n 1, 1) := by decide +kernel
theorem dX7_character_122 : decode cX7_character 122 = .ok (.iconst 4, 1) := by decide +kernel
theorem dX7_character_123 : decode cX7_character 123 = .ok (.if_icmp .ne 9, 3) := by decide +kernel
theorem dX7_character_126 : decode cX7_character 126 = .ok (.sipush 257, 3) := by decide +kernel
theorem dX7_character_129 : decode cX7_character 129 = .ok (.goto 15, 3) := by decide +kernel
theorem dX7_character_132 : decode cX7_character 132 = .ok (.aload_n 0, 1) := by decide +kernel
theorem dX7_character_133 : decode cX7_character 133 = .ok (.iconst 2, 1) := by decide +kernel
theorem dX7_character_134 : decode cX7_character 134 = .ok (.bipush 8, 2) := by decide +kernel
theorem dX7_character_136 : decode cX7_character 136 = .ok (.iload_n 1, 1) := by decide +kernel
theorem dX7_character_137 : decode cX7_character 137 = .ok (.imul, 1) := by decide +kernel
theorem dX7_character_138 : decode cX7_character 138 = .ok (.iadd, 1) := by decide +kernel
theorem dX7_character_139 : decode cX7_character 139 = .ok (.bipush 8, 2) := by decide +kernel
theorem dX7_character_141 : decode cX7_character 141 = .ok (.invokevirtual 82, 3) := by decide +kernel
theorem dX7_character_144 : decode cX7_character 144 = .ok (.ireturn, 1) := by decide +kernel
theorem dX7_character_145 : decode cX7_character 145 = .ok (.aload_n 0, 1) := by decide +kernel
theorem dX7_character_146 : decode cX7_character 146 = .ok (.iload_n 2, 1) := by decide +kernel
theorem dX7_character_147 : decode cX7_character 147 = .ok (.invokevirtual 88, 3) := by decide +kernel
theorem dX7_character_150 : decode cX7_character 150 = .ok (.istore_n 3, 1) := by decide +kernel
theorem dX7_character_151 : decode cX7_character 151 = .ok (.iload_n 3, 1) := by decide +kernel
theorem dX7_character_152 : decode cX7_character 152 = .ok (.ifCond .ge 9, 3) := by decide +kernel
theorem dX7_character_155 : decode cX7_character 155 = .ok (.sipush 259, 3) := by decide +kernel
theorem dX7_character_158 : decode cX7_character 158 = .ok (.goto 49, 3) := by decide +kernel
theorem dX7_character_161 : decode cX7_character 161 = .ok (.iload_n 1, 1) := by decide +kernel
theorem dX7_character_162 : decode cX7_character 162 = .ok (.iload_n 3, 1) := by decide +kernel
theorem dX7_character_163 : decode cX7_character 163 = .ok (.if_icmp .ge 19, 3) := by decide +kernel
theorem dX7_character_166 : decode cX7_character 166 = .ok (.aload_n 0, 1) := by decide +kernel
theorem dX7_character_167 : decode cX7_character 167 = .ok (.bipush 10, 2) := by decide +kernel
theorem dX7_character_169 : decode cX7_character 169 = .ok (.bipush 8, 2) := by decide +kernel
theorem dX7_character_171 : decode cX7_character 171 = .ok (.iload_n 1, 1) := by decide +kernel
theorem dX7_character_172 : decode cX7_character 172 = .ok (.imul, 1) := by decide +kernel
theorem dX7_character_173 : decode cX7_character 173 = .ok (.iadd, 1) := by decide +kernel
theorem dX7_character_174 : decode cX7_character 174 = .ok (.bipush 8, 2) := by decide +kernel
theorem dX7_character_176 : decode cX7_character 176 = .ok (.invokevirtual 82, 3) := by decide +kernel
theorem dX7_character_179 : decode cX7_character 179 = .ok (.goto 28, 3) := by decide +kernel
theorem dX7_character_182 : decode cX7_character 182 = .ok (.iload_n 1, 1) := by decide +kernel
theorem dX7_character_183 : decode cX7_character 183 = .ok (.iload_n 3, 1) := by decide +kernel
theorem dX7_character_184 : decode cX7_character 184 = .ok (.if_icmp .ne 9, 3) := by decide +kernel
theorem dX7_character_187 : decode cX7_character 187 = .ok (.sipush 258, 3) := by decide +kernel
theorem dX7_character_190 : decode cX7_character 190 = .ok (.goto 17, 3) := by decide +kernel
theorem dX7_character_193 : decode cX7_character 193 = .ok (.aload_n 0, 1) := by decide +kernel
theorem dX7_character_194 : decode cX7_character 194 = .ok (.bipush 66, 2) := by decide +kernel
theorem dX7_character_196 : decode cX7_character 196 = .ok (.bipush 7, 2) := by decide +kernel
theorem dX7_character_198 : decode cX7_character 198 = .ok (.bipush 8, 2) := by decide +kernel
theorem dX7_character_200 : decode cX7_character 200 = .ok (.iload_n 1, 1) := by decide +kernel
theorem dX7_character_201 : decode cX7_character 201 = .ok (.isub, 1) := by decide +kernel
theorem dX7_character_202 : decode cX7_character 202 = .ok (.imul, 1) := by decide +kernel
theorem dX7_character_203 : decode cX7_character 203 = .ok (.isub, 1) := by decide +kernel
theorem dX7_character_204 : decode cX7_character 204 = .ok (.invokevirtual 85, 3) := by decide +kernel
theorem dX7_character_207 : decode cX7_character 207 = .ok (.ireturn, 1) := by decide +kernel
theorem dX7_tell_0 : decode cX7_tell 0 = .ok (.iconst 0, 1) := by decide +kernel
theorem dX7_tell_1 : decode cX7_tell 1 = .ok (.istore_n 1, 1) := by decide +kernel
theorem dX7_tell_2 : decode cX7_tell 2 = .ok (.iload_n 1, 1) := by decide +kernel
theorem dX7_tell_3 : decode cX7_tell 3 = .ok (.bipush 8, 2) := by decide +kernel
theorem dX7_tell_5 : decode cX7_tell 5 = .ok (.if_icmp .ge 32, 3) := by decide +kernel
theorem dX7_tell_8 : decode cX7_tell 8 = .ok (.aload_n 0, 1) := by decide +kernel
theorem dX7_tell_9 : decode cX7_tell 9 = .ok (.getfield 26, 3) := by decide +kernel
theorem dX7_tell_12 : decode cX7_tell 12 = .ok (.bipush 8, 2) := by decide +kernel
theorem dX7_tell_14 : decode cX7_tell 14 = .ok (.aload_n 0, 1) := by decide +kernel
theorem dX7_tell_15 : decode cX7_tell 15 = .ok (.getfield 91, 3) := by decide +kernel
theorem dX7_tell_18 : decode cX7_tell 18 = .ok (.sipush 300, 3) := by decide +kernel
theorem dX7_tell_21 : decode cX7_tell 21 = .ok (.irem, 1) := by decide +kernel
theorem dX7_tell_22 : decode cX7_tell 22 = .ok (.imul, 1) := by decide +kernel
theorem dX7_tell_23 : decode cX7_tell 23 = .ok (.iload_n 1, 1) := by decide +kernel
theorem dX7_tell_24 : decode cX7_tell 24 = .ok (.iadd, 1) := by decide +kernel
theorem dX7_tell_25 : decode cX7_tell 25 = .ok (.aload_n 0, 1) := by decide +kernel
theorem dX7_tell_26 : decode cX7_tell 26 = .ok (.iload_n 1, 1) := by decide +kernel
theorem dX7_tell_27 : decode cX7_tell 27 = .ok (.invokevirtual 94, 3) := by decide +kernel
theorem dX7_tell_30 : decode cX7_tell 30 = .ok (.iastore, 1) := by decide +kernel
theorem dX7_tell_31 : decode cX7_tell 31 = .ok (.iinc 1 1, 3) := by decide +kernel
theorem dX7_tell_34 : decode cX7_tell 34 = .ok (.goto (-32), 3) := by decide +kernel
theorem dX7_tell_37 : decode cX7_tell 37 = .ok (.aload_n 0, 1) := by decide +kernel
theorem dX7_tell_38 : decode cX7_tell 38 = .ok (.dup, 1) := by decide +kernel
theorem dX7_tell_39 : decode cX7_tell 39 = .ok (.getfield 91, 3) := by decide +kernel
theorem dX7_tell_42 : decode cX7_tell 42 = .ok (.iconst 1, 1) := by decide +kernel
theorem dX7_tell_43 : decode cX7_tell 43 = .ok (.iadd, 1) := by decide +kernel
theorem dX7_tell_44 : decode cX7_tell 44 = .ok (.putfield 91, 3) := by decide +kernel
theorem dX7_tell_47 : decode cX7_tell 47 = .ok (.return_, 1) := by decide +kernel
theorem dX7_slip_0 : decode cX7_slip 0 = .ok (.aload_n 0, 1) := by decide +kernel
theorem dX7_slip_1 : decode cX7_slip 1 = .ok (.iconst 1, 1) := by decide +kernel
theorem dX7_slip_2 : decode cX7_slip 2 = .ok (.putfield 97, 3) := by decide +kernel
theorem dX7_slip_5 : decode cX7_slip 5 = .ok (.aload_n 0, 1) := by decide +kernel
theorem dX7_slip_6 : decode cX7_slip 6 = .ok (.dup, 1) := by decide +kernel
theorem dX7_slip_7 : decode cX7_slip 7 = .ok (.getfield 101, 3) := by decide +kernel
theorem dX7_slip_10 : decode cX7_slip 10 = .ok (.iconst 1, 1) := by decide +kernel
theorem dX7_slip_11 : decode cX7_slip 11 = .ok (.iadd, 1) := by decide +kernel
theorem dX7_slip_12 : decode cX7_slip 12 = .ok (.putfield 101, 3) := by decide +kernel
theorem dX7_slip_15 : decode cX7_slip 15 = .ok (.return_, 1) := by decide +kernel
theorem dX7_whole_0 : decode cX7_whole 0 = .ok (.aload_n 0, 1) := by decide +kernel
theorem dX7_whole_1 : decode cX7_whole 1 = .ok (.iconst 0, 1) := by decide +kernel
theorem dX7_whole_2 : decode cX7_whole 2 = .ok (.putfield 104, 3) := by decide +kernel
theorem dX7_whole_5 : decode cX7_whole 5 = .ok (.iconst 2, 1) := by decide +kernel
theorem dX7_whole_6 : decode cX7_whole 6 = .ok (.istore_n 1, 1) := by decide +kernel
theorem dX7_whole_7 : decode cX7_whole 7 = .ok (.iload_n 1, 1) := by decide +kernel
theorem dX7_whole_8 : decode cX7_whole 8 = .ok (.bipush 66, 2) := by decide +kernel
theorem dX7_whole_10 : decode cX7_whole 10 = .ok (.if_icmp .ge 34, 3) := by decide +kernel
theorem dX7_whole_13 : decode cX7_whole 13 = .ok (.aload_n 0, 1) := by decide +kernel
theorem dX7_whole_14 : decode cX7_whole 14 = .ok (.getfield 23, 3) := by decide +kernel
theorem dX7_whole_17 : decode cX7_whole 17 = .ok (.iload_n 1, 1) := by decide +kernel
theorem dX7_whole_18 : decode cX7_whole 18 = .ok (.iaload, 1) := by decide +kernel
theorem dX7_whole_19 : decode cX7_whole 19 = .ok (.istore_n 2, 1) := by decide +kernel
theorem dX7_whole_20 : decode cX7_whole 20 = .ok (.aload_n 0, 1) := by decide +kernel
theorem dX7_whole_21 : decode cX7_whole 21 = .ok (.getfield 23, 3) := by decide +kernel
theorem dX7_whole_24 : decode cX7_whole 24 = .ok (.iload_n 1, 1) := by decide +kernel
theorem dX7_whole_25 : decode cX7_whole 25 = .ok (.aload_n 0, 1) := by decide +kernel
theorem dX7_whole_26 : decode cX7_whole 26 = .ok (.iconst 1, 1) := by decide +kernel
theorem dX7_whole_27 : decode cX7_whole 27 = .ok (.iload_n 2, 1) := by decide +kernel
theorem dX7_whole_28 : decode cX7_whole 28 = .ok (.invokevirtual 66, 3) := by decide +kernel
theorem dX7_whole_31 : decode cX7_whole 31 = .ok (.iastore, 1) := by decide +kernel
theorem dX7_whole_32 : decode cX7_whole 32 = .ok (.aload_n 0, 1) := by decide +kernel
theorem dX7_whole_33 : decode cX7_whole 33 = .ok (.iconst 1, 1) := by decide +kernel
theorem dX7_whole_34 : decode cX7_whole 34 = .ok (.iload_n 2, 1) := by decide +kernel
theorem dX7_whole_35 : decode cX7_whole 35 = .ok (.invokevirtual 70, 3) := by decide +kernel
theorem dX7_whole_38 : decode cX7_whole 38 = .ok (.iinc 1 1, 3) := by decide +kernel
theorem dX7_whole_41 : decode cX7_whole 41 = .ok (.goto (-34), 3) := by decide +kernel
theorem dX7_whole_44 : decode cX7_whole 44 = .ok (.aload_n 0, 1) := by decide +kernel
theorem dX7_whole_45 : decode cX7_whole 45 = .ok (.getfield 23, 3) := by decide +kernel
theorem dX7_whole_48 : decode cX7_whole 48 = .ok (.iconst 0, 1) := by decide +kernel
theorem dX7_whole_49 : decode cX7_whole 49 = .ok (.iaload, 1) := by decide +kernel
theorem dX7_whole_50 : decode cX7_whole 50 = .ok (.aload_n 0, 1) := by decide +kernel
theorem dX7_whole_51 : decode cX7_whole 51 = .ok (.getfield 23, 3) := by decide +kernel
theorem dX7_whole_54 : decode cX7_whole 54 = .ok (.iconst 1, 1) := by decide +kernel
theorem dX7_whole_55 : decode cX7_whole 55 = .ok (.iaload, 1) := by decide +kernel
theorem dX7_whole_56 : decode cX7_whole 56 = .ok (.if_icmp .eq 7, 3) := by decide +kernel
theorem dX7_whole_59 : decode cX7_whole 59 = .ok (.iconst 1, 1) := by decide +kernel
theorem dX7_whole_60 : decode cX7_whole 60 = .ok (.goto 4, 3) := by decide +kernel
theorem dX7_whole_63 : decode cX7_whole 63 = .ok (.iconst 0, 1) := by decide +kernel
theorem dX7_whole_64 : decode cX7_whole 64 = .ok (.istore_n 1, 1) := by decide +kernel
theorem dX7_whole_65 : decode cX7_whole 65 = .ok (.aload_n 0, 1) := by decide +kernel
theorem dX7_whole_66 : decode cX7_whole 66 = .ok (.getfield 107, 3) := by decide +kernel
theorem dX7_whole_69 : decode cX7_whole 69 = .ok (.ifCond .ne 77, 3) := by decide +kernel
theorem dX7_whole_72 : decode cX7_whole 72 = .ok (.aload_n 0, 1) := by decide +kernel
theorem dX7_whole_73 : decode cX7_whole 73 = .ok (.iload_n 1, 1) := by decide +kernel
theorem dX7_whole_74 : decode cX7_whole 74 = .ok (.ifCond .eq 12, 3) := by decide +kernel
theorem dX7_whole_77 : decode cX7_whole 77 = .ok (.aload_n 0, 1) := by decide +kernel
theorem dX7_whole_78 : decode cX7_whole 78 = .ok (.getfield 110, 3) := by decide +kernel
theorem dX7_whole_81 : decode cX7_whole 81 = .ok (.iconst 1, 1) := by decide +kernel
theorem dX7_whole_82 : decode cX7_whole 82 = .ok (.iadd, 1) := by decide +kernel
theorem dX7_whole_83 : decode cX7_whole 83 = .ok (.goto 4, 3) := by decide +kernel
theorem dX7_whole_86 : decode cX7_whole 86 = .ok (.iconst 0, 1) := by decide +kernel
theorem dX7_whole_87 : decode cX7_whole 87 = .ok (.putfield 110, 3) := by decide +kernel
theorem dX7_whole_90 : decode cX7_whole 90 = .ok (.iload_n 1, 1) := by decide +kernel
theorem dX7_whole_91 : decode cX7_whole 91 = .ok (.ifCond .ne 7, 3) := by decide +kernel
theorem dX7_whole_94 : decode cX7_whole 94 = .ok (.aload_n 0, 1) := by decide +kernel
theorem dX7_whole_95 : decode cX7_whole 95 = .ok (.invokevirtual 113, 3) := by decide +kernel
theorem dX7_whole_98 : decode cX7_whole 98 = .ok (.aload_n 0, 1) := by decide +kernel
theorem dX7_whole_99 : decode cX7_whole 99 = .ok (.aload_n 0, 1) := by decide +kernel
theorem dX7_whole_100 : decode cX7_whole 100 = .ok (.getfield 110, 3) := by decide +kernel
theorem dX7_whole_103 : decode cX7_whole 103 = .ok (.bipush 64, 2) := by decide +kernel
theorem dX7_whole_105 : decode cX7_whole 105 = .ok (.if_icmp .ne 7, 3) := by decide +kernel
theorem dX7_whole_108 : decode cX7_whole 108 = .ok (.iconst 1, 1) := by decide +kernel
theorem dX7_whole_109 : decode cX7_whole 109 = .ok (.goto 4, 3) := by decide +kernel
theorem dX7_whole_112 : decode cX7_whole 112 = .ok (.iconst 0, 1) := by decide +kernel
theorem dX7_whole_113 : decode cX7_whole 113 = .ok (.putfield 107, 3) := by decide +kernel
theorem dX7_whole_116 : decode cX7_whole 116 = .ok (.aload_n 0, 1) := by decide +kernel
theorem dX7_whole_117 : decode cX7_whole 117 = .ok (.aload_n 0, 1) := by decide +kernel
theorem dX7_whole_118 : decode cX7_whole 118 = .ok (.getfield 107, 3) := by decide +kernel
theorem dX7_whole_121 : decode cX7_whole 121 = .ok (.ifCond .eq 7, 3) := by decide +kernel
theorem dX7_whole_124 : decode cX7_whole 124 = .ok (.iconst 0, 1) := by decide +kernel
theorem dX7_whole_125 : decode cX7_whole 125 = .ok (.goto 7, 3) := by decide +kernel
theorem dX7_whole_128 : decode cX7_whole 128 = .ok (.aload_n 0, 1) := by decide +kernel
theorem dX7_whole_129 : decode cX7_whole 129 = .ok (.getfield 110, 3) := by decide +kernel
theorem dX7_whole_132 : decode cX7_whole 132 = .ok (.putfield 110, 3) := by decide +kernel
theorem dX7_whole_135 : decode cX7_whole 135 = .ok (.aload_n 0, 1) := by decide +kernel
theorem dX7_whole_136 : decode cX7_whole 136 = .ok (.iconst 0, 1) := by decide +kernel
theorem dX7_whole_137 : decode cX7_whole 137 = .ok (.putfield 116, 3) := by decide +kernel
theorem dX7_whole_140 : decode cX7_whole 140 = .ok (.aload_n 0, 1) := by decide +kernel
theorem dX7_whole_141 : decode cX7_whole 141 = .ok (.iconst 0, 1) := by decide +kernel
theorem dX7_whole_142 : decode cX7_whole 142 = .ok (.putfield 119, 3) := by decide +kernel
theorem dX7_whole_145 : decode cX7_whole 145 = .ok (.return_, 1) := by decide +kernel
theorem dX7_whole_146 : decode cX7_whole 146 = .ok (.aload_n 0, 1) := by decide +kernel
theorem dX7_whole_147 : decode cX7_whole 147 = .ok (.invokevirtual 122, 3) := by decide +kernel
theorem dX7_whole_150 : decode cX7_whole 150 = .ok (.aload_n 0, 1) := by decide +kernel
theorem dX7_whole_151 : decode cX7_whole 151 = .ok (.dup, 1) := by decide +kernel
theorem dX7_whole_152 : decode cX7_whole 152 = .ok (.getfield 116, 3) := by decide +kernel
theorem dX7_whole_155 : decode cX7_whole 155 = .ok (.iconst 1, 1) := by decide +kernel
theorem dX7_whole_156 : decode cX7_whole 156 = .ok (.iadd, 1) := by decide +kernel
theorem dX7_whole_157 : decode cX7_whole 157 = .ok (.putfield 116, 3) := by decide +kernel
theorem dX7_whole_160 : decode cX7_whole 160 = .ok (.aload_n 0, 1) := by decide +kernel
theorem dX7_whole_161 : decode cX7_whole 161 = .ok (.iload_n 1, 1) := by decide +kernel
theorem dX7_whole_162 : decode cX7_whole 162 = .ok (.ifCond .eq 10, 3) := by decide +kernel
theorem dX7_whole_165 : decode cX7_whole 165 = .ok (.aload_n 0, 1) := by decide +kernel
theorem dX7_whole_166 : decode cX7_whole 166 = .ok (.getfield 119, 3) := by decide +kernel
theorem dX7_whole_169 : decode cX7_whole 169 = .ok (.goto 9, 3) := by decide +kernel
theorem dX7_whole_172 : decode cX7_whole 172 = .ok (.aload_n 0, 1) := by decide +kernel
theorem dX7_whole_173 : decode cX7_whole 173 = .ok (.getfield 119, 3) := by decide +kernel
theorem dX7_whole_176 : decode cX7_whole 176 = .ok (.iconst 1, 1) := by decide +kernel
theorem dX7_whole_177 : decode cX7_whole 177 = .ok (.iadd, 1) := by decide +kernel
theorem dX7_whole_178 : decode cX7_whole 178 = .ok (.putfield 119, 3) := by decide +kernel
theorem dX7_whole_181 : decode cX7_whole 181 = .ok (.aload_n 0, 1) := by decide +kernel
theorem dX7_whole_182 : decode cX7_whole 182 = .ok (.getfield 119, 3) := by decide +kernel
theorem dX7_whole_185 : decode cX7_whole 185 = .ok (.bipush 16, 2) := by decide +kernel
theorem dX7_whole_187 : decode cX7_whole 187 = .ok (.if_icmp .ne 25, 3) := by decide +kernel
theorem dX7_whole_190 : decode cX7_whole 190 = .ok (.aload_n 0, 1) := by decide +kernel
theorem dX7_whole_191 : decode cX7_whole 191 = .ok (.iconst 0, 1) := by decide +kernel
theorem dX7_whole_192 : decode cX7_whole 192 = .ok (.putfield 107, 3) := by decide +kernel
theorem dX7_whole_195 : decode cX7_whole 195 = .ok (.aload_n 0, 1) := by decide +kernel
theorem dX7_whole_196 : decode cX7_whole 196 = .ok (.iconst 0, 1) := by decide +kernel
theorem dX7_whole_197 : decode cX7_whole 197 = .ok (.putfield 110, 3) := by decide +kernel
theorem dX7_whole_200 : decode cX7_whole 200 = .ok (.aload_n 0, 1) := by decide +kernel
theorem dX7_whole_201 : decode cX7_whole 201 = .ok (.iconst 0, 1) := by decide +kernel
theorem dX7_whole_202 : decode cX7_whole 202 = .ok (.putfield 119, 3) := by decide +kernel
theorem dX7_whole_205 : decode cX7_whole 205 = .ok (.aload_n 0, 1) := by decide +kernel
theorem dX7_whole_206 : decode cX7_whole 206 = .ok (.invokevirtual 113, 3) := by decide +kernel
theorem dX7_whole_209 : decode cX7_whole 209 = .ok (.goto 22, 3) := by decide +kernel
theorem dX7_whole_212 : decode cX7_whole 212 = .ok (.aload_n 0, 1) := by decide +kernel
theorem dX7_whole_213 : decode cX7_whole 213 = .ok (.getfield 116, 3) := by decide +kernel
theorem dX7_whole_216 : decode cX7_whole 216 = .ok (.bipush 64, 2) := by decide +kernel
theorem dX7_whole_218 : decode cX7_whole 218 = .ok (.if_icmp .ne 13, 3) := by decide +kernel
theorem dX7_whole_221 : decode cX7_whole 221 = .ok (.aload_n 0, 1) := by decide +kernel
theorem dX7_whole_222 : decode cX7_whole 222 = .ok (.iconst 0, 1) := by decide +kernel
theorem dX7_whole_223 : decode cX7_whole 223 = .ok (.putfield 116, 3) := by decide +kernel
theorem dX7_whole_226 : decode cX7_whole 226 = .ok (.aload_n 0, 1) := by decide +kernel
theorem dX7_whole_227 : decode cX7_whole 227 = .ok (.iconst 0, 1) := by decide +kernel
theorem dX7_whole_228 : decode cX7_whole 228 = .ok (.putfield 119, 3) := by decide +kernel
theorem dX7_whole_231 : decode cX7_whole 231 = .ok (.return_, 1) := by decide +kernel
theorem dX7_receive_0 : decode cX7_receive 0 = .ok (.aload_n 0, 1) := by decide +kernel
theorem dX7_receive_1 : decode cX7_receive 1 = .ok (.iconst 0, 1) := by decide +kernel
theorem dX7_receive_2 : decode cX7_receive 2 = .ok (.putfield 33, 3) := by decide +kernel
theorem dX7_receive_5 : decode cX7_receive 5 = .ok (.iload_n 1, 1) := by decide +kernel
theorem dX7_receive_6 : decode cX7_receive 6 = .ok (.ifCond .ge 6, 3) := by decide +kernel
theorem dX7_receive_9 : decode cX7_receive 9 = .ok (.bipush (-12), 2) := by decide +kernel
theorem dX7_receive_11 : decode cX7_receive 11 = .ok (.ireturn, 1) := by decide +kernel
theorem dX7_receive_12 : decode cX7_receive 12 = .ok (.iload_n 1, 1) := by decide +kernel
theorem dX7_receive_13 : decode cX7_receive 13 = .ok (.aload_n 0, 1) := by decide +kernel
theorem dX7_receive_14 : decode cX7_receive 14 = .ok (.getfield 29, 3) := by decide +kernel
theorem dX7_receive_17 : decode cX7_receive 17 = .ok (.if_icmp .ge 7, 3) := by decide +kernel
theorem dX7_receive_20 : decode cX7_receive 20 = .ok (.iload_n 1, 1) := by decide +kernel
theorem dX7_receive_21 : decode cX7_receive 21 = .ok (.goto 7, 3) := by decide +kernel
theorem dX7_receive_24 : decode cX7_receive 24 = .ok (.aload_n 0, 1) := by decide +kernel
theorem dX7_receive_25 : decode cX7_receive 25 = .ok (.getfield 29, 3) := by decide +kernel
theorem dX7_receive_28 : decode cX7_receive 28 = .ok (.istore_n 2, 1) := by decide +kernel
theorem dX7_receive_29 : decode cX7_receive 29 = .ok (.aload_n 0, 1) := by decide +kernel
theorem dX7_receive_30 : decode cX7_receive 30 = .ok (.getfield 91, 3) := by decide +kernel
theorem dX7_receive_33 : decode cX7_receive 33 = .ok (.istore_n 3, 1) := by decide +kernel
theorem dX7_receive_34 : decode cX7_receive 34 = .ok (.iconst 0, 1) := by decide +kernel
theorem dX7_receive_35 : decode cX7_receive 35 = .ok (.istore 4, 2) := by decide +kernel
theorem dX7_receive_37 : decode cX7_receive 37 = .ok (.iload 4, 2) := by decide +kernel
theorem dX7_receive_39 : decode cX7_receive 39 = .ok (.iload_n 2, 1) := by decide +kernel
theorem dX7_receive_40 : decode cX7_receive 40 = .ok (.if_icmp .ge 63, 3) := by decide +kernel
theorem dX7_receive_43 : decode cX7_receive 43 = .ok (.aload_n 0, 1) := by decide +kernel
theorem dX7_receive_44 : decode cX7_receive 44 = .ok (.getfield 97, 3) := by decide +kernel
theorem dX7_receive_47 : decode cX7_receive 47 = .ok (.ifCond .eq 11, 3) := by decide +kernel
theorem dX7_receive_50 : decode cX7_receive 50 = .ok (.aload_n 0, 1) := by decide +kernel
theorem dX7_receive_51 : decode cX7_receive 51 = .ok (.iconst 0, 1) := by decide +kernel
theorem dX7_receive_52 : decode cX7_receive 52 = .ok (.putfield 97, 3) := by decide +kernel
theorem dX7_receive_55 : decode cX7_receive 55 = .ok (.goto 42, 3) := by decide +kernel
theorem dX7_receive_58 : decode cX7_receive 58 = .ok (.aload_n 0, 1) := by decide +kernel
theorem dX7_receive_59 : decode cX7_receive 59 = .ok (.getfield 23, 3) := by decide +kernel
theorem dX7_receive_62 : decode cX7_receive 62 = .ok (.aload_n 0, 1) := by decide +kernel
theorem dX7_receive_63 : decode cX7_receive 63 = .ok (.getfield 104, 3) := by decide +kernel
theorem dX7_receive_66 : decode cX7_receive 66 = .ok (.aload_n 0, 1) := by decide +kernel
theorem dX7_receive_67 : decode cX7_receive 67 = .ok (.getfield 13, 3) := by decide +kernel
theorem dX7_receive_70 : decode cX7_receive 70 = .ok (.iload 4, 2) := by decide +kernel
theorem dX7_receive_72 : decode cX7_receive 72 = .ok (.baload, 1) := by decide +kernel
theorem dX7_receive_73 : decode cX7_receive 73 = .ok (.iastore, 1) := by decide +kernel
theorem dX7_receive_74 : decode cX7_receive 74 = .ok (.aload_n 0, 1) := by decide +kernel
theorem dX7_receive_75 : decode cX7_receive 75 = .ok (.dup, 1) := by decide +kernel
theorem dX7_receive_76 : decode cX7_receive 76 = .ok (.getfield 104, 3) := by decide +kernel
theorem dX7_receive_79 : decode cX7_receive 79 = .ok (.iconst 1, 1) := by decide +kernel
theorem dX7_receive_80 : decode cX7_receive 80 = .ok (.iadd, 1) := by decide +kernel
theorem dX7_receive_81 : decode cX7_receive 81 = .ok (.putfield 104, 3) := by decide +kernel
theorem dX7_receive_84 : decode cX7_receive 84 = .ok (.aload_n 0, 1) := by decide +kernel
theorem dX7_receive_85 : decode cX7_receive 85 = .ok (.getfield 104, 3) := by decide +kernel
theorem dX7_receive_88 : decode cX7_receive 88 = .ok (.bipush 66, 2) := by decide +kernel
theorem dX7_receive_90 : decode cX7_receive 90 = .ok (.if_icmp .ne 7, 3) := by decide +kernel
theorem dX7_receive_93 : decode cX7_receive 93 = .ok (.aload_n 0, 1) := by decide +kernel
theorem dX7_receive_94 : decode cX7_receive 94 = .ok (.invokevirtual 125, 3) := by decide +kernel
theorem dX7_receive_97 : decode cX7_receive 97 = .ok (.iinc 4 1, 3) := by decide +kernel
theorem dX7_receive_100 : decode cX7_receive 100 = .ok (.goto (-63), 3) := by decide +kernel
theorem dX7_receive_103 : decode cX7_receive 103 = .ok (.aload_n 0, 1) := by decide +kernel
theorem dX7_receive_104 : decode cX7_receive 104 = .ok (.aload_n 0, 1) := by decide +kernel
theorem dX7_receive_105 : decode cX7_receive 105 = .ok (.getfield 29, 3) := by decide +kernel
theorem dX7_receive_108 : decode cX7_receive 108 = .ok (.iload_n 2, 1) := by decide +kernel
theorem dX7_receive_109 : decode cX7_receive 109 = .ok (.isub, 1) := by decide +kernel
theorem dX7_receive_110 : decode cX7_receive 110 = .ok (.putfield 29, 3) := by decide +kernel
theorem dX7_receive_113 : decode cX7_receive 113 = .ok (.iconst 0, 1) := by decide +kernel
theorem dX7_receive_114 : decode cX7_receive 114 = .ok (.istore 4, 2) := by decide +kernel
theorem dX7_receive_116 : decode cX7_receive 116 = .ok (.iload 4, 2) := by decide +kernel
theorem dX7_receive_118 : decode cX7_receive 118 = .ok (.aload_n 0, 1) := by decide +kernel
theorem dX7_receive_119 : decode cX7_receive 119 = .ok (.getfield 29, 3) := by decide +kernel
theorem dX7_receive_122 : decode cX7_receive 122 = .ok (.if_icmp .ge 25, 3) := by decide +kernel
theorem dX7_receive_125 : decode cX7_receive 125 = .ok (.aload_n 0, 1) := by decide +kernel
theorem dX7_receive_126 : decode cX7_receive 126 = .ok (.getfield 13, 3) := by decide +kernel
theorem dX7_receive_129 : decode cX7_receive 129 = .ok (.iload 4, 2) := by decide +kernel
theorem dX7_receive_131 : decode cX7_receive 131 = .ok (.aload_n 0, 1) := by decide +kernel
theorem dX7_receive_132 : decode cX7_receive 132 = .ok (.getfield 13, 3) := by decide +kernel
theorem dX7_receive_135 : decode cX7_receive 135 = .ok (.iload 4, 2) := by decide +kernel
theorem dX7_receive_137 : decode cX7_receive 137 = .ok (.iload_n 2, 1) := by decide +kernel
theorem dX7_receive_138 : decode cX7_receive 138 = .ok (.iadd, 1) := by decide +kernel
theorem dX7_receive_139 : decode cX7_receive 139 = .ok (.baload, 1) := by decide +kernel
theorem dX7_receive_140 : decode cX7_receive 140 = .ok (.bastore, 1) := by decide +kernel
theorem dX7_receive_141 : decode cX7_receive 141 = .ok (.iinc 4 1, 3) := by decide +kernel
theorem dX7_receive_144 : decode cX7_receive 144 = .ok (.goto (-28), 3) := by decide +kernel
theorem dX7_receive_147 : decode cX7_receive 147 = .ok (.aload_n 0, 1) := by decide +kernel
theorem dX7_receive_148 : decode cX7_receive 148 = .ok (.getfield 91, 3) := by decide +kernel
theorem dX7_receive_151 : decode cX7_receive 151 = .ok (.iload_n 3, 1) := by decide +kernel
theorem dX7_receive_152 : decode cX7_receive 152 = .ok (.isub, 1) := by decide +kernel
theorem dX7_receive_153 : decode cX7_receive 153 = .ok (.ireturn, 1) := by decide +kernel
theorem dX7_told_0 : decode cX7_told 0 = .ok (.aload_n 0, 1) := by decide +kernel
theorem dX7_told_1 : decode cX7_told 1 = .ok (.iconst 0, 1) := by decide +kernel
theorem dX7_told_2 : decode cX7_told 2 = .ok (.putfield 33, 3) := by decide +kernel
theorem dX7_told_5 : decode cX7_told 5 = .ok (.iload_n 1, 1) := by decide +kernel
theorem dX7_told_6 : decode cX7_told 6 = .ok (.ifCond .lt 33, 3) := by decide +kernel
theorem dX7_told_9 : decode cX7_told 9 = .ok (.iload_n 1, 1) := by decide +kernel
theorem dX7_told_10 : decode cX7_told 10 = .ok (.aload_n 0, 1) := by decide +kernel
theorem dX7_told_11 : decode cX7_told 11 = .ok (.getfield 91, 3) := by decide +kernel
theorem dX7_told_14 : decode cX7_told 14 = .ok (.if_icmp .ge 25, 3) := by decide +kernel
theorem dX7_told_17 : decode cX7_told 17 = .ok (.iload_n 1, 1) := by decide +kernel
theorem dX7_told_18 : decode cX7_told 18 = .ok (.aload_n 0, 1) := by decide +kernel
theorem dX7_told_19 : decode cX7_told 19 = .ok (.getfield 91, 3) := by decide +kernel
theorem dX7_told_22 : decode cX7_told 22 = .ok (.sipush 300, 3) := by decide +kernel
theorem dX7_told_25 : decode cX7_told 25 = .ok (.isub, 1) := by decide +kernel
theorem dX7_told_26 : decode cX7_told 26 = .ok (.if_icmp .lt 13, 3) := by decide +kernel
theorem dX7_told_29 : decode cX7_told 29 = .ok (.iload_n 2, 1) := by decide +kernel
theorem dX7_told_30 : decode cX7_told 30 = .ok (.ifCond .lt 9, 3) := by decide +kernel
theorem dX7_told_33 : decode cX7_told 33 = .ok (.iload_n 2, 1) := by decide +kernel
theorem dX7_told_34 : decode cX7_told 34 = .ok (.bipush 7, 2) := by decide +kernel
theorem dX7_told_36 : decode cX7_told 36 = .ok (.if_icmp .le 7, 3) := by decide +kernel
theorem dX7_told_39 : decode cX7_told 39 = .ok (.iconst (-1), 1) := by decide +kernel
theorem dX7_told_40 : decode cX7_told 40 = .ok (.goto 18, 3) := by decide +kernel
theorem dX7_told_43 : decode cX7_told 43 = .ok (.aload_n 0, 1) := by decide +kernel
theorem dX7_told_44 : decode cX7_told 44 = .ok (.getfield 26, 3) := by decide +kernel
theorem dX7_told_47 : decode cX7_told 47 = .ok (.bipush 8, 2) := by decide +kernel
theorem dX7_told_49 : decode cX7_told 49 = .ok (.iload_n 1, 1) := by decide +kernel
theorem dX7_told_50 : decode cX7_told 50 = .ok (.sipush 300, 3) := by decide +kernel
theorem dX7_told_53 : decode cX7_told 53 = .ok (.irem, 1) := by decide +kernel
theorem dX7_told_54 : decode cX7_told 54 = .ok (.imul, 1) := by decide +kernel
theorem dX7_told_55 : decode cX7_told 55 = .ok (.iload_n 2, 1) := by decide +kernel
theorem dX7_told_56 : decode cX7_told 56 = .ok (.iadd, 1) := by decide +kernel
theorem dX7_told_57 : decode cX7_told 57 = .ok (.iaload, 1) := by decide +kernel
theorem dX7_told_58 : decode cX7_told 58 = .ok (.ireturn, 1) := by decide +kernel
theorem dX7_receiver_0 : decode cX7_receiver 0 = .ok (.aload_n 0, 1) := by decide +kernel
theorem dX7_receiver_1 : decode cX7_receiver 1 = .ok (.iconst 0, 1) := by decide +kernel
theorem dX7_receiver_2 : decode cX7_receiver 2 = .ok (.putfield 33, 3) := by decide +kernel
theorem dX7_receiver_5 : decode cX7_receiver 5 = .ok (.iload_n 1, 1) := by decide +kernel
theorem dX7_receiver_6 : decode cX7_receiver 6 = .ok (.tableswitch 76 0 5 #[38, 51, 56, 61, 66, 71], 38) := by decide +kernel
theorem dX7_receiver_44 : decode cX7_receiver 44 = .ok (.aload_n 0, 1) := by decide +kernel
theorem dX7_receiver_45 : decode cX7_receiver 45 = .ok (.getfield 107, 3) := by decide +kernel
theorem dX7_receiver_48 : decode cX7_receiver 48 = .ok (.ifCond .eq 7, 3) := by decide +kernel
theorem dX7_receiver_51 : decode cX7_receiver 51 = .ok (.iconst 1, 1) := by decide +kernel
theorem dX7_receiver_52 : decode cX7_receiver 52 = .ok (.goto 4, 3) := by decide +kernel
theorem dX7_receiver_55 : decode cX7_receiver 55 = .ok (.iconst 0, 1) := by decide +kernel
theorem dX7_receiver_56 : decode cX7_receiver 56 = .ok (.ireturn, 1) := by decide +kernel
theorem dX7_receiver_57 : decode cX7_receiver 57 = .ok (.aload_n 0, 1) := by decide +kernel
theorem dX7_receiver_58 : decode cX7_receiver 58 = .ok (.getfield 110, 3) := by decide +kernel
theorem dX7_receiver_61 : decode cX7_receiver 61 = .ok (.ireturn, 1) := by decide +kernel
theorem dX7_receiver_62 : decode cX7_receiver 62 = .ok (.aload_n 0, 1) := by decide +kernel
theorem dX7_receiver_63 : decode cX7_receiver 63 = .ok (.getfield 101, 3) := by decide +kernel
theorem dX7_receiver_66 : decode cX7_receiver 66 = .ok (.ireturn, 1) := by decide +kernel
theorem dX7_receiver_67 : decode cX7_receiver 67 = .ok (.aload_n 0, 1) := by decide +kernel
theorem dX7_receiver_68 : decode cX7_receiver 68 = .ok (.getfield 104, 3) := by decide +kernel
theorem dX7_receiver_71 : decode cX7_receiver 71 = .ok (.ireturn, 1) := by decide +kernel
theorem dX7_receiver_72 : decode cX7_receiver 72 = .ok (.aload_n 0, 1) := by decide +kernel
theorem dX7_receiver_73 : decode cX7_receiver 73 = .ok (.getfield 91, 3) := by decide +kernel
theorem dX7_receiver_76 : decode cX7_receiver 76 = .ok (.ireturn, 1) := by decide +kernel
theorem dX7_receiver_77 : decode cX7_receiver 77 = .ok (.aload_n 0, 1) := by decide +kernel
theorem dX7_receiver_78 : decode cX7_receiver 78 = .ok (.getfield 119, 3) := by decide +kernel
theorem dX7_receiver_81 : decode cX7_receiver 81 = .ok (.ireturn, 1) := by decide +kernel
theorem dX7_receiver_82 : decode cX7_receiver 82 = .ok (.bipush (-12), 2) := by decide +kernel
theorem dX7_receiver_84 : decode cX7_receiver 84 = .ok (.ireturn, 1) := by decide +kernel
end
section
theorem dL_law_0 : decode cL_law 0 = .ok (.new 7, 3) := by decide +kernel
theorem dL_law_3 : decode cL_law 3 = .ok (.dup, 1) := by decide +kernel
theorem dL_law_4 : decode cL_law 4 = .ok (.invokespecial 9, 3) := by decide +kernel
theorem dL_law_7 : decode cL_law 7 = .ok (.astore_n 1, 1) := by decide +kernel
theorem dL_law_8 : decode cL_law 8 = .ok (.new 10, 3) := by decide +kernel
theorem dL_law_11 : decode cL_law 11 = .ok (.dup, 1) := by decide +kernel
theorem dL_law_12 : decode cL_law 12 = .ok (.invokespecial 12, 3) := by decide +kernel
theorem dL_law_15 : decode cL_law 15 = .ok (.astore_n 2, 1) := by decide +kernel
theorem dL_law_16 : decode cL_law 16 = .ok (.iconst 0, 1) := by decide +kernel
theorem dL_law_17 : decode cL_law 17 = .ok (.istore_n 3, 1) := by decide +kernel
theorem dL_law_18 : decode cL_law 18 = .ok (.iload_n 3, 1) := by decide +kernel
theorem dL_law_19 : decode cL_law 19 = .ok (.aload_n 0, 1) := by decide +kernel
theorem dL_law_20 : decode cL_law 20 = .ok (.arraylength, 1) := by decide +kernel
theorem dL_law_21 : decode cL_law 21 = .ok (.iconst 4, 1) := by decide +kernel
theorem dL_law_22 : decode cL_law 22 = .ok (.isub, 1) := by decide +kernel
theorem dL_law_23 : decode cL_law 23 = .ok (.if_icmp .gt 378, 3) := by decide +kernel
theorem dL_law_26 : decode cL_law 26 = .ok (.aload_n 0, 1) := by decide +kernel
theorem dL_law_27 : decode cL_law 27 = .ok (.iload_n 3, 1) := by decide +kernel
theorem dL_law_28 : decode cL_law 28 = .ok (.iaload, 1) := by decide +kernel
theorem dL_law_29 : decode cL_law 29 = .ok (.bipush 15, 2) := by decide +kernel
theorem dL_law_31 : decode cL_law 31 = .ok (.iand, 1) := by decide +kernel
theorem dL_law_32 : decode cL_law 32 = .ok (.tableswitch 363 0 10 #[60, 83, 116, 139, 202, 215, 238, 261, 284, 307, 340], 60) := by decide +kernel
theorem dL_law_92 : decode cL_law 92 = .ok (.aload_n 1, 1) := by decide +kernel
theorem dL_law_93 : decode cL_law 93 = .ok (.aload_n 0, 1) := by decide +kernel
theorem dL_law_94 : decode cL_law 94 = .ok (.iload_n 3, 1) := by decide +kernel
theorem dL_law_95 : decode cL_law 95 = .ok (.iconst 1, 1) := by decide +kernel
theorem dL_law_96 : decode cL_law 96 = .ok (.iadd, 1) := by decide +kernel
theorem dL_law_97 : decode cL_law 97 = .ok (.iaload, 1) := by decide +kernel
theorem dL_law_98 : decode cL_law 98 = .ok (.invokevirtual 13, 3) := by decide +kernel
theorem dL_law_101 : decode cL_law 101 = .ok (.pop, 1) := by decide +kernel
theorem dL_law_102 : decode cL_law 102 = .ok (.aload_n 2, 1) := by decide +kernel
theorem dL_law_103 : decode cL_law 103 = .ok (.aload_n 0, 1) := by decide +kernel
theorem dL_law_104 : decode cL_law 104 = .ok (.iload_n 3, 1) := by decide +kernel
theorem dL_law_105 : decode cL_law 105 = .ok (.iconst 1, 1) := by decide +kernel
theorem dL_law_106 : decode cL_law 106 = .ok (.iadd, 1) := by decide +kernel
theorem dL_law_107 : decode cL_law 107 = .ok (.iaload, 1) := by decide +kernel
theorem dL_law_108 : decode cL_law 108 = .ok (.invokevirtual 17, 3) := by decide +kernel
theorem dL_law_111 : decode cL_law 111 = .ok (.pop, 1) := by decide +kernel
theorem dL_law_112 : decode cL_law 112 = .ok (.goto 283, 3) := by decide +kernel
theorem dL_law_115 : decode cL_law 115 = .ok (.aload_n 1, 1) := by decide +kernel
theorem dL_law_116 : decode cL_law 116 = .ok (.aload_n 0, 1) := by decide +kernel
theorem dL_law_117 : decode cL_law 117 = .ok (.iload_n 3, 1) := by decide +kernel
theorem dL_law_118 : decode cL_law 118 = .ok (.iconst 1, 1) := by decide +kernel
theorem dL_law_119 : decode cL_law 119 = .ok (.iadd, 1) := by decide +kernel
theorem dL_law_120 : decode cL_law 120 = .ok (.iaload, 1) := by decide +kernel
theorem dL_law_121 : decode cL_law 121 = .ok (.aload_n 0, 1) := by decide +kernel
theorem dL_law_122 : decode cL_law 122 = .ok (.iload_n 3, 1) := by decide +kernel
theorem dL_law_123 : decode cL_law 123 = .ok (.iconst 2, 1) := by decide +kernel
theorem dL_law_124 : decode cL_law 124 = .ok (.iadd, 1) := by decide +kernel
theorem dL_law_125 : decode cL_law 125 = .ok (.iaload, 1) := by decide +kernel
theorem dL_law_126 : decode cL_law 126 = .ok (.invokevirtual 18, 3) := by decide +kernel
theorem dL_law_129 : decode cL_law 129 = .ok (.pop, 1) := by decide +kernel
theorem dL_law_130 : decode cL_law 130 = .ok (.aload_n 2, 1) := by decide +kernel
theorem dL_law_131 : decode cL_law 131 = .ok (.aload_n 0, 1) := by decide +kernel
theorem dL_law_132 : decode cL_law 132 = .ok (.iload_n 3, 1) := by decide +kernel
theorem dL_law_133 : decode cL_law 133 = .ok (.iconst 1, 1) := by decide +kernel
theorem dL_law_134 : decode cL_law 134 = .ok (.iadd, 1) := by decide +kernel
theorem dL_law_135 : decode cL_law 135 = .ok (.iaload, 1) := by decide +kernel
theorem dL_law_136 : decode cL_law 136 = .ok (.aload_n 0, 1) := by decide +kernel
theorem dL_law_137 : decode cL_law 137 = .ok (.iload_n 3, 1) := by decide +kernel
theorem dL_law_138 : decode cL_law 138 = .ok (.iconst 2, 1) := by decide +kernel
theorem dL_law_139 : decode cL_law 139 = .ok (.iadd, 1) := by decide +kernel
theorem dL_law_140 : decode cL_law 140 = .ok (.iaload, 1) := by decide +kernel
theorem dL_law_141 : decode cL_law 141 = .ok (.invokevirtual 22, 3) := by decide +kernel
theorem dL_law_144 : decode cL_law 144 = .ok (.pop, 1) := by decide +kernel
theorem dL_law_145 : decode cL_law 145 = .ok (.goto 250, 3) := by decide +kernel
theorem dL_law_148 : decode cL_law 148 = .ok (.aload_n 1, 1) := by decide +kernel
theorem dL_law_149 : decode cL_law 149 = .ok (.aload_n 0, 1) := by decide +kernel
theorem dL_law_150 : decode cL_law 150 = .ok (.iload_n 3, 1) := by decide +kernel
theorem dL_law_151 : decode cL_law 151 = .ok (.iconst 1, 1) := by decide +kernel
theorem dL_law_152 : decode cL_law 152 = .ok (.iadd, 1) := by decide +kernel
theorem dL_law_153 : decode cL_law 153 = .ok (.iaload, 1) := by decide +kernel
theorem dL_law_154 : decode cL_law 154 = .ok (.invokevirtual 23, 3) := by decide +kernel
theorem dL_law_157 : decode cL_law 157 = .ok (.pop, 1) := by decide +kernel
theorem dL_law_158 : decode cL_law 158 = .ok (.aload_n 2, 1) := by decide +kernel
theorem dL_law_159 : decode cL_law 159 = .ok (.aload_n 0, 1) := by decide +kernel
theorem dL_law_160 : decode cL_law 160 = .ok (.iload_n 3, 1) := by decide +kernel
theorem dL_law_161 : decode cL_law 161 = .ok (.iconst 1, 1) := by decide +kernel
theorem dL_law_162 : decode cL_law 162 = .ok (.iadd, 1) := by decide +kernel
theorem dL_law_163 : decode cL_law 163 = .ok (.iaload, 1) := by decide +kernel
theorem dL_law_164 : decode cL_law 164 = .ok (.invokevirtual 26, 3) := by decide +kernel
theorem dL_law_167 : decode cL_law 167 = .ok (.pop, 1) := by decide +kernel
theorem dL_law_168 : decode cL_law 168 = .ok (.goto 227, 3) := by decide +kernel
theorem dL_law_171 : decode cL_law 171 = .ok (.aload_n 1, 1) := by decide +kernel
theorem dL_law_172 : decode cL_law 172 = .ok (.aload_n 0, 1) := by decide +kernel
theorem dL_law_173 : decode cL_law 173 = .ok (.iload_n 3, 1) := by decide +kernel
theorem dL_law_174 : decode cL_law 174 = .ok (.iconst 1, 1) := by decide +kernel
theorem dL_law_175 : decode cL_law 175 = .ok (.iadd, 1) := by decide +kernel
theorem dL_law_176 : decode cL_law 176 = .ok (.iaload, 1) := by decide +kernel
theorem dL_law_177 : decode cL_law 177 = .ok (.aload_n 0, 1) := by decide +kernel
theorem dL_law_178 : decode cL_law 178 = .ok (.iload_n 3, 1) := by decide +kernel
theorem dL_law_179 : decode cL_law 179 = .ok (.iconst 2, 1) := by decide +kernel
theorem dL_law_180 : decode cL_law 180 = .ok (.iadd, 1) := by decide +kernel
theorem dL_law_181 : decode cL_law 181 = .ok (.iaload, 1) := by decide +kernel
theorem dL_law_182 : decode cL_law 182 = .ok (.i2l, 1) := by decide +kernel
theorem dL_law_183 : decode cL_law 183 = .ok (.bipush 32, 2) := by decide +kernel
theorem dL_law_185 : decode cL_law 185 = .ok (.lshl, 1) := by decide +kernel
theorem dL_law_186 : decode cL_law 186 = .ok (.aload_n 0, 1) := by decide +kernel
theorem dL_law_187 : decode cL_law 187 = .ok (.iload_n 3, 1) := by decide +kernel
theorem dL_law_188 : decode cL_law 188 = .ok (.iconst 3, 1) := by decide +kernel
theorem dL_law_189 : decode cL_law 189 = .ok (.iadd, 1) := by decide +kernel
theorem dL_law_190 : decode cL_law 190 = .ok (.iaload, 1) := by decide +kernel
theorem dL_law_191 : decode cL_law 191 = .ok (.i2l, 1) := by decide +kernel
theorem dL_law_192 : decode cL_law 192 = .ok (.ldc2_w 27, 3) := by decide +kernel
theorem dL_law_195 : decode cL_law 195 = .ok (.land, 1) := by decide +kernel
theorem dL_law_196 : decode cL_law 196 = .ok (.lor, 1) := by decide +kernel
theorem dL_law_197 : decode cL_law 197 = .ok (.invokevirtual 29, 3) := by decide +kernel
theorem dL_law_200 : decode cL_law 200 = .ok (.pop2, 1) := by decide +kernel
theorem dL_law_201 : decode cL_law 201 = .ok (.aload_n 2, 1) := by decide +kernel
theorem dL_law_202 : decode cL_law 202 = .ok (.aload_n 0, 1) := by decide +kernel
theorem dL_law_203 : decode cL_law 203 = .ok (.iload_n 3, 1) := by decide +kernel
theorem dL_law_204 : decode cL_law 204 = .ok (.iconst 1, 1) := by decide +kernel
theorem dL_law_205 : decode cL_law 205 = .ok (.iadd, 1) := by decide +kernel
theorem dL_law_206 : decode cL_law 206 = .ok (.iaload, 1) := by decide +kernel
theorem dL_law_207 : decode cL_law 207 = .ok (.aload_n 0, 1) := by decide +kernel
theorem dL_law_208 : decode cL_law 208 = .ok (.iload_n 3, 1) := by decide +kernel
theorem dL_law_209 : decode cL_law 209 = .ok (.iconst 2, 1) := by decide +kernel
theorem dL_law_210 : decode cL_law 210 = .ok (.iadd, 1) := by decide +kernel
theorem dL_law_211 : decode cL_law 211 = .ok (.iaload, 1) := by decide +kernel
theorem dL_law_212 : decode cL_law 212 = .ok (.i2l, 1) := by decide +kernel
theorem dL_law_213 : decode cL_law 213 = .ok (.bipush 32, 2) := by decide +kernel
theorem dL_law_215 : decode cL_law 215 = .ok (.lshl, 1) := by decide +kernel
theorem dL_law_216 : decode cL_law 216 = .ok (.aload_n 0, 1) := by decide +kernel
theorem dL_law_217 : decode cL_law 217 = .ok (.iload_n 3, 1) := by decide +kernel
theorem dL_law_218 : decode cL_law 218 = .ok (.iconst 3, 1) := by decide +kernel
theorem dL_law_219 : decode cL_law 219 = .ok (.iadd, 1) := by decide +kernel
theorem dL_law_220 : decode cL_law 220 = .ok (.iaload, 1) := by decide +kernel
theorem dL_law_221 : decode cL_law 221 = .ok (.i2l, 1) := by decide +kernel
theorem dL_law_222 : decode cL_law 222 = .ok (.ldc2_w 27, 3) := by decide +kernel
theorem dL_law_225 : decode cL_law 225 = .ok (.land, 1) := by decide +kernel
theorem dL_law_226 : decode cL_law 226 = .ok (.lor, 1) := by decide +kernel
theorem dL_law_227 : decode cL_law 227 = .ok (.invokevirtual 33, 3) := by decide +kernel
theorem dL_law_230 : decode cL_law 230 = .ok (.pop2, 1) := by decide +kernel
theorem dL_law_231 : decode cL_law 231 = .ok (.goto 164, 3) := by decide +kernel
theorem dL_law_234 : decode cL_law 234 = .ok (.aload_n 1, 1) := by decide +kernel
theorem dL_law_235 : decode cL_law 235 = .ok (.invokevirtual 34, 3) := by decide +kernel
theorem dL_law_238 : decode cL_law 238 = .ok (.pop, 1) := by decide +kernel
theorem dL_law_239 : decode cL_law 239 = .ok (.aload_n 2, 1) := by decide +kernel
theorem dL_law_240 : decode cL_law 240 = .ok (.invokevirtual 38, 3) := by decide +kernel
theorem dL_law_243 : decode cL_law 243 = .ok (.pop, 1) := by decide +kernel
theorem dL_law_244 : decode cL_law 244 = .ok (.goto 151, 3) := by decide +kernel
theorem dL_law_247 : decode cL_law 247 = .ok (.aload_n 1, 1) := by decide +kernel
theorem dL_law_248 : decode cL_law 248 = .ok (.aload_n 0, 1) := by decide +kernel
theorem dL_law_249 : decode cL_law 249 = .ok (.iload_n 3, 1) := by decide +kernel
theorem dL_law_250 : decode cL_law 250 = .ok (.iconst 1, 1) := by decide +kernel
theorem dL_law_251 : decode cL_law 251 = .ok (.iadd, 1) := by decide +kernel
theorem dL_law_252 : decode cL_law 252 = .ok (.iaload, 1) := by decide +kernel
theorem dL_law_253 : decode cL_law 253 = .ok (.invokevirtual 39, 3) := by decide +kernel
theorem dL_law_256 : decode cL_law 256 = .ok (.aload_n 2, 1) := by decide +kernel
theorem dL_law_257 : decode cL_law 257 = .ok (.aload_n 0, 1) := by decide +kernel
theorem dL_law_258 : decode cL_law 258 = .ok (.iload_n 3, 1) := by decide +kernel
theorem dL_law_259 : decode cL_law 259 = .ok (.iconst 1, 1) := by decide +kernel
theorem dL_law_260 : decode cL_law 260 = .ok (.iadd, 1) := by decide +kernel
theorem dL_law_261 : decode cL_law 261 = .ok (.iaload, 1) := by decide +kernel
theorem dL_law_262 : decode cL_law 262 = .ok (.invokevirtual 42, 3) := by decide +kernel
theorem dL_law_265 : decode cL_law 265 = .ok (.if_icmp .eq 130, 3) := by decide +kernel
theorem dL_law_268 : decode cL_law 268 = .ok (.iconst 0, 1) := by decide +kernel
theorem dL_law_269 : decode cL_law 269 = .ok (.ireturn, 1) := by decide +kernel
theorem dL_law_270 : decode cL_law 270 = .ok (.aload_n 1, 1) := by decide +kernel
theorem dL_law_271 : decode cL_law 271 = .ok (.aload_n 0, 1) := by decide +kernel
theorem dL_law_272 : decode cL_law 272 = .ok (.iload_n 3, 1) := by decide +kernel
theorem dL_law_273 : decode cL_law 273 = .ok (.iconst 1, 1) := by decide +kernel
theorem dL_law_274 : decode cL_law 274 = .ok (.iadd, 1) := by decide +kernel
theorem dL_law_275 : decode cL_law 275 = .ok (.iaload, 1) := by decide +kernel
theorem dL_law_276 : decode cL_law 276 = .ok (.invokevirtual 43, 3) := by decide +kernel
theorem dL_law_279 : decode cL_law 279 = .ok (.pop, 1) := by decide +kernel
theorem dL_law_280 : decode cL_law 280 = .ok (.aload_n 2, 1) := by decide +kernel
theorem dL_law_281 : decode cL_law 281 = .ok (.aload_n 0, 1) := by decide +kernel
theorem dL_law_282 : decode cL_law 282 = .ok (.iload_n 3, 1) := by decide +kernel
theorem dL_law_283 : decode cL_law 283 = .ok (.iconst 1, 1) := by decide +kernel
theorem dL_law_284 : decode cL_law 284 = .ok (.iadd, 1) := by decide +kernel
theorem dL_law_285 : decode cL_law 285 = .ok (.iaload, 1) := by decide +kernel
theorem dL_law_286 : decode cL_law 286 = .ok (.invokevirtual 46, 3) := by decide +kernel
theorem dL_law_289 : decode cL_law 289 = .ok (.pop, 1) := by decide +kernel
theorem dL_law_290 : decode cL_law 290 = .ok (.goto 105, 3) := by decide +kernel
theorem dL_law_293 : decode cL_law 293 = .ok (.aload_n 1, 1) := by decide +kernel
theorem dL_law_294 : decode cL_law 294 = .ok (.aload_n 0, 1) := by decide +kernel
theorem dL_law_295 : decode cL_law 295 = .ok (.iload_n 3, 1) := by decide +kernel
theorem dL_law_296 : decode cL_law 296 = .ok (.iconst 1, 1) := by decide +kernel
theorem dL_law_297 : decode cL_law 297 = .ok (.iadd, 1) := by decide +kernel
theorem dL_law_298 : decode cL_law 298 = .ok (.iaload, 1) := by decide +kernel
theorem dL_law_299 : decode cL_law 299 = .ok (.invokevirtual 47, 3) := by decide +kernel
theorem dL_law_302 : decode cL_law 302 = .ok (.pop, 1) := by decide +kernel
theorem dL_law_303 : decode cL_law 303 = .ok (.aload_n 2, 1) := by decide +kernel
theorem dL_law_304 : decode cL_law 304 = .ok (.aload_n 0, 1) := by decide +kernel
theorem dL_law_305 : decode cL_law 305 = .ok (.iload_n 3, 1) := by decide +kernel
theorem dL_law_306 : decode cL_law 306 = .ok (.iconst 1, 1) := by decide +kernel
theorem dL_law_307 : decode cL_law 307 = .ok (.iadd, 1) := by decide +kernel
theorem dL_law_308 : decode cL_law 308 = .ok (.iaload, 1) := by decide +kernel
theorem dL_law_309 : decode cL_law 309 = .ok (.invokevirtual 50, 3) := by decide +kernel
theorem dL_law_312 : decode cL_law 312 = .ok (.pop, 1) := by decide +kernel
theorem dL_law_313 : decode cL_law 313 = .ok (.goto 82, 3) := by decide +kernel
theorem dL_law_316 : decode cL_law 316 = .ok (.aload_n 1, 1) := by decide +kernel
theorem dL_law_317 : decode cL_law 317 = .ok (.aload_n 0, 1) := by decide +kernel
theorem dL_law_318 : decode cL_law 318 = .ok (.iload_n 3, 1) := by decide +kernel
theorem dL_law_319 : decode cL_law 319 = .ok (.iconst 1, 1) := by decide +kernel
theorem dL_law_320 : decode cL_law 320 = .ok (.iadd, 1) := by decide +kernel
theorem dL_law_321 : decode cL_law 321 = .ok (.iaload, 1) := by decide +kernel
theorem dL_law_322 : decode cL_law 322 = .ok (.invokevirtual 51, 3) := by decide +kernel
theorem dL_law_325 : decode cL_law 325 = .ok (.pop, 1) := by decide +kernel
theorem dL_law_326 : decode cL_law 326 = .ok (.aload_n 2, 1) := by decide +kernel
theorem dL_law_327 : decode cL_law 327 = .ok (.aload_n 0, 1) := by decide +kernel
theorem dL_law_328 : decode cL_law 328 = .ok (.iload_n 3, 1) := by decide +kernel
theorem dL_law_329 : decode cL_law 329 = .ok (.iconst 1, 1) := by decide +kernel
theorem dL_law_330 : decode cL_law 330 = .ok (.iadd, 1) := by decide +kernel
theorem dL_law_331 : decode cL_law 331 = .ok (.iaload, 1) := by decide +kernel
theorem dL_law_332 : decode cL_law 332 = .ok (.invokevirtual 54, 3) := by decide +kernel
theorem dL_law_335 : decode cL_law 335 = .ok (.pop, 1) := by decide +kernel
theorem dL_law_336 : decode cL_law 336 = .ok (.goto 59, 3) := by decide +kernel
theorem dL_law_339 : decode cL_law 339 = .ok (.aload_n 1, 1) := by decide +kernel
theorem dL_law_340 : decode cL_law 340 = .ok (.aload_n 0, 1) := by decide +kernel
theorem dL_law_341 : decode cL_law 341 = .ok (.iload_n 3, 1) := by decide +kernel
theorem dL_law_342 : decode cL_law 342 = .ok (.iconst 1, 1) := by decide +kernel
theorem dL_law_343 : decode cL_law 343 = .ok (.iadd, 1) := by decide +kernel
theorem dL_law_344 : decode cL_law 344 = .ok (.iaload, 1) := by decide +kernel
theorem dL_law_345 : decode cL_law 345 = .ok (.aload_n 0, 1) := by decide +kernel
theorem dL_law_346 : decode cL_law 346 = .ok (.iload_n 3, 1) := by decide +kernel
theorem dL_law_347 : decode cL_law 347 = .ok (.iconst 2, 1) := by decide +kernel
theorem dL_law_348 : decode cL_law 348 = .ok (.iadd, 1) := by decide +kernel
theorem dL_law_349 : decode cL_law 349 = .ok (.iaload, 1) := by decide +kernel
theorem dL_law_350 : decode cL_law 350 = .ok (.invokevirtual 55, 3) := by decide +kernel
theorem dL_law_353 : decode cL_law 353 = .ok (.pop, 1) := by decide +kernel
theorem dL_law_354 : decode cL_law 354 = .ok (.aload_n 2, 1) := by decide +kernel
theorem dL_law_355 : decode cL_law 355 = .ok (.aload_n 0, 1) := by decide +kernel
theorem dL_law_356 : decode cL_law 356 = .ok (.iload_n 3, 1) := by decide +kernel
theorem dL_law_357 : decode cL_law 357 = .ok (.iconst 1, 1) := by decide +kernel
theorem dL_law_358 : decode cL_law 358 = .ok (.iadd, 1) := by decide +kernel
theorem dL_law_359 : decode cL_law 359 = .ok (.iaload, 1) := by decide +kernel
theorem dL_law_360 : decode cL_law 360 = .ok (.aload_n 0, 1) := by decide +kernel
theorem dL_law_361 : decode cL_law 361 = .ok (.iload_n 3, 1) := by decide +kernel
theorem dL_law_362 : decode cL_law 362 = .ok (.iconst 2, 1) := by decide +kernel
theorem dL_law_363 : decode cL_law 363 = .ok (.iadd, 1) := by decide +kernel
theorem dL_law_364 : decode cL_law 364 = .ok (.iaload, 1) := by decide +kernel
theorem dL_law_365 : decode cL_law 365 = .ok (.invokevirtual 58, 3) := by decide +kernel
theorem dL_law_368 : decode cL_law 368 = .ok (.pop, 1) := by decide +kernel
theorem dL_law_369 : decode cL_law 369 = .ok (.goto 26, 3) := by decide +kernel
theorem dL_law_372 : decode cL_law 372 = .ok (.aload_n 1, 1) := by decide +kernel
theorem dL_law_373 : decode cL_law 373 = .ok (.aload_n 0, 1) := by decide +kernel
theorem dL_law_374 : decode cL_law 374 = .ok (.iload_n 3, 1) := by decide +kernel
theorem dL_law_375 : decode cL_law 375 = .ok (.iconst 1, 1) := by decide +kernel
theorem dL_law_376 : decode cL_law 376 = .ok (.iadd, 1) := by decide +kernel
theorem dL_law_377 : decode cL_law 377 = .ok (.iaload, 1) := by decide +kernel
theorem dL_law_378 : decode cL_law 378 = .ok (.invokevirtual 59, 3) := by decide +kernel
theorem dL_law_381 : decode cL_law 381 = .ok (.pop, 1) := by decide +kernel
theorem dL_law_382 : decode cL_law 382 = .ok (.aload_n 2, 1) := by decide +kernel
theorem dL_law_383 : decode cL_law 383 = .ok (.aload_n 0, 1) := by decide +kernel
theorem dL_law_384 : decode cL_law 384 = .ok (.iload_n 3, 1) := by decide +kernel
theorem dL_law_385 : decode cL_law 385 = .ok (.iconst 1, 1) := by decide +kernel
theorem dL_law_386 : decode cL_law 386 = .ok (.iadd, 1) := by decide +kernel
theorem dL_law_387 : decode cL_law 387 = .ok (.iaload, 1) := by decide +kernel
theorem dL_law_388 : decode cL_law 388 = .ok (.invokevirtual 62, 3) := by decide +kernel
theorem dL_law_391 : decode cL_law 391 = .ok (.pop, 1) := by decide +kernel
theorem dL_law_392 : decode cL_law 392 = .ok (.goto 3, 3) := by decide +kernel
theorem dL_law_395 : decode cL_law 395 = .ok (.iinc 3 4, 3) := by decide +kernel
theorem dL_law_398 : decode cL_law 398 = .ok (.goto (-380), 3) := by decide +kernel
theorem dL_law_401 : decode cL_law 401 = .ok (.iconst 1, 1) := by decide +kernel
theorem dL_law_402 : decode cL_law 402 = .ok (.ireturn, 1) := by decide +kernel
end
section
/-! numbers: what an instruction's answer is as an integer -/
theorem zi_lt {x y : Int32} (h : x < y) : x.toInt < y.toInt := Int32.lt_iff_toInt_lt.mp h
theorem zi_nlt {x y : Int32} (h : ¬ x < y) : y.toInt ≤ x.toInt := Int.not_lt.mp (fun q => h (Int32.lt_iff_toInt_lt.mpr q))
theorem zi_le {x y : Int32} (h : x ≤ y) : x.toInt ≤ y.toInt := Int32.le_iff_toInt_le.mp h
theorem zi_nle {x y : Int32} (h : ¬ x ≤ y) : y.toInt < x.toInt := Int.not_le.mp (fun q => h (Int32.le_iff_toInt_le.mpr q))
theorem zi_eq {x y : Int32} (h : x = y) : x.toInt = y.toInt := congrArg Int32.toInt h
theorem zi_ne {x y : Int32} (h : ¬ x = y) : ¬ x.toInt = y.toInt := fun q => h (Int32.toInt_inj.mp q)
theorem zi_0 : (0 : Int32).toInt = 0 := by decide
theorem zi_lt0 {x : Int32} (h : x < 0) : x.toInt < 0 := zi_0 ▸ zi_lt h
theorem zi_nlt0 {x : Int32} (h : ¬ x < 0) : 0 ≤ x.toInt := zi_0 ▸ zi_nlt h
theorem zi_ge0 {x : Int32} (h : 0 ≤ x) : 0 ≤ x.toInt := zi_0 ▸ zi_le h
theorem zi_nge0 {x : Int32} (h : ¬ 0 ≤ x) : x.toInt < 0 := zi_0 ▸ zi_nle h
theorem zi_gt0 {x : Int32} (h : 0 < x) : 0 < x.toInt := zi_0 ▸ zi_lt h
theorem zi_ngt0 {x : Int32} (h : ¬ 0 < x) : x.toInt ≤ 0 := zi_0 ▸ zi_nlt h
theorem zi_le0 {x : Int32} (h : x ≤ 0) : x.toInt ≤ 0 := zi_0 ▸ zi_le h
theorem zi_nle0 {x : Int32} (h : ¬ x ≤ 0) : 0 < x.toInt := zi_0 ▸ zi_nle h
theorem zi_eq0 {x : Int32} (h : x = 0) : x.toInt = 0 := zi_0 ▸ zi_eq h
theorem zi_ne0 {x : Int32} (h : ¬ x = 0) : ¬ x.toInt = 0 := zi_0 ▸ zi_ne h
theorem zi_c {v k : Int32} {z : Int} (e : v = k) (h : k.toInt = z) : v.toInt = z := by rw [e]; exact h
theorem zi_rg (x : Int32) : -2147483648 ≤ x.toInt ∧ x.toInt ≤ 2147483647 := by
  have h1 := Int32.le_toInt x
  have h2 := Int32.toInt_lt x
  omega
theorem zi_add {v x y : Int32} (e : v = x + y) (h : -2147483648 ≤ x.toInt + y.toInt ∧ x.toInt + y.toInt ≤ 2147483647) : v.toInt = x.toInt + y.toInt := by
  rw [e, Int32.toInt_add]
  exact Int.bmod_eq_of_le (by omega) (by omega)
theorem zi_sub {v x y : Int32} (e : v = x - y) (h : -2147483648 ≤ x.toInt - y.toInt ∧ x.toInt - y.toInt ≤ 2147483647) : v.toInt = x.toInt - y.toInt := by
  rw [e, Int32.toInt_sub]
  exact Int.bmod_eq_of_le (by omega) (by omega)
theorem zi_mul {v x y : Int32} {k : Int} (e : v = x * y) (hk : y.toInt = k) (h : -2147483648 ≤ x.toInt * k ∧ x.toInt * k ≤ 2147483647) : v.toInt = x.toInt * k := by
  rw [e, Int32.toInt_mul, hk]
  exact Int.bmod_eq_of_le (by omega) (by omega)
theorem zi_mulL {v x y : Int32} {k : Int} (e : v = x * y) (hk : x.toInt = k) (h : -2147483648 ≤ k * y.toInt ∧ k * y.toInt ≤ 2147483647) : v.toInt = k * y.toInt := by
  rw [e, Int32.toInt_mul, hk]
  exact Int.bmod_eq_of_le (by omega) (by omega)
theorem zi_div {v x y : Int32} {k : Int} (e : v = x / y) (hk : y.toInt = k) (h : 0 ≤ x.toInt ∧ 0 < k) : v.toInt = x.toInt / k := by
  rw [e, lg_idiv_nonneg h.1 (by rw [hk]; exact h.2), hk]
theorem zi_rem {v x y : Int32} {k : Int} (e : v = x - x / y * y) (hk : y.toInt = k) (h : 0 ≤ x.toInt ∧ 0 < k) : v.toInt = x.toInt % k := by
  have h1 : (x / y).toInt = x.toInt / k := zi_div rfl hk h
  have hx := zi_rg x
  have hp := Int.mul_ediv_add_emod x.toInt k
  have hm := Int.emod_nonneg x.toInt (b := k) (by omega)
  have hq : 0 ≤ x.toInt / k := Int.ediv_nonneg h.1 (by omega)
  have hq2 : 0 ≤ k * (x.toInt / k) := Int.mul_nonneg (by omega) hq
  have h2 : (x / y * y).toInt = k * (x.toInt / k) := by
    rw [Int32.toInt_mul, h1, hk, Int.mul_comm]
    exact Int.bmod_eq_of_le (by omega) (by omega)
  rw [e, Int32.toInt_sub, h2]
  rw [Int.bmod_eq_of_le (by omega) (by omega)]
  omega
theorem zi_and {v x y m : Int32} (e : v = x &&& y) (ey : y = m) (k : Nat) {z : Int} (hm : m.toBitVec.toNat = 2 ^ k - 1) (hk : k ≤ 30) (hz : ((2 ^ k : Nat) : Int) = z) : 0 ≤ v.toInt ∧ v.toInt < z := by
  obtain ⟨j, hj, e2⟩ := pk_andE x k (m := m) hm
  have hp : 2 ^ k ≤ 2 ^ 30 := Nat.pow_le_pow_right (by decide) hk
  rw [e, ey, e2, nI_toInt (Nat.lt_of_lt_of_le hj (Nat.le_trans hp (by decide)))]
  rw [← hz]
  omega
theorem zi_in {x : Int32} {n : Nat} (h : 0 ≤ x.toInt ∧ x.toInt < n) : vp_in x n := vp_in_iff.mpr h
theorem zi_ne0' {x : Int32} {z : Int} (h : x.toInt = z) (hz : z ≠ 0) : ¬ x = 0 := fun e => hz (by rw [← h, e]; decide)
theorem zi_inc {v x : Int32} (k : Int32) {z : Int} (hk : k.toInt = z) (e : v = x + k) (h : -2147483648 ≤ x.toInt + z ∧ x.toInt + z ≤ 2147483647) : v.toInt = x.toInt + z := by
  rw [← hk] at h ⊢
  exact zi_add e h
theorem zi_min {v x y : Int32} (e : v = if y < x then y else x) : (v.toInt = x.toInt ∨ v.toInt = y.toInt) ∧ v.toInt ≤ x.toInt ∧ v.toInt ≤ y.toInt := by
  by_cases h : y < x
  · rw [if_pos h] at e
    have := zi_lt h
    subst e
    omega
  · rw [if_neg h] at e
    have := zi_nlt h
    subst e
    omega
theorem zb_01 {x : Int32} (h : 0 ≤ x.toInt ∧ x.toInt ≤ 1) : x = 0 ∨ x = 1 := by
  rcases (show x.toInt = 0 ∨ x.toInt = 1 by omega) with q | q
  · exact Or.inl (Int32.toInt_inj.mp (q.trans (by decide)))
  · exact Or.inr (Int32.toInt_inj.mp (q.trans (by decide)))
theorem zb_n {x : Int32} (h : 0 ≤ x.toInt ∧ x.toInt ≤ 1) : narrow .boolean (.int x) = .int x := by
  rcases zb_01 h with rfl | rfl <;> rfl
theorem zb_f {x : Int32} (h : 0 ≤ x.toInt ∧ x.toInt ≤ 1) : fits .boolean (.int x) = true := by
  rcases zb_01 h with rfl | rfl <;> rfl
theorem zi_xor {v x y : Int32} (e : v = x ^^^ y) (h : 0 ≤ x.toInt ∧ 0 ≤ y.toInt) : 0 ≤ v.toInt := by
  obtain ⟨i, hi, rfl⟩ := nI_of (x := x) (by rw [Int32.lt_iff_toInt_lt, zi_0]; omega)
  obtain ⟨j, hj, rfl⟩ := nI_of (x := y) (by rw [Int32.lt_iff_toInt_lt, zi_0]; omega)
  have e2 : nI i ^^^ nI j = nI (i ^^^ j) := by
    apply Int32.toBitVec_inj.mp
    apply BitVec.eq_of_toNat_eq
    show ((BitVec.ofNat 32 i) ^^^ (BitVec.ofNat 32 j)).toNat = (BitVec.ofNat 32 (i ^^^ j)).toNat
    rw [BitVec.toNat_xor, BitVec.toNat_ofNat, BitVec.toNat_ofNat, BitVec.toNat_ofNat, Nat.mod_eq_of_lt (by omega), Nat.mod_eq_of_lt (by omega), Nat.mod_eq_of_lt (Nat.lt_trans (Nat.xor_lt_two_pow hi hj) (by decide))]
  rw [e, e2, nI_toInt (Nat.xor_lt_two_pow hi hj)]
  omega
theorem zi_pne {y : Int32} (h : 0 < y.toInt) : ¬ y = 0 := fun e => by rw [e, zi_0] at h; omega
theorem zi_remv {v x y : Int32} (e : v = x - x / y * y) (h : 0 ≤ x.toInt) (hy : 0 < y.toInt) : (0 ≤ v.toInt ∧ v.toInt < y.toInt) ∧ v.toInt = x.toInt % y.toInt := by
  have h1 := zi_rem e (k := y.toInt) rfl ⟨h, hy⟩
  rw [h1]
  exact ⟨⟨Int.emod_nonneg _ (by omega), Int.emod_lt_of_pos _ hy⟩, rfl⟩
end
section
/-! contracts of one shape, their calls, their ends: short names over the kit's rows -/
theorem ty3_eq {D : va_G} {cl : List vw_C} {tys : List (ClassId × FieldType)} {s : State} {cA cN : ClassId} (t0 k : Nat) {ty : FieldType} (h : va_K D cl tys s) (h0 : tys[t0]? = some (cA, ty)) (h1 : tys[k]? = some (cN, ty)) (hty : va_RA s cA ty = (s.vm.findClass ("[" ++ ty.toString) = some cA)) (hty2 : va_RA s cN ty = (s.vm.findClass ("[" ++ ty.toString) = some cN)) : cN = cA := by
  have a := (h.2 t0 _ h0).2
  have b := (h.2 k _ h1).2
  rw [hty] at a
  rw [hty2] at b
  exact Option.some.inj (b.symm.trans a)
section HP1
def lw_good : List Cond := lw_tbl.filter goodWord
theorem gd_of {w : Cond} (h : w ∈ lw_tbl) (h2 : goodWord w = true) : w ∈ lw_good := List.mem_filter.mpr ⟨h, h2⟩
def st_k : Nat → Int32 := fun j => ([135, 153, 170, 180, 204, 210, 225, 255] : List Int32).getD j 0
def st_T (A : Nat → Prop) (U : State) (H : Heap) : Prop := ∃ t : Nat, va_Z "LineBlocks$Codec" "END_TYPES" "[I" (.ref t) A U H ∧ va_T .int t 8 (fun j => .int (st_k j)) A U H
theorem st_T.use {A B : Nat → Prop} {u U : State} {H H1 : Heap} (h : st_T A u H) (hvm : u.vm.Alike U.vm) (hq : ∀ a : Nat, a < H.size → ¬ A a → H1[a]? = H[a]?) (hAB : ∀ q, B q → A q) : st_T B U H1 := by
  obtain ⟨t, h1, h2⟩ := h
  exact ⟨t, va_Z.moved hvm ((h1.kept hq).narrow hAB), va_T.moved hvm ((h2.kept hq).narrow hAB)⟩
def nw_T (U : State) : Prop := ∀ q ∈ nw_l, va_Nw (.methodLinkNest q.1 q.2.1 q.2.2 "LineBlocks") U
theorem nw_T.warm {s U : State} (h : nw_T s) (hW : s.WarmedH U.vm) : nw_T U := fun q hq => va_Nw.warmM hW (h q hq)
theorem nw_T.same {s U : State} (h : nw_T s) (hW : s.vm = U.vm) : nw_T U := fun q hq => va_Nw.same rfl hW (h q hq)
def rmL (d lo cells slots : Nat) : Room := { frames := d, cells := cells, slots := slots, locals := lo }
abbrev classes : List vw_C := vwCl
def tys3 (cI cJ cB : ClassId) : List (ClassId × FieldType) := [(cI, .int), (cJ, .long), (cB, .byte)]
abbrev tyL : Type := List (ClassId × FieldType)
def ctP (D : va_G) (cl : List vw_C) (tys : tyL) (av : List Value) (w0 : va_W) (sz : Nat) : Array Value → State → Prop :=
  va_Pc av (fun U => U.heap.size = sz ∧ va_P D cl w0 U.heap ∧ va_K D cl tys U ∧ va_D (fun _ => True) w0 ∧ st_T (va_A w0 sz) U U.heap ∧ nw_T U)
def ctB {S : Type} (D : va_G) (cl : List vw_C) (tys : tyL) (w0 : va_W) (sz : Nat) (w1 : S → va_W) : S → State → Prop :=
  fun u t => va_P D cl (w1 u) t.heap ∧ va_K D cl tys t ∧ va_D (va_A w0 sz) (w1 u)
def cti (l : Launch) (y : MethodName) (ws : List Cond) (rm : Room) (D : va_G) (cl : List vw_C) (tys : tyL) (av : List Value) (w0 : va_W) {S : Type} (post : Int32 → S → Prop) (w1 : S → va_W) : Prop :=
  ∀ sz : Nat, Met l y ws rm (ctP D cl tys av w0 sz) (va_Qi post (ctB D cl tys w0 sz w1) (va_A w0 sz)) 0 0 (va_A w0 sz)
def ctl (l : Launch) (y : MethodName) (ws : List Cond) (rm : Room) (D : va_G) (cl : List vw_C) (tys : tyL) (av : List Value) (w0 : va_W) {S : Type} (post : Int64 → S → Prop) (w1 : S → va_W) : Prop :=
  ∀ sz : Nat, Met l y ws rm (ctP D cl tys av w0 sz) (va_Ql post (ctB D cl tys w0 sz w1) (va_A w0 sz)) 0 0 (va_A w0 sz)
def ctv (l : Launch) (y : MethodName) (ws : List Cond) (rm : Room) (D : va_G) (cl : List vw_C) (tys : tyL) (av : List Value) (w0 : va_W) {S : Type} (post : S → Prop) (w1 : S → va_W) (mc ms : Nat) : Prop :=
  ∀ sz : Nat, Met l y ws rm (ctP D cl tys av w0 sz) (va_Qv post (ctB D cl tys w0 sz w1) (va_A w0 sz)) mc ms (va_A w0 sz)
/-- the words of a method: its own code, and the tables -/
abbrev wsOf (y : MethodName) (cc : ByteArray) (n : Nat) (r : Option FieldType) : List Cond := .code y cc n r :: lw_good
/-- at a method's entry -/
def ctAt (p : Program) (s : State) (m : MethodId) (meth : Method) (c : Code) (args : Array Value) (y : MethodName) (cc : ByteArray) (maxL : Nat) (D : va_G) (cl : List vw_C) (tys : tyL) (av : List Value) (w0 : va_W) (A : Nat → Prop) (ls : Array Slot) : Prop :=
  p.tables.exec = Jvm.exec ∧ c.code = cc ∧ c.maxLocals = maxL ∧ s.vm.findClass y.cls = some m.cls ∧ (∀ w ∈ lw_good, w.before args s = true) ∧ meth.name = y.name ∧
  va_P D cl w0 s.heap ∧ va_K D cl tys s ∧ va_D A w0 ∧ (∀ q : Nat, s.heap.size ≤ q → A q) ∧ va_S A s.heap s.heap [] ∧ st_T A s s.heap ∧ nw_T s ∧ lv_has ls maxL (lv_args 0 av)
theorem ctAt.of {l : Launch} {y : MethodName} {rm : Room} {D : va_G} {cl : List vw_C} {tys : tyL} {av : List Value} {w0 : va_W} {cc : ByteArray} {maxL : Nat} {ret : Option FieldType} (hlen : (lg_sl av).length ≤ maxL) {p : Program} {e : Env} {s : State} {m : MethodId} {args : Array Value} {below : List Frame} {meth : Method} {c : Code} {s₁ : State} {sz : Nat}
    (B : BodyLoose p l y (headSpec (wsOf y cc maxL ret) rm) cc maxL ret e s m args below meth c s₁) (hml : c.maxLocals = maxL) (hv : ctP D cl tys av w0 sz args s) :
    args = av.toArray ∧ s.heap.size = sz ∧ meth.sig.returnType = ret ∧ meth.locks = false ∧ ctAt p s m meth c args y cc maxL D cl tys av w0 (va_A w0 sz) ((lg_sl av ++ List.replicate (maxL - (lg_sl av).length) Slot.unset).toArray) := by
  obtain ⟨rfl, hsz, hP, hK, hD, hZ, hN⟩ := hv
  have hts := atoms_spec (ws := wsOf y cc maxL ret) B.pre
  subst hsz
  exact ⟨rfl, rfl, B.returns, B.notSynchronized, B.exec, B.bytes, hml, findClass_of_methodNamed B.named, fun w h => hts w (List.mem_cons_of_mem _ h), (name_of_methodNamed B.named B.method).1, hP, hK, hD.self, fun q h => Or.inr h, va_S.rf, hZ, hN, lv_entry av hlen⟩
theorem cti.of {l : Launch} {y : MethodName} {rm : Room} {D : va_G} {cl : List vw_C} {tys : tyL} {av : List Value} {w0 : va_W} {S : Type} {post : Int32 → S → Prop} {w1 : S → va_W} {cc : ByteArray} {maxL : Nat} (hy : plainFor y = true) (hlen : (lg_sl av).length ≤ maxL)
    (body : ∀ p e s m args below meth c (A : Nat → Prop) ls (Q : State → Prop), ctAt p s m meth c args y cc maxL D cl tys av w0 A ls →
      (∀ (v : Int32) (u : S) (H : Heap) (locs : List Loc) (pc : Nat) (ls : Array Slot), decode cc pc = .ok (.ireturn, 1) → post v u → va_P D cl (w1 u) H → va_D A (w1 u) → va_S A s.heap H locs → W p l e rm s m args below meth c H locs 0 0 Q (F0 m pc ls [.int v])) →
      W p l e rm s m args below meth c s.heap [] 0 0 Q (F0 m 0 ls [])) :
    cti l y (wsOf y cc maxL (some .int)) rm D cl tys av w0 post w1 := by
  intro sz
  refine va_MetF (cc := cc) (maxL := maxL) (ret := some .int) hy rfl ?_
  intro p e s m args below meth c s₁ B hml hv
  obtain ⟨rfl, rfl, hr, hlk, h⟩ := ctAt.of hlen B hml hv
  rw [lg_entry_eq]
  refine body p e s m _ below meth c _ _ _ h ?_
  intro v u H locs pc ls hdg hq hP hD hS
  exact W.iret (v := v) B.exec B.bytes hr (fun t ht hW => ⟨⟨v, u, rfl, hq, by rw [ht]; exact hP, va_K.moved hW.alike h.2.2.2.2.2.2.2.1, hD⟩, hS.F ht⟩) hS.2.2 hdg hlk
theorem ctz.of {l : Launch} {y : MethodName} {rm : Room} {D : va_G} {cl : List vw_C} {tys : tyL} {av : List Value} {w0 : va_W} {S : Type} {post : Int32 → S → Prop} {w1 : S → va_W} {cc : ByteArray} {maxL : Nat} (hy : plainFor y = true) (hlen : (lg_sl av).length ≤ maxL)
    (body : ∀ p e s m args below meth c (A : Nat → Prop) ls (Q : State → Prop), ctAt p s m meth c args y cc maxL D cl tys av w0 A ls →
      (∀ (v : Int32) (u : S) (H : Heap) (locs : List Loc) (pc : Nat) (ls : Array Slot), decode cc pc = .ok (.ireturn, 1) → narrow .boolean (.int v) = .int v → post v u → va_P D cl (w1 u) H → va_D A (w1 u) → va_S A s.heap H locs → W p l e rm s m args below meth c H locs 0 0 Q (F0 m pc ls [.int v])) →
      W p l e rm s m args below meth c s.heap [] 0 0 Q (F0 m 0 ls [])) :
    cti l y (wsOf y cc maxL (some .boolean)) rm D cl tys av w0 post w1 := by
  intro sz
  refine va_MetF (cc := cc) (maxL := maxL) (ret := some .boolean) hy rfl ?_
  intro p e s m args below meth c s₁ B hml hv
  obtain ⟨rfl, rfl, hr, hlk, h⟩ := ctAt.of hlen B hml hv
  rw [lg_entry_eq]
  refine body p e s m _ below meth c _ _ _ h ?_
  intro v u H locs pc ls hdg hn hq hP hD hS
  exact W.zret (v := v) B.exec B.bytes hr hn (fun t ht hW => ⟨⟨v, u, rfl, hq, by rw [ht]; exact hP, va_K.moved hW.alike h.2.2.2.2.2.2.2.1, hD⟩, hS.F ht⟩) hS.2.2 hdg hlk
theorem ctl.of {l : Launch} {y : MethodName} {rm : Room} {D : va_G} {cl : List vw_C} {tys : tyL} {av : List Value} {w0 : va_W} {S : Type} {post : Int64 → S → Prop} {w1 : S → va_W} {cc : ByteArray} {maxL : Nat} (hy : plainFor y = true) (hlen : (lg_sl av).length ≤ maxL)
    (body : ∀ p e s m args below meth c (A : Nat → Prop) ls (Q : State → Prop), ctAt p s m meth c args y cc maxL D cl tys av w0 A ls →
      (∀ (v : Int64) (u : S) (H : Heap) (locs : List Loc) (pc : Nat) (ls : Array Slot), decode cc pc = .ok (.lreturn, 1) → post v u → va_P D cl (w1 u) H → va_D A (w1 u) → va_S A s.heap H locs → W p l e rm s m args below meth c H locs 0 0 Q (F0 m pc ls [.long v])) →
      W p l e rm s m args below meth c s.heap [] 0 0 Q (F0 m 0 ls [])) :
    ctl l y (wsOf y cc maxL (some .long)) rm D cl tys av w0 post w1 := by
  intro sz
  refine va_MetF (cc := cc) (maxL := maxL) (ret := some .long) hy rfl ?_
  intro p e s m args below meth c s₁ B hml hv
  obtain ⟨rfl, rfl, hr, hlk, h⟩ := ctAt.of hlen B hml hv
  rw [lg_entry_eq]
  refine body p e s m _ below meth c _ _ _ h ?_
  intro v u H locs pc ls hdg hq hP hD hS
  exact W.lret (v := v) B.exec B.bytes hr (fun t ht hW => ⟨⟨v, u, rfl, hq, by rw [ht]; exact hP, va_K.moved hW.alike h.2.2.2.2.2.2.2.1, hD⟩, hS.F ht⟩) hS.2.2 hdg hlk
theorem ctv.of {l : Launch} {y : MethodName} {rm : Room} {D : va_G} {cl : List vw_C} {tys : tyL} {av : List Value} {w0 : va_W} {S : Type} {post : S → Prop} {w1 : S → va_W} {mc ms : Nat} {cc : ByteArray} {maxL : Nat} (hy : plainFor y = true) (hlen : (lg_sl av).length ≤ maxL)
    (body : ∀ p e s m args below meth c (A : Nat → Prop) ls (Q : State → Prop), ctAt p s m meth c args y cc maxL D cl tys av w0 A ls →
      (∀ (u : S) (H : Heap) (locs : List Loc) (pc : Nat) (ls : Array Slot), decode cc pc = .ok (.return_, 1) → post u → va_P D cl (w1 u) H → va_D A (w1 u) → va_S A s.heap H locs → W p l e rm s m args below meth c H locs mc ms Q (F0 m pc ls [])) →
      W p l e rm s m args below meth c s.heap [] 0 0 Q (F0 m 0 ls [])) :
    ctv l y (wsOf y cc maxL none) rm D cl tys av w0 post w1 mc ms := by
  intro sz
  refine va_MetF (cc := cc) (maxL := maxL) (ret := none) hy rfl ?_
  intro p e s m args below meth c s₁ B hml hv
  obtain ⟨rfl, rfl, hr, hlk, h⟩ := ctAt.of hlen B hml hv
  rw [lg_entry_eq]
  refine body p e s m _ below meth c _ _ _ h ?_
  intro u H locs pc ls hdg hq hP hD hS
  exact W.vret B.exec B.bytes hr (fun t ht hW => ⟨⟨u, rfl, hq, by rw [ht]; exact hP, va_K.moved hW.alike h.2.2.2.2.2.2.2.1, hD⟩, hS.F ht⟩) hS.2.2 hdg hlk
end HP1
section HP2
variable {p : Program} {l : Launch} {e : Env} {R : Room} {s : State} {m : MethodId} {args : Array Value} {below : List Frame} {meth : Method} {c : Code} {H : Heap} {locs : List Loc} {cells slots : Nat} {Q : State → Prop}
variable {cc : ByteArray} {pc : Nat} {ls : Array Slot} {rest : List Value} {D : va_G} {cl : List vw_C} {A : Nat → Prop} {tys : tyL}
variable {ws0 wc wr : va_W} {nL n index maxL mc ms : Nat} {ret : Option FieldType} {own C : String} {y : MethodName} {bytes : ByteArray} {rm : Room} {b : Nat} {As st0 : List Value} {w : List Cond}
theorem ct_blind {av : List Value} {w0 : va_W} {sz : Nat} : FrameBlind (ctP D cl tys av w0 sz) := by
  intro a U g mk q
  obtain ⟨q0, q1, qP, qK, qD, qZ, qN⟩ := q
  exact ⟨q0, q1, qP, va_K.moved (u := U) (U := U.calling g mk a) (Vm.Alike.refl U.vm) qK, qD, qZ.use (U := U.calling g mk a) (Vm.Alike.refl U.vm) (fun _ _ _ => rfl) (fun _ h => h), qN.same rfl⟩
theorem ct_pre {av : List Value} (hK : va_K D cl tys s) (hP : va_P D cl ws0 H) (hD : va_D A ws0) (hS : va_S A s.heap H locs) (hA : ∀ q : Nat, s.heap.size ≤ q → A q) (hZ : st_T A s s.heap) (hN : nw_T s) (isC : List Nat) (hn : va_nd isC = true) (hC : isC.map (fun i => ws0[i]?) = wc.map some) (hC2 : isC.filterMap (fun i => ws0[i]?) = wc) :
    ∀ U : State, U.heap = H → s.WarmedH U.vm → ctP D cl tys av wc H.size av.toArray U := by
  intro U hU hW
  have hPc : va_P D cl wc H := hP.sub isC hC2
  have hF := va_free hD hS hA isC hC
  refine ⟨rfl, by rw [hU], by rw [hU]; exact hPc, va_K.moved hW.alike hK, (hD.sub isC hn hC).weaken (fun _ _ _ _ => trivial), ?_, hN.warm hW⟩
  exact hZ.use hW.alike (fun a h1 h2 => by rw [hU]; exact hS.2.1 a h1 h2) hF
theorem call_i {S : Type} {post : Int32 → S → Prop} {w1 : S → va_W} {a : Array Value} (hr : va_Run p l e R s m args below meth c H locs cells slots 0 0 (F0 m pc ls st0) rest (va_Qi post (ctB D cl tys wc H.size w1) (va_A wc H.size) a) (va_A wc H.size)) (hP : va_P D cl ws0 H) (hD : va_D A ws0) (hS : va_S A s.heap H locs) (hA : ∀ q : Nat, s.heap.size ≤ q → A q) (isC isR : List Nat) (hC : isC.map (fun i => ws0[i]?) = wc.map some) (hR : isR.map (fun i => ws0[i]?) = wr.map some) (hn : va_nd isR = true) (hdis : ∀ i ∈ isR, i ∉ isC)
    (kk : ∀ (r : Int32) (u : S) (H1 : Heap) (locs1 : List Loc), post r u → va_P D cl (wr ++ w1 u) H1 → va_D A (wr ++ w1 u) → va_S A s.heap H1 locs1 → W p l e R s m args below meth c H1 locs1 cells slots Q (F0 m (pc + 3) ls (.int r :: rest))) : W p l e R s m args below meth c H locs cells slots Q (F0 m pc ls st0) := by
  have hFc := va_free hD hS hA isC hC
  refine va_calli hr hS (fun q _ h => hFc q h) hFc (fun r u t H1 locs1 ht hvm hw hB hz1 hk1 hS1 => ?_)
  obtain ⟨hP1, hK1, hD1⟩ := hB
  rw [ht] at hP1
  obtain ⟨hP2, hD2⟩ := va_join hP hD isC isR hC hR hn hdis hk1 hFc hP1 hD1
  exact kk r u H1 locs1 hw hP2 hD2 hS1
theorem call_l {S : Type} {post : Int64 → S → Prop} {w1 : S → va_W} {a : Array Value} (hr : va_Run p l e R s m args below meth c H locs cells slots 0 0 (F0 m pc ls st0) rest (va_Ql post (ctB D cl tys wc H.size w1) (va_A wc H.size) a) (va_A wc H.size)) (hP : va_P D cl ws0 H) (hD : va_D A ws0) (hS : va_S A s.heap H locs) (hA : ∀ q : Nat, s.heap.size ≤ q → A q) (isC isR : List Nat) (hC : isC.map (fun i => ws0[i]?) = wc.map some) (hR : isR.map (fun i => ws0[i]?) = wr.map some) (hn : va_nd isR = true) (hdis : ∀ i ∈ isR, i ∉ isC)
    (kk : ∀ (r : Int64) (u : S) (H1 : Heap) (locs1 : List Loc), post r u → va_P D cl (wr ++ w1 u) H1 → va_D A (wr ++ w1 u) → va_S A s.heap H1 locs1 → W p l e R s m args below meth c H1 locs1 cells slots Q (F0 m (pc + 3) ls (.long r :: rest))) : W p l e R s m args below meth c H locs cells slots Q (F0 m pc ls st0) := by
  have hFc := va_free hD hS hA isC hC
  refine va_calll hr hS (fun q _ h => hFc q h) hFc (fun r u t H1 locs1 ht hvm hw hB hz1 hk1 hS1 => ?_)
  obtain ⟨hP1, hK1, hD1⟩ := hB
  rw [ht] at hP1
  obtain ⟨hP2, hD2⟩ := va_join hP hD isC isR hC hR hn hdis hk1 hFc hP1 hD1
  exact kk r u H1 locs1 hw hP2 hD2 hS1
theorem call_v {S : Type} {post : S → Prop} {w1 : S → va_W} {a : Array Value} (hr : va_Run p l e R s m args below meth c H locs cells slots mc ms (F0 m pc ls st0) rest (va_Qv post (ctB D cl tys wc H.size w1) (va_A wc H.size) a) (va_A wc H.size)) (hP : va_P D cl ws0 H) (hD : va_D A ws0) (hS : va_S A s.heap H locs) (hA : ∀ q : Nat, s.heap.size ≤ q → A q) (isC isR : List Nat) (hC : isC.map (fun i => ws0[i]?) = wc.map some) (hR : isR.map (fun i => ws0[i]?) = wr.map some) (hn : va_nd isR = true) (hdis : ∀ i ∈ isR, i ∉ isC)
    (kk : ∀ (u : S) (H1 : Heap) (locs1 : List Loc), post u → va_P D cl (wr ++ w1 u) H1 → va_D A (wr ++ w1 u) → va_S A s.heap H1 locs1 → W p l e R s m args below meth c H1 locs1 (cells + mc) (slots + ms) Q (F0 m (pc + 3) ls rest)) : W p l e R s m args below meth c H locs cells slots Q (F0 m pc ls st0) := by
  have hFc := va_free hD hS hA isC hC
  refine va_callv hr hS (fun q _ h => hFc q h) hFc (fun u t H1 locs1 ht hvm hw hB hz1 hk1 hS1 => ?_)
  obtain ⟨hP1, hK1, hD1⟩ := hB
  rw [ht] at hP1
  obtain ⟨hP2, hD2⟩ := va_join hP hD isC isR hC hR hn hdis hk1 hFc hP1 hD1
  exact kk u H1 locs1 hw hP2 hD2 hS1
end HP2
section HP3
variable {p : Program} {l : Launch} {e : Env} {R : Room} {s : State} {m : MethodId} {args : Array Value} {below : List Frame} {meth : Method} {c : Code} {H : Heap} {locs : List Loc} {cells slots : Nat}
variable {cc : ByteArray} {pc : Nat} {ls : Array Slot} {rest : List Value} {nL n index maxL mc ms : Nat} {ret : Option FieldType} {own : String} {y : MethodName} {bytes : ByteArray} {rm : Room} {b : Nat} {As st0 : List Value} {Pc : Array Value → State → Prop} {Qc : Array Value → State → Outcome → State → Prop} {free : Addr → Prop}
theorem gd_in (h : Cond.code y bytes maxL ret ∈ lw_good) : GoodIn lw_good (wsOf y bytes maxL ret) := by
  intro w hw
  rcases List.mem_cons.mp hw with rfl | hw
  · exact ⟨h, good_of_word (List.mem_filter.mp h).2⟩
  · exact ⟨hw, good_of_word (List.mem_filter.mp hw).2⟩
def lkV (own : String) (index : Nat) (y : MethodName) (bytes : ByteArray) (maxL : Nat) (ret : Option FieldType) (n : Nat) : Prop :=
  Cond.methodLink own index y ∈ lw_good ∧ Cond.instanceMethod y ∈ lw_good ∧ Cond.selects y.cls y y ∈ lw_good ∧ Cond.initialized y.cls ∈ lw_good ∧ Cond.code y bytes maxL ret ∈ lw_good ∧ (y.cls ≠ "java/lang/invoke/MethodHandle" ∧ y.cls ≠ "java/lang/invoke/VarHandle" ∧ (parseMethodDescriptor y.desc).map (fun d => d.parameters.length) = some n)
def lkS (own : String) (index : Nat) (y : MethodName) (bytes : ByteArray) (maxL : Nat) (ret : Option FieldType) (n : Nat) : Prop :=
  Cond.methodLink own index y ∈ lw_good ∧ Cond.static y ∈ lw_good ∧ Cond.initialized y.cls ∈ lw_good ∧ Cond.code y bytes maxL ret ∈ lw_good ∧ (y.cls ≠ "java/lang/invoke/MethodHandle" ∧ y.cls ≠ "java/lang/invoke/VarHandle" ∧ (parseMethodDescriptor y.desc).map (fun d => d.parameters.length) = some n)
def lkI (own : String) (index : Nat) (y : MethodName) (bytes : ByteArray) (maxL : Nat) (n : Nat) : Prop :=
  Cond.methodLink own index y ∈ lw_good ∧ Cond.instanceMethod y ∈ lw_good ∧ Cond.initialized y.cls ∈ lw_good ∧ Cond.code y bytes maxL none ∈ lw_good ∧ (y.cls ≠ "java/lang/invoke/MethodHandle" ∧ y.cls ≠ "java/lang/invoke/VarHandle" ∧ (parseMethodDescriptor y.desc).map (fun d => d.parameters.length) = some n) ∧ y.name = "<init>"
def lkN (own : String) (index : Nat) (y : MethodName) (bytes : ByteArray) (maxL : Nat) (n : Nat) : Prop :=
  (own, index, y) ∈ nw_l ∧ Cond.instanceMethod y ∈ lw_good ∧ Cond.initialized y.cls ∈ lw_good ∧ Cond.code y bytes maxL none ∈ lw_good ∧ (y.cls ≠ "java/lang/invoke/MethodHandle" ∧ y.cls ≠ "java/lang/invoke/VarHandle" ∧ (parseMethodDescriptor y.desc).map (fun d => d.parameters.length) = some n) ∧ y.name = "<init>"
theorem run_V (K : lkV own index y bytes maxL ret n) (hR : rm.frames + 1 ≤ R.frames ∧ 8 + (maxL + 11) + rm.locals ≤ R.locals) (hrc : rm.cells = mc ∧ rm.slots = ms) (S : CallFix p m c cc nL s args lw_good own) (hM : Met l y (wsOf y bytes maxL ret) rm Pc Qc mc ms free) (hbl : FrameBlind Pc) (hp : ∀ U : State, U.heap = H → s.WarmedH U.vm → Pc (Value.ref b :: As).toArray U) (hrv : ∃ cell : Cell, H[b]? = some cell ∧ cell.vm.isStatics = false ∧ s.vm.findClass y.cls = some cell.cls)
    (hn : As.length = n) (hsize : ls.size = nL) (hst : st0 = As.reverse ++ .ref b :: rest) (hW : (rest.map fun v => v.category).sum ≤ 8) (hdg : decode cc pc = .ok (.invokevirtual index, 3)) (hf : cells + mc ≤ R.cells ∧ slots + ms ≤ R.slots) :
    va_Run p l e R s m args below meth c H locs cells slots mc ms (F0 m pc ls st0) rest (Qc (Value.ref b :: As).toArray) free := by
  obtain ⟨k1, k2, k3, k4, k5, k6⟩ := K
  have hts := S.2.2.2.2
  exact va_runV (C := y.cls) S hM ⟨callB_of n hts (gd_in k5) rfl hrc.1 hrc.2 (hts _ k4) (hts _ k1) k6 hR, hts _ k2, hts _ k3⟩ ⟨hbl, hrv, hp⟩ rfl hn hsize hst (lv_room hW) hdg hf
theorem run_S (K : lkS own index y bytes maxL ret n) (hR : rm.frames + 1 ≤ R.frames ∧ 8 + (maxL + 11) + rm.locals ≤ R.locals) (hrc : rm.cells = mc ∧ rm.slots = ms) (S : CallFix p m c cc nL s args lw_good own) (hM : Met l y (wsOf y bytes maxL ret) rm Pc Qc mc ms free) (hbl : FrameBlind Pc) (hp : ∀ U : State, U.heap = H → s.WarmedH U.vm → Pc As.toArray U)
    (hn : As.length = n) (hsize : ls.size = nL) (hst : st0 = As.reverse ++ rest) (hW : (rest.map fun v => v.category).sum ≤ 8) (hdg : decode cc pc = .ok (.invokestatic index, 3)) (hf : cells + mc ≤ R.cells ∧ slots + ms ≤ R.slots) :
    va_Run p l e R s m args below meth c H locs cells slots mc ms (F0 m pc ls st0) rest (Qc As.toArray) free := by
  obtain ⟨k1, k2, k4, k5, k6⟩ := K
  have hts := S.2.2.2.2
  exact va_runS S hM ⟨callB_of n hts (gd_in k5) rfl hrc.1 hrc.2 (hts _ k4) (hts _ k1) k6 hR, hts _ k2⟩ ⟨hbl, hp⟩ rfl hn hsize hst (lv_room hW) hdg hf
theorem run_I (K : lkI own index y bytes maxL n) (hR : rm.frames + 1 ≤ R.frames ∧ 8 + (maxL + 11) + rm.locals ≤ R.locals) (hrc : rm.cells = mc ∧ rm.slots = ms) (S : CallFix p m c cc nL s args lw_good own) (hM : Met l y (wsOf y bytes maxL none) rm Pc Qc mc ms free) (hbl : FrameBlind Pc) (hp : ∀ U : State, U.heap = H → s.WarmedH U.vm → Pc (Value.ref b :: As).toArray U)
    (hn : As.length = n) (hsize : ls.size = nL) (hst : st0 = As.reverse ++ .ref b :: rest) (hW : (rest.map fun v => v.category).sum ≤ 8) (hdg : decode cc pc = .ok (.invokespecial index, 3)) (hf : cells + mc ≤ R.cells ∧ slots + ms ≤ R.slots) :
    va_Run p l e R s m args below meth c H locs cells slots mc ms (F0 m pc ls st0) rest (Qc (Value.ref b :: As).toArray) free := by
  obtain ⟨k1, k2, k4, k5, k6, k7⟩ := K
  have hts := S.2.2.2.2
  exact va_runI S hM ⟨callB_of n hts (gd_in k5) rfl hrc.1 hrc.2 (hts _ k4) (hts _ k1) k6 hR, k7, hts _ k2⟩ ⟨hbl, hp⟩ rfl hn hsize hst (lv_room hW) hdg hf
theorem run_N (K : lkN own index y bytes maxL n) (hN : nw_T s) (hR : rm.frames + 1 ≤ R.frames ∧ 8 + (maxL + 11) + rm.locals ≤ R.locals) (hrc : rm.cells = mc ∧ rm.slots = ms) (S : CallFix p m c cc nL s args lw_good own) (hM : Met l y (wsOf y bytes maxL none) rm Pc Qc mc ms free) (hbl : FrameBlind Pc) (hp : ∀ U : State, U.heap = H → s.WarmedH U.vm → Pc (Value.ref b :: As).toArray U)
    (hn : As.length = n) (hsize : ls.size = nL) (hst : st0 = As.reverse ++ .ref b :: rest) (hW : (rest.map fun v => v.category).sum ≤ 8) (hdg : decode cc pc = .ok (.invokespecial index, 3)) (hf : cells + mc ≤ R.cells ∧ slots + ms ≤ R.slots) :
    va_Run p l e R s m args below meth c H locs cells slots mc ms (F0 m pc ls st0) rest (Qc (Value.ref b :: As).toArray) free := by
  obtain ⟨k1, k2, k4, k5, k6, k7⟩ := K
  have hts := S.2.2.2.2
  exact va_runIN (host := "LineBlocks") S hM ⟨va_cnB n hts (gd_in k5) rfl hrc.1 hrc.2 (hN _ k1) (hts _ k4) k6 hR, k7, hts _ k2⟩ ⟨hbl, hp⟩ rfl hn hsize hst (lv_room hW) hdg hf
end HP3
end
section
set_option maxRecDepth 100000 in
theorem wk1 : Cond.instantiable RX6 3 ∈ lw_good := gd_of (List.mem_append_right _ (List.mem_append_left _ (List.mem_of_getElem? (i := 12) rfl))) rfl
set_option maxRecDepth 100000 in
theorem wk2 : Cond.initialized RX6 ∈ lw_good := gd_of (List.mem_append_right _ (List.mem_append_left _ (List.mem_of_getElem? (i := 1) rfl))) rfl
set_option maxRecDepth 100000 in
theorem wk4 : Cond.instantiable RX7 17 ∈ lw_good := gd_of (List.mem_append_right _ (List.mem_append_right _ (List.mem_append_left _ (List.mem_of_getElem? (i := 159) rfl)))) rfl
set_option maxRecDepth 100000 in
theorem wk5 : Cond.initialized RX7 ∈ lw_good := gd_of (List.mem_append_right _ (List.mem_append_left _ (List.mem_of_getElem? (i := 7) rfl))) rfl
set_option maxRecDepth 100000 in
theorem wk10 : Cond.methodLink RX6 3 objectInit ∈ lw_good := gd_of (List.mem_append_right _ (List.mem_append_left _ (List.mem_of_getElem? (i := 16) rfl))) rfl
set_option maxRecDepth 100000 in
theorem wk11 : Cond.instanceMethod objectInit ∈ lw_good := gd_of (List.mem_append_right _ (List.mem_append_left _ (List.mem_of_getElem? (i := 17) rfl))) rfl
set_option maxRecDepth 100000 in
theorem wk12 : Cond.code objectInit ⟨#[0xb1]⟩ 1 none ∈ lw_good := gd_of (List.mem_append_right _ (List.mem_append_left _ (List.mem_of_getElem? (i := 18) rfl))) rfl
set_option maxRecDepth 100000 in
theorem wk13 : Cond.classLink RX6 9 RX2 ∈ lw_good := gd_of (List.mem_append_right _ (List.mem_append_left _ (List.mem_of_getElem? (i := 19) rfl))) rfl
set_option maxRecDepth 100000 in
theorem wk14 : Cond.instantiable RX2 3 ∈ lw_good := gd_of (List.mem_append_right _ (List.mem_append_left _ (List.mem_of_getElem? (i := 20) rfl))) rfl
set_option maxRecDepth 100000 in
theorem wk15 : Cond.initialized RX2 ∈ lw_good := gd_of (List.mem_append_right _ (List.mem_append_left _ (List.mem_of_getElem? (i := 2) rfl))) rfl
set_option maxRecDepth 100000 in
theorem wk16 : Cond.fieldLink RX6 12 "LineBlocks" "line" "LLineBlocks$Line;" ∈ lw_good := gd_of (List.mem_append_right _ (List.mem_append_left _ (List.mem_of_getElem? (i := 121) rfl))) rfl
set_option maxRecDepth 100000 in
theorem wk17 : Cond.classLink RX6 16 RX5 ∈ lw_good := gd_of (List.mem_append_right _ (List.mem_append_left _ (List.mem_of_getElem? (i := 36) rfl))) rfl
set_option maxRecDepth 100000 in
theorem wk18 : Cond.instantiable RX5 3 ∈ lw_good := gd_of (List.mem_append_right _ (List.mem_append_left _ (List.mem_of_getElem? (i := 37) rfl))) rfl
set_option maxRecDepth 100000 in
theorem wk19 : Cond.initialized RX5 ∈ lw_good := gd_of (List.mem_append_right _ (List.mem_append_left _ (List.mem_of_getElem? (i := 3) rfl))) rfl
set_option maxRecDepth 100000 in
theorem wk20 : Cond.fieldLink RX6 19 "LineBlocks" "sender" "LLineBlocks$Sender;" ∈ lw_good := gd_of (List.mem_append_right _ (List.mem_append_left _ (List.mem_of_getElem? (i := 122) rfl))) rfl
set_option maxRecDepth 100000 in
theorem wk21 : Cond.classLink RX6 23 RX3 ∈ lw_good := gd_of (List.mem_append_right _ (List.mem_append_left _ (List.mem_of_getElem? (i := 63) rfl))) rfl
set_option maxRecDepth 100000 in
theorem wk22 : Cond.instantiable RX3 11 ∈ lw_good := gd_of (List.mem_append_right _ (List.mem_append_left _ (List.mem_of_getElem? (i := 64) rfl))) rfl
set_option maxRecDepth 100000 in
theorem wk23 : Cond.initialized RX3 ∈ lw_good := gd_of (List.mem_append_right _ (List.mem_append_left _ (List.mem_of_getElem? (i := 5) rfl))) rfl
set_option maxRecDepth 100000 in
theorem wk24 : Cond.fieldLink RX6 26 "LineBlocks" "taker" "LLineBlocks$Receiver;" ∈ lw_good := gd_of (List.mem_append_right _ (List.mem_append_left _ (List.mem_of_getElem? (i := 123) rfl))) rfl
set_option maxRecDepth 100000 in
theorem wk25 : Cond.instanceMethod yX2_init ∈ lw_good := gd_of (List.mem_append_right _ (List.mem_append_left _ (List.mem_of_getElem? (i := 22) rfl))) rfl
set_option maxRecDepth 100000 in
theorem wk26 : Cond.code yX2_init cX2_init 1 none ∈ lw_good := gd_of (List.mem_append_right _ (List.mem_append_left _ (List.mem_of_getElem? (i := 23) rfl))) rfl
set_option maxRecDepth 100000 in
theorem wk27 : Cond.methodLink RX2 5 objectInit ∈ lw_good := gd_of (List.mem_append_right _ (List.mem_append_left _ (List.mem_of_getElem? (i := 24) rfl))) rfl
set_option maxRecDepth 100000 in
theorem wk28 : Cond.arrayClass .long ∈ lw_good := gd_of (List.mem_append_right _ (List.mem_append_left _ (List.mem_of_getElem? (i := 35) rfl))) rfl
set_option maxRecDepth 100000 in
theorem wk29 : Cond.fieldLink RX2 11 "LineBlocks$Line" "words" "[J" ∈ lw_good := gd_of (List.mem_append_right _ (List.mem_append_left _ (List.mem_of_getElem? (i := 25) rfl))) rfl
set_option maxRecDepth 100000 in
theorem wk30 : Cond.instanceMethod yX5_init ∈ lw_good := gd_of (List.mem_append_right _ (List.mem_append_left _ (List.mem_of_getElem? (i := 39) rfl))) rfl
set_option maxRecDepth 100000 in
theorem wk31 : Cond.code yX5_init cX5_init 1 none ∈ lw_good := gd_of (List.mem_append_right _ (List.mem_append_left _ (List.mem_of_getElem? (i := 40) rfl))) rfl
set_option maxRecDepth 100000 in
theorem wk32 : Cond.methodLink RX5 5 objectInit ∈ lw_good := gd_of (List.mem_append_right _ (List.mem_append_left _ (List.mem_of_getElem? (i := 41) rfl))) rfl
set_option maxRecDepth 100000 in
theorem wk33 : Cond.classLink RX5 11 RX4 ∈ lw_good := gd_of (List.mem_append_right _ (List.mem_append_left _ (List.mem_of_getElem? (i := 42) rfl))) rfl
set_option maxRecDepth 100000 in
theorem wk34 : Cond.instantiable RX4 1 ∈ lw_good := gd_of (List.mem_append_right _ (List.mem_append_left _ (List.mem_of_getElem? (i := 43) rfl))) rfl
set_option maxRecDepth 100000 in
theorem wk35 : Cond.initialized RX4 ∈ lw_good := gd_of (List.mem_append_right _ (List.mem_append_left _ (List.mem_of_getElem? (i := 4) rfl))) rfl
set_option maxRecDepth 100000 in
theorem wk36 : Cond.fieldLink RX5 14 "LineBlocks$Sender" "scrambler" "LLineBlocks$Scrambler;" ∈ lw_good := gd_of (List.mem_append_right _ (List.mem_append_left _ (List.mem_of_getElem? (i := 52) rfl))) rfl
set_option maxRecDepth 100000 in
theorem wk37 : Cond.arrayClass .int ∈ lw_good := gd_of (List.mem_append_right _ (List.mem_append_left _ (List.mem_of_getElem? (i := 62) rfl))) rfl
set_option maxRecDepth 100000 in
theorem wk38 : Cond.fieldLink RX5 20 "LineBlocks$Sender" "group" "[I" ∈ lw_good := gd_of (List.mem_append_right _ (List.mem_append_left _ (List.mem_of_getElem? (i := 53) rfl))) rfl
set_option maxRecDepth 100000 in
theorem wk39 : Cond.instanceMethod yX4_init ∈ lw_good := gd_of (List.mem_append_right _ (List.mem_append_left _ (List.mem_of_getElem? (i := 45) rfl))) rfl
set_option maxRecDepth 100000 in
theorem wk40 : Cond.code yX4_init cX4_init 1 none ∈ lw_good := gd_of (List.mem_append_right _ (List.mem_append_left _ (List.mem_of_getElem? (i := 46) rfl))) rfl
set_option maxRecDepth 100000 in
theorem wk41 : Cond.methodLink RX4 1 objectInit ∈ lw_good := gd_of (List.mem_append_right _ (List.mem_append_left _ (List.mem_of_getElem? (i := 47) rfl))) rfl
set_option maxRecDepth 100000 in
theorem wk42 : Cond.instanceMethod yX3_init ∈ lw_good := gd_of (List.mem_append_right _ (List.mem_append_left _ (List.mem_of_getElem? (i := 66) rfl))) rfl
set_option maxRecDepth 100000 in
theorem wk43 : Cond.code yX3_init cX3_init 1 none ∈ lw_good := gd_of (List.mem_append_right _ (List.mem_append_left _ (List.mem_of_getElem? (i := 67) rfl))) rfl
set_option maxRecDepth 100000 in
theorem wk44 : Cond.methodLink RX3 3 objectInit ∈ lw_good := gd_of (List.mem_append_right _ (List.mem_append_left _ (List.mem_of_getElem? (i := 68) rfl))) rfl
set_option maxRecDepth 100000 in
theorem wk45 : Cond.classLink RX3 9 RX4 ∈ lw_good := gd_of (List.mem_append_right _ (List.mem_append_left _ (List.mem_of_getElem? (i := 69) rfl))) rfl
set_option maxRecDepth 100000 in
theorem wk46 : Cond.fieldLink RX3 12 "LineBlocks$Receiver" "scrambler" "LLineBlocks$Scrambler;" ∈ lw_good := gd_of (List.mem_append_right _ (List.mem_append_left _ (List.mem_of_getElem? (i := 87) rfl))) rfl
set_option maxRecDepth 100000 in
theorem wk47 : Cond.classLink RX3 18 RX1 ∈ lw_good := gd_of (List.mem_append_right _ (List.mem_append_left _ (List.mem_of_getElem? (i := 71) rfl))) rfl
set_option maxRecDepth 100000 in
theorem wk48 : Cond.instantiable RX1 3 ∈ lw_good := gd_of (List.mem_append_right _ (List.mem_append_left _ (List.mem_of_getElem? (i := 72) rfl))) rfl
set_option maxRecDepth 100000 in
theorem wk49 : Cond.initialized RX1 ∈ lw_good := gd_of (List.mem_append_right _ (List.mem_append_left _ (List.mem_of_getElem? (i := 6) rfl))) rfl
set_option maxRecDepth 100000 in
theorem wk50 : Cond.fieldLink RX3 21 "LineBlocks$Receiver" "groups" "LLineBlocks$Groups;" ∈ lw_good := gd_of (List.mem_append_right _ (List.mem_append_left _ (List.mem_of_getElem? (i := 88) rfl))) rfl
set_option maxRecDepth 100000 in
theorem wk51 : Cond.instanceMethod yX1_init ∈ lw_good := gd_of (List.mem_append_right _ (List.mem_append_left _ (List.mem_of_getElem? (i := 74) rfl))) rfl
set_option maxRecDepth 100000 in
theorem wk52 : Cond.code yX1_init cX1_init 1 none ∈ lw_good := gd_of (List.mem_append_right _ (List.mem_append_left _ (List.mem_of_getElem? (i := 75) rfl))) rfl
set_option maxRecDepth 100000 in
theorem wk53 : Cond.methodLink RX1 3 objectInit ∈ lw_good := gd_of (List.mem_append_right _ (List.mem_append_left _ (List.mem_of_getElem? (i := 76) rfl))) rfl
set_option maxRecDepth 100000 in
theorem wk54 : Cond.fieldLink RX1 11 "LineBlocks$Groups" "types" "[I" ∈ lw_good := gd_of (List.mem_append_right _ (List.mem_append_left _ (List.mem_of_getElem? (i := 77) rfl))) rfl
set_option maxRecDepth 100000 in
theorem wk55 : Cond.fieldLink RX1 15 "LineBlocks$Groups" "payloads" "[J" ∈ lw_good := gd_of (List.mem_append_right _ (List.mem_append_left _ (List.mem_of_getElem? (i := 78) rfl))) rfl
set_option maxRecDepth 100000 in
theorem wk59 : Cond.methodLink RX7 1 objectInit ∈ lw_good := gd_of (List.mem_append_right _ (List.mem_append_right _ (List.mem_append_left _ (List.mem_of_getElem? (i := 163) rfl)))) rfl
set_option maxRecDepth 100000 in
theorem wk60 : Cond.fieldLink RX7 7 "LineBlocksModel" "group" "[I" ∈ lw_good := gd_of (List.mem_append_right _ (List.mem_append_right _ (List.mem_append_left _ (List.mem_of_getElem? (i := 166) rfl)))) rfl
set_option maxRecDepth 100000 in
theorem wk61 : Cond.arrayClass .byte ∈ lw_good := gd_of (List.mem_append_right _ (List.mem_append_right _ (List.mem_append_left _ (List.mem_of_getElem? (i := 216) rfl)))) rfl
set_option maxRecDepth 100000 in
theorem wk62 : Cond.fieldLink RX7 13 "LineBlocksModel" "line" "[B" ∈ lw_good := gd_of (List.mem_append_right _ (List.mem_append_right _ (List.mem_append_left _ (List.mem_of_getElem? (i := 168) rfl)))) rfl
set_option maxRecDepth 100000 in
theorem wk63 : Cond.fieldLink RX7 17 "LineBlocksModel" "latest" "[I" ∈ lw_good := gd_of (List.mem_append_right _ (List.mem_append_right _ (List.mem_append_left _ (List.mem_of_getElem? (i := 169) rfl)))) rfl
set_option maxRecDepth 100000 in
theorem wk64 : Cond.fieldLink RX7 20 "LineBlocksModel" "block" "[I" ∈ lw_good := gd_of (List.mem_append_right _ (List.mem_append_right _ (List.mem_append_left _ (List.mem_of_getElem? (i := 170) rfl)))) rfl
set_option maxRecDepth 100000 in
theorem wk65 : Cond.fieldLink RX7 23 "LineBlocksModel" "came" "[I" ∈ lw_good := gd_of (List.mem_append_right _ (List.mem_append_right _ (List.mem_append_left _ (List.mem_of_getElem? (i := 171) rfl)))) rfl
set_option maxRecDepth 100000 in
theorem wk66 : Cond.fieldLink RX7 26 "LineBlocksModel" "told" "[I" ∈ lw_good := gd_of (List.mem_append_right _ (List.mem_append_right _ (List.mem_append_left _ (List.mem_of_getElem? (i := 180) rfl)))) rfl
set_option maxRecDepth 100000 in
theorem wk67 : Cond.fieldLink RX7 29 "LineBlocksModel" "size" "I" ∈ lw_good := gd_of (List.mem_append_right _ (List.mem_append_right _ (List.mem_append_left _ (List.mem_of_getElem? (i := 167) rfl)))) rfl
set_option maxRecDepth 100000 in
theorem wk72 : Cond.methodLink RX6 30 yX5_waitingCount ∈ lw_good := gd_of (List.mem_append_right _ (List.mem_append_left _ (List.mem_of_getElem? (i := 135) rfl))) rfl
set_option maxRecDepth 100000 in
theorem wk73 : Cond.instanceMethod yX5_waitingCount ∈ lw_good := gd_of (List.mem_append_right _ (List.mem_append_left _ (List.mem_of_getElem? (i := 136) rfl))) rfl
set_option maxRecDepth 100000 in
theorem wk74 : Cond.selects RX5 yX5_waitingCount yX5_waitingCount ∈ lw_good := gd_of (List.mem_append_right _ (List.mem_append_left _ (List.mem_of_getElem? (i := 137) rfl))) rfl
set_option maxRecDepth 100000 in
theorem wk75 : Cond.code yX5_waitingCount cX5_waitingCount 1 (some .int) ∈ lw_good := gd_of (List.mem_append_right _ (List.mem_append_left _ (List.mem_of_getElem? (i := 138) rfl))) rfl
set_option maxRecDepth 100000 in
theorem wk76 : Cond.fieldLink RX5 24 "LineBlocks$Sender" "waiting" "I" ∈ lw_good := gd_of (List.mem_append_right _ (List.mem_append_left _ (List.mem_of_getElem? (i := 54) rfl))) rfl
set_option maxRecDepth 100000 in
theorem wk77 : Cond.methodLink RX6 34 yX2_size ∈ lw_good := gd_of (List.mem_append_right _ (List.mem_append_left _ (List.mem_of_getElem? (i := 139) rfl))) rfl
set_option maxRecDepth 100000 in
theorem wk78 : Cond.instanceMethod yX2_size ∈ lw_good := gd_of (List.mem_append_right _ (List.mem_append_left _ (List.mem_of_getElem? (i := 140) rfl))) rfl
set_option maxRecDepth 100000 in
theorem wk79 : Cond.selects RX2 yX2_size yX2_size ∈ lw_good := gd_of (List.mem_append_right _ (List.mem_append_left _ (List.mem_of_getElem? (i := 141) rfl))) rfl
set_option maxRecDepth 100000 in
theorem wk80 : Cond.code yX2_size cX2_size 1 (some .int) ∈ lw_good := gd_of (List.mem_append_right _ (List.mem_append_left _ (List.mem_of_getElem? (i := 142) rfl))) rfl
set_option maxRecDepth 100000 in
theorem wk81 : Cond.fieldLink RX2 15 "LineBlocks$Line" "count" "I" ∈ lw_good := gd_of (List.mem_append_right _ (List.mem_append_left _ (List.mem_of_getElem? (i := 27) rfl))) rfl
set_option maxRecDepth 100000 in
theorem wk82 : Cond.methodLink RX6 37 yX5_accept ∈ lw_good := gd_of (List.mem_append_right _ (List.mem_append_left _ (List.mem_of_getElem? (i := 143) rfl))) rfl
set_option maxRecDepth 100000 in
theorem wk83 : Cond.instanceMethod yX5_accept ∈ lw_good := gd_of (List.mem_append_right _ (List.mem_append_left _ (List.mem_of_getElem? (i := 144) rfl))) rfl
set_option maxRecDepth 100000 in
theorem wk84 : Cond.selects RX5 yX5_accept yX5_accept ∈ lw_good := gd_of (List.mem_append_right _ (List.mem_append_left _ (List.mem_of_getElem? (i := 145) rfl))) rfl
set_option maxRecDepth 100000 in
theorem wk85 : Cond.code yX5_accept cX5_accept 3 none ∈ lw_good := gd_of (List.mem_append_right _ (List.mem_append_left _ (List.mem_of_getElem? (i := 146) rfl))) rfl
set_option maxRecDepth 100000 in
theorem wk86 : Cond.methodLink RX5 32 yX5_sendGroup ∈ lw_good := gd_of (List.mem_append_right _ (List.mem_append_left _ (List.mem_of_getElem? (i := 147) rfl))) rfl
set_option maxRecDepth 100000 in
theorem wk87 : Cond.instanceMethod yX5_sendGroup ∈ lw_good := gd_of (List.mem_append_right _ (List.mem_append_left _ (List.mem_of_getElem? (i := 149) rfl))) rfl
set_option maxRecDepth 100000 in
theorem wk88 : Cond.selects RX5 yX5_sendGroup yX5_sendGroup ∈ lw_good := gd_of (List.mem_append_left _ (List.mem_of_getElem? (i := 0) rfl)) rfl
set_option maxRecDepth 100000 in
theorem wk89 : Cond.code yX5_sendGroup cX5_sendGroup 4 none ∈ lw_good := gd_of (List.mem_append_right _ (List.mem_append_left _ (List.mem_of_getElem? (i := 150) rfl))) rfl
set_option maxRecDepth 100000 in
theorem wk90 : Cond.methodLink RX5 46 yX0_typeOfGroup ∈ lw_good := gd_of (List.mem_append_right _ (List.mem_append_left _ (List.mem_of_getElem? (i := 151) rfl))) rfl
set_option maxRecDepth 100000 in
theorem wk91 : Cond.static yX0_typeOfGroup ∈ lw_good := gd_of (List.mem_append_right _ (List.mem_append_left _ (List.mem_of_getElem? (i := 152) rfl))) rfl
set_option maxRecDepth 100000 in
theorem wk92 : Cond.initialized RX0 ∈ lw_good := gd_of (List.mem_append_right _ (List.mem_append_left _ (List.mem_of_getElem? (i := 8) rfl))) rfl
set_option maxRecDepth 100000 in
theorem wk93 : Cond.code yX0_typeOfGroup cX0_typeOfGroup 2 (some .int) ∈ lw_good := gd_of (List.mem_append_right _ (List.mem_append_left _ (List.mem_of_getElem? (i := 153) rfl))) rfl
set_option maxRecDepth 100000 in
theorem wk94 : Cond.fieldLink RX0 19 "LineBlocks$Codec" "END_TYPES" "[I" ∈ lw_good := gd_of (List.mem_append_right _ (List.mem_append_left _ (List.mem_of_getElem? (i := 163) rfl))) rfl
set_option maxRecDepth 100000 in
theorem wk95 : Cond.methodLink RX0 9 yX0_leadingData ∈ lw_good := gd_of (List.mem_append_right _ (List.mem_append_left _ (List.mem_of_getElem? (i := 154) rfl))) rfl
set_option maxRecDepth 100000 in
theorem wk96 : Cond.static yX0_leadingData ∈ lw_good := gd_of (List.mem_append_right _ (List.mem_append_left _ (List.mem_of_getElem? (i := 155) rfl))) rfl
set_option maxRecDepth 100000 in
theorem wk97 : Cond.code yX0_leadingData cX0_leadingData 2 (some .int) ∈ lw_good := gd_of (List.mem_append_right _ (List.mem_append_left _ (List.mem_of_getElem? (i := 156) rfl))) rfl
set_option maxRecDepth 100000 in
theorem wk98 : Cond.methodLink RX0 57 yX0_isData ∈ lw_good := gd_of (List.mem_append_right _ (List.mem_append_left _ (List.mem_of_getElem? (i := 157) rfl))) rfl
set_option maxRecDepth 100000 in
theorem wk99 : Cond.static yX0_isData ∈ lw_good := gd_of (List.mem_append_right _ (List.mem_append_left _ (List.mem_of_getElem? (i := 158) rfl))) rfl
set_option maxRecDepth 100000 in
theorem wk100 : Cond.code yX0_isData cX0_isData 1 (some .boolean) ∈ lw_good := gd_of (List.mem_append_right _ (List.mem_append_left _ (List.mem_of_getElem? (i := 159) rfl))) rfl
set_option maxRecDepth 100000 in
theorem wk101 : Cond.methodLink RX0 15 yX0_areIdleOrError ∈ lw_good := gd_of (List.mem_append_right _ (List.mem_append_left _ (List.mem_of_getElem? (i := 160) rfl))) rfl
set_option maxRecDepth 100000 in
theorem wk102 : Cond.static yX0_areIdleOrError ∈ lw_good := gd_of (List.mem_append_right _ (List.mem_append_left _ (List.mem_of_getElem? (i := 161) rfl))) rfl
set_option maxRecDepth 100000 in
theorem wk103 : Cond.code yX0_areIdleOrError cX0_areIdleOrError 4 (some .boolean) ∈ lw_good := gd_of (List.mem_append_right _ (List.mem_append_left _ (List.mem_of_getElem? (i := 162) rfl))) rfl
set_option maxRecDepth 100000 in
theorem wk104 : Cond.methodLink RX0 23 yX0_areData ∈ lw_good := gd_of (List.mem_append_right _ (List.mem_append_left _ (List.mem_of_getElem? (i := 165) rfl))) rfl
set_option maxRecDepth 100000 in
theorem wk105 : Cond.static yX0_areData ∈ lw_good := gd_of (List.mem_append_right _ (List.mem_append_left _ (List.mem_of_getElem? (i := 166) rfl))) rfl
set_option maxRecDepth 100000 in
theorem wk106 : Cond.code yX0_areData cX0_areData 3 (some .boolean) ∈ lw_good := gd_of (List.mem_append_right _ (List.mem_append_left _ (List.mem_of_getElem? (i := 167) rfl))) rfl
set_option maxRecDepth 100000 in
theorem wk107 : Cond.methodLink RX5 50 yJ7_fill_53178 ∈ lw_good := gd_of (List.mem_append_right _ (List.mem_append_left _ (List.mem_of_getElem? (i := 168) rfl))) rfl
set_option maxRecDepth 100000 in
theorem wk108 : Cond.static yJ7_fill_53178 ∈ lw_good := gd_of (List.mem_append_right _ (List.mem_append_left _ (List.mem_of_getElem? (i := 169) rfl))) rfl
set_option maxRecDepth 100000 in
theorem wk109 : Cond.initialized RJ7 ∈ lw_good := gd_of (List.mem_append_right _ (List.mem_append_left _ (List.mem_of_getElem? (i := 9) rfl))) rfl
set_option maxRecDepth 100000 in
theorem wk110 : Cond.code yJ7_fill_53178 cJ7_fill_53178 4 none ∈ lw_good := gd_of (List.mem_append_right _ (List.mem_append_left _ (List.mem_of_getElem? (i := 170) rfl))) rfl
set_option maxRecDepth 100000 in
theorem wk111 : Cond.methodLink RX5 56 yX0_payloadOf ∈ lw_good := gd_of (List.mem_append_right _ (List.mem_append_left _ (List.mem_of_getElem? (i := 171) rfl))) rfl
set_option maxRecDepth 100000 in
theorem wk112 : Cond.static yX0_payloadOf ∈ lw_good := gd_of (List.mem_append_right _ (List.mem_append_left _ (List.mem_of_getElem? (i := 172) rfl))) rfl
set_option maxRecDepth 100000 in
theorem wk113 : Cond.code yX0_payloadOf cX0_payloadOf 5 (some .long) ∈ lw_good := gd_of (List.mem_append_right _ (List.mem_append_left _ (List.mem_of_getElem? (i := 173) rfl))) rfl
set_option maxRecDepth 100000 in
theorem wk114 : Cond.methodLink RX0 27 yX0_bitsOf ∈ lw_good := gd_of (List.mem_append_right _ (List.mem_append_left _ (List.mem_of_getElem? (i := 174) rfl))) rfl
set_option maxRecDepth 100000 in
theorem wk115 : Cond.static yX0_bitsOf ∈ lw_good := gd_of (List.mem_append_right _ (List.mem_append_left _ (List.mem_of_getElem? (i := 175) rfl))) rfl
set_option maxRecDepth 100000 in
theorem wk116 : Cond.code yX0_bitsOf cX0_bitsOf 3 (some .long) ∈ lw_good := gd_of (List.mem_append_right _ (List.mem_append_left _ (List.mem_of_getElem? (i := 176) rfl))) rfl
set_option maxRecDepth 100000 in
theorem wk117 : Cond.constantLong RX0 61 (30) ∈ lw_good := gd_of (List.mem_append_right _ (List.mem_append_left _ (List.mem_of_getElem? (i := 183) rfl))) rfl
set_option maxRecDepth 100000 in
theorem wk118 : Cond.methodLink RX0 50 yX0_dataShift ∈ lw_good := gd_of (List.mem_append_right _ (List.mem_append_left _ (List.mem_of_getElem? (i := 177) rfl))) rfl
set_option maxRecDepth 100000 in
theorem wk119 : Cond.static yX0_dataShift ∈ lw_good := gd_of (List.mem_append_right _ (List.mem_append_left _ (List.mem_of_getElem? (i := 178) rfl))) rfl
set_option maxRecDepth 100000 in
theorem wk120 : Cond.code yX0_dataShift cX0_dataShift 2 (some .int) ∈ lw_good := gd_of (List.mem_append_right _ (List.mem_append_left _ (List.mem_of_getElem? (i := 179) rfl))) rfl
set_option maxRecDepth 100000 in
theorem wk121 : Cond.methodLink RX0 31 yX0_endPlace ∈ lw_good := gd_of (List.mem_append_right _ (List.mem_append_left _ (List.mem_of_getElem? (i := 180) rfl))) rfl
set_option maxRecDepth 100000 in
theorem wk122 : Cond.static yX0_endPlace ∈ lw_good := gd_of (List.mem_append_right _ (List.mem_append_left _ (List.mem_of_getElem? (i := 181) rfl))) rfl
set_option maxRecDepth 100000 in
theorem wk123 : Cond.code yX0_endPlace cX0_endPlace 2 (some .int) ∈ lw_good := gd_of (List.mem_append_right _ (List.mem_append_left _ (List.mem_of_getElem? (i := 182) rfl))) rfl
set_option maxRecDepth 100000 in
theorem wk124 : Cond.methodLink RX0 54 yX0_codeShift ∈ lw_good := gd_of (List.mem_append_right _ (List.mem_append_left _ (List.mem_of_getElem? (i := 184) rfl))) rfl
set_option maxRecDepth 100000 in
theorem wk125 : Cond.static yX0_codeShift ∈ lw_good := gd_of (List.mem_append_right _ (List.mem_append_left _ (List.mem_of_getElem? (i := 185) rfl))) rfl
set_option maxRecDepth 100000 in
theorem wk126 : Cond.code yX0_codeShift cX0_codeShift 1 (some .int) ∈ lw_good := gd_of (List.mem_append_right _ (List.mem_append_left _ (List.mem_of_getElem? (i := 186) rfl))) rfl
set_option maxRecDepth 100000 in
theorem wk127 : Cond.methodLink RX5 42 yX5_sendBlock ∈ lw_good := gd_of (List.mem_append_right _ (List.mem_append_left _ (List.mem_of_getElem? (i := 187) rfl))) rfl
set_option maxRecDepth 100000 in
theorem wk128 : Cond.instanceMethod yX5_sendBlock ∈ lw_good := gd_of (List.mem_append_right _ (List.mem_append_left _ (List.mem_of_getElem? (i := 189) rfl))) rfl
set_option maxRecDepth 100000 in
theorem wk129 : Cond.selects RX5 yX5_sendBlock yX5_sendBlock ∈ lw_good := gd_of (List.mem_append_left _ (List.mem_of_getElem? (i := 1) rfl)) rfl
set_option maxRecDepth 100000 in
theorem wk130 : Cond.code yX5_sendBlock cX5_sendBlock 6 none ∈ lw_good := gd_of (List.mem_append_right _ (List.mem_append_left _ (List.mem_of_getElem? (i := 190) rfl))) rfl
set_option maxRecDepth 100000 in
theorem wk131 : Cond.methodLink RX5 60 yX2_append ∈ lw_good := gd_of (List.mem_append_right _ (List.mem_append_left _ (List.mem_of_getElem? (i := 191) rfl))) rfl
set_option maxRecDepth 100000 in
theorem wk132 : Cond.instanceMethod yX2_append ∈ lw_good := gd_of (List.mem_append_right _ (List.mem_append_left _ (List.mem_of_getElem? (i := 192) rfl))) rfl
set_option maxRecDepth 100000 in
theorem wk133 : Cond.selects RX2 yX2_append yX2_append ∈ lw_good := gd_of (List.mem_append_right _ (List.mem_append_left _ (List.mem_of_getElem? (i := 193) rfl))) rfl
set_option maxRecDepth 100000 in
theorem wk134 : Cond.code yX2_append cX2_append 3 none ∈ lw_good := gd_of (List.mem_append_right _ (List.mem_append_left _ (List.mem_of_getElem? (i := 194) rfl))) rfl
set_option maxRecDepth 100000 in
theorem wk135 : Cond.constantLong RX2 23 (-1) ∈ lw_good := gd_of (List.mem_append_right _ (List.mem_append_left _ (List.mem_of_getElem? (i := 202) rfl))) rfl
set_option maxRecDepth 100000 in
theorem wk136 : Cond.methodLink RX2 19 yX2_ringPlace ∈ lw_good := gd_of (List.mem_append_right _ (List.mem_append_left _ (List.mem_of_getElem? (i := 195) rfl))) rfl
set_option maxRecDepth 100000 in
theorem wk137 : Cond.instanceMethod yX2_ringPlace ∈ lw_good := gd_of (List.mem_append_right _ (List.mem_append_left _ (List.mem_of_getElem? (i := 197) rfl))) rfl
set_option maxRecDepth 100000 in
theorem wk138 : Cond.selects RX2 yX2_ringPlace yX2_ringPlace ∈ lw_good := gd_of (List.mem_append_left _ (List.mem_of_getElem? (i := 2) rfl)) rfl
set_option maxRecDepth 100000 in
theorem wk139 : Cond.code yX2_ringPlace cX2_ringPlace 2 (some .int) ∈ lw_good := gd_of (List.mem_append_right _ (List.mem_append_left _ (List.mem_of_getElem? (i := 198) rfl))) rfl
set_option maxRecDepth 100000 in
theorem wk140 : Cond.fieldLink RX2 25 "LineBlocks$Line" "first" "I" ∈ lw_good := gd_of (List.mem_append_right _ (List.mem_append_left _ (List.mem_of_getElem? (i := 26) rfl))) rfl
set_option maxRecDepth 100000 in
theorem wk141 : Cond.methodLink RX2 28 yJ9_floorMod_7cf53 ∈ lw_good := gd_of (List.mem_append_right _ (List.mem_append_left _ (List.mem_of_getElem? (i := 199) rfl))) rfl
set_option maxRecDepth 100000 in
theorem wk142 : Cond.static yJ9_floorMod_7cf53 ∈ lw_good := gd_of (List.mem_append_right _ (List.mem_append_left _ (List.mem_of_getElem? (i := 200) rfl))) rfl
set_option maxRecDepth 100000 in
theorem wk143 : Cond.initialized RJ9 ∈ lw_good := gd_of (List.mem_append_right _ (List.mem_append_left _ (List.mem_of_getElem? (i := 10) rfl))) rfl
set_option maxRecDepth 100000 in
theorem wk144 : Cond.code yJ9_floorMod_7cf53 cJ9_floorMod_7cf53 3 (some .int) ∈ lw_good := gd_of (List.mem_append_right _ (List.mem_append_left _ (List.mem_of_getElem? (i := 201) rfl))) rfl
set_option maxRecDepth 100000 in
theorem wk145 : Cond.methodLink RX5 66 yX4_scramble ∈ lw_good := gd_of (List.mem_append_right _ (List.mem_append_left _ (List.mem_of_getElem? (i := 203) rfl))) rfl
set_option maxRecDepth 100000 in
theorem wk146 : Cond.instanceMethod yX4_scramble ∈ lw_good := gd_of (List.mem_append_right _ (List.mem_append_left _ (List.mem_of_getElem? (i := 204) rfl))) rfl
set_option maxRecDepth 100000 in
theorem wk147 : Cond.selects RX4 yX4_scramble yX4_scramble ∈ lw_good := gd_of (List.mem_append_right _ (List.mem_append_left _ (List.mem_of_getElem? (i := 205) rfl))) rfl
set_option maxRecDepth 100000 in
theorem wk148 : Cond.code yX4_scramble cX4_scramble 3 (some .int) ∈ lw_good := gd_of (List.mem_append_right _ (List.mem_append_left _ (List.mem_of_getElem? (i := 206) rfl))) rfl
set_option maxRecDepth 100000 in
theorem wk149 : Cond.methodLink RX4 15 yX4_mixed ∈ lw_good := gd_of (List.mem_append_right _ (List.mem_append_left _ (List.mem_of_getElem? (i := 207) rfl))) rfl
set_option maxRecDepth 100000 in
theorem wk150 : Cond.instanceMethod yX4_mixed ∈ lw_good := gd_of (List.mem_append_right _ (List.mem_append_left _ (List.mem_of_getElem? (i := 209) rfl))) rfl
set_option maxRecDepth 100000 in
theorem wk151 : Cond.selects RX4 yX4_mixed yX4_mixed ∈ lw_good := gd_of (List.mem_append_left _ (List.mem_of_getElem? (i := 3) rfl)) rfl
set_option maxRecDepth 100000 in
theorem wk152 : Cond.code yX4_mixed cX4_mixed 4 (some .int) ∈ lw_good := gd_of (List.mem_append_right _ (List.mem_append_left _ (List.mem_of_getElem? (i := 210) rfl))) rfl
set_option maxRecDepth 100000 in
theorem wk153 : Cond.fieldLink RX4 7 "LineBlocks$Scrambler" "latest" "J" ∈ lw_good := gd_of (List.mem_append_right _ (List.mem_append_left _ (List.mem_of_getElem? (i := 48) rfl))) rfl
set_option maxRecDepth 100000 in
theorem wk154 : Cond.methodLink RX4 19 yX4_keep ∈ lw_good := gd_of (List.mem_append_right _ (List.mem_append_left _ (List.mem_of_getElem? (i := 211) rfl))) rfl
set_option maxRecDepth 100000 in
theorem wk155 : Cond.instanceMethod yX4_keep ∈ lw_good := gd_of (List.mem_append_right _ (List.mem_append_left _ (List.mem_of_getElem? (i := 213) rfl))) rfl
set_option maxRecDepth 100000 in
theorem wk156 : Cond.selects RX4 yX4_keep yX4_keep ∈ lw_good := gd_of (List.mem_append_left _ (List.mem_of_getElem? (i := 4) rfl)) rfl
set_option maxRecDepth 100000 in
theorem wk157 : Cond.code yX4_keep cX4_keep 2 none ∈ lw_good := gd_of (List.mem_append_right _ (List.mem_append_left _ (List.mem_of_getElem? (i := 214) rfl))) rfl
set_option maxRecDepth 100000 in
theorem wk158 : Cond.constantLong RX4 13 (288230376151711743) ∈ lw_good := gd_of (List.mem_append_right _ (List.mem_append_left _ (List.mem_of_getElem? (i := 215) rfl))) rfl
set_option maxRecDepth 100000 in
theorem wk160 : Cond.instanceMethod yX7_put ∈ lw_good := gd_of (List.mem_append_right _ (List.mem_append_right _ (List.mem_append_left _ (List.mem_of_getElem? (i := 224) rfl)))) rfl
set_option maxRecDepth 100000 in
theorem wk161 : Cond.selects RX7 yX7_put yX7_put ∈ lw_good := gd_of (List.mem_append_right _ (List.mem_append_right _ (List.mem_append_left _ (List.mem_of_getElem? (i := 225) rfl)))) rfl
set_option maxRecDepth 100000 in
theorem wk162 : Cond.code yX7_put cX7_put 2 (some .int) ∈ lw_good := gd_of (List.mem_append_right _ (List.mem_append_right _ (List.mem_append_left _ (List.mem_of_getElem? (i := 226) rfl)))) rfl
set_option maxRecDepth 100000 in
theorem wk163 : Cond.fieldLink RX7 33 "LineBlocksModel" "thrown" "I" ∈ lw_good := gd_of (List.mem_append_right _ (List.mem_append_right _ (List.mem_append_left _ (List.mem_of_getElem? (i := 164) rfl)))) rfl
set_option maxRecDepth 100000 in
theorem wk164 : Cond.fieldLink RX7 73 "LineBlocksModel" "waiting" "I" ∈ lw_good := gd_of (List.mem_append_right _ (List.mem_append_right _ (List.mem_append_left _ (List.mem_of_getElem? (i := 165) rfl)))) rfl
set_option maxRecDepth 100000 in
theorem wk165 : Cond.methodLink RX7 76 yX7_send ∈ lw_good := gd_of (List.mem_append_right _ (List.mem_append_right _ (List.mem_append_left _ (List.mem_of_getElem? (i := 227) rfl)))) rfl
set_option maxRecDepth 100000 in
theorem wk166 : Cond.instanceMethod yX7_send ∈ lw_good := gd_of (List.mem_append_right _ (List.mem_append_right _ (List.mem_append_left _ (List.mem_of_getElem? (i := 229) rfl)))) rfl
set_option maxRecDepth 100000 in
theorem wk167 : Cond.selects RX7 yX7_send yX7_send ∈ lw_good := gd_of (List.mem_append_left _ (List.mem_of_getElem? (i := 12) rfl)) rfl
set_option maxRecDepth 100000 in
theorem wk168 : Cond.code yX7_send cX7_send 3 none ∈ lw_good := gd_of (List.mem_append_right _ (List.mem_append_right _ (List.mem_append_left _ (List.mem_of_getElem? (i := 230) rfl)))) rfl
set_option maxRecDepth 100000 in
theorem wk169 : Cond.methodLink RX7 63 yX7_encode ∈ lw_good := gd_of (List.mem_append_right _ (List.mem_append_right _ (List.mem_append_left _ (List.mem_of_getElem? (i := 231) rfl)))) rfl
set_option maxRecDepth 100000 in
theorem wk170 : Cond.instanceMethod yX7_encode ∈ lw_good := gd_of (List.mem_append_right _ (List.mem_append_right _ (List.mem_append_left _ (List.mem_of_getElem? (i := 233) rfl)))) rfl
set_option maxRecDepth 100000 in
theorem wk171 : Cond.selects RX7 yX7_encode yX7_encode ∈ lw_good := gd_of (List.mem_append_left _ (List.mem_of_getElem? (i := 13) rfl)) rfl
set_option maxRecDepth 100000 in
theorem wk172 : Cond.code yX7_encode cX7_encode 4 none ∈ lw_good := gd_of (List.mem_append_right _ (List.mem_append_right _ (List.mem_append_left _ (List.mem_of_getElem? (i := 234) rfl)))) rfl
set_option maxRecDepth 100000 in
theorem wk173 : Cond.methodLink RX7 51 yX7_are ∈ lw_good := gd_of (List.mem_append_right _ (List.mem_append_right _ (List.mem_append_left _ (List.mem_of_getElem? (i := 235) rfl)))) rfl
set_option maxRecDepth 100000 in
theorem wk174 : Cond.instanceMethod yX7_are ∈ lw_good := gd_of (List.mem_append_right _ (List.mem_append_right _ (List.mem_append_left _ (List.mem_of_getElem? (i := 237) rfl)))) rfl
set_option maxRecDepth 100000 in
theorem wk175 : Cond.selects RX7 yX7_are yX7_are ∈ lw_good := gd_of (List.mem_append_left _ (List.mem_of_getElem? (i := 14) rfl)) rfl
set_option maxRecDepth 100000 in
theorem wk176 : Cond.code yX7_are cX7_are 6 (some .boolean) ∈ lw_good := gd_of (List.mem_append_right _ (List.mem_append_right _ (List.mem_append_left _ (List.mem_of_getElem? (i := 238) rfl)))) rfl
set_option maxRecDepth 100000 in
theorem wk177 : Cond.methodLink RX7 40 yX7_isData ∈ lw_good := gd_of (List.mem_append_right _ (List.mem_append_right _ (List.mem_append_left _ (List.mem_of_getElem? (i := 239) rfl)))) rfl
set_option maxRecDepth 100000 in
theorem wk178 : Cond.static yX7_isData ∈ lw_good := gd_of (List.mem_append_right _ (List.mem_append_right _ (List.mem_append_right _ (List.mem_of_getElem? (i := 0) rfl)))) rfl
set_option maxRecDepth 100000 in
theorem wk179 : Cond.code yX7_isData cX7_isData 1 (some .boolean) ∈ lw_good := gd_of (List.mem_append_right _ (List.mem_append_right _ (List.mem_append_right _ (List.mem_of_getElem? (i := 1) rfl)))) rfl
set_option maxRecDepth 100000 in
theorem wk180 : Cond.methodLink RX7 44 yX7_isQuiet ∈ lw_good := gd_of (List.mem_append_right _ (List.mem_append_right _ (List.mem_append_right _ (List.mem_of_getElem? (i := 2) rfl)))) rfl
set_option maxRecDepth 100000 in
theorem wk181 : Cond.static yX7_isQuiet ∈ lw_good := gd_of (List.mem_append_right _ (List.mem_append_right _ (List.mem_append_right _ (List.mem_of_getElem? (i := 3) rfl)))) rfl
set_option maxRecDepth 100000 in
theorem wk182 : Cond.code yX7_isQuiet cX7_isQuiet 1 (some .boolean) ∈ lw_good := gd_of (List.mem_append_right _ (List.mem_append_right _ (List.mem_append_right _ (List.mem_of_getElem? (i := 4) rfl)))) rfl
set_option maxRecDepth 100000 in
theorem wk183 : Cond.methodLink RX7 47 yX7_setBits ∈ lw_good := gd_of (List.mem_append_right _ (List.mem_append_right _ (List.mem_append_right _ (List.mem_of_getElem? (i := 5) rfl)))) rfl
set_option maxRecDepth 100000 in
theorem wk184 : Cond.instanceMethod yX7_setBits ∈ lw_good := gd_of (List.mem_append_right _ (List.mem_append_right _ (List.mem_append_right _ (List.mem_of_getElem? (i := 7) rfl)))) rfl
set_option maxRecDepth 100000 in
theorem wk185 : Cond.selects RX7 yX7_setBits yX7_setBits ∈ lw_good := gd_of (List.mem_append_left _ (List.mem_of_getElem? (i := 15) rfl)) rfl
set_option maxRecDepth 100000 in
theorem wk186 : Cond.code yX7_setBits cX7_setBits 5 none ∈ lw_good := gd_of (List.mem_append_right _ (List.mem_append_right _ (List.mem_append_right _ (List.mem_of_getElem? (i := 8) rfl)))) rfl
set_option maxRecDepth 100000 in
theorem wk187 : Cond.methodLink RX7 55 yX7_putCode ∈ lw_good := gd_of (List.mem_append_right _ (List.mem_append_right _ (List.mem_append_right _ (List.mem_of_getElem? (i := 9) rfl)))) rfl
set_option maxRecDepth 100000 in
theorem wk188 : Cond.instanceMethod yX7_putCode ∈ lw_good := gd_of (List.mem_append_right _ (List.mem_append_right _ (List.mem_append_right _ (List.mem_of_getElem? (i := 11) rfl)))) rfl
set_option maxRecDepth 100000 in
theorem wk189 : Cond.selects RX7 yX7_putCode yX7_putCode ∈ lw_good := gd_of (List.mem_append_left _ (List.mem_of_getElem? (i := 16) rfl)) rfl
set_option maxRecDepth 100000 in
theorem wk190 : Cond.code yX7_putCode cX7_putCode 3 none ∈ lw_good := gd_of (List.mem_append_right _ (List.mem_append_right _ (List.mem_append_right _ (List.mem_of_getElem? (i := 12) rfl)))) rfl
set_option maxRecDepth 100000 in
theorem wk191 : Cond.methodLink RX7 59 yX7_typeOf ∈ lw_good := gd_of (List.mem_append_right _ (List.mem_append_right _ (List.mem_append_right _ (List.mem_of_getElem? (i := 13) rfl)))) rfl
set_option maxRecDepth 100000 in
theorem wk192 : Cond.static yX7_typeOf ∈ lw_good := gd_of (List.mem_append_right _ (List.mem_append_right _ (List.mem_append_right _ (List.mem_of_getElem? (i := 14) rfl)))) rfl
set_option maxRecDepth 100000 in
theorem wk193 : Cond.code yX7_typeOf cX7_typeOf 1 (some .int) ∈ lw_good := gd_of (List.mem_append_right _ (List.mem_append_right _ (List.mem_append_right _ (List.mem_of_getElem? (i := 15) rfl)))) rfl
set_option maxRecDepth 100000 in
theorem wk194 : Cond.methodLink RX7 66 yX7_mixed ∈ lw_good := gd_of (List.mem_append_right _ (List.mem_append_right _ (List.mem_append_right _ (List.mem_of_getElem? (i := 16) rfl)))) rfl
set_option maxRecDepth 100000 in
theorem wk195 : Cond.instanceMethod yX7_mixed ∈ lw_good := gd_of (List.mem_append_right _ (List.mem_append_right _ (List.mem_append_right _ (List.mem_of_getElem? (i := 18) rfl)))) rfl
set_option maxRecDepth 100000 in
theorem wk196 : Cond.selects RX7 yX7_mixed yX7_mixed ∈ lw_good := gd_of (List.mem_append_left _ (List.mem_of_getElem? (i := 17) rfl)) rfl
set_option maxRecDepth 100000 in
theorem wk197 : Cond.code yX7_mixed cX7_mixed 3 (some .int) ∈ lw_good := gd_of (List.mem_append_right _ (List.mem_append_right _ (List.mem_append_right _ (List.mem_of_getElem? (i := 19) rfl)))) rfl
set_option maxRecDepth 100000 in
theorem wk198 : Cond.methodLink RX7 70 yX7_remember ∈ lw_good := gd_of (List.mem_append_right _ (List.mem_append_right _ (List.mem_append_right _ (List.mem_of_getElem? (i := 20) rfl)))) rfl
set_option maxRecDepth 100000 in
theorem wk199 : Cond.instanceMethod yX7_remember ∈ lw_good := gd_of (List.mem_append_right _ (List.mem_append_right _ (List.mem_append_right _ (List.mem_of_getElem? (i := 22) rfl)))) rfl
set_option maxRecDepth 100000 in
theorem wk200 : Cond.selects RX7 yX7_remember yX7_remember ∈ lw_good := gd_of (List.mem_append_left _ (List.mem_of_getElem? (i := 18) rfl)) rfl
set_option maxRecDepth 100000 in
theorem wk201 : Cond.code yX7_remember cX7_remember 4 none ∈ lw_good := gd_of (List.mem_append_right _ (List.mem_append_right _ (List.mem_append_right _ (List.mem_of_getElem? (i := 23) rfl)))) rfl
set_option maxRecDepth 100000 in
theorem wk206 : Cond.methodLink RX6 41 yX5_acceptBytes ∈ lw_good := gd_of (List.mem_append_right _ (List.mem_append_left _ (List.mem_of_getElem? (i := 220) rfl))) rfl
set_option maxRecDepth 100000 in
theorem wk207 : Cond.instanceMethod yX5_acceptBytes ∈ lw_good := gd_of (List.mem_append_right _ (List.mem_append_left _ (List.mem_of_getElem? (i := 221) rfl))) rfl
set_option maxRecDepth 100000 in
theorem wk208 : Cond.selects RX5 yX5_acceptBytes yX5_acceptBytes ∈ lw_good := gd_of (List.mem_append_right _ (List.mem_append_left _ (List.mem_of_getElem? (i := 222) rfl))) rfl
set_option maxRecDepth 100000 in
theorem wk209 : Cond.code yX5_acceptBytes cX5_acceptBytes 4 none ∈ lw_good := gd_of (List.mem_append_right _ (List.mem_append_left _ (List.mem_of_getElem? (i := 223) rfl))) rfl
set_option maxRecDepth 100000 in
theorem wk210 : Cond.methodLink RX5 36 yX5_accept ∈ lw_good := gd_of (List.mem_append_right _ (List.mem_append_left _ (List.mem_of_getElem? (i := 224) rfl))) rfl
set_option maxRecDepth 100000 in
theorem wk215 : Cond.methodLink RX7 79 yX7_put ∈ lw_good := gd_of (List.mem_append_right _ (List.mem_append_right _ (List.mem_append_right _ (List.mem_of_getElem? (i := 28) rfl)))) rfl
set_option maxRecDepth 100000 in
theorem wk220 : Cond.methodLink RX6 44 yX5_sendIdleGroups ∈ lw_good := gd_of (List.mem_append_right _ (List.mem_append_left _ (List.mem_of_getElem? (i := 229) rfl))) rfl
set_option maxRecDepth 100000 in
theorem wk221 : Cond.instanceMethod yX5_sendIdleGroups ∈ lw_good := gd_of (List.mem_append_right _ (List.mem_append_left _ (List.mem_of_getElem? (i := 230) rfl))) rfl
set_option maxRecDepth 100000 in
theorem wk222 : Cond.selects RX5 yX5_sendIdleGroups yX5_sendIdleGroups ∈ lw_good := gd_of (List.mem_append_right _ (List.mem_append_left _ (List.mem_of_getElem? (i := 231) rfl))) rfl
set_option maxRecDepth 100000 in
theorem wk223 : Cond.code yX5_sendIdleGroups cX5_sendIdleGroups 4 none ∈ lw_good := gd_of (List.mem_append_right _ (List.mem_append_left _ (List.mem_of_getElem? (i := 232) rfl))) rfl
set_option maxRecDepth 100000 in
theorem wk224 : Cond.constantLong RX5 40 (30) ∈ lw_good := gd_of (List.mem_append_right _ (List.mem_append_left _ (List.mem_of_getElem? (i := 233) rfl))) rfl
set_option maxRecDepth 100000 in
theorem wk233 : Cond.constantLong RX6 52 (-12) ∈ lw_good := gd_of (List.mem_append_right _ (List.mem_append_right _ (List.mem_append_left _ (List.mem_of_getElem? (i := 11) rfl)))) rfl
set_option maxRecDepth 100000 in
theorem wk234 : Cond.methodLink RX6 47 yX5_exchangeState ∈ lw_good := gd_of (List.mem_append_right _ (List.mem_append_left _ (List.mem_of_getElem? (i := 238) rfl))) rfl
set_option maxRecDepth 100000 in
theorem wk235 : Cond.instanceMethod yX5_exchangeState ∈ lw_good := gd_of (List.mem_append_right _ (List.mem_append_left _ (List.mem_of_getElem? (i := 239) rfl))) rfl
set_option maxRecDepth 100000 in
theorem wk236 : Cond.selects RX5 yX5_exchangeState yX5_exchangeState ∈ lw_good := gd_of (List.mem_append_right _ (List.mem_append_right _ (List.mem_append_left _ (List.mem_of_getElem? (i := 0) rfl)))) rfl
set_option maxRecDepth 100000 in
theorem wk237 : Cond.code yX5_exchangeState cX5_exchangeState 3 (some .long) ∈ lw_good := gd_of (List.mem_append_right _ (List.mem_append_right _ (List.mem_append_left _ (List.mem_of_getElem? (i := 1) rfl)))) rfl
set_option maxRecDepth 100000 in
theorem wk238 : Cond.methodLink RX5 28 yX4_exchange ∈ lw_good := gd_of (List.mem_append_right _ (List.mem_append_right _ (List.mem_append_left _ (List.mem_of_getElem? (i := 2) rfl)))) rfl
set_option maxRecDepth 100000 in
theorem wk239 : Cond.instanceMethod yX4_exchange ∈ lw_good := gd_of (List.mem_append_right _ (List.mem_append_right _ (List.mem_append_left _ (List.mem_of_getElem? (i := 3) rfl)))) rfl
set_option maxRecDepth 100000 in
theorem wk240 : Cond.selects RX4 yX4_exchange yX4_exchange ∈ lw_good := gd_of (List.mem_append_right _ (List.mem_append_right _ (List.mem_append_left _ (List.mem_of_getElem? (i := 4) rfl)))) rfl
set_option maxRecDepth 100000 in
theorem wk241 : Cond.code yX4_exchange cX4_exchange 5 (some .long) ∈ lw_good := gd_of (List.mem_append_right _ (List.mem_append_right _ (List.mem_append_left _ (List.mem_of_getElem? (i := 5) rfl)))) rfl
set_option maxRecDepth 100000 in
theorem wk242 : Cond.methodLink RX6 51 yX3_exchangeState ∈ lw_good := gd_of (List.mem_append_right _ (List.mem_append_right _ (List.mem_append_left _ (List.mem_of_getElem? (i := 6) rfl)))) rfl
set_option maxRecDepth 100000 in
theorem wk243 : Cond.instanceMethod yX3_exchangeState ∈ lw_good := gd_of (List.mem_append_right _ (List.mem_append_right _ (List.mem_append_left _ (List.mem_of_getElem? (i := 7) rfl)))) rfl
set_option maxRecDepth 100000 in
theorem wk244 : Cond.selects RX3 yX3_exchangeState yX3_exchangeState ∈ lw_good := gd_of (List.mem_append_right _ (List.mem_append_right _ (List.mem_append_left _ (List.mem_of_getElem? (i := 8) rfl)))) rfl
set_option maxRecDepth 100000 in
theorem wk245 : Cond.code yX3_exchangeState cX3_exchangeState 3 (some .long) ∈ lw_good := gd_of (List.mem_append_right _ (List.mem_append_right _ (List.mem_append_left _ (List.mem_of_getElem? (i := 9) rfl)))) rfl
set_option maxRecDepth 100000 in
theorem wk246 : Cond.methodLink RX3 50 yX4_exchange ∈ lw_good := gd_of (List.mem_append_right _ (List.mem_append_right _ (List.mem_append_left _ (List.mem_of_getElem? (i := 10) rfl)))) rfl
set_option maxRecDepth 100000 in
theorem wk251 : Cond.constantLong RX7 36 (-12) ∈ lw_good := gd_of (List.mem_append_right _ (List.mem_append_right _ (List.mem_append_left _ (List.mem_of_getElem? (i := 221) rfl)))) rfl
set_option maxRecDepth 100000 in
theorem wk252 : Cond.constantLong RX7 38 (2) ∈ lw_good := gd_of (List.mem_append_right _ (List.mem_append_right _ (List.mem_append_left _ (List.mem_of_getElem? (i := 222) rfl)))) rfl
set_option maxRecDepth 100000 in
theorem wk265 : Cond.methodLink RX6 54 yX2_has ∈ lw_good := gd_of (List.mem_append_right _ (List.mem_append_right _ (List.mem_append_left _ (List.mem_of_getElem? (i := 20) rfl)))) rfl
set_option maxRecDepth 100000 in
theorem wk266 : Cond.instanceMethod yX2_has ∈ lw_good := gd_of (List.mem_append_right _ (List.mem_append_right _ (List.mem_append_left _ (List.mem_of_getElem? (i := 21) rfl)))) rfl
set_option maxRecDepth 100000 in
theorem wk267 : Cond.selects RX2 yX2_has yX2_has ∈ lw_good := gd_of (List.mem_append_right _ (List.mem_append_right _ (List.mem_append_left _ (List.mem_of_getElem? (i := 22) rfl)))) rfl
set_option maxRecDepth 100000 in
theorem wk268 : Cond.code yX2_has cX2_has 2 (some .boolean) ∈ lw_good := gd_of (List.mem_append_right _ (List.mem_append_right _ (List.mem_append_left _ (List.mem_of_getElem? (i := 23) rfl)))) rfl
set_option maxRecDepth 100000 in
theorem wk269 : Cond.methodLink RX6 58 yX2_at ∈ lw_good := gd_of (List.mem_append_right _ (List.mem_append_right _ (List.mem_append_left _ (List.mem_of_getElem? (i := 24) rfl)))) rfl
set_option maxRecDepth 100000 in
theorem wk270 : Cond.instanceMethod yX2_at ∈ lw_good := gd_of (List.mem_append_right _ (List.mem_append_right _ (List.mem_append_left _ (List.mem_of_getElem? (i := 25) rfl)))) rfl
set_option maxRecDepth 100000 in
theorem wk271 : Cond.selects RX2 yX2_at yX2_at ∈ lw_good := gd_of (List.mem_append_right _ (List.mem_append_right _ (List.mem_append_left _ (List.mem_of_getElem? (i := 26) rfl)))) rfl
set_option maxRecDepth 100000 in
theorem wk272 : Cond.code yX2_at cX2_at 3 (some .int) ∈ lw_good := gd_of (List.mem_append_right _ (List.mem_append_right _ (List.mem_append_left _ (List.mem_of_getElem? (i := 27) rfl)))) rfl
set_option maxRecDepth 100000 in
theorem wk281 : Cond.methodLink RX6 62 yX2_flip ∈ lw_good := gd_of (List.mem_append_right _ (List.mem_append_right _ (List.mem_append_left _ (List.mem_of_getElem? (i := 32) rfl)))) rfl
set_option maxRecDepth 100000 in
theorem wk282 : Cond.instanceMethod yX2_flip ∈ lw_good := gd_of (List.mem_append_right _ (List.mem_append_right _ (List.mem_append_left _ (List.mem_of_getElem? (i := 33) rfl)))) rfl
set_option maxRecDepth 100000 in
theorem wk283 : Cond.selects RX2 yX2_flip yX2_flip ∈ lw_good := gd_of (List.mem_append_right _ (List.mem_append_right _ (List.mem_append_left _ (List.mem_of_getElem? (i := 34) rfl)))) rfl
set_option maxRecDepth 100000 in
theorem wk284 : Cond.code yX2_flip cX2_flip 3 none ∈ lw_good := gd_of (List.mem_append_right _ (List.mem_append_right _ (List.mem_append_left _ (List.mem_of_getElem? (i := 35) rfl)))) rfl
set_option maxRecDepth 100000 in
theorem wk293 : Cond.methodLink RX6 66 yX2_append ∈ lw_good := gd_of (List.mem_append_right _ (List.mem_append_right _ (List.mem_append_left _ (List.mem_of_getElem? (i := 40) rfl)))) rfl
set_option maxRecDepth 100000 in
theorem wk302 : Cond.methodLink RX6 72 Lib.Math.min.name ∈ lw_good := gd_of (List.mem_append_right _ (List.mem_append_right _ (List.mem_append_left _ (List.mem_of_getElem? (i := 53) rfl)))) rfl
set_option maxRecDepth 100000 in
theorem wk303 : Cond.static Lib.Math.min.name ∈ lw_good := gd_of (List.mem_append_right _ (List.mem_append_right _ (List.mem_append_left _ (List.mem_of_getElem? (i := 54) rfl)))) rfl
set_option maxRecDepth 100000 in
theorem wk305 : Cond.code Lib.Math.min.name Lib.Math.min.code 2 (some .int) ∈ lw_good := gd_of (List.mem_append_right _ (List.mem_append_right _ (List.mem_append_left _ (List.mem_of_getElem? (i := 55) rfl)))) rfl
set_option maxRecDepth 100000 in
theorem wk306 : Cond.methodLink RX6 69 yX3_groupCount ∈ lw_good := gd_of (List.mem_append_right _ (List.mem_append_right _ (List.mem_append_left _ (List.mem_of_getElem? (i := 45) rfl)))) rfl
set_option maxRecDepth 100000 in
theorem wk307 : Cond.instanceMethod yX3_groupCount ∈ lw_good := gd_of (List.mem_append_right _ (List.mem_append_right _ (List.mem_append_left _ (List.mem_of_getElem? (i := 46) rfl)))) rfl
set_option maxRecDepth 100000 in
theorem wk308 : Cond.selects RX3 yX3_groupCount yX3_groupCount ∈ lw_good := gd_of (List.mem_append_right _ (List.mem_append_right _ (List.mem_append_left _ (List.mem_of_getElem? (i := 47) rfl)))) rfl
set_option maxRecDepth 100000 in
theorem wk309 : Cond.code yX3_groupCount cX3_groupCount 1 (some .int) ∈ lw_good := gd_of (List.mem_append_right _ (List.mem_append_right _ (List.mem_append_left _ (List.mem_of_getElem? (i := 48) rfl)))) rfl
set_option maxRecDepth 100000 in
theorem wk310 : Cond.methodLink RX3 39 yX1_count ∈ lw_good := gd_of (List.mem_append_right _ (List.mem_append_right _ (List.mem_append_left _ (List.mem_of_getElem? (i := 49) rfl)))) rfl
set_option maxRecDepth 100000 in
theorem wk311 : Cond.instanceMethod yX1_count ∈ lw_good := gd_of (List.mem_append_right _ (List.mem_append_right _ (List.mem_append_left _ (List.mem_of_getElem? (i := 50) rfl)))) rfl
set_option maxRecDepth 100000 in
theorem wk312 : Cond.selects RX1 yX1_count yX1_count ∈ lw_good := gd_of (List.mem_append_right _ (List.mem_append_right _ (List.mem_append_left _ (List.mem_of_getElem? (i := 51) rfl)))) rfl
set_option maxRecDepth 100000 in
theorem wk313 : Cond.code yX1_count cX1_count 1 (some .int) ∈ lw_good := gd_of (List.mem_append_right _ (List.mem_append_right _ (List.mem_append_left _ (List.mem_of_getElem? (i := 52) rfl)))) rfl
set_option maxRecDepth 100000 in
theorem wk314 : Cond.fieldLink RX1 19 "LineBlocks$Groups" "count" "I" ∈ lw_good := gd_of (List.mem_append_right _ (List.mem_append_left _ (List.mem_of_getElem? (i := 79) rfl))) rfl
set_option maxRecDepth 100000 in
theorem wk315 : Cond.methodLink RX6 78 yX3_take ∈ lw_good := gd_of (List.mem_append_right _ (List.mem_append_right _ (List.mem_append_left _ (List.mem_of_getElem? (i := 56) rfl)))) rfl
set_option maxRecDepth 100000 in
theorem wk316 : Cond.instanceMethod yX3_take ∈ lw_good := gd_of (List.mem_append_right _ (List.mem_append_right _ (List.mem_append_left _ (List.mem_of_getElem? (i := 57) rfl)))) rfl
set_option maxRecDepth 100000 in
theorem wk317 : Cond.selects RX3 yX3_take yX3_take ∈ lw_good := gd_of (List.mem_append_right _ (List.mem_append_right _ (List.mem_append_left _ (List.mem_of_getElem? (i := 58) rfl)))) rfl
set_option maxRecDepth 100000 in
theorem wk318 : Cond.code yX3_take cX3_take 2 none ∈ lw_good := gd_of (List.mem_append_right _ (List.mem_append_right _ (List.mem_append_left _ (List.mem_of_getElem? (i := 59) rfl)))) rfl
set_option maxRecDepth 100000 in
theorem wk319 : Cond.fieldLink RX3 54 "LineBlocks$Receiver" "dropsNext" "Z" ∈ lw_good := gd_of (List.mem_append_right _ (List.mem_append_left _ (List.mem_of_getElem? (i := 93) rfl))) rfl
set_option maxRecDepth 100000 in
theorem wk320 : Cond.fieldLink RX3 36 "LineBlocks$Receiver" "have" "I" ∈ lw_good := gd_of (List.mem_append_right _ (List.mem_append_left _ (List.mem_of_getElem? (i := 91) rfl))) rfl
set_option maxRecDepth 100000 in
theorem wk321 : Cond.fieldLink RX3 57 "LineBlocks$Receiver" "head" "I" ∈ lw_good := gd_of (List.mem_append_right _ (List.mem_append_left _ (List.mem_of_getElem? (i := 89) rfl))) rfl
set_option maxRecDepth 100000 in
theorem wk322 : Cond.fieldLink RX3 60 "LineBlocks$Receiver" "payload" "J" ∈ lw_good := gd_of (List.mem_append_right _ (List.mem_append_left _ (List.mem_of_getElem? (i := 90) rfl))) rfl
set_option maxRecDepth 100000 in
theorem wk323 : Cond.methodLink RX3 64 yX4_unscramble ∈ lw_good := gd_of (List.mem_append_right _ (List.mem_append_right _ (List.mem_append_left _ (List.mem_of_getElem? (i := 60) rfl)))) rfl
set_option maxRecDepth 100000 in
theorem wk324 : Cond.instanceMethod yX4_unscramble ∈ lw_good := gd_of (List.mem_append_right _ (List.mem_append_right _ (List.mem_append_left _ (List.mem_of_getElem? (i := 61) rfl)))) rfl
set_option maxRecDepth 100000 in
theorem wk325 : Cond.selects RX4 yX4_unscramble yX4_unscramble ∈ lw_good := gd_of (List.mem_append_right _ (List.mem_append_right _ (List.mem_append_left _ (List.mem_of_getElem? (i := 62) rfl)))) rfl
set_option maxRecDepth 100000 in
theorem wk326 : Cond.code yX4_unscramble cX4_unscramble 3 (some .int) ∈ lw_good := gd_of (List.mem_append_right _ (List.mem_append_right _ (List.mem_append_left _ (List.mem_of_getElem? (i := 63) rfl)))) rfl
set_option maxRecDepth 100000 in
theorem wk327 : Cond.methodLink RX3 68 yX3_endBlock ∈ lw_good := gd_of (List.mem_append_right _ (List.mem_append_right _ (List.mem_append_left _ (List.mem_of_getElem? (i := 64) rfl)))) rfl
set_option maxRecDepth 100000 in
theorem wk328 : Cond.instanceMethod yX3_endBlock ∈ lw_good := gd_of (List.mem_append_right _ (List.mem_append_right _ (List.mem_append_left _ (List.mem_of_getElem? (i := 66) rfl)))) rfl
set_option maxRecDepth 100000 in
theorem wk329 : Cond.selects RX3 yX3_endBlock yX3_endBlock ∈ lw_good := gd_of (List.mem_append_left _ (List.mem_of_getElem? (i := 5) rfl)) rfl
set_option maxRecDepth 100000 in
theorem wk330 : Cond.code yX3_endBlock cX3_endBlock 2 none ∈ lw_good := gd_of (List.mem_append_right _ (List.mem_append_right _ (List.mem_append_left _ (List.mem_of_getElem? (i := 67) rfl)))) rfl
set_option maxRecDepth 100000 in
theorem wk331 : Cond.fieldLink RX3 25 "LineBlocks$Receiver" "locked" "Z" ∈ lw_good := gd_of (List.mem_append_right _ (List.mem_append_left _ (List.mem_of_getElem? (i := 92) rfl))) rfl
set_option maxRecDepth 100000 in
theorem wk332 : Cond.methodLink RX3 74 yX0_typeOfBlock ∈ lw_good := gd_of (List.mem_append_right _ (List.mem_append_right _ (List.mem_append_left _ (List.mem_of_getElem? (i := 68) rfl)))) rfl
set_option maxRecDepth 100000 in
theorem wk333 : Cond.static yX0_typeOfBlock ∈ lw_good := gd_of (List.mem_append_right _ (List.mem_append_right _ (List.mem_append_left _ (List.mem_of_getElem? (i := 69) rfl)))) rfl
set_option maxRecDepth 100000 in
theorem wk334 : Cond.code yX0_typeOfBlock cX0_typeOfBlock 3 (some .int) ∈ lw_good := gd_of (List.mem_append_right _ (List.mem_append_right _ (List.mem_append_left _ (List.mem_of_getElem? (i := 70) rfl)))) rfl
set_option maxRecDepth 100000 in
theorem wk335 : Cond.methodLink RX3 80 yX1_keep ∈ lw_good := gd_of (List.mem_append_right _ (List.mem_append_right _ (List.mem_append_left _ (List.mem_of_getElem? (i := 71) rfl)))) rfl
set_option maxRecDepth 100000 in
theorem wk336 : Cond.instanceMethod yX1_keep ∈ lw_good := gd_of (List.mem_append_right _ (List.mem_append_right _ (List.mem_append_left _ (List.mem_of_getElem? (i := 72) rfl)))) rfl
set_option maxRecDepth 100000 in
theorem wk337 : Cond.selects RX1 yX1_keep yX1_keep ∈ lw_good := gd_of (List.mem_append_right _ (List.mem_append_right _ (List.mem_append_left _ (List.mem_of_getElem? (i := 73) rfl)))) rfl
set_option maxRecDepth 100000 in
theorem wk338 : Cond.code yX1_keep cX1_keep 5 none ∈ lw_good := gd_of (List.mem_append_right _ (List.mem_append_right _ (List.mem_append_left _ (List.mem_of_getElem? (i := 74) rfl)))) rfl
set_option maxRecDepth 100000 in
theorem wk339 : Cond.methodLink RX1 23 yX1_slotOf ∈ lw_good := gd_of (List.mem_append_right _ (List.mem_append_right _ (List.mem_append_left _ (List.mem_of_getElem? (i := 75) rfl)))) rfl
set_option maxRecDepth 100000 in
theorem wk340 : Cond.static yX1_slotOf ∈ lw_good := gd_of (List.mem_append_right _ (List.mem_append_right _ (List.mem_append_left _ (List.mem_of_getElem? (i := 76) rfl)))) rfl
set_option maxRecDepth 100000 in
theorem wk341 : Cond.code yX1_slotOf cX1_slotOf 1 (some .int) ∈ lw_good := gd_of (List.mem_append_right _ (List.mem_append_right _ (List.mem_append_left _ (List.mem_of_getElem? (i := 77) rfl)))) rfl
set_option maxRecDepth 100000 in
theorem wk342 : Cond.methodLink RX1 37 yJ9_floorMod_7cf53 ∈ lw_good := gd_of (List.mem_append_right _ (List.mem_append_right _ (List.mem_append_left _ (List.mem_of_getElem? (i := 78) rfl)))) rfl
set_option maxRecDepth 100000 in
theorem wk343 : Cond.methodLink RX3 84 yX3_countInRow ∈ lw_good := gd_of (List.mem_append_right _ (List.mem_append_right _ (List.mem_append_left _ (List.mem_of_getElem? (i := 79) rfl)))) rfl
set_option maxRecDepth 100000 in
theorem wk344 : Cond.instanceMethod yX3_countInRow ∈ lw_good := gd_of (List.mem_append_right _ (List.mem_append_right _ (List.mem_append_left _ (List.mem_of_getElem? (i := 81) rfl)))) rfl
set_option maxRecDepth 100000 in
theorem wk345 : Cond.selects RX3 yX3_countInRow yX3_countInRow ∈ lw_good := gd_of (List.mem_append_left _ (List.mem_of_getElem? (i := 6) rfl)) rfl
set_option maxRecDepth 100000 in
theorem wk346 : Cond.code yX3_countInRow cX3_countInRow 2 none ∈ lw_good := gd_of (List.mem_append_right _ (List.mem_append_right _ (List.mem_append_left _ (List.mem_of_getElem? (i := 82) rfl)))) rfl
set_option maxRecDepth 100000 in
theorem wk347 : Cond.fieldLink RX3 94 "LineBlocks$Receiver" "blocksOfRow" "I" ∈ lw_good := gd_of (List.mem_append_right _ (List.mem_append_left _ (List.mem_of_getElem? (i := 96) rfl))) rfl
set_option maxRecDepth 100000 in
theorem wk348 : Cond.fieldLink RX3 43 "LineBlocks$Receiver" "wrongHeads" "I" ∈ lw_good := gd_of (List.mem_append_right _ (List.mem_append_left _ (List.mem_of_getElem? (i := 97) rfl))) rfl
set_option maxRecDepth 100000 in
theorem wk349 : Cond.methodLink RX3 91 yX3_slip ∈ lw_good := gd_of (List.mem_append_right _ (List.mem_append_right _ (List.mem_append_left _ (List.mem_of_getElem? (i := 83) rfl)))) rfl
set_option maxRecDepth 100000 in
theorem wk350 : Cond.instanceMethod yX3_slip ∈ lw_good := gd_of (List.mem_append_right _ (List.mem_append_right _ (List.mem_append_left _ (List.mem_of_getElem? (i := 85) rfl)))) rfl
set_option maxRecDepth 100000 in
theorem wk351 : Cond.selects RX3 yX3_slip yX3_slip ∈ lw_good := gd_of (List.mem_append_left _ (List.mem_of_getElem? (i := 7) rfl)) rfl
set_option maxRecDepth 100000 in
theorem wk352 : Cond.code yX3_slip cX3_slip 1 none ∈ lw_good := gd_of (List.mem_append_right _ (List.mem_append_right _ (List.mem_append_left _ (List.mem_of_getElem? (i := 86) rfl)))) rfl
set_option maxRecDepth 100000 in
theorem wk353 : Cond.fieldLink RX3 29 "LineBlocks$Receiver" "hits" "I" ∈ lw_good := gd_of (List.mem_append_right _ (List.mem_append_left _ (List.mem_of_getElem? (i := 94) rfl))) rfl
set_option maxRecDepth 100000 in
theorem wk354 : Cond.fieldLink RX3 33 "LineBlocks$Receiver" "slips" "I" ∈ lw_good := gd_of (List.mem_append_right _ (List.mem_append_left _ (List.mem_of_getElem? (i := 95) rfl))) rfl
set_option maxRecDepth 100000 in
theorem wk355 : Cond.methodLink RX3 97 yX3_beginRow ∈ lw_good := gd_of (List.mem_append_right _ (List.mem_append_right _ (List.mem_append_left _ (List.mem_of_getElem? (i := 87) rfl)))) rfl
set_option maxRecDepth 100000 in
theorem wk356 : Cond.instanceMethod yX3_beginRow ∈ lw_good := gd_of (List.mem_append_right _ (List.mem_append_right _ (List.mem_append_left _ (List.mem_of_getElem? (i := 89) rfl)))) rfl
set_option maxRecDepth 100000 in
theorem wk357 : Cond.selects RX3 yX3_beginRow yX3_beginRow ∈ lw_good := gd_of (List.mem_append_left _ (List.mem_of_getElem? (i := 8) rfl)) rfl
set_option maxRecDepth 100000 in
theorem wk358 : Cond.code yX3_beginRow cX3_beginRow 1 none ∈ lw_good := gd_of (List.mem_append_right _ (List.mem_append_right _ (List.mem_append_left _ (List.mem_of_getElem? (i := 90) rfl)))) rfl
set_option maxRecDepth 100000 in
theorem wk359 : Cond.methodLink RX3 88 yX3_countHit ∈ lw_good := gd_of (List.mem_append_right _ (List.mem_append_right _ (List.mem_append_left _ (List.mem_of_getElem? (i := 91) rfl)))) rfl
set_option maxRecDepth 100000 in
theorem wk360 : Cond.instanceMethod yX3_countHit ∈ lw_good := gd_of (List.mem_append_right _ (List.mem_append_right _ (List.mem_append_left _ (List.mem_of_getElem? (i := 93) rfl)))) rfl
set_option maxRecDepth 100000 in
theorem wk361 : Cond.selects RX3 yX3_countHit yX3_countHit ∈ lw_good := gd_of (List.mem_append_left _ (List.mem_of_getElem? (i := 9) rfl)) rfl
set_option maxRecDepth 100000 in
theorem wk362 : Cond.code yX3_countHit cX3_countHit 2 none ∈ lw_good := gd_of (List.mem_append_right _ (List.mem_append_right _ (List.mem_append_left _ (List.mem_of_getElem? (i := 94) rfl)))) rfl
set_option maxRecDepth 100000 in
theorem wk363 : Cond.methodLink RX3 71 yX3_beginBlock ∈ lw_good := gd_of (List.mem_append_right _ (List.mem_append_right _ (List.mem_append_left _ (List.mem_of_getElem? (i := 95) rfl)))) rfl
set_option maxRecDepth 100000 in
theorem wk364 : Cond.instanceMethod yX3_beginBlock ∈ lw_good := gd_of (List.mem_append_right _ (List.mem_append_right _ (List.mem_append_left _ (List.mem_of_getElem? (i := 97) rfl)))) rfl
set_option maxRecDepth 100000 in
theorem wk365 : Cond.selects RX3 yX3_beginBlock yX3_beginBlock ∈ lw_good := gd_of (List.mem_append_left _ (List.mem_of_getElem? (i := 10) rfl)) rfl
set_option maxRecDepth 100000 in
theorem wk366 : Cond.code yX3_beginBlock cX3_beginBlock 1 none ∈ lw_good := gd_of (List.mem_append_right _ (List.mem_append_right _ (List.mem_append_left _ (List.mem_of_getElem? (i := 98) rfl)))) rfl
set_option maxRecDepth 100000 in
theorem wk367 : Cond.methodLink RX6 81 yX2_dropFirst ∈ lw_good := gd_of (List.mem_append_right _ (List.mem_append_right _ (List.mem_append_left _ (List.mem_of_getElem? (i := 99) rfl)))) rfl
set_option maxRecDepth 100000 in
theorem wk368 : Cond.instanceMethod yX2_dropFirst ∈ lw_good := gd_of (List.mem_append_right _ (List.mem_append_right _ (List.mem_append_left _ (List.mem_of_getElem? (i := 100) rfl)))) rfl
set_option maxRecDepth 100000 in
theorem wk369 : Cond.selects RX2 yX2_dropFirst yX2_dropFirst ∈ lw_good := gd_of (List.mem_append_right _ (List.mem_append_right _ (List.mem_append_left _ (List.mem_of_getElem? (i := 101) rfl)))) rfl
set_option maxRecDepth 100000 in
theorem wk370 : Cond.code yX2_dropFirst cX2_dropFirst 2 none ∈ lw_good := gd_of (List.mem_append_right _ (List.mem_append_right _ (List.mem_append_left _ (List.mem_of_getElem? (i := 102) rfl)))) rfl
set_option maxRecDepth 100000 in
theorem wk375 : Cond.fieldLink RX7 91 "LineBlocksModel" "toldCount" "I" ∈ lw_good := gd_of (List.mem_append_right _ (List.mem_append_right _ (List.mem_append_left _ (List.mem_of_getElem? (i := 179) rfl)))) rfl
set_option maxRecDepth 100000 in
theorem wk376 : Cond.fieldLink RX7 97 "LineBlocksModel" "slips" "Z" ∈ lw_good := gd_of (List.mem_append_right _ (List.mem_append_right _ (List.mem_append_left _ (List.mem_of_getElem? (i := 173) rfl)))) rfl
set_option maxRecDepth 100000 in
theorem wk377 : Cond.fieldLink RX7 104 "LineBlocksModel" "taken" "I" ∈ lw_good := gd_of (List.mem_append_right _ (List.mem_append_right _ (List.mem_append_left _ (List.mem_of_getElem? (i := 172) rfl)))) rfl
set_option maxRecDepth 100000 in
theorem wk378 : Cond.methodLink RX7 125 yX7_whole ∈ lw_good := gd_of (List.mem_append_right _ (List.mem_append_right _ (List.mem_append_right _ (List.mem_of_getElem? (i := 53) rfl)))) rfl
set_option maxRecDepth 100000 in
theorem wk379 : Cond.instanceMethod yX7_whole ∈ lw_good := gd_of (List.mem_append_right _ (List.mem_append_right _ (List.mem_append_right _ (List.mem_of_getElem? (i := 55) rfl)))) rfl
set_option maxRecDepth 100000 in
theorem wk380 : Cond.selects RX7 yX7_whole yX7_whole ∈ lw_good := gd_of (List.mem_append_left _ (List.mem_of_getElem? (i := 19) rfl)) rfl
set_option maxRecDepth 100000 in
theorem wk381 : Cond.code yX7_whole cX7_whole 3 none ∈ lw_good := gd_of (List.mem_append_right _ (List.mem_append_right _ (List.mem_append_right _ (List.mem_of_getElem? (i := 56) rfl)))) rfl
set_option maxRecDepth 100000 in
theorem wk382 : Cond.fieldLink RX7 107 "LineBlocksModel" "locked" "Z" ∈ lw_good := gd_of (List.mem_append_right _ (List.mem_append_right _ (List.mem_append_left _ (List.mem_of_getElem? (i := 174) rfl)))) rfl
set_option maxRecDepth 100000 in
theorem wk383 : Cond.fieldLink RX7 110 "LineBlocksModel" "hits" "I" ∈ lw_good := gd_of (List.mem_append_right _ (List.mem_append_right _ (List.mem_append_left _ (List.mem_of_getElem? (i := 175) rfl)))) rfl
set_option maxRecDepth 100000 in
theorem wk384 : Cond.fieldLink RX7 116 "LineBlocksModel" "row" "I" ∈ lw_good := gd_of (List.mem_append_right _ (List.mem_append_right _ (List.mem_append_left _ (List.mem_of_getElem? (i := 177) rfl)))) rfl
set_option maxRecDepth 100000 in
theorem wk385 : Cond.fieldLink RX7 119 "LineBlocksModel" "wrong" "I" ∈ lw_good := gd_of (List.mem_append_right _ (List.mem_append_right _ (List.mem_append_left _ (List.mem_of_getElem? (i := 178) rfl)))) rfl
set_option maxRecDepth 100000 in
theorem wk386 : Cond.methodLink RX7 113 yX7_slip ∈ lw_good := gd_of (List.mem_append_right _ (List.mem_append_right _ (List.mem_append_right _ (List.mem_of_getElem? (i := 57) rfl)))) rfl
set_option maxRecDepth 100000 in
theorem wk387 : Cond.instanceMethod yX7_slip ∈ lw_good := gd_of (List.mem_append_right _ (List.mem_append_right _ (List.mem_append_right _ (List.mem_of_getElem? (i := 59) rfl)))) rfl
set_option maxRecDepth 100000 in
theorem wk388 : Cond.selects RX7 yX7_slip yX7_slip ∈ lw_good := gd_of (List.mem_append_left _ (List.mem_of_getElem? (i := 20) rfl)) rfl
set_option maxRecDepth 100000 in
theorem wk389 : Cond.code yX7_slip cX7_slip 1 none ∈ lw_good := gd_of (List.mem_append_right _ (List.mem_append_right _ (List.mem_append_right _ (List.mem_of_getElem? (i := 60) rfl)))) rfl
set_option maxRecDepth 100000 in
theorem wk390 : Cond.fieldLink RX7 101 "LineBlocksModel" "slipped" "I" ∈ lw_good := gd_of (List.mem_append_right _ (List.mem_append_right _ (List.mem_append_left _ (List.mem_of_getElem? (i := 176) rfl)))) rfl
set_option maxRecDepth 100000 in
theorem wk391 : Cond.methodLink RX7 122 yX7_tell ∈ lw_good := gd_of (List.mem_append_right _ (List.mem_append_right _ (List.mem_append_right _ (List.mem_of_getElem? (i := 61) rfl)))) rfl
set_option maxRecDepth 100000 in
theorem wk392 : Cond.instanceMethod yX7_tell ∈ lw_good := gd_of (List.mem_append_right _ (List.mem_append_right _ (List.mem_append_right _ (List.mem_of_getElem? (i := 63) rfl)))) rfl
set_option maxRecDepth 100000 in
theorem wk393 : Cond.selects RX7 yX7_tell yX7_tell ∈ lw_good := gd_of (List.mem_append_left _ (List.mem_of_getElem? (i := 21) rfl)) rfl
set_option maxRecDepth 100000 in
theorem wk394 : Cond.code yX7_tell cX7_tell 2 none ∈ lw_good := gd_of (List.mem_append_right _ (List.mem_append_right _ (List.mem_append_right _ (List.mem_of_getElem? (i := 64) rfl)))) rfl
set_option maxRecDepth 100000 in
theorem wk395 : Cond.methodLink RX7 94 yX7_character ∈ lw_good := gd_of (List.mem_append_right _ (List.mem_append_right _ (List.mem_append_right _ (List.mem_of_getElem? (i := 65) rfl)))) rfl
set_option maxRecDepth 100000 in
theorem wk396 : Cond.instanceMethod yX7_character ∈ lw_good := gd_of (List.mem_append_right _ (List.mem_append_right _ (List.mem_append_right _ (List.mem_of_getElem? (i := 67) rfl)))) rfl
set_option maxRecDepth 100000 in
theorem wk397 : Cond.selects RX7 yX7_character yX7_character ∈ lw_good := gd_of (List.mem_append_left _ (List.mem_of_getElem? (i := 22) rfl)) rfl
set_option maxRecDepth 100000 in
theorem wk398 : Cond.code yX7_character cX7_character 4 (some .int) ∈ lw_good := gd_of (List.mem_append_right _ (List.mem_append_right _ (List.mem_append_right _ (List.mem_of_getElem? (i := 68) rfl)))) rfl
set_option maxRecDepth 100000 in
theorem wk399 : Cond.methodLink RX7 82 yX7_get ∈ lw_good := gd_of (List.mem_append_right _ (List.mem_append_right _ (List.mem_append_right _ (List.mem_of_getElem? (i := 69) rfl)))) rfl
set_option maxRecDepth 100000 in
theorem wk400 : Cond.instanceMethod yX7_get ∈ lw_good := gd_of (List.mem_append_right _ (List.mem_append_right _ (List.mem_append_right _ (List.mem_of_getElem? (i := 71) rfl)))) rfl
set_option maxRecDepth 100000 in
theorem wk401 : Cond.selects RX7 yX7_get yX7_get ∈ lw_good := gd_of (List.mem_append_left _ (List.mem_of_getElem? (i := 23) rfl)) rfl
set_option maxRecDepth 100000 in
theorem wk402 : Cond.code yX7_get cX7_get 5 (some .int) ∈ lw_good := gd_of (List.mem_append_right _ (List.mem_append_right _ (List.mem_append_right _ (List.mem_of_getElem? (i := 72) rfl)))) rfl
set_option maxRecDepth 100000 in
theorem wk403 : Cond.methodLink RX7 85 yX7_codeAt ∈ lw_good := gd_of (List.mem_append_right _ (List.mem_append_right _ (List.mem_append_right _ (List.mem_of_getElem? (i := 73) rfl)))) rfl
set_option maxRecDepth 100000 in
theorem wk404 : Cond.instanceMethod yX7_codeAt ∈ lw_good := gd_of (List.mem_append_right _ (List.mem_append_right _ (List.mem_append_right _ (List.mem_of_getElem? (i := 75) rfl)))) rfl
set_option maxRecDepth 100000 in
theorem wk405 : Cond.selects RX7 yX7_codeAt yX7_codeAt ∈ lw_good := gd_of (List.mem_append_left _ (List.mem_of_getElem? (i := 24) rfl)) rfl
set_option maxRecDepth 100000 in
theorem wk406 : Cond.code yX7_codeAt cX7_codeAt 2 (some .int) ∈ lw_good := gd_of (List.mem_append_right _ (List.mem_append_right _ (List.mem_append_right _ (List.mem_of_getElem? (i := 76) rfl)))) rfl
set_option maxRecDepth 100000 in
theorem wk407 : Cond.methodLink RX7 88 yX7_endOf ∈ lw_good := gd_of (List.mem_append_right _ (List.mem_append_right _ (List.mem_append_right _ (List.mem_of_getElem? (i := 77) rfl)))) rfl
set_option maxRecDepth 100000 in
theorem wk408 : Cond.instanceMethod yX7_endOf ∈ lw_good := gd_of (List.mem_append_right _ (List.mem_append_right _ (List.mem_append_right _ (List.mem_of_getElem? (i := 79) rfl)))) rfl
set_option maxRecDepth 100000 in
theorem wk409 : Cond.selects RX7 yX7_endOf yX7_endOf ∈ lw_good := gd_of (List.mem_append_left _ (List.mem_of_getElem? (i := 25) rfl)) rfl
set_option maxRecDepth 100000 in
theorem wk410 : Cond.code yX7_endOf cX7_endOf 4 (some .int) ∈ lw_good := gd_of (List.mem_append_right _ (List.mem_append_right _ (List.mem_append_right _ (List.mem_of_getElem? (i := 80) rfl)))) rfl
set_option maxRecDepth 100000 in
theorem wk415 : Cond.methodLink RX6 84 yX3_character ∈ lw_good := gd_of (List.mem_append_right _ (List.mem_append_right _ (List.mem_append_left _ (List.mem_of_getElem? (i := 107) rfl)))) rfl
set_option maxRecDepth 100000 in
theorem wk416 : Cond.instanceMethod yX3_character ∈ lw_good := gd_of (List.mem_append_right _ (List.mem_append_right _ (List.mem_append_left _ (List.mem_of_getElem? (i := 108) rfl)))) rfl
set_option maxRecDepth 100000 in
theorem wk417 : Cond.selects RX3 yX3_character yX3_character ∈ lw_good := gd_of (List.mem_append_right _ (List.mem_append_right _ (List.mem_append_left _ (List.mem_of_getElem? (i := 109) rfl)))) rfl
set_option maxRecDepth 100000 in
theorem wk418 : Cond.code yX3_character cX3_character 3 (some .int) ∈ lw_good := gd_of (List.mem_append_right _ (List.mem_append_right _ (List.mem_append_left _ (List.mem_of_getElem? (i := 110) rfl)))) rfl
set_option maxRecDepth 100000 in
theorem wk419 : Cond.methodLink RX3 46 yX1_character ∈ lw_good := gd_of (List.mem_append_right _ (List.mem_append_right _ (List.mem_append_left _ (List.mem_of_getElem? (i := 111) rfl)))) rfl
set_option maxRecDepth 100000 in
theorem wk420 : Cond.instanceMethod yX1_character ∈ lw_good := gd_of (List.mem_append_right _ (List.mem_append_right _ (List.mem_append_left _ (List.mem_of_getElem? (i := 112) rfl)))) rfl
set_option maxRecDepth 100000 in
theorem wk421 : Cond.selects RX1 yX1_character yX1_character ∈ lw_good := gd_of (List.mem_append_right _ (List.mem_append_right _ (List.mem_append_left _ (List.mem_of_getElem? (i := 113) rfl)))) rfl
set_option maxRecDepth 100000 in
theorem wk422 : Cond.code yX1_character cX1_character 4 (some .int) ∈ lw_good := gd_of (List.mem_append_right _ (List.mem_append_right _ (List.mem_append_left _ (List.mem_of_getElem? (i := 114) rfl)))) rfl
set_option maxRecDepth 100000 in
theorem wk423 : Cond.methodLink RX1 27 yX1_isKept ∈ lw_good := gd_of (List.mem_append_right _ (List.mem_append_right _ (List.mem_append_left _ (List.mem_of_getElem? (i := 115) rfl)))) rfl
set_option maxRecDepth 100000 in
theorem wk424 : Cond.instanceMethod yX1_isKept ∈ lw_good := gd_of (List.mem_append_right _ (List.mem_append_right _ (List.mem_append_left _ (List.mem_of_getElem? (i := 117) rfl)))) rfl
set_option maxRecDepth 100000 in
theorem wk425 : Cond.selects RX1 yX1_isKept yX1_isKept ∈ lw_good := gd_of (List.mem_append_left _ (List.mem_of_getElem? (i := 11) rfl)) rfl
set_option maxRecDepth 100000 in
theorem wk426 : Cond.code yX1_isKept cX1_isKept 2 (some .boolean) ∈ lw_good := gd_of (List.mem_append_right _ (List.mem_append_right _ (List.mem_append_left _ (List.mem_of_getElem? (i := 118) rfl)))) rfl
set_option maxRecDepth 100000 in
theorem wk427 : Cond.methodLink RX1 31 yX0_characterOf ∈ lw_good := gd_of (List.mem_append_right _ (List.mem_append_right _ (List.mem_append_left _ (List.mem_of_getElem? (i := 119) rfl)))) rfl
set_option maxRecDepth 100000 in
theorem wk428 : Cond.static yX0_characterOf ∈ lw_good := gd_of (List.mem_append_right _ (List.mem_append_right _ (List.mem_append_left _ (List.mem_of_getElem? (i := 120) rfl)))) rfl
set_option maxRecDepth 100000 in
theorem wk429 : Cond.code yX0_characterOf cX0_characterOf 5 (some .int) ∈ lw_good := gd_of (List.mem_append_right _ (List.mem_append_right _ (List.mem_append_left _ (List.mem_of_getElem? (i := 121) rfl)))) rfl
set_option maxRecDepth 100000 in
theorem wk430 : Cond.methodLink RX0 35 yX0_characterByEnd ∈ lw_good := gd_of (List.mem_append_right _ (List.mem_append_right _ (List.mem_append_left _ (List.mem_of_getElem? (i := 122) rfl)))) rfl
set_option maxRecDepth 100000 in
theorem wk431 : Cond.static yX0_characterByEnd ∈ lw_good := gd_of (List.mem_append_right _ (List.mem_append_right _ (List.mem_append_left _ (List.mem_of_getElem? (i := 123) rfl)))) rfl
set_option maxRecDepth 100000 in
theorem wk432 : Cond.code yX0_characterByEnd cX0_characterByEnd 5 (some .int) ∈ lw_good := gd_of (List.mem_append_right _ (List.mem_append_right _ (List.mem_append_left _ (List.mem_of_getElem? (i := 124) rfl)))) rfl
set_option maxRecDepth 100000 in
theorem wk433 : Cond.methodLink RX0 39 yX0_dataAt ∈ lw_good := gd_of (List.mem_append_right _ (List.mem_append_right _ (List.mem_append_left _ (List.mem_of_getElem? (i := 125) rfl)))) rfl
set_option maxRecDepth 100000 in
theorem wk434 : Cond.static yX0_dataAt ∈ lw_good := gd_of (List.mem_append_right _ (List.mem_append_right _ (List.mem_append_left _ (List.mem_of_getElem? (i := 126) rfl)))) rfl
set_option maxRecDepth 100000 in
theorem wk435 : Cond.code yX0_dataAt cX0_dataAt 4 (some .int) ∈ lw_good := gd_of (List.mem_append_right _ (List.mem_append_right _ (List.mem_append_left _ (List.mem_of_getElem? (i := 127) rfl)))) rfl
set_option maxRecDepth 100000 in
theorem wk436 : Cond.methodLink RX0 43 yX0_codedAt ∈ lw_good := gd_of (List.mem_append_right _ (List.mem_append_right _ (List.mem_append_left _ (List.mem_of_getElem? (i := 128) rfl)))) rfl
set_option maxRecDepth 100000 in
theorem wk437 : Cond.static yX0_codedAt ∈ lw_good := gd_of (List.mem_append_right _ (List.mem_append_right _ (List.mem_append_left _ (List.mem_of_getElem? (i := 129) rfl)))) rfl
set_option maxRecDepth 100000 in
theorem wk438 : Cond.code yX0_codedAt cX0_codedAt 4 (some .int) ∈ lw_good := gd_of (List.mem_append_right _ (List.mem_append_right _ (List.mem_append_left _ (List.mem_of_getElem? (i := 130) rfl)))) rfl
set_option maxRecDepth 100000 in
theorem wk439 : Cond.methodLink RX0 47 yX0_characterByMiddleStart ∈ lw_good := gd_of (List.mem_append_right _ (List.mem_append_right _ (List.mem_append_left _ (List.mem_of_getElem? (i := 131) rfl)))) rfl
set_option maxRecDepth 100000 in
theorem wk440 : Cond.static yX0_characterByMiddleStart ∈ lw_good := gd_of (List.mem_append_right _ (List.mem_append_right _ (List.mem_append_left _ (List.mem_of_getElem? (i := 132) rfl)))) rfl
set_option maxRecDepth 100000 in
theorem wk441 : Cond.code yX0_characterByMiddleStart cX0_characterByMiddleStart 3 (some .int) ∈ lw_good := gd_of (List.mem_append_right _ (List.mem_append_right _ (List.mem_append_left _ (List.mem_of_getElem? (i := 133) rfl)))) rfl
set_option maxRecDepth 100000 in
theorem wk450 : Cond.methodLink RX6 87 yX3_isLocked ∈ lw_good := gd_of (List.mem_append_right _ (List.mem_append_right _ (List.mem_append_left _ (List.mem_of_getElem? (i := 138) rfl)))) rfl
set_option maxRecDepth 100000 in
theorem wk451 : Cond.instanceMethod yX3_isLocked ∈ lw_good := gd_of (List.mem_append_right _ (List.mem_append_right _ (List.mem_append_left _ (List.mem_of_getElem? (i := 139) rfl)))) rfl
set_option maxRecDepth 100000 in
theorem wk452 : Cond.selects RX3 yX3_isLocked yX3_isLocked ∈ lw_good := gd_of (List.mem_append_right _ (List.mem_append_right _ (List.mem_append_left _ (List.mem_of_getElem? (i := 140) rfl)))) rfl
set_option maxRecDepth 100000 in
theorem wk453 : Cond.code yX3_isLocked cX3_isLocked 1 (some .boolean) ∈ lw_good := gd_of (List.mem_append_right _ (List.mem_append_right _ (List.mem_append_left _ (List.mem_of_getElem? (i := 141) rfl)))) rfl
set_option maxRecDepth 100000 in
theorem wk454 : Cond.methodLink RX6 91 yX3_hitCount ∈ lw_good := gd_of (List.mem_append_right _ (List.mem_append_right _ (List.mem_append_left _ (List.mem_of_getElem? (i := 142) rfl)))) rfl
set_option maxRecDepth 100000 in
theorem wk455 : Cond.instanceMethod yX3_hitCount ∈ lw_good := gd_of (List.mem_append_right _ (List.mem_append_right _ (List.mem_append_left _ (List.mem_of_getElem? (i := 143) rfl)))) rfl
set_option maxRecDepth 100000 in
theorem wk456 : Cond.selects RX3 yX3_hitCount yX3_hitCount ∈ lw_good := gd_of (List.mem_append_right _ (List.mem_append_right _ (List.mem_append_left _ (List.mem_of_getElem? (i := 144) rfl)))) rfl
set_option maxRecDepth 100000 in
theorem wk457 : Cond.code yX3_hitCount cX3_hitCount 1 (some .int) ∈ lw_good := gd_of (List.mem_append_right _ (List.mem_append_right _ (List.mem_append_left _ (List.mem_of_getElem? (i := 145) rfl)))) rfl
set_option maxRecDepth 100000 in
theorem wk458 : Cond.methodLink RX6 94 yX3_slipCount ∈ lw_good := gd_of (List.mem_append_right _ (List.mem_append_right _ (List.mem_append_left _ (List.mem_of_getElem? (i := 146) rfl)))) rfl
set_option maxRecDepth 100000 in
theorem wk459 : Cond.instanceMethod yX3_slipCount ∈ lw_good := gd_of (List.mem_append_right _ (List.mem_append_right _ (List.mem_append_left _ (List.mem_of_getElem? (i := 147) rfl)))) rfl
set_option maxRecDepth 100000 in
theorem wk460 : Cond.selects RX3 yX3_slipCount yX3_slipCount ∈ lw_good := gd_of (List.mem_append_right _ (List.mem_append_right _ (List.mem_append_left _ (List.mem_of_getElem? (i := 148) rfl)))) rfl
set_option maxRecDepth 100000 in
theorem wk461 : Cond.code yX3_slipCount cX3_slipCount 1 (some .int) ∈ lw_good := gd_of (List.mem_append_right _ (List.mem_append_right _ (List.mem_append_left _ (List.mem_of_getElem? (i := 149) rfl)))) rfl
set_option maxRecDepth 100000 in
theorem wk462 : Cond.methodLink RX6 97 yX3_bitsOfBlock ∈ lw_good := gd_of (List.mem_append_right _ (List.mem_append_right _ (List.mem_append_left _ (List.mem_of_getElem? (i := 150) rfl)))) rfl
set_option maxRecDepth 100000 in
theorem wk463 : Cond.instanceMethod yX3_bitsOfBlock ∈ lw_good := gd_of (List.mem_append_right _ (List.mem_append_right _ (List.mem_append_left _ (List.mem_of_getElem? (i := 151) rfl)))) rfl
set_option maxRecDepth 100000 in
theorem wk464 : Cond.selects RX3 yX3_bitsOfBlock yX3_bitsOfBlock ∈ lw_good := gd_of (List.mem_append_right _ (List.mem_append_right _ (List.mem_append_left _ (List.mem_of_getElem? (i := 152) rfl)))) rfl
set_option maxRecDepth 100000 in
theorem wk465 : Cond.code yX3_bitsOfBlock cX3_bitsOfBlock 1 (some .int) ∈ lw_good := gd_of (List.mem_append_right _ (List.mem_append_right _ (List.mem_append_left _ (List.mem_of_getElem? (i := 153) rfl)))) rfl
set_option maxRecDepth 100000 in
theorem wk466 : Cond.methodLink RX6 100 yX3_wrongHeadCount ∈ lw_good := gd_of (List.mem_append_right _ (List.mem_append_right _ (List.mem_append_left _ (List.mem_of_getElem? (i := 154) rfl)))) rfl
set_option maxRecDepth 100000 in
theorem wk467 : Cond.instanceMethod yX3_wrongHeadCount ∈ lw_good := gd_of (List.mem_append_right _ (List.mem_append_right _ (List.mem_append_left _ (List.mem_of_getElem? (i := 155) rfl)))) rfl
set_option maxRecDepth 100000 in
theorem wk468 : Cond.selects RX3 yX3_wrongHeadCount yX3_wrongHeadCount ∈ lw_good := gd_of (List.mem_append_right _ (List.mem_append_right _ (List.mem_append_left _ (List.mem_of_getElem? (i := 156) rfl)))) rfl
set_option maxRecDepth 100000 in
theorem wk469 : Cond.code yX3_wrongHeadCount cX3_wrongHeadCount 1 (some .int) ∈ lw_good := gd_of (List.mem_append_right _ (List.mem_append_right _ (List.mem_append_left _ (List.mem_of_getElem? (i := 157) rfl)))) rfl
set_option maxRecDepth 100000 in
theorem lay_X1_0 : u_lay RX1 TX1 0 ∈ lw_good := gd_of (w := .laysFinal "LineBlocks$Groups" "LineBlocks$Groups" "types" "[I") (List.mem_append_right _ (List.mem_append_left _ (List.mem_of_getElem? (i := 80) rfl))) rfl
set_option maxRecDepth 100000 in
theorem lay_X1_1 : u_lay RX1 TX1 1 ∈ lw_good := gd_of (w := .laysFinal "LineBlocks$Groups" "LineBlocks$Groups" "payloads" "[J") (List.mem_append_right _ (List.mem_append_left _ (List.mem_of_getElem? (i := 82) rfl))) rfl
set_option maxRecDepth 100000 in
theorem lay_X1_2 : u_lay RX1 TX1 2 ∈ lw_good := gd_of (w := .lays "LineBlocks$Groups" "LineBlocks$Groups" "count" "I") (List.mem_append_right _ (List.mem_append_left _ (List.mem_of_getElem? (i := 84) rfl))) rfl
theorem in_X1 : ∀ w ∈ u_ws RX1 TX1 3, w ∈ lw_good := show ∀ w ∈ [u_lay RX1 TX1 0, u_lay RX1 TX1 1, u_lay RX1 TX1 2], w ∈ lw_good from List.forall_mem_cons.mpr ⟨lay_X1_0, List.forall_mem_cons.mpr ⟨lay_X1_1, List.forall_mem_cons.mpr ⟨lay_X1_2, fun _ h => absurd h List.not_mem_nil⟩⟩⟩
set_option maxRecDepth 100000 in
theorem lay_X2_0 : u_lay RX2 TX2 0 ∈ lw_good := gd_of (w := .laysFinal "LineBlocks$Line" "LineBlocks$Line" "words" "[J") (List.mem_append_right _ (List.mem_append_left _ (List.mem_of_getElem? (i := 28) rfl))) rfl
set_option maxRecDepth 100000 in
theorem lay_X2_1 : u_lay RX2 TX2 1 ∈ lw_good := gd_of (w := .lays "LineBlocks$Line" "LineBlocks$Line" "first" "I") (List.mem_append_right _ (List.mem_append_left _ (List.mem_of_getElem? (i := 30) rfl))) rfl
set_option maxRecDepth 100000 in
theorem lay_X2_2 : u_lay RX2 TX2 2 ∈ lw_good := gd_of (w := .lays "LineBlocks$Line" "LineBlocks$Line" "count" "I") (List.mem_append_right _ (List.mem_append_left _ (List.mem_of_getElem? (i := 32) rfl))) rfl
theorem in_X2 : ∀ w ∈ u_ws RX2 TX2 3, w ∈ lw_good := show ∀ w ∈ [u_lay RX2 TX2 0, u_lay RX2 TX2 1, u_lay RX2 TX2 2], w ∈ lw_good from List.forall_mem_cons.mpr ⟨lay_X2_0, List.forall_mem_cons.mpr ⟨lay_X2_1, List.forall_mem_cons.mpr ⟨lay_X2_2, fun _ h => absurd h List.not_mem_nil⟩⟩⟩
set_option maxRecDepth 100000 in
theorem lay_X3_0 : u_lay RX3 TX3 0 ∈ lw_good := gd_of (w := .laysFinal "LineBlocks$Receiver" "LineBlocks$Receiver" "scrambler" "LLineBlocks$Scrambler;") (List.mem_append_right _ (List.mem_append_left _ (List.mem_of_getElem? (i := 98) rfl))) rfl
set_option maxRecDepth 100000 in
theorem lay_X3_1 : u_lay RX3 TX3 1 ∈ lw_good := gd_of (w := .laysFinal "LineBlocks$Receiver" "LineBlocks$Receiver" "groups" "LLineBlocks$Groups;") (List.mem_append_right _ (List.mem_append_left _ (List.mem_of_getElem? (i := 100) rfl))) rfl
set_option maxRecDepth 100000 in
theorem lay_X3_2 : u_lay RX3 TX3 2 ∈ lw_good := gd_of (w := .lays "LineBlocks$Receiver" "LineBlocks$Receiver" "head" "I") (List.mem_append_right _ (List.mem_append_left _ (List.mem_of_getElem? (i := 102) rfl))) rfl
set_option maxRecDepth 100000 in
theorem lay_X3_3 : u_lay RX3 TX3 3 ∈ lw_good := gd_of (w := .lays "LineBlocks$Receiver" "LineBlocks$Receiver" "payload" "J") (List.mem_append_right _ (List.mem_append_left _ (List.mem_of_getElem? (i := 104) rfl))) rfl
set_option maxRecDepth 100000 in
theorem lay_X3_4 : u_lay RX3 TX3 4 ∈ lw_good := gd_of (w := .lays "LineBlocks$Receiver" "LineBlocks$Receiver" "have" "I") (List.mem_append_right _ (List.mem_append_left _ (List.mem_of_getElem? (i := 106) rfl))) rfl
set_option maxRecDepth 100000 in
theorem lay_X3_5 : u_lay RX3 TX3 5 ∈ lw_good := gd_of (w := .lays "LineBlocks$Receiver" "LineBlocks$Receiver" "locked" "Z") (List.mem_append_right _ (List.mem_append_left _ (List.mem_of_getElem? (i := 108) rfl))) rfl
set_option maxRecDepth 100000 in
theorem lay_X3_6 : u_lay RX3 TX3 6 ∈ lw_good := gd_of (w := .lays "LineBlocks$Receiver" "LineBlocks$Receiver" "dropsNext" "Z") (List.mem_append_right _ (List.mem_append_left _ (List.mem_of_getElem? (i := 110) rfl))) rfl
set_option maxRecDepth 100000 in
theorem lay_X3_7 : u_lay RX3 TX3 7 ∈ lw_good := gd_of (w := .lays "LineBlocks$Receiver" "LineBlocks$Receiver" "hits" "I") (List.mem_append_right _ (List.mem_append_left _ (List.mem_of_getElem? (i := 112) rfl))) rfl
set_option maxRecDepth 100000 in
theorem lay_X3_8 : u_lay RX3 TX3 8 ∈ lw_good := gd_of (w := .lays "LineBlocks$Receiver" "LineBlocks$Receiver" "slips" "I") (List.mem_append_right _ (List.mem_append_left _ (List.mem_of_getElem? (i := 114) rfl))) rfl
set_option maxRecDepth 100000 in
theorem lay_X3_9 : u_lay RX3 TX3 9 ∈ lw_good := gd_of (w := .lays "LineBlocks$Receiver" "LineBlocks$Receiver" "blocksOfRow" "I") (List.mem_append_right _ (List.mem_append_left _ (List.mem_of_getElem? (i := 116) rfl))) rfl
set_option maxRecDepth 100000 in
theorem lay_X3_10 : u_lay RX3 TX3 10 ∈ lw_good := gd_of (w := .lays "LineBlocks$Receiver" "LineBlocks$Receiver" "wrongHeads" "I") (List.mem_append_right _ (List.mem_append_left _ (List.mem_of_getElem? (i := 118) rfl))) rfl
theorem in_X3 : ∀ w ∈ u_ws RX3 TX3 11, w ∈ lw_good := show ∀ w ∈ [u_lay RX3 TX3 0, u_lay RX3 TX3 1, u_lay RX3 TX3 2, u_lay RX3 TX3 3, u_lay RX3 TX3 4, u_lay RX3 TX3 5, u_lay RX3 TX3 6, u_lay RX3 TX3 7, u_lay RX3 TX3 8, u_lay RX3 TX3 9, u_lay RX3 TX3 10], w ∈ lw_good from List.forall_mem_cons.mpr ⟨lay_X3_0, List.forall_mem_cons.mpr ⟨lay_X3_1, List.forall_mem_cons.mpr ⟨lay_X3_2, List.forall_mem_cons.mpr ⟨lay_X3_3, List.forall_mem_cons.mpr ⟨lay_X3_4, List.forall_mem_cons.mpr ⟨lay_X3_5, List.forall_mem_cons.mpr ⟨lay_X3_6, List.forall_mem_cons.mpr ⟨lay_X3_7, List.forall_mem_cons.mpr ⟨lay_X3_8, List.forall_mem_cons.mpr ⟨lay_X3_9, List.forall_mem_cons.mpr ⟨lay_X3_10, fun _ h => absurd h List.not_mem_nil⟩⟩⟩⟩⟩⟩⟩⟩⟩⟩⟩
set_option maxRecDepth 100000 in
theorem lay_X4_0 : u_lay RX4 TX4 0 ∈ lw_good := gd_of (w := .lays "LineBlocks$Scrambler" "LineBlocks$Scrambler" "latest" "J") (List.mem_append_right _ (List.mem_append_left _ (List.mem_of_getElem? (i := 49) rfl))) rfl
theorem in_X4 : ∀ w ∈ u_ws RX4 TX4 1, w ∈ lw_good := show ∀ w ∈ [u_lay RX4 TX4 0], w ∈ lw_good from List.forall_mem_cons.mpr ⟨lay_X4_0, fun _ h => absurd h List.not_mem_nil⟩
set_option maxRecDepth 100000 in
theorem lay_X5_0 : u_lay RX5 TX5 0 ∈ lw_good := gd_of (w := .laysFinal "LineBlocks$Sender" "LineBlocks$Sender" "scrambler" "LLineBlocks$Scrambler;") (List.mem_append_right _ (List.mem_append_left _ (List.mem_of_getElem? (i := 55) rfl))) rfl
set_option maxRecDepth 100000 in
theorem lay_X5_1 : u_lay RX5 TX5 1 ∈ lw_good := gd_of (w := .laysFinal "LineBlocks$Sender" "LineBlocks$Sender" "group" "[I") (List.mem_append_right _ (List.mem_append_left _ (List.mem_of_getElem? (i := 57) rfl))) rfl
set_option maxRecDepth 100000 in
theorem lay_X5_2 : u_lay RX5 TX5 2 ∈ lw_good := gd_of (w := .lays "LineBlocks$Sender" "LineBlocks$Sender" "waiting" "I") (List.mem_append_right _ (List.mem_append_left _ (List.mem_of_getElem? (i := 59) rfl))) rfl
theorem in_X5 : ∀ w ∈ u_ws RX5 TX5 3, w ∈ lw_good := show ∀ w ∈ [u_lay RX5 TX5 0, u_lay RX5 TX5 1, u_lay RX5 TX5 2], w ∈ lw_good from List.forall_mem_cons.mpr ⟨lay_X5_0, List.forall_mem_cons.mpr ⟨lay_X5_1, List.forall_mem_cons.mpr ⟨lay_X5_2, fun _ h => absurd h List.not_mem_nil⟩⟩⟩
set_option maxRecDepth 100000 in
theorem lay_X6_0 : u_lay RX6 TX6 0 ∈ lw_good := gd_of (w := .laysFinal "LineBlocks" "LineBlocks" "line" "LLineBlocks$Line;") (List.mem_append_right _ (List.mem_append_left _ (List.mem_of_getElem? (i := 124) rfl))) rfl
set_option maxRecDepth 100000 in
theorem lay_X6_1 : u_lay RX6 TX6 1 ∈ lw_good := gd_of (w := .laysFinal "LineBlocks" "LineBlocks" "sender" "LLineBlocks$Sender;") (List.mem_append_right _ (List.mem_append_left _ (List.mem_of_getElem? (i := 126) rfl))) rfl
set_option maxRecDepth 100000 in
theorem lay_X6_2 : u_lay RX6 TX6 2 ∈ lw_good := gd_of (w := .laysFinal "LineBlocks" "LineBlocks" "taker" "LLineBlocks$Receiver;") (List.mem_append_right _ (List.mem_append_left _ (List.mem_of_getElem? (i := 128) rfl))) rfl
theorem in_X6 : ∀ w ∈ u_ws RX6 TX6 3, w ∈ lw_good := show ∀ w ∈ [u_lay RX6 TX6 0, u_lay RX6 TX6 1, u_lay RX6 TX6 2], w ∈ lw_good from List.forall_mem_cons.mpr ⟨lay_X6_0, List.forall_mem_cons.mpr ⟨lay_X6_1, List.forall_mem_cons.mpr ⟨lay_X6_2, fun _ h => absurd h List.not_mem_nil⟩⟩⟩
set_option maxRecDepth 100000 in
theorem lay_X7_0 : u_lay RX7 TX7 0 ∈ lw_good := gd_of (w := .lays "LineBlocksModel" "LineBlocksModel" "thrown" "I") (List.mem_append_right _ (List.mem_append_right _ (List.mem_append_left _ (List.mem_of_getElem? (i := 181) rfl)))) rfl
set_option maxRecDepth 100000 in
theorem lay_X7_1 : u_lay RX7 TX7 1 ∈ lw_good := gd_of (w := .lays "LineBlocksModel" "LineBlocksModel" "waiting" "I") (List.mem_append_right _ (List.mem_append_right _ (List.mem_append_left _ (List.mem_of_getElem? (i := 183) rfl)))) rfl
set_option maxRecDepth 100000 in
theorem lay_X7_2 : u_lay RX7 TX7 2 ∈ lw_good := gd_of (w := .laysFinal "LineBlocksModel" "LineBlocksModel" "group" "[I") (List.mem_append_right _ (List.mem_append_right _ (List.mem_append_left _ (List.mem_of_getElem? (i := 185) rfl)))) rfl
set_option maxRecDepth 100000 in
theorem lay_X7_3 : u_lay RX7 TX7 3 ∈ lw_good := gd_of (w := .lays "LineBlocksModel" "LineBlocksModel" "size" "I") (List.mem_append_right _ (List.mem_append_right _ (List.mem_append_left _ (List.mem_of_getElem? (i := 187) rfl)))) rfl
set_option maxRecDepth 100000 in
theorem lay_X7_4 : u_lay RX7 TX7 4 ∈ lw_good := gd_of (w := .laysFinal "LineBlocksModel" "LineBlocksModel" "line" "[B") (List.mem_append_right _ (List.mem_append_right _ (List.mem_append_left _ (List.mem_of_getElem? (i := 189) rfl)))) rfl
set_option maxRecDepth 100000 in
theorem lay_X7_5 : u_lay RX7 TX7 5 ∈ lw_good := gd_of (w := .laysFinal "LineBlocksModel" "LineBlocksModel" "latest" "[I") (List.mem_append_right _ (List.mem_append_right _ (List.mem_append_left _ (List.mem_of_getElem? (i := 191) rfl)))) rfl
set_option maxRecDepth 100000 in
theorem lay_X7_6 : u_lay RX7 TX7 6 ∈ lw_good := gd_of (w := .laysFinal "LineBlocksModel" "LineBlocksModel" "block" "[I") (List.mem_append_right _ (List.mem_append_right _ (List.mem_append_left _ (List.mem_of_getElem? (i := 193) rfl)))) rfl
set_option maxRecDepth 100000 in
theorem lay_X7_7 : u_lay RX7 TX7 7 ∈ lw_good := gd_of (w := .laysFinal "LineBlocksModel" "LineBlocksModel" "came" "[I") (List.mem_append_right _ (List.mem_append_right _ (List.mem_append_left _ (List.mem_of_getElem? (i := 195) rfl)))) rfl
set_option maxRecDepth 100000 in
theorem lay_X7_8 : u_lay RX7 TX7 8 ∈ lw_good := gd_of (w := .lays "LineBlocksModel" "LineBlocksModel" "taken" "I") (List.mem_append_right _ (List.mem_append_right _ (List.mem_append_left _ (List.mem_of_getElem? (i := 197) rfl)))) rfl
set_option maxRecDepth 100000 in
theorem lay_X7_9 : u_lay RX7 TX7 9 ∈ lw_good := gd_of (w := .lays "LineBlocksModel" "LineBlocksModel" "slips" "Z") (List.mem_append_right _ (List.mem_append_right _ (List.mem_append_left _ (List.mem_of_getElem? (i := 199) rfl)))) rfl
set_option maxRecDepth 100000 in
theorem lay_X7_10 : u_lay RX7 TX7 10 ∈ lw_good := gd_of (w := .lays "LineBlocksModel" "LineBlocksModel" "locked" "Z") (List.mem_append_right _ (List.mem_append_right _ (List.mem_append_left _ (List.mem_of_getElem? (i := 201) rfl)))) rfl
set_option maxRecDepth 100000 in
theorem lay_X7_11 : u_lay RX7 TX7 11 ∈ lw_good := gd_of (w := .lays "LineBlocksModel" "LineBlocksModel" "hits" "I") (List.mem_append_right _ (List.mem_append_right _ (List.mem_append_left _ (List.mem_of_getElem? (i := 203) rfl)))) rfl
set_option maxRecDepth 100000 in
theorem lay_X7_12 : u_lay RX7 TX7 12 ∈ lw_good := gd_of (w := .lays "LineBlocksModel" "LineBlocksModel" "slipped" "I") (List.mem_append_right _ (List.mem_append_right _ (List.mem_append_left _ (List.mem_of_getElem? (i := 205) rfl)))) rfl
set_option maxRecDepth 100000 in
theorem lay_X7_13 : u_lay RX7 TX7 13 ∈ lw_good := gd_of (w := .lays "LineBlocksModel" "LineBlocksModel" "row" "I") (List.mem_append_right _ (List.mem_append_right _ (List.mem_append_left _ (List.mem_of_getElem? (i := 207) rfl)))) rfl
set_option maxRecDepth 100000 in
theorem lay_X7_14 : u_lay RX7 TX7 14 ∈ lw_good := gd_of (w := .lays "LineBlocksModel" "LineBlocksModel" "wrong" "I") (List.mem_append_right _ (List.mem_append_right _ (List.mem_append_left _ (List.mem_of_getElem? (i := 209) rfl)))) rfl
set_option maxRecDepth 100000 in
theorem lay_X7_15 : u_lay RX7 TX7 15 ∈ lw_good := gd_of (w := .lays "LineBlocksModel" "LineBlocksModel" "toldCount" "I") (List.mem_append_right _ (List.mem_append_right _ (List.mem_append_left _ (List.mem_of_getElem? (i := 211) rfl)))) rfl
set_option maxRecDepth 100000 in
theorem lay_X7_16 : u_lay RX7 TX7 16 ∈ lw_good := gd_of (w := .laysFinal "LineBlocksModel" "LineBlocksModel" "told" "[I") (List.mem_append_right _ (List.mem_append_right _ (List.mem_append_left _ (List.mem_of_getElem? (i := 213) rfl)))) rfl
theorem in_X7 : ∀ w ∈ u_ws RX7 TX7 17, w ∈ lw_good := show ∀ w ∈ [u_lay RX7 TX7 0, u_lay RX7 TX7 1, u_lay RX7 TX7 2, u_lay RX7 TX7 3, u_lay RX7 TX7 4, u_lay RX7 TX7 5, u_lay RX7 TX7 6, u_lay RX7 TX7 7, u_lay RX7 TX7 8, u_lay RX7 TX7 9, u_lay RX7 TX7 10, u_lay RX7 TX7 11, u_lay RX7 TX7 12, u_lay RX7 TX7 13, u_lay RX7 TX7 14, u_lay RX7 TX7 15, u_lay RX7 TX7 16], w ∈ lw_good from List.forall_mem_cons.mpr ⟨lay_X7_0, List.forall_mem_cons.mpr ⟨lay_X7_1, List.forall_mem_cons.mpr ⟨lay_X7_2, List.forall_mem_cons.mpr ⟨lay_X7_3, List.forall_mem_cons.mpr ⟨lay_X7_4, List.forall_mem_cons.mpr ⟨lay_X7_5, List.forall_mem_cons.mpr ⟨lay_X7_6, List.forall_mem_cons.mpr ⟨lay_X7_7, List.forall_mem_cons.mpr ⟨lay_X7_8, List.forall_mem_cons.mpr ⟨lay_X7_9, List.forall_mem_cons.mpr ⟨lay_X7_10, List.forall_mem_cons.mpr ⟨lay_X7_11, List.forall_mem_cons.mpr ⟨lay_X7_12, List.forall_mem_cons.mpr ⟨lay_X7_13, List.forall_mem_cons.mpr ⟨lay_X7_14, List.forall_mem_cons.mpr ⟨lay_X7_15, List.forall_mem_cons.mpr ⟨lay_X7_16, fun _ h => absurd h List.not_mem_nil⟩⟩⟩⟩⟩⟩⟩⟩⟩⟩⟩⟩⟩⟩⟩⟩⟩
set_option maxRecDepth 100000 in
theorem nst_RX6_11 : Cond.methodLinkNest RX6 11 yX2_init "LineBlocks" ∈ lw_tbl := (List.mem_append_right _ (List.mem_append_left _ (List.mem_of_getElem? (i := 21) rfl)))
set_option maxRecDepth 100000 in
theorem nst_RX6_18 : Cond.methodLinkNest RX6 18 yX5_init "LineBlocks" ∈ lw_tbl := (List.mem_append_right _ (List.mem_append_left _ (List.mem_of_getElem? (i := 38) rfl)))
set_option maxRecDepth 100000 in
theorem nst_RX5_13 : Cond.methodLinkNest RX5 13 yX4_init "LineBlocks" ∈ lw_tbl := (List.mem_append_right _ (List.mem_append_left _ (List.mem_of_getElem? (i := 44) rfl)))
set_option maxRecDepth 100000 in
theorem nst_RX6_25 : Cond.methodLinkNest RX6 25 yX3_init "LineBlocks" ∈ lw_tbl := (List.mem_append_right _ (List.mem_append_left _ (List.mem_of_getElem? (i := 65) rfl)))
set_option maxRecDepth 100000 in
theorem nst_RX3_11 : Cond.methodLinkNest RX3 11 yX4_init "LineBlocks" ∈ lw_tbl := (List.mem_append_right _ (List.mem_append_left _ (List.mem_of_getElem? (i := 70) rfl)))
set_option maxRecDepth 100000 in
theorem nst_RX3_20 : Cond.methodLinkNest RX3 20 yX1_init "LineBlocks" ∈ lw_tbl := (List.mem_append_right _ (List.mem_append_left _ (List.mem_of_getElem? (i := 73) rfl)))
set_option maxRecDepth 100000 in
theorem lays_E : Cond.laysStatic "LineBlocks$Codec" "END_TYPES" "[I" ∈ lw_tbl := (List.mem_append_right _ (List.mem_append_left _ (List.mem_of_getElem? (i := 164) rfl)))
theorem ins_X1 : Cond.instantiable RX1 3 ∈ lw_good := gd_of (List.mem_append_right _ (List.mem_append_left _ (List.mem_of_getElem? (i := 72) rfl))) rfl
theorem ins_X2 : Cond.instantiable RX2 3 ∈ lw_good := gd_of (List.mem_append_right _ (List.mem_append_left _ (List.mem_of_getElem? (i := 20) rfl))) rfl
theorem ins_X3 : Cond.instantiable RX3 11 ∈ lw_good := gd_of (List.mem_append_right _ (List.mem_append_left _ (List.mem_of_getElem? (i := 64) rfl))) rfl
theorem ins_X4 : Cond.instantiable RX4 1 ∈ lw_good := gd_of (List.mem_append_right _ (List.mem_append_left _ (List.mem_of_getElem? (i := 43) rfl))) rfl
theorem ins_X5 : Cond.instantiable RX5 3 ∈ lw_good := gd_of (List.mem_append_right _ (List.mem_append_left _ (List.mem_of_getElem? (i := 37) rfl))) rfl
theorem ins_X6 : Cond.instantiable RX6 3 ∈ lw_good := gd_of (List.mem_append_right _ (List.mem_append_left _ (List.mem_of_getElem? (i := 12) rfl))) rfl
theorem ins_X7 : Cond.instantiable RX7 17 ∈ lw_good := gd_of (List.mem_append_right _ (List.mem_append_right _ (List.mem_append_left _ (List.mem_of_getElem? (i := 159) rfl)))) rfl
theorem arc_int : Cond.arrayClass .int ∈ lw_good := gd_of (List.mem_append_right _ (List.mem_append_left _ (List.mem_of_getElem? (i := 62) rfl))) rfl
theorem arc_long : Cond.arrayClass .long ∈ lw_good := gd_of (List.mem_append_right _ (List.mem_append_left _ (List.mem_of_getElem? (i := 35) rfl))) rfl
theorem arc_byte : Cond.arrayClass .byte ∈ lw_good := gd_of (List.mem_append_right _ (List.mem_append_right _ (List.mem_append_left _ (List.mem_of_getElem? (i := 216) rfl)))) rfl
theorem ini_E : Cond.initialized "LineBlocks$Codec" ∈ lw_good := gd_of (List.mem_append_right _ (List.mem_append_left _ (List.mem_of_getElem? (i := 8) rfl))) rfl
theorem kn_RX3_11 : lkN RX3 11 yX4_init cX4_init 1 0 := ⟨List.mem_of_getElem? (i := 4) rfl, wk39, wk35, wk40, ⟨by decide +kernel, by decide +kernel, by decide +kernel⟩, rfl⟩
theorem kn_RX3_20 : lkN RX3 20 yX1_init cX1_init 1 0 := ⟨List.mem_of_getElem? (i := 5) rfl, wk51, wk49, wk52, ⟨by decide +kernel, by decide +kernel, by decide +kernel⟩, rfl⟩
theorem kn_RX5_13 : lkN RX5 13 yX4_init cX4_init 1 0 := ⟨List.mem_of_getElem? (i := 2) rfl, wk39, wk35, wk40, ⟨by decide +kernel, by decide +kernel, by decide +kernel⟩, rfl⟩
theorem kn_RX6_11 : lkN RX6 11 yX2_init cX2_init 1 0 := ⟨List.mem_of_getElem? (i := 0) rfl, wk25, wk15, wk26, ⟨by decide +kernel, by decide +kernel, by decide +kernel⟩, rfl⟩
theorem kn_RX6_18 : lkN RX6 18 yX5_init cX5_init 1 0 := ⟨List.mem_of_getElem? (i := 1) rfl, wk30, wk19, wk31, ⟨by decide +kernel, by decide +kernel, by decide +kernel⟩, rfl⟩
theorem kn_RX6_25 : lkN RX6 25 yX3_init cX3_init 1 0 := ⟨List.mem_of_getElem? (i := 3) rfl, wk42, wk23, wk43, ⟨by decide +kernel, by decide +kernel, by decide +kernel⟩, rfl⟩
theorem ks_RX0_15 : lkS RX0 15 yX0_areIdleOrError cX0_areIdleOrError 4 (some .boolean) 3 := ⟨wk101, wk102, wk92, wk103, ⟨by decide +kernel, by decide +kernel, by decide +kernel⟩⟩
theorem ks_RX0_23 : lkS RX0 23 yX0_areData cX0_areData 3 (some .boolean) 2 := ⟨wk104, wk105, wk92, wk106, ⟨by decide +kernel, by decide +kernel, by decide +kernel⟩⟩
theorem ks_RX0_27 : lkS RX0 27 yX0_bitsOf cX0_bitsOf 3 (some .long) 3 := ⟨wk114, wk115, wk92, wk116, ⟨by decide +kernel, by decide +kernel, by decide +kernel⟩⟩
theorem ks_RX0_31 : lkS RX0 31 yX0_endPlace cX0_endPlace 2 (some .int) 1 := ⟨wk121, wk122, wk92, wk123, ⟨by decide +kernel, by decide +kernel, by decide +kernel⟩⟩
theorem ks_RX0_35 : lkS RX0 35 yX0_characterByEnd cX0_characterByEnd 5 (some .int) 4 := ⟨wk430, wk431, wk92, wk432, ⟨by decide +kernel, by decide +kernel, by decide +kernel⟩⟩
theorem ks_RX0_39 : lkS RX0 39 yX0_dataAt cX0_dataAt 4 (some .int) 3 := ⟨wk433, wk434, wk92, wk435, ⟨by decide +kernel, by decide +kernel, by decide +kernel⟩⟩
theorem ks_RX0_43 : lkS RX0 43 yX0_codedAt cX0_codedAt 4 (some .int) 2 := ⟨wk436, wk437, wk92, wk438, ⟨by decide +kernel, by decide +kernel, by decide +kernel⟩⟩
theorem ks_RX0_47 : lkS RX0 47 yX0_characterByMiddleStart cX0_characterByMiddleStart 3 (some .int) 2 := ⟨wk439, wk440, wk92, wk441, ⟨by decide +kernel, by decide +kernel, by decide +kernel⟩⟩
theorem ks_RX0_50 : lkS RX0 50 yX0_dataShift cX0_dataShift 2 (some .int) 2 := ⟨wk118, wk119, wk92, wk120, ⟨by decide +kernel, by decide +kernel, by decide +kernel⟩⟩
theorem ks_RX0_54 : lkS RX0 54 yX0_codeShift cX0_codeShift 1 (some .int) 1 := ⟨wk124, wk125, wk92, wk126, ⟨by decide +kernel, by decide +kernel, by decide +kernel⟩⟩
theorem ks_RX0_57 : lkS RX0 57 yX0_isData cX0_isData 1 (some .boolean) 1 := ⟨wk98, wk99, wk92, wk100, ⟨by decide +kernel, by decide +kernel, by decide +kernel⟩⟩
theorem ks_RX0_9 : lkS RX0 9 yX0_leadingData cX0_leadingData 2 (some .int) 1 := ⟨wk95, wk96, wk92, wk97, ⟨by decide +kernel, by decide +kernel, by decide +kernel⟩⟩
theorem ks_RX1_23 : lkS RX1 23 yX1_slotOf cX1_slotOf 1 (some .int) 1 := ⟨wk339, wk340, wk49, wk341, ⟨by decide +kernel, by decide +kernel, by decide +kernel⟩⟩
theorem ks_RX1_31 : lkS RX1 31 yX0_characterOf cX0_characterOf 5 (some .int) 3 := ⟨wk427, wk428, wk92, wk429, ⟨by decide +kernel, by decide +kernel, by decide +kernel⟩⟩
theorem ks_RX1_37 : lkS RX1 37 yJ9_floorMod_7cf53 cJ9_floorMod_7cf53 3 (some .int) 2 := ⟨wk342, wk142, wk143, wk144, ⟨by decide +kernel, by decide +kernel, by decide +kernel⟩⟩
theorem ks_RX2_28 : lkS RX2 28 yJ9_floorMod_7cf53 cJ9_floorMod_7cf53 3 (some .int) 2 := ⟨wk141, wk142, wk143, wk144, ⟨by decide +kernel, by decide +kernel, by decide +kernel⟩⟩
theorem ks_RX3_74 : lkS RX3 74 yX0_typeOfBlock cX0_typeOfBlock 3 (some .int) 2 := ⟨wk332, wk333, wk92, wk334, ⟨by decide +kernel, by decide +kernel, by decide +kernel⟩⟩
theorem ks_RX5_46 : lkS RX5 46 yX0_typeOfGroup cX0_typeOfGroup 2 (some .int) 1 := ⟨wk90, wk91, wk92, wk93, ⟨by decide +kernel, by decide +kernel, by decide +kernel⟩⟩
theorem ks_RX5_50 : lkS RX5 50 yJ7_fill_53178 cJ7_fill_53178 4 none 2 := ⟨wk107, wk108, wk109, wk110, ⟨by decide +kernel, by decide +kernel, by decide +kernel⟩⟩
theorem ks_RX5_56 : lkS RX5 56 yX0_payloadOf cX0_payloadOf 5 (some .long) 2 := ⟨wk111, wk112, wk92, wk113, ⟨by decide +kernel, by decide +kernel, by decide +kernel⟩⟩
theorem ks_RX7_40 : lkS RX7 40 yX7_isData cX7_isData 1 (some .boolean) 1 := ⟨wk177, wk178, wk5, wk179, ⟨by decide +kernel, by decide +kernel, by decide +kernel⟩⟩
theorem ks_RX7_44 : lkS RX7 44 yX7_isQuiet cX7_isQuiet 1 (some .boolean) 1 := ⟨wk180, wk181, wk5, wk182, ⟨by decide +kernel, by decide +kernel, by decide +kernel⟩⟩
theorem ks_RX7_59 : lkS RX7 59 yX7_typeOf cX7_typeOf 1 (some .int) 1 := ⟨wk191, wk192, wk5, wk193, ⟨by decide +kernel, by decide +kernel, by decide +kernel⟩⟩
theorem kv_RX1_27 : lkV RX1 27 yX1_isKept cX1_isKept 2 (some .boolean) 1 := ⟨wk423, wk424, wk425, wk49, wk426, ⟨by decide +kernel, by decide +kernel, by decide +kernel⟩⟩
theorem kv_RX2_19 : lkV RX2 19 yX2_ringPlace cX2_ringPlace 2 (some .int) 1 := ⟨wk136, wk137, wk138, wk15, wk139, ⟨by decide +kernel, by decide +kernel, by decide +kernel⟩⟩
theorem kv_RX3_39 : lkV RX3 39 yX1_count cX1_count 1 (some .int) 0 := ⟨wk310, wk311, wk312, wk49, wk313, ⟨by decide +kernel, by decide +kernel, by decide +kernel⟩⟩
theorem kv_RX3_46 : lkV RX3 46 yX1_character cX1_character 4 (some .int) 2 := ⟨wk419, wk420, wk421, wk49, wk422, ⟨by decide +kernel, by decide +kernel, by decide +kernel⟩⟩
theorem kv_RX3_50 : lkV RX3 50 yX4_exchange cX4_exchange 5 (some .long) 1 := ⟨wk246, wk239, wk240, wk35, wk241, ⟨by decide +kernel, by decide +kernel, by decide +kernel⟩⟩
theorem kv_RX3_64 : lkV RX3 64 yX4_unscramble cX4_unscramble 3 (some .int) 1 := ⟨wk323, wk324, wk325, wk35, wk326, ⟨by decide +kernel, by decide +kernel, by decide +kernel⟩⟩
theorem kv_RX3_68 : lkV RX3 68 yX3_endBlock cX3_endBlock 2 none 0 := ⟨wk327, wk328, wk329, wk23, wk330, ⟨by decide +kernel, by decide +kernel, by decide +kernel⟩⟩
theorem kv_RX3_71 : lkV RX3 71 yX3_beginBlock cX3_beginBlock 1 none 0 := ⟨wk363, wk364, wk365, wk23, wk366, ⟨by decide +kernel, by decide +kernel, by decide +kernel⟩⟩
theorem kv_RX3_80 : lkV RX3 80 yX1_keep cX1_keep 5 none 2 := ⟨wk335, wk336, wk337, wk49, wk338, ⟨by decide +kernel, by decide +kernel, by decide +kernel⟩⟩
theorem kv_RX3_84 : lkV RX3 84 yX3_countInRow cX3_countInRow 2 none 1 := ⟨wk343, wk344, wk345, wk23, wk346, ⟨by decide +kernel, by decide +kernel, by decide +kernel⟩⟩
theorem kv_RX3_88 : lkV RX3 88 yX3_countHit cX3_countHit 2 none 1 := ⟨wk359, wk360, wk361, wk23, wk362, ⟨by decide +kernel, by decide +kernel, by decide +kernel⟩⟩
theorem kv_RX3_91 : lkV RX3 91 yX3_slip cX3_slip 1 none 0 := ⟨wk349, wk350, wk351, wk23, wk352, ⟨by decide +kernel, by decide +kernel, by decide +kernel⟩⟩
theorem kv_RX3_97 : lkV RX3 97 yX3_beginRow cX3_beginRow 1 none 0 := ⟨wk355, wk356, wk357, wk23, wk358, ⟨by decide +kernel, by decide +kernel, by decide +kernel⟩⟩
theorem kv_RX4_15 : lkV RX4 15 yX4_mixed cX4_mixed 4 (some .int) 1 := ⟨wk149, wk150, wk151, wk35, wk152, ⟨by decide +kernel, by decide +kernel, by decide +kernel⟩⟩
theorem kv_RX4_19 : lkV RX4 19 yX4_keep cX4_keep 2 none 1 := ⟨wk154, wk155, wk156, wk35, wk157, ⟨by decide +kernel, by decide +kernel, by decide +kernel⟩⟩
theorem kv_RX5_28 : lkV RX5 28 yX4_exchange cX4_exchange 5 (some .long) 1 := ⟨wk238, wk239, wk240, wk35, wk241, ⟨by decide +kernel, by decide +kernel, by decide +kernel⟩⟩
theorem kv_RX5_32 : lkV RX5 32 yX5_sendGroup cX5_sendGroup 4 none 1 := ⟨wk86, wk87, wk88, wk19, wk89, ⟨by decide +kernel, by decide +kernel, by decide +kernel⟩⟩
theorem kv_RX5_36 : lkV RX5 36 yX5_accept cX5_accept 3 none 2 := ⟨wk210, wk83, wk84, wk19, wk85, ⟨by decide +kernel, by decide +kernel, by decide +kernel⟩⟩
theorem kv_RX5_42 : lkV RX5 42 yX5_sendBlock cX5_sendBlock 6 none 3 := ⟨wk127, wk128, wk129, wk19, wk130, ⟨by decide +kernel, by decide +kernel, by decide +kernel⟩⟩
theorem kv_RX5_60 : lkV RX5 60 yX2_append cX2_append 3 none 1 := ⟨wk131, wk132, wk133, wk15, wk134, ⟨by decide +kernel, by decide +kernel, by decide +kernel⟩⟩
theorem kv_RX5_66 : lkV RX5 66 yX4_scramble cX4_scramble 3 (some .int) 1 := ⟨wk145, wk146, wk147, wk35, wk148, ⟨by decide +kernel, by decide +kernel, by decide +kernel⟩⟩
theorem kv_RX6_100 : lkV RX6 100 yX3_wrongHeadCount cX3_wrongHeadCount 1 (some .int) 0 := ⟨wk466, wk467, wk468, wk23, wk469, ⟨by decide +kernel, by decide +kernel, by decide +kernel⟩⟩
theorem kv_RX6_30 : lkV RX6 30 yX5_waitingCount cX5_waitingCount 1 (some .int) 0 := ⟨wk72, wk73, wk74, wk19, wk75, ⟨by decide +kernel, by decide +kernel, by decide +kernel⟩⟩
theorem kv_RX6_34 : lkV RX6 34 yX2_size cX2_size 1 (some .int) 0 := ⟨wk77, wk78, wk79, wk15, wk80, ⟨by decide +kernel, by decide +kernel, by decide +kernel⟩⟩
theorem kv_RX6_37 : lkV RX6 37 yX5_accept cX5_accept 3 none 2 := ⟨wk82, wk83, wk84, wk19, wk85, ⟨by decide +kernel, by decide +kernel, by decide +kernel⟩⟩
theorem kv_RX6_41 : lkV RX6 41 yX5_acceptBytes cX5_acceptBytes 4 none 2 := ⟨wk206, wk207, wk208, wk19, wk209, ⟨by decide +kernel, by decide +kernel, by decide +kernel⟩⟩
theorem kv_RX6_44 : lkV RX6 44 yX5_sendIdleGroups cX5_sendIdleGroups 4 none 2 := ⟨wk220, wk221, wk222, wk19, wk223, ⟨by decide +kernel, by decide +kernel, by decide +kernel⟩⟩
theorem kv_RX6_47 : lkV RX6 47 yX5_exchangeState cX5_exchangeState 3 (some .long) 1 := ⟨wk234, wk235, wk236, wk19, wk237, ⟨by decide +kernel, by decide +kernel, by decide +kernel⟩⟩
theorem kv_RX6_51 : lkV RX6 51 yX3_exchangeState cX3_exchangeState 3 (some .long) 1 := ⟨wk242, wk243, wk244, wk23, wk245, ⟨by decide +kernel, by decide +kernel, by decide +kernel⟩⟩
theorem kv_RX6_54 : lkV RX6 54 yX2_has cX2_has 2 (some .boolean) 1 := ⟨wk265, wk266, wk267, wk15, wk268, ⟨by decide +kernel, by decide +kernel, by decide +kernel⟩⟩
theorem kv_RX6_58 : lkV RX6 58 yX2_at cX2_at 3 (some .int) 1 := ⟨wk269, wk270, wk271, wk15, wk272, ⟨by decide +kernel, by decide +kernel, by decide +kernel⟩⟩
theorem kv_RX6_62 : lkV RX6 62 yX2_flip cX2_flip 3 none 1 := ⟨wk281, wk282, wk283, wk15, wk284, ⟨by decide +kernel, by decide +kernel, by decide +kernel⟩⟩
theorem kv_RX6_66 : lkV RX6 66 yX2_append cX2_append 3 none 1 := ⟨wk293, wk132, wk133, wk15, wk134, ⟨by decide +kernel, by decide +kernel, by decide +kernel⟩⟩
theorem kv_RX6_69 : lkV RX6 69 yX3_groupCount cX3_groupCount 1 (some .int) 0 := ⟨wk306, wk307, wk308, wk23, wk309, ⟨by decide +kernel, by decide +kernel, by decide +kernel⟩⟩
theorem kv_RX6_78 : lkV RX6 78 yX3_take cX3_take 2 none 1 := ⟨wk315, wk316, wk317, wk23, wk318, ⟨by decide +kernel, by decide +kernel, by decide +kernel⟩⟩
theorem kv_RX6_81 : lkV RX6 81 yX2_dropFirst cX2_dropFirst 2 none 1 := ⟨wk367, wk368, wk369, wk15, wk370, ⟨by decide +kernel, by decide +kernel, by decide +kernel⟩⟩
theorem kv_RX6_84 : lkV RX6 84 yX3_character cX3_character 3 (some .int) 2 := ⟨wk415, wk416, wk417, wk23, wk418, ⟨by decide +kernel, by decide +kernel, by decide +kernel⟩⟩
theorem kv_RX6_87 : lkV RX6 87 yX3_isLocked cX3_isLocked 1 (some .boolean) 0 := ⟨wk450, wk451, wk452, wk23, wk453, ⟨by decide +kernel, by decide +kernel, by decide +kernel⟩⟩
theorem kv_RX6_91 : lkV RX6 91 yX3_hitCount cX3_hitCount 1 (some .int) 0 := ⟨wk454, wk455, wk456, wk23, wk457, ⟨by decide +kernel, by decide +kernel, by decide +kernel⟩⟩
theorem kv_RX6_94 : lkV RX6 94 yX3_slipCount cX3_slipCount 1 (some .int) 0 := ⟨wk458, wk459, wk460, wk23, wk461, ⟨by decide +kernel, by decide +kernel, by decide +kernel⟩⟩
theorem kv_RX6_97 : lkV RX6 97 yX3_bitsOfBlock cX3_bitsOfBlock 1 (some .int) 0 := ⟨wk462, wk463, wk464, wk23, wk465, ⟨by decide +kernel, by decide +kernel, by decide +kernel⟩⟩
theorem kv_RX7_113 : lkV RX7 113 yX7_slip cX7_slip 1 none 0 := ⟨wk386, wk387, wk388, wk5, wk389, ⟨by decide +kernel, by decide +kernel, by decide +kernel⟩⟩
theorem kv_RX7_122 : lkV RX7 122 yX7_tell cX7_tell 2 none 0 := ⟨wk391, wk392, wk393, wk5, wk394, ⟨by decide +kernel, by decide +kernel, by decide +kernel⟩⟩
theorem kv_RX7_125 : lkV RX7 125 yX7_whole cX7_whole 3 none 0 := ⟨wk378, wk379, wk380, wk5, wk381, ⟨by decide +kernel, by decide +kernel, by decide +kernel⟩⟩
theorem kv_RX7_47 : lkV RX7 47 yX7_setBits cX7_setBits 5 none 3 := ⟨wk183, wk184, wk185, wk5, wk186, ⟨by decide +kernel, by decide +kernel, by decide +kernel⟩⟩
theorem kv_RX7_51 : lkV RX7 51 yX7_are cX7_are 6 (some .boolean) 3 := ⟨wk173, wk174, wk175, wk5, wk176, ⟨by decide +kernel, by decide +kernel, by decide +kernel⟩⟩
theorem kv_RX7_55 : lkV RX7 55 yX7_putCode cX7_putCode 3 none 2 := ⟨wk187, wk188, wk189, wk5, wk190, ⟨by decide +kernel, by decide +kernel, by decide +kernel⟩⟩
theorem kv_RX7_63 : lkV RX7 63 yX7_encode cX7_encode 4 none 0 := ⟨wk169, wk170, wk171, wk5, wk172, ⟨by decide +kernel, by decide +kernel, by decide +kernel⟩⟩
theorem kv_RX7_66 : lkV RX7 66 yX7_mixed cX7_mixed 3 (some .int) 2 := ⟨wk194, wk195, wk196, wk5, wk197, ⟨by decide +kernel, by decide +kernel, by decide +kernel⟩⟩
theorem kv_RX7_70 : lkV RX7 70 yX7_remember cX7_remember 4 none 2 := ⟨wk198, wk199, wk200, wk5, wk201, ⟨by decide +kernel, by decide +kernel, by decide +kernel⟩⟩
theorem kv_RX7_76 : lkV RX7 76 yX7_send cX7_send 3 none 0 := ⟨wk165, wk166, wk167, wk5, wk168, ⟨by decide +kernel, by decide +kernel, by decide +kernel⟩⟩
theorem kv_RX7_79 : lkV RX7 79 yX7_put cX7_put 2 (some .int) 1 := ⟨wk215, wk160, wk161, wk5, wk162, ⟨by decide +kernel, by decide +kernel, by decide +kernel⟩⟩
theorem kv_RX7_82 : lkV RX7 82 yX7_get cX7_get 5 (some .int) 2 := ⟨wk399, wk400, wk401, wk5, wk402, ⟨by decide +kernel, by decide +kernel, by decide +kernel⟩⟩
theorem kv_RX7_85 : lkV RX7 85 yX7_codeAt cX7_codeAt 2 (some .int) 1 := ⟨wk403, wk404, wk405, wk5, wk406, ⟨by decide +kernel, by decide +kernel, by decide +kernel⟩⟩
theorem kv_RX7_88 : lkV RX7 88 yX7_endOf cX7_endOf 4 (some .int) 1 := ⟨wk407, wk408, wk409, wk5, wk410, ⟨by decide +kernel, by decide +kernel, by decide +kernel⟩⟩
theorem kv_RX7_94 : lkV RX7 94 yX7_character cX7_character 4 (some .int) 1 := ⟨wk395, wk396, wk397, wk5, wk398, ⟨by decide +kernel, by decide +kernel, by decide +kernel⟩⟩
end
section
/-! bits: of an int (bt), of a long (bl); a bit as an int (bi) -/
def bt (x : Int32) (i : Nat) : Bool := x.toBitVec.getLsbD i
def bl (x : Int64) (i : Nat) : Bool := x.toBitVec.getLsbD i
def bi (x : Bool) : Int32 := if x then 1 else 0
theorem bt_ext {x y : Int32} (h : ∀ i, i < 32 → bt x i = bt y i) : x = y := Int32.toBitVec_inj.mp (BitVec.eq_of_getLsbD_eq (fun i hi => h i hi))
theorem bl_ext {x y : Int64} (h : ∀ i, i < 64 → bl x i = bl y i) : x = y := Int64.toBitVec_inj.mp (BitVec.eq_of_getLsbD_eq (fun i hi => h i hi))
theorem bt_or (x y : Int32) (i : Nat) : bt (x ||| y) i = (bt x i || bt y i) := by unfold bt; rw [Int32.toBitVec_or, BitVec.getLsbD_or]
theorem bt_and (x y : Int32) (i : Nat) : bt (x &&& y) i = (bt x i && bt y i) := by unfold bt; rw [Int32.toBitVec_and, BitVec.getLsbD_and]
theorem bt_xor (x y : Int32) (i : Nat) : bt (x ^^^ y) i = (bt x i ^^ bt y i) := by unfold bt; rw [Int32.toBitVec_xor, BitVec.getLsbD_xor]
theorem bl_or (x y : Int64) (i : Nat) : bl (x ||| y) i = (bl x i || bl y i) := by unfold bl; rw [Int64.toBitVec_or, BitVec.getLsbD_or]
theorem bl_and (x y : Int64) (i : Nat) : bl (x &&& y) i = (bl x i && bl y i) := by unfold bl; rw [Int64.toBitVec_and, BitVec.getLsbD_and]
theorem bl_xor (x y : Int64) (i : Nat) : bl (x ^^^ y) i = (bl x i ^^ bl y i) := by unfold bl; rw [Int64.toBitVec_xor, BitVec.getLsbD_xor]
theorem bt_big {x : Int32} {i : Nat} (h : 32 ≤ i) : bt x i = false := BitVec.getLsbD_of_ge _ _ h
theorem bl_big {x : Int64} {i : Nat} (h : 64 ≤ i) : bl x i = false := BitVec.getLsbD_of_ge _ _ h
theorem bt_0 (i : Nat) : bt 0 i = false := BitVec.getLsbD_zero
theorem bl_0 (i : Nat) : bl 0 i = false := BitVec.getLsbD_zero
theorem bl_m1 : ∀ i, i < 64 → bl (-1) i = true := by decide +kernel
theorem bt_1 : ∀ i, i < 32 → bt 1 i = decide (i = 0) := by decide +kernel
theorem bl_1 : ∀ i, i < 64 → bl 1 i = decide (i = 0) := by decide +kernel
theorem bl_mask : ∀ i, i < 64 → bl 288230376151711743 i = decide (i < 58) := by decide +kernel
theorem bt_bi (b : Bool) (i : Nat) : bt (bi b) i = (b && decide (i = 0)) := by
  rcases Nat.lt_or_ge i 32 with h | h
  · cases b
    · show bt 0 i = _
      rw [bt_0]; rfl
    · show bt 1 i = _
      rw [bt_1 i h]; simp
  · rw [bt_big h]
    cases b
    · rfl
    · simp; omega
theorem bi_t0 (b : Bool) : bt (bi b) 0 = b := by rw [bt_bi]; simp
theorem bi_inj {a b : Bool} (h : bi a = bi b) : a = b := by rw [← bi_t0 a, h, bi_t0]
theorem bi_01 (b : Bool) : 0 ≤ (bi b).toInt ∧ (bi b).toInt ≤ 1 := by cases b <;> decide
theorem bi_of {x : Int32} (h : 0 ≤ x.toInt ∧ x.toInt ≤ 1) : x = bi (bt x 0) := by
  rcases zb_01 h with rfl | rfl <;> rfl
theorem and1 (x : Int32) : x &&& 1 = bi (bt x 0) := by
  apply bt_ext
  intro i hi
  rw [bt_and, bt_1 i hi, bt_bi]
  by_cases h : i = 0
  · subst h; simp
  · simp [h]
theorem bi_xor (a b : Bool) : bi a ^^^ bi b = bi (a ^^ b) := by cases a <;> cases b <;> rfl
theorem bi_not (a : Bool) : (1 : Int32) - bi a = bi (!a) := by cases a <;> rfl
theorem bi_byte (a : Bool) : vp_nar .byte (bi a).toInt8.toInt32 = bi a := by cases a <;> rfl
theorem bi_byte' (a : Bool) : vp_nar .byte (bi a) = bi a := by cases a <;> rfl
theorem bi_b (a : Bool) : (bi a).toInt8.toInt32 = bi a := by cases a <;> rfl
theorem sh_of {y : Int32} {k : Nat} (hy : y.toInt = k) (hk : k < 64) : y = nI k := Int32.toInt_inj.mp (hy.trans (nI_toInt (by omega)).symm)
theorem sh_c : ∀ k, k < 64 → ((nI k).toInt64 &&& 63) = lN k := by decide +kernel
theorem sh_cu : ∀ k, k < 64 → ((nI k).toInt64.toUInt64 &&& Int64.toUInt64 63) = UInt64.ofNat k := by decide +kernel
theorem sh_m : ∀ k, k < 64 → ((lN k).toBitVec.smod 64).toNat = k := by decide +kernel
theorem sh_mu : ∀ k, k < 64 → ((UInt64.ofNat k).toBitVec % 64).toNat = k := by decide +kernel
theorem bl_shl {x : Int64} {y : Int32} {k i : Nat} (hy : y.toInt = k) (hk : k < 64) (hi : i < 64) : bl (x <<< (y.toInt64 &&& 63)) i = (decide (k ≤ i) && bl x (i - k)) := by
  rw [sh_of hy hk, sh_c k hk]
  unfold bl
  rw [Int64.toBitVec_shiftLeft]
  show (x.toBitVec <<< ((lN k).toBitVec.smod 64).toNat).getLsbD i = _
  rw [sh_m k hk, BitVec.getLsbD_shiftLeft]
  rcases Nat.lt_or_ge i k with h | h
  · simp [h, Nat.not_le.mpr h]
  · simp [hi, h, Nat.not_lt.mpr h]
theorem bl_ushr {x : Int64} {y : Int32} {k i : Nat} (hy : y.toInt = k) (hk : k < 64) : bl ((x.toUInt64 >>> (y.toInt64.toUInt64 &&& Int64.toUInt64 63)).toInt64) i = bl x (k + i) := by
  rw [sh_of hy hk, sh_cu k hk]
  show (x.toUInt64 >>> UInt64.ofNat k).toBitVec.getLsbD i = x.toUInt64.toBitVec.getLsbD (k + i)
  rw [UInt64.toBitVec_shiftRight]
  show (x.toUInt64.toBitVec >>> ((UInt64.ofNat k).toBitVec % 64).toNat).getLsbD i = _
  rw [sh_mu k hk, BitVec.getLsbD_ushiftRight]
theorem bl_sshr {x : Int64} {y : Int32} {k i : Nat} (hy : y.toInt = k) (hk : k < 64) (hi : k + i < 64) : bl (x >>> (y.toInt64 &&& 63)) i = bl x (k + i) := by
  rw [sh_of hy hk, sh_c k hk]
  unfold bl
  rw [Int64.toBitVec_shiftRight]
  show (x.toBitVec.sshiftRight ((lN k).toBitVec.smod 64).toNat).getLsbD i = _
  rw [sh_m k hk, BitVec.getLsbD_sshiftRight]
  simp [hi, show i < 64 by omega]
theorem bt_l2i (x : Int64) {i : Nat} (hi : i < 32) : bt x.toInt32 i = bl x i := by
  unfold bt bl
  rw [Int64.toBitVec_toInt32, BitVec.getLsbD_signExtend]
  simp [hi, show i < 64 by omega]
theorem bl_i2l (x : Int32) {i : Nat} (hi : i < 64) : bl x.toInt64 i = if i < 32 then bt x i else bt x 31 := by
  unfold bt bl
  rw [Int32.toBitVec_toInt64, BitVec.getLsbD_signExtend, BitVec.msb_eq_getLsbD_last]
  simp [hi]
theorem bl_bi (b : Bool) {i : Nat} (hi : i < 64) : bl (bi b).toInt64 i = (b && decide (i = 0)) := by
  rw [bl_i2l _ hi]
  by_cases h : i < 32
  · rw [if_pos h, bt_bi]
  · rw [if_neg h, bt_bi]
    simp [show ¬ i = 0 by omega]
end
section
/-! the line's bits; the scrambler's stream -/
def lnB (fw : Nat → Int64) (f i : Int) : Bool := bl (fw (((f + i) % 9088).toNat / 64)) (((f + i) % 9088).toNat % 64)
def scO (σ : Nat → Bool) (d : Bool) : Bool := (d ^^ σ 38) ^^ σ 57
def scN (σ : Nat → Bool) (o : Bool) : Nat → Bool := fun j => if j = 0 then o else σ (j - 1)
def scS (σ p : Nat → Bool) : Nat → Nat → Bool
  | 0 => σ
  | k + 1 => scN (scS σ p k) (scO (scS σ p k) (p k))
def scB (σ p : Nat → Bool) (k : Nat) : Bool := scO (scS σ p k) (p k)
theorem scS_cg {σ τ p q : Nat → Bool} (h : ∀ j, j < 58 → σ j = τ j) : ∀ k, (∀ j, j < k → p j = q j) → ∀ j, j < 58 → scS σ p k j = scS τ q k j := by
  intro k
  induction k with
  | zero => exact fun _ j hj => h j hj
  | succ k ih =>
    intro hp j hj
    have hk := ih (fun j hj => hp j (by omega))
    show scN (scS σ p k) (scO (scS σ p k) (p k)) j = scN (scS τ q k) (scO (scS τ q k) (q k)) j
    unfold scN scO
    rw [hk 38 (by omega), hk 57 (by omega), hp k (by omega)]
    by_cases h0 : j = 0
    · rw [if_pos h0, if_pos h0]
    · rw [if_neg h0, if_neg h0, hk (j - 1) (by omega)]
theorem scB_cg {σ τ p q : Nat → Bool} (h : ∀ j, j < 58 → σ j = τ j) (k : Nat) (hp : ∀ j, j < k + 1 → p j = q j) : scB σ p k = scB τ q k := by
  unfold scB scO
  rw [scS_cg h k (fun j hj => hp j (by omega)) 38 (by omega), scS_cg h k (fun j hj => hp j (by omega)) 57 (by omega), hp k (by omega)]
/-- reading: (int) (w >>> s) & 1 -/
theorem rd_bit {w : Int64} {s : Int32} {x : Int64} {k : Nat} {u y r : Int32} (hs : s.toInt = k) (hk : k < 64) (hx : x = (w.toUInt64 >>> (s.toInt64.toUInt64 &&& Int64.toUInt64 63)).toInt64) (hu : u = x.toInt32) (hy : y = 1) (hr : r = u &&& y) : r = bi (bl w k) := by
  rw [hr, hy, and1, hu, bt_l2i _ (by omega), hx, bl_ushr hs hk]
  rfl
/-- the clearing and setting of one bit -/
theorem up_bit {w m n z a o : Int64} {s b : Int32} {k : Nat} (hs : s.toInt = k) (hk : k < 64) (hm : m = (1 : Int64) <<< (s.toInt64 &&& 63)) (hn : n = m ^^^ (-1)) (ha : a = w &&& n) (hz : z = b.toInt64 <<< (s.toInt64 &&& 63)) (ho : o = a ||| z) (hb : 0 ≤ b.toInt ∧ b.toInt ≤ 1) {i : Nat} (hi : i < 64) : bl o i = if i = k then bt b 0 else bl w i := by
  rw [ho, bl_or, ha, bl_and, hn, bl_xor, hm, bl_shl hs hk hi, hz, bl_shl hs hk hi, bl_m1 i hi, bl_1 (i - k) (by omega), bi_of hb, bl_bi _ (by omega), bi_t0]
  by_cases h : i = k
  · subst h; simp
  · rw [if_neg h]
    by_cases h2 : k ≤ i
    · simp [h2, show ¬ i - k = 0 by omega]
    · simp [h2]
theorem fl_bit {w m o : Int64} {s : Int32} {k : Nat} (hs : s.toInt = k) (hk : k < 64) (hm : m = (1 : Int64) <<< (s.toInt64 &&& 63)) (ho : o = w ^^^ m) {i : Nat} (hi : i < 64) : bl o i = if i = k then !bl w i else bl w i := by
  rw [ho, bl_xor, hm, bl_shl hs hk hi, bl_1 (i - k) (by omega)]
  by_cases h : i = k
  · subst h; simp
  · rw [if_neg h]
    by_cases h2 : k ≤ i
    · simp [h2, show ¬ i - k = 0 by omega]
    · simp [h2]
/-- one place of the ring changed -/
theorem lnB_up {fw gw : Nat → Int64} {f p : Int} {c : Bool} (hp : 0 ≤ p ∧ p < 9088) (hsame : ∀ j, j ≠ p.toNat / 64 → gw j = fw j) (hbit : ∀ i, i < 64 → bl (gw (p.toNat / 64)) i = if i = p.toNat % 64 then c else bl (fw (p.toNat / 64)) i) (j : Int) : lnB gw f j = if (f + j) % 9088 = p then c else lnB fw f j := by
  unfold lnB
  have hr : 0 ≤ (f + j) % 9088 ∧ (f + j) % 9088 < 9088 := by omega
  by_cases h : (f + j) % 9088 = p
  · rw [if_pos h, h, hbit _ (by omega), if_pos rfl]
  · rw [if_neg h]
    by_cases h2 : ((f + j) % 9088).toNat / 64 = p.toNat / 64
    · rw [h2, hbit _ (by omega), if_neg (by omega)]
    · rw [hsame _ h2]
theorem lnB_drop {fw : Nat → Int64} {f g n : Int} (h : g = (f + n) % 9088) (j : Int) : lnB fw g j = lnB fw f (j + n) := by
  unfold lnB
  rw [show (g + j) % 9088 = (f + (j + n)) % 9088 by omega]
/-- the scrambler: what is mixed in, what is kept -/
theorem mx_bit {la x y : Int64} {a b c d e g o s t : Int32} (hs : s.toInt = 38) (ht : t.toInt = 57) (hx : x = (la.toUInt64 >>> (s.toInt64.toUInt64 &&& Int64.toUInt64 63)).toInt64) (ha : a = x.toInt32) (hb : b = a &&& c) (hc : c = 1) (hy : y = (la.toUInt64 >>> (t.toInt64.toUInt64 &&& Int64.toUInt64 63)).toInt64) (hd : d = y.toInt32) (he : e = d &&& g) (hg : g = 1) (ho : 0 ≤ o.toInt ∧ o.toInt ≤ 1) : (o ^^^ b) ^^^ e = bi (scO (bl la) (bt o 0)) := by
  rw [rd_bit (k := 38) hs (by omega) hx ha hc hb, rd_bit (k := 57) ht (by omega) hy hd hg he, bi_of ho, bi_xor, bi_xor, bi_t0]
  rfl
theorem kp_bit {la x y z o : Int64} {b s : Int32} (hs : s.toInt = 1) (hx : x = la <<< (s.toInt64 &&& 63)) (hy : y = b.toInt64) (hz : z = x ||| y) (ho : o = z &&& 288230376151711743) (hb : 0 ≤ b.toInt ∧ b.toInt ≤ 1) {j : Nat} (hj : j < 58) : bl o j = scN (bl la) (bt b 0) j := by
  rw [ho, bl_and, hz, bl_or, hx, bl_shl (k := 1) hs (by omega) (by omega), hy, bi_of hb, bl_bi _ (by omega), bi_t0, bl_mask j (by omega)]
  unfold scN
  by_cases h : j = 0
  · subst h; simp
  · simp [h, hj, show 1 ≤ j by omega]
end
section
/-! the block of a group, as a relation: what its 66 bits are -/
def aD (g : Nat → Int32) (a b : Nat) : Prop := ∀ k, a ≤ k → k < b → (g k).toInt < 256
def aQ (g : Nat → Int32) (a b : Nat) : Prop := ∀ k, a ≤ k → k < b → (g k).toInt = 256 ∨ (g k).toInt = 259
def fD (g : Nat → Int32) (B : Nat → Bool) (o a b : Nat) : Prop := ∀ k, a ≤ k → k < b → ∀ j, j < 8 → B (o + 8 * k + j) = bt (g k) j
def fC (g : Nat → Int32) (B : Nat → Bool) (a b : Nat) : Prop := ∀ k, a ≤ k → k < b → ∀ j, j < 7 → B (10 + 7 * k + j) = (decide (¬ (g k).toInt = 256) && bt 30 j)
def fT (B : Nat → Bool) (t : Int32) : Prop := B 0 = true ∧ B 1 = false ∧ ∀ j, j < 8 → B (2 + j) = bt t j
def fZ (B : Nat → Bool) (a b : Nat) : Prop := ∀ q, a ≤ q → q < b → B q = false
def gMid (g : Nat → Int32) : Prop := (g 4).toInt = 257 ∧ aQ g 0 4 ∧ aD g 5 8
def gSt (g : Nat → Int32) : Prop := (g 0).toInt = 257 ∧ aD g 1 8
def gEnd (g : Nat → Int32) (d : Nat) : Prop := (g d).toInt = 258 ∧ aD g 0 d ∧ aQ g (d + 1) 8
def fE (B : Nat → Bool) : Prop := ∀ k, k < 8 → ∀ j, j < 7 → B (10 + 7 * k + j) = bt 30 j
def blkR (g : Nat → Int32) (B : Nat → Bool) : Prop :=
  (aD g 0 8 → B 0 = false ∧ B 1 = true ∧ fD g B 2 0 8) ∧
  (gSt g → fT B 120 ∧ fD g B 2 1 8) ∧
  (gMid g → fT B 51 ∧ fC g B 0 4 ∧ fZ B 38 42 ∧ fD g B 2 5 8) ∧
  (∀ d, d < 8 → gEnd g d → fT B (st_k d) ∧ fD g B 10 0 d ∧ fZ B (10 + 8 * d) (17 + 7 * d) ∧ fC g B (d + 1) 8) ∧
  (aQ g 0 8 → fT B 30 ∧ fC g B 0 8) ∧
  (¬ aD g 0 8 → ¬ gSt g → ¬ gMid g → (∀ d, d < 8 → ¬ gEnd g d) → ¬ aQ g 0 8 → fT B 30 ∧ fE B)
theorem fT_eq {B C : Nat → Bool} {t : Int32} (h : fT B t) (k : fT C t) : ∀ q, q < 10 → B q = C q := by
  intro q hq
  rcases (show q = 0 ∨ q = 1 ∨ 2 ≤ q by omega) with rfl | rfl | h2
  · rw [h.1, k.1]
  · rw [h.2.1, k.2.1]
  · obtain ⟨j, rfl⟩ : ∃ j, q = 2 + j := ⟨q - 2, by omega⟩
    rw [h.2.2 j (by omega), k.2.2 j (by omega)]
theorem fD_eq {g g' : Nat → Int32} {B C : Nat → Bool} {o a b : Nat} (hg : ∀ k, k < 8 → g k = g' k) (hb : b ≤ 8) (h : fD g B o a b) (k : fD g' C o a b) : ∀ q, o + 8 * a ≤ q → q < o + 8 * b → B q = C q := by
  intro q h1 h2
  have e : q = o + 8 * ((q - o) / 8) + (q - o) % 8 := by omega
  rw [e, h _ (by omega) (by omega) _ (by omega), k _ (by omega) (by omega) _ (by omega), hg _ (by omega)]
theorem fC_eq {g g' : Nat → Int32} {B C : Nat → Bool} {a b : Nat} (hg : ∀ k, k < 8 → g k = g' k) (hb : b ≤ 8) (h : fC g B a b) (k : fC g' C a b) : ∀ q, 10 + 7 * a ≤ q → q < 10 + 7 * b → B q = C q := by
  intro q h1 h2
  have e : q = 10 + 7 * ((q - 10) / 7) + (q - 10) % 7 := by omega
  rw [e, h _ (by omega) (by omega) _ (by omega), k _ (by omega) (by omega) _ (by omega), hg _ (by omega)]
theorem fE_eq {B C : Nat → Bool} (h : fE B) (k : fE C) : ∀ q, 10 ≤ q → q < 66 → B q = C q := by
  intro q h1 h2
  have e : q = 10 + 7 * ((q - 10) / 7) + (q - 10) % 7 := by omega
  rw [e, h _ (by omega) _ (by omega), k _ (by omega) _ (by omega)]
theorem aD_cg {g g' : Nat → Int32} (hg : ∀ k, k < 8 → g k = g' k) {a b : Nat} (hb : b ≤ 8) (h : aD g a b) : aD g' a b := fun k h1 h2 => by rw [← hg k (by omega)]; exact h k h1 h2
theorem aQ_cg {g g' : Nat → Int32} (hg : ∀ k, k < 8 → g k = g' k) {a b : Nat} (hb : b ≤ 8) (h : aQ g a b) : aQ g' a b := fun k h1 h2 => by rw [← hg k (by omega)]; exact h k h1 h2
/-- a group's block is one -/
theorem blkR_eq {g g' : Nat → Int32} {B C : Nat → Bool} (hg : ∀ k, k < 8 → g k = g' k) (h : blkR g B) (k : blkR g' C) : ∀ q, q < 66 → B q = C q := by
  have hg' : ∀ k, k < 8 → g' k = g k := fun k hk => (hg k hk).symm
  intro q hq
  by_cases c1 : aD g 0 8
  · have a := h.1 c1
    have b := k.1 (aD_cg hg (by omega) c1)
    rcases (show q = 0 ∨ q = 1 ∨ 2 ≤ q by omega) with rfl | rfl | h2
    · rw [a.1, b.1]
    · rw [a.2.1, b.2.1]
    · exact fD_eq hg (by omega) a.2.2 b.2.2 q (by omega) (by omega)
  by_cases c2 : gSt g
  · have a := h.2.1 c2
    have b := k.2.1 ⟨by rw [← hg 0 (by omega)]; exact c2.1, aD_cg hg (by omega) c2.2⟩
    rcases Nat.lt_or_ge q 10 with h2 | h2
    · exact fT_eq a.1 b.1 q h2
    · exact fD_eq hg (by omega) a.2 b.2 q (by omega) (by omega)
  by_cases c3 : gMid g
  · have a := h.2.2.1 c3
    have b := k.2.2.1 ⟨by rw [← hg 4 (by omega)]; exact c3.1, aQ_cg hg (by omega) c3.2.1, aD_cg hg (by omega) c3.2.2⟩
    rcases (show q < 10 ∨ (10 ≤ q ∧ q < 38) ∨ (38 ≤ q ∧ q < 42) ∨ 42 ≤ q by omega) with h2 | h2 | h2 | h2
    · exact fT_eq a.1 b.1 q h2
    · exact fC_eq hg (by omega) a.2.1 b.2.1 q (by omega) (by omega)
    · rw [a.2.2.1 q h2.1 h2.2, b.2.2.1 q h2.1 h2.2]
    · exact fD_eq hg (by omega) a.2.2.2 b.2.2.2 q (by omega) (by omega)
  by_cases c4 : ∃ d, d < 8 ∧ gEnd g d
  · obtain ⟨d, hd, c4⟩ := c4
    have a := h.2.2.2.1 d hd c4
    have b := k.2.2.2.1 d hd ⟨by rw [← hg d hd]; exact c4.1, aD_cg hg (by omega) c4.2.1, aQ_cg hg (by omega) c4.2.2⟩
    rcases (show q < 10 ∨ (10 ≤ q ∧ q < 10 + 8 * d) ∨ (10 + 8 * d ≤ q ∧ q < 17 + 7 * d) ∨ 17 + 7 * d ≤ q by omega) with h2 | h2 | h2 | h2
    · exact fT_eq a.1 b.1 q h2
    · exact fD_eq hg (by omega) a.2.1 b.2.1 q (by omega) (by omega)
    · rw [a.2.2.1 q h2.1 h2.2, b.2.2.1 q h2.1 h2.2]
    · exact fC_eq hg (by omega) a.2.2.2 b.2.2.2 q (by omega) (by omega)
  have c4' : ∀ d, d < 8 → ¬ gEnd g d := fun d hd c => c4 ⟨d, hd, c⟩
  by_cases c5 : aQ g 0 8
  · have a := h.2.2.2.2.1 c5
    have b := k.2.2.2.2.1 (aQ_cg hg (by omega) c5)
    rcases Nat.lt_or_ge q 10 with h2 | h2
    · exact fT_eq a.1 b.1 q h2
    · exact fC_eq hg (by omega) a.2 b.2 q (by omega) (by omega)
  · have a := h.2.2.2.2.2 c1 c2 c3 c4' c5
    have b := k.2.2.2.2.2 (fun c => c1 (aD_cg hg' (by omega) c)) (fun c => c2 ⟨by rw [hg 0 (by omega)]; exact c.1, aD_cg hg' (by omega) c.2⟩) (fun c => c3 ⟨by rw [hg 4 (by omega)]; exact c.1, aQ_cg hg' (by omega) c.2.1, aD_cg hg' (by omega) c.2.2⟩) (fun d hd c => c4' d hd ⟨by rw [hg d hd]; exact c.1, aD_cg hg' (by omega) c.2.1, aQ_cg hg' (by omega) c.2.2⟩) (fun c => c5 (aQ_cg hg' (by omega) c))
    rcases Nat.lt_or_ge q 10 with h2 | h2
    · exact fT_eq a.1 b.1 q h2
    · exact fE_eq a.2 b.2 q (by omega) (by omega)
def eT (ty : Int32) : Prop := ∃ d, d < 8 ∧ ty = st_k d
/-! the class's payload: fields put over each other -/
def orb (f : Nat → Bool) : Nat → Bool
  | 0 => false
  | k + 1 => orb f k || f k
theorem orb_none {f : Nat → Bool} : ∀ n, (∀ k, k < n → f k = false) → orb f n = false := by
  intro n
  induction n with
  | zero => exact fun _ => rfl
  | succ n ih => intro h; show (orb f n || f n) = false; rw [ih (fun k hk => h k (by omega)), h n (by omega)]; rfl
theorem orb_one {f : Nat → Bool} {k0 : Nat} : ∀ n, k0 < n → (∀ k, k < n → k ≠ k0 → f k = false) → orb f n = f k0 := by
  intro n
  induction n with
  | zero => intro h; omega
  | succ n ih =>
    intro h h2
    show (orb f n || f n) = f k0
    by_cases e : k0 = n
    · rw [e, orb_none n (fun k hk => h2 k (by omega) (by omega))]; simp
    · rw [ih (by omega) (fun k hk hne => h2 k (by omega) hne), h2 n (by omega) (by omega)]; simp
def bo (sh : Nat) (c : Int32) (x p : Nat) : Bool := if c.toInt < 256 then decide (sh ≤ p) && bt c (p - sh) else if c.toInt = 259 then decide (8 + 7 * x ≤ p) && bt 30 (p - (8 + 7 * x)) else false
theorem bt_hi {c : Int32} (h : 0 ≤ c.toInt ∧ c.toInt < 256) {j : Nat} (hj : 8 ≤ j) : bt c j = false := by
  rcases Nat.lt_or_ge j 32 with h2 | h2
  · obtain ⟨n, hn, rfl⟩ := nI_of (x := c) (by rw [Int32.lt_iff_toInt_lt, zi_0]; omega)
    rw [nI_toInt hn] at h
    show (BitVec.ofNat 32 n).getLsbD j = false
    rw [BitVec.getLsbD_ofNat]
    have e : n.testBit j = false := Nat.testBit_lt_two_pow (Nat.lt_of_lt_of_le (show n < 2 ^ 8 by omega) (Nat.pow_le_pow_right (by decide) hj))
    rw [e]; simp
  · exact bt_big h2
theorem bt_30 : ∀ j, j < 32 → 7 ≤ j → bt 30 j = false := by decide +kernel
theorem bo_d {sh : Nat} {c : Int32} {x p : Nat} (hc : 0 ≤ c.toInt ∧ c.toInt < 256) (h : p < sh ∨ sh + 8 ≤ p) : bo sh c x p = false := by
  unfold bo
  rw [if_pos hc.2]
  rcases h with h | h
  · simp [Nat.not_le.mpr h]
  · rw [bt_hi hc (by omega)]; simp
theorem bo_c {sh : Nat} {c : Int32} {x p : Nat} (hc : 256 ≤ c.toInt) (hx : x < 8) (hp : p < 64) (h : p < 8 + 7 * x ∨ 15 + 7 * x ≤ p) : bo sh c x p = false := by
  unfold bo
  rw [if_neg (by omega)]
  by_cases e : c.toInt = 259
  · rw [if_pos e]
    rcases h with h | h
    · simp [Nat.not_le.mpr h]
    · by_cases e2 : p - (8 + 7 * x) < 32
      · rw [bt_30 _ e2 (by omega)]; simp
      · rw [bt_big (by omega)]; simp
  · rw [if_neg e]
theorem bo_dv {sh : Nat} {c : Int32} {x j : Nat} (hc : c.toInt < 256) : bo sh c x (sh + j) = bt c j := by
  unfold bo
  rw [if_pos hc]; simp
theorem bo_cv {sh : Nat} {c : Int32} {x j : Nat} (hc : c.toInt = 256 ∨ c.toInt = 259) : bo sh c x (8 + 7 * x + j) = (decide (¬ c.toInt = 256) && bt 30 j) := by
  unfold bo
  rw [if_neg (by omega)]
  rcases hc with e | e
  · rw [if_neg (by omega)]; simp [e]
  · rw [if_pos e]; simp [e]
def tyR (g : Nat → Int32) (r : Int32) : Prop := (r.toInt = -1 ∧ aD g 0 8) ∨ (∃ d, d < 8 ∧ gEnd g d ∧ r = st_k d) ∨ (r.toInt = 120 ∧ gSt g) ∨ (r.toInt = 51 ∧ gMid g) ∨ (r.toInt = 30 ∧ aQ g 0 8) ∨ (r.toInt = -2 ∧ ¬ aD g 0 8 ∧ ¬ gSt g ∧ ¬ gMid g ∧ (∀ d, d < 8 → ¬ gEnd g d) ∧ ¬ aQ g 0 8)
theorem no_end {g : Nat → Int32} {d0 : Nat} (h1 : aD g 0 d0) (h2 : 256 ≤ (g d0).toInt) (h3 : ¬ ((g d0).toInt = 258 ∧ aQ g (d0 + 1) 8)) : ∀ d, d < 8 → ¬ gEnd g d := by
  intro d hd c
  rcases Nat.lt_trichotomy d d0 with h | h | h
  · have := h1 d (by omega) h
    have := c.1
    omega
  · subst h
    exact h3 ⟨c.1, c.2.2⟩
  · have := c.2.1 d0 (by omega) h
    omega
/-! one case holds: the relation -/
theorem x_st_end {g : Nat → Int32} {d : Nat} (hd : d < 8) (a : gSt g) (b : gEnd g d) : False := by
  rcases Nat.eq_zero_or_pos d with h | h
  · subst h; have := a.1; have := b.1; omega
  · have := b.2.1 0 (by omega) h; have := a.1; omega
theorem x_mid_end {g : Nat → Int32} {d : Nat} (hd : d < 8) (a : gMid g) (b : gEnd g d) : False := by
  have h0 := a.2.1 0 (by omega) (by omega)
  rcases Nat.eq_zero_or_pos d with h | h
  · subst h; have := b.1; omega
  · have := b.2.1 0 (by omega) h; omega
theorem x_all_end {g : Nat → Int32} {d : Nat} (hd : d < 8) (a : aD g 0 8) (b : gEnd g d) : False := by
  have := a d (by omega) hd; have := b.1; omega
theorem x_qui_end {g : Nat → Int32} {d : Nat} (hd : d < 8) (a : aQ g 0 8) (b : gEnd g d) : False := by
  have := a d (by omega) hd; have := b.1; omega
theorem x_end_end {g : Nat → Int32} {d e : Nat} (hd : d < 8) (he : e < 8) (a : gEnd g d) (b : gEnd g e) : d = e := by
  rcases Nat.lt_trichotomy d e with h | h | h
  · have := b.2.1 d (by omega) h; have := a.1; omega
  · exact h
  · have := a.2.1 e (by omega) h; have := b.1; omega
theorem x_all_st {g : Nat → Int32} (a : aD g 0 8) (b : gSt g) : False := by have := a 0 (by omega) (by omega); have := b.1; omega
theorem x_all_mid {g : Nat → Int32} (a : aD g 0 8) (b : gMid g) : False := by have := a 4 (by omega) (by omega); have := b.1; omega
theorem x_all_qui {g : Nat → Int32} (a : aD g 0 8) (b : aQ g 0 8) : False := by have := a 0 (by omega) (by omega); have := b 0 (by omega) (by omega); omega
theorem x_st_mid {g : Nat → Int32} (a : gSt g) (b : gMid g) : False := by have := b.2.1 0 (by omega) (by omega); have := a.1; omega
theorem x_st_qui {g : Nat → Int32} (a : gSt g) (b : aQ g 0 8) : False := by have := b 0 (by omega) (by omega); have := a.1; omega
theorem x_mid_qui {g : Nat → Int32} (a : gMid g) (b : aQ g 0 8) : False := by have := b 4 (by omega) (by omega); have := a.1; omega
theorem blkR_all {g : Nat → Int32} {B : Nat → Bool} (c : aD g 0 8) (h : B 0 = false ∧ B 1 = true ∧ fD g B 2 0 8) : blkR g B :=
  ⟨fun _ => h, fun k => (x_all_st c k).elim, fun k => (x_all_mid c k).elim, fun d hd k => (x_all_end hd c k).elim, fun k => (x_all_qui c k).elim, fun k => absurd c k⟩
theorem blkR_st {g : Nat → Int32} {B : Nat → Bool} (c : gSt g) (h : fT B 120 ∧ fD g B 2 1 8) : blkR g B :=
  ⟨fun k => (x_all_st k c).elim, fun _ => h, fun k => (x_st_mid c k).elim, fun d hd k => (x_st_end hd c k).elim, fun k => (x_st_qui c k).elim, fun _ k => absurd c k⟩
theorem blkR_mid {g : Nat → Int32} {B : Nat → Bool} (c : gMid g) (h : fT B 51 ∧ fC g B 0 4 ∧ fZ B 38 42 ∧ fD g B 2 5 8) : blkR g B :=
  ⟨fun k => (x_all_mid k c).elim, fun k => (x_st_mid k c).elim, fun _ => h, fun d hd k => (x_mid_end hd c k).elim, fun k => (x_mid_qui c k).elim, fun _ _ k => absurd c k⟩
theorem blkR_end {g : Nat → Int32} {B : Nat → Bool} {d : Nat} (hd : d < 8) (c : gEnd g d) (h : fT B (st_k d) ∧ fD g B 10 0 d ∧ fZ B (10 + 8 * d) (17 + 7 * d) ∧ fC g B (d + 1) 8) : blkR g B :=
  ⟨fun k => (x_all_end hd k c).elim, fun k => (x_st_end hd k c).elim, fun k => (x_mid_end hd k c).elim, fun e he k => by rw [← x_end_end hd he c k]; exact h, fun k => (x_qui_end hd k c).elim, fun _ _ _ k => absurd c (k d hd)⟩
theorem blkR_qui {g : Nat → Int32} {B : Nat → Bool} (c : aQ g 0 8) (h : fT B 30 ∧ fC g B 0 8) : blkR g B :=
  ⟨fun k => (x_all_qui k c).elim, fun k => (x_st_qui k c).elim, fun k => (x_mid_qui k c).elim, fun d hd k => (x_qui_end hd c k).elim, fun _ => h, fun _ _ _ _ k => absurd c k⟩
theorem blkR_err {g : Nat → Int32} {B : Nat → Bool} (c1 : ¬ aD g 0 8) (c2 : ¬ gSt g) (c3 : ¬ gMid g) (c4 : ∀ d, d < 8 → ¬ gEnd g d) (c5 : ¬ aQ g 0 8) (h : fT B 30 ∧ fE B) : blkR g B :=
  ⟨fun k => absurd k c1, fun k => absurd k c2, fun k => absurd k c3, fun d hd k => absurd k (c4 d hd), fun k => absurd k c5, fun _ _ _ _ _ => h⟩
theorem bl_30 : ∀ j, j < 64 → bl 30 j = bt 30 j := by decide +kernel
theorem bl_cn {c : Int32} (h : 0 ≤ c.toInt) {j : Nat} (hj : j < 64) : bl c.toInt64 j = bt c j := by
  rw [bl_i2l _ hj]
  by_cases h2 : j < 32
  · rw [if_pos h2]
  · rw [if_neg h2, bt_big (Nat.not_lt.mp h2)]
    obtain ⟨n, hn, rfl⟩ := nI_of (x := c) (by rw [Int32.lt_iff_toInt_lt, zi_0]; omega)
    show (BitVec.ofNat 32 n).getLsbD 31 = false
    rw [BitVec.getLsbD_ofNat, Nat.testBit_lt_two_pow hn]; simp
def tb (ty : Int32) (q : Nat) : Bool := if ty.toInt = -1 then false else bt ty q
end
section
/-! a group sent: what comes onto the line -/
def txB (σ B : Nat → Bool) (q : Nat) : Bool := if q < 2 then B q else scB σ (fun k => B (k + 2)) (q - 2)
def sndR (B : Nat → Bool) (cn cn2 : Int) (σ σ2 : Nat → Bool) (X X2 : Int → Bool) : Prop :=
  cn2 = cn + 66 ∧ (∀ q : Nat, q < 66 → X2 (cn + q) = txB σ B q) ∧ (∀ j : Int, 0 ≤ j → j < cn → X2 j = X j) ∧ ∀ j, j < 58 → σ2 j = scS σ (fun k => B (k + 2)) 64 j
def sameX (cn : Int) (X Y : Int → Bool) : Prop := ∀ j : Int, 0 ≤ j → j < cn → X j = Y j
def sameS (σ τ : Nat → Bool) : Prop := ∀ j, j < 58 → σ j = τ j
theorem sndR_cg {B C σ σ2 τ τ2 : Nat → Bool} {X X2 Y Y2 : Int → Bool} {cn cn2 dn dn2 : Int} (hc : cn = dn) (h0 : 0 ≤ cn) (hB : ∀ q, q < 66 → B q = C q) (hσ : sameS σ τ) (hX : sameX cn X Y) (h : sndR B cn cn2 σ σ2 X X2) (k : sndR C dn dn2 τ τ2 Y Y2) : cn2 = dn2 ∧ sameS σ2 τ2 ∧ sameX cn2 X2 Y2 := by
  obtain rfl := hc
  obtain ⟨h1, h2, h3, h4⟩ := h
  obtain ⟨k1, k2, k3, k4⟩ := k
  refine ⟨by omega, fun j hj => ?_, fun j a b => ?_⟩
  · rw [h4 j hj, k4 j hj]
    exact scS_cg hσ 64 (fun i hi => hB _ (by omega)) j hj
  · rcases (show j < cn ∨ cn ≤ j by omega) with c | c
    · rw [h3 j a c, k3 j a c]
      exact hX j a c
    · obtain ⟨q, rfl⟩ : ∃ q : Nat, j = cn + q := ⟨(j - cn).toNat, by omega⟩
      rw [h2 q (by omega), k2 q (by omega)]
      unfold txB
      by_cases e : q < 2
      · rw [if_pos e, if_pos e, hB q (by omega)]
      · rw [if_neg e, if_neg e]
        exact scB_cg hσ _ (fun i hi => hB _ (by omega))
/-- head and payload as 66 bits -/
def hpB (hd : Int32) (pl : Int64) (q : Nat) : Bool := if q = 0 then bt hd 1 else if q = 1 then bt hd 0 else bl pl (q - 2)
theorem hpB_2 (hd : Int32) (pl : Int64) (k : Nat) : hpB hd pl (k + 2) = bl pl k := by
  unfold hpB
  rw [if_neg (by omega), if_neg (by omega)]
  rfl
theorem hpB_2' (hd : Int32) (pl : Int64) (k : Nat) : hpB hd pl (2 + k) = bl pl k := by rw [Nat.add_comm, hpB_2]
theorem hd_1 {hd : Int32} (h : hd.toInt = 1) : bt hd 1 = false ∧ bt hd 0 = true := by
  obtain rfl : hd = 1 := Int32.toInt_inj.mp (h.trans (by decide))
  decide
theorem hd_2 {hd : Int32} (h : hd.toInt = 2) : bt hd 1 = true ∧ bt hd 0 = false := by
  obtain rfl : hd = 2 := Int32.toInt_inj.mp (h.trans (by decide))
  decide
theorem hpB_0 (hd : Int32) (pl : Int64) : hpB hd pl 0 = bt hd 1 := rfl
theorem hpB_1 (hd : Int32) (pl : Int64) : hpB hd pl 1 = bt hd 0 := rfl
def pbits (g : Nat → Int32) (ty : Int32) (pl : Int64) : Prop := (¬ eT ty → ∀ q, q < 64 → bl pl q = (tb ty q || orb (fun j => bo (0 + 8 * j) (g j) j q) 8)) ∧ (eT ty → ∀ q, q < 64 → bl pl q = (tb ty q || orb (fun j => bo (8 + 8 * j) (g j) j q) 8))
theorem st_ne : ∀ d, d < 8 → ¬ (st_k d).toInt = -1 ∧ ¬ (st_k d).toInt = 120 ∧ ¬ (st_k d).toInt = 51 ∧ ¬ (st_k d).toInt = 30 ∧ ¬ (st_k d).toInt = -2 ∧ 0 ≤ (st_k d).toInt ∧ (st_k d).toInt ≤ 255 := by decide +kernel
theorem no_eT {ty : Int32} (h : ty.toInt = -1 ∨ ty.toInt = 120 ∨ ty.toInt = 51 ∨ ty.toInt = 30) : ¬ eT ty := by
  rintro ⟨d, hd, rfl⟩
  have := st_ne d hd
  omega
theorem tb_lo {ty : Int32} (h : 0 ≤ ty.toInt ∧ ty.toInt ≤ 255) {q : Nat} : tb ty q = bt ty q := by
  unfold tb
  rw [if_neg (by omega)]
theorem tb_hi {ty : Int32} (h : ty.toInt = -1 ∨ (0 ≤ ty.toInt ∧ ty.toInt ≤ 255)) {q : Nat} (hq : 8 ≤ q) : tb ty q = false := by
  unfold tb
  by_cases e : ty.toInt = -1
  · rw [if_pos e]
  · rw [if_neg e]
    exact bt_hi (by omega) hq
theorem bo_n {sh : Nat} {c : Int32} {x p : Nat} (h : 256 ≤ c.toInt) (h2 : ¬ c.toInt = 259) : bo sh c x p = false := by
  unfold bo
  rw [if_neg (by omega), if_neg h2]
/-- fields of a payload whose bytes stand at 8 j + o -/
theorem pf_d {g : Nat → Int32} {ty : Int32} {o : Nat} (ho : o ≤ 8) (hg : ∀ j, j < 8 → 0 ≤ (g j).toInt ∧ (g j).toInt ≤ 259) (hty : ty.toInt = -1 ∨ (0 ≤ ty.toInt ∧ ty.toInt ≤ 255)) {k j : Nat} (hk : k < 8) (hj : j < 8) (h8 : 8 ≤ o + 8 * k + j ∨ ty.toInt = -1) (hd : (g k).toInt < 256) (hx : ∀ i, i < 8 → i ≠ k → (g i).toInt = 259 → o + 8 * k + j < 8 + 7 * i ∨ 15 + 7 * i ≤ o + 8 * k + j) (hp : o + 8 * k + j < 64) : (tb ty (o + 8 * k + j) || orb (fun i => bo (o + 8 * i) (g i) i (o + 8 * k + j)) 8) = bt (g k) j := by
  have ht : tb ty (o + 8 * k + j) = false := by
    rcases h8 with h | h
    · exact tb_hi hty h
    · unfold tb; rw [if_pos h]
  rw [ht, orb_one (k0 := k) 8 hk (fun i hi hne => ?_)]
  · show (false || bo (o + 8 * k) (g k) k (o + 8 * k + j)) = _
    rw [bo_dv hd]; simp
  · show bo (o + 8 * i) (g i) i (o + 8 * k + j) = false
    by_cases c : (g i).toInt < 256
    · exact bo_d ⟨(hg i hi).1, c⟩ (by omega)
    · by_cases c2 : (g i).toInt = 259
      · exact bo_c (by omega) hi hp (hx i hi hne c2)
      · exact bo_n (by omega) c2
theorem pf_c {g : Nat → Int32} {ty : Int32} {o : Nat} (hg : ∀ j, j < 8 → 0 ≤ (g j).toInt ∧ (g j).toInt ≤ 259) (hty : 0 ≤ ty.toInt ∧ ty.toInt ≤ 255) {k j : Nat} (hk : k < 8) (hj : j < 7) (hc : (g k).toInt = 256 ∨ (g k).toInt = 259) (hx : ∀ i, i < 8 → (g i).toInt < 256 → 8 + 7 * k + j < o + 8 * i ∨ o + 8 * i + 8 ≤ 8 + 7 * k + j) : (tb ty (8 + 7 * k + j) || orb (fun i => bo (o + 8 * i) (g i) i (8 + 7 * k + j)) 8) = (decide (¬ (g k).toInt = 256) && bt 30 j) := by
  rw [tb_hi (Or.inr hty) (by omega), orb_one (k0 := k) 8 hk (fun i hi hne => ?_)]
  · show (false || bo (o + 8 * k) (g k) k (8 + 7 * k + j)) = _
    rw [bo_cv hc]; simp
  · show bo (o + 8 * i) (g i) i (8 + 7 * k + j) = false
    by_cases c : (g i).toInt < 256
    · exact bo_d ⟨(hg i hi).1, c⟩ (hx i hi c)
    · exact bo_c (by omega) hi (by omega) (by omega)
theorem pf_z {g : Nat → Int32} {ty : Int32} {o q : Nat} (hg : ∀ j, j < 8 → 0 ≤ (g j).toInt ∧ (g j).toInt ≤ 259) (hty : 0 ≤ ty.toInt ∧ ty.toInt ≤ 255) (hq : 8 ≤ q ∧ q < 64) (hx : ∀ i, i < 8 → ((g i).toInt < 256 → q < o + 8 * i ∨ o + 8 * i + 8 ≤ q) ∧ ((g i).toInt = 259 → q < 8 + 7 * i ∨ 15 + 7 * i ≤ q)) : (tb ty q || orb (fun i => bo (o + 8 * i) (g i) i q) 8) = false := by
  rw [tb_hi (Or.inr hty) hq.1, orb_none 8 (fun i hi => ?_)]
  · rfl
  · show bo (o + 8 * i) (g i) i q = false
    by_cases c : (g i).toInt < 256
    · exact bo_d ⟨(hg i hi).1, c⟩ ((hx i hi).1 c)
    · by_cases c2 : (g i).toInt = 259
      · exact bo_c (by omega) hi hq.2 ((hx i hi).2 c2)
      · exact bo_n (by omega) c2
theorem pf_t {g : Nat → Int32} {ty : Int32} {o q : Nat} (hg : ∀ j, j < 8 → 0 ≤ (g j).toInt ∧ (g j).toInt ≤ 259) (hty : 0 ≤ ty.toInt ∧ ty.toInt ≤ 255) (hq : q < 8) (hx : ∀ i, i < 8 → (g i).toInt < 256 → 8 ≤ o + 8 * i) : (tb ty q || orb (fun i => bo (o + 8 * i) (g i) i q) 8) = bt ty q := by
  rw [tb_lo hty, orb_none 8 (fun i hi => ?_)]
  · simp
  · show bo (o + 8 * i) (g i) i q = false
    by_cases c : (g i).toInt < 256
    · have := hx i hi c
      exact bo_d ⟨(hg i hi).1, c⟩ (by omega)
    · exact bo_c (by omega) hi (by omega) (by omega)

theorem i_of {x y : Int32} {z : Int} (h : x.toInt = z) (hy : y.toInt = z) : x = y := Int32.toInt_inj.mp (h.trans hy.symm)
/-- what the class sends of a group whose type it has found -/
theorem cls_blk {g : Nat → Int32} {ty hd : Int32} {pl : Int64} (hg : ∀ j, j < 8 → 0 ≤ (g j).toInt ∧ (g j).toInt ≤ 259) (hty : tyR g ty) (hne : ¬ ty.toInt = -2) (h1 : ty.toInt = -1 → hd.toInt = 1) (h2 : ¬ ty.toInt = -1 → hd.toInt = 2) (hp : pbits g ty pl) : blkR g (hpB hd pl) := by
  rcases hty with ⟨e, c⟩ | ⟨d, hd8, c, e⟩ | ⟨e, c⟩ | ⟨e, c⟩ | ⟨e, c⟩ | ⟨e, _⟩
  · have hb := hp.1 (no_eT (by omega))
    have hh := hd_1 (h1 e)
    refine blkR_all c ⟨hh.1, hh.2, fun k a b j hj => ?_⟩
    rw [show 2 + 8 * k + j = 2 + (0 + 8 * k + j) by omega, hpB_2', hb _ (by omega)]
    exact pf_d (by omega) hg (Or.inl e) b hj (Or.inr e) (c k (by omega) b) (fun i hi hn q => by have := c i (by omega) hi; omega) (by omega)
  · have sn := st_ne d hd8
    rw [← e] at sn
    have hb := hp.2 ⟨d, hd8, e⟩
    have hh := hd_2 (h2 (by omega))
    refine blkR_end hd8 c ⟨⟨hh.1, hh.2, fun j hj => ?_⟩, fun k a b j hj => ?_, fun q a b => ?_, fun k a b j hj => ?_⟩
    · rw [hpB_2', hb _ (by omega), pf_t hg (by omega) hj (fun i hi _ => by omega), e]
    · rw [show 10 + 8 * k + j = 2 + (8 + 8 * k + j) by omega, hpB_2', hb _ (by omega)]
      exact pf_d (by omega) hg (Or.inr (by omega)) (by omega) hj (Or.inl (by omega)) (c.2.1 k (by omega) b) (fun i hi hn q => by
        rcases (show i < d ∨ i = d ∨ d < i by omega) with x | x | x
        · have := c.2.1 i (by omega) x; omega
        · subst x; have := c.1; omega
        · omega) (by omega)
    · rw [show q = 2 + (q - 2) by omega, hpB_2', hb _ (by omega)]
      refine pf_z hg (by omega) (by omega) (fun i hi => ⟨fun q9 => ?_, fun q9 => ?_⟩)
      · rcases (show i < d ∨ i = d ∨ d < i by omega) with x | x | x
        · omega
        · subst x; have := c.1; omega
        · have := c.2.2 i (by omega) hi; omega
      · rcases (show i < d ∨ i = d ∨ d < i by omega) with x | x | x
        · have := c.2.1 i (by omega) x; omega
        · subst x; have := c.1; omega
        · omega
    · rw [show 10 + 7 * k + j = 2 + (8 + 7 * k + j) by omega, hpB_2', hb _ (by omega)]
      exact pf_c hg (by omega) b hj (c.2.2 k (by omega) b) (fun i hi q => by
        rcases (show i < d ∨ i = d ∨ d < i by omega) with x | x | x
        · omega
        · subst x; have := c.1; omega
        · have := c.2.2 i (by omega) hi; omega)
  · have hb := hp.1 (no_eT (by omega))
    have hh := hd_2 (h2 (by omega))
    refine blkR_st c ⟨⟨hh.1, hh.2, fun j hj => ?_⟩, fun k a b j hj => ?_⟩
    · rw [hpB_2', hb _ (by omega), pf_t hg (by omega) hj (fun i hi q => by rcases (show i = 0 ∨ 1 ≤ i by omega) with x | x; (· subst x; have := c.1; omega); (· omega)), i_of e (y := 120) (by decide)]
    · rw [show 2 + 8 * k + j = 2 + (0 + 8 * k + j) by omega, hpB_2', hb _ (by omega)]
      exact pf_d (by omega) hg (Or.inr (by omega)) b hj (Or.inl (by omega)) (c.2 k a b) (fun i hi hn q => by rcases (show i = 0 ∨ 1 ≤ i by omega) with x | x; (· subst x; have := c.1; omega); (· have := c.2 i x hi; omega)) (by omega)
  · have hb := hp.1 (no_eT (by omega))
    have hh := hd_2 (h2 (by omega))
    have kd : ∀ i, i < 8 → (i < 4 ∧ ((g i).toInt = 256 ∨ (g i).toInt = 259)) ∨ (i = 4 ∧ (g i).toInt = 257) ∨ (5 ≤ i ∧ (g i).toInt < 256) := fun i hi => by
      rcases (show i < 4 ∨ i = 4 ∨ 5 ≤ i by omega) with x | x | x
      · exact Or.inl ⟨x, c.2.1 i (by omega) x⟩
      · subst x; exact Or.inr (Or.inl ⟨rfl, c.1⟩)
      · exact Or.inr (Or.inr ⟨x, c.2.2 i x hi⟩)
    refine blkR_mid c ⟨⟨hh.1, hh.2, fun j hj => ?_⟩, fun k a b j hj => ?_, fun q a b => ?_, fun k a b j hj => ?_⟩
    · rw [hpB_2', hb _ (by omega), pf_t hg (by omega) hj (fun i hi q => by have := kd i hi; omega), i_of e (y := 51) (by decide)]
    · rw [show 10 + 7 * k + j = 2 + (8 + 7 * k + j) by omega, hpB_2', hb _ (by omega)]
      exact pf_c hg (by omega) (by omega) hj (c.2.1 k (by omega) b) (fun i hi q => by have := kd i hi; omega)
    · rw [show q = 2 + (q - 2) by omega, hpB_2', hb _ (by omega)]
      exact pf_z hg (by omega) (by omega) (fun i hi => ⟨fun q9 => by have := kd i hi; omega, fun q9 => by have := kd i hi; omega⟩)
    · rw [show 2 + 8 * k + j = 2 + (0 + 8 * k + j) by omega, hpB_2', hb _ (by omega)]
      exact pf_d (by omega) hg (Or.inr (by omega)) b hj (Or.inl (by omega)) (c.2.2 k a b) (fun i hi hn q => by have := kd i hi; omega) (by omega)
  · have hb := hp.1 (no_eT (by omega))
    have hh := hd_2 (h2 (by omega))
    refine blkR_qui c ⟨⟨hh.1, hh.2, fun j hj => ?_⟩, fun k a b j hj => ?_⟩
    · rw [hpB_2', hb _ (by omega), pf_t hg (by omega) hj (fun i hi q => by have := c i (by omega) hi; omega), i_of e (y := 30) (by decide)]
    · rw [show 10 + 7 * k + j = 2 + (8 + 7 * k + j) by omega, hpB_2', hb _ (by omega)]
      exact pf_c hg (by omega) b hj (c k a b) (fun i hi q => by have := c i (by omega) hi; omega)
  · exact absurd e hne
/-- .. and of one that has none: all errors -/
theorem cls_err {g g2 : Nat → Int32} {ty tz hd : Int32} {pl : Int64} (hty : tyR g tz) (hz : tz.toInt = -2) (h9 : ∀ j, j < 8 → (g2 j).toInt = 259) (e : ty.toInt = 30) (h2 : hd.toInt = 2) (hp : pbits g2 ty pl) : blkR g (hpB hd pl) := by
  have hg : ∀ j, j < 8 → 0 ≤ (g2 j).toInt ∧ (g2 j).toInt ≤ 259 := fun j hj => by have := h9 j hj; omega
  have hb := hp.1 (no_eT (by omega))
  have hh := hd_2 h2
  have key : fT (hpB hd pl) 30 ∧ fE (hpB hd pl) := by
    refine ⟨⟨hh.1, hh.2, fun j hj => ?_⟩, fun k b j hj => ?_⟩
    · rw [hpB_2', hb _ (by omega), pf_t hg (by omega) hj (fun i hi q => by have := h9 i hi; omega), i_of e (y := 30) (by decide)]
    · rw [show 10 + 7 * k + j = 2 + (8 + 7 * k + j) by omega, hpB_2', hb _ (by omega)]
      rw [pf_c hg (by omega) b hj (Or.inr (h9 k b)) (fun i hi q => by have := h9 i hi; omega)]
      simp [h9 k b]
  rcases hty with ⟨q, _⟩ | ⟨d, hd8, _, q⟩ | ⟨q, _⟩ | ⟨q, _⟩ | ⟨q, _⟩ | ⟨_, c1, c2, c3, c4, c5⟩
  · omega
  · have := st_ne d hd8
    rw [← q] at this
    omega
  · omega
  · omega
  · omega
  · exact blkR_err c1 c2 c3 c4 c5 key

def sndI (hd : Int32) (pl : Int64) (f c : Int) (fw fw3 : Nat → Int64) (la la3 : Int64) (k : Nat) : Prop := (∀ j : Int, 0 ≤ j → j < c → lnB fw3 f j = lnB fw f j) ∧ (lnB fw3 f c = bt hd 1 ∧ lnB fw3 f (c + 1) = bt hd 0) ∧ (∀ q : Nat, q < k → lnB fw3 f (c + 2 + q) = scB (bl la) (bl pl) q) ∧ ∀ j, j < 58 → bl la3 j = scS (bl la) (bl pl) k j
theorem sndI_0 {hd b1 b0 : Int32} {pl : Int64} {f c d : Int} {fw fw1 fw2 : Nat → Int64} {la : Int64} (hc : 0 ≤ c ∧ c + 66 ≤ 9087) (hd' : d = c + 1) (h1 : ∀ j : Int, lnB fw1 f j = if (f + j) % 9088 = (f + c) % 9088 then bt b1 0 else lnB fw f j) (h2 : ∀ j : Int, lnB fw2 f j = if (f + j) % 9088 = (f + d) % 9088 then bt b0 0 else lnB fw1 f j) (e1 : bt b1 0 = bt hd 1) (e0 : bt b0 0 = bt hd 0) : sndI hd pl f c fw fw2 la la 0 := by
  subst hd'
  refine ⟨fun j a b => ?_, ⟨?_, ?_⟩, fun q hq => absurd hq (by omega), fun j _ => rfl⟩
  · rw [h2, if_neg (by omega), h1, if_neg (by omega)]
  · rw [h2, if_neg (by omega), h1, if_pos rfl, e1]
  · rw [h2, if_pos rfl, e0]
theorem sndI_s {hd r b : Int32} {pl : Int64} {f c d : Int} {fw fw3 fw4 : Nat → Int64} {la la3 la4 : Int64} {k : Nat} (hc : 0 ≤ c ∧ c + 66 ≤ 9087) (hk : k < 64) (hd' : d = c + 2 + k) (h : sndI hd pl f c fw fw3 la la3 k) (hb : bt b 0 = bl pl k) (hr : r = bi (scO (bl la3) (bt b 0))) (hl : ∀ j, j < 58 → bl la4 j = scN (bl la3) (scO (bl la3) (bt b 0)) j) (ha : ∀ j : Int, lnB fw4 f j = if (f + j) % 9088 = (f + d) % 9088 then bt r 0 else lnB fw3 f j) : sndI hd pl f c fw fw4 la la4 (k + 1) := by
  subst hd'
  obtain ⟨h1, h2, h3, h4⟩ := h
  have ho : scO (bl la3) (bt b 0) = scB (bl la) (bl pl) k := by
    unfold scB scO
    rw [h4 38 (by omega), h4 57 (by omega), hb]
  refine ⟨fun j a b => ?_, ⟨?_, ?_⟩, fun q hq => ?_, fun j hj => ?_⟩
  · rw [ha, if_neg (by omega), h1 j a b]
  · rw [ha, if_neg (by omega), h2.1]
  · rw [ha, if_neg (by omega), h2.2]
  · by_cases e : q = k
    · subst e
      rw [ha, if_pos rfl, hr, bi_t0, ho]
    · rw [ha, if_neg (by omega), h3 q (by omega)]
  · rw [hl j hj, ho]
    show scN (bl la3) _ j = scN (scS (bl la) (bl pl) k) (scO (scS (bl la) (bl pl) k) (bl pl k)) j
    unfold scN
    by_cases e : j = 0
    · rw [if_pos e, if_pos e]; rfl
    · rw [if_neg e, if_neg e, h4 (j - 1) (by omega)]
theorem sndI_e {hd : Int32} {pl : Int64} {f c d : Int} {fw fw3 : Nat → Int64} {la la3 : Int64} (hd' : d = c + 66) (h : sndI hd pl f c fw fw3 la la3 64) : sndR (hpB hd pl) c d (bl la) (bl la3) (lnB fw f) (lnB fw3 f) := by
  obtain ⟨h1, h2, h3, h4⟩ := h
  have hp : (fun k => hpB hd pl (k + 2)) = bl pl := funext (fun k => hpB_2 hd pl k)
  refine ⟨hd', fun q hq => ?_, h1, fun j hj => ?_⟩
  · unfold txB
    rw [hp]
    rcases (show q = 0 ∨ q = 1 ∨ 2 ≤ q by omega) with rfl | rfl | e
    · rw [if_pos (by omega), hpB_0, ← h2.1]; simp
    · rw [if_pos (by omega), hpB_1, ← h2.2]; simp
    · rw [if_neg (by omega), ← h3 (q - 2) (by omega)]
      congr 1
      omega
  · rw [hp]; exact h4 j hj
theorem iu_1 {hd v w : Int32} (hw : w = 1) (e : v = (hd.toUInt32 >>> (w.toUInt32 &&& Int32.toUInt32 31)).toInt32) (h : hd.toInt = 1 ∨ hd.toInt = 2) : v = bi (bt hd 1) := by
  rcases h with h | h
  · obtain rfl : hd = 1 := Int32.toInt_inj.mp (h.trans (by decide))
    rw [e, hw]; decide
  · obtain rfl : hd = 2 := Int32.toInt_inj.mp (h.trans (by decide))
    rw [e, hw]; decide
theorem ty_7 {g : Nat → Int32} {ty : Int32} (h : tyR g ty) : eT ty → 256 ≤ (g 7).toInt := by
  rintro ⟨d, hd, e⟩
  have sn := st_ne d hd
  rw [← e] at sn
  rcases h with ⟨q, _⟩ | ⟨d2, hd2, c, _⟩ | ⟨q, _⟩ | ⟨q, _⟩ | ⟨q, _⟩ | ⟨q, _⟩
  · omega
  · rcases (show d2 = 7 ∨ d2 < 7 by omega) with x | x
    · subst x; have := c.1; omega
    · have := c.2.2 7 (by omega) (by omega); omega
  · omega
  · omega
  · omega
  · omega
theorem ty_rg {g : Nat → Int32} {ty : Int32} (h : tyR g ty) (hne : ¬ ty.toInt = -2) : ty.toInt = -1 ∨ (0 ≤ ty.toInt ∧ ty.toInt ≤ 255) := by
  rcases h with ⟨q, _⟩ | ⟨d, hd, _, e⟩ | ⟨q, _⟩ | ⟨q, _⟩ | ⟨q, _⟩ | ⟨q, _⟩
  · omega
  · have sn := st_ne d hd
    rw [← e] at sn
    omega
  · omega
  · omega
  · omega
  · omega
end
section
/-! characters taken in, on an abstract state: waiting, bits, group, scrambler, line -/
def accR (c : Int32) (wa wa2 cn cn2 : Int) (g g2 : Nat → Int32) (σ σ2 : Nat → Bool) (X X2 : Int → Bool) : Prop :=
  (wa < 7 → wa2 = wa + 1 ∧ cn2 = cn ∧ (∀ k : Nat, (k : Int) < wa → g2 k = g k) ∧ g2 wa.toNat = c ∧ sameS σ σ2 ∧ sameX cn X X2) ∧
  (wa = 7 → wa2 = 0 ∧ ∃ (G : Nat → Int32) (B : Nat → Bool), (∀ k, k < 7 → G k = g k) ∧ G 7 = c ∧ blkR G B ∧ sndR B cn cn2 σ σ2 X X2)
def cplR (wa cn : Int) (g h : Nat → Int32) (σ τ : Nat → Bool) (X Y : Int → Bool) : Prop := (∀ k : Nat, (k : Int) < wa → g k = h k) ∧ sameS σ τ ∧ sameX cn X Y
theorem accR_cg {c : Int32} {wa wa2 cn cn2 wb wb2 dn dn2 : Int} {g g2 h h2 : Nat → Int32} {σ σ2 τ τ2 : Nat → Bool} {X X2 Y Y2 : Int → Bool} (hw : wa = wb) (hc : cn = dn) (r : (0 ≤ wa ∧ wa < 8) ∧ 0 ≤ cn) (p : cplR wa cn g h σ τ X Y) (a : accR c wa wa2 cn cn2 g g2 σ σ2 X X2) (b : accR c wb wb2 dn dn2 h h2 τ τ2 Y Y2) : wa2 = wb2 ∧ cn2 = dn2 ∧ cplR wa2 cn2 g2 h2 σ2 τ2 X2 Y2 := by
  obtain rfl := hw
  obtain rfl := hc
  rcases (show wa < 7 ∨ wa = 7 by omega) with e | e
  · obtain ⟨a1, a2, a3, a4, a5, a6⟩ := a.1 e
    obtain ⟨b1, b2, b3, b4, b5, b6⟩ := b.1 e
    refine ⟨by omega, by omega, fun k hk => ?_, fun j hj => ?_, fun j x y => ?_⟩
    · rcases (show (k : Int) < wa ∨ k = wa.toNat by omega) with q | q
      · rw [a3 k q, b3 k q, p.1 k q]
      · rw [q, a4, b4]
    · rw [← a5 j hj, ← b5 j hj, p.2.1 j hj]
    · rw [← a6 j x (by omega), ← b6 j x (by omega), p.2.2 j x (by omega)]
  · obtain ⟨a1, G, B, a2, a3, a4, a5⟩ := a.2 e
    obtain ⟨b1, G', B', b2, b3, b4, b5⟩ := b.2 e
    have hG : ∀ k, k < 8 → G k = G' k := fun k hk => by
      rcases (show k < 7 ∨ k = 7 by omega) with q | q
      · rw [a2 k q, b2 k q, p.1 k (by omega)]
      · rw [q, a3, b3]
    obtain ⟨c1, c2, c3⟩ := sndR_cg rfl r.2 (blkR_eq hG a4 b4) p.2.1 p.2.2 a5 b5
    exact ⟨by omega, c1, fun k hk => absurd hk (by omega), c2, c3⟩
abbrev Ab : Type := Int × Int × (Nat → Int32) × (Nat → Bool) × (Int → Bool)
def acc1 (c : Int32) (s t : Ab) : Prop := accR c s.1 t.1 s.2.1 t.2.1 s.2.2.1 t.2.2.1 s.2.2.2.1 t.2.2.2.1 s.2.2.2.2 t.2.2.2.2
def accL : List Int32 → Ab → Ab → Prop
  | [], s, t => s = t
  | c :: cs, s, t => ∃ m, acc1 c s m ∧ accL cs m t
theorem accL_snoc {c : Int32} : ∀ {cs : List Int32} {s m t : Ab}, accL cs s m → acc1 c m t → accL (cs ++ [c]) s t := by
  intro cs
  induction cs with
  | nil => intro s m t h k; cases h; exact ⟨t, k, rfl⟩
  | cons d cs ih => intro s m t h k; obtain ⟨m', h1, h2⟩ := h; exact ⟨m', h1, ih h2 k⟩
theorem accL_app {cs ds : List Int32} : ∀ {s m t : Ab}, accL cs s m → accL ds m t → accL (cs ++ ds) s t := by
  induction cs with
  | nil => intro s m t h k; cases h; exact k
  | cons d cs ih => intro s m t h k; obtain ⟨m', h1, h2⟩ := h; exact ⟨m', h1, ih h2 k⟩
def okA (s : Ab) : Prop := (0 ≤ s.1 ∧ s.1 < 8) ∧ 0 ≤ s.2.1
def cplA (s t : Ab) : Prop := s.1 = t.1 ∧ s.2.1 = t.2.1 ∧ cplR s.1 s.2.1 s.2.2.1 t.2.2.1 s.2.2.2.1 t.2.2.2.1 s.2.2.2.2 t.2.2.2.2
theorem acc1_ok {c : Int32} {s t : Ab} (h : okA s) (k : acc1 c s t) : okA t := by
  obtain ⟨⟨h1, h2⟩, h3⟩ := h
  rcases (show s.1 < 7 ∨ s.1 = 7 by omega) with e | e
  · obtain ⟨a1, a2, -⟩ := k.1 e
    exact ⟨by omega, by omega⟩
  · obtain ⟨a1, G, B, -, -, -, a5⟩ := k.2 e
    have := a5.1
    exact ⟨by omega, by omega⟩
theorem acc1_cg {c : Int32} {s t s2 t2 : Ab} (h : okA s) (p : cplA s t) (a : acc1 c s s2) (b : acc1 c t t2) : cplA s2 t2 := accR_cg p.1 p.2.1 h p.2.2 a b
theorem accL_cg : ∀ {cs : List Int32} {s t s2 t2 : Ab}, okA s → cplA s t → accL cs s s2 → accL cs t t2 → cplA s2 t2 := by
  intro cs
  induction cs with
  | nil => intro s t s2 t2 _ p a b; cases a; cases b; exact p
  | cons c cs ih =>
    intro s t s2 t2 h p a b
    obtain ⟨m, a1, a2⟩ := a
    obtain ⟨n, b1, b2⟩ := b
    exact ih (acc1_ok h a1) (acc1_cg h p a1 b1) a2 b2
theorem accR_v {c : Int32} {wa wa2 cn cn2 : Int} {g g2 : Nat → Int32} {σ σ2 : Nat → Bool} {X X2 : Int → Bool} (h : ∀ k : Nat, (k : Int) < wa → 0 ≤ (g k).toInt ∧ (g k).toInt ≤ 259) (hc : 0 ≤ c.toInt ∧ c.toInt ≤ 259) (hw : 0 ≤ wa ∧ wa < 8) (a : accR c wa wa2 cn cn2 g g2 σ σ2 X X2) : ∀ k : Nat, (k : Int) < wa2 → 0 ≤ (g2 k).toInt ∧ (g2 k).toInt ≤ 259 := by
  intro k hk
  rcases (show wa < 7 ∨ wa = 7 by omega) with e | e
  · obtain ⟨a1, a2, a3, a4, -⟩ := a.1 e
    rcases (show (k : Int) < wa ∨ k = wa.toNat by omega) with q | q
    · rw [a3 k q]; exact h k q
    · rw [q, a4]; exact hc
  · obtain ⟨a1, -⟩ := a.2 e
    omega
/-- the bytes of an int, the highest first -/
def wch (w : Int32) (s : Nat) : Int32 := nI (w.toBitVec.toNat / 2 ^ s % 256)
def wl (w : Int32) : Nat → List Int32
  | 0 => []
  | n + 1 => wl w n ++ [wch w (24 - 8 * n)]
theorem su_k : ∀ k, k < 32 → (((nI k).toUInt32 &&& Int32.toUInt32 31).toBitVec % 32).toNat = k := by decide +kernel
theorem wch_u {w s x y r : Int32} {k : Nat} (hs : s.toInt = k) (hk : k < 32) (hx : x = (w.toUInt32 >>> (s.toUInt32 &&& Int32.toUInt32 31)).toInt32) (hy : y = 255) (hr : r = x &&& y) : r = wch w k := by
  have e : s = nI k := Int32.toInt_inj.mp (hs.trans (nI_toInt (by omega)).symm)
  rw [hr, hy, pk_and x 8 (m := 255) (by decide), hx, e, pk_ushr w (nI k) k (su_k k hk)]
  rfl
/-- idle groups sent -/
def idlR : Nat → Int → Int → (Nat → Bool) → (Nat → Bool) → (Int → Bool) → (Int → Bool) → Prop
  | 0, cn, cn2, σ, σ2, X, X2 => cn2 = cn ∧ sameS σ σ2 ∧ sameX cn X X2
  | n + 1, cn, cn2, σ, σ2, X, X2 => ∃ (d : Int) (τ : Nat → Bool) (Y : Int → Bool) (B : Nat → Bool), idlR n cn d σ τ X Y ∧ (∀ G : Nat → Int32, (∀ k, k < 8 → (G k).toInt = 256) → blkR G B) ∧ sndR B d cn2 τ σ2 Y X2
theorem blk_idle {hd : Int32} {pl : Int64} (h : hd.toInt = 2) (hp : pl = 30) : ∀ G : Nat → Int32, (∀ k, k < 8 → (G k).toInt = 256) → blkR G (hpB hd pl) := by
  intro G hG
  subst hp
  have hh := hd_2 h
  refine blkR_qui (fun k _ hk => Or.inl (hG k hk)) ⟨⟨hh.1, hh.2, fun j hj => ?_⟩, fun k a b j hj => ?_⟩
  · rw [hpB_2', bl_30 j (by omega)]
  · rw [show 10 + 7 * k + j = 2 + (8 + 7 * k + j) by omega, hpB_2', bl_30 _ (by omega)]
    rw [show bt 30 (8 + 7 * k + j) = false from by
      by_cases e2 : 8 + 7 * k + j < 32
      · exact bt_30 _ e2 (by omega)
      · exact bt_big (by omega)]
    simp [hG k b]
theorem idlR_cg : ∀ {n : Nat} {cn cn2 dn dn2 : Int} {σ σ2 τ τ2 : Nat → Bool} {X X2 Y Y2 : Int → Bool}, cn = dn → 0 ≤ cn → sameS σ τ → sameX cn X Y → idlR n cn cn2 σ σ2 X X2 → idlR n dn dn2 τ τ2 Y Y2 → (cn2 = dn2 ∧ 0 ≤ cn2) ∧ sameS σ2 τ2 ∧ sameX cn2 X2 Y2 := by
  intro n
  induction n with
  | zero =>
    intro cn cn2 dn dn2 σ σ2 τ τ2 X X2 Y Y2 hc h0 hs hX a b
    obtain rfl := hc
    obtain ⟨a1, a2, a3⟩ := a
    obtain ⟨b1, b2, b3⟩ := b
    refine ⟨by omega, fun j hj => ?_, fun j x y => ?_⟩
    · rw [← a2 j hj, ← b2 j hj, hs j hj]
    · rw [← a3 j x (by omega), ← b3 j x (by omega), hX j x (by omega)]
  | succ n ih =>
    intro cn cn2 dn dn2 σ σ2 τ τ2 X X2 Y Y2 hc h0 hs hX a b
    obtain ⟨d, t, Z, B, a1, a2, a3⟩ := a
    obtain ⟨d', t', Z', B', b1, b2, b3⟩ := b
    obtain ⟨⟨c1, c2⟩, c3, c4⟩ := ih hc h0 hs hX a1 b1
    have hB := blkR_eq (g := fun _ => nI 256) (g' := fun _ => nI 256) (fun _ _ => rfl) (a2 _ (fun _ _ => by decide)) (b2 _ (fun _ _ => by decide))
    obtain ⟨e1, e2, e3⟩ := sndR_cg c1 c2 hB c3 c4 a3 b3
    have := a3.1
    exact ⟨by omega, e2, e3⟩
/-! the model's reading of a group -/
def stD (al : Int32) (P : Prop) : Prop := (al.toInt = 1 ∧ P) ∨ (al.toInt = 0 ∧ ¬ P)
theorem stF {al v : Int32} {P P' : Prop} (h : stD al P) (h0 : al.toInt = 0) (hv : v.toInt = 0) (himp : P' → P) : stD v P' := by
  refine Or.inr ⟨hv, fun p' => ?_⟩
  rcases h with g | g
  · omega
  · exact g.2 (himp p')
theorem stT {al v : Int32} {P P' : Prop} (h : stD al P) (h0 : ¬ al.toInt = 0) (hv : v.toInt = 1) (himp : P → P') : stD v P' := by
  rcases h with g | g
  · exact Or.inl ⟨hv, himp g.2⟩
  · omega
theorem stX {v : Int32} {P' : Prop} (hv : v.toInt = 0) (himp : ¬ P') : stD v P' := Or.inr ⟨hv, himp⟩
theorem aD_s {g : Nat → Int32} {a k : Nat} (h : (g k).toInt < 256) (q : aD g a k) : aD g a (k + 1) := fun j x y => by
  rcases (show j < k ∨ j = k by omega) with e | e
  · exact q j x e
  · rw [e]; exact h
theorem aQ_s {g : Nat → Int32} {a k : Nat} (h : (g k).toInt = 256 ∨ (g k).toInt = 259) (q : aQ g a k) : aQ g a (k + 1) := fun j x y => by
  rcases (show j < k ∨ j = k by omega) with e | e
  · exact q j x e
  · rw [e]; exact h
theorem ss_k : ∀ n, n < 32 → ((nI n &&& 31).toBitVec.smod 32).toNat = n := by decide +kernel
theorem sb_k {x k : Int32} {n : Nat} (hk : k.toInt = n) (hn : n < 32) : bt (x >>> (k &&& 31)) 0 = bt x n := by
  have e : k = nI n := Int32.toInt_inj.mp (hk.trans (nI_toInt (by omega)).symm)
  rw [e]
  unfold bt
  rw [Int32.toBitVec_shiftRight]
  show (x.toBitVec.sshiftRight ((nI n &&& 31).toBitVec.smod 32).toNat).getLsbD 0 = _
  rw [ss_k n hn, BitVec.getLsbD_sshiftRight]
  simp [hn]
end
section
set_option maxHeartbeats 4000000 in
set_option maxRecDepth 100000 in
theorem c_JM_floorMod (l : Launch) (D : va_G) (cI cJ cB : ClassId) (x : Int32) (y : Int32) (h1 : 0 ≤ x.toInt) (h2 : 0 < y.toInt) :
    cti l yJ9_floorMod_7cf53 (wsOf yJ9_floorMod_7cf53 cJ9_floorMod_7cf53 3 (some .int)) (rmL 0 0 0 0) D classes (tys3 cI cJ cB) [.int x, .int y] [] (fun (r : Int32) (u : Unit) => (0 ≤ r.toInt ∧ r.toInt < y.toInt) ∧ r.toInt = x.toInt % y.toInt) (fun u : Unit => ([] : va_W)) := by
  refine cti.of (by first | exact plainFor_of_name (by decide) | decide +kernel) (Nat.le_of_ble_eq_true rfl) (fun p e s m args below meth c A ls Q h hret => ?_)
  obtain ⟨hx, hb, hml, hown, hts, hnm, hP, hK, hD, hA, hS, hZ, hN, hl⟩ := h
  have hown : s.vm.findClass RJ9 = some m.cls := hown
  have hl : lv_has ls 3 [(0, .int x), (1, .int y)] := hl
  have hP : va_P D classes [] s.heap := hP
  have hD : va_D A [] := hD
  have rg_x := zi_rg x
  have rg_y := zi_rg y
  refine lv_iload_n hx hb dJ9_floorMod_7cf53_0 rfl (lv_at hl 0 rfl) ?_
  refine lv_iload_n hx hb dJ9_floorMod_7cf53_1 rfl (lv_at hl 1 rfl) ?_
  refine lv_irem hx hb dJ9_floorMod_7cf53_2 (zi_pne (by omega)) ?_
  refine lv_topi (fun v1 e1 => ?_)
  have z1 := zi_remv e1 (by omega) (by omega)
  refine lv_istore_n (lv' := [(2, .int v1), (0, .int x), (1, .int y)]) hx hb dJ9_floorMod_7cf53_3 rfl hl (by decide) rfl (fun ls hl => ?_)
  refine lv_iload_n hx hb dJ9_floorMod_7cf53_4 rfl (lv_at hl 1 rfl) ?_
  refine lv_iload_n hx hb dJ9_floorMod_7cf53_5 rfl (lv_at hl 2 rfl) ?_
  refine lv_ixor hx hb dJ9_floorMod_7cf53_6 ?_
  refine lv_topi (fun v2 e2 => ?_)
  have z2 := zi_xor e2 (by omega)
  refine lv_if_ge (tgt := 18) hx hb dJ9_floorMod_7cf53_7 (by decide) (fun c3 => ?_) (fun c3 => ?_)
  ·
    have z3 := zi_ge0 c3
    refine lv_iload_n hx hb dJ9_floorMod_7cf53_18 rfl (lv_at hl 0 rfl) ?_
    have hq4 : (0 ≤ v1.toInt ∧ v1.toInt < y.toInt) ∧ v1.toInt = x.toInt % y.toInt := (by omega)
    exact hret v1 () _ _ _ _ dJ9_floorMod_7cf53_19 hq4 (hP.sub [] rfl) (hD.sub [] (by decide) rfl) hS
  ·
    have z3 := zi_nge0 c3
    refine lv_iload_n hx hb dJ9_floorMod_7cf53_10 rfl (lv_at hl 0 rfl) ?_
    refine lv_if_eq (tgt := 18) hx hb dJ9_floorMod_7cf53_11 (by decide) (fun c5 => ?_) (fun c5 => ?_)
    ·
      have z5 := zi_eq0 c5
      refine lv_iload_n hx hb dJ9_floorMod_7cf53_18 rfl (lv_at hl 0 rfl) ?_
      have hq6 : (0 ≤ v1.toInt ∧ v1.toInt < y.toInt) ∧ v1.toInt = x.toInt % y.toInt := (by omega)
      exact hret v1 () _ _ _ _ dJ9_floorMod_7cf53_19 hq6 (hP.sub [] rfl) (hD.sub [] (by decide) rfl) hS
    ·
      have z5 := zi_ne0 c5
      refine lv_iload_n hx hb dJ9_floorMod_7cf53_14 rfl (lv_at hl 0 rfl) ?_
      refine lv_iload_n hx hb dJ9_floorMod_7cf53_15 rfl (lv_at hl 2 rfl) ?_
      refine lv_iadd hx hb dJ9_floorMod_7cf53_16 ?_
      refine lv_topi (fun v7 e7 => ?_)
      first | have z7 := zi_add e7 (by omega) | skip
      have hq8 : (0 ≤ v7.toInt ∧ v7.toInt < y.toInt) ∧ v7.toInt = x.toInt % y.toInt := (by omega)
      exact hret v7 () _ _ _ _ dJ9_floorMod_7cf53_17 hq8 (hP.sub [] rfl) (hD.sub [] (by decide) rfl) hS

set_option maxHeartbeats 4000000 in
set_option maxRecDepth 100000 in
theorem c_JA_fill (l : Launch) (D : va_G) (cI cJ cB : ClassId) (aG : Nat) (x : Int32) (fg : Nat → Int32)  :
    ctv l yJ7_fill_53178 (wsOf yJ7_fill_53178 cJ7_fill_53178 4 none) (rmL 0 0 0 0) D classes (tys3 cI cJ cB) [.ref aG, .int x] [(aG, .inl (cI, 8, .inl fg))] (fun u : (Nat → Int32) => ∀ j, j < 8 → u j = x) (fun u : (Nat → Int32) => ([(aG, .inl (cI, 8, .inl u))] : va_W)) 0 0 := by
  refine ctv.of (by first | exact plainFor_of_name (by decide) | decide +kernel) (Nat.le_of_ble_eq_true rfl) (fun p e s m args below meth c A ls Q h hret => ?_)
  obtain ⟨hx, hb, hml, hown, hts, hnm, hP, hK, hD, hA, hS, hZ, hN, hl⟩ := h
  have hown : s.vm.findClass RJ7 = some m.cls := hown
  have hl : lv_has ls 4 [(0, .ref aG), (1, .int x)] := hl
  have hP : va_P D classes [(aG, .inl (cI, 8, .inl fg))] s.heap := hP
  have hD : va_D A [(aG, .inl (cI, 8, .inl fg))] := hD
  have rg_x := zi_rg x
  refine lv_iconst (v := 0) hx hb dJ7_fill_53178_0 (by decide) ?_
  refine lv_topi (fun v1 e1 => ?_)
  have z1 : v1.toInt = 0 := zi_c e1 (by decide)
  refine lv_istore_n (lv' := [(2, .int v1), (0, .ref aG), (1, .int x)]) hx hb dJ7_fill_53178_1 rfl hl (by decide) rfl (fun ls hl => ?_)
  refine lv_aload_n hx hb dJ7_fill_53178_2 rfl (lv_at hl 1 rfl) ?_
  refine va_alen hx hb hK hP 0 0 rfl rfl (v := 8) rfl dJ7_fill_53178_3 ?_
  refine lv_topi (fun v2 e2 => ?_)
  have z2 : v2.toInt = 8 := zi_c e2 (by decide)
  refine lv_istore_n (lv' := [(3, .int v2), (2, .int v1), (0, .ref aG), (1, .int x)]) hx hb dJ7_fill_53178_4 rfl hl (by decide) rfl (fun ls hl => ?_)
  have J5 : ∀ (n : Nat) (k : Int32) (g : Nat → Int32) (H : Heap) (locs : List Loc) (ls : Array Slot), ((8 - k.toInt).toNat) < n → (0 ≤ k.toInt) → (∀ j, j < k.toInt.toNat → g j = x) → va_P D classes [(aG, .inl (cI, 8, .inl g))] H → va_D A [(aG, .inl (cI, 8, .inl g))] → va_S A s.heap H locs → lv_has ls 4 [(3, .int v2), (0, .ref aG), (1, .int x), (2, .int k)] → W p l e (rmL 0 0 0 0) s m args below meth c H locs 0 0 Q (F0 m 5 ls []) := by
    intro n
    induction n with
    | zero => intro k g H locs ls hmu; exact absurd hmu (Nat.not_lt_zero _)
    | succ n ih5 =>
      intro k g H locs ls hmu5 i5_0 i5_1 hP hD hS hl
      have rg_k := zi_rg k
      refine lv_iload_n hx hb dJ7_fill_53178_5 rfl (lv_at hl 3 rfl) ?_
      refine lv_iload_n hx hb dJ7_fill_53178_6 rfl (lv_at hl 0 rfl) ?_
      refine lv_icmp_ge (tgt := 20) hx hb dJ7_fill_53178_7 (by decide) (fun c3 => ?_) (fun c3 => ?_)
      ·
        have z3 := zi_le c3
        have hq4 : ∀ j, j < 8 → g j = x := (fun j hj => i5_1 j (by omega))
        exact hret g _ _ _ _ dJ7_fill_53178_20 hq4 (hP.sub [0] rfl) (hD.sub [0] (by decide) rfl) hS
      ·
        have z3 := zi_nle c3
        refine lv_aload_n hx hb dJ7_fill_53178_10 rfl (lv_at hl 1 rfl) ?_
        refine lv_iload_n hx hb dJ7_fill_53178_11 rfl (lv_at hl 3 rfl) ?_
        refine lv_iload_n hx hb dJ7_fill_53178_12 rfl (lv_at hl 2 rfl) ?_
        obtain ⟨f5, ef5⟩ : ∃ z9, z9 = upd g k.toNatClampNeg x := ⟨_, rfl⟩
        refine va_iast hx hb hK hP hD hS 0 0 rfl rfl (zi_in (by omega)) dJ7_fill_53178_13 (fun H locs hP1 hD1 hS1 => ?_)
        rw [← ef5] at hP1 hD1
        clear hP hD hS
        have hP : va_P D classes [(aG, .inl (cI, 8, .inl f5))] H := hP1
        have hD : va_D A [(aG, .inl (cI, 8, .inl f5))] := hD1
        have hS := hS1
        clear hP1 hD1 hS1
        obtain ⟨v6, e6⟩ : ∃ y : Int32, y = k + 1 := ⟨_, rfl⟩
        first | have z6 := zi_inc (z := 1) 1 (by decide) e6 (by omega) | skip
        refine lv_iinc (v := v6) (lv' := [(2, .int v6), (3, .int v2), (0, .ref aG), (1, .int x)]) hx hb dJ7_fill_53178_14 hl (k := 3) rfl (by rw [e6]; rfl) (by decide) rfl (fun ls hl => ?_)
        refine lv_goto (tgt := 5) hx hb dJ7_fill_53178_17 (by decide) ?_
        exact ih5 v6 f5 _ _ _ (by omega) (by omega) (fun j hj => by rw [ef5]; by_cases g9 : j = k.toInt.toNat; (· rw [g9]; exact pk_us); (· rw [pk_un (show j ≠ k.toNatClampNeg from g9)]; exact i5_1 j (by omega))) (hP.sub [0] rfl) (hD.sub [0] (by decide) rfl) hS (lv_sub hl [1, 2, 3, 0] rfl)
  exact J5 _ v1 fg _ _ _ (Nat.lt_succ_self _) (by omega) (fun j hj => absurd hj (by omega)) (hP.sub [0] rfl) (hD.sub [0] (by decide) rfl) hS (lv_sub hl [0, 2, 3, 1] rfl)

set_option maxHeartbeats 4000000 in
set_option maxRecDepth 100000 in
theorem c_Ln_size (l : Launch) (D : va_G) (cI cJ cB : ClassId) (aL : Nat) (aW : Nat) (fi : Int32) (cn : Int32)  :
    cti l yX2_size (wsOf yX2_size cX2_size 1 (some .int)) (rmL 0 0 0 0) D classes (tys3 cI cJ cB) [.ref aL] [(aL, .inr (1, [.ref aW, .int fi, .int cn]))] (fun (r : Int32) (u : Unit) => r.toInt = cn.toInt) (fun u : Unit => ([(aL, .inr (1, [.ref aW, .int fi, .int cn]))] : va_W)) := by
  refine cti.of (by first | exact plainFor_of_name (by decide) | decide +kernel) (Nat.le_of_ble_eq_true rfl) (fun p e s m args below meth c A ls Q h hret => ?_)
  obtain ⟨hx, hb, hml, hown, hts, hnm, hP, hK, hD, hA, hS, hZ, hN, hl⟩ := h
  have hown : s.vm.findClass RX2 = some m.cls := hown
  have hl : lv_has ls 1 [(0, .ref aL)] := hl
  have hP : va_P D classes [(aL, .inr (1, [.ref aW, .int fi, .int cn]))] s.heap := hP
  have hD : va_D A [(aL, .inr (1, [.ref aW, .int fi, .int cn]))] := hD
  have rg_fi := zi_rg fi
  have rg_cn := zi_rg cn
  refine lv_aload_n hx hb dX2_size_0 rfl (lv_at hl 0 rfl) ?_
  refine va_get (D := D) (ci := 1) (v := .int cn) (C := RX2) (T := TX2) (N := 3) hx hb hts in_X2 hown hK hP 0 rfl rfl 2 (by decide) (hts _ wk81) (fun _ h9 => h9) rfl dX2_size_1 ?_
  have hq1 : cn.toInt = cn.toInt := (by omega)
  exact hret cn () _ _ _ _ dX2_size_4 hq1 (hP.sub [0] rfl) (hD.sub [0] (by decide) rfl) hS

set_option maxHeartbeats 4000000 in
set_option maxRecDepth 100000 in
theorem c_Ln_has (l : Launch) (D : va_G) (cI cJ cB : ClassId) (aL : Nat) (aW : Nat) (fi : Int32) (cn : Int32) (i : Int32)  :
    cti l yX2_has (wsOf yX2_has cX2_has 2 (some .boolean)) (rmL 0 0 0 0) D classes (tys3 cI cJ cB) [.ref aL, .int i] [(aL, .inr (1, [.ref aW, .int fi, .int cn]))] (fun (r : Int32) (u : Unit) => (r.toInt = 1 ∧ 0 ≤ i.toInt ∧ i.toInt < cn.toInt) ∨ (r.toInt = 0 ∧ (i.toInt < 0 ∨ cn.toInt ≤ i.toInt))) (fun u : Unit => ([(aL, .inr (1, [.ref aW, .int fi, .int cn]))] : va_W)) := by
  refine ctz.of (by first | exact plainFor_of_name (by decide) | decide +kernel) (Nat.le_of_ble_eq_true rfl) (fun p e s m args below meth c A ls Q h hret => ?_)
  obtain ⟨hx, hb, hml, hown, hts, hnm, hP, hK, hD, hA, hS, hZ, hN, hl⟩ := h
  have hown : s.vm.findClass RX2 = some m.cls := hown
  have hl : lv_has ls 2 [(0, .ref aL), (1, .int i)] := hl
  have hP : va_P D classes [(aL, .inr (1, [.ref aW, .int fi, .int cn]))] s.heap := hP
  have hD : va_D A [(aL, .inr (1, [.ref aW, .int fi, .int cn]))] := hD
  have rg_fi := zi_rg fi
  have rg_cn := zi_rg cn
  have rg_i := zi_rg i
  refine lv_iload_n hx hb dX2_has_0 rfl (lv_at hl 1 rfl) ?_
  refine lv_if_lt (tgt := 16) hx hb dX2_has_1 (by decide) (fun c1 => ?_) (fun c1 => ?_)
  ·
    have z1 := zi_lt0 c1
    refine lv_iconst (v := 0) hx hb dX2_has_16 (by decide) ?_
    refine lv_topi (fun v2 e2 => ?_)
    have z2 : v2.toInt = 0 := zi_c e2 (by decide)
    have hq3 : (v2.toInt = 1 ∧ 0 ≤ i.toInt ∧ i.toInt < cn.toInt) ∨ (v2.toInt = 0 ∧ (i.toInt < 0 ∨ cn.toInt ≤ i.toInt)) := (by omega)
    exact hret v2 () _ _ _ _ dX2_has_17 (zb_n (by omega)) hq3 (hP.sub [0] rfl) (hD.sub [0] (by decide) rfl) hS
  ·
    have z1 := zi_nlt0 c1
    refine lv_iload_n hx hb dX2_has_4 rfl (lv_at hl 1 rfl) ?_
    refine lv_aload_n hx hb dX2_has_5 rfl (lv_at hl 0 rfl) ?_
    refine va_get (D := D) (ci := 1) (v := .int cn) (C := RX2) (T := TX2) (N := 3) hx hb hts in_X2 hown hK hP 0 rfl rfl 2 (by decide) (hts _ wk81) (fun _ h9 => h9) rfl dX2_has_6 ?_
    refine lv_icmp_ge (tgt := 16) hx hb dX2_has_9 (by decide) (fun c4 => ?_) (fun c4 => ?_)
    ·
      have z4 := zi_le c4
      refine lv_iconst (v := 0) hx hb dX2_has_16 (by decide) ?_
      refine lv_topi (fun v5 e5 => ?_)
      have z5 : v5.toInt = 0 := zi_c e5 (by decide)
      have hq6 : (v5.toInt = 1 ∧ 0 ≤ i.toInt ∧ i.toInt < cn.toInt) ∨ (v5.toInt = 0 ∧ (i.toInt < 0 ∨ cn.toInt ≤ i.toInt)) := (by omega)
      exact hret v5 () _ _ _ _ dX2_has_17 (zb_n (by omega)) hq6 (hP.sub [0] rfl) (hD.sub [0] (by decide) rfl) hS
    ·
      have z4 := zi_nle c4
      refine lv_iconst (v := 1) hx hb dX2_has_12 (by decide) ?_
      refine lv_topi (fun v7 e7 => ?_)
      have z7 : v7.toInt = 1 := zi_c e7 (by decide)
      refine lv_goto (tgt := 17) hx hb dX2_has_13 (by decide) ?_
      have hq8 : (v7.toInt = 1 ∧ 0 ≤ i.toInt ∧ i.toInt < cn.toInt) ∨ (v7.toInt = 0 ∧ (i.toInt < 0 ∨ cn.toInt ≤ i.toInt)) := (by omega)
      exact hret v7 () _ _ _ _ dX2_has_17 (zb_n (by omega)) hq8 (hP.sub [0] rfl) (hD.sub [0] (by decide) rfl) hS

set_option maxHeartbeats 4000000 in
set_option maxRecDepth 100000 in
theorem c_Ln_ringPlace (l : Launch) (D : va_G) (cI cJ cB : ClassId) (aL : Nat) (aW : Nat) (fi : Int32) (cn : Int32) (i : Int32) (h1 : 0 ≤ fi.toInt ∧ fi.toInt < 9088) (h2 : 0 ≤ i.toInt ∧ i.toInt ≤ 9087) :
    cti l yX2_ringPlace (wsOf yX2_ringPlace cX2_ringPlace 2 (some .int)) (rmL 1 22 0 0) D classes (tys3 cI cJ cB) [.ref aL, .int i] [(aL, .inr (1, [.ref aW, .int fi, .int cn]))] (fun (r : Int32) (u : Unit) => (0 ≤ r.toInt ∧ r.toInt < 9088) ∧ r.toInt = (fi.toInt + i.toInt) % 9088) (fun u : Unit => ([(aL, .inr (1, [.ref aW, .int fi, .int cn]))] : va_W)) := by
  refine cti.of (by first | exact plainFor_of_name (by decide) | decide +kernel) (Nat.le_of_ble_eq_true rfl) (fun p e s m args below meth c A ls Q h hret => ?_)
  obtain ⟨hx, hb, hml, hown, hts, hnm, hP, hK, hD, hA, hS, hZ, hN, hl⟩ := h
  have hown : s.vm.findClass RX2 = some m.cls := hown
  have hl : lv_has ls 2 [(0, .ref aL), (1, .int i)] := hl
  have hP : va_P D classes [(aL, .inr (1, [.ref aW, .int fi, .int cn]))] s.heap := hP
  have hD : va_D A [(aL, .inr (1, [.ref aW, .int fi, .int cn]))] := hD
  have rg_fi := zi_rg fi
  have rg_cn := zi_rg cn
  have rg_i := zi_rg i
  refine lv_aload_n hx hb dX2_ringPlace_0 rfl (lv_at hl 0 rfl) ?_
  refine va_get (D := D) (ci := 1) (v := .int fi) (C := RX2) (T := TX2) (N := 3) hx hb hts in_X2 hown hK hP 0 rfl rfl 1 (by decide) (hts _ wk140) (fun _ h9 => h9) rfl dX2_ringPlace_1 ?_
  refine lv_iload_n hx hb dX2_ringPlace_4 rfl (lv_at hl 1 rfl) ?_
  refine lv_iadd hx hb dX2_ringPlace_5 ?_
  refine lv_topi (fun v1 e1 => ?_)
  first | have z1 := zi_add e1 (by omega) | skip
  refine lv_sipush (v := 9088) hx hb dX2_ringPlace_6 (by decide) ?_
  refine lv_topi (fun v2 e2 => ?_)
  have z2 : v2.toInt = 9088 := zi_c e2 (by decide)
  have hh3 : 0 ≤ v1.toInt := (by omega)
  have hh4 : 0 < v2.toInt := (by omega)
  refine call_i (wc := []) (wr := [(aL, .inr (1, [.ref aW, .int fi, .int cn]))]) (run_S (As := [.int v1, .int v2]) (rest := []) ks_RX2_28 ⟨by decide, by decide⟩ ⟨rfl, rfl⟩ ⟨hx, hb, hml, hown, hts⟩ (c_JM_floorMod l D cI cJ cB v1 v2 hh3 hh4 _) ct_blind (ct_pre (wc := []) hK hP hD hS hA hZ hN [] (by decide) rfl rfl) rfl hl.1 rfl (Nat.le_of_ble_eq_true rfl) dX2_ringPlace_9 ⟨Nat.le_of_ble_eq_true rfl, Nat.le_of_ble_eq_true rfl⟩) hP hD hS hA [] [0] rfl rfl (by decide) (by decide) (fun r5 u H locs hw5 hP1 hD1 hS1 => ?_)
  have hw5 : (0 ≤ r5.toInt ∧ r5.toInt < v2.toInt) ∧ r5.toInt = v1.toInt % v2.toInt := hw5
  clear hP hD hS
  have hP : va_P D classes [(aL, .inr (1, [.ref aW, .int fi, .int cn]))] H := hP1
  have hD : va_D A [(aL, .inr (1, [.ref aW, .int fi, .int cn]))] := hD1
  have hS := hS1
  clear hP1 hD1 hS1
  have rg_r5 := zi_rg r5
  have hq6 : (0 ≤ r5.toInt ∧ r5.toInt < 9088) ∧ r5.toInt = (fi.toInt + i.toInt) % 9088 := (by have h9 := hw5.2; have h8 := hw5.1; rw [z2] at h9 h8; clear hw5; omega)
  exact hret r5 () _ _ _ _ dX2_ringPlace_12 hq6 (hP.sub [0] rfl) (hD.sub [0] (by decide) rfl) hS

set_option maxHeartbeats 4000000 in
set_option maxRecDepth 100000 in
theorem c_Ln_at (l : Launch) (D : va_G) (cI cJ cB : ClassId) (aL : Nat) (aW : Nat) (fi : Int32) (cn : Int32) (i : Int32) (fw : Nat → Int64) (h1 : 0 ≤ fi.toInt ∧ fi.toInt < 9088) (h2 : 0 ≤ i.toInt ∧ i.toInt ≤ 9087) :
    cti l yX2_at (wsOf yX2_at cX2_at 3 (some .int)) (rmL 2 43 0 0) D classes (tys3 cI cJ cB) [.ref aL, .int i] [(aL, .inr (1, [.ref aW, .int fi, .int cn])), (aW, .inl (cJ, 142, .inr (.inl fw)))] (fun (r : Int32) (u : Unit) => (0 ≤ r.toInt ∧ r.toInt < 2) ∧ r = bi (lnB fw fi.toInt i.toInt)) (fun u : Unit => ([(aL, .inr (1, [.ref aW, .int fi, .int cn])), (aW, .inl (cJ, 142, .inr (.inl fw)))] : va_W)) := by
  refine cti.of (by first | exact plainFor_of_name (by decide) | decide +kernel) (Nat.le_of_ble_eq_true rfl) (fun p e s m args below meth c A ls Q h hret => ?_)
  obtain ⟨hx, hb, hml, hown, hts, hnm, hP, hK, hD, hA, hS, hZ, hN, hl⟩ := h
  have hown : s.vm.findClass RX2 = some m.cls := hown
  have hl : lv_has ls 3 [(0, .ref aL), (1, .int i)] := hl
  have hP : va_P D classes [(aL, .inr (1, [.ref aW, .int fi, .int cn])), (aW, .inl (cJ, 142, .inr (.inl fw)))] s.heap := hP
  have hD : va_D A [(aL, .inr (1, [.ref aW, .int fi, .int cn])), (aW, .inl (cJ, 142, .inr (.inl fw)))] := hD
  have rg_fi := zi_rg fi
  have rg_cn := zi_rg cn
  have rg_i := zi_rg i
  refine lv_aload_n hx hb dX2_at_0 rfl (lv_at hl 0 rfl) ?_
  refine lv_iload_n hx hb dX2_at_1 rfl (lv_at hl 1 rfl) ?_
  have hh1 : 0 ≤ fi.toInt ∧ fi.toInt < 9088 := (by omega)
  have hh2 : 0 ≤ i.toInt ∧ i.toInt ≤ 9087 := (by omega)
  refine call_i (wc := [(aL, .inr (1, [.ref aW, .int fi, .int cn]))]) (wr := [(aW, .inl (cJ, 142, .inr (.inl fw)))]) (run_V (As := [.int i]) (rest := []) kv_RX2_19 ⟨by decide, by decide⟩ ⟨rfl, rfl⟩ ⟨hx, hb, hml, hown, hts⟩ (c_Ln_ringPlace l D cI cJ cB aL aW fi cn i hh1 hh2 _) ct_blind (ct_pre (wc := [(aL, .inr (1, [.ref aW, .int fi, .int cn]))]) hK hP hD hS hA hZ hN [0] (by decide) rfl rfl) (va_recv hK hP (ci := 1) (q0 := 0) rfl rfl) rfl hl.1 rfl (Nat.le_of_ble_eq_true rfl) dX2_at_2 ⟨Nat.le_of_ble_eq_true rfl, Nat.le_of_ble_eq_true rfl⟩) hP hD hS hA [0] [1] rfl rfl (by decide) (by decide) (fun r3 u H locs hw3 hP1 hD1 hS1 => ?_)
  have hw3 : (0 ≤ r3.toInt ∧ r3.toInt < 9088) ∧ r3.toInt = (fi.toInt + i.toInt) % 9088 := hw3
  clear hP hD hS
  have hP : va_P D classes [(aW, .inl (cJ, 142, .inr (.inl fw))), (aL, .inr (1, [.ref aW, .int fi, .int cn]))] H := hP1
  have hD : va_D A [(aW, .inl (cJ, 142, .inr (.inl fw))), (aL, .inr (1, [.ref aW, .int fi, .int cn]))] := hD1
  have hS := hS1
  clear hP1 hD1 hS1
  have rg_r3 := zi_rg r3
  refine lv_istore_n (lv' := [(2, .int r3), (0, .ref aL), (1, .int i)]) hx hb dX2_at_5 rfl hl (by decide) rfl (fun ls hl => ?_)
  refine lv_aload_n hx hb dX2_at_6 rfl (lv_at hl 1 rfl) ?_
  refine va_get (D := D) (ci := 1) (v := .ref aW) (C := RX2) (T := TX2) (N := 3) hx hb hts in_X2 hown hK hP 1 rfl rfl 0 (by decide) (hts _ wk29) (fun _ h9 => h9) rfl dX2_at_7 ?_
  refine lv_iload_n hx hb dX2_at_10 rfl (lv_at hl 0 rfl) ?_
  refine lv_bipush (v := 64) hx hb dX2_at_11 (by decide) ?_
  refine lv_topi (fun v4 e4 => ?_)
  have z4 : v4.toInt = 64 := zi_c e4 (by decide)
  refine lv_idiv hx hb dX2_at_13 (zi_ne0' (z := 64) (by omega) (by decide)) ?_
  refine lv_topi (fun v5 e5 => ?_)
  first | have z5 := zi_div (k := 64) e5 (by omega) (by omega) | skip
  refine va_lald hx hb hK hP 0 1 rfl rfl (zi_in (by omega)) dX2_at_14 ?_
  refine lv_topl (fun v6 e6 => ?_)
  refine lv_iload_n hx hb dX2_at_15 rfl (lv_at hl 0 rfl) ?_
  refine lv_bipush (v := 64) hx hb dX2_at_16 (by decide) ?_
  refine lv_topi (fun v7 e7 => ?_)
  have z7 : v7.toInt = 64 := zi_c e7 (by decide)
  refine lv_irem hx hb dX2_at_18 (zi_ne0' (z := 64) (by omega) (by decide)) ?_
  refine lv_topi (fun v8 e8 => ?_)
  first | have z8 := zi_rem (k := 64) e8 (by omega) (by omega) | skip
  refine lv_lushr hx hb dX2_at_19 rfl ?_
  refine lv_topl (fun v9 e9 => ?_)
  refine lv_l2i hx hb dX2_at_20 rfl ?_
  refine lv_topi (fun v10 e10 => ?_)
  refine lv_iconst (v := 1) hx hb dX2_at_21 (by decide) ?_
  refine lv_topi (fun v11 e11 => ?_)
  have z11 : v11.toInt = 1 := zi_c e11 (by decide)
  refine lv_iand hx hb dX2_at_22 ?_
  refine lv_topi (fun v12 e12 => ?_)
  have z12 := zi_and e12 e11 1 (z := 2) (by decide) (by decide) (by decide)
  have hq13 : (0 ≤ v12.toInt ∧ v12.toInt < 2) ∧ v12 = bi (lnB fw fi.toInt i.toInt) := (by have x1 : v5.toNatClampNeg = r3.toInt.toNat / 64 := (by show v5.toInt.toNat = _; omega); refine ⟨z12, ?_⟩; rw [rd_bit (k := r3.toInt.toNat % 64) (by omega) (by omega) e9 e10 e11 e12, e6, x1]; unfold lnB; rw [← hw3.2])
  exact hret v12 () _ _ _ _ dX2_at_23 hq13 (hP.sub [1, 0] rfl) (hD.sub [1, 0] (by decide) rfl) hS

set_option maxHeartbeats 4000000 in
set_option maxRecDepth 100000 in
theorem c_Ln_flip (l : Launch) (D : va_G) (cI cJ cB : ClassId) (aL : Nat) (aW : Nat) (fi : Int32) (cn : Int32) (i : Int32) (fw : Nat → Int64) (h1 : 0 ≤ fi.toInt ∧ fi.toInt < 9088) (h2 : 0 ≤ i.toInt ∧ i.toInt ≤ 9087) :
    ctv l yX2_flip (wsOf yX2_flip cX2_flip 3 none) (rmL 2 43 0 0) D classes (tys3 cI cJ cB) [.ref aL, .int i] [(aL, .inr (1, [.ref aW, .int fi, .int cn])), (aW, .inl (cJ, 142, .inr (.inl fw)))] (fun u : (Nat → Int64) => ∀ j : Int, lnB u fi.toInt j = if (fi.toInt + j) % 9088 = (fi.toInt + i.toInt) % 9088 then !lnB fw fi.toInt j else lnB fw fi.toInt j) (fun u : (Nat → Int64) => ([(aL, .inr (1, [.ref aW, .int fi, .int cn])), (aW, .inl (cJ, 142, .inr (.inl u)))] : va_W)) 0 0 := by
  refine ctv.of (by first | exact plainFor_of_name (by decide) | decide +kernel) (Nat.le_of_ble_eq_true rfl) (fun p e s m args below meth c A ls Q h hret => ?_)
  obtain ⟨hx, hb, hml, hown, hts, hnm, hP, hK, hD, hA, hS, hZ, hN, hl⟩ := h
  have hown : s.vm.findClass RX2 = some m.cls := hown
  have hl : lv_has ls 3 [(0, .ref aL), (1, .int i)] := hl
  have hP : va_P D classes [(aL, .inr (1, [.ref aW, .int fi, .int cn])), (aW, .inl (cJ, 142, .inr (.inl fw)))] s.heap := hP
  have hD : va_D A [(aL, .inr (1, [.ref aW, .int fi, .int cn])), (aW, .inl (cJ, 142, .inr (.inl fw)))] := hD
  have rg_fi := zi_rg fi
  have rg_cn := zi_rg cn
  have rg_i := zi_rg i
  refine lv_aload_n hx hb dX2_flip_0 rfl (lv_at hl 0 rfl) ?_
  refine lv_iload_n hx hb dX2_flip_1 rfl (lv_at hl 1 rfl) ?_
  have hh1 : 0 ≤ fi.toInt ∧ fi.toInt < 9088 := (by omega)
  have hh2 : 0 ≤ i.toInt ∧ i.toInt ≤ 9087 := (by omega)
  refine call_i (wc := [(aL, .inr (1, [.ref aW, .int fi, .int cn]))]) (wr := [(aW, .inl (cJ, 142, .inr (.inl fw)))]) (run_V (As := [.int i]) (rest := []) kv_RX2_19 ⟨by decide, by decide⟩ ⟨rfl, rfl⟩ ⟨hx, hb, hml, hown, hts⟩ (c_Ln_ringPlace l D cI cJ cB aL aW fi cn i hh1 hh2 _) ct_blind (ct_pre (wc := [(aL, .inr (1, [.ref aW, .int fi, .int cn]))]) hK hP hD hS hA hZ hN [0] (by decide) rfl rfl) (va_recv hK hP (ci := 1) (q0 := 0) rfl rfl) rfl hl.1 rfl (Nat.le_of_ble_eq_true rfl) dX2_flip_2 ⟨Nat.le_of_ble_eq_true rfl, Nat.le_of_ble_eq_true rfl⟩) hP hD hS hA [0] [1] rfl rfl (by decide) (by decide) (fun r3 u H locs hw3 hP1 hD1 hS1 => ?_)
  have hw3 : (0 ≤ r3.toInt ∧ r3.toInt < 9088) ∧ r3.toInt = (fi.toInt + i.toInt) % 9088 := hw3
  clear hP hD hS
  have hP : va_P D classes [(aW, .inl (cJ, 142, .inr (.inl fw))), (aL, .inr (1, [.ref aW, .int fi, .int cn]))] H := hP1
  have hD : va_D A [(aW, .inl (cJ, 142, .inr (.inl fw))), (aL, .inr (1, [.ref aW, .int fi, .int cn]))] := hD1
  have hS := hS1
  clear hP1 hD1 hS1
  have rg_r3 := zi_rg r3
  refine lv_istore_n (lv' := [(2, .int r3), (0, .ref aL), (1, .int i)]) hx hb dX2_flip_5 rfl hl (by decide) rfl (fun ls hl => ?_)
  refine lv_aload_n hx hb dX2_flip_6 rfl (lv_at hl 1 rfl) ?_
  refine va_get (D := D) (ci := 1) (v := .ref aW) (C := RX2) (T := TX2) (N := 3) hx hb hts in_X2 hown hK hP 1 rfl rfl 0 (by decide) (hts _ wk29) (fun _ h9 => h9) rfl dX2_flip_7 ?_
  refine lv_iload_n hx hb dX2_flip_10 rfl (lv_at hl 0 rfl) ?_
  refine lv_bipush (v := 64) hx hb dX2_flip_11 (by decide) ?_
  refine lv_topi (fun v4 e4 => ?_)
  have z4 : v4.toInt = 64 := zi_c e4 (by decide)
  refine lv_idiv hx hb dX2_flip_13 (zi_ne0' (z := 64) (by omega) (by decide)) ?_
  refine lv_topi (fun v5 e5 => ?_)
  first | have z5 := zi_div (k := 64) e5 (by omega) (by omega) | skip
  refine lv_dup2_11 hx hb dX2_flip_14 rfl rfl ?_
  refine va_lald hx hb hK hP 0 1 rfl rfl (zi_in (by omega)) dX2_flip_15 ?_
  refine lv_topl (fun v6 e6 => ?_)
  refine lv_lconst (v := 1) hx hb dX2_flip_16 (by decide) ?_
  refine lv_topl (fun v7 e7 => ?_)
  refine lv_iload_n hx hb dX2_flip_17 rfl (lv_at hl 0 rfl) ?_
  refine lv_bipush (v := 64) hx hb dX2_flip_18 (by decide) ?_
  refine lv_topi (fun v8 e8 => ?_)
  have z8 : v8.toInt = 64 := zi_c e8 (by decide)
  refine lv_irem hx hb dX2_flip_20 (zi_ne0' (z := 64) (by omega) (by decide)) ?_
  refine lv_topi (fun v9 e9 => ?_)
  first | have z9 := zi_rem (k := 64) e9 (by omega) (by omega) | skip
  refine lv_lshl hx hb dX2_flip_21 rfl ?_
  refine lv_topl (fun v10 e10 => ?_)
  refine lv_lxor hx hb dX2_flip_22 ?_
  refine lv_topl (fun v11 e11 => ?_)
  obtain ⟨f12, ef12⟩ : ∃ z9, z9 = vp_updL fw v5.toNatClampNeg v11 := ⟨_, rfl⟩
  refine va_last hx hb hK hP hD hS 0 1 rfl rfl (zi_in (by omega)) dX2_flip_23 (fun H locs hP1 hD1 hS1 => ?_)
  rw [← ef12] at hP1 hD1
  clear hP hD hS
  have hP : va_P D classes [(aW, .inl (cJ, 142, .inr (.inl f12))), (aL, .inr (1, [.ref aW, .int fi, .int cn]))] H := hP1
  have hD : va_D A [(aW, .inl (cJ, 142, .inr (.inl f12))), (aL, .inr (1, [.ref aW, .int fi, .int cn]))] := hD1
  have hS := hS1
  clear hP1 hD1 hS1
  have hq13 : ∀ j : Int, lnB f12 fi.toInt j = if (fi.toInt + j) % 9088 = (fi.toInt + i.toInt) % 9088 then !lnB fw fi.toInt j else lnB fw fi.toInt j := (by have x1 : v5.toNatClampNeg = r3.toInt.toNat / 64 := (by show v5.toInt.toNat = _; omega); intro j; rw [lnB_up (fw := fw) (gw := f12) (f := fi.toInt) (p := r3.toInt) (c := !bl (fw (r3.toInt.toNat / 64)) (r3.toInt.toNat % 64)) hw3.1 (fun q hq => by rw [ef12, x1]; exact pk_uLn hq) (fun q hq => by rw [ef12, x1, pk_uLs, fl_bit (s := v9) (k := r3.toInt.toNat % 64) (by omega) (by omega) (by rw [e10, e7]) e11 hq, e6, x1]; by_cases g : q = r3.toInt.toNat % 64; (· rw [if_pos g, if_pos g, g]); (· rw [if_neg g, if_neg g])) j, hw3.2]; by_cases g : (fi.toInt + j) % 9088 = (fi.toInt + i.toInt) % 9088; (· rw [if_pos g, if_pos g]; unfold lnB; rw [g]); (· rw [if_neg g, if_neg g]))
  exact hret f12 _ _ _ _ dX2_flip_24 hq13 (hP.sub [1, 0] rfl) (hD.sub [1, 0] (by decide) rfl) hS

set_option maxHeartbeats 4000000 in
set_option maxRecDepth 100000 in
theorem c_Ln_append (l : Launch) (D : va_G) (cI cJ cB : ClassId) (aL : Nat) (aW : Nat) (fi : Int32) (cn : Int32) (b : Int32) (fw : Nat → Int64) (h1 : 0 ≤ fi.toInt ∧ fi.toInt < 9088) (h2 : 0 ≤ cn.toInt ∧ cn.toInt ≤ 9087) (h3 : 0 ≤ b.toInt ∧ b.toInt ≤ 1) :
    ctv l yX2_append (wsOf yX2_append cX2_append 3 none) (rmL 2 43 0 0) D classes (tys3 cI cJ cB) [.ref aL, .int b] [(aL, .inr (1, [.ref aW, .int fi, .int cn])), (aW, .inl (cJ, 142, .inr (.inl fw)))] (fun u : Int32 × (Nat → Int64) => u.1.toInt = cn.toInt + 1 ∧ ∀ j : Int, lnB u.2 fi.toInt j = if (fi.toInt + j) % 9088 = (fi.toInt + cn.toInt) % 9088 then bt b 0 else lnB fw fi.toInt j) (fun u : Int32 × (Nat → Int64) => ([(aL, .inr (1, [.ref aW, .int fi, .int u.1])), (aW, .inl (cJ, 142, .inr (.inl u.2)))] : va_W)) 0 0 := by
  refine ctv.of (by first | exact plainFor_of_name (by decide) | decide +kernel) (Nat.le_of_ble_eq_true rfl) (fun p e s m args below meth c A ls Q h hret => ?_)
  obtain ⟨hx, hb, hml, hown, hts, hnm, hP, hK, hD, hA, hS, hZ, hN, hl⟩ := h
  have hown : s.vm.findClass RX2 = some m.cls := hown
  have hl : lv_has ls 3 [(0, .ref aL), (1, .int b)] := hl
  have hP : va_P D classes [(aL, .inr (1, [.ref aW, .int fi, .int cn])), (aW, .inl (cJ, 142, .inr (.inl fw)))] s.heap := hP
  have hD : va_D A [(aL, .inr (1, [.ref aW, .int fi, .int cn])), (aW, .inl (cJ, 142, .inr (.inl fw)))] := hD
  have rg_fi := zi_rg fi
  have rg_cn := zi_rg cn
  have rg_b := zi_rg b
  refine lv_aload_n hx hb dX2_append_0 rfl (lv_at hl 0 rfl) ?_
  refine lv_aload_n hx hb dX2_append_1 rfl (lv_at hl 0 rfl) ?_
  refine va_get (D := D) (ci := 1) (v := .int cn) (C := RX2) (T := TX2) (N := 3) hx hb hts in_X2 hown hK hP 0 rfl rfl 2 (by decide) (hts _ wk81) (fun _ h9 => h9) rfl dX2_append_2 ?_
  have hh1 : 0 ≤ fi.toInt ∧ fi.toInt < 9088 := (by omega)
  have hh2 : 0 ≤ cn.toInt ∧ cn.toInt ≤ 9087 := (by omega)
  refine call_i (wc := [(aL, .inr (1, [.ref aW, .int fi, .int cn]))]) (wr := [(aW, .inl (cJ, 142, .inr (.inl fw)))]) (run_V (As := [.int cn]) (rest := []) kv_RX2_19 ⟨by decide, by decide⟩ ⟨rfl, rfl⟩ ⟨hx, hb, hml, hown, hts⟩ (c_Ln_ringPlace l D cI cJ cB aL aW fi cn cn hh1 hh2 _) ct_blind (ct_pre (wc := [(aL, .inr (1, [.ref aW, .int fi, .int cn]))]) hK hP hD hS hA hZ hN [0] (by decide) rfl rfl) (va_recv hK hP (ci := 1) (q0 := 0) rfl rfl) rfl hl.1 rfl (Nat.le_of_ble_eq_true rfl) dX2_append_5 ⟨Nat.le_of_ble_eq_true rfl, Nat.le_of_ble_eq_true rfl⟩) hP hD hS hA [0] [1] rfl rfl (by decide) (by decide) (fun r3 u H locs hw3 hP1 hD1 hS1 => ?_)
  have hw3 : (0 ≤ r3.toInt ∧ r3.toInt < 9088) ∧ r3.toInt = (fi.toInt + cn.toInt) % 9088 := hw3
  clear hP hD hS
  have hP : va_P D classes [(aW, .inl (cJ, 142, .inr (.inl fw))), (aL, .inr (1, [.ref aW, .int fi, .int cn]))] H := hP1
  have hD : va_D A [(aW, .inl (cJ, 142, .inr (.inl fw))), (aL, .inr (1, [.ref aW, .int fi, .int cn]))] := hD1
  have hS := hS1
  clear hP1 hD1 hS1
  have rg_r3 := zi_rg r3
  refine lv_istore_n (lv' := [(2, .int r3), (0, .ref aL), (1, .int b)]) hx hb dX2_append_8 rfl hl (by decide) rfl (fun ls hl => ?_)
  refine lv_aload_n hx hb dX2_append_9 rfl (lv_at hl 1 rfl) ?_
  refine va_get (D := D) (ci := 1) (v := .ref aW) (C := RX2) (T := TX2) (N := 3) hx hb hts in_X2 hown hK hP 1 rfl rfl 0 (by decide) (hts _ wk29) (fun _ h9 => h9) rfl dX2_append_10 ?_
  refine lv_iload_n hx hb dX2_append_13 rfl (lv_at hl 0 rfl) ?_
  refine lv_bipush (v := 64) hx hb dX2_append_14 (by decide) ?_
  refine lv_topi (fun v4 e4 => ?_)
  have z4 : v4.toInt = 64 := zi_c e4 (by decide)
  refine lv_idiv hx hb dX2_append_16 (zi_ne0' (z := 64) (by omega) (by decide)) ?_
  refine lv_topi (fun v5 e5 => ?_)
  first | have z5 := zi_div (k := 64) e5 (by omega) (by omega) | skip
  refine lv_dup2_11 hx hb dX2_append_17 rfl rfl ?_
  refine va_lald hx hb hK hP 0 1 rfl rfl (zi_in (by omega)) dX2_append_18 ?_
  refine lv_topl (fun v6 e6 => ?_)
  refine lv_lconst (v := 1) hx hb dX2_append_19 (by decide) ?_
  refine lv_topl (fun v7 e7 => ?_)
  refine lv_iload_n hx hb dX2_append_20 rfl (lv_at hl 0 rfl) ?_
  refine lv_bipush (v := 64) hx hb dX2_append_21 (by decide) ?_
  refine lv_topi (fun v8 e8 => ?_)
  have z8 : v8.toInt = 64 := zi_c e8 (by decide)
  refine lv_irem hx hb dX2_append_23 (zi_ne0' (z := 64) (by omega) (by decide)) ?_
  refine lv_topi (fun v9 e9 => ?_)
  first | have z9 := zi_rem (k := 64) e9 (by omega) (by omega) | skip
  refine lv_lshl hx hb dX2_append_24 rfl ?_
  refine lv_topl (fun v10 e10 => ?_)
  refine lv_ldc2 (v := (-1)) hx hb hown (hts _ wk135) dX2_append_25 ?_
  refine lv_topl (fun v11 e11 => ?_)
  refine lv_lxor hx hb dX2_append_28 ?_
  refine lv_topl (fun v12 e12 => ?_)
  refine lv_land hx hb dX2_append_29 ?_
  refine lv_topl (fun v13 e13 => ?_)
  obtain ⟨f14, ef14⟩ : ∃ z9, z9 = vp_updL fw v5.toNatClampNeg v13 := ⟨_, rfl⟩
  refine va_last hx hb hK hP hD hS 0 1 rfl rfl (zi_in (by omega)) dX2_append_30 (fun H locs hP1 hD1 hS1 => ?_)
  rw [← ef14] at hP1 hD1
  clear hP hD hS
  have hP : va_P D classes [(aW, .inl (cJ, 142, .inr (.inl f14))), (aL, .inr (1, [.ref aW, .int fi, .int cn]))] H := hP1
  have hD : va_D A [(aW, .inl (cJ, 142, .inr (.inl f14))), (aL, .inr (1, [.ref aW, .int fi, .int cn]))] := hD1
  have hS := hS1
  clear hP1 hD1 hS1
  refine lv_aload_n hx hb dX2_append_31 rfl (lv_at hl 1 rfl) ?_
  refine va_get (D := D) (ci := 1) (v := .ref aW) (C := RX2) (T := TX2) (N := 3) hx hb hts in_X2 hown hK hP 1 rfl rfl 0 (by decide) (hts _ wk29) (fun _ h9 => h9) rfl dX2_append_32 ?_
  refine lv_iload_n hx hb dX2_append_35 rfl (lv_at hl 0 rfl) ?_
  refine lv_bipush (v := 64) hx hb dX2_append_36 (by decide) ?_
  refine lv_topi (fun v15 e15 => ?_)
  have z15 : v15.toInt = 64 := zi_c e15 (by decide)
  refine lv_idiv hx hb dX2_append_38 (zi_ne0' (z := 64) (by omega) (by decide)) ?_
  refine lv_topi (fun v16 e16 => ?_)
  first | have z16 := zi_div (k := 64) e16 (by omega) (by omega) | skip
  refine lv_dup2_11 hx hb dX2_append_39 rfl rfl ?_
  refine va_lald hx hb hK hP 0 1 rfl rfl (zi_in (by omega)) dX2_append_40 ?_
  refine lv_topl (fun v17 e17 => ?_)
  refine lv_iload_n hx hb dX2_append_41 rfl (lv_at hl 2 rfl) ?_
  refine lv_i2l hx hb dX2_append_42 rfl ?_
  refine lv_topl (fun v18 e18 => ?_)
  refine lv_iload_n hx hb dX2_append_43 rfl (lv_at hl 0 rfl) ?_
  refine lv_bipush (v := 64) hx hb dX2_append_44 (by decide) ?_
  refine lv_topi (fun v19 e19 => ?_)
  have z19 : v19.toInt = 64 := zi_c e19 (by decide)
  refine lv_irem hx hb dX2_append_46 (zi_ne0' (z := 64) (by omega) (by decide)) ?_
  refine lv_topi (fun v20 e20 => ?_)
  first | have z20 := zi_rem (k := 64) e20 (by omega) (by omega) | skip
  refine lv_lshl hx hb dX2_append_47 rfl ?_
  refine lv_topl (fun v21 e21 => ?_)
  refine lv_lor hx hb dX2_append_48 ?_
  refine lv_topl (fun v22 e22 => ?_)
  obtain ⟨f23, ef23⟩ : ∃ z9, z9 = vp_updL f14 v16.toNatClampNeg v22 := ⟨_, rfl⟩
  refine va_last hx hb hK hP hD hS 0 1 rfl rfl (zi_in (by omega)) dX2_append_49 (fun H locs hP1 hD1 hS1 => ?_)
  rw [← ef23] at hP1 hD1
  clear hP hD hS
  have hP : va_P D classes [(aW, .inl (cJ, 142, .inr (.inl f23))), (aL, .inr (1, [.ref aW, .int fi, .int cn]))] H := hP1
  have hD : va_D A [(aW, .inl (cJ, 142, .inr (.inl f23))), (aL, .inr (1, [.ref aW, .int fi, .int cn]))] := hD1
  have hS := hS1
  clear hP1 hD1 hS1
  refine lv_aload_n hx hb dX2_append_50 rfl (lv_at hl 1 rfl) ?_
  refine lv_dup hx hb dX2_append_51 rfl ?_
  refine va_get (D := D) (ci := 1) (v := .int cn) (C := RX2) (T := TX2) (N := 3) hx hb hts in_X2 hown hK hP 1 rfl rfl 2 (by decide) (hts _ wk81) (fun _ h9 => h9) rfl dX2_append_52 ?_
  refine lv_iconst (v := 1) hx hb dX2_append_55 (by decide) ?_
  refine lv_topi (fun v24 e24 => ?_)
  have z24 : v24.toInt = 1 := zi_c e24 (by decide)
  refine lv_iadd hx hb dX2_append_56 ?_
  refine lv_topi (fun v25 e25 => ?_)
  first | have z25 := zi_add e25 (by omega) | skip
  refine va_put (D := D) (ci := 1) (v := .int v25) (ty := .int) (C := RX2) (T := TX2) (N := 3) hx hb hts in_X2 tyX2 tyX2_ok nmX2 hown hK hP hD hS 1 rfl rfl 2 (by decide) (hts _ wk81) (fun _ h9 => h9) rfl (by decide +kernel) rfl rfl (Nat.le_of_ble_eq_true rfl) dX2_append_57 (fun H locs hP1 hD1 hS1 => ?_)
  clear hP hD hS
  have hP : va_P D classes [(aW, .inl (cJ, 142, .inr (.inl f23))), (aL, .inr (1, [.ref aW, .int fi, .int v25]))] H := hP1
  have hD : va_D A [(aW, .inl (cJ, 142, .inr (.inl f23))), (aL, .inr (1, [.ref aW, .int fi, .int v25]))] := hD1
  have hS := hS1
  clear hP1 hD1 hS1
  have hq26 : v25.toInt = cn.toInt + 1 ∧ ∀ j : Int, lnB f23 fi.toInt j = if (fi.toInt + j) % 9088 = (fi.toInt + cn.toInt) % 9088 then bt b 0 else lnB fw fi.toInt j := (by have x1 : v5.toNatClampNeg = r3.toInt.toNat / 64 := (by show v5.toInt.toNat = _; omega); have x2 : v16.toNatClampNeg = r3.toInt.toNat / 64 := (by show v16.toInt.toNat = _; omega); refine ⟨by omega, fun j => ?_⟩; rw [lnB_up (fw := fw) (gw := f23) (f := fi.toInt) (p := r3.toInt) (c := bt b 0) hw3.1 (fun q hq => by rw [ef23, x2, pk_uLn hq, ef14, x1, pk_uLn hq]) (fun q hq => by rw [ef23, x2, pk_uLs, up_bit (k := r3.toInt.toNat % 64) (w := fw (r3.toInt.toNat / 64)) (s := v20) (by omega) (by omega) (m := v10) (n := v12) (a := v13) (z := v21) (b := b) (by rw [e10, e7, show v9 = v20 from Int32.toInt_inj.mp (by omega)]) (by rw [e12, e11]) (by rw [e13, e6, x1]) (by rw [e21, e18]) (by rw [e22, e17, x2, ef14, x1, pk_uLs]) (by omega) hq]) j, hw3.2])
  exact hret (v25, f23) _ _ _ _ dX2_append_60 hq26 (hP.sub [1, 0] rfl) (hD.sub [1, 0] (by decide) rfl) hS

set_option maxHeartbeats 4000000 in
set_option maxRecDepth 100000 in
theorem c_Ln_dropFirst (l : Launch) (D : va_G) (cI cJ cB : ClassId) (aL : Nat) (aW : Nat) (fi : Int32) (cn : Int32) (i : Int32) (h1 : 0 ≤ fi.toInt ∧ fi.toInt < 9088) (h2 : 0 ≤ cn.toInt ∧ cn.toInt ≤ 9066) (h3 : 0 ≤ i.toInt ∧ i.toInt ≤ cn.toInt) :
    ctv l yX2_dropFirst (wsOf yX2_dropFirst cX2_dropFirst 2 none) (rmL 2 43 0 0) D classes (tys3 cI cJ cB) [.ref aL, .int i] [(aL, .inr (1, [.ref aW, .int fi, .int cn]))] (fun u : Int32 × Int32 => (0 ≤ u.1.toInt ∧ u.1.toInt < 9088) ∧ u.2.toInt = cn.toInt - i.toInt ∧ u.1.toInt = (fi.toInt + i.toInt) % 9088) (fun u : Int32 × Int32 => ([(aL, .inr (1, [.ref aW, .int u.1, .int u.2]))] : va_W)) 0 0 := by
  refine ctv.of (by first | exact plainFor_of_name (by decide) | decide +kernel) (Nat.le_of_ble_eq_true rfl) (fun p e s m args below meth c A ls Q h hret => ?_)
  obtain ⟨hx, hb, hml, hown, hts, hnm, hP, hK, hD, hA, hS, hZ, hN, hl⟩ := h
  have hown : s.vm.findClass RX2 = some m.cls := hown
  have hl : lv_has ls 2 [(0, .ref aL), (1, .int i)] := hl
  have hP : va_P D classes [(aL, .inr (1, [.ref aW, .int fi, .int cn]))] s.heap := hP
  have hD : va_D A [(aL, .inr (1, [.ref aW, .int fi, .int cn]))] := hD
  have rg_fi := zi_rg fi
  have rg_cn := zi_rg cn
  have rg_i := zi_rg i
  refine lv_aload_n hx hb dX2_dropFirst_0 rfl (lv_at hl 0 rfl) ?_
  refine lv_aload_n hx hb dX2_dropFirst_1 rfl (lv_at hl 0 rfl) ?_
  refine lv_iload_n hx hb dX2_dropFirst_2 rfl (lv_at hl 1 rfl) ?_
  have hh1 : 0 ≤ fi.toInt ∧ fi.toInt < 9088 := (by omega)
  have hh2 : 0 ≤ i.toInt ∧ i.toInt ≤ 9087 := (by omega)
  refine call_i (wc := [(aL, .inr (1, [.ref aW, .int fi, .int cn]))]) (wr := []) (run_V (As := [.int i]) (rest := [.ref aL]) kv_RX2_19 ⟨by decide, by decide⟩ ⟨rfl, rfl⟩ ⟨hx, hb, hml, hown, hts⟩ (c_Ln_ringPlace l D cI cJ cB aL aW fi cn i hh1 hh2 _) ct_blind (ct_pre (wc := [(aL, .inr (1, [.ref aW, .int fi, .int cn]))]) hK hP hD hS hA hZ hN [0] (by decide) rfl rfl) (va_recv hK hP (ci := 1) (q0 := 0) rfl rfl) rfl hl.1 rfl (Nat.le_of_ble_eq_true rfl) dX2_dropFirst_3 ⟨Nat.le_of_ble_eq_true rfl, Nat.le_of_ble_eq_true rfl⟩) hP hD hS hA [0] [] rfl rfl (by decide) (by decide) (fun r3 u H locs hw3 hP1 hD1 hS1 => ?_)
  have hw3 : (0 ≤ r3.toInt ∧ r3.toInt < 9088) ∧ r3.toInt = (fi.toInt + i.toInt) % 9088 := hw3
  clear hP hD hS
  have hP : va_P D classes [(aL, .inr (1, [.ref aW, .int fi, .int cn]))] H := hP1
  have hD : va_D A [(aL, .inr (1, [.ref aW, .int fi, .int cn]))] := hD1
  have hS := hS1
  clear hP1 hD1 hS1
  have rg_r3 := zi_rg r3
  refine va_put (D := D) (ci := 1) (v := .int r3) (ty := .int) (C := RX2) (T := TX2) (N := 3) hx hb hts in_X2 tyX2 tyX2_ok nmX2 hown hK hP hD hS 0 rfl rfl 1 (by decide) (hts _ wk140) (fun _ h9 => h9) rfl (by decide +kernel) rfl rfl (Nat.le_of_ble_eq_true rfl) dX2_dropFirst_6 (fun H locs hP1 hD1 hS1 => ?_)
  clear hP hD hS
  have hP : va_P D classes [(aL, .inr (1, [.ref aW, .int r3, .int cn]))] H := hP1
  have hD : va_D A [(aL, .inr (1, [.ref aW, .int r3, .int cn]))] := hD1
  have hS := hS1
  clear hP1 hD1 hS1
  refine lv_aload_n hx hb dX2_dropFirst_9 rfl (lv_at hl 0 rfl) ?_
  refine lv_dup hx hb dX2_dropFirst_10 rfl ?_
  refine va_get (D := D) (ci := 1) (v := .int cn) (C := RX2) (T := TX2) (N := 3) hx hb hts in_X2 hown hK hP 0 rfl rfl 2 (by decide) (hts _ wk81) (fun _ h9 => h9) rfl dX2_dropFirst_11 ?_
  refine lv_iload_n hx hb dX2_dropFirst_14 rfl (lv_at hl 1 rfl) ?_
  refine lv_isub hx hb dX2_dropFirst_15 ?_
  refine lv_topi (fun v4 e4 => ?_)
  first | have z4 := zi_sub e4 (by omega) | skip
  refine va_put (D := D) (ci := 1) (v := .int v4) (ty := .int) (C := RX2) (T := TX2) (N := 3) hx hb hts in_X2 tyX2 tyX2_ok nmX2 hown hK hP hD hS 0 rfl rfl 2 (by decide) (hts _ wk81) (fun _ h9 => h9) rfl (by decide +kernel) rfl rfl (Nat.le_of_ble_eq_true rfl) dX2_dropFirst_16 (fun H locs hP1 hD1 hS1 => ?_)
  clear hP hD hS
  have hP : va_P D classes [(aL, .inr (1, [.ref aW, .int r3, .int v4]))] H := hP1
  have hD : va_D A [(aL, .inr (1, [.ref aW, .int r3, .int v4]))] := hD1
  have hS := hS1
  clear hP1 hD1 hS1
  have hq5 : (0 ≤ r3.toInt ∧ r3.toInt < 9088) ∧ v4.toInt = cn.toInt - i.toInt ∧ r3.toInt = (fi.toInt + i.toInt) % 9088 := (by omega)
  exact hret (r3, v4) _ _ _ _ dX2_dropFirst_19 hq5 (hP.sub [0] rfl) (hD.sub [0] (by decide) rfl) hS

set_option maxHeartbeats 4000000 in
set_option maxRecDepth 100000 in
theorem c_Sc_exchange (l : Launch) (D : va_G) (cI cJ cB : ClassId) (aC : Nat) (la : Int64) (x : Int64)  :
    ctl l yX4_exchange (wsOf yX4_exchange cX4_exchange 5 (some .long)) (rmL 0 0 0 0) D classes (tys3 cI cJ cB) [.ref aC, .long x] [(aC, .inr (3, [.long la]))] (fun (r : Int64) (u : Int64) => r = la ∧ ∀ j, j < 58 → bl u j = bl x j) (fun u : Int64 => ([(aC, .inr (3, [.long u]))] : va_W)) := by
  refine ctl.of (by first | exact plainFor_of_name (by decide) | decide +kernel) (Nat.le_of_ble_eq_true rfl) (fun p e s m args below meth c A ls Q h hret => ?_)
  obtain ⟨hx, hb, hml, hown, hts, hnm, hP, hK, hD, hA, hS, hZ, hN, hl⟩ := h
  have hown : s.vm.findClass RX4 = some m.cls := hown
  have hl : lv_has ls 5 [(0, .ref aC), (1, .long x)] := hl
  have hP : va_P D classes [(aC, .inr (3, [.long la]))] s.heap := hP
  have hD : va_D A [(aC, .inr (3, [.long la]))] := hD
  refine lv_aload_n hx hb dX4_exchange_0 rfl (lv_at hl 0 rfl) ?_
  refine va_get (D := D) (ci := 3) (v := .long la) (C := RX4) (T := TX4) (N := 1) hx hb hts in_X4 hown hK hP 0 rfl rfl 0 (by decide) (hts _ wk153) (fun _ h9 => h9) rfl dX4_exchange_1 ?_
  refine lv_lstore_n (lv' := [(3, .long la), (0, .ref aC), (1, .long x)]) hx hb dX4_exchange_4 rfl hl (by decide) rfl (fun ls hl => ?_)
  refine lv_aload_n hx hb dX4_exchange_5 rfl (lv_at hl 1 rfl) ?_
  refine lv_lload_n hx hb dX4_exchange_6 rfl (lv_at hl 2 rfl) ?_
  refine lv_ldc2 (v := 288230376151711743) hx hb hown (hts _ wk158) dX4_exchange_7 ?_
  refine lv_topl (fun v1 e1 => ?_)
  refine lv_land hx hb dX4_exchange_10 ?_
  refine lv_topl (fun v2 e2 => ?_)
  refine va_put (D := D) (ci := 3) (v := .long v2) (ty := .long) (C := RX4) (T := TX4) (N := 1) hx hb hts in_X4 tyX4 tyX4_ok nmX4 hown hK hP hD hS 0 rfl rfl 0 (by decide) (hts _ wk153) (fun _ h9 => h9) rfl (by decide +kernel) rfl rfl (Nat.le_of_ble_eq_true rfl) dX4_exchange_11 (fun H locs hP1 hD1 hS1 => ?_)
  clear hP hD hS
  have hP : va_P D classes [(aC, .inr (3, [.long v2]))] H := hP1
  have hD : va_D A [(aC, .inr (3, [.long v2]))] := hD1
  have hS := hS1
  clear hP1 hD1 hS1
  refine lv_lload_n hx hb dX4_exchange_14 rfl (lv_at hl 0 rfl) ?_
  have hq3 : la = la ∧ ∀ j, j < 58 → bl v2 j = bl x j := ⟨rfl, fun j hj => by rw [e2, bl_and, e1, bl_mask j (by omega)]; simp [hj]⟩
  exact hret la v2 _ _ _ _ dX4_exchange_15 hq3 (hP.sub [0] rfl) (hD.sub [0] (by decide) rfl) hS

set_option maxHeartbeats 4000000 in
set_option maxRecDepth 100000 in
theorem c_Sc_mixed (l : Launch) (D : va_G) (cI cJ cB : ClassId) (aC : Nat) (la : Int64) (b : Int32) (h1 : 0 ≤ b.toInt ∧ b.toInt ≤ 1) :
    cti l yX4_mixed (wsOf yX4_mixed cX4_mixed 4 (some .int)) (rmL 0 0 0 0) D classes (tys3 cI cJ cB) [.ref aC, .int b] [(aC, .inr (3, [.long la]))] (fun (r : Int32) (u : Unit) => (0 ≤ r.toInt ∧ r.toInt ≤ 1) ∧ r = bi (scO (bl la) (bt b 0))) (fun u : Unit => ([(aC, .inr (3, [.long la]))] : va_W)) := by
  refine cti.of (by first | exact plainFor_of_name (by decide) | decide +kernel) (Nat.le_of_ble_eq_true rfl) (fun p e s m args below meth c A ls Q h hret => ?_)
  obtain ⟨hx, hb, hml, hown, hts, hnm, hP, hK, hD, hA, hS, hZ, hN, hl⟩ := h
  have hown : s.vm.findClass RX4 = some m.cls := hown
  have hl : lv_has ls 4 [(0, .ref aC), (1, .int b)] := hl
  have hP : va_P D classes [(aC, .inr (3, [.long la]))] s.heap := hP
  have hD : va_D A [(aC, .inr (3, [.long la]))] := hD
  have rg_b := zi_rg b
  refine lv_aload_n hx hb dX4_mixed_0 rfl (lv_at hl 0 rfl) ?_
  refine va_get (D := D) (ci := 3) (v := .long la) (C := RX4) (T := TX4) (N := 1) hx hb hts in_X4 hown hK hP 0 rfl rfl 0 (by decide) (hts _ wk153) (fun _ h9 => h9) rfl dX4_mixed_1 ?_
  refine lv_bipush (v := 38) hx hb dX4_mixed_4 (by decide) ?_
  refine lv_topi (fun v1 e1 => ?_)
  have z1 : v1.toInt = 38 := zi_c e1 (by decide)
  refine lv_lushr hx hb dX4_mixed_6 rfl ?_
  refine lv_topl (fun v2 e2 => ?_)
  refine lv_l2i hx hb dX4_mixed_7 rfl ?_
  refine lv_topi (fun v3 e3 => ?_)
  refine lv_iconst (v := 1) hx hb dX4_mixed_8 (by decide) ?_
  refine lv_topi (fun v4 e4 => ?_)
  have z4 : v4.toInt = 1 := zi_c e4 (by decide)
  refine lv_iand hx hb dX4_mixed_9 ?_
  refine lv_topi (fun v5 e5 => ?_)
  have z5 := zi_and e5 e4 1 (z := 2) (by decide) (by decide) (by decide)
  refine lv_istore_n (lv' := [(2, .int v5), (0, .ref aC), (1, .int b)]) hx hb dX4_mixed_10 rfl hl (by decide) rfl (fun ls hl => ?_)
  refine lv_aload_n hx hb dX4_mixed_11 rfl (lv_at hl 1 rfl) ?_
  refine va_get (D := D) (ci := 3) (v := .long la) (C := RX4) (T := TX4) (N := 1) hx hb hts in_X4 hown hK hP 0 rfl rfl 0 (by decide) (hts _ wk153) (fun _ h9 => h9) rfl dX4_mixed_12 ?_
  refine lv_bipush (v := 57) hx hb dX4_mixed_15 (by decide) ?_
  refine lv_topi (fun v6 e6 => ?_)
  have z6 : v6.toInt = 57 := zi_c e6 (by decide)
  refine lv_lushr hx hb dX4_mixed_17 rfl ?_
  refine lv_topl (fun v7 e7 => ?_)
  refine lv_l2i hx hb dX4_mixed_18 rfl ?_
  refine lv_topi (fun v8 e8 => ?_)
  refine lv_iconst (v := 1) hx hb dX4_mixed_19 (by decide) ?_
  refine lv_topi (fun v9 e9 => ?_)
  have z9 : v9.toInt = 1 := zi_c e9 (by decide)
  refine lv_iand hx hb dX4_mixed_20 ?_
  refine lv_topi (fun v10 e10 => ?_)
  have z10 := zi_and e10 e9 1 (z := 2) (by decide) (by decide) (by decide)
  refine lv_istore_n (lv' := [(3, .int v10), (2, .int v5), (0, .ref aC), (1, .int b)]) hx hb dX4_mixed_21 rfl hl (by decide) rfl (fun ls hl => ?_)
  refine lv_iload_n hx hb dX4_mixed_22 rfl (lv_at hl 3 rfl) ?_
  refine lv_iload_n hx hb dX4_mixed_23 rfl (lv_at hl 1 rfl) ?_
  refine lv_ixor hx hb dX4_mixed_24 ?_
  refine lv_topi (fun v11 e11 => ?_)
  refine lv_iload_n hx hb dX4_mixed_25 rfl (lv_at hl 0 rfl) ?_
  refine lv_ixor hx hb dX4_mixed_26 ?_
  refine lv_topi (fun v12 e12 => ?_)
  have hq13 : (0 ≤ v12.toInt ∧ v12.toInt ≤ 1) ∧ v12 = bi (scO (bl la) (bt b 0)) := (by have q : v12 = bi (scO (bl la) (bt b 0)) := (by rw [e12, e11, mx_bit (o := b) z1 z6 e2 e3 e5 e4 e7 e8 e10 e9 (by omega)]); rw [q]; exact ⟨bi_01 _, rfl⟩)
  exact hret v12 () _ _ _ _ dX4_mixed_27 hq13 (hP.sub [0] rfl) (hD.sub [0] (by decide) rfl) hS

set_option maxHeartbeats 4000000 in
set_option maxRecDepth 100000 in
theorem c_Sc_keep (l : Launch) (D : va_G) (cI cJ cB : ClassId) (aC : Nat) (la : Int64) (b : Int32) (h1 : 0 ≤ b.toInt ∧ b.toInt ≤ 1) :
    ctv l yX4_keep (wsOf yX4_keep cX4_keep 2 none) (rmL 0 0 0 0) D classes (tys3 cI cJ cB) [.ref aC, .int b] [(aC, .inr (3, [.long la]))] (fun u : Int64 => ∀ j, j < 58 → bl u j = scN (bl la) (bt b 0) j) (fun u : Int64 => ([(aC, .inr (3, [.long u]))] : va_W)) 0 0 := by
  refine ctv.of (by first | exact plainFor_of_name (by decide) | decide +kernel) (Nat.le_of_ble_eq_true rfl) (fun p e s m args below meth c A ls Q h hret => ?_)
  obtain ⟨hx, hb, hml, hown, hts, hnm, hP, hK, hD, hA, hS, hZ, hN, hl⟩ := h
  have hown : s.vm.findClass RX4 = some m.cls := hown
  have hl : lv_has ls 2 [(0, .ref aC), (1, .int b)] := hl
  have hP : va_P D classes [(aC, .inr (3, [.long la]))] s.heap := hP
  have hD : va_D A [(aC, .inr (3, [.long la]))] := hD
  have rg_b := zi_rg b
  refine lv_aload_n hx hb dX4_keep_0 rfl (lv_at hl 0 rfl) ?_
  refine lv_aload_n hx hb dX4_keep_1 rfl (lv_at hl 0 rfl) ?_
  refine va_get (D := D) (ci := 3) (v := .long la) (C := RX4) (T := TX4) (N := 1) hx hb hts in_X4 hown hK hP 0 rfl rfl 0 (by decide) (hts _ wk153) (fun _ h9 => h9) rfl dX4_keep_2 ?_
  refine lv_iconst (v := 1) hx hb dX4_keep_5 (by decide) ?_
  refine lv_topi (fun v1 e1 => ?_)
  have z1 : v1.toInt = 1 := zi_c e1 (by decide)
  refine lv_lshl hx hb dX4_keep_6 rfl ?_
  refine lv_topl (fun v2 e2 => ?_)
  refine lv_iload_n hx hb dX4_keep_7 rfl (lv_at hl 1 rfl) ?_
  refine lv_i2l hx hb dX4_keep_8 rfl ?_
  refine lv_topl (fun v3 e3 => ?_)
  refine lv_lor hx hb dX4_keep_9 ?_
  refine lv_topl (fun v4 e4 => ?_)
  refine lv_ldc2 (v := 288230376151711743) hx hb hown (hts _ wk158) dX4_keep_10 ?_
  refine lv_topl (fun v5 e5 => ?_)
  refine lv_land hx hb dX4_keep_13 ?_
  refine lv_topl (fun v6 e6 => ?_)
  refine va_put (D := D) (ci := 3) (v := .long v6) (ty := .long) (C := RX4) (T := TX4) (N := 1) hx hb hts in_X4 tyX4 tyX4_ok nmX4 hown hK hP hD hS 0 rfl rfl 0 (by decide) (hts _ wk153) (fun _ h9 => h9) rfl (by decide +kernel) rfl rfl (Nat.le_of_ble_eq_true rfl) dX4_keep_14 (fun H locs hP1 hD1 hS1 => ?_)
  clear hP hD hS
  have hP : va_P D classes [(aC, .inr (3, [.long v6]))] H := hP1
  have hD : va_D A [(aC, .inr (3, [.long v6]))] := hD1
  have hS := hS1
  clear hP1 hD1 hS1
  have hq7 : ∀ j, j < 58 → bl v6 j = scN (bl la) (bt b 0) j := (fun j hj => kp_bit z1 e2 e3 e4 (by rw [e6, e5]) (by omega) hj)
  exact hret v6 _ _ _ _ dX4_keep_17 hq7 (hP.sub [0] rfl) (hD.sub [0] (by decide) rfl) hS

set_option maxHeartbeats 4000000 in
set_option maxRecDepth 100000 in
theorem c_Sc_scramble (l : Launch) (D : va_G) (cI cJ cB : ClassId) (aC : Nat) (la : Int64) (b : Int32) (h1 : 0 ≤ b.toInt ∧ b.toInt ≤ 1) :
    cti l yX4_scramble (wsOf yX4_scramble cX4_scramble 3 (some .int)) (rmL 1 23 0 0) D classes (tys3 cI cJ cB) [.ref aC, .int b] [(aC, .inr (3, [.long la]))] (fun (r : Int32) (u : Int64) => (0 ≤ r.toInt ∧ r.toInt ≤ 1) ∧ r = bi (scO (bl la) (bt b 0)) ∧ ∀ j, j < 58 → bl u j = scN (bl la) (scO (bl la) (bt b 0)) j) (fun u : Int64 => ([(aC, .inr (3, [.long u]))] : va_W)) := by
  refine cti.of (by first | exact plainFor_of_name (by decide) | decide +kernel) (Nat.le_of_ble_eq_true rfl) (fun p e s m args below meth c A ls Q h hret => ?_)
  obtain ⟨hx, hb, hml, hown, hts, hnm, hP, hK, hD, hA, hS, hZ, hN, hl⟩ := h
  have hown : s.vm.findClass RX4 = some m.cls := hown
  have hl : lv_has ls 3 [(0, .ref aC), (1, .int b)] := hl
  have hP : va_P D classes [(aC, .inr (3, [.long la]))] s.heap := hP
  have hD : va_D A [(aC, .inr (3, [.long la]))] := hD
  have rg_b := zi_rg b
  refine lv_aload_n hx hb dX4_scramble_0 rfl (lv_at hl 0 rfl) ?_
  refine lv_iload_n hx hb dX4_scramble_1 rfl (lv_at hl 1 rfl) ?_
  have hh1 : 0 ≤ b.toInt ∧ b.toInt ≤ 1 := (by omega)
  refine call_i (wc := [(aC, .inr (3, [.long la]))]) (wr := []) (run_V (As := [.int b]) (rest := []) kv_RX4_15 ⟨by decide, by decide⟩ ⟨rfl, rfl⟩ ⟨hx, hb, hml, hown, hts⟩ (c_Sc_mixed l D cI cJ cB aC la b hh1 _) ct_blind (ct_pre (wc := [(aC, .inr (3, [.long la]))]) hK hP hD hS hA hZ hN [0] (by decide) rfl rfl) (va_recv hK hP (ci := 3) (q0 := 0) rfl rfl) rfl hl.1 rfl (Nat.le_of_ble_eq_true rfl) dX4_scramble_2 ⟨Nat.le_of_ble_eq_true rfl, Nat.le_of_ble_eq_true rfl⟩) hP hD hS hA [0] [] rfl rfl (by decide) (by decide) (fun r2 u H locs hw2 hP1 hD1 hS1 => ?_)
  have hw2 : (0 ≤ r2.toInt ∧ r2.toInt ≤ 1) ∧ r2 = bi (scO (bl la) (bt b 0)) := hw2
  clear hP hD hS
  have hP : va_P D classes [(aC, .inr (3, [.long la]))] H := hP1
  have hD : va_D A [(aC, .inr (3, [.long la]))] := hD1
  have hS := hS1
  clear hP1 hD1 hS1
  have rg_r2 := zi_rg r2
  refine lv_istore_n (lv' := [(2, .int r2), (0, .ref aC), (1, .int b)]) hx hb dX4_scramble_5 rfl hl (by decide) rfl (fun ls hl => ?_)
  refine lv_aload_n hx hb dX4_scramble_6 rfl (lv_at hl 1 rfl) ?_
  refine lv_iload_n hx hb dX4_scramble_7 rfl (lv_at hl 0 rfl) ?_
  have hh3 : 0 ≤ r2.toInt ∧ r2.toInt ≤ 1 := (by omega)
  refine call_v (wc := [(aC, .inr (3, [.long la]))]) (wr := []) (run_V (As := [.int r2]) (rest := []) kv_RX4_19 ⟨by decide, by decide⟩ ⟨rfl, rfl⟩ ⟨hx, hb, hml, hown, hts⟩ (c_Sc_keep l D cI cJ cB aC la r2 hh3 _) ct_blind (ct_pre (wc := [(aC, .inr (3, [.long la]))]) hK hP hD hS hA hZ hN [0] (by decide) rfl rfl) (va_recv hK hP (ci := 3) (q0 := 0) rfl rfl) rfl hl.1 rfl (Nat.le_of_ble_eq_true rfl) dX4_scramble_8 ⟨Nat.le_of_ble_eq_true rfl, Nat.le_of_ble_eq_true rfl⟩) hP hD hS hA [0] [] rfl rfl (by decide) (by decide) (fun u H locs hw4 hP1 hD1 hS1 => ?_)
  obtain ⟨la2_4, hu9⟩ : ∃ z, z = u := ⟨_, rfl⟩
  subst hu9
  have hw4 : ∀ j, j < 58 → bl la2_4 j = scN (bl la) (bt r2 0) j := hw4
  clear hP hD hS
  have hP : va_P D classes [(aC, .inr (3, [.long la2_4]))] H := hP1
  have hD : va_D A [(aC, .inr (3, [.long la2_4]))] := hD1
  have hS := hS1
  clear hP1 hD1 hS1
  refine lv_iload_n hx hb dX4_scramble_11 rfl (lv_at hl 0 rfl) ?_
  have hq5 : (0 ≤ r2.toInt ∧ r2.toInt ≤ 1) ∧ r2 = bi (scO (bl la) (bt b 0)) ∧ ∀ j, j < 58 → bl la2_4 j = scN (bl la) (scO (bl la) (bt b 0)) j := ⟨hw2.1, hw2.2, fun j hj => by rw [hw4 j hj, hw2.2, bi_t0]⟩
  exact hret r2 la2_4 _ _ _ _ dX4_scramble_12 hq5 (hP.sub [0] rfl) (hD.sub [0] (by decide) rfl) hS

set_option maxHeartbeats 4000000 in
set_option maxRecDepth 100000 in
theorem c_Sc_unscramble (l : Launch) (D : va_G) (cI cJ cB : ClassId) (aC : Nat) (la : Int64) (b : Int32) (h1 : 0 ≤ b.toInt ∧ b.toInt ≤ 1) :
    cti l yX4_unscramble (wsOf yX4_unscramble cX4_unscramble 3 (some .int)) (rmL 1 23 0 0) D classes (tys3 cI cJ cB) [.ref aC, .int b] [(aC, .inr (3, [.long la]))] (fun (r : Int32) (u : Int64) => True) (fun u : Int64 => ([(aC, .inr (3, [.long u]))] : va_W)) := by
  refine cti.of (by first | exact plainFor_of_name (by decide) | decide +kernel) (Nat.le_of_ble_eq_true rfl) (fun p e s m args below meth c A ls Q h hret => ?_)
  obtain ⟨hx, hb, hml, hown, hts, hnm, hP, hK, hD, hA, hS, hZ, hN, hl⟩ := h
  have hown : s.vm.findClass RX4 = some m.cls := hown
  have hl : lv_has ls 3 [(0, .ref aC), (1, .int b)] := hl
  have hP : va_P D classes [(aC, .inr (3, [.long la]))] s.heap := hP
  have hD : va_D A [(aC, .inr (3, [.long la]))] := hD
  have rg_b := zi_rg b
  refine lv_aload_n hx hb dX4_unscramble_0 rfl (lv_at hl 0 rfl) ?_
  refine lv_iload_n hx hb dX4_unscramble_1 rfl (lv_at hl 1 rfl) ?_
  have hh1 : 0 ≤ b.toInt ∧ b.toInt ≤ 1 := (by omega)
  refine call_i (wc := [(aC, .inr (3, [.long la]))]) (wr := []) (run_V (As := [.int b]) (rest := []) kv_RX4_15 ⟨by decide, by decide⟩ ⟨rfl, rfl⟩ ⟨hx, hb, hml, hown, hts⟩ (c_Sc_mixed l D cI cJ cB aC la b hh1 _) ct_blind (ct_pre (wc := [(aC, .inr (3, [.long la]))]) hK hP hD hS hA hZ hN [0] (by decide) rfl rfl) (va_recv hK hP (ci := 3) (q0 := 0) rfl rfl) rfl hl.1 rfl (Nat.le_of_ble_eq_true rfl) dX4_unscramble_2 ⟨Nat.le_of_ble_eq_true rfl, Nat.le_of_ble_eq_true rfl⟩) hP hD hS hA [0] [] rfl rfl (by decide) (by decide) (fun r2 u H locs hw2 hP1 hD1 hS1 => ?_)
  have hw2 : (0 ≤ r2.toInt ∧ r2.toInt ≤ 1) ∧ r2 = bi (scO (bl la) (bt b 0)) := hw2
  clear hP hD hS
  have hP : va_P D classes [(aC, .inr (3, [.long la]))] H := hP1
  have hD : va_D A [(aC, .inr (3, [.long la]))] := hD1
  have hS := hS1
  clear hP1 hD1 hS1
  have rg_r2 := zi_rg r2
  refine lv_istore_n (lv' := [(2, .int r2), (0, .ref aC), (1, .int b)]) hx hb dX4_unscramble_5 rfl hl (by decide) rfl (fun ls hl => ?_)
  refine lv_aload_n hx hb dX4_unscramble_6 rfl (lv_at hl 1 rfl) ?_
  refine lv_iload_n hx hb dX4_unscramble_7 rfl (lv_at hl 2 rfl) ?_
  have hh3 : 0 ≤ b.toInt ∧ b.toInt ≤ 1 := (by omega)
  refine call_v (wc := [(aC, .inr (3, [.long la]))]) (wr := []) (run_V (As := [.int b]) (rest := []) kv_RX4_19 ⟨by decide, by decide⟩ ⟨rfl, rfl⟩ ⟨hx, hb, hml, hown, hts⟩ (c_Sc_keep l D cI cJ cB aC la b hh3 _) ct_blind (ct_pre (wc := [(aC, .inr (3, [.long la]))]) hK hP hD hS hA hZ hN [0] (by decide) rfl rfl) (va_recv hK hP (ci := 3) (q0 := 0) rfl rfl) rfl hl.1 rfl (Nat.le_of_ble_eq_true rfl) dX4_unscramble_8 ⟨Nat.le_of_ble_eq_true rfl, Nat.le_of_ble_eq_true rfl⟩) hP hD hS hA [0] [] rfl rfl (by decide) (by decide) (fun u H locs hw4 hP1 hD1 hS1 => ?_)
  obtain ⟨la2_4, hu9⟩ : ∃ z, z = u := ⟨_, rfl⟩
  subst hu9
  have hw4 : ∀ j, j < 58 → bl la2_4 j = scN (bl la) (bt b 0) j := hw4
  clear hP hD hS
  have hP : va_P D classes [(aC, .inr (3, [.long la2_4]))] H := hP1
  have hD : va_D A [(aC, .inr (3, [.long la2_4]))] := hD1
  have hS := hS1
  clear hP1 hD1 hS1
  refine lv_iload_n hx hb dX4_unscramble_11 rfl (lv_at hl 0 rfl) ?_
  exact hret r2 la2_4 _ _ _ _ dX4_unscramble_12 trivial (hP.sub [0] rfl) (hD.sub [0] (by decide) rfl) hS

set_option maxHeartbeats 4000000 in
set_option maxRecDepth 100000 in
theorem c_Sc_init (l : Launch) (D : va_G) (cI cJ cB : ClassId) (aC : Nat)  :
    ctv l yX4_init (wsOf yX4_init cX4_init 1 none) (rmL 1 24 0 0) D classes (tys3 cI cJ cB) [.ref aC] [(aC, .inr (3, [.long 0]))] (fun u : Unit => True) (fun u : Unit => ([(aC, .inr (3, [.long 0]))] : va_W)) 0 0 := by
  refine ctv.of (by first | exact plainFor_of_name (by decide) | decide +kernel) (Nat.le_of_ble_eq_true rfl) (fun p e s m args below meth c A ls Q h hret => ?_)
  obtain ⟨hx, hb, hml, hown, hts, hnm, hP, hK, hD, hA, hS, hZ, hN, hl⟩ := h
  have hown : s.vm.findClass RX4 = some m.cls := hown
  have hl : lv_has ls 1 [(0, .ref aC)] := hl
  have hP : va_P D classes [(aC, .inr (3, [.long 0]))] s.heap := hP
  have hD : va_D A [(aC, .inr (3, [.long 0]))] := hD
  refine lv_aload_n hx hb dX4_init_0 rfl (lv_at hl 0 rfl) ?_
  refine W.objInit hx hb hown (hts _ wk41) (hts _ wk11) (hts _ wk12) rfl (by rw [hml]; exact hl.1) rfl dX4_init_1 (Nat.le_of_ble_eq_true rfl) (Nat.le_of_ble_eq_true rfl) ?_
  refine W.eq (g2 := F0 m 4 ls []) rfl ?_
  exact hret () _ _ _ _ dX4_init_4 trivial (hP.sub [0] rfl) (hD.sub [0] (by decide) rfl) hS

set_option maxHeartbeats 4000000 in
set_option maxRecDepth 100000 in
theorem c_Ln_init (l : Launch) (D : va_G) (cI cJ cB : ClassId) (aL : Nat)  :
    ctv l yX2_init (wsOf yX2_init cX2_init 1 none) (rmL 1 24 1 142) D classes (tys3 cI cJ cB) [.ref aL] [(aL, .inr (1, [.null, .int 0, .int 0]))] (fun u : Nat => True) (fun u : Nat => ([(aL, .inr (1, [.ref u, .int 0, .int 0])), (u, .inl (cJ, 142, .inr (.inl (fun _ => 0))))] : va_W)) 1 142 := by
  refine ctv.of (by first | exact plainFor_of_name (by decide) | decide +kernel) (Nat.le_of_ble_eq_true rfl) (fun p e s m args below meth c A ls Q h hret => ?_)
  obtain ⟨hx, hb, hml, hown, hts, hnm, hP, hK, hD, hA, hS, hZ, hN, hl⟩ := h
  have hown : s.vm.findClass RX2 = some m.cls := hown
  have hl : lv_has ls 1 [(0, .ref aL)] := hl
  have hP : va_P D classes [(aL, .inr (1, [.null, .int 0, .int 0]))] s.heap := hP
  have hD : va_D A [(aL, .inr (1, [.null, .int 0, .int 0]))] := hD
  refine lv_aload_n hx hb dX2_init_0 rfl (lv_at hl 0 rfl) ?_
  refine W.objInit hx hb hown (hts _ wk27) (hts _ wk11) (hts _ wk12) rfl (by rw [hml]; exact hl.1) rfl dX2_init_1 (Nat.le_of_ble_eq_true rfl) (Nat.le_of_ble_eq_true rfl) ?_
  refine W.eq (g2 := F0 m 4 ls []) rfl ?_
  refine lv_aload_n hx hb dX2_init_4 rfl (lv_at hl 0 rfl) ?_
  refine lv_sipush (v := 142) hx hb dX2_init_5 (by decide) ?_
  refine lv_topi (fun v1 e1 => ?_)
  have z1 : v1.toInt = 142 := zi_c e1 (by decide)
  refine va_newa (a0 := (142, .inr (.inl (fun _ => 0)))) (atype := .long) (ty := .long) hx hb (hts _ wk28) rfl hK hP hD hS hA (fun _ => rfl) (by rw [e1]; decide) (by rw [e1]; decide) (by decide) (Nat.le_of_ble_eq_true rfl) (Nat.le_of_ble_eq_true rfl) dX2_init_8 (fun q2 cN H hK9 hP1 hD1 hS1 => ?_)
  have hcN : cN = cJ := ty3_eq 1 3 hK9 rfl rfl rfl rfl
  rw [hcN] at hP1 hD1
  clear hK9
  clear hP hD hS
  have hP : va_P D classes [(aL, .inr (1, [.null, .int 0, .int 0])), (q2, .inl (cJ, 142, .inr (.inl (fun _ => 0))))] H := hP1
  have hD : va_D A [(aL, .inr (1, [.null, .int 0, .int 0])), (q2, .inl (cJ, 142, .inr (.inl (fun _ => 0))))] := hD1
  have hS := hS1
  clear hP1 hD1 hS1
  refine W.widen (k := 1) (n := 142) (Nat.le_refl _) (Nat.le_refl _) ?_
  refine va_putF (D := D) (ci := 1) (v := .ref q2) (ty := (.array .long)) (C := RX2) (T := TX2) (N := 3) hx hb hts in_X2 tyX2 tyX2_ok nmX2 hown hK hP hD hS 0 rfl rfl 0 (by decide) (hts _ wk29) (fun _ h9 => h9) rfl hnm rfl (by decide +kernel) rfl rfl (Nat.le_of_ble_eq_true rfl) dX2_init_10 (fun H locs hP1 hD1 hS1 => ?_)
  clear hP hD hS
  have hP : va_P D classes [(aL, .inr (1, [.ref q2, .int 0, .int 0])), (q2, .inl (cJ, 142, .inr (.inl (fun _ => 0))))] H := hP1
  have hD : va_D A [(aL, .inr (1, [.ref q2, .int 0, .int 0])), (q2, .inl (cJ, 142, .inr (.inl (fun _ => 0))))] := hD1
  have hS := hS1
  clear hP1 hD1 hS1
  exact hret q2 _ _ _ _ dX2_init_13 trivial (hP.sub [0, 1] rfl) (hD.sub [0, 1] (by decide) rfl) hS
end
section
set_option maxHeartbeats 4000000 in
set_option maxRecDepth 100000 in
theorem c_Co_isData (l : Launch) (D : va_G) (cI cJ cB : ClassId) (x : Int32)  :
    cti l yX0_isData (wsOf yX0_isData cX0_isData 1 (some .boolean)) (rmL 0 0 0 0) D classes (tys3 cI cJ cB) [.int x] [] (fun (r : Int32) (u : Unit) => (r.toInt = 1 ∧ x.toInt < 256) ∨ (r.toInt = 0 ∧ 256 ≤ x.toInt)) (fun u : Unit => ([] : va_W)) := by
  refine ctz.of (by first | exact plainFor_of_name (by decide) | decide +kernel) (Nat.le_of_ble_eq_true rfl) (fun p e s m args below meth c A ls Q h hret => ?_)
  obtain ⟨hx, hb, hml, hown, hts, hnm, hP, hK, hD, hA, hS, hZ, hN, hl⟩ := h
  have hown : s.vm.findClass RX0 = some m.cls := hown
  have hl : lv_has ls 1 [(0, .int x)] := hl
  have hP : va_P D classes [] s.heap := hP
  have hD : va_D A [] := hD
  have rg_x := zi_rg x
  refine lv_iload_n hx hb dX0_isData_0 rfl (lv_at hl 0 rfl) ?_
  refine lv_sipush (v := 256) hx hb dX0_isData_1 (by decide) ?_
  refine lv_topi (fun v1 e1 => ?_)
  have z1 : v1.toInt = 256 := zi_c e1 (by decide)
  refine lv_icmp_ge (tgt := 11) hx hb dX0_isData_4 (by decide) (fun c2 => ?_) (fun c2 => ?_)
  ·
    have z2 := zi_le c2
    refine lv_iconst (v := 0) hx hb dX0_isData_11 (by decide) ?_
    refine lv_topi (fun v3 e3 => ?_)
    have z3 : v3.toInt = 0 := zi_c e3 (by decide)
    have hq4 : (v3.toInt = 1 ∧ x.toInt < 256) ∨ (v3.toInt = 0 ∧ 256 ≤ x.toInt) := (by omega)
    exact hret v3 () _ _ _ _ dX0_isData_12 (zb_n (by omega)) hq4 (hP.sub [] rfl) (hD.sub [] (by decide) rfl) hS
  ·
    have z2 := zi_nle c2
    refine lv_iconst (v := 1) hx hb dX0_isData_7 (by decide) ?_
    refine lv_topi (fun v5 e5 => ?_)
    have z5 : v5.toInt = 1 := zi_c e5 (by decide)
    refine lv_goto (tgt := 12) hx hb dX0_isData_8 (by decide) ?_
    have hq6 : (v5.toInt = 1 ∧ x.toInt < 256) ∨ (v5.toInt = 0 ∧ 256 ≤ x.toInt) := (by omega)
    exact hret v5 () _ _ _ _ dX0_isData_12 (zb_n (by omega)) hq6 (hP.sub [] rfl) (hD.sub [] (by decide) rfl) hS

set_option maxHeartbeats 4000000 in
set_option maxRecDepth 100000 in
theorem c_Co_codeShift (l : Launch) (D : va_G) (cI cJ cB : ClassId) (x : Int32) (h1 : 0 ≤ x.toInt ∧ x.toInt < 8) :
    cti l yX0_codeShift (wsOf yX0_codeShift cX0_codeShift 1 (some .int)) (rmL 0 0 0 0) D classes (tys3 cI cJ cB) [.int x] [] (fun (r : Int32) (u : Unit) => r.toInt = 8 + 7 * x.toInt) (fun u : Unit => ([] : va_W)) := by
  refine cti.of (by first | exact plainFor_of_name (by decide) | decide +kernel) (Nat.le_of_ble_eq_true rfl) (fun p e s m args below meth c A ls Q h hret => ?_)
  obtain ⟨hx, hb, hml, hown, hts, hnm, hP, hK, hD, hA, hS, hZ, hN, hl⟩ := h
  have hown : s.vm.findClass RX0 = some m.cls := hown
  have hl : lv_has ls 1 [(0, .int x)] := hl
  have hP : va_P D classes [] s.heap := hP
  have hD : va_D A [] := hD
  have rg_x := zi_rg x
  refine lv_bipush (v := 8) hx hb dX0_codeShift_0 (by decide) ?_
  refine lv_topi (fun v1 e1 => ?_)
  have z1 : v1.toInt = 8 := zi_c e1 (by decide)
  refine lv_iload_n hx hb dX0_codeShift_2 rfl (lv_at hl 0 rfl) ?_
  refine lv_bipush (v := 7) hx hb dX0_codeShift_3 (by decide) ?_
  refine lv_topi (fun v2 e2 => ?_)
  have z2 : v2.toInt = 7 := zi_c e2 (by decide)
  refine lv_imul hx hb dX0_codeShift_5 ?_
  refine lv_topi (fun v3 e3 => ?_)
  first | have z3 := zi_mul (k := 7) e3 (by omega) (by omega) | skip
  refine lv_iadd hx hb dX0_codeShift_6 ?_
  refine lv_topi (fun v4 e4 => ?_)
  first | have z4 := zi_add e4 (by omega) | skip
  have hq5 : v4.toInt = 8 + 7 * x.toInt := (by omega)
  exact hret v4 () _ _ _ _ dX0_codeShift_7 hq5 (hP.sub [] rfl) (hD.sub [] (by decide) rfl) hS

set_option maxHeartbeats 4000000 in
set_option maxRecDepth 100000 in
theorem c_Co_endPlace (l : Launch) (D : va_G) (cI cJ cB : ClassId) (ty : Int32)  :
    cti l yX0_endPlace (wsOf yX0_endPlace cX0_endPlace 2 (some .int)) (rmL 0 0 0 0) D classes (tys3 cI cJ cB) [.int ty] [] (fun (r : Int32) (u : Unit) => (r.toInt = -1 ∧ ∀ d, d < 8 → ¬ ty = st_k d) ∨ ((0 ≤ r.toInt ∧ r.toInt < 8) ∧ ty = st_k r.toInt.toNat)) (fun u : Unit => ([] : va_W)) := by
  refine cti.of (by first | exact plainFor_of_name (by decide) | decide +kernel) (Nat.le_of_ble_eq_true rfl) (fun p e s m args below meth c A ls Q h hret => ?_)
  obtain ⟨hx, hb, hml, hown, hts, hnm, hP, hK, hD, hA, hS, hZ, hN, hl⟩ := h
  have hown : s.vm.findClass RX0 = some m.cls := hown
  have hl : lv_has ls 2 [(0, .int ty)] := hl
  obtain ⟨tE, hZ1, hT1⟩ := id hZ
  have hP : va_P D classes [] s.heap := hP
  have hD : va_D A [] := hD
  have rg_ty := zi_rg ty
  refine lv_iconst (v := 0) hx hb dX0_endPlace_0 (by decide) ?_
  refine lv_topi (fun v1 e1 => ?_)
  have z1 : v1.toInt = 0 := zi_c e1 (by decide)
  refine lv_istore_n (lv' := [(1, .int v1), (0, .int ty)]) hx hb dX0_endPlace_1 rfl hl (by decide) rfl (fun ls hl => ?_)
  have J2 : ∀ (n : Nat) (k : Int32) (H : Heap) (locs : List Loc) (ls : Array Slot), ((8 - k.toInt).toNat) < n → (0 ≤ k.toInt ∧ k.toInt ≤ 8) → (∀ d, d < k.toInt.toNat → ¬ ty = st_k d) → va_P D classes [] H → va_D A [] → va_S A s.heap H locs → lv_has ls 2 [(0, .int ty), (1, .int k)] → W p l e (rmL 0 0 0 0) s m args below meth c H locs 0 0 Q (F0 m 2 ls []) := by
    intro n
    induction n with
    | zero => intro k H locs ls hmu; exact absurd hmu (Nat.not_lt_zero _)
    | succ n ih2 =>
      intro k H locs ls hmu2 i2_0 i2_1 hP hD hS hl
      have rg_k := zi_rg k
      refine lv_iload_n hx hb dX0_endPlace_2 rfl (lv_at hl 1 rfl) ?_
      refine va_gets hx hb hZ1 hS hown (hts _ wk94) (fun _ h9 => h9) dX0_endPlace_3 ?_
      refine va_tlen hx hb hT1 hS (v := 8) rfl dX0_endPlace_6 ?_
      refine lv_topi (fun v2 e2 => ?_)
      have z2 : v2.toInt = 8 := zi_c e2 (by decide)
      refine lv_icmp_ge (tgt := 27) hx hb dX0_endPlace_7 (by decide) (fun c3 => ?_) (fun c3 => ?_)
      ·
        have z3 := zi_le c3
        refine lv_iconst (v := -1) hx hb dX0_endPlace_27 (by decide) ?_
        refine lv_topi (fun v4 e4 => ?_)
        have z4 : v4.toInt = (-1) := zi_c e4 (by decide)
        have hq5 : (v4.toInt = -1 ∧ ∀ d, d < 8 → ¬ ty = st_k d) ∨ ((0 ≤ v4.toInt ∧ v4.toInt < 8) ∧ ty = st_k v4.toInt.toNat) := (Or.inl ⟨z4, fun d hd => i2_1 d (by omega)⟩)
        exact hret v4 () _ _ _ _ dX0_endPlace_28 hq5 (hP.sub [] rfl) (hD.sub [] (by decide) rfl) hS
      ·
        have z3 := zi_nle c3
        refine va_gets hx hb hZ1 hS hown (hts _ wk94) (fun _ h9 => h9) dX0_endPlace_10 ?_
        refine lv_iload_n hx hb dX0_endPlace_13 rfl (lv_at hl 1 rfl) ?_
        refine va_ti hx hb hT1 hS (zi_in (by omega)) rfl dX0_endPlace_14 ?_
        refine lv_topi (fun v6 e6 => ?_)
        refine lv_iload_n hx hb dX0_endPlace_15 rfl (lv_at hl 0 rfl) ?_
        refine lv_icmp_ne (tgt := 21) hx hb dX0_endPlace_16 (by decide) (fun c7 => ?_) (fun c7 => ?_)
        ·
          have z7 := zi_ne c7
          obtain ⟨v8, e8⟩ : ∃ y : Int32, y = k + 1 := ⟨_, rfl⟩
          first | have z8 := zi_inc (z := 1) 1 (by decide) e8 (by omega) | skip
          refine lv_iinc (v := v8) (lv' := [(1, .int v8), (0, .int ty)]) hx hb dX0_endPlace_21 hl (k := 1) rfl (by rw [e8]; rfl) (by decide) rfl (fun ls hl => ?_)
          refine lv_goto (tgt := 2) hx hb dX0_endPlace_24 (by decide) ?_
          exact ih2 v8 _ _ _ (by omega) (by omega) (fun d hd => by rcases (show d < k.toInt.toNat ∨ d = k.toInt.toNat by omega) with g | g; (· exact i2_1 d g); (· rw [g, show st_k k.toInt.toNat = v6 from e6.symm]; exact fun q => c7 q.symm)) (hP.sub [] rfl) (hD.sub [] (by decide) rfl) hS (lv_sub hl [1, 0] rfl)
        ·
          have z7 := zi_eq c7
          refine lv_iload_n hx hb dX0_endPlace_19 rfl (lv_at hl 1 rfl) ?_
          have hq9 : (k.toInt = -1 ∧ ∀ d, d < 8 → ¬ ty = st_k d) ∨ ((0 ≤ k.toInt ∧ k.toInt < 8) ∧ ty = st_k k.toInt.toNat) := (Or.inr ⟨by omega, by rw [← c7]; exact e6⟩)
          exact hret k () _ _ _ _ dX0_endPlace_20 hq9 (hP.sub [] rfl) (hD.sub [] (by decide) rfl) hS
  exact J2 _ v1 _ _ _ (Nat.lt_succ_self _) (by omega) (fun d hd => absurd hd (by omega)) (hP.sub [] rfl) (hD.sub [] (by decide) rfl) hS (lv_sub hl [1, 0] rfl)

set_option maxHeartbeats 4000000 in
set_option maxRecDepth 100000 in
theorem c_Co_dataShift (l : Launch) (D : va_G) (cI cJ cB : ClassId) (ty : Int32) (x : Int32) (h1 : 0 ≤ x.toInt ∧ x.toInt < 8) :
    cti l yX0_dataShift (wsOf yX0_dataShift cX0_dataShift 2 (some .int)) (rmL 1 21 0 0) D classes (tys3 cI cJ cB) [.int ty, .int x] [] (fun (r : Int32) (u : Unit) => (¬ eT ty → r.toInt = 8 * x.toInt) ∧ (eT ty → r.toInt = 8 + 8 * x.toInt)) (fun u : Unit => ([] : va_W)) := by
  refine cti.of (by first | exact plainFor_of_name (by decide) | decide +kernel) (Nat.le_of_ble_eq_true rfl) (fun p e s m args below meth c A ls Q h hret => ?_)
  obtain ⟨hx, hb, hml, hown, hts, hnm, hP, hK, hD, hA, hS, hZ, hN, hl⟩ := h
  have hown : s.vm.findClass RX0 = some m.cls := hown
  have hl : lv_has ls 2 [(0, .int ty), (1, .int x)] := hl
  have hP : va_P D classes [] s.heap := hP
  have hD : va_D A [] := hD
  have rg_ty := zi_rg ty
  have rg_x := zi_rg x
  refine lv_iload_n hx hb dX0_dataShift_0 rfl (lv_at hl 0 rfl) ?_
  refine call_i (wc := []) (wr := []) (run_S (As := [.int ty]) (rest := []) ks_RX0_31 ⟨by decide, by decide⟩ ⟨rfl, rfl⟩ ⟨hx, hb, hml, hown, hts⟩ (c_Co_endPlace l D cI cJ cB ty  _) ct_blind (ct_pre (wc := []) hK hP hD hS hA hZ hN [] (by decide) rfl rfl) rfl hl.1 rfl (Nat.le_of_ble_eq_true rfl) dX0_dataShift_1 ⟨Nat.le_of_ble_eq_true rfl, Nat.le_of_ble_eq_true rfl⟩) hP hD hS hA [] [] rfl rfl (by decide) (by decide) (fun r1 u H locs hw1 hP1 hD1 hS1 => ?_)
  have hw1 : (r1.toInt = -1 ∧ ∀ d, d < 8 → ¬ ty = st_k d) ∨ ((0 ≤ r1.toInt ∧ r1.toInt < 8) ∧ ty = st_k r1.toInt.toNat) := hw1
  clear hP hD hS
  have hP : va_P D classes [] H := hP1
  have hD : va_D A [] := hD1
  have hS := hS1
  clear hP1 hD1 hS1
  have rg_r1 := zi_rg r1
  refine lv_iconst (v := -1) hx hb dX0_dataShift_4 (by decide) ?_
  refine lv_topi (fun v2 e2 => ?_)
  have z2 : v2.toInt = (-1) := zi_c e2 (by decide)
  refine lv_icmp_ne (tgt := 15) hx hb dX0_dataShift_5 (by decide) (fun c3 => ?_) (fun c3 => ?_)
  ·
    have z3 := zi_ne c3
    refine lv_bipush (v := 8) hx hb dX0_dataShift_15 (by decide) ?_
    refine lv_topi (fun v4 e4 => ?_)
    have z4 : v4.toInt = 8 := zi_c e4 (by decide)
    refine lv_iload_n hx hb dX0_dataShift_17 rfl (lv_at hl 1 rfl) ?_
    refine lv_bipush (v := 8) hx hb dX0_dataShift_18 (by decide) ?_
    refine lv_topi (fun v5 e5 => ?_)
    have z5 : v5.toInt = 8 := zi_c e5 (by decide)
    refine lv_imul hx hb dX0_dataShift_20 ?_
    refine lv_topi (fun v6 e6 => ?_)
    first | have z6 := zi_mul (k := 8) e6 (by omega) (by omega) | skip
    refine lv_iadd hx hb dX0_dataShift_21 ?_
    refine lv_topi (fun v7 e7 => ?_)
    first | have z7 := zi_add e7 (by omega) | skip
    have hq8 : (¬ eT ty → v7.toInt = 8 * x.toInt) ∧ (eT ty → v7.toInt = 8 + 8 * x.toInt) := (by refine ⟨fun q => ?_, fun q => ?_⟩ <;> (rcases hw1 with g | g) <;> first | omega | exact absurd (show eT ty from ⟨_, by omega, g.2⟩) q | (obtain ⟨d, hd, hq⟩ := q; exact absurd hq (g.2 d hd)) | (exfalso; omega))
    exact hret v7 () _ _ _ _ dX0_dataShift_22 hq8 (hP.sub [] rfl) (hD.sub [] (by decide) rfl) hS
  ·
    have z3 := zi_eq c3
    refine lv_iload_n hx hb dX0_dataShift_8 rfl (lv_at hl 1 rfl) ?_
    refine lv_bipush (v := 8) hx hb dX0_dataShift_9 (by decide) ?_
    refine lv_topi (fun v9 e9 => ?_)
    have z9 : v9.toInt = 8 := zi_c e9 (by decide)
    refine lv_imul hx hb dX0_dataShift_11 ?_
    refine lv_topi (fun v10 e10 => ?_)
    first | have z10 := zi_mul (k := 8) e10 (by omega) (by omega) | skip
    refine lv_goto (tgt := 22) hx hb dX0_dataShift_12 (by decide) ?_
    have hq11 : (¬ eT ty → v10.toInt = 8 * x.toInt) ∧ (eT ty → v10.toInt = 8 + 8 * x.toInt) := (by refine ⟨fun q => ?_, fun q => ?_⟩ <;> (rcases hw1 with g | g) <;> first | omega | exact absurd (show eT ty from ⟨_, by omega, g.2⟩) q | (obtain ⟨d, hd, hq⟩ := q; exact absurd hq (g.2 d hd)) | (exfalso; omega))
    exact hret v10 () _ _ _ _ dX0_dataShift_22 hq11 (hP.sub [] rfl) (hD.sub [] (by decide) rfl) hS

set_option maxHeartbeats 4000000 in
set_option maxRecDepth 100000 in
theorem c_Co_leadingData (l : Launch) (D : va_G) (cI cJ cB : ClassId) (aG : Nat) (fg : Nat → Int32)  :
    cti l yX0_leadingData (wsOf yX0_leadingData cX0_leadingData 2 (some .int)) (rmL 1 20 0 0) D classes (tys3 cI cJ cB) [.ref aG] [(aG, .inl (cI, 8, .inl fg))] (fun (r : Int32) (u : Unit) => (0 ≤ r.toInt ∧ r.toInt ≤ 8) ∧ aD fg 0 r.toInt.toNat ∧ (r.toInt < 8 → 256 ≤ (fg r.toInt.toNat).toInt)) (fun u : Unit => ([(aG, .inl (cI, 8, .inl fg))] : va_W)) := by
  refine cti.of (by first | exact plainFor_of_name (by decide) | decide +kernel) (Nat.le_of_ble_eq_true rfl) (fun p e s m args below meth c A ls Q h hret => ?_)
  obtain ⟨hx, hb, hml, hown, hts, hnm, hP, hK, hD, hA, hS, hZ, hN, hl⟩ := h
  have hown : s.vm.findClass RX0 = some m.cls := hown
  have hl : lv_has ls 2 [(0, .ref aG)] := hl
  have hP : va_P D classes [(aG, .inl (cI, 8, .inl fg))] s.heap := hP
  have hD : va_D A [(aG, .inl (cI, 8, .inl fg))] := hD
  refine lv_iconst (v := 0) hx hb dX0_leadingData_0 (by decide) ?_
  refine lv_topi (fun v1 e1 => ?_)
  have z1 : v1.toInt = 0 := zi_c e1 (by decide)
  refine lv_istore_n (lv' := [(1, .int v1), (0, .ref aG)]) hx hb dX0_leadingData_1 rfl hl (by decide) rfl (fun ls hl => ?_)
  have J2 : ∀ (n : Nat) (k : Int32) (H : Heap) (locs : List Loc) (ls : Array Slot), ((8 - k.toInt).toNat) < n → (0 ≤ k.toInt ∧ k.toInt ≤ 8) → (aD fg 0 k.toInt.toNat) → va_P D classes [(aG, .inl (cI, 8, .inl fg))] H → va_D A [(aG, .inl (cI, 8, .inl fg))] → va_S A s.heap H locs → lv_has ls 2 [(0, .ref aG), (1, .int k)] → W p l e (rmL 1 20 0 0) s m args below meth c H locs 0 0 Q (F0 m 2 ls []) := by
    intro n
    induction n with
    | zero => intro k H locs ls hmu; exact absurd hmu (Nat.not_lt_zero _)
    | succ n ih2 =>
      intro k H locs ls hmu2 i2_0 i2_1 hP hD hS hl
      have rg_k := zi_rg k
      refine lv_iload_n hx hb dX0_leadingData_2 rfl (lv_at hl 1 rfl) ?_
      refine lv_bipush (v := 8) hx hb dX0_leadingData_3 (by decide) ?_
      refine lv_topi (fun v2 e2 => ?_)
      have z2 : v2.toInt = 8 := zi_c e2 (by decide)
      refine lv_icmp_ge (tgt := 23) hx hb dX0_leadingData_5 (by decide) (fun c3 => ?_) (fun c3 => ?_)
      ·
        have z3 := zi_le c3
        refine lv_iload_n hx hb dX0_leadingData_23 rfl (lv_at hl 1 rfl) ?_
        have hq4 : (0 ≤ k.toInt ∧ k.toInt ≤ 8) ∧ aD fg 0 k.toInt.toNat ∧ (k.toInt < 8 → 256 ≤ (fg k.toInt.toNat).toInt) := (by refine ⟨by omega, i2_1, fun q => ?_⟩; first | (exfalso; omega) | (rw [show fg k.toInt.toNat = v5 from e5.symm]; omega))
        exact hret k () _ _ _ _ dX0_leadingData_24 hq4 (hP.sub [0] rfl) (hD.sub [0] (by decide) rfl) hS
      ·
        have z3 := zi_nle c3
        refine lv_aload_n hx hb dX0_leadingData_8 rfl (lv_at hl 0 rfl) ?_
        refine lv_iload_n hx hb dX0_leadingData_9 rfl (lv_at hl 1 rfl) ?_
        refine va_iald hx hb hK hP 0 0 rfl rfl (zi_in (by omega)) dX0_leadingData_10 ?_
        refine lv_topi (fun v5 e5 => ?_)
        refine call_i (wc := []) (wr := [(aG, .inl (cI, 8, .inl fg))]) (run_S (As := [.int v5]) (rest := []) ks_RX0_57 ⟨by decide, by decide⟩ ⟨rfl, rfl⟩ ⟨hx, hb, hml, hown, hts⟩ (c_Co_isData l D cI cJ cB v5  _) ct_blind (ct_pre (wc := []) hK hP hD hS hA hZ hN [] (by decide) rfl rfl) rfl hl.1 rfl (Nat.le_of_ble_eq_true rfl) dX0_leadingData_11 ⟨Nat.le_of_ble_eq_true rfl, Nat.le_of_ble_eq_true rfl⟩) hP hD hS hA [] [0] rfl rfl (by decide) (by decide) (fun r6 u H locs hw6 hP1 hD1 hS1 => ?_)
        have hw6 : (r6.toInt = 1 ∧ v5.toInt < 256) ∨ (r6.toInt = 0 ∧ 256 ≤ v5.toInt) := hw6
        clear hP hD hS
        have hP : va_P D classes [(aG, .inl (cI, 8, .inl fg))] H := hP1
        have hD : va_D A [(aG, .inl (cI, 8, .inl fg))] := hD1
        have hS := hS1
        clear hP1 hD1 hS1
        have rg_r6 := zi_rg r6
        refine lv_if_eq (tgt := 23) hx hb dX0_leadingData_14 (by decide) (fun c7 => ?_) (fun c7 => ?_)
        ·
          have z7 := zi_eq0 c7
          refine lv_iload_n hx hb dX0_leadingData_23 rfl (lv_at hl 1 rfl) ?_
          have hq8 : (0 ≤ k.toInt ∧ k.toInt ≤ 8) ∧ aD fg 0 k.toInt.toNat ∧ (k.toInt < 8 → 256 ≤ (fg k.toInt.toNat).toInt) := (by refine ⟨by omega, i2_1, fun q => ?_⟩; first | (exfalso; omega) | (rw [show fg k.toInt.toNat = v5 from e5.symm]; omega))
          exact hret k () _ _ _ _ dX0_leadingData_24 hq8 (hP.sub [0] rfl) (hD.sub [0] (by decide) rfl) hS
        ·
          have z7 := zi_ne0 c7
          obtain ⟨v9, e9⟩ : ∃ y : Int32, y = k + 1 := ⟨_, rfl⟩
          first | have z9 := zi_inc (z := 1) 1 (by decide) e9 (by omega) | skip
          refine lv_iinc (v := v9) (lv' := [(1, .int v9), (0, .ref aG)]) hx hb dX0_leadingData_17 hl (k := 1) rfl (by rw [e9]; rfl) (by decide) rfl (fun ls hl => ?_)
          refine lv_goto (tgt := 2) hx hb dX0_leadingData_20 (by decide) ?_
          exact ih2 v9 _ _ _ (by omega) (by omega) (fun q h1 h2 => by rcases (show q < k.toInt.toNat ∨ q = k.toInt.toNat by omega) with g | g; (· exact i2_1 q h1 g); (· rw [g, show fg k.toInt.toNat = v5 from e5.symm]; omega)) (hP.sub [0] rfl) (hD.sub [0] (by decide) rfl) hS (lv_sub hl [1, 0] rfl)
  exact J2 _ v1 _ _ _ (Nat.lt_succ_self _) (by omega) (fun q h1 h2 => absurd h2 (by omega)) (hP.sub [0] rfl) (hD.sub [0] (by decide) rfl) hS (lv_sub hl [1, 0] rfl)

set_option maxHeartbeats 4000000 in
set_option maxRecDepth 100000 in
theorem c_Co_areData (l : Launch) (D : va_G) (cI cJ cB : ClassId) (aG : Nat) (fg : Nat → Int32) (fr : Int32) (h1 : 0 ≤ fr.toInt ∧ fr.toInt ≤ 8) :
    cti l yX0_areData (wsOf yX0_areData cX0_areData 3 (some .boolean)) (rmL 1 20 0 0) D classes (tys3 cI cJ cB) [.ref aG, .int fr] [(aG, .inl (cI, 8, .inl fg))] (fun (r : Int32) (u : Unit) => (r.toInt = 1 ∧ aD fg fr.toInt.toNat 8) ∨ (r.toInt = 0 ∧ ¬ aD fg fr.toInt.toNat 8)) (fun u : Unit => ([(aG, .inl (cI, 8, .inl fg))] : va_W)) := by
  refine ctz.of (by first | exact plainFor_of_name (by decide) | decide +kernel) (Nat.le_of_ble_eq_true rfl) (fun p e s m args below meth c A ls Q h hret => ?_)
  obtain ⟨hx, hb, hml, hown, hts, hnm, hP, hK, hD, hA, hS, hZ, hN, hl⟩ := h
  have hown : s.vm.findClass RX0 = some m.cls := hown
  have hl : lv_has ls 3 [(0, .ref aG), (1, .int fr)] := hl
  have hP : va_P D classes [(aG, .inl (cI, 8, .inl fg))] s.heap := hP
  have hD : va_D A [(aG, .inl (cI, 8, .inl fg))] := hD
  have rg_fr := zi_rg fr
  refine lv_iload_n hx hb dX0_areData_0 rfl (lv_at hl 1 rfl) ?_
  refine lv_istore_n (lv' := [(2, .int fr), (0, .ref aG), (1, .int fr)]) hx hb dX0_areData_1 rfl hl (by decide) rfl (fun ls hl => ?_)
  have J2 : ∀ (n : Nat) (k : Int32) (H : Heap) (locs : List Loc) (ls : Array Slot), ((8 - k.toInt).toNat) < n → (0 ≤ k.toInt ∧ k.toInt ≤ 8) → (aD fg fr.toInt.toNat k.toInt.toNat) → (fr.toInt ≤ k.toInt) → va_P D classes [(aG, .inl (cI, 8, .inl fg))] H → va_D A [(aG, .inl (cI, 8, .inl fg))] → va_S A s.heap H locs → lv_has ls 3 [(0, .ref aG), (1, .int fr), (2, .int k)] → W p l e (rmL 1 20 0 0) s m args below meth c H locs 0 0 Q (F0 m 2 ls []) := by
    intro n
    induction n with
    | zero => intro k H locs ls hmu; exact absurd hmu (Nat.not_lt_zero _)
    | succ n ih2 =>
      intro k H locs ls hmu2 i2_0 i2_1 i2_2 hP hD hS hl
      have rg_k := zi_rg k
      refine lv_iload_n hx hb dX0_areData_2 rfl (lv_at hl 2 rfl) ?_
      refine lv_bipush (v := 8) hx hb dX0_areData_3 (by decide) ?_
      refine lv_topi (fun v1 e1 => ?_)
      have z1 : v1.toInt = 8 := zi_c e1 (by decide)
      refine lv_icmp_ge (tgt := 25) hx hb dX0_areData_5 (by decide) (fun c2 => ?_) (fun c2 => ?_)
      ·
        have z2 := zi_le c2
        refine lv_iconst (v := 1) hx hb dX0_areData_25 (by decide) ?_
        refine lv_topi (fun v3 e3 => ?_)
        have z3 : v3.toInt = 1 := zi_c e3 (by decide)
        have hq4 : (v3.toInt = 1 ∧ aD fg fr.toInt.toNat 8) ∨ (v3.toInt = 0 ∧ ¬ aD fg fr.toInt.toNat 8) := (Or.inl ⟨z3, by rw [show 8 = k.toInt.toNat by omega]; exact i2_1⟩)
        exact hret v3 () _ _ _ _ dX0_areData_26 (zb_n (by omega)) hq4 (hP.sub [0] rfl) (hD.sub [0] (by decide) rfl) hS
      ·
        have z2 := zi_nle c2
        refine lv_aload_n hx hb dX0_areData_8 rfl (lv_at hl 0 rfl) ?_
        refine lv_iload_n hx hb dX0_areData_9 rfl (lv_at hl 2 rfl) ?_
        refine va_iald hx hb hK hP 0 0 rfl rfl (zi_in (by omega)) dX0_areData_10 ?_
        refine lv_topi (fun v5 e5 => ?_)
        refine call_i (wc := []) (wr := [(aG, .inl (cI, 8, .inl fg))]) (run_S (As := [.int v5]) (rest := []) ks_RX0_57 ⟨by decide, by decide⟩ ⟨rfl, rfl⟩ ⟨hx, hb, hml, hown, hts⟩ (c_Co_isData l D cI cJ cB v5  _) ct_blind (ct_pre (wc := []) hK hP hD hS hA hZ hN [] (by decide) rfl rfl) rfl hl.1 rfl (Nat.le_of_ble_eq_true rfl) dX0_areData_11 ⟨Nat.le_of_ble_eq_true rfl, Nat.le_of_ble_eq_true rfl⟩) hP hD hS hA [] [0] rfl rfl (by decide) (by decide) (fun r6 u H locs hw6 hP1 hD1 hS1 => ?_)
        have hw6 : (r6.toInt = 1 ∧ v5.toInt < 256) ∨ (r6.toInt = 0 ∧ 256 ≤ v5.toInt) := hw6
        clear hP hD hS
        have hP : va_P D classes [(aG, .inl (cI, 8, .inl fg))] H := hP1
        have hD : va_D A [(aG, .inl (cI, 8, .inl fg))] := hD1
        have hS := hS1
        clear hP1 hD1 hS1
        have rg_r6 := zi_rg r6
        refine lv_if_ne (tgt := 19) hx hb dX0_areData_14 (by decide) (fun c7 => ?_) (fun c7 => ?_)
        ·
          have z7 := zi_ne0 c7
          obtain ⟨v8, e8⟩ : ∃ y : Int32, y = k + 1 := ⟨_, rfl⟩
          first | have z8 := zi_inc (z := 1) 1 (by decide) e8 (by omega) | skip
          refine lv_iinc (v := v8) (lv' := [(2, .int v8), (0, .ref aG), (1, .int fr)]) hx hb dX0_areData_19 hl (k := 2) rfl (by rw [e8]; rfl) (by decide) rfl (fun ls hl => ?_)
          refine lv_goto (tgt := 2) hx hb dX0_areData_22 (by decide) ?_
          exact ih2 v8 _ _ _ (by omega) (by omega) (fun q h1 h2 => by rcases (show q < k.toInt.toNat ∨ q = k.toInt.toNat by omega) with g | g; (· exact i2_1 q h1 g); (· rw [g, show fg k.toInt.toNat = v5 from e5.symm]; omega)) (by omega) (hP.sub [0] rfl) (hD.sub [0] (by decide) rfl) hS (lv_sub hl [1, 2, 0] rfl)
        ·
          have z7 := zi_eq0 c7
          refine lv_iconst (v := 0) hx hb dX0_areData_17 (by decide) ?_
          refine lv_topi (fun v9 e9 => ?_)
          have z9 : v9.toInt = 0 := zi_c e9 (by decide)
          have hq10 : (v9.toInt = 1 ∧ aD fg fr.toInt.toNat 8) ∨ (v9.toInt = 0 ∧ ¬ aD fg fr.toInt.toNat 8) := (Or.inr ⟨z9, fun q => by have g := q k.toInt.toNat (by omega) (by omega); rw [show fg k.toInt.toNat = v5 from e5.symm] at g; omega⟩)
          exact hret v9 () _ _ _ _ dX0_areData_18 (zb_n (by omega)) hq10 (hP.sub [0] rfl) (hD.sub [0] (by decide) rfl) hS
  exact J2 _ fr _ _ _ (Nat.lt_succ_self _) (by omega) (fun q h1 h2 => absurd h2 (by omega)) (by omega) (hP.sub [0] rfl) (hD.sub [0] (by decide) rfl) hS (lv_sub hl [1, 2, 0] rfl)

set_option maxHeartbeats 4000000 in
set_option maxRecDepth 100000 in
theorem c_Co_areIdleOrError (l : Launch) (D : va_G) (cI cJ cB : ClassId) (aG : Nat) (fg : Nat → Int32) (fr : Int32) (to : Int32) (h1 : 0 ≤ fr.toInt ∧ fr.toInt ≤ 8) (h2 : 0 ≤ to.toInt ∧ to.toInt ≤ 8) (h3 : fr.toInt ≤ to.toInt) :
    cti l yX0_areIdleOrError (wsOf yX0_areIdleOrError cX0_areIdleOrError 4 (some .boolean)) (rmL 0 0 0 0) D classes (tys3 cI cJ cB) [.ref aG, .int fr, .int to] [(aG, .inl (cI, 8, .inl fg))] (fun (r : Int32) (u : Unit) => (r.toInt = 1 ∧ aQ fg fr.toInt.toNat to.toInt.toNat) ∨ (r.toInt = 0 ∧ ¬ aQ fg fr.toInt.toNat to.toInt.toNat)) (fun u : Unit => ([(aG, .inl (cI, 8, .inl fg))] : va_W)) := by
  refine ctz.of (by first | exact plainFor_of_name (by decide) | decide +kernel) (Nat.le_of_ble_eq_true rfl) (fun p e s m args below meth c A ls Q h hret => ?_)
  obtain ⟨hx, hb, hml, hown, hts, hnm, hP, hK, hD, hA, hS, hZ, hN, hl⟩ := h
  have hown : s.vm.findClass RX0 = some m.cls := hown
  have hl : lv_has ls 4 [(0, .ref aG), (1, .int fr), (2, .int to)] := hl
  have hP : va_P D classes [(aG, .inl (cI, 8, .inl fg))] s.heap := hP
  have hD : va_D A [(aG, .inl (cI, 8, .inl fg))] := hD
  have rg_fr := zi_rg fr
  have rg_to := zi_rg to
  refine lv_iload_n hx hb dX0_areIdleOrError_0 rfl (lv_at hl 1 rfl) ?_
  refine lv_istore_n (lv' := [(3, .int fr), (0, .ref aG), (1, .int fr), (2, .int to)]) hx hb dX0_areIdleOrError_1 rfl hl (by decide) rfl (fun ls hl => ?_)
  have J2 : ∀ (n : Nat) (k : Int32) (H : Heap) (locs : List Loc) (ls : Array Slot), ((8 - k.toInt).toNat) < n → (0 ≤ k.toInt ∧ k.toInt ≤ 8) → (aQ fg fr.toInt.toNat k.toInt.toNat) → (fr.toInt ≤ k.toInt ∧ k.toInt ≤ to.toInt) → va_P D classes [(aG, .inl (cI, 8, .inl fg))] H → va_D A [(aG, .inl (cI, 8, .inl fg))] → va_S A s.heap H locs → lv_has ls 4 [(0, .ref aG), (1, .int fr), (2, .int to), (3, .int k)] → W p l e (rmL 0 0 0 0) s m args below meth c H locs 0 0 Q (F0 m 2 ls []) := by
    intro n
    induction n with
    | zero => intro k H locs ls hmu; exact absurd hmu (Nat.not_lt_zero _)
    | succ n ih2 =>
      intro k H locs ls hmu2 i2_0 i2_1 i2_2 hP hD hS hl
      have rg_k := zi_rg k
      refine lv_iload_n hx hb dX0_areIdleOrError_2 rfl (lv_at hl 3 rfl) ?_
      refine lv_iload_n hx hb dX0_areIdleOrError_3 rfl (lv_at hl 2 rfl) ?_
      refine lv_icmp_ge (tgt := 33) hx hb dX0_areIdleOrError_4 (by decide) (fun c1 => ?_) (fun c1 => ?_)
      ·
        have z1 := zi_le c1
        refine lv_iconst (v := 1) hx hb dX0_areIdleOrError_33 (by decide) ?_
        refine lv_topi (fun v2 e2 => ?_)
        have z2 : v2.toInt = 1 := zi_c e2 (by decide)
        have hq3 : (v2.toInt = 1 ∧ aQ fg fr.toInt.toNat to.toInt.toNat) ∨ (v2.toInt = 0 ∧ ¬ aQ fg fr.toInt.toNat to.toInt.toNat) := (Or.inl ⟨z2, by rw [show to.toInt.toNat = k.toInt.toNat by omega]; exact i2_1⟩)
        exact hret v2 () _ _ _ _ dX0_areIdleOrError_34 (zb_n (by omega)) hq3 (hP.sub [0] rfl) (hD.sub [0] (by decide) rfl) hS
      ·
        have z1 := zi_nle c1
        refine lv_aload_n hx hb dX0_areIdleOrError_7 rfl (lv_at hl 0 rfl) ?_
        refine lv_iload_n hx hb dX0_areIdleOrError_8 rfl (lv_at hl 3 rfl) ?_
        refine va_iald hx hb hK hP 0 0 rfl rfl (zi_in (by omega)) dX0_areIdleOrError_9 ?_
        refine lv_topi (fun v4 e4 => ?_)
        refine lv_sipush (v := 256) hx hb dX0_areIdleOrError_10 (by decide) ?_
        refine lv_topi (fun v5 e5 => ?_)
        have z5 : v5.toInt = 256 := zi_c e5 (by decide)
        refine lv_icmp_eq (tgt := 27) hx hb dX0_areIdleOrError_13 (by decide) (fun c6 => ?_) (fun c6 => ?_)
        ·
          have z6 := zi_eq c6
          obtain ⟨v7, e7⟩ : ∃ y : Int32, y = k + 1 := ⟨_, rfl⟩
          first | have z7 := zi_inc (z := 1) 1 (by decide) e7 (by omega) | skip
          refine lv_iinc (v := v7) (lv' := [(3, .int v7), (0, .ref aG), (1, .int fr), (2, .int to)]) hx hb dX0_areIdleOrError_27 hl (k := 3) rfl (by rw [e7]; rfl) (by decide) rfl (fun ls hl => ?_)
          refine lv_goto (tgt := 2) hx hb dX0_areIdleOrError_30 (by decide) ?_
          exact ih2 v7 _ _ _ (by omega) (by omega) (fun q h1 h2 => by rcases (show q < k.toInt.toNat ∨ q = k.toInt.toNat by omega) with g | g; (· exact i2_1 q h1 g); (· rw [g, show fg k.toInt.toNat = v4 from e4.symm]; first | (left; omega) | (right; rw [show v4 = v8 from e4.trans e8.symm]; omega))) (by omega) (hP.sub [0] rfl) (hD.sub [0] (by decide) rfl) hS (lv_sub hl [1, 2, 3, 0] rfl)
        ·
          have z6 := zi_ne c6
          refine lv_aload_n hx hb dX0_areIdleOrError_16 rfl (lv_at hl 0 rfl) ?_
          refine lv_iload_n hx hb dX0_areIdleOrError_17 rfl (lv_at hl 3 rfl) ?_
          refine va_iald hx hb hK hP 0 0 rfl rfl (zi_in (by omega)) dX0_areIdleOrError_18 ?_
          refine lv_topi (fun v8 e8 => ?_)
          refine lv_sipush (v := 259) hx hb dX0_areIdleOrError_19 (by decide) ?_
          refine lv_topi (fun v9 e9 => ?_)
          have z9 : v9.toInt = 259 := zi_c e9 (by decide)
          refine lv_icmp_eq (tgt := 27) hx hb dX0_areIdleOrError_22 (by decide) (fun c10 => ?_) (fun c10 => ?_)
          ·
            have z10 := zi_eq c10
            obtain ⟨v11, e11⟩ : ∃ y : Int32, y = k + 1 := ⟨_, rfl⟩
            first | have z11 := zi_inc (z := 1) 1 (by decide) e11 (by omega) | skip
            refine lv_iinc (v := v11) (lv' := [(3, .int v11), (0, .ref aG), (1, .int fr), (2, .int to)]) hx hb dX0_areIdleOrError_27 hl (k := 3) rfl (by rw [e11]; rfl) (by decide) rfl (fun ls hl => ?_)
            refine lv_goto (tgt := 2) hx hb dX0_areIdleOrError_30 (by decide) ?_
            exact ih2 v11 _ _ _ (by omega) (by omega) (fun q h1 h2 => by rcases (show q < k.toInt.toNat ∨ q = k.toInt.toNat by omega) with g | g; (· exact i2_1 q h1 g); (· rw [g, show fg k.toInt.toNat = v4 from e4.symm]; first | (left; omega) | (right; rw [show v4 = v8 from e4.trans e8.symm]; omega))) (by omega) (hP.sub [0] rfl) (hD.sub [0] (by decide) rfl) hS (lv_sub hl [1, 2, 3, 0] rfl)
          ·
            have z10 := zi_ne c10
            refine lv_iconst (v := 0) hx hb dX0_areIdleOrError_25 (by decide) ?_
            refine lv_topi (fun v12 e12 => ?_)
            have z12 : v12.toInt = 0 := zi_c e12 (by decide)
            have hq13 : (v12.toInt = 1 ∧ aQ fg fr.toInt.toNat to.toInt.toNat) ∨ (v12.toInt = 0 ∧ ¬ aQ fg fr.toInt.toNat to.toInt.toNat) := (Or.inr ⟨z12, fun q => by have g := q k.toInt.toNat (by omega) (by omega); rw [show fg k.toInt.toNat = v4 from e4.symm] at g; have g2 := zi_eq (show v4 = v8 from e4.trans e8.symm); omega⟩)
            exact hret v12 () _ _ _ _ dX0_areIdleOrError_26 (zb_n (by omega)) hq13 (hP.sub [0] rfl) (hD.sub [0] (by decide) rfl) hS
  exact J2 _ fr _ _ _ (Nat.lt_succ_self _) (by omega) (fun q h1 h2 => absurd h2 (by omega)) (by omega) (hP.sub [0] rfl) (hD.sub [0] (by decide) rfl) hS (lv_sub hl [1, 2, 3, 0] rfl)

set_option maxHeartbeats 4000000 in
set_option maxRecDepth 100000 in
theorem c_Co_typeOfGroup (l : Launch) (D : va_G) (cI cJ cB : ClassId) (aG : Nat) (fg : Nat → Int32)  :
    cti l yX0_typeOfGroup (wsOf yX0_typeOfGroup cX0_typeOfGroup 2 (some .int)) (rmL 2 42 0 0) D classes (tys3 cI cJ cB) [.ref aG] [(aG, .inl (cI, 8, .inl fg))] (fun (r : Int32) (u : Unit) => tyR fg r) (fun u : Unit => ([(aG, .inl (cI, 8, .inl fg))] : va_W)) := by
  refine cti.of (by first | exact plainFor_of_name (by decide) | decide +kernel) (Nat.le_of_ble_eq_true rfl) (fun p e s m args below meth c A ls Q h hret => ?_)
  obtain ⟨hx, hb, hml, hown, hts, hnm, hP, hK, hD, hA, hS, hZ, hN, hl⟩ := h
  have hown : s.vm.findClass RX0 = some m.cls := hown
  have hl : lv_has ls 2 [(0, .ref aG)] := hl
  obtain ⟨tE, hZ1, hT1⟩ := id hZ
  have hP : va_P D classes [(aG, .inl (cI, 8, .inl fg))] s.heap := hP
  have hD : va_D A [(aG, .inl (cI, 8, .inl fg))] := hD
  refine lv_aload_n hx hb dX0_typeOfGroup_0 rfl (lv_at hl 0 rfl) ?_
  refine call_i (wc := [(aG, .inl (cI, 8, .inl fg))]) (wr := []) (run_S (As := [.ref aG]) (rest := []) ks_RX0_9 ⟨by decide, by decide⟩ ⟨rfl, rfl⟩ ⟨hx, hb, hml, hown, hts⟩ (c_Co_leadingData l D cI cJ cB aG fg  _) ct_blind (ct_pre (wc := [(aG, .inl (cI, 8, .inl fg))]) hK hP hD hS hA hZ hN [0] (by decide) rfl rfl) rfl hl.1 rfl (Nat.le_of_ble_eq_true rfl) dX0_typeOfGroup_1 ⟨Nat.le_of_ble_eq_true rfl, Nat.le_of_ble_eq_true rfl⟩) hP hD hS hA [0] [] rfl rfl (by decide) (by decide) (fun r1 u H locs hw1 hP1 hD1 hS1 => ?_)
  have hw1 : (0 ≤ r1.toInt ∧ r1.toInt ≤ 8) ∧ aD fg 0 r1.toInt.toNat ∧ (r1.toInt < 8 → 256 ≤ (fg r1.toInt.toNat).toInt) := hw1
  clear hP hD hS
  have hP : va_P D classes [(aG, .inl (cI, 8, .inl fg))] H := hP1
  have hD : va_D A [(aG, .inl (cI, 8, .inl fg))] := hD1
  have hS := hS1
  clear hP1 hD1 hS1
  have rg_r1 := zi_rg r1
  refine lv_istore_n (lv' := [(1, .int r1), (0, .ref aG)]) hx hb dX0_typeOfGroup_4 rfl hl (by decide) rfl (fun ls hl => ?_)
  refine lv_iload_n hx hb dX0_typeOfGroup_5 rfl (lv_at hl 0 rfl) ?_
  refine lv_bipush (v := 8) hx hb dX0_typeOfGroup_6 (by decide) ?_
  refine lv_topi (fun v2 e2 => ?_)
  have z2 : v2.toInt = 8 := zi_c e2 (by decide)
  refine lv_icmp_ne (tgt := 13) hx hb dX0_typeOfGroup_8 (by decide) (fun c3 => ?_) (fun c3 => ?_)
  ·
    have z3 := zi_ne c3
    refine lv_aload_n hx hb dX0_typeOfGroup_13 rfl (lv_at hl 1 rfl) ?_
    refine lv_iload_n hx hb dX0_typeOfGroup_14 rfl (lv_at hl 0 rfl) ?_
    refine va_iald hx hb hK hP 0 0 rfl rfl (zi_in (by omega)) dX0_typeOfGroup_15 ?_
    refine lv_topi (fun v4 e4 => ?_)
    refine lv_sipush (v := 258) hx hb dX0_typeOfGroup_16 (by decide) ?_
    refine lv_topi (fun v5 e5 => ?_)
    have z5 : v5.toInt = 258 := zi_c e5 (by decide)
    have J40 : ∀   (H : Heap) (locs : List Loc) (ls : Array Slot), (∀ d, d < 8 → ¬ gEnd fg d) → va_P D classes [(aG, .inl (cI, 8, .inl fg))] H → va_D A [(aG, .inl (cI, 8, .inl fg))] → va_S A s.heap H locs → lv_has ls 2 [(1, .int r1), (0, .ref aG)] → W p l e (rmL 2 42 0 0) s m args below meth c H locs 0 0 Q (F0 m 40 ls []) := by
      intro  H locs ls i40_0 hP hD hS hl
      refine lv_aload_n hx hb dX0_typeOfGroup_40 rfl (lv_at hl 1 rfl) ?_
      refine lv_iconst (v := 0) hx hb dX0_typeOfGroup_41 (by decide) ?_
      refine lv_topi (fun v6 e6 => ?_)
      have z6 : v6.toInt = 0 := zi_c e6 (by decide)
      refine va_iald hx hb hK hP 0 0 rfl rfl (zi_in (by omega)) dX0_typeOfGroup_42 ?_
      refine lv_topi (fun v7 e7 => ?_)
      refine lv_sipush (v := 257) hx hb dX0_typeOfGroup_43 (by decide) ?_
      refine lv_topi (fun v8 e8 => ?_)
      have z8 : v8.toInt = 257 := zi_c e8 (by decide)
      have J60 : ∀   (H : Heap) (locs : List Loc) (ls : Array Slot), (¬ gSt fg) → va_P D classes [(aG, .inl (cI, 8, .inl fg))] H → va_D A [(aG, .inl (cI, 8, .inl fg))] → va_S A s.heap H locs → lv_has ls 2 [(1, .int r1), (0, .ref aG)] → W p l e (rmL 2 42 0 0) s m args below meth c H locs 0 0 Q (F0 m 60 ls []) := by
        intro  H locs ls i60_0 hP hD hS hl
        refine lv_aload_n hx hb dX0_typeOfGroup_60 rfl (lv_at hl 1 rfl) ?_
        refine lv_iconst (v := 0) hx hb dX0_typeOfGroup_61 (by decide) ?_
        refine lv_topi (fun v9 e9 => ?_)
        have z9 : v9.toInt = 0 := zi_c e9 (by decide)
        refine lv_iconst (v := 4) hx hb dX0_typeOfGroup_62 (by decide) ?_
        refine lv_topi (fun v10 e10 => ?_)
        have z10 : v10.toInt = 4 := zi_c e10 (by decide)
        have hh11 : 0 ≤ v9.toInt ∧ v9.toInt ≤ 8 := (by omega)
        have hh12 : 0 ≤ v10.toInt ∧ v10.toInt ≤ 8 := (by omega)
        have hh13 : v9.toInt ≤ v10.toInt := (by omega)
        refine call_i (wc := [(aG, .inl (cI, 8, .inl fg))]) (wr := []) (run_S (As := [.ref aG, .int v9, .int v10]) (rest := []) ks_RX0_15 ⟨by decide, by decide⟩ ⟨rfl, rfl⟩ ⟨hx, hb, hml, hown, hts⟩ (c_Co_areIdleOrError l D cI cJ cB aG fg v9 v10 hh11 hh12 hh13 _) ct_blind (ct_pre (wc := [(aG, .inl (cI, 8, .inl fg))]) hK hP hD hS hA hZ hN [0] (by decide) rfl rfl) rfl hl.1 rfl (Nat.le_of_ble_eq_true rfl) dX0_typeOfGroup_63 ⟨Nat.le_of_ble_eq_true rfl, Nat.le_of_ble_eq_true rfl⟩) hP hD hS hA [0] [] rfl rfl (by decide) (by decide) (fun r14 u H locs hw14 hP1 hD1 hS1 => ?_)
        have hw14 : (r14.toInt = 1 ∧ aQ fg v9.toInt.toNat v10.toInt.toNat) ∨ (r14.toInt = 0 ∧ ¬ aQ fg v9.toInt.toNat v10.toInt.toNat) := hw14
        clear hP hD hS
        have hP : va_P D classes [(aG, .inl (cI, 8, .inl fg))] H := hP1
        have hD : va_D A [(aG, .inl (cI, 8, .inl fg))] := hD1
        have hS := hS1
        clear hP1 hD1 hS1
        have rg_r14 := zi_rg r14
        have J89 : ∀   (H : Heap) (locs : List Loc) (ls : Array Slot), (¬ gMid fg) → va_P D classes [(aG, .inl (cI, 8, .inl fg))] H → va_D A [(aG, .inl (cI, 8, .inl fg))] → va_S A s.heap H locs → lv_has ls 2 [(1, .int r1), (0, .ref aG)] → W p l e (rmL 2 42 0 0) s m args below meth c H locs 0 0 Q (F0 m 89 ls []) := by
          intro  H locs ls i89_0 hP hD hS hl
          refine lv_aload_n hx hb dX0_typeOfGroup_89 rfl (lv_at hl 1 rfl) ?_
          refine lv_iconst (v := 0) hx hb dX0_typeOfGroup_90 (by decide) ?_
          refine lv_topi (fun v15 e15 => ?_)
          have z15 : v15.toInt = 0 := zi_c e15 (by decide)
          refine lv_bipush (v := 8) hx hb dX0_typeOfGroup_91 (by decide) ?_
          refine lv_topi (fun v16 e16 => ?_)
          have z16 : v16.toInt = 8 := zi_c e16 (by decide)
          have hh17 : 0 ≤ v15.toInt ∧ v15.toInt ≤ 8 := (by omega)
          have hh18 : 0 ≤ v16.toInt ∧ v16.toInt ≤ 8 := (by omega)
          have hh19 : v15.toInt ≤ v16.toInt := (by omega)
          refine call_i (wc := [(aG, .inl (cI, 8, .inl fg))]) (wr := []) (run_S (As := [.ref aG, .int v15, .int v16]) (rest := []) ks_RX0_15 ⟨by decide, by decide⟩ ⟨rfl, rfl⟩ ⟨hx, hb, hml, hown, hts⟩ (c_Co_areIdleOrError l D cI cJ cB aG fg v15 v16 hh17 hh18 hh19 _) ct_blind (ct_pre (wc := [(aG, .inl (cI, 8, .inl fg))]) hK hP hD hS hA hZ hN [0] (by decide) rfl rfl) rfl hl.1 rfl (Nat.le_of_ble_eq_true rfl) dX0_typeOfGroup_93 ⟨Nat.le_of_ble_eq_true rfl, Nat.le_of_ble_eq_true rfl⟩) hP hD hS hA [0] [] rfl rfl (by decide) (by decide) (fun r20 u H locs hw20 hP1 hD1 hS1 => ?_)
          have hw20 : (r20.toInt = 1 ∧ aQ fg v15.toInt.toNat v16.toInt.toNat) ∨ (r20.toInt = 0 ∧ ¬ aQ fg v15.toInt.toNat v16.toInt.toNat) := hw20
          clear hP hD hS
          have hP : va_P D classes [(aG, .inl (cI, 8, .inl fg))] H := hP1
          have hD : va_D A [(aG, .inl (cI, 8, .inl fg))] := hD1
          have hS := hS1
          clear hP1 hD1 hS1
          have rg_r20 := zi_rg r20
          refine lv_if_eq (tgt := 104) hx hb dX0_typeOfGroup_96 (by decide) (fun c21 => ?_) (fun c21 => ?_)
          ·
            have z21 := zi_eq0 c21
            refine lv_bipush (v := -2) hx hb dX0_typeOfGroup_104 (by decide) ?_
            refine lv_topi (fun v22 e22 => ?_)
            have z22 : v22.toInt = (-2) := zi_c e22 (by decide)
            have hq23 : tyR fg v22 := (by have q8 : (r20.toInt = 1 ∧ aQ fg 0 8) ∨ (r20.toInt = 0 ∧ ¬ aQ fg 0 8) := (by rw [show v15.toInt.toNat = 0 by omega, show v16.toInt.toNat = 8 by omega] at hw20; exact hw20); rcases q8 with g | g; (· exact Or.inr (Or.inr (Or.inr (Or.inr (Or.inl ⟨by omega, g.2⟩))))); (· exact Or.inr (Or.inr (Or.inr (Or.inr (Or.inr ⟨by omega, fun q => absurd (q r1.toInt.toNat (by omega) (by omega)) (by have := hw1.2.2 (by omega); omega), i60_0, i89_0, i40_0, g.2⟩))))))
            exact hret v22 () _ _ _ _ dX0_typeOfGroup_106 hq23 (hP.sub [0] rfl) (hD.sub [0] (by decide) rfl) hS
          ·
            have z21 := zi_ne0 c21
            refine lv_bipush (v := 30) hx hb dX0_typeOfGroup_99 (by decide) ?_
            refine lv_topi (fun v24 e24 => ?_)
            have z24 : v24.toInt = 30 := zi_c e24 (by decide)
            refine lv_goto (tgt := 106) hx hb dX0_typeOfGroup_101 (by decide) ?_
            have hq25 : tyR fg v24 := (by have q8 : (r20.toInt = 1 ∧ aQ fg 0 8) ∨ (r20.toInt = 0 ∧ ¬ aQ fg 0 8) := (by rw [show v15.toInt.toNat = 0 by omega, show v16.toInt.toNat = 8 by omega] at hw20; exact hw20); rcases q8 with g | g; (· exact Or.inr (Or.inr (Or.inr (Or.inr (Or.inl ⟨by omega, g.2⟩))))); (· exact Or.inr (Or.inr (Or.inr (Or.inr (Or.inr ⟨by omega, fun q => absurd (q r1.toInt.toNat (by omega) (by omega)) (by have := hw1.2.2 (by omega); omega), i60_0, i89_0, i40_0, g.2⟩))))))
            exact hret v24 () _ _ _ _ dX0_typeOfGroup_106 hq25 (hP.sub [0] rfl) (hD.sub [0] (by decide) rfl) hS
        refine lv_if_eq (tgt := 89) hx hb dX0_typeOfGroup_66 (by decide) (fun c26 => ?_) (fun c26 => ?_)
        ·
          have z26 := zi_eq0 c26
          exact J89  _ _ _  (fun q => by first | (rcases hw33 with g | g; (· omega); (· exact g.2 (by rw [show v31.toInt.toNat = 5 by omega]; exact q.2.2))) | (have q1 := q.1; rw [show fg 4 = v28 from by rw [e28, show v27.toNatClampNeg = 4 from by show v27.toInt.toNat = 4; omega]] at q1; omega) | (rcases hw14 with g | g; (· omega); (· exact g.2 (by rw [show v9.toInt.toNat = 0 by omega, show v10.toInt.toNat = 4 by omega]; exact q.2.1)))) (hP.sub [0] rfl) (hD.sub [0] (by decide) rfl) hS (lv_sub hl [0, 1] rfl)
        ·
          have z26 := zi_ne0 c26
          refine lv_aload_n hx hb dX0_typeOfGroup_69 rfl (lv_at hl 1 rfl) ?_
          refine lv_iconst (v := 4) hx hb dX0_typeOfGroup_70 (by decide) ?_
          refine lv_topi (fun v27 e27 => ?_)
          have z27 : v27.toInt = 4 := zi_c e27 (by decide)
          refine va_iald hx hb hK hP 0 0 rfl rfl (zi_in (by omega)) dX0_typeOfGroup_71 ?_
          refine lv_topi (fun v28 e28 => ?_)
          refine lv_sipush (v := 257) hx hb dX0_typeOfGroup_72 (by decide) ?_
          refine lv_topi (fun v29 e29 => ?_)
          have z29 : v29.toInt = 257 := zi_c e29 (by decide)
          refine lv_icmp_ne (tgt := 89) hx hb dX0_typeOfGroup_75 (by decide) (fun c30 => ?_) (fun c30 => ?_)
          ·
            have z30 := zi_ne c30
            exact J89  _ _ _  (fun q => by first | (rcases hw33 with g | g; (· omega); (· exact g.2 (by rw [show v31.toInt.toNat = 5 by omega]; exact q.2.2))) | (have q1 := q.1; rw [show fg 4 = v28 from by rw [e28, show v27.toNatClampNeg = 4 from by show v27.toInt.toNat = 4; omega]] at q1; omega) | (rcases hw14 with g | g; (· omega); (· exact g.2 (by rw [show v9.toInt.toNat = 0 by omega, show v10.toInt.toNat = 4 by omega]; exact q.2.1)))) (hP.sub [0] rfl) (hD.sub [0] (by decide) rfl) hS (lv_sub hl [0, 1] rfl)
          ·
            have z30 := zi_eq c30
            refine lv_aload_n hx hb dX0_typeOfGroup_78 rfl (lv_at hl 1 rfl) ?_
            refine lv_iconst (v := 5) hx hb dX0_typeOfGroup_79 (by decide) ?_
            refine lv_topi (fun v31 e31 => ?_)
            have z31 : v31.toInt = 5 := zi_c e31 (by decide)
            have hh32 : 0 ≤ v31.toInt ∧ v31.toInt ≤ 8 := (by omega)
            refine call_i (wc := [(aG, .inl (cI, 8, .inl fg))]) (wr := []) (run_S (As := [.ref aG, .int v31]) (rest := []) ks_RX0_23 ⟨by decide, by decide⟩ ⟨rfl, rfl⟩ ⟨hx, hb, hml, hown, hts⟩ (c_Co_areData l D cI cJ cB aG fg v31 hh32 _) ct_blind (ct_pre (wc := [(aG, .inl (cI, 8, .inl fg))]) hK hP hD hS hA hZ hN [0] (by decide) rfl rfl) rfl hl.1 rfl (Nat.le_of_ble_eq_true rfl) dX0_typeOfGroup_80 ⟨Nat.le_of_ble_eq_true rfl, Nat.le_of_ble_eq_true rfl⟩) hP hD hS hA [0] [] rfl rfl (by decide) (by decide) (fun r33 u H locs hw33 hP1 hD1 hS1 => ?_)
            have hw33 : (r33.toInt = 1 ∧ aD fg v31.toInt.toNat 8) ∨ (r33.toInt = 0 ∧ ¬ aD fg v31.toInt.toNat 8) := hw33
            clear hP hD hS
            have hP : va_P D classes [(aG, .inl (cI, 8, .inl fg))] H := hP1
            have hD : va_D A [(aG, .inl (cI, 8, .inl fg))] := hD1
            have hS := hS1
            clear hP1 hD1 hS1
            have rg_r33 := zi_rg r33
            refine lv_if_eq (tgt := 89) hx hb dX0_typeOfGroup_83 (by decide) (fun c34 => ?_) (fun c34 => ?_)
            ·
              have z34 := zi_eq0 c34
              exact J89  _ _ _  (fun q => by first | (rcases hw33 with g | g; (· omega); (· exact g.2 (by rw [show v31.toInt.toNat = 5 by omega]; exact q.2.2))) | (have q1 := q.1; rw [show fg 4 = v28 from by rw [e28, show v27.toNatClampNeg = 4 from by show v27.toInt.toNat = 4; omega]] at q1; omega) | (rcases hw14 with g | g; (· omega); (· exact g.2 (by rw [show v9.toInt.toNat = 0 by omega, show v10.toInt.toNat = 4 by omega]; exact q.2.1)))) (hP.sub [0] rfl) (hD.sub [0] (by decide) rfl) hS (lv_sub hl [0, 1] rfl)
            ·
              have z34 := zi_ne0 c34
              refine lv_bipush (v := 51) hx hb dX0_typeOfGroup_86 (by decide) ?_
              refine lv_topi (fun v35 e35 => ?_)
              have z35 : v35.toInt = 51 := zi_c e35 (by decide)
              have hq36 : tyR fg v35 := (Or.inr (Or.inr (Or.inr (Or.inl ⟨z35, by rw [show fg 4 = v28 from by rw [e28, show v27.toNatClampNeg = 4 from by show v27.toInt.toNat = 4; omega]]; omega, by rcases hw14 with g | g; (· have g2 := g.2; rw [show v9.toInt.toNat = 0 by omega, show v10.toInt.toNat = 4 by omega] at g2; exact g2); (· omega), by rcases hw33 with g | g; (· have g2 := g.2; rw [show v31.toInt.toNat = 5 by omega] at g2; exact g2); (· omega)⟩))))
              exact hret v35 () _ _ _ _ dX0_typeOfGroup_88 hq36 (hP.sub [0] rfl) (hD.sub [0] (by decide) rfl) hS
      refine lv_icmp_ne (tgt := 60) hx hb dX0_typeOfGroup_46 (by decide) (fun c37 => ?_) (fun c37 => ?_)
      ·
        have z37 := zi_ne c37
        exact J60  _ _ _  (fun q => by first | (rcases hw40 with g | g; (· omega); (· exact g.2 (by rw [show v38.toInt.toNat = 1 by omega]; exact q.2))) | (have q1 := q.1; rw [show fg 0 = v7 from by rw [e7, show v6.toNatClampNeg = 0 from by show v6.toInt.toNat = 0; omega]] at q1; omega)) (hP.sub [0] rfl) (hD.sub [0] (by decide) rfl) hS (lv_sub hl [0, 1] rfl)
      ·
        have z37 := zi_eq c37
        refine lv_aload_n hx hb dX0_typeOfGroup_49 rfl (lv_at hl 1 rfl) ?_
        refine lv_iconst (v := 1) hx hb dX0_typeOfGroup_50 (by decide) ?_
        refine lv_topi (fun v38 e38 => ?_)
        have z38 : v38.toInt = 1 := zi_c e38 (by decide)
        have hh39 : 0 ≤ v38.toInt ∧ v38.toInt ≤ 8 := (by omega)
        refine call_i (wc := [(aG, .inl (cI, 8, .inl fg))]) (wr := []) (run_S (As := [.ref aG, .int v38]) (rest := []) ks_RX0_23 ⟨by decide, by decide⟩ ⟨rfl, rfl⟩ ⟨hx, hb, hml, hown, hts⟩ (c_Co_areData l D cI cJ cB aG fg v38 hh39 _) ct_blind (ct_pre (wc := [(aG, .inl (cI, 8, .inl fg))]) hK hP hD hS hA hZ hN [0] (by decide) rfl rfl) rfl hl.1 rfl (Nat.le_of_ble_eq_true rfl) dX0_typeOfGroup_51 ⟨Nat.le_of_ble_eq_true rfl, Nat.le_of_ble_eq_true rfl⟩) hP hD hS hA [0] [] rfl rfl (by decide) (by decide) (fun r40 u H locs hw40 hP1 hD1 hS1 => ?_)
        have hw40 : (r40.toInt = 1 ∧ aD fg v38.toInt.toNat 8) ∨ (r40.toInt = 0 ∧ ¬ aD fg v38.toInt.toNat 8) := hw40
        clear hP hD hS
        have hP : va_P D classes [(aG, .inl (cI, 8, .inl fg))] H := hP1
        have hD : va_D A [(aG, .inl (cI, 8, .inl fg))] := hD1
        have hS := hS1
        clear hP1 hD1 hS1
        have rg_r40 := zi_rg r40
        refine lv_if_eq (tgt := 60) hx hb dX0_typeOfGroup_54 (by decide) (fun c41 => ?_) (fun c41 => ?_)
        ·
          have z41 := zi_eq0 c41
          exact J60  _ _ _  (fun q => by first | (rcases hw40 with g | g; (· omega); (· exact g.2 (by rw [show v38.toInt.toNat = 1 by omega]; exact q.2))) | (have q1 := q.1; rw [show fg 0 = v7 from by rw [e7, show v6.toNatClampNeg = 0 from by show v6.toInt.toNat = 0; omega]] at q1; omega)) (hP.sub [0] rfl) (hD.sub [0] (by decide) rfl) hS (lv_sub hl [0, 1] rfl)
        ·
          have z41 := zi_ne0 c41
          refine lv_bipush (v := 120) hx hb dX0_typeOfGroup_57 (by decide) ?_
          refine lv_topi (fun v42 e42 => ?_)
          have z42 : v42.toInt = 120 := zi_c e42 (by decide)
          have hq43 : tyR fg v42 := (Or.inr (Or.inr (Or.inl ⟨z42, by rw [show fg 0 = v7 from by rw [e7, show v6.toNatClampNeg = 0 from by show v6.toInt.toNat = 0; omega]]; omega, by rcases hw40 with g | g; (· rw [show 1 = v38.toInt.toNat by omega]; exact g.2); (· omega)⟩)))
          exact hret v42 () _ _ _ _ dX0_typeOfGroup_59 hq43 (hP.sub [0] rfl) (hD.sub [0] (by decide) rfl) hS
    refine lv_icmp_ne (tgt := 40) hx hb dX0_typeOfGroup_19 (by decide) (fun c44 => ?_) (fun c44 => ?_)
    ·
      have z44 := zi_ne c44
      exact J40  _ _ _  (no_end hw1.2.1 (hw1.2.2 (by omega)) (fun q => by first | (rcases hw51 with g | g; (· omega); (· exact g.2 (by rw [show v46.toInt.toNat = r1.toInt.toNat + 1 by omega, show v47.toInt.toNat = 8 by omega]; exact q.2))) | (have q1 := q.1; rw [show fg r1.toInt.toNat = v4 from e4.symm] at q1; omega))) (hP.sub [0] rfl) (hD.sub [0] (by decide) rfl) hS (lv_sub hl [0, 1] rfl)
    ·
      have z44 := zi_eq c44
      refine lv_aload_n hx hb dX0_typeOfGroup_22 rfl (lv_at hl 1 rfl) ?_
      refine lv_iload_n hx hb dX0_typeOfGroup_23 rfl (lv_at hl 0 rfl) ?_
      refine lv_iconst (v := 1) hx hb dX0_typeOfGroup_24 (by decide) ?_
      refine lv_topi (fun v45 e45 => ?_)
      have z45 : v45.toInt = 1 := zi_c e45 (by decide)
      refine lv_iadd hx hb dX0_typeOfGroup_25 ?_
      refine lv_topi (fun v46 e46 => ?_)
      first | have z46 := zi_add e46 (by omega) | skip
      refine lv_bipush (v := 8) hx hb dX0_typeOfGroup_26 (by decide) ?_
      refine lv_topi (fun v47 e47 => ?_)
      have z47 : v47.toInt = 8 := zi_c e47 (by decide)
      have hh48 : 0 ≤ v46.toInt ∧ v46.toInt ≤ 8 := (by omega)
      have hh49 : 0 ≤ v47.toInt ∧ v47.toInt ≤ 8 := (by omega)
      have hh50 : v46.toInt ≤ v47.toInt := (by omega)
      refine call_i (wc := [(aG, .inl (cI, 8, .inl fg))]) (wr := []) (run_S (As := [.ref aG, .int v46, .int v47]) (rest := []) ks_RX0_15 ⟨by decide, by decide⟩ ⟨rfl, rfl⟩ ⟨hx, hb, hml, hown, hts⟩ (c_Co_areIdleOrError l D cI cJ cB aG fg v46 v47 hh48 hh49 hh50 _) ct_blind (ct_pre (wc := [(aG, .inl (cI, 8, .inl fg))]) hK hP hD hS hA hZ hN [0] (by decide) rfl rfl) rfl hl.1 rfl (Nat.le_of_ble_eq_true rfl) dX0_typeOfGroup_28 ⟨Nat.le_of_ble_eq_true rfl, Nat.le_of_ble_eq_true rfl⟩) hP hD hS hA [0] [] rfl rfl (by decide) (by decide) (fun r51 u H locs hw51 hP1 hD1 hS1 => ?_)
      have hw51 : (r51.toInt = 1 ∧ aQ fg v46.toInt.toNat v47.toInt.toNat) ∨ (r51.toInt = 0 ∧ ¬ aQ fg v46.toInt.toNat v47.toInt.toNat) := hw51
      clear hP hD hS
      have hP : va_P D classes [(aG, .inl (cI, 8, .inl fg))] H := hP1
      have hD : va_D A [(aG, .inl (cI, 8, .inl fg))] := hD1
      have hS := hS1
      clear hP1 hD1 hS1
      have rg_r51 := zi_rg r51
      refine lv_if_eq (tgt := 40) hx hb dX0_typeOfGroup_31 (by decide) (fun c52 => ?_) (fun c52 => ?_)
      ·
        have z52 := zi_eq0 c52
        exact J40  _ _ _  (no_end hw1.2.1 (hw1.2.2 (by omega)) (fun q => by first | (rcases hw51 with g | g; (· omega); (· exact g.2 (by rw [show v46.toInt.toNat = r1.toInt.toNat + 1 by omega, show v47.toInt.toNat = 8 by omega]; exact q.2))) | (have q1 := q.1; rw [show fg r1.toInt.toNat = v4 from e4.symm] at q1; omega))) (hP.sub [0] rfl) (hD.sub [0] (by decide) rfl) hS (lv_sub hl [0, 1] rfl)
      ·
        have z52 := zi_ne0 c52
        refine va_gets hx hb hZ1 hS hown (hts _ wk94) (fun _ h9 => h9) dX0_typeOfGroup_34 ?_
        refine lv_iload_n hx hb dX0_typeOfGroup_37 rfl (lv_at hl 0 rfl) ?_
        refine va_ti hx hb hT1 hS (zi_in (by omega)) rfl dX0_typeOfGroup_38 ?_
        refine lv_topi (fun v53 e53 => ?_)
        have hq54 : tyR fg v53 := (Or.inr (Or.inl ⟨r1.toInt.toNat, by omega, ⟨by rw [show fg r1.toInt.toNat = v4 from e4.symm]; omega, hw1.2.1, by rcases hw51 with g | g; (· have g2 := g.2; rw [show v46.toInt.toNat = r1.toInt.toNat + 1 by omega, show v47.toInt.toNat = 8 by omega] at g2; exact g2); (· omega)⟩, e53⟩))
        exact hret v53 () _ _ _ _ dX0_typeOfGroup_39 hq54 (hP.sub [0] rfl) (hD.sub [0] (by decide) rfl) hS
  ·
    have z3 := zi_eq c3
    refine lv_iconst (v := -1) hx hb dX0_typeOfGroup_11 (by decide) ?_
    refine lv_topi (fun v55 e55 => ?_)
    have z55 : v55.toInt = (-1) := zi_c e55 (by decide)
    have hq56 : tyR fg v55 := (Or.inl ⟨z55, by rw [show 8 = r1.toInt.toNat by omega]; exact hw1.2.1⟩)
    exact hret v55 () _ _ _ _ dX0_typeOfGroup_12 hq56 (hP.sub [0] rfl) (hD.sub [0] (by decide) rfl) hS

set_option maxHeartbeats 4000000 in
set_option maxRecDepth 100000 in
theorem c_Co_bitsOf (l : Launch) (D : va_G) (cI cJ cB : ClassId) (ty : Int32) (ch : Int32) (x : Int32) (h1 : 0 ≤ x.toInt ∧ x.toInt < 8) (h2 : 0 ≤ ch.toInt ∧ ch.toInt ≤ 259) (h3 : eT ty → ch.toInt < 256 → x.toInt < 7) :
    ctl l yX0_bitsOf (wsOf yX0_bitsOf cX0_bitsOf 3 (some .long)) (rmL 2 42 0 0) D classes (tys3 cI cJ cB) [.int ty, .int ch, .int x] [] (fun (r : Int64) (u : Unit) => (¬ eT ty → ∀ q, q < 64 → bl r q = bo (8 * x.toInt.toNat) ch x.toInt.toNat q) ∧ (eT ty → ∀ q, q < 64 → bl r q = bo (8 + 8 * x.toInt.toNat) ch x.toInt.toNat q)) (fun u : Unit => ([] : va_W)) := by
  refine ctl.of (by first | exact plainFor_of_name (by decide) | decide +kernel) (Nat.le_of_ble_eq_true rfl) (fun p e s m args below meth c A ls Q h hret => ?_)
  obtain ⟨hx, hb, hml, hown, hts, hnm, hP, hK, hD, hA, hS, hZ, hN, hl⟩ := h
  have hown : s.vm.findClass RX0 = some m.cls := hown
  have hl : lv_has ls 3 [(0, .int ty), (1, .int ch), (2, .int x)] := hl
  have hP : va_P D classes [] s.heap := hP
  have hD : va_D A [] := hD
  have rg_ty := zi_rg ty
  have rg_ch := zi_rg ch
  have rg_x := zi_rg x
  refine lv_iload_n hx hb dX0_bitsOf_0 rfl (lv_at hl 1 rfl) ?_
  refine call_i (wc := []) (wr := []) (run_S (As := [.int ch]) (rest := []) ks_RX0_57 ⟨by decide, by decide⟩ ⟨rfl, rfl⟩ ⟨hx, hb, hml, hown, hts⟩ (c_Co_isData l D cI cJ cB ch  _) ct_blind (ct_pre (wc := []) hK hP hD hS hA hZ hN [] (by decide) rfl rfl) rfl hl.1 rfl (Nat.le_of_ble_eq_true rfl) dX0_bitsOf_1 ⟨Nat.le_of_ble_eq_true rfl, Nat.le_of_ble_eq_true rfl⟩) hP hD hS hA [] [] rfl rfl (by decide) (by decide) (fun r1 u H locs hw1 hP1 hD1 hS1 => ?_)
  have hw1 : (r1.toInt = 1 ∧ ch.toInt < 256) ∨ (r1.toInt = 0 ∧ 256 ≤ ch.toInt) := hw1
  clear hP hD hS
  have hP : va_P D classes [] H := hP1
  have hD : va_D A [] := hD1
  have hS := hS1
  clear hP1 hD1 hS1
  have rg_r1 := zi_rg r1
  refine lv_if_eq (tgt := 16) hx hb dX0_bitsOf_4 (by decide) (fun c2 => ?_) (fun c2 => ?_)
  ·
    have z2 := zi_eq0 c2
    refine lv_iload_n hx hb dX0_bitsOf_16 rfl (lv_at hl 1 rfl) ?_
    refine lv_sipush (v := 259) hx hb dX0_bitsOf_17 (by decide) ?_
    refine lv_topi (fun v3 e3 => ?_)
    have z3 : v3.toInt = 259 := zi_c e3 (by decide)
    refine lv_icmp_ne (tgt := 34) hx hb dX0_bitsOf_20 (by decide) (fun c4 => ?_) (fun c4 => ?_)
    ·
      have z4 := zi_ne c4
      refine lv_lconst (v := 0) hx hb dX0_bitsOf_34 (by decide) ?_
      refine lv_topl (fun v5 e5 => ?_)
      have hq6 : (¬ eT ty → ∀ q, q < 64 → bl v5 q = bo (8 * x.toInt.toNat) ch x.toInt.toNat q) ∧ (eT ty → ∀ q, q < 64 → bl v5 q = bo (8 + 8 * x.toInt.toNat) ch x.toInt.toNat q) := (by refine ⟨fun t q hq => ?_, fun t q hq => ?_⟩ <;> (unfold bo; rw [if_neg (by omega)]) <;> first | (rw [if_neg (by omega), e5]; exact bl_0 _) | (rw [if_pos (by omega), e10, e7, bl_shl (k := 8 + 7 * x.toInt.toNat) (by omega) (by omega) hq, bl_30 _ (by omega)]))
      exact hret v5 () _ _ _ _ dX0_bitsOf_35 hq6 (hP.sub [] rfl) (hD.sub [] (by decide) rfl) hS
    ·
      have z4 := zi_eq c4
      refine lv_ldc2 (v := 30) hx hb hown (hts _ wk117) dX0_bitsOf_23 ?_
      refine lv_topl (fun v7 e7 => ?_)
      refine lv_iload_n hx hb dX0_bitsOf_26 rfl (lv_at hl 2 rfl) ?_
      have hh8 : 0 ≤ x.toInt ∧ x.toInt < 8 := (by omega)
      refine call_i (wc := []) (wr := []) (run_S (As := [.int x]) (rest := [.long v7]) ks_RX0_54 ⟨by decide, by decide⟩ ⟨rfl, rfl⟩ ⟨hx, hb, hml, hown, hts⟩ (c_Co_codeShift l D cI cJ cB x hh8 _) ct_blind (ct_pre (wc := []) hK hP hD hS hA hZ hN [] (by decide) rfl rfl) rfl hl.1 rfl (Nat.le_of_ble_eq_true rfl) dX0_bitsOf_27 ⟨Nat.le_of_ble_eq_true rfl, Nat.le_of_ble_eq_true rfl⟩) hP hD hS hA [] [] rfl rfl (by decide) (by decide) (fun r9 u H locs hw9 hP1 hD1 hS1 => ?_)
      have hw9 : r9.toInt = 8 + 7 * x.toInt := hw9
      clear hP hD hS
      have hP : va_P D classes [] H := hP1
      have hD : va_D A [] := hD1
      have hS := hS1
      clear hP1 hD1 hS1
      have rg_r9 := zi_rg r9
      refine lv_lshl hx hb dX0_bitsOf_30 rfl ?_
      refine lv_topl (fun v10 e10 => ?_)
      refine lv_goto (tgt := 35) hx hb dX0_bitsOf_31 (by decide) ?_
      have hq11 : (¬ eT ty → ∀ q, q < 64 → bl v10 q = bo (8 * x.toInt.toNat) ch x.toInt.toNat q) ∧ (eT ty → ∀ q, q < 64 → bl v10 q = bo (8 + 8 * x.toInt.toNat) ch x.toInt.toNat q) := (by refine ⟨fun t q hq => ?_, fun t q hq => ?_⟩ <;> (unfold bo; rw [if_neg (by omega)]) <;> first | (rw [if_neg (by omega), e5]; exact bl_0 _) | (rw [if_pos (by omega), e10, e7, bl_shl (k := 8 + 7 * x.toInt.toNat) (by omega) (by omega) hq, bl_30 _ (by omega)]))
      exact hret v10 () _ _ _ _ dX0_bitsOf_35 hq11 (hP.sub [] rfl) (hD.sub [] (by decide) rfl) hS
  ·
    have z2 := zi_ne0 c2
    refine lv_iload_n hx hb dX0_bitsOf_7 rfl (lv_at hl 1 rfl) ?_
    refine lv_i2l hx hb dX0_bitsOf_8 rfl ?_
    refine lv_topl (fun v12 e12 => ?_)
    refine lv_iload_n hx hb dX0_bitsOf_9 rfl (lv_at hl 0 rfl) ?_
    refine lv_iload_n hx hb dX0_bitsOf_10 rfl (lv_at hl 2 rfl) ?_
    have hh13 : 0 ≤ x.toInt ∧ x.toInt < 8 := (by omega)
    refine call_i (wc := []) (wr := []) (run_S (As := [.int ty, .int x]) (rest := [.long v12]) ks_RX0_50 ⟨by decide, by decide⟩ ⟨rfl, rfl⟩ ⟨hx, hb, hml, hown, hts⟩ (c_Co_dataShift l D cI cJ cB ty x hh13 _) ct_blind (ct_pre (wc := []) hK hP hD hS hA hZ hN [] (by decide) rfl rfl) rfl hl.1 rfl (Nat.le_of_ble_eq_true rfl) dX0_bitsOf_11 ⟨Nat.le_of_ble_eq_true rfl, Nat.le_of_ble_eq_true rfl⟩) hP hD hS hA [] [] rfl rfl (by decide) (by decide) (fun r14 u H locs hw14 hP1 hD1 hS1 => ?_)
    have hw14 : (¬ eT ty → r14.toInt = 8 * x.toInt) ∧ (eT ty → r14.toInt = 8 + 8 * x.toInt) := hw14
    clear hP hD hS
    have hP : va_P D classes [] H := hP1
    have hD : va_D A [] := hD1
    have hS := hS1
    clear hP1 hD1 hS1
    have rg_r14 := zi_rg r14
    refine lv_lshl hx hb dX0_bitsOf_14 rfl ?_
    refine lv_topl (fun v15 e15 => ?_)
    have hq16 : (¬ eT ty → ∀ q, q < 64 → bl v15 q = bo (8 * x.toInt.toNat) ch x.toInt.toNat q) ∧ (eT ty → ∀ q, q < 64 → bl v15 q = bo (8 + 8 * x.toInt.toNat) ch x.toInt.toNat q) := (by refine ⟨fun t q hq => ?_, fun t q hq => ?_⟩; (· have w := hw14.1 t; unfold bo; rw [if_pos (by omega), e15, e12, bl_shl (k := 8 * x.toInt.toNat) (by omega) (by omega) hq, bl_cn (by omega) (by omega)]); (· have w := hw14.2 t; have w2 := h3 t (by omega); unfold bo; rw [if_pos (by omega), e15, e12, bl_shl (k := 8 + 8 * x.toInt.toNat) (by omega) (by omega) hq, bl_cn (by omega) (by omega)]))
    exact hret v15 () _ _ _ _ dX0_bitsOf_15 hq16 (hP.sub [] rfl) (hD.sub [] (by decide) rfl) hS

set_option maxHeartbeats 4000000 in
set_option maxRecDepth 100000 in
theorem c_Co_payloadOf (l : Launch) (D : va_G) (cI cJ cB : ClassId) (aG : Nat) (fg : Nat → Int32) (ty : Int32) (h1 : ∀ j, j < 8 → 0 ≤ (fg j).toInt ∧ (fg j).toInt ≤ 259) (h2 : eT ty → 256 ≤ (fg 7).toInt) (h3 : ty.toInt = -1 ∨ (0 ≤ ty.toInt ∧ ty.toInt ≤ 255)) :
    ctl l yX0_payloadOf (wsOf yX0_payloadOf cX0_payloadOf 5 (some .long)) (rmL 3 64 0 0) D classes (tys3 cI cJ cB) [.int ty, .ref aG] [(aG, .inl (cI, 8, .inl fg))] (fun (r : Int64) (u : Unit) => pbits fg ty r) (fun u : Unit => ([(aG, .inl (cI, 8, .inl fg))] : va_W)) := by
  refine ctl.of (by first | exact plainFor_of_name (by decide) | decide +kernel) (Nat.le_of_ble_eq_true rfl) (fun p e s m args below meth c A ls Q h hret => ?_)
  obtain ⟨hx, hb, hml, hown, hts, hnm, hP, hK, hD, hA, hS, hZ, hN, hl⟩ := h
  have hown : s.vm.findClass RX0 = some m.cls := hown
  have hl : lv_has ls 5 [(0, .int ty), (1, .ref aG)] := hl
  have hP : va_P D classes [(aG, .inl (cI, 8, .inl fg))] s.heap := hP
  have hD : va_D A [(aG, .inl (cI, 8, .inl fg))] := hD
  have rg_ty := zi_rg ty
  have J15 : ∀ (n : Nat) (pl : Int64) (k : Int32) (H : Heap) (locs : List Loc) (ls : Array Slot), ((8 - k.toInt).toNat) < n → (0 ≤ k.toInt ∧ k.toInt ≤ 8) → ((¬ eT ty → ∀ q, q < 64 → bl pl q = (tb ty q || orb (fun j => bo (0 + 8 * j) (fg j) j q) k.toInt.toNat)) ∧ (eT ty → ∀ q, q < 64 → bl pl q = (tb ty q || orb (fun j => bo (8 + 8 * j) (fg j) j q) k.toInt.toNat))) → va_P D classes [(aG, .inl (cI, 8, .inl fg))] H → va_D A [(aG, .inl (cI, 8, .inl fg))] → va_S A s.heap H locs → lv_has ls 5 [(0, .int ty), (1, .ref aG), (2, .long pl), (4, .int k)] → W p l e (rmL 3 64 0 0) s m args below meth c H locs 0 0 Q (F0 m 15 ls []) := by
    intro n
    induction n with
    | zero => intro pl k H locs ls hmu; exact absurd hmu (Nat.not_lt_zero _)
    | succ n ih15 =>
      intro pl k H locs ls hmu15 i15_0 i15_1 hP hD hS hl
      have rg_k := zi_rg k
      refine lv_iload hx hb dX0_payloadOf_15 (lv_at hl 3 rfl) ?_
      refine lv_bipush (v := 8) hx hb dX0_payloadOf_17 (by decide) ?_
      refine lv_topi (fun v1 e1 => ?_)
      have z1 : v1.toInt = 8 := zi_c e1 (by decide)
      refine lv_icmp_ge (tgt := 41) hx hb dX0_payloadOf_19 (by decide) (fun c2 => ?_) (fun c2 => ?_)
      ·
        have z2 := zi_le c2
        refine lv_lload_n hx hb dX0_payloadOf_41 rfl (lv_at hl 2 rfl) ?_
        have hq3 : pbits fg ty pl := (by have q8 := i15_1; rw [show k.toInt.toNat = 8 by omega] at q8; exact q8)
        exact hret pl () _ _ _ _ dX0_payloadOf_42 hq3 (hP.sub [0] rfl) (hD.sub [0] (by decide) rfl) hS
      ·
        have z2 := zi_nle c2
        refine lv_lload_n hx hb dX0_payloadOf_22 rfl (lv_at hl 2 rfl) ?_
        refine lv_iload_n hx hb dX0_payloadOf_23 rfl (lv_at hl 0 rfl) ?_
        refine lv_aload_n hx hb dX0_payloadOf_24 rfl (lv_at hl 1 rfl) ?_
        refine lv_iload hx hb dX0_payloadOf_25 (lv_at hl 3 rfl) ?_
        refine va_iald hx hb hK hP 0 0 rfl rfl (zi_in (by omega)) dX0_payloadOf_27 ?_
        refine lv_topi (fun v4 e4 => ?_)
        refine lv_iload hx hb dX0_payloadOf_28 (lv_at hl 3 rfl) ?_
        have hh5 : 0 ≤ k.toInt ∧ k.toInt < 8 := (by omega)
        have hh6 : 0 ≤ v4.toInt ∧ v4.toInt ≤ 259 := (by rw [e4]; exact h1 _ (by show k.toInt.toNat < 8; omega))
        have hh7 : eT ty → v4.toInt < 256 → k.toInt < 7 := (fun t q => by rcases (show k.toInt < 7 ∨ k.toInt = 7 by omega) with g | g; (· exact g); (· have q7 := h2 t; rw [show fg 7 = v4 from by rw [e4, show k.toNatClampNeg = 7 from by show k.toInt.toNat = 7; omega]] at q7; omega))
        refine call_l (wc := []) (wr := [(aG, .inl (cI, 8, .inl fg))]) (run_S (As := [.int ty, .int v4, .int k]) (rest := [.long pl]) ks_RX0_27 ⟨by decide, by decide⟩ ⟨rfl, rfl⟩ ⟨hx, hb, hml, hown, hts⟩ (c_Co_bitsOf l D cI cJ cB ty v4 k hh5 hh6 hh7 _) ct_blind (ct_pre (wc := []) hK hP hD hS hA hZ hN [] (by decide) rfl rfl) rfl hl.1 rfl (Nat.le_of_ble_eq_true rfl) dX0_payloadOf_30 ⟨Nat.le_of_ble_eq_true rfl, Nat.le_of_ble_eq_true rfl⟩) hP hD hS hA [] [0] rfl rfl (by decide) (by decide) (fun r8 u H locs hw8 hP1 hD1 hS1 => ?_)
        have hw8 : (¬ eT ty → ∀ q, q < 64 → bl r8 q = bo (8 * k.toInt.toNat) v4 k.toInt.toNat q) ∧ (eT ty → ∀ q, q < 64 → bl r8 q = bo (8 + 8 * k.toInt.toNat) v4 k.toInt.toNat q) := hw8
        clear hP hD hS
        have hP : va_P D classes [(aG, .inl (cI, 8, .inl fg))] H := hP1
        have hD : va_D A [(aG, .inl (cI, 8, .inl fg))] := hD1
        have hS := hS1
        clear hP1 hD1 hS1
        refine lv_lor hx hb dX0_payloadOf_33 ?_
        refine lv_topl (fun v9 e9 => ?_)
        refine lv_lstore_n (lv' := [(2, .long v9), (0, .int ty), (1, .ref aG), (4, .int k)]) hx hb dX0_payloadOf_34 rfl hl (by decide) rfl (fun ls hl => ?_)
        obtain ⟨v10, e10⟩ : ∃ y : Int32, y = k + 1 := ⟨_, rfl⟩
        first | have z10 := zi_inc (z := 1) 1 (by decide) e10 (by omega) | skip
        refine lv_iinc (v := v10) (lv' := [(4, .int v10), (2, .long v9), (0, .int ty), (1, .ref aG)]) hx hb dX0_payloadOf_35 hl (k := 3) rfl (by rw [e10]; rfl) (by decide) rfl (fun ls hl => ?_)
        refine lv_goto (tgt := 15) hx hb dX0_payloadOf_38 (by decide) ?_
        exact ih15 v9 v10 _ _ _ (by omega) (by omega) (by have x4 : fg k.toInt.toNat = v4 := e4.symm; rw [show v10.toInt.toNat = k.toInt.toNat + 1 by omega]; refine ⟨fun t q hq => ?_, fun t q hq => ?_⟩; (· rw [e9, bl_or, i15_1.1 t q hq, hw8.1 t q hq]; show _ = (_ || (orb _ _ || bo (0 + 8 * k.toInt.toNat) (fg k.toInt.toNat) k.toInt.toNat q)); rw [x4, Nat.zero_add, Bool.or_assoc]); (· rw [e9, bl_or, i15_1.2 t q hq, hw8.2 t q hq]; show _ = (_ || (orb _ _ || bo (8 + 8 * k.toInt.toNat) (fg k.toInt.toNat) k.toInt.toNat q)); rw [x4, Bool.or_assoc])) (hP.sub [0] rfl) (hD.sub [0] (by decide) rfl) hS (lv_sub hl [2, 3, 1, 0] rfl)
  refine lv_iload_n hx hb dX0_payloadOf_0 rfl (lv_at hl 0 rfl) ?_
  refine lv_iconst (v := -1) hx hb dX0_payloadOf_1 (by decide) ?_
  refine lv_topi (fun v11 e11 => ?_)
  have z11 : v11.toInt = (-1) := zi_c e11 (by decide)
  refine lv_icmp_ne (tgt := 9) hx hb dX0_payloadOf_2 (by decide) (fun c12 => ?_) (fun c12 => ?_)
  ·
    have z12 := zi_ne c12
    refine lv_iload_n hx hb dX0_payloadOf_9 rfl (lv_at hl 0 rfl) ?_
    refine lv_i2l hx hb dX0_payloadOf_10 rfl ?_
    refine lv_topl (fun v13 e13 => ?_)
    refine lv_lstore_n (lv' := [(2, .long v13), (0, .int ty), (1, .ref aG)]) hx hb dX0_payloadOf_11 rfl hl (by decide) rfl (fun ls hl => ?_)
    refine lv_iconst (v := 0) hx hb dX0_payloadOf_12 (by decide) ?_
    refine lv_topi (fun v14 e14 => ?_)
    have z14 : v14.toInt = 0 := zi_c e14 (by decide)
    refine lv_istore (lv' := [(4, .int v14), (2, .long v13), (0, .int ty), (1, .ref aG)]) hx hb dX0_payloadOf_13 hl (by decide) rfl (fun ls hl => ?_)
    exact J15 _ v13 v14 _ _ _ (Nat.lt_succ_self _) (by omega) (by refine ⟨fun t q hq => ?_, fun t q hq => ?_⟩ <;> (unfold tb) <;> first | (rw [if_neg (by omega), e13, bl_cn (by omega) hq, show v14.toInt.toNat = 0 by omega]; simp [orb]; done) | (rw [if_pos (by omega), e15, bl_0, show v16.toInt.toNat = 0 by omega]; simp [orb]; done)) (hP.sub [0] rfl) (hD.sub [0] (by decide) rfl) hS (lv_sub hl [2, 3, 1, 0] rfl)
  ·
    have z12 := zi_eq c12
    refine lv_lconst (v := 0) hx hb dX0_payloadOf_5 (by decide) ?_
    refine lv_topl (fun v15 e15 => ?_)
    refine lv_goto (tgt := 11) hx hb dX0_payloadOf_6 (by decide) ?_
    refine lv_lstore_n (lv' := [(2, .long v15), (0, .int ty), (1, .ref aG)]) hx hb dX0_payloadOf_11 rfl hl (by decide) rfl (fun ls hl => ?_)
    refine lv_iconst (v := 0) hx hb dX0_payloadOf_12 (by decide) ?_
    refine lv_topi (fun v16 e16 => ?_)
    have z16 : v16.toInt = 0 := zi_c e16 (by decide)
    refine lv_istore (lv' := [(4, .int v16), (2, .long v15), (0, .int ty), (1, .ref aG)]) hx hb dX0_payloadOf_13 hl (by decide) rfl (fun ls hl => ?_)
    exact J15 _ v15 v16 _ _ _ (Nat.lt_succ_self _) (by omega) (by refine ⟨fun t q hq => ?_, fun t q hq => ?_⟩ <;> (unfold tb) <;> first | (rw [if_neg (by omega), e13, bl_cn (by omega) hq, show v14.toInt.toNat = 0 by omega]; simp [orb]; done) | (rw [if_pos (by omega), e15, bl_0, show v16.toInt.toNat = 0 by omega]; simp [orb]; done)) (hP.sub [0] rfl) (hD.sub [0] (by decide) rfl) hS (lv_sub hl [2, 3, 1, 0] rfl)

set_option maxHeartbeats 4000000 in
set_option maxRecDepth 100000 in
theorem c_Co_typeOfBlock (l : Launch) (D : va_G) (cI cJ cB : ClassId) (hd : Int32) (pl : Int64)  :
    cti l yX0_typeOfBlock (wsOf yX0_typeOfBlock cX0_typeOfBlock 3 (some .int)) (rmL 0 0 0 0) D classes (tys3 cI cJ cB) [.int hd, .long pl] [] (fun (r : Int32) (u : Unit) => True) (fun u : Unit => ([] : va_W)) := by
  refine cti.of (by first | exact plainFor_of_name (by decide) | decide +kernel) (Nat.le_of_ble_eq_true rfl) (fun p e s m args below meth c A ls Q h hret => ?_)
  obtain ⟨hx, hb, hml, hown, hts, hnm, hP, hK, hD, hA, hS, hZ, hN, hl⟩ := h
  have hown : s.vm.findClass RX0 = some m.cls := hown
  have hl : lv_has ls 3 [(0, .int hd), (1, .long pl)] := hl
  have hP : va_P D classes [] s.heap := hP
  have hD : va_D A [] := hD
  have rg_hd := zi_rg hd
  refine lv_iload_n hx hb dX0_typeOfBlock_0 rfl (lv_at hl 0 rfl) ?_
  refine lv_iconst (v := 1) hx hb dX0_typeOfBlock_1 (by decide) ?_
  refine lv_topi (fun v1 e1 => ?_)
  have z1 : v1.toInt = 1 := zi_c e1 (by decide)
  refine lv_icmp_ne (tgt := 7) hx hb dX0_typeOfBlock_2 (by decide) (fun c2 => ?_) (fun c2 => ?_)
  ·
    have z2 := zi_ne c2
    refine lv_iload_n hx hb dX0_typeOfBlock_7 rfl (lv_at hl 0 rfl) ?_
    refine lv_iconst (v := 2) hx hb dX0_typeOfBlock_8 (by decide) ?_
    refine lv_topi (fun v3 e3 => ?_)
    have z3 : v3.toInt = 2 := zi_c e3 (by decide)
    refine lv_icmp_ne (tgt := 21) hx hb dX0_typeOfBlock_9 (by decide) (fun c4 => ?_) (fun c4 => ?_)
    ·
      have z4 := zi_ne c4
      refine lv_bipush (v := -2) hx hb dX0_typeOfBlock_21 (by decide) ?_
      refine lv_topi (fun v5 e5 => ?_)
      have z5 : v5.toInt = (-2) := zi_c e5 (by decide)
      exact hret v5 () _ _ _ _ dX0_typeOfBlock_23 trivial (hP.sub [] rfl) (hD.sub [] (by decide) rfl) hS
    ·
      have z4 := zi_eq c4
      refine lv_lload_n hx hb dX0_typeOfBlock_12 rfl (lv_at hl 1 rfl) ?_
      refine lv_l2i hx hb dX0_typeOfBlock_13 rfl ?_
      refine lv_topi (fun v7 e7 => ?_)
      refine lv_sipush (v := 255) hx hb dX0_typeOfBlock_14 (by decide) ?_
      refine lv_topi (fun v8 e8 => ?_)
      have z8 : v8.toInt = 255 := zi_c e8 (by decide)
      refine lv_iand hx hb dX0_typeOfBlock_17 ?_
      refine lv_topi (fun v9 e9 => ?_)
      have z9 := zi_and e9 e8 8 (z := 256) (by decide) (by decide) (by decide)
      refine lv_goto (tgt := 23) hx hb dX0_typeOfBlock_18 (by decide) ?_
      exact hret v9 () _ _ _ _ dX0_typeOfBlock_23 trivial (hP.sub [] rfl) (hD.sub [] (by decide) rfl) hS
  ·
    have z2 := zi_eq c2
    refine lv_iconst (v := -1) hx hb dX0_typeOfBlock_5 (by decide) ?_
    refine lv_topi (fun v11 e11 => ?_)
    have z11 : v11.toInt = (-1) := zi_c e11 (by decide)
    exact hret v11 () _ _ _ _ dX0_typeOfBlock_6 trivial (hP.sub [] rfl) (hD.sub [] (by decide) rfl) hS

set_option maxHeartbeats 4000000 in
set_option maxRecDepth 100000 in
theorem c_Co_dataAt (l : Launch) (D : va_G) (cI cJ cB : ClassId) (ty : Int32) (x : Int32) (pl : Int64) (h1 : 0 ≤ x.toInt ∧ x.toInt < 8) :
    cti l yX0_dataAt (wsOf yX0_dataAt cX0_dataAt 4 (some .int)) (rmL 2 42 0 0) D classes (tys3 cI cJ cB) [.int ty, .long pl, .int x] [] (fun (r : Int32) (u : Unit) => True) (fun u : Unit => ([] : va_W)) := by
  refine cti.of (by first | exact plainFor_of_name (by decide) | decide +kernel) (Nat.le_of_ble_eq_true rfl) (fun p e s m args below meth c A ls Q h hret => ?_)
  obtain ⟨hx, hb, hml, hown, hts, hnm, hP, hK, hD, hA, hS, hZ, hN, hl⟩ := h
  have hown : s.vm.findClass RX0 = some m.cls := hown
  have hl : lv_has ls 4 [(0, .int ty), (1, .long pl), (3, .int x)] := hl
  have hP : va_P D classes [] s.heap := hP
  have hD : va_D A [] := hD
  have rg_ty := zi_rg ty
  have rg_x := zi_rg x
  refine lv_lload_n hx hb dX0_dataAt_0 rfl (lv_at hl 1 rfl) ?_
  refine lv_iload_n hx hb dX0_dataAt_1 rfl (lv_at hl 0 rfl) ?_
  refine lv_iload_n hx hb dX0_dataAt_2 rfl (lv_at hl 2 rfl) ?_
  have hh1 : 0 ≤ x.toInt ∧ x.toInt < 8 := (by omega)
  refine call_i (wc := []) (wr := []) (run_S (As := [.int ty, .int x]) (rest := [.long pl]) ks_RX0_50 ⟨by decide, by decide⟩ ⟨rfl, rfl⟩ ⟨hx, hb, hml, hown, hts⟩ (c_Co_dataShift l D cI cJ cB ty x hh1 _) ct_blind (ct_pre (wc := []) hK hP hD hS hA hZ hN [] (by decide) rfl rfl) rfl hl.1 rfl (Nat.le_of_ble_eq_true rfl) dX0_dataAt_3 ⟨Nat.le_of_ble_eq_true rfl, Nat.le_of_ble_eq_true rfl⟩) hP hD hS hA [] [] rfl rfl (by decide) (by decide) (fun r2 u H locs hw2 hP1 hD1 hS1 => ?_)
  have hw2 : (¬ eT ty → r2.toInt = 8 * x.toInt) ∧ (eT ty → r2.toInt = 8 + 8 * x.toInt) := hw2
  clear hP hD hS
  have hP : va_P D classes [] H := hP1
  have hD : va_D A [] := hD1
  have hS := hS1
  clear hP1 hD1 hS1
  have rg_r2 := zi_rg r2
  refine lv_lushr hx hb dX0_dataAt_6 rfl ?_
  refine lv_topl (fun v3 e3 => ?_)
  refine lv_l2i hx hb dX0_dataAt_7 rfl ?_
  refine lv_topi (fun v4 e4 => ?_)
  refine lv_sipush (v := 255) hx hb dX0_dataAt_8 (by decide) ?_
  refine lv_topi (fun v5 e5 => ?_)
  have z5 : v5.toInt = 255 := zi_c e5 (by decide)
  refine lv_iand hx hb dX0_dataAt_11 ?_
  refine lv_topi (fun v6 e6 => ?_)
  have z6 := zi_and e6 e5 8 (z := 256) (by decide) (by decide) (by decide)
  exact hret v6 () _ _ _ _ dX0_dataAt_12 trivial (hP.sub [] rfl) (hD.sub [] (by decide) rfl) hS

set_option maxHeartbeats 4000000 in
set_option maxRecDepth 100000 in
theorem c_Co_codedAt (l : Launch) (D : va_G) (cI cJ cB : ClassId) (x : Int32) (pl : Int64) (h1 : 0 ≤ x.toInt ∧ x.toInt < 8) :
    cti l yX0_codedAt (wsOf yX0_codedAt cX0_codedAt 4 (some .int)) (rmL 1 20 0 0) D classes (tys3 cI cJ cB) [.long pl, .int x] [] (fun (r : Int32) (u : Unit) => True) (fun u : Unit => ([] : va_W)) := by
  refine cti.of (by first | exact plainFor_of_name (by decide) | decide +kernel) (Nat.le_of_ble_eq_true rfl) (fun p e s m args below meth c A ls Q h hret => ?_)
  obtain ⟨hx, hb, hml, hown, hts, hnm, hP, hK, hD, hA, hS, hZ, hN, hl⟩ := h
  have hown : s.vm.findClass RX0 = some m.cls := hown
  have hl : lv_has ls 4 [(0, .long pl), (2, .int x)] := hl
  have hP : va_P D classes [] s.heap := hP
  have hD : va_D A [] := hD
  have rg_x := zi_rg x
  refine lv_lload_n hx hb dX0_codedAt_0 rfl (lv_at hl 0 rfl) ?_
  refine lv_iload_n hx hb dX0_codedAt_1 rfl (lv_at hl 1 rfl) ?_
  have hh1 : 0 ≤ x.toInt ∧ x.toInt < 8 := (by omega)
  refine call_i (wc := []) (wr := []) (run_S (As := [.int x]) (rest := [.long pl]) ks_RX0_54 ⟨by decide, by decide⟩ ⟨rfl, rfl⟩ ⟨hx, hb, hml, hown, hts⟩ (c_Co_codeShift l D cI cJ cB x hh1 _) ct_blind (ct_pre (wc := []) hK hP hD hS hA hZ hN [] (by decide) rfl rfl) rfl hl.1 rfl (Nat.le_of_ble_eq_true rfl) dX0_codedAt_2 ⟨Nat.le_of_ble_eq_true rfl, Nat.le_of_ble_eq_true rfl⟩) hP hD hS hA [] [] rfl rfl (by decide) (by decide) (fun r2 u H locs hw2 hP1 hD1 hS1 => ?_)
  have hw2 : r2.toInt = 8 + 7 * x.toInt := hw2
  clear hP hD hS
  have hP : va_P D classes [] H := hP1
  have hD : va_D A [] := hD1
  have hS := hS1
  clear hP1 hD1 hS1
  have rg_r2 := zi_rg r2
  refine lv_lushr hx hb dX0_codedAt_5 rfl ?_
  refine lv_topl (fun v3 e3 => ?_)
  refine lv_l2i hx hb dX0_codedAt_6 rfl ?_
  refine lv_topi (fun v4 e4 => ?_)
  refine lv_bipush (v := 127) hx hb dX0_codedAt_7 (by decide) ?_
  refine lv_topi (fun v5 e5 => ?_)
  have z5 : v5.toInt = 127 := zi_c e5 (by decide)
  refine lv_iand hx hb dX0_codedAt_9 ?_
  refine lv_topi (fun v6 e6 => ?_)
  have z6 := zi_and e6 e5 7 (z := 128) (by decide) (by decide) (by decide)
  refine lv_istore_n (lv' := [(3, .int v6), (0, .long pl), (2, .int x)]) hx hb dX0_codedAt_10 rfl hl (by decide) rfl (fun ls hl => ?_)
  refine lv_iload_n hx hb dX0_codedAt_11 rfl (lv_at hl 0 rfl) ?_
  refine lv_if_ne (tgt := 21) hx hb dX0_codedAt_12 (by decide) (fun c7 => ?_) (fun c7 => ?_)
  ·
    have z7 := zi_ne0 c7
    refine lv_sipush (v := 259) hx hb dX0_codedAt_21 (by decide) ?_
    refine lv_topi (fun v8 e8 => ?_)
    have z8 : v8.toInt = 259 := zi_c e8 (by decide)
    exact hret v8 () _ _ _ _ dX0_codedAt_24 trivial (hP.sub [] rfl) (hD.sub [] (by decide) rfl) hS
  ·
    have z7 := zi_eq0 c7
    refine lv_sipush (v := 256) hx hb dX0_codedAt_15 (by decide) ?_
    refine lv_topi (fun v10 e10 => ?_)
    have z10 : v10.toInt = 256 := zi_c e10 (by decide)
    refine lv_goto (tgt := 24) hx hb dX0_codedAt_18 (by decide) ?_
    exact hret v10 () _ _ _ _ dX0_codedAt_24 trivial (hP.sub [] rfl) (hD.sub [] (by decide) rfl) hS

set_option maxHeartbeats 4000000 in
set_option maxRecDepth 100000 in
theorem c_Co_characterByEnd (l : Launch) (D : va_G) (cI cJ cB : ClassId) (en : Int32) (ty : Int32) (x : Int32) (pl : Int64) (h1 : 0 ≤ x.toInt ∧ x.toInt < 8) :
    cti l yX0_characterByEnd (wsOf yX0_characterByEnd cX0_characterByEnd 5 (some .int)) (rmL 3 65 0 0) D classes (tys3 cI cJ cB) [.int en, .int ty, .long pl, .int x] [] (fun (r : Int32) (u : Unit) => True) (fun u : Unit => ([] : va_W)) := by
  refine cti.of (by first | exact plainFor_of_name (by decide) | decide +kernel) (Nat.le_of_ble_eq_true rfl) (fun p e s m args below meth c A ls Q h hret => ?_)
  obtain ⟨hx, hb, hml, hown, hts, hnm, hP, hK, hD, hA, hS, hZ, hN, hl⟩ := h
  have hown : s.vm.findClass RX0 = some m.cls := hown
  have hl : lv_has ls 5 [(0, .int en), (1, .int ty), (2, .long pl), (4, .int x)] := hl
  have hP : va_P D classes [] s.heap := hP
  have hD : va_D A [] := hD
  have rg_en := zi_rg en
  have rg_ty := zi_rg ty
  have rg_x := zi_rg x
  refine lv_iload hx hb dX0_characterByEnd_0 (lv_at hl 3 rfl) ?_
  refine lv_iload_n hx hb dX0_characterByEnd_2 rfl (lv_at hl 0 rfl) ?_
  refine lv_icmp_ne (tgt := 10) hx hb dX0_characterByEnd_3 (by decide) (fun c1 => ?_) (fun c1 => ?_)
  ·
    have z1 := zi_ne c1
    refine lv_iload hx hb dX0_characterByEnd_10 (lv_at hl 3 rfl) ?_
    refine lv_iload_n hx hb dX0_characterByEnd_12 rfl (lv_at hl 0 rfl) ?_
    refine lv_icmp_ge (tgt := 26) hx hb dX0_characterByEnd_13 (by decide) (fun c2 => ?_) (fun c2 => ?_)
    ·
      have z2 := zi_le c2
      refine lv_lload_n hx hb dX0_characterByEnd_26 rfl (lv_at hl 2 rfl) ?_
      refine lv_iload hx hb dX0_characterByEnd_27 (lv_at hl 3 rfl) ?_
      have hh3 : 0 ≤ x.toInt ∧ x.toInt < 8 := (by omega)
      refine call_i (wc := []) (wr := []) (run_S (As := [.long pl, .int x]) (rest := []) ks_RX0_43 ⟨by decide, by decide⟩ ⟨rfl, rfl⟩ ⟨hx, hb, hml, hown, hts⟩ (c_Co_codedAt l D cI cJ cB x pl hh3 _) ct_blind (ct_pre (wc := []) hK hP hD hS hA hZ hN [] (by decide) rfl rfl) rfl hl.1 rfl (Nat.le_of_ble_eq_true rfl) dX0_characterByEnd_29 ⟨Nat.le_of_ble_eq_true rfl, Nat.le_of_ble_eq_true rfl⟩) hP hD hS hA [] [] rfl rfl (by decide) (by decide) (fun r4 u H locs hw4 hP1 hD1 hS1 => ?_)
      clear hw4
      clear hP hD hS
      have hP : va_P D classes [] H := hP1
      have hD : va_D A [] := hD1
      have hS := hS1
      clear hP1 hD1 hS1
      have rg_r4 := zi_rg r4
      exact hret r4 () _ _ _ _ dX0_characterByEnd_32 trivial (hP.sub [] rfl) (hD.sub [] (by decide) rfl) hS
    ·
      have z2 := zi_nle c2
      refine lv_iload_n hx hb dX0_characterByEnd_16 rfl (lv_at hl 1 rfl) ?_
      refine lv_lload_n hx hb dX0_characterByEnd_17 rfl (lv_at hl 2 rfl) ?_
      refine lv_iload hx hb dX0_characterByEnd_18 (lv_at hl 3 rfl) ?_
      have hh6 : 0 ≤ x.toInt ∧ x.toInt < 8 := (by omega)
      refine call_i (wc := []) (wr := []) (run_S (As := [.int ty, .long pl, .int x]) (rest := []) ks_RX0_39 ⟨by decide, by decide⟩ ⟨rfl, rfl⟩ ⟨hx, hb, hml, hown, hts⟩ (c_Co_dataAt l D cI cJ cB ty x pl hh6 _) ct_blind (ct_pre (wc := []) hK hP hD hS hA hZ hN [] (by decide) rfl rfl) rfl hl.1 rfl (Nat.le_of_ble_eq_true rfl) dX0_characterByEnd_20 ⟨Nat.le_of_ble_eq_true rfl, Nat.le_of_ble_eq_true rfl⟩) hP hD hS hA [] [] rfl rfl (by decide) (by decide) (fun r7 u H locs hw7 hP1 hD1 hS1 => ?_)
      clear hw7
      clear hP hD hS
      have hP : va_P D classes [] H := hP1
      have hD : va_D A [] := hD1
      have hS := hS1
      clear hP1 hD1 hS1
      have rg_r7 := zi_rg r7
      refine lv_goto (tgt := 32) hx hb dX0_characterByEnd_23 (by decide) ?_
      exact hret r7 () _ _ _ _ dX0_characterByEnd_32 trivial (hP.sub [] rfl) (hD.sub [] (by decide) rfl) hS
  ·
    have z1 := zi_eq c1
    refine lv_sipush (v := 258) hx hb dX0_characterByEnd_6 (by decide) ?_
    refine lv_topi (fun v9 e9 => ?_)
    have z9 : v9.toInt = 258 := zi_c e9 (by decide)
    exact hret v9 () _ _ _ _ dX0_characterByEnd_9 trivial (hP.sub [] rfl) (hD.sub [] (by decide) rfl) hS

set_option maxHeartbeats 4000000 in
set_option maxRecDepth 100000 in
theorem c_Co_characterByMiddleStart (l : Launch) (D : va_G) (cI cJ cB : ClassId) (x : Int32) (pl : Int64) (h1 : 0 ≤ x.toInt ∧ x.toInt < 8) :
    cti l yX0_characterByMiddleStart (wsOf yX0_characterByMiddleStart cX0_characterByMiddleStart 3 (some .int)) (rmL 3 65 0 0) D classes (tys3 cI cJ cB) [.long pl, .int x] [] (fun (r : Int32) (u : Unit) => True) (fun u : Unit => ([] : va_W)) := by
  refine cti.of (by first | exact plainFor_of_name (by decide) | decide +kernel) (Nat.le_of_ble_eq_true rfl) (fun p e s m args below meth c A ls Q h hret => ?_)
  obtain ⟨hx, hb, hml, hown, hts, hnm, hP, hK, hD, hA, hS, hZ, hN, hl⟩ := h
  have hown : s.vm.findClass RX0 = some m.cls := hown
  have hl : lv_has ls 3 [(0, .long pl), (2, .int x)] := hl
  have hP : va_P D classes [] s.heap := hP
  have hD : va_D A [] := hD
  have rg_x := zi_rg x
  refine lv_iload_n hx hb dX0_characterByMiddleStart_0 rfl (lv_at hl 1 rfl) ?_
  refine lv_iconst (v := 4) hx hb dX0_characterByMiddleStart_1 (by decide) ?_
  refine lv_topi (fun v1 e1 => ?_)
  have z1 : v1.toInt = 4 := zi_c e1 (by decide)
  refine lv_icmp_ne (tgt := 9) hx hb dX0_characterByMiddleStart_2 (by decide) (fun c2 => ?_) (fun c2 => ?_)
  ·
    have z2 := zi_ne c2
    refine lv_iload_n hx hb dX0_characterByMiddleStart_9 rfl (lv_at hl 1 rfl) ?_
    refine lv_iconst (v := 4) hx hb dX0_characterByMiddleStart_10 (by decide) ?_
    refine lv_topi (fun v3 e3 => ?_)
    have z3 : v3.toInt = 4 := zi_c e3 (by decide)
    refine lv_icmp_ge (tgt := 22) hx hb dX0_characterByMiddleStart_11 (by decide) (fun c4 => ?_) (fun c4 => ?_)
    ·
      have z4 := zi_le c4
      refine lv_bipush (v := 51) hx hb dX0_characterByMiddleStart_22 (by decide) ?_
      refine lv_topi (fun v5 e5 => ?_)
      have z5 : v5.toInt = 51 := zi_c e5 (by decide)
      refine lv_lload_n hx hb dX0_characterByMiddleStart_24 rfl (lv_at hl 0 rfl) ?_
      refine lv_iload_n hx hb dX0_characterByMiddleStart_25 rfl (lv_at hl 1 rfl) ?_
      have hh6 : 0 ≤ x.toInt ∧ x.toInt < 8 := (by omega)
      refine call_i (wc := []) (wr := []) (run_S (As := [.int v5, .long pl, .int x]) (rest := []) ks_RX0_39 ⟨by decide, by decide⟩ ⟨rfl, rfl⟩ ⟨hx, hb, hml, hown, hts⟩ (c_Co_dataAt l D cI cJ cB v5 x pl hh6 _) ct_blind (ct_pre (wc := []) hK hP hD hS hA hZ hN [] (by decide) rfl rfl) rfl hl.1 rfl (Nat.le_of_ble_eq_true rfl) dX0_characterByMiddleStart_26 ⟨Nat.le_of_ble_eq_true rfl, Nat.le_of_ble_eq_true rfl⟩) hP hD hS hA [] [] rfl rfl (by decide) (by decide) (fun r7 u H locs hw7 hP1 hD1 hS1 => ?_)
      clear hw7
      clear hP hD hS
      have hP : va_P D classes [] H := hP1
      have hD : va_D A [] := hD1
      have hS := hS1
      clear hP1 hD1 hS1
      have rg_r7 := zi_rg r7
      exact hret r7 () _ _ _ _ dX0_characterByMiddleStart_29 trivial (hP.sub [] rfl) (hD.sub [] (by decide) rfl) hS
    ·
      have z4 := zi_nle c4
      refine lv_lload_n hx hb dX0_characterByMiddleStart_14 rfl (lv_at hl 0 rfl) ?_
      refine lv_iload_n hx hb dX0_characterByMiddleStart_15 rfl (lv_at hl 1 rfl) ?_
      have hh9 : 0 ≤ x.toInt ∧ x.toInt < 8 := (by omega)
      refine call_i (wc := []) (wr := []) (run_S (As := [.long pl, .int x]) (rest := []) ks_RX0_43 ⟨by decide, by decide⟩ ⟨rfl, rfl⟩ ⟨hx, hb, hml, hown, hts⟩ (c_Co_codedAt l D cI cJ cB x pl hh9 _) ct_blind (ct_pre (wc := []) hK hP hD hS hA hZ hN [] (by decide) rfl rfl) rfl hl.1 rfl (Nat.le_of_ble_eq_true rfl) dX0_characterByMiddleStart_16 ⟨Nat.le_of_ble_eq_true rfl, Nat.le_of_ble_eq_true rfl⟩) hP hD hS hA [] [] rfl rfl (by decide) (by decide) (fun r10 u H locs hw10 hP1 hD1 hS1 => ?_)
      clear hw10
      clear hP hD hS
      have hP : va_P D classes [] H := hP1
      have hD : va_D A [] := hD1
      have hS := hS1
      clear hP1 hD1 hS1
      have rg_r10 := zi_rg r10
      refine lv_goto (tgt := 29) hx hb dX0_characterByMiddleStart_19 (by decide) ?_
      exact hret r10 () _ _ _ _ dX0_characterByMiddleStart_29 trivial (hP.sub [] rfl) (hD.sub [] (by decide) rfl) hS
  ·
    have z2 := zi_eq c2
    refine lv_sipush (v := 257) hx hb dX0_characterByMiddleStart_5 (by decide) ?_
    refine lv_topi (fun v12 e12 => ?_)
    have z12 : v12.toInt = 257 := zi_c e12 (by decide)
    exact hret v12 () _ _ _ _ dX0_characterByMiddleStart_8 trivial (hP.sub [] rfl) (hD.sub [] (by decide) rfl) hS

set_option maxHeartbeats 4000000 in
set_option maxRecDepth 100000 in
theorem c_Co_characterOf (l : Launch) (D : va_G) (cI cJ cB : ClassId) (ty : Int32) (x : Int32) (pl : Int64) (h1 : 0 ≤ x.toInt ∧ x.toInt < 8) :
    cti l yX0_characterOf (wsOf yX0_characterOf cX0_characterOf 5 (some .int)) (rmL 4 89 0 0) D classes (tys3 cI cJ cB) [.int ty, .long pl, .int x] [] (fun (r : Int32) (u : Unit) => True) (fun u : Unit => ([] : va_W)) := by
  refine cti.of (by first | exact plainFor_of_name (by decide) | decide +kernel) (Nat.le_of_ble_eq_true rfl) (fun p e s m args below meth c A ls Q h hret => ?_)
  obtain ⟨hx, hb, hml, hown, hts, hnm, hP, hK, hD, hA, hS, hZ, hN, hl⟩ := h
  have hown : s.vm.findClass RX0 = some m.cls := hown
  have hl : lv_has ls 5 [(0, .int ty), (1, .long pl), (3, .int x)] := hl
  have hP : va_P D classes [] s.heap := hP
  have hD : va_D A [] := hD
  have rg_ty := zi_rg ty
  have rg_x := zi_rg x
  refine lv_iload_n hx hb dX0_characterOf_0 rfl (lv_at hl 0 rfl) ?_
  refine call_i (wc := []) (wr := []) (run_S (As := [.int ty]) (rest := []) ks_RX0_31 ⟨by decide, by decide⟩ ⟨rfl, rfl⟩ ⟨hx, hb, hml, hown, hts⟩ (c_Co_endPlace l D cI cJ cB ty  _) ct_blind (ct_pre (wc := []) hK hP hD hS hA hZ hN [] (by decide) rfl rfl) rfl hl.1 rfl (Nat.le_of_ble_eq_true rfl) dX0_characterOf_1 ⟨Nat.le_of_ble_eq_true rfl, Nat.le_of_ble_eq_true rfl⟩) hP hD hS hA [] [] rfl rfl (by decide) (by decide) (fun r1 u H locs hw1 hP1 hD1 hS1 => ?_)
  have hw1 : (r1.toInt = -1 ∧ ∀ d, d < 8 → ¬ ty = st_k d) ∨ ((0 ≤ r1.toInt ∧ r1.toInt < 8) ∧ ty = st_k r1.toInt.toNat) := hw1
  clear hP hD hS
  have hP : va_P D classes [] H := hP1
  have hD : va_D A [] := hD1
  have hS := hS1
  clear hP1 hD1 hS1
  have rg_r1 := zi_rg r1
  refine lv_istore (lv' := [(4, .int r1), (0, .int ty), (1, .long pl), (3, .int x)]) hx hb dX0_characterOf_4 hl (by decide) rfl (fun ls hl => ?_)
  refine lv_iload hx hb dX0_characterOf_6 (lv_at hl 0 rfl) ?_
  refine lv_iconst (v := -1) hx hb dX0_characterOf_8 (by decide) ?_
  refine lv_topi (fun v2 e2 => ?_)
  have z2 : v2.toInt = (-1) := zi_c e2 (by decide)
  refine lv_icmp_eq (tgt := 21) hx hb dX0_characterOf_9 (by decide) (fun c3 => ?_) (fun c3 => ?_)
  ·
    have z3 := zi_eq c3
    refine lv_iload_n hx hb dX0_characterOf_21 rfl (lv_at hl 1 rfl) ?_
    have hs4 : (¬ ty.toInt = -1 ∧ ¬ ty.toInt = 30 ∧ ¬ ty.toInt = 51 ∧ ¬ ty.toInt = 120) ∨ ty.toInt = -1 ∨ ty.toInt = 30 ∨ ty.toInt = 51 ∨ ty.toInt = 120 := by omega
    rcases hs4 with z4 | z4 | z4 | z4 | z4
    ·
      refine lv_lookup (tgt := 100) (off := 78) hx hb dX0_characterOf_22 (by decide) (by show Op.lookupswitch.offset [(-1, 42), (30, 49), (51, 72), (120, 55)] 78 ty.toInt = 78; rw [Op.lookupswitch.offset_cons, if_neg (by omega), Op.lookupswitch.offset_cons, if_neg (by omega), Op.lookupswitch.offset_cons, if_neg (by omega), Op.lookupswitch.offset_cons, if_neg (by omega)]; rfl) (by decide) ?_
      refine lv_sipush (v := 259) hx hb dX0_characterOf_100 (by decide) ?_
      refine lv_topi (fun v5 e5 => ?_)
      have z5 : v5.toInt = 259 := zi_c e5 (by decide)
      exact hret v5 () _ _ _ _ dX0_characterOf_103 trivial (hP.sub [] rfl) (hD.sub [] (by decide) rfl) hS
    ·
      refine lv_lookup (tgt := 64) (off := 42) hx hb dX0_characterOf_22 (by decide) (by rw [z4]; rfl) (by decide) ?_
      refine lv_iload_n hx hb dX0_characterOf_64 rfl (lv_at hl 1 rfl) ?_
      refine lv_lload_n hx hb dX0_characterOf_65 rfl (lv_at hl 2 rfl) ?_
      refine lv_iload_n hx hb dX0_characterOf_66 rfl (lv_at hl 3 rfl) ?_
      have hh7 : 0 ≤ x.toInt ∧ x.toInt < 8 := (by omega)
      refine call_i (wc := []) (wr := []) (run_S (As := [.int ty, .long pl, .int x]) (rest := []) ks_RX0_39 ⟨by decide, by decide⟩ ⟨rfl, rfl⟩ ⟨hx, hb, hml, hown, hts⟩ (c_Co_dataAt l D cI cJ cB ty x pl hh7 _) ct_blind (ct_pre (wc := []) hK hP hD hS hA hZ hN [] (by decide) rfl rfl) rfl hl.1 rfl (Nat.le_of_ble_eq_true rfl) dX0_characterOf_67 ⟨Nat.le_of_ble_eq_true rfl, Nat.le_of_ble_eq_true rfl⟩) hP hD hS hA [] [] rfl rfl (by decide) (by decide) (fun r8 u H locs hw8 hP1 hD1 hS1 => ?_)
      clear hw8
      clear hP hD hS
      have hP : va_P D classes [] H := hP1
      have hD : va_D A [] := hD1
      have hS := hS1
      clear hP1 hD1 hS1
      have rg_r8 := zi_rg r8
      exact hret r8 () _ _ _ _ dX0_characterOf_70 trivial (hP.sub [] rfl) (hD.sub [] (by decide) rfl) hS
    ·
      refine lv_lookup (tgt := 71) (off := 49) hx hb dX0_characterOf_22 (by decide) (by rw [z4]; rfl) (by decide) ?_
      refine lv_lload_n hx hb dX0_characterOf_71 rfl (lv_at hl 2 rfl) ?_
      refine lv_iload_n hx hb dX0_characterOf_72 rfl (lv_at hl 3 rfl) ?_
      have hh10 : 0 ≤ x.toInt ∧ x.toInt < 8 := (by omega)
      refine call_i (wc := []) (wr := []) (run_S (As := [.long pl, .int x]) (rest := []) ks_RX0_43 ⟨by decide, by decide⟩ ⟨rfl, rfl⟩ ⟨hx, hb, hml, hown, hts⟩ (c_Co_codedAt l D cI cJ cB x pl hh10 _) ct_blind (ct_pre (wc := []) hK hP hD hS hA hZ hN [] (by decide) rfl rfl) rfl hl.1 rfl (Nat.le_of_ble_eq_true rfl) dX0_characterOf_73 ⟨Nat.le_of_ble_eq_true rfl, Nat.le_of_ble_eq_true rfl⟩) hP hD hS hA [] [] rfl rfl (by decide) (by decide) (fun r11 u H locs hw11 hP1 hD1 hS1 => ?_)
      clear hw11
      clear hP hD hS
      have hP : va_P D classes [] H := hP1
      have hD : va_D A [] := hD1
      have hS := hS1
      clear hP1 hD1 hS1
      have rg_r11 := zi_rg r11
      exact hret r11 () _ _ _ _ dX0_characterOf_76 trivial (hP.sub [] rfl) (hD.sub [] (by decide) rfl) hS
    ·
      refine lv_lookup (tgt := 94) (off := 72) hx hb dX0_characterOf_22 (by decide) (by rw [z4]; rfl) (by decide) ?_
      refine lv_lload_n hx hb dX0_characterOf_94 rfl (lv_at hl 2 rfl) ?_
      refine lv_iload_n hx hb dX0_characterOf_95 rfl (lv_at hl 3 rfl) ?_
      have hh13 : 0 ≤ x.toInt ∧ x.toInt < 8 := (by omega)
      refine call_i (wc := []) (wr := []) (run_S (As := [.long pl, .int x]) (rest := []) ks_RX0_47 ⟨by decide, by decide⟩ ⟨rfl, rfl⟩ ⟨hx, hb, hml, hown, hts⟩ (c_Co_characterByMiddleStart l D cI cJ cB x pl hh13 _) ct_blind (ct_pre (wc := []) hK hP hD hS hA hZ hN [] (by decide) rfl rfl) rfl hl.1 rfl (Nat.le_of_ble_eq_true rfl) dX0_characterOf_96 ⟨Nat.le_of_ble_eq_true rfl, Nat.le_of_ble_eq_true rfl⟩) hP hD hS hA [] [] rfl rfl (by decide) (by decide) (fun r14 u H locs hw14 hP1 hD1 hS1 => ?_)
      clear hw14
      clear hP hD hS
      have hP : va_P D classes [] H := hP1
      have hD : va_D A [] := hD1
      have hS := hS1
      clear hP1 hD1 hS1
      have rg_r14 := zi_rg r14
      exact hret r14 () _ _ _ _ dX0_characterOf_99 trivial (hP.sub [] rfl) (hD.sub [] (by decide) rfl) hS
    ·
      refine lv_lookup (tgt := 77) (off := 55) hx hb dX0_characterOf_22 (by decide) (by rw [z4]; rfl) (by decide) ?_
      refine lv_iload_n hx hb dX0_characterOf_77 rfl (lv_at hl 3 rfl) ?_
      refine lv_if_ne (tgt := 87) hx hb dX0_characterOf_78 (by decide) (fun c16 => ?_) (fun c16 => ?_)
      ·
        have z16 := zi_ne0 c16
        refine lv_iload_n hx hb dX0_characterOf_87 rfl (lv_at hl 1 rfl) ?_
        refine lv_lload_n hx hb dX0_characterOf_88 rfl (lv_at hl 2 rfl) ?_
        refine lv_iload_n hx hb dX0_characterOf_89 rfl (lv_at hl 3 rfl) ?_
        have hh17 : 0 ≤ x.toInt ∧ x.toInt < 8 := (by omega)
        refine call_i (wc := []) (wr := []) (run_S (As := [.int ty, .long pl, .int x]) (rest := []) ks_RX0_39 ⟨by decide, by decide⟩ ⟨rfl, rfl⟩ ⟨hx, hb, hml, hown, hts⟩ (c_Co_dataAt l D cI cJ cB ty x pl hh17 _) ct_blind (ct_pre (wc := []) hK hP hD hS hA hZ hN [] (by decide) rfl rfl) rfl hl.1 rfl (Nat.le_of_ble_eq_true rfl) dX0_characterOf_90 ⟨Nat.le_of_ble_eq_true rfl, Nat.le_of_ble_eq_true rfl⟩) hP hD hS hA [] [] rfl rfl (by decide) (by decide) (fun r18 u H locs hw18 hP1 hD1 hS1 => ?_)
        clear hw18
        clear hP hD hS
        have hP : va_P D classes [] H := hP1
        have hD : va_D A [] := hD1
        have hS := hS1
        clear hP1 hD1 hS1
        have rg_r18 := zi_rg r18
        exact hret r18 () _ _ _ _ dX0_characterOf_93 trivial (hP.sub [] rfl) (hD.sub [] (by decide) rfl) hS
      ·
        have z16 := zi_eq0 c16
        refine lv_sipush (v := 257) hx hb dX0_characterOf_81 (by decide) ?_
        refine lv_topi (fun v20 e20 => ?_)
        have z20 : v20.toInt = 257 := zi_c e20 (by decide)
        refine lv_goto (tgt := 93) hx hb dX0_characterOf_84 (by decide) ?_
        exact hret v20 () _ _ _ _ dX0_characterOf_93 trivial (hP.sub [] rfl) (hD.sub [] (by decide) rfl) hS
  ·
    have z3 := zi_ne c3
    refine lv_iload hx hb dX0_characterOf_12 (lv_at hl 0 rfl) ?_
    refine lv_iload_n hx hb dX0_characterOf_14 rfl (lv_at hl 1 rfl) ?_
    refine lv_lload_n hx hb dX0_characterOf_15 rfl (lv_at hl 2 rfl) ?_
    refine lv_iload_n hx hb dX0_characterOf_16 rfl (lv_at hl 3 rfl) ?_
    have hh22 : 0 ≤ x.toInt ∧ x.toInt < 8 := (by omega)
    refine call_i (wc := []) (wr := []) (run_S (As := [.int r1, .int ty, .long pl, .int x]) (rest := []) ks_RX0_35 ⟨by decide, by decide⟩ ⟨rfl, rfl⟩ ⟨hx, hb, hml, hown, hts⟩ (c_Co_characterByEnd l D cI cJ cB r1 ty x pl hh22 _) ct_blind (ct_pre (wc := []) hK hP hD hS hA hZ hN [] (by decide) rfl rfl) rfl hl.1 rfl (Nat.le_of_ble_eq_true rfl) dX0_characterOf_17 ⟨Nat.le_of_ble_eq_true rfl, Nat.le_of_ble_eq_true rfl⟩) hP hD hS hA [] [] rfl rfl (by decide) (by decide) (fun r23 u H locs hw23 hP1 hD1 hS1 => ?_)
    clear hw23
    clear hP hD hS
    have hP : va_P D classes [] H := hP1
    have hD : va_D A [] := hD1
    have hS := hS1
    clear hP1 hD1 hS1
    have rg_r23 := zi_rg r23
    exact hret r23 () _ _ _ _ dX0_characterOf_20 trivial (hP.sub [] rfl) (hD.sub [] (by decide) rfl) hS
end
section
set_option maxHeartbeats 4000000 in
set_option maxRecDepth 100000 in
theorem c_Se_waitingCount (l : Launch) (D : va_G) (cI cJ cB : ClassId) (aS : Nat) (aC : Nat) (aG : Nat) (wa : Int32)  :
    cti l yX5_waitingCount (wsOf yX5_waitingCount cX5_waitingCount 1 (some .int)) (rmL 0 0 0 0) D classes (tys3 cI cJ cB) [.ref aS] [(aS, .inr (4, [.ref aC, .ref aG, .int wa]))] (fun (r : Int32) (u : Unit) => r.toInt = wa.toInt) (fun u : Unit => ([(aS, .inr (4, [.ref aC, .ref aG, .int wa]))] : va_W)) := by
  refine cti.of (by first | exact plainFor_of_name (by decide) | decide +kernel) (Nat.le_of_ble_eq_true rfl) (fun p e s m args below meth c A ls Q h hret => ?_)
  obtain ⟨hx, hb, hml, hown, hts, hnm, hP, hK, hD, hA, hS, hZ, hN, hl⟩ := h
  have hown : s.vm.findClass RX5 = some m.cls := hown
  have hl : lv_has ls 1 [(0, .ref aS)] := hl
  have hP : va_P D classes [(aS, .inr (4, [.ref aC, .ref aG, .int wa]))] s.heap := hP
  have hD : va_D A [(aS, .inr (4, [.ref aC, .ref aG, .int wa]))] := hD
  have rg_wa := zi_rg wa
  refine lv_aload_n hx hb dX5_waitingCount_0 rfl (lv_at hl 0 rfl) ?_
  refine va_get (D := D) (ci := 4) (v := .int wa) (C := RX5) (T := TX5) (N := 3) hx hb hts in_X5 hown hK hP 0 rfl rfl 2 (by decide) (hts _ wk76) (fun _ h9 => h9) rfl dX5_waitingCount_1 ?_
  have hq1 : wa.toInt = wa.toInt := (by omega)
  exact hret wa () _ _ _ _ dX5_waitingCount_4 hq1 (hP.sub [0] rfl) (hD.sub [0] (by decide) rfl) hS

set_option maxHeartbeats 4000000 in
set_option maxRecDepth 100000 in
theorem c_Se_exchangeState (l : Launch) (D : va_G) (cI cJ cB : ClassId) (aS : Nat) (aC : Nat) (aG : Nat) (wa : Int32) (la : Int64) (x : Int64)  :
    ctl l yX5_exchangeState (wsOf yX5_exchangeState cX5_exchangeState 3 (some .long)) (rmL 1 24 0 0) D classes (tys3 cI cJ cB) [.ref aS, .long x] [(aS, .inr (4, [.ref aC, .ref aG, .int wa])), (aC, .inr (3, [.long la]))] (fun (r : Int64) (u : Int64) => r = la ∧ ∀ j, j < 58 → bl u j = bl x j) (fun u : Int64 => ([(aS, .inr (4, [.ref aC, .ref aG, .int wa])), (aC, .inr (3, [.long u]))] : va_W)) := by
  refine ctl.of (by first | exact plainFor_of_name (by decide) | decide +kernel) (Nat.le_of_ble_eq_true rfl) (fun p e s m args below meth c A ls Q h hret => ?_)
  obtain ⟨hx, hb, hml, hown, hts, hnm, hP, hK, hD, hA, hS, hZ, hN, hl⟩ := h
  have hown : s.vm.findClass RX5 = some m.cls := hown
  have hl : lv_has ls 3 [(0, .ref aS), (1, .long x)] := hl
  have hP : va_P D classes [(aS, .inr (4, [.ref aC, .ref aG, .int wa])), (aC, .inr (3, [.long la]))] s.heap := hP
  have hD : va_D A [(aS, .inr (4, [.ref aC, .ref aG, .int wa])), (aC, .inr (3, [.long la]))] := hD
  have rg_wa := zi_rg wa
  refine lv_aload_n hx hb dX5_exchangeState_0 rfl (lv_at hl 0 rfl) ?_
  refine va_get (D := D) (ci := 4) (v := .ref aC) (C := RX5) (T := TX5) (N := 3) hx hb hts in_X5 hown hK hP 0 rfl rfl 0 (by decide) (hts _ wk36) (fun _ h9 => h9) rfl dX5_exchangeState_1 ?_
  refine lv_lload_n hx hb dX5_exchangeState_4 rfl (lv_at hl 1 rfl) ?_
  refine call_l (wc := [(aC, .inr (3, [.long la]))]) (wr := [(aS, .inr (4, [.ref aC, .ref aG, .int wa]))]) (run_V (As := [.long x]) (rest := []) kv_RX5_28 ⟨by decide, by decide⟩ ⟨rfl, rfl⟩ ⟨hx, hb, hml, hown, hts⟩ (c_Sc_exchange l D cI cJ cB aC la x  _) ct_blind (ct_pre (wc := [(aC, .inr (3, [.long la]))]) hK hP hD hS hA hZ hN [1] (by decide) rfl rfl) (va_recv hK hP (ci := 3) (q0 := 1) rfl rfl) rfl hl.1 rfl (Nat.le_of_ble_eq_true rfl) dX5_exchangeState_5 ⟨Nat.le_of_ble_eq_true rfl, Nat.le_of_ble_eq_true rfl⟩) hP hD hS hA [1] [0] rfl rfl (by decide) (by decide) (fun r1 u H locs hw1 hP1 hD1 hS1 => ?_)
  obtain ⟨la2_1, hu9⟩ : ∃ z, z = u := ⟨_, rfl⟩
  subst hu9
  have hw1 : r1 = la ∧ ∀ j, j < 58 → bl la2_1 j = bl x j := hw1
  clear hP hD hS
  have hP : va_P D classes [(aS, .inr (4, [.ref aC, .ref aG, .int wa])), (aC, .inr (3, [.long la2_1]))] H := hP1
  have hD : va_D A [(aS, .inr (4, [.ref aC, .ref aG, .int wa])), (aC, .inr (3, [.long la2_1]))] := hD1
  have hS := hS1
  clear hP1 hD1 hS1
  have hq2 : r1 = la ∧ ∀ j, j < 58 → bl la2_1 j = bl x j := (by assumption)
  exact hret r1 la2_1 _ _ _ _ dX5_exchangeState_8 hq2 (hP.sub [0, 1] rfl) (hD.sub [0, 1] (by decide) rfl) hS

set_option maxHeartbeats 4000000 in
set_option maxRecDepth 100000 in
theorem c_Se_sendBlock (l : Launch) (D : va_G) (cI cJ cB : ClassId) (aS : Nat) (aC : Nat) (aG : Nat) (aL : Nat) (aW : Nat) (la : Int64) (pl : Int64) (wa : Int32) (fi : Int32) (cn : Int32) (hd : Int32) (fw : Nat → Int64) (h1 : 0 ≤ fi.toInt ∧ fi.toInt < 9088) (h2 : 0 ≤ cn.toInt ∧ cn.toInt + 66 ≤ 9087) (h3 : hd.toInt = 1 ∨ hd.toInt = 2) :
    ctv l yX5_sendBlock (wsOf yX5_sendBlock cX5_sendBlock 6 none) (rmL 3 65 0 0) D classes (tys3 cI cJ cB) [.ref aS, .int hd, .long pl, .ref aL] [(aS, .inr (4, [.ref aC, .ref aG, .int wa])), (aC, .inr (3, [.long la])), (aL, .inr (1, [.ref aW, .int fi, .int cn])), (aW, .inl (cJ, 142, .inr (.inl fw)))] (fun u : Int64 × Int32 × (Nat → Int64) => u.2.1.toInt = cn.toInt + 66 ∧ sndR (hpB hd pl) cn.toInt u.2.1.toInt (bl la) (bl u.1) (lnB fw fi.toInt) (lnB u.2.2 fi.toInt)) (fun u : Int64 × Int32 × (Nat → Int64) => ([(aS, .inr (4, [.ref aC, .ref aG, .int wa])), (aC, .inr (3, [.long u.1])), (aL, .inr (1, [.ref aW, .int fi, .int u.2.1])), (aW, .inl (cJ, 142, .inr (.inl u.2.2)))] : va_W)) 0 0 := by
  refine ctv.of (by first | exact plainFor_of_name (by decide) | decide +kernel) (Nat.le_of_ble_eq_true rfl) (fun p e s m args below meth c A ls Q h hret => ?_)
  obtain ⟨hx, hb, hml, hown, hts, hnm, hP, hK, hD, hA, hS, hZ, hN, hl⟩ := h
  have hown : s.vm.findClass RX5 = some m.cls := hown
  have hl : lv_has ls 6 [(0, .ref aS), (1, .int hd), (2, .long pl), (4, .ref aL)] := hl
  have hP : va_P D classes [(aS, .inr (4, [.ref aC, .ref aG, .int wa])), (aC, .inr (3, [.long la])), (aL, .inr (1, [.ref aW, .int fi, .int cn])), (aW, .inl (cJ, 142, .inr (.inl fw)))] s.heap := hP
  have hD : va_D A [(aS, .inr (4, [.ref aC, .ref aG, .int wa])), (aC, .inr (3, [.long la])), (aL, .inr (1, [.ref aW, .int fi, .int cn])), (aW, .inl (cJ, 142, .inr (.inl fw)))] := hD
  have rg_wa := zi_rg wa
  have rg_fi := zi_rg fi
  have rg_cn := zi_rg cn
  have rg_hd := zi_rg hd
  refine lv_aload hx hb dX5_sendBlock_0 (lv_at hl 3 rfl) ?_
  refine lv_iload_n hx hb dX5_sendBlock_2 rfl (lv_at hl 1 rfl) ?_
  refine lv_iconst (v := 1) hx hb dX5_sendBlock_3 (by decide) ?_
  refine lv_topi (fun v1 e1 => ?_)
  have z1 : v1.toInt = 1 := zi_c e1 (by decide)
  refine lv_iushr hx hb dX5_sendBlock_4 rfl ?_
  refine lv_topi (fun v2 e2 => ?_)
  have hh3 : 0 ≤ fi.toInt ∧ fi.toInt < 9088 := (by omega)
  have hh4 : 0 ≤ cn.toInt ∧ cn.toInt ≤ 9087 := (by omega)
  have hh5 : 0 ≤ v2.toInt ∧ v2.toInt ≤ 1 := (by rw [iu_1 e1 e2 (by omega)]; exact bi_01 _)
  refine call_v (wc := [(aL, .inr (1, [.ref aW, .int fi, .int cn])), (aW, .inl (cJ, 142, .inr (.inl fw)))]) (wr := [(aS, .inr (4, [.ref aC, .ref aG, .int wa])), (aC, .inr (3, [.long la]))]) (run_V (As := [.int v2]) (rest := []) kv_RX5_60 ⟨by decide, by decide⟩ ⟨rfl, rfl⟩ ⟨hx, hb, hml, hown, hts⟩ (c_Ln_append l D cI cJ cB aL aW fi cn v2 fw hh3 hh4 hh5 _) ct_blind (ct_pre (wc := [(aL, .inr (1, [.ref aW, .int fi, .int cn])), (aW, .inl (cJ, 142, .inr (.inl fw)))]) hK hP hD hS hA hZ hN [2, 3] (by decide) rfl rfl) (va_recv hK hP (ci := 1) (q0 := 2) rfl rfl) rfl hl.1 rfl (Nat.le_of_ble_eq_true rfl) dX5_sendBlock_5 ⟨Nat.le_of_ble_eq_true rfl, Nat.le_of_ble_eq_true rfl⟩) hP hD hS hA [2, 3] [0, 1] rfl rfl (by decide) (by decide) (fun u H locs hw6 hP1 hD1 hS1 => ?_)
  obtain ⟨cn2_6, fw2_6⟩ := u
  have hw6 : cn2_6.toInt = cn.toInt + 1 ∧ ∀ j : Int, lnB fw2_6 fi.toInt j = if (fi.toInt + j) % 9088 = (fi.toInt + cn.toInt) % 9088 then bt v2 0 else lnB fw fi.toInt j := hw6
  clear hP hD hS
  have hP : va_P D classes [(aS, .inr (4, [.ref aC, .ref aG, .int wa])), (aC, .inr (3, [.long la])), (aL, .inr (1, [.ref aW, .int fi, .int cn2_6])), (aW, .inl (cJ, 142, .inr (.inl fw2_6)))] H := hP1
  have hD : va_D A [(aS, .inr (4, [.ref aC, .ref aG, .int wa])), (aC, .inr (3, [.long la])), (aL, .inr (1, [.ref aW, .int fi, .int cn2_6])), (aW, .inl (cJ, 142, .inr (.inl fw2_6)))] := hD1
  have hS := hS1
  clear hP1 hD1 hS1
  have rg_cn2_6 := zi_rg cn2_6
  refine lv_aload hx hb dX5_sendBlock_8 (lv_at hl 3 rfl) ?_
  refine lv_iload_n hx hb dX5_sendBlock_10 rfl (lv_at hl 1 rfl) ?_
  refine lv_iconst (v := 1) hx hb dX5_sendBlock_11 (by decide) ?_
  refine lv_topi (fun v7 e7 => ?_)
  have z7 : v7.toInt = 1 := zi_c e7 (by decide)
  refine lv_iand hx hb dX5_sendBlock_12 ?_
  refine lv_topi (fun v8 e8 => ?_)
  have z8 := zi_and e8 e7 1 (z := 2) (by decide) (by decide) (by decide)
  have hh9 : 0 ≤ fi.toInt ∧ fi.toInt < 9088 := (by omega)
  have hh10 : 0 ≤ cn2_6.toInt ∧ cn2_6.toInt ≤ 9087 := (by omega)
  have hh11 : 0 ≤ v8.toInt ∧ v8.toInt ≤ 1 := (by omega)
  refine call_v (wc := [(aL, .inr (1, [.ref aW, .int fi, .int cn2_6])), (aW, .inl (cJ, 142, .inr (.inl fw2_6)))]) (wr := [(aS, .inr (4, [.ref aC, .ref aG, .int wa])), (aC, .inr (3, [.long la]))]) (run_V (As := [.int v8]) (rest := []) kv_RX5_60 ⟨by decide, by decide⟩ ⟨rfl, rfl⟩ ⟨hx, hb, hml, hown, hts⟩ (c_Ln_append l D cI cJ cB aL aW fi cn2_6 v8 fw2_6 hh9 hh10 hh11 _) ct_blind (ct_pre (wc := [(aL, .inr (1, [.ref aW, .int fi, .int cn2_6])), (aW, .inl (cJ, 142, .inr (.inl fw2_6)))]) hK hP hD hS hA hZ hN [2, 3] (by decide) rfl rfl) (va_recv hK hP (ci := 1) (q0 := 2) rfl rfl) rfl hl.1 rfl (Nat.le_of_ble_eq_true rfl) dX5_sendBlock_13 ⟨Nat.le_of_ble_eq_true rfl, Nat.le_of_ble_eq_true rfl⟩) hP hD hS hA [2, 3] [0, 1] rfl rfl (by decide) (by decide) (fun u H locs hw12 hP1 hD1 hS1 => ?_)
  obtain ⟨cn2_12, fw2_12⟩ := u
  have hw12 : cn2_12.toInt = cn2_6.toInt + 1 ∧ ∀ j : Int, lnB fw2_12 fi.toInt j = if (fi.toInt + j) % 9088 = (fi.toInt + cn2_6.toInt) % 9088 then bt v8 0 else lnB fw2_6 fi.toInt j := hw12
  clear hP hD hS
  have hP : va_P D classes [(aS, .inr (4, [.ref aC, .ref aG, .int wa])), (aC, .inr (3, [.long la])), (aL, .inr (1, [.ref aW, .int fi, .int cn2_12])), (aW, .inl (cJ, 142, .inr (.inl fw2_12)))] H := hP1
  have hD : va_D A [(aS, .inr (4, [.ref aC, .ref aG, .int wa])), (aC, .inr (3, [.long la])), (aL, .inr (1, [.ref aW, .int fi, .int cn2_12])), (aW, .inl (cJ, 142, .inr (.inl fw2_12)))] := hD1
  have hS := hS1
  clear hP1 hD1 hS1
  have rg_cn2_12 := zi_rg cn2_12
  refine lv_iconst (v := 0) hx hb dX5_sendBlock_16 (by decide) ?_
  refine lv_topi (fun v13 e13 => ?_)
  have z13 : v13.toInt = 0 := zi_c e13 (by decide)
  refine lv_istore (lv' := [(5, .int v13), (0, .ref aS), (1, .int hd), (2, .long pl), (4, .ref aL)]) hx hb dX5_sendBlock_17 hl (by decide) rfl (fun ls hl => ?_)
  have J19 : ∀ (n : Nat) (k : Int32) (la3 : Int64) (cn3 : Int32) (fw3 : Nat → Int64) (H : Heap) (locs : List Loc) (ls : Array Slot), ((64 - k.toInt).toNat) < n → (0 ≤ k.toInt ∧ k.toInt ≤ 64) → (cn3.toInt = cn.toInt + 2 + k.toInt) → (sndI hd pl fi.toInt cn.toInt fw fw3 la la3 k.toInt.toNat) → va_P D classes [(aS, .inr (4, [.ref aC, .ref aG, .int wa])), (aC, .inr (3, [.long la3])), (aL, .inr (1, [.ref aW, .int fi, .int cn3])), (aW, .inl (cJ, 142, .inr (.inl fw3)))] H → va_D A [(aS, .inr (4, [.ref aC, .ref aG, .int wa])), (aC, .inr (3, [.long la3])), (aL, .inr (1, [.ref aW, .int fi, .int cn3])), (aW, .inl (cJ, 142, .inr (.inl fw3)))] → va_S A s.heap H locs → lv_has ls 6 [(0, .ref aS), (1, .int hd), (2, .long pl), (4, .ref aL), (5, .int k)] → W p l e (rmL 3 65 0 0) s m args below meth c H locs 0 0 Q (F0 m 19 ls []) := by
    intro n
    induction n with
    | zero => intro k la3 cn3 fw3 H locs ls hmu; exact absurd hmu (Nat.not_lt_zero _)
    | succ n ih19 =>
      intro k la3 cn3 fw3 H locs ls hmu19 i19_0 i19_1 i19_2 hP hD hS hl
      have rg_k := zi_rg k
      have rg_cn3 := zi_rg cn3
      refine lv_iload hx hb dX5_sendBlock_19 (lv_at hl 4 rfl) ?_
      refine lv_bipush (v := 64) hx hb dX5_sendBlock_21 (by decide) ?_
      refine lv_topi (fun v14 e14 => ?_)
      have z14 : v14.toInt = 64 := zi_c e14 (by decide)
      refine lv_icmp_ge (tgt := 51) hx hb dX5_sendBlock_23 (by decide) (fun c15 => ?_) (fun c15 => ?_)
      ·
        have z15 := zi_le c15
        have hq16 : cn3.toInt = cn.toInt + 66 ∧ sndR (hpB hd pl) cn.toInt cn3.toInt (bl la) (bl la3) (lnB fw fi.toInt) (lnB fw3 fi.toInt) := ⟨by omega, sndI_e (by omega) (by have q := i19_2; rw [show k.toInt.toNat = 64 by omega] at q; exact q)⟩
        exact hret (la3, cn3, fw3) _ _ _ _ dX5_sendBlock_51 hq16 (hP.sub [0, 1, 2, 3] rfl) (hD.sub [0, 1, 2, 3] (by decide) rfl) hS
      ·
        have z15 := zi_nle c15
        refine lv_aload hx hb dX5_sendBlock_26 (lv_at hl 3 rfl) ?_
        refine lv_aload_n hx hb dX5_sendBlock_28 rfl (lv_at hl 0 rfl) ?_
        refine va_get (D := D) (ci := 4) (v := .ref aC) (C := RX5) (T := TX5) (N := 3) hx hb hts in_X5 hown hK hP 0 rfl rfl 0 (by decide) (hts _ wk36) (fun _ h9 => h9) rfl dX5_sendBlock_29 ?_
        refine lv_lload_n hx hb dX5_sendBlock_32 rfl (lv_at hl 2 rfl) ?_
        refine lv_iload hx hb dX5_sendBlock_33 (lv_at hl 4 rfl) ?_
        refine lv_lushr hx hb dX5_sendBlock_35 rfl ?_
        refine lv_topl (fun v17 e17 => ?_)
        refine lv_l2i hx hb dX5_sendBlock_36 rfl ?_
        refine lv_topi (fun v18 e18 => ?_)
        refine lv_iconst (v := 1) hx hb dX5_sendBlock_37 (by decide) ?_
        refine lv_topi (fun v19 e19 => ?_)
        have z19 : v19.toInt = 1 := zi_c e19 (by decide)
        refine lv_iand hx hb dX5_sendBlock_38 ?_
        refine lv_topi (fun v20 e20 => ?_)
        have z20 := zi_and e20 e19 1 (z := 2) (by decide) (by decide) (by decide)
        have hh21 : 0 ≤ v20.toInt ∧ v20.toInt ≤ 1 := (by omega)
        refine call_i (wc := [(aC, .inr (3, [.long la3]))]) (wr := [(aS, .inr (4, [.ref aC, .ref aG, .int wa])), (aL, .inr (1, [.ref aW, .int fi, .int cn3])), (aW, .inl (cJ, 142, .inr (.inl fw3)))]) (run_V (As := [.int v20]) (rest := [.ref aL]) kv_RX5_66 ⟨by decide, by decide⟩ ⟨rfl, rfl⟩ ⟨hx, hb, hml, hown, hts⟩ (c_Sc_scramble l D cI cJ cB aC la3 v20 hh21 _) ct_blind (ct_pre (wc := [(aC, .inr (3, [.long la3]))]) hK hP hD hS hA hZ hN [1] (by decide) rfl rfl) (va_recv hK hP (ci := 3) (q0 := 1) rfl rfl) rfl hl.1 rfl (Nat.le_of_ble_eq_true rfl) dX5_sendBlock_39 ⟨Nat.le_of_ble_eq_true rfl, Nat.le_of_ble_eq_true rfl⟩) hP hD hS hA [1] [0, 2, 3] rfl rfl (by decide) (by decide) (fun r22 u H locs hw22 hP1 hD1 hS1 => ?_)
        obtain ⟨la2_22, hu9⟩ : ∃ z, z = u := ⟨_, rfl⟩
        subst hu9
        have hw22 : (0 ≤ r22.toInt ∧ r22.toInt ≤ 1) ∧ r22 = bi (scO (bl la3) (bt v20 0)) ∧ ∀ j, j < 58 → bl la2_22 j = scN (bl la3) (scO (bl la3) (bt v20 0)) j := hw22
        clear hP hD hS
        have hP : va_P D classes [(aS, .inr (4, [.ref aC, .ref aG, .int wa])), (aL, .inr (1, [.ref aW, .int fi, .int cn3])), (aW, .inl (cJ, 142, .inr (.inl fw3))), (aC, .inr (3, [.long la2_22]))] H := hP1
        have hD : va_D A [(aS, .inr (4, [.ref aC, .ref aG, .int wa])), (aL, .inr (1, [.ref aW, .int fi, .int cn3])), (aW, .inl (cJ, 142, .inr (.inl fw3))), (aC, .inr (3, [.long la2_22]))] := hD1
        have hS := hS1
        clear hP1 hD1 hS1
        have rg_r22 := zi_rg r22
        have hh23 : 0 ≤ fi.toInt ∧ fi.toInt < 9088 := (by omega)
        have hh24 : 0 ≤ cn3.toInt ∧ cn3.toInt ≤ 9087 := (by omega)
        have hh25 : 0 ≤ r22.toInt ∧ r22.toInt ≤ 1 := (by omega)
        refine call_v (wc := [(aL, .inr (1, [.ref aW, .int fi, .int cn3])), (aW, .inl (cJ, 142, .inr (.inl fw3)))]) (wr := [(aS, .inr (4, [.ref aC, .ref aG, .int wa])), (aC, .inr (3, [.long la2_22]))]) (run_V (As := [.int r22]) (rest := []) kv_RX5_60 ⟨by decide, by decide⟩ ⟨rfl, rfl⟩ ⟨hx, hb, hml, hown, hts⟩ (c_Ln_append l D cI cJ cB aL aW fi cn3 r22 fw3 hh23 hh24 hh25 _) ct_blind (ct_pre (wc := [(aL, .inr (1, [.ref aW, .int fi, .int cn3])), (aW, .inl (cJ, 142, .inr (.inl fw3)))]) hK hP hD hS hA hZ hN [1, 2] (by decide) rfl rfl) (va_recv hK hP (ci := 1) (q0 := 1) rfl rfl) rfl hl.1 rfl (Nat.le_of_ble_eq_true rfl) dX5_sendBlock_42 ⟨Nat.le_of_ble_eq_true rfl, Nat.le_of_ble_eq_true rfl⟩) hP hD hS hA [1, 2] [0, 3] rfl rfl (by decide) (by decide) (fun u H locs hw26 hP1 hD1 hS1 => ?_)
        obtain ⟨cn2_26, fw2_26⟩ := u
        have hw26 : cn2_26.toInt = cn3.toInt + 1 ∧ ∀ j : Int, lnB fw2_26 fi.toInt j = if (fi.toInt + j) % 9088 = (fi.toInt + cn3.toInt) % 9088 then bt r22 0 else lnB fw3 fi.toInt j := hw26
        clear hP hD hS
        have hP : va_P D classes [(aS, .inr (4, [.ref aC, .ref aG, .int wa])), (aC, .inr (3, [.long la2_22])), (aL, .inr (1, [.ref aW, .int fi, .int cn2_26])), (aW, .inl (cJ, 142, .inr (.inl fw2_26)))] H := hP1
        have hD : va_D A [(aS, .inr (4, [.ref aC, .ref aG, .int wa])), (aC, .inr (3, [.long la2_22])), (aL, .inr (1, [.ref aW, .int fi, .int cn2_26])), (aW, .inl (cJ, 142, .inr (.inl fw2_26)))] := hD1
        have hS := hS1
        clear hP1 hD1 hS1
        have rg_cn2_26 := zi_rg cn2_26
        obtain ⟨v27, e27⟩ : ∃ y : Int32, y = k + 1 := ⟨_, rfl⟩
        first | have z27 := zi_inc (z := 1) 1 (by decide) e27 (by omega) | skip
        refine lv_iinc (v := v27) (lv' := [(5, .int v27), (0, .ref aS), (1, .int hd), (2, .long pl), (4, .ref aL)]) hx hb dX5_sendBlock_45 hl (k := 4) rfl (by rw [e27]; rfl) (by decide) rfl (fun ls hl => ?_)
        refine lv_goto (tgt := 19) hx hb dX5_sendBlock_48 (by decide) ?_
        exact ih19 v27 la2_22 cn2_26 fw2_26 _ _ _ (by omega) (by omega) (by omega) (by rw [show v27.toInt.toNat = k.toInt.toNat + 1 by omega]; exact sndI_s (by omega) (by omega) (by omega) i19_2 (by rw [rd_bit (k := k.toInt.toNat) (by omega) (by omega) e17 e18 e19 e20, bi_t0]) hw22.2.1 hw22.2.2 hw26.2) (hP.sub [0, 1, 2, 3] rfl) (hD.sub [0, 1, 2, 3] (by decide) rfl) hS (lv_sub hl [1, 2, 3, 4, 0] rfl)
  exact J19 _ v13 la cn2_12 fw2_12 _ _ _ (Nat.lt_succ_self _) (by omega) (by omega) (by rw [show v13.toInt.toNat = 0 by omega]; exact sndI_0 (by omega) (by omega) hw6.2 hw12.2 (by rw [iu_1 e1 e2 (by omega), bi_t0]) (by rw [e8, e7, and1, bi_t0])) (hP.sub [0, 1, 2, 3] rfl) (hD.sub [0, 1, 2, 3] (by decide) rfl) hS (lv_sub hl [1, 2, 3, 4, 0] rfl)

set_option maxHeartbeats 4000000 in
set_option maxRecDepth 100000 in
theorem c_Se_sendGroup (l : Launch) (D : va_G) (cI cJ cB : ClassId) (aS : Nat) (aC : Nat) (aG : Nat) (aL : Nat) (aW : Nat) (la : Int64) (fg : Nat → Int32) (wa : Int32) (fi : Int32) (cn : Int32) (fw : Nat → Int64) (h1 : 0 ≤ fi.toInt ∧ fi.toInt < 9088) (h2 : 0 ≤ cn.toInt ∧ cn.toInt + 66 ≤ 9087) (h3 : ∀ j, j < 8 → 0 ≤ (fg j).toInt ∧ (fg j).toInt ≤ 259) :
    ctv l yX5_sendGroup (wsOf yX5_sendGroup cX5_sendGroup 4 none) (rmL 4 90 0 0) D classes (tys3 cI cJ cB) [.ref aS, .ref aL] [(aS, .inr (4, [.ref aC, .ref aG, .int wa])), (aC, .inr (3, [.long la])), (aG, .inl (cI, 8, .inl fg)), (aL, .inr (1, [.ref aW, .int fi, .int cn])), (aW, .inl (cJ, 142, .inr (.inl fw)))] (fun u : Int64 × (Nat → Int32) × Int32 × (Nat → Int64) => u.2.2.1.toInt = cn.toInt + 66 ∧ ∃ B, blkR fg B ∧ sndR B cn.toInt u.2.2.1.toInt (bl la) (bl u.1) (lnB fw fi.toInt) (lnB u.2.2.2 fi.toInt)) (fun u : Int64 × (Nat → Int32) × Int32 × (Nat → Int64) => ([(aS, .inr (4, [.ref aC, .ref aG, .int wa])), (aC, .inr (3, [.long u.1])), (aG, .inl (cI, 8, .inl u.2.1)), (aL, .inr (1, [.ref aW, .int fi, .int u.2.2.1])), (aW, .inl (cJ, 142, .inr (.inl u.2.2.2)))] : va_W)) 0 0 := by
  refine ctv.of (by first | exact plainFor_of_name (by decide) | decide +kernel) (Nat.le_of_ble_eq_true rfl) (fun p e s m args below meth c A ls Q h hret => ?_)
  obtain ⟨hx, hb, hml, hown, hts, hnm, hP, hK, hD, hA, hS, hZ, hN, hl⟩ := h
  have hown : s.vm.findClass RX5 = some m.cls := hown
  have hl : lv_has ls 4 [(0, .ref aS), (1, .ref aL)] := hl
  have hP : va_P D classes [(aS, .inr (4, [.ref aC, .ref aG, .int wa])), (aC, .inr (3, [.long la])), (aG, .inl (cI, 8, .inl fg)), (aL, .inr (1, [.ref aW, .int fi, .int cn])), (aW, .inl (cJ, 142, .inr (.inl fw)))] s.heap := hP
  have hD : va_D A [(aS, .inr (4, [.ref aC, .ref aG, .int wa])), (aC, .inr (3, [.long la])), (aG, .inl (cI, 8, .inl fg)), (aL, .inr (1, [.ref aW, .int fi, .int cn])), (aW, .inl (cJ, 142, .inr (.inl fw)))] := hD
  have rg_wa := zi_rg wa
  have rg_fi := zi_rg fi
  have rg_cn := zi_rg cn
  refine lv_aload_n hx hb dX5_sendGroup_0 rfl (lv_at hl 0 rfl) ?_
  refine va_get (D := D) (ci := 4) (v := .ref aG) (C := RX5) (T := TX5) (N := 3) hx hb hts in_X5 hown hK hP 0 rfl rfl 1 (by decide) (hts _ wk38) (fun _ h9 => h9) rfl dX5_sendGroup_1 ?_
  refine call_i (wc := [(aG, .inl (cI, 8, .inl fg))]) (wr := [(aS, .inr (4, [.ref aC, .ref aG, .int wa])), (aC, .inr (3, [.long la])), (aL, .inr (1, [.ref aW, .int fi, .int cn])), (aW, .inl (cJ, 142, .inr (.inl fw)))]) (run_S (As := [.ref aG]) (rest := []) ks_RX5_46 ⟨by decide, by decide⟩ ⟨rfl, rfl⟩ ⟨hx, hb, hml, hown, hts⟩ (c_Co_typeOfGroup l D cI cJ cB aG fg  _) ct_blind (ct_pre (wc := [(aG, .inl (cI, 8, .inl fg))]) hK hP hD hS hA hZ hN [2] (by decide) rfl rfl) rfl hl.1 rfl (Nat.le_of_ble_eq_true rfl) dX5_sendGroup_4 ⟨Nat.le_of_ble_eq_true rfl, Nat.le_of_ble_eq_true rfl⟩) hP hD hS hA [2] [0, 1, 3, 4] rfl rfl (by decide) (by decide) (fun r1 u H locs hw1 hP1 hD1 hS1 => ?_)
  have hw1 : tyR fg r1 := hw1
  clear hP hD hS
  have hP : va_P D classes [(aS, .inr (4, [.ref aC, .ref aG, .int wa])), (aC, .inr (3, [.long la])), (aL, .inr (1, [.ref aW, .int fi, .int cn])), (aW, .inl (cJ, 142, .inr (.inl fw))), (aG, .inl (cI, 8, .inl fg))] H := hP1
  have hD : va_D A [(aS, .inr (4, [.ref aC, .ref aG, .int wa])), (aC, .inr (3, [.long la])), (aL, .inr (1, [.ref aW, .int fi, .int cn])), (aW, .inl (cJ, 142, .inr (.inl fw))), (aG, .inl (cI, 8, .inl fg))] := hD1
  have hS := hS1
  clear hP1 hD1 hS1
  have rg_r1 := zi_rg r1
  refine lv_istore_n (lv' := [(2, .int r1), (0, .ref aS), (1, .ref aL)]) hx hb dX5_sendGroup_7 rfl hl (by decide) rfl (fun ls hl => ?_)
  refine lv_iload_n hx hb dX5_sendGroup_8 rfl (lv_at hl 0 rfl) ?_
  refine lv_bipush (v := -2) hx hb dX5_sendGroup_9 (by decide) ?_
  refine lv_topi (fun v2 e2 => ?_)
  have z2 : v2.toInt = (-2) := zi_c e2 (by decide)
  refine lv_icmp_ne (tgt := 27) hx hb dX5_sendGroup_11 (by decide) (fun c3 => ?_) (fun c3 => ?_)
  ·
    have z3 := zi_ne c3
    refine lv_iload_n hx hb dX5_sendGroup_27 rfl (lv_at hl 0 rfl) ?_
    refine lv_iconst (v := -1) hx hb dX5_sendGroup_28 (by decide) ?_
    refine lv_topi (fun v4 e4 => ?_)
    have z4 : v4.toInt = (-1) := zi_c e4 (by decide)
    refine lv_icmp_ne (tgt := 36) hx hb dX5_sendGroup_29 (by decide) (fun c5 => ?_) (fun c5 => ?_)
    ·
      have z5 := zi_ne c5
      refine lv_iconst (v := 2) hx hb dX5_sendGroup_36 (by decide) ?_
      refine lv_topi (fun v6 e6 => ?_)
      have z6 : v6.toInt = 2 := zi_c e6 (by decide)
      refine lv_istore_n (lv' := [(3, .int v6), (2, .int r1), (0, .ref aS), (1, .ref aL)]) hx hb dX5_sendGroup_37 rfl hl (by decide) rfl (fun ls hl => ?_)
      refine lv_aload_n hx hb dX5_sendGroup_38 rfl (lv_at hl 2 rfl) ?_
      refine lv_iload_n hx hb dX5_sendGroup_39 rfl (lv_at hl 0 rfl) ?_
      refine lv_iload_n hx hb dX5_sendGroup_40 rfl (lv_at hl 1 rfl) ?_
      refine lv_aload_n hx hb dX5_sendGroup_41 rfl (lv_at hl 2 rfl) ?_
      refine va_get (D := D) (ci := 4) (v := .ref aG) (C := RX5) (T := TX5) (N := 3) hx hb hts in_X5 hown hK hP 0 rfl rfl 1 (by decide) (hts _ wk38) (fun _ h9 => h9) rfl dX5_sendGroup_42 ?_
      have hh7 : ∀ j, j < 8 → 0 ≤ (fg j).toInt ∧ (fg j).toInt ≤ 259 := (by first | exact h3 | (intro j hj; rw [hw27 j hj]; omega))
      have hh8 : eT r1 → 256 ≤ (fg 7).toInt := (by first | exact ty_7 hw1 | (intro _; rw [hw27 7 (by omega)]; omega))
      have hh9 : r1.toInt = -1 ∨ (0 ≤ r1.toInt ∧ r1.toInt ≤ 255) := (by first | omega | exact ty_rg hw1 (by omega))
      refine call_l (wc := [(aG, .inl (cI, 8, .inl fg))]) (wr := [(aS, .inr (4, [.ref aC, .ref aG, .int wa])), (aC, .inr (3, [.long la])), (aL, .inr (1, [.ref aW, .int fi, .int cn])), (aW, .inl (cJ, 142, .inr (.inl fw)))]) (run_S (As := [.int r1, .ref aG]) (rest := [.int v6, .ref aS]) ks_RX5_56 ⟨by decide, by decide⟩ ⟨rfl, rfl⟩ ⟨hx, hb, hml, hown, hts⟩ (c_Co_payloadOf l D cI cJ cB aG fg r1 hh7 hh8 hh9 _) ct_blind (ct_pre (wc := [(aG, .inl (cI, 8, .inl fg))]) hK hP hD hS hA hZ hN [4] (by decide) rfl rfl) rfl hl.1 rfl (Nat.le_of_ble_eq_true rfl) dX5_sendGroup_45 ⟨Nat.le_of_ble_eq_true rfl, Nat.le_of_ble_eq_true rfl⟩) hP hD hS hA [4] [0, 1, 2, 3] rfl rfl (by decide) (by decide) (fun r10 u H locs hw10 hP1 hD1 hS1 => ?_)
      have hw10 : pbits fg r1 r10 := hw10
      clear hP hD hS
      have hP : va_P D classes [(aS, .inr (4, [.ref aC, .ref aG, .int wa])), (aC, .inr (3, [.long la])), (aL, .inr (1, [.ref aW, .int fi, .int cn])), (aW, .inl (cJ, 142, .inr (.inl fw))), (aG, .inl (cI, 8, .inl fg))] H := hP1
      have hD : va_D A [(aS, .inr (4, [.ref aC, .ref aG, .int wa])), (aC, .inr (3, [.long la])), (aL, .inr (1, [.ref aW, .int fi, .int cn])), (aW, .inl (cJ, 142, .inr (.inl fw))), (aG, .inl (cI, 8, .inl fg))] := hD1
      have hS := hS1
      clear hP1 hD1 hS1
      refine lv_aload_n hx hb dX5_sendGroup_48 rfl (lv_at hl 3 rfl) ?_
      have hh11 : 0 ≤ fi.toInt ∧ fi.toInt < 9088 := (by omega)
      have hh12 : 0 ≤ cn.toInt ∧ cn.toInt + 66 ≤ 9087 := (by omega)
      have hh13 : v6.toInt = 1 ∨ v6.toInt = 2 := (by omega)
      refine call_v (wc := [(aS, .inr (4, [.ref aC, .ref aG, .int wa])), (aC, .inr (3, [.long la])), (aL, .inr (1, [.ref aW, .int fi, .int cn])), (aW, .inl (cJ, 142, .inr (.inl fw)))]) (wr := [(aG, .inl (cI, 8, .inl fg))]) (run_V (As := [.int v6, .long r10, .ref aL]) (rest := []) kv_RX5_42 ⟨by decide, by decide⟩ ⟨rfl, rfl⟩ ⟨hx, hb, hml, hown, hts⟩ (c_Se_sendBlock l D cI cJ cB aS aC aG aL aW la r10 wa fi cn v6 fw hh11 hh12 hh13 _) ct_blind (ct_pre (wc := [(aS, .inr (4, [.ref aC, .ref aG, .int wa])), (aC, .inr (3, [.long la])), (aL, .inr (1, [.ref aW, .int fi, .int cn])), (aW, .inl (cJ, 142, .inr (.inl fw)))]) hK hP hD hS hA hZ hN [0, 1, 2, 3] (by decide) rfl rfl) (va_recv hK hP (ci := 4) (q0 := 0) rfl rfl) rfl hl.1 rfl (Nat.le_of_ble_eq_true rfl) dX5_sendGroup_49 ⟨Nat.le_of_ble_eq_true rfl, Nat.le_of_ble_eq_true rfl⟩) hP hD hS hA [0, 1, 2, 3] [4] rfl rfl (by decide) (by decide) (fun u H locs hw14 hP1 hD1 hS1 => ?_)
      obtain ⟨la2_14, cn2_14, fw2_14⟩ := u
      have hw14 : cn2_14.toInt = cn.toInt + 66 ∧ sndR (hpB v6 r10) cn.toInt cn2_14.toInt (bl la) (bl la2_14) (lnB fw fi.toInt) (lnB fw2_14 fi.toInt) := hw14
      clear hP hD hS
      have hP : va_P D classes [(aG, .inl (cI, 8, .inl fg)), (aS, .inr (4, [.ref aC, .ref aG, .int wa])), (aC, .inr (3, [.long la2_14])), (aL, .inr (1, [.ref aW, .int fi, .int cn2_14])), (aW, .inl (cJ, 142, .inr (.inl fw2_14)))] H := hP1
      have hD : va_D A [(aG, .inl (cI, 8, .inl fg)), (aS, .inr (4, [.ref aC, .ref aG, .int wa])), (aC, .inr (3, [.long la2_14])), (aL, .inr (1, [.ref aW, .int fi, .int cn2_14])), (aW, .inl (cJ, 142, .inr (.inl fw2_14)))] := hD1
      have hS := hS1
      clear hP1 hD1 hS1
      have rg_cn2_14 := zi_rg cn2_14
      have hq15 : cn2_14.toInt = cn.toInt + 66 ∧ ∃ B, blkR fg B ∧ sndR B cn.toInt cn2_14.toInt (bl la) (bl la2_14) (lnB fw fi.toInt) (lnB fw2_14 fi.toInt) := (by first | exact ⟨hw14.1, _, cls_blk h3 hw1 (by omega) (fun q => by omega) (fun q => by omega) hw10, hw14.2⟩ | exact ⟨hw24.1, _, cls_blk h3 hw1 (by omega) (fun q => by omega) (fun q => by omega) hw20, hw24.2⟩ | exact ⟨hw39.1, _, cls_err hw1 (by omega) (fun j hj => by rw [hw27 j hj]; omega) z28 z31 hw35, hw39.2⟩)
      exact hret (la2_14, fg, cn2_14, fw2_14) _ _ _ _ dX5_sendGroup_52 hq15 (hP.sub [1, 2, 0, 3, 4] rfl) (hD.sub [1, 2, 0, 3, 4] (by decide) rfl) hS
    ·
      have z5 := zi_eq c5
      refine lv_iconst (v := 1) hx hb dX5_sendGroup_32 (by decide) ?_
      refine lv_topi (fun v16 e16 => ?_)
      have z16 : v16.toInt = 1 := zi_c e16 (by decide)
      refine lv_goto (tgt := 37) hx hb dX5_sendGroup_33 (by decide) ?_
      refine lv_istore_n (lv' := [(3, .int v16), (2, .int r1), (0, .ref aS), (1, .ref aL)]) hx hb dX5_sendGroup_37 rfl hl (by decide) rfl (fun ls hl => ?_)
      refine lv_aload_n hx hb dX5_sendGroup_38 rfl (lv_at hl 2 rfl) ?_
      refine lv_iload_n hx hb dX5_sendGroup_39 rfl (lv_at hl 0 rfl) ?_
      refine lv_iload_n hx hb dX5_sendGroup_40 rfl (lv_at hl 1 rfl) ?_
      refine lv_aload_n hx hb dX5_sendGroup_41 rfl (lv_at hl 2 rfl) ?_
      refine va_get (D := D) (ci := 4) (v := .ref aG) (C := RX5) (T := TX5) (N := 3) hx hb hts in_X5 hown hK hP 0 rfl rfl 1 (by decide) (hts _ wk38) (fun _ h9 => h9) rfl dX5_sendGroup_42 ?_
      have hh17 : ∀ j, j < 8 → 0 ≤ (fg j).toInt ∧ (fg j).toInt ≤ 259 := (by first | exact h3 | (intro j hj; rw [hw27 j hj]; omega))
      have hh18 : eT r1 → 256 ≤ (fg 7).toInt := (by first | exact ty_7 hw1 | (intro _; rw [hw27 7 (by omega)]; omega))
      have hh19 : r1.toInt = -1 ∨ (0 ≤ r1.toInt ∧ r1.toInt ≤ 255) := (by first | omega | exact ty_rg hw1 (by omega))
      refine call_l (wc := [(aG, .inl (cI, 8, .inl fg))]) (wr := [(aS, .inr (4, [.ref aC, .ref aG, .int wa])), (aC, .inr (3, [.long la])), (aL, .inr (1, [.ref aW, .int fi, .int cn])), (aW, .inl (cJ, 142, .inr (.inl fw)))]) (run_S (As := [.int r1, .ref aG]) (rest := [.int v16, .ref aS]) ks_RX5_56 ⟨by decide, by decide⟩ ⟨rfl, rfl⟩ ⟨hx, hb, hml, hown, hts⟩ (c_Co_payloadOf l D cI cJ cB aG fg r1 hh17 hh18 hh19 _) ct_blind (ct_pre (wc := [(aG, .inl (cI, 8, .inl fg))]) hK hP hD hS hA hZ hN [4] (by decide) rfl rfl) rfl hl.1 rfl (Nat.le_of_ble_eq_true rfl) dX5_sendGroup_45 ⟨Nat.le_of_ble_eq_true rfl, Nat.le_of_ble_eq_true rfl⟩) hP hD hS hA [4] [0, 1, 2, 3] rfl rfl (by decide) (by decide) (fun r20 u H locs hw20 hP1 hD1 hS1 => ?_)
      have hw20 : pbits fg r1 r20 := hw20
      clear hP hD hS
      have hP : va_P D classes [(aS, .inr (4, [.ref aC, .ref aG, .int wa])), (aC, .inr (3, [.long la])), (aL, .inr (1, [.ref aW, .int fi, .int cn])), (aW, .inl (cJ, 142, .inr (.inl fw))), (aG, .inl (cI, 8, .inl fg))] H := hP1
      have hD : va_D A [(aS, .inr (4, [.ref aC, .ref aG, .int wa])), (aC, .inr (3, [.long la])), (aL, .inr (1, [.ref aW, .int fi, .int cn])), (aW, .inl (cJ, 142, .inr (.inl fw))), (aG, .inl (cI, 8, .inl fg))] := hD1
      have hS := hS1
      clear hP1 hD1 hS1
      refine lv_aload_n hx hb dX5_sendGroup_48 rfl (lv_at hl 3 rfl) ?_
      have hh21 : 0 ≤ fi.toInt ∧ fi.toInt < 9088 := (by omega)
      have hh22 : 0 ≤ cn.toInt ∧ cn.toInt + 66 ≤ 9087 := (by omega)
      have hh23 : v16.toInt = 1 ∨ v16.toInt = 2 := (by omega)
      refine call_v (wc := [(aS, .inr (4, [.ref aC, .ref aG, .int wa])), (aC, .inr (3, [.long la])), (aL, .inr (1, [.ref aW, .int fi, .int cn])), (aW, .inl (cJ, 142, .inr (.inl fw)))]) (wr := [(aG, .inl (cI, 8, .inl fg))]) (run_V (As := [.int v16, .long r20, .ref aL]) (rest := []) kv_RX5_42 ⟨by decide, by decide⟩ ⟨rfl, rfl⟩ ⟨hx, hb, hml, hown, hts⟩ (c_Se_sendBlock l D cI cJ cB aS aC aG aL aW la r20 wa fi cn v16 fw hh21 hh22 hh23 _) ct_blind (ct_pre (wc := [(aS, .inr (4, [.ref aC, .ref aG, .int wa])), (aC, .inr (3, [.long la])), (aL, .inr (1, [.ref aW, .int fi, .int cn])), (aW, .inl (cJ, 142, .inr (.inl fw)))]) hK hP hD hS hA hZ hN [0, 1, 2, 3] (by decide) rfl rfl) (va_recv hK hP (ci := 4) (q0 := 0) rfl rfl) rfl hl.1 rfl (Nat.le_of_ble_eq_true rfl) dX5_sendGroup_49 ⟨Nat.le_of_ble_eq_true rfl, Nat.le_of_ble_eq_true rfl⟩) hP hD hS hA [0, 1, 2, 3] [4] rfl rfl (by decide) (by decide) (fun u H locs hw24 hP1 hD1 hS1 => ?_)
      obtain ⟨la2_24, cn2_24, fw2_24⟩ := u
      have hw24 : cn2_24.toInt = cn.toInt + 66 ∧ sndR (hpB v16 r20) cn.toInt cn2_24.toInt (bl la) (bl la2_24) (lnB fw fi.toInt) (lnB fw2_24 fi.toInt) := hw24
      clear hP hD hS
      have hP : va_P D classes [(aG, .inl (cI, 8, .inl fg)), (aS, .inr (4, [.ref aC, .ref aG, .int wa])), (aC, .inr (3, [.long la2_24])), (aL, .inr (1, [.ref aW, .int fi, .int cn2_24])), (aW, .inl (cJ, 142, .inr (.inl fw2_24)))] H := hP1
      have hD : va_D A [(aG, .inl (cI, 8, .inl fg)), (aS, .inr (4, [.ref aC, .ref aG, .int wa])), (aC, .inr (3, [.long la2_24])), (aL, .inr (1, [.ref aW, .int fi, .int cn2_24])), (aW, .inl (cJ, 142, .inr (.inl fw2_24)))] := hD1
      have hS := hS1
      clear hP1 hD1 hS1
      have rg_cn2_24 := zi_rg cn2_24
      have hq25 : cn2_24.toInt = cn.toInt + 66 ∧ ∃ B, blkR fg B ∧ sndR B cn.toInt cn2_24.toInt (bl la) (bl la2_24) (lnB fw fi.toInt) (lnB fw2_24 fi.toInt) := (by first | exact ⟨hw14.1, _, cls_blk h3 hw1 (by omega) (fun q => by omega) (fun q => by omega) hw10, hw14.2⟩ | exact ⟨hw24.1, _, cls_blk h3 hw1 (by omega) (fun q => by omega) (fun q => by omega) hw20, hw24.2⟩ | exact ⟨hw39.1, _, cls_err hw1 (by omega) (fun j hj => by rw [hw27 j hj]; omega) z28 z31 hw35, hw39.2⟩)
      exact hret (la2_24, fg, cn2_24, fw2_24) _ _ _ _ dX5_sendGroup_52 hq25 (hP.sub [1, 2, 0, 3, 4] rfl) (hD.sub [1, 2, 0, 3, 4] (by decide) rfl) hS
  ·
    have z3 := zi_eq c3
    refine lv_aload_n hx hb dX5_sendGroup_14 rfl (lv_at hl 1 rfl) ?_
    refine va_get (D := D) (ci := 4) (v := .ref aG) (C := RX5) (T := TX5) (N := 3) hx hb hts in_X5 hown hK hP 0 rfl rfl 1 (by decide) (hts _ wk38) (fun _ h9 => h9) rfl dX5_sendGroup_15 ?_
    refine lv_sipush (v := 259) hx hb dX5_sendGroup_18 (by decide) ?_
    refine lv_topi (fun v26 e26 => ?_)
    have z26 : v26.toInt = 259 := zi_c e26 (by decide)
    refine call_v (wc := [(aG, .inl (cI, 8, .inl fg))]) (wr := [(aS, .inr (4, [.ref aC, .ref aG, .int wa])), (aC, .inr (3, [.long la])), (aL, .inr (1, [.ref aW, .int fi, .int cn])), (aW, .inl (cJ, 142, .inr (.inl fw)))]) (run_S (As := [.ref aG, .int v26]) (rest := []) ks_RX5_50 ⟨by decide, by decide⟩ ⟨rfl, rfl⟩ ⟨hx, hb, hml, hown, hts⟩ (c_JA_fill l D cI cJ cB aG v26 fg  _) ct_blind (ct_pre (wc := [(aG, .inl (cI, 8, .inl fg))]) hK hP hD hS hA hZ hN [4] (by decide) rfl rfl) rfl hl.1 rfl (Nat.le_of_ble_eq_true rfl) dX5_sendGroup_21 ⟨Nat.le_of_ble_eq_true rfl, Nat.le_of_ble_eq_true rfl⟩) hP hD hS hA [4] [0, 1, 2, 3] rfl rfl (by decide) (by decide) (fun u H locs hw27 hP1 hD1 hS1 => ?_)
    obtain ⟨fg2_27, hu9⟩ : ∃ z, z = u := ⟨_, rfl⟩
    subst hu9
    have hw27 : ∀ j, j < 8 → fg2_27 j = v26 := hw27
    clear hP hD hS
    have hP : va_P D classes [(aS, .inr (4, [.ref aC, .ref aG, .int wa])), (aC, .inr (3, [.long la])), (aL, .inr (1, [.ref aW, .int fi, .int cn])), (aW, .inl (cJ, 142, .inr (.inl fw))), (aG, .inl (cI, 8, .inl fg2_27))] H := hP1
    have hD : va_D A [(aS, .inr (4, [.ref aC, .ref aG, .int wa])), (aC, .inr (3, [.long la])), (aL, .inr (1, [.ref aW, .int fi, .int cn])), (aW, .inl (cJ, 142, .inr (.inl fw))), (aG, .inl (cI, 8, .inl fg2_27))] := hD1
    have hS := hS1
    clear hP1 hD1 hS1
    refine lv_bipush (v := 30) hx hb dX5_sendGroup_24 (by decide) ?_
    refine lv_topi (fun v28 e28 => ?_)
    have z28 : v28.toInt = 30 := zi_c e28 (by decide)
    refine lv_istore_n (lv' := [(2, .int v28), (0, .ref aS), (1, .ref aL)]) hx hb dX5_sendGroup_26 rfl hl (by decide) rfl (fun ls hl => ?_)
    refine lv_iload_n hx hb dX5_sendGroup_27 rfl (lv_at hl 0 rfl) ?_
    refine lv_iconst (v := -1) hx hb dX5_sendGroup_28 (by decide) ?_
    refine lv_topi (fun v29 e29 => ?_)
    have z29 : v29.toInt = (-1) := zi_c e29 (by decide)
    refine lv_icmp_ne (tgt := 36) hx hb dX5_sendGroup_29 (by decide) (fun c30 => ?_) (fun c30 => by have z30 := zi_eq c30; exfalso; omega)
    have z30 := zi_ne c30
    refine lv_iconst (v := 2) hx hb dX5_sendGroup_36 (by decide) ?_
    refine lv_topi (fun v31 e31 => ?_)
    have z31 : v31.toInt = 2 := zi_c e31 (by decide)
    refine lv_istore_n (lv' := [(3, .int v31), (2, .int v28), (0, .ref aS), (1, .ref aL)]) hx hb dX5_sendGroup_37 rfl hl (by decide) rfl (fun ls hl => ?_)
    refine lv_aload_n hx hb dX5_sendGroup_38 rfl (lv_at hl 2 rfl) ?_
    refine lv_iload_n hx hb dX5_sendGroup_39 rfl (lv_at hl 0 rfl) ?_
    refine lv_iload_n hx hb dX5_sendGroup_40 rfl (lv_at hl 1 rfl) ?_
    refine lv_aload_n hx hb dX5_sendGroup_41 rfl (lv_at hl 2 rfl) ?_
    refine va_get (D := D) (ci := 4) (v := .ref aG) (C := RX5) (T := TX5) (N := 3) hx hb hts in_X5 hown hK hP 0 rfl rfl 1 (by decide) (hts _ wk38) (fun _ h9 => h9) rfl dX5_sendGroup_42 ?_
    have hh32 : ∀ j, j < 8 → 0 ≤ (fg2_27 j).toInt ∧ (fg2_27 j).toInt ≤ 259 := (by first | exact h3 | (intro j hj; rw [hw27 j hj]; omega))
    have hh33 : eT v28 → 256 ≤ (fg2_27 7).toInt := (by first | exact ty_7 hw1 | (intro _; rw [hw27 7 (by omega)]; omega))
    have hh34 : v28.toInt = -1 ∨ (0 ≤ v28.toInt ∧ v28.toInt ≤ 255) := (by first | omega | exact ty_rg hw1 (by omega))
    refine call_l (wc := [(aG, .inl (cI, 8, .inl fg2_27))]) (wr := [(aS, .inr (4, [.ref aC, .ref aG, .int wa])), (aC, .inr (3, [.long la])), (aL, .inr (1, [.ref aW, .int fi, .int cn])), (aW, .inl (cJ, 142, .inr (.inl fw)))]) (run_S (As := [.int v28, .ref aG]) (rest := [.int v31, .ref aS]) ks_RX5_56 ⟨by decide, by decide⟩ ⟨rfl, rfl⟩ ⟨hx, hb, hml, hown, hts⟩ (c_Co_payloadOf l D cI cJ cB aG fg2_27 v28 hh32 hh33 hh34 _) ct_blind (ct_pre (wc := [(aG, .inl (cI, 8, .inl fg2_27))]) hK hP hD hS hA hZ hN [4] (by decide) rfl rfl) rfl hl.1 rfl (Nat.le_of_ble_eq_true rfl) dX5_sendGroup_45 ⟨Nat.le_of_ble_eq_true rfl, Nat.le_of_ble_eq_true rfl⟩) hP hD hS hA [4] [0, 1, 2, 3] rfl rfl (by decide) (by decide) (fun r35 u H locs hw35 hP1 hD1 hS1 => ?_)
    have hw35 : pbits fg2_27 v28 r35 := hw35
    clear hP hD hS
    have hP : va_P D classes [(aS, .inr (4, [.ref aC, .ref aG, .int wa])), (aC, .inr (3, [.long la])), (aL, .inr (1, [.ref aW, .int fi, .int cn])), (aW, .inl (cJ, 142, .inr (.inl fw))), (aG, .inl (cI, 8, .inl fg2_27))] H := hP1
    have hD : va_D A [(aS, .inr (4, [.ref aC, .ref aG, .int wa])), (aC, .inr (3, [.long la])), (aL, .inr (1, [.ref aW, .int fi, .int cn])), (aW, .inl (cJ, 142, .inr (.inl fw))), (aG, .inl (cI, 8, .inl fg2_27))] := hD1
    have hS := hS1
    clear hP1 hD1 hS1
    refine lv_aload_n hx hb dX5_sendGroup_48 rfl (lv_at hl 3 rfl) ?_
    have hh36 : 0 ≤ fi.toInt ∧ fi.toInt < 9088 := (by omega)
    have hh37 : 0 ≤ cn.toInt ∧ cn.toInt + 66 ≤ 9087 := (by omega)
    have hh38 : v31.toInt = 1 ∨ v31.toInt = 2 := (by omega)
    refine call_v (wc := [(aS, .inr (4, [.ref aC, .ref aG, .int wa])), (aC, .inr (3, [.long la])), (aL, .inr (1, [.ref aW, .int fi, .int cn])), (aW, .inl (cJ, 142, .inr (.inl fw)))]) (wr := [(aG, .inl (cI, 8, .inl fg2_27))]) (run_V (As := [.int v31, .long r35, .ref aL]) (rest := []) kv_RX5_42 ⟨by decide, by decide⟩ ⟨rfl, rfl⟩ ⟨hx, hb, hml, hown, hts⟩ (c_Se_sendBlock l D cI cJ cB aS aC aG aL aW la r35 wa fi cn v31 fw hh36 hh37 hh38 _) ct_blind (ct_pre (wc := [(aS, .inr (4, [.ref aC, .ref aG, .int wa])), (aC, .inr (3, [.long la])), (aL, .inr (1, [.ref aW, .int fi, .int cn])), (aW, .inl (cJ, 142, .inr (.inl fw)))]) hK hP hD hS hA hZ hN [0, 1, 2, 3] (by decide) rfl rfl) (va_recv hK hP (ci := 4) (q0 := 0) rfl rfl) rfl hl.1 rfl (Nat.le_of_ble_eq_true rfl) dX5_sendGroup_49 ⟨Nat.le_of_ble_eq_true rfl, Nat.le_of_ble_eq_true rfl⟩) hP hD hS hA [0, 1, 2, 3] [4] rfl rfl (by decide) (by decide) (fun u H locs hw39 hP1 hD1 hS1 => ?_)
    obtain ⟨la2_39, cn2_39, fw2_39⟩ := u
    have hw39 : cn2_39.toInt = cn.toInt + 66 ∧ sndR (hpB v31 r35) cn.toInt cn2_39.toInt (bl la) (bl la2_39) (lnB fw fi.toInt) (lnB fw2_39 fi.toInt) := hw39
    clear hP hD hS
    have hP : va_P D classes [(aG, .inl (cI, 8, .inl fg2_27)), (aS, .inr (4, [.ref aC, .ref aG, .int wa])), (aC, .inr (3, [.long la2_39])), (aL, .inr (1, [.ref aW, .int fi, .int cn2_39])), (aW, .inl (cJ, 142, .inr (.inl fw2_39)))] H := hP1
    have hD : va_D A [(aG, .inl (cI, 8, .inl fg2_27)), (aS, .inr (4, [.ref aC, .ref aG, .int wa])), (aC, .inr (3, [.long la2_39])), (aL, .inr (1, [.ref aW, .int fi, .int cn2_39])), (aW, .inl (cJ, 142, .inr (.inl fw2_39)))] := hD1
    have hS := hS1
    clear hP1 hD1 hS1
    have rg_cn2_39 := zi_rg cn2_39
    have hq40 : cn2_39.toInt = cn.toInt + 66 ∧ ∃ B, blkR fg B ∧ sndR B cn.toInt cn2_39.toInt (bl la) (bl la2_39) (lnB fw fi.toInt) (lnB fw2_39 fi.toInt) := (by first | exact ⟨hw14.1, _, cls_blk h3 hw1 (by omega) (fun q => by omega) (fun q => by omega) hw10, hw14.2⟩ | exact ⟨hw24.1, _, cls_blk h3 hw1 (by omega) (fun q => by omega) (fun q => by omega) hw20, hw24.2⟩ | exact ⟨hw39.1, _, cls_err hw1 (by omega) (fun j hj => by rw [hw27 j hj]; omega) z28 z31 hw35, hw39.2⟩)
    exact hret (la2_39, fg2_27, cn2_39, fw2_39) _ _ _ _ dX5_sendGroup_52 hq40 (hP.sub [1, 2, 0, 3, 4] rfl) (hD.sub [1, 2, 0, 3, 4] (by decide) rfl) hS

set_option maxHeartbeats 4000000 in
set_option maxRecDepth 100000 in
theorem c_Se_accept (l : Launch) (D : va_G) (cI cJ cB : ClassId) (aS : Nat) (aC : Nat) (aG : Nat) (aL : Nat) (aW : Nat) (la : Int64) (fg : Nat → Int32) (wa : Int32) (fi : Int32) (cn : Int32) (fw : Nat → Int64) (ch : Int32) (h1 : 0 ≤ fi.toInt ∧ fi.toInt < 9088) (h2 : 0 ≤ cn.toInt ∧ cn.toInt ≤ 9066) (h3 : 0 ≤ wa.toInt ∧ wa.toInt < 8) (h4 : wa.toInt = 7 → cn.toInt < 9000) (h5 : ∀ k : Nat, (k : Int) < wa.toInt → 0 ≤ (fg k).toInt ∧ (fg k).toInt ≤ 259) (h6 : 0 ≤ ch.toInt ∧ ch.toInt ≤ 259) :
    ctv l yX5_accept (wsOf yX5_accept cX5_accept 3 none) (rmL 5 113 0 0) D classes (tys3 cI cJ cB) [.ref aS, .int ch, .ref aL] [(aS, .inr (4, [.ref aC, .ref aG, .int wa])), (aC, .inr (3, [.long la])), (aG, .inl (cI, 8, .inl fg)), (aL, .inr (1, [.ref aW, .int fi, .int cn])), (aW, .inl (cJ, 142, .inr (.inl fw)))] (fun u : Int64 × (Nat → Int32) × Int32 × Int32 × (Nat → Int64) => (wa.toInt < 7 → u.2.2.1.toInt = wa.toInt + 1 ∧ u.2.2.2.1.toInt = cn.toInt) ∧ (wa.toInt = 7 → u.2.2.1.toInt = 0 ∧ u.2.2.2.1.toInt = cn.toInt + 66) ∧ accR ch wa.toInt u.2.2.1.toInt cn.toInt u.2.2.2.1.toInt fg u.2.1 (bl la) (bl u.1) (lnB fw fi.toInt) (lnB u.2.2.2.2 fi.toInt)) (fun u : Int64 × (Nat → Int32) × Int32 × Int32 × (Nat → Int64) => ([(aS, .inr (4, [.ref aC, .ref aG, .int u.2.2.1])), (aC, .inr (3, [.long u.1])), (aG, .inl (cI, 8, .inl u.2.1)), (aL, .inr (1, [.ref aW, .int fi, .int u.2.2.2.1])), (aW, .inl (cJ, 142, .inr (.inl u.2.2.2.2)))] : va_W)) 0 0 := by
  refine ctv.of (by first | exact plainFor_of_name (by decide) | decide +kernel) (Nat.le_of_ble_eq_true rfl) (fun p e s m args below meth c A ls Q h hret => ?_)
  obtain ⟨hx, hb, hml, hown, hts, hnm, hP, hK, hD, hA, hS, hZ, hN, hl⟩ := h
  have hown : s.vm.findClass RX5 = some m.cls := hown
  have hl : lv_has ls 3 [(0, .ref aS), (1, .int ch), (2, .ref aL)] := hl
  have hP : va_P D classes [(aS, .inr (4, [.ref aC, .ref aG, .int wa])), (aC, .inr (3, [.long la])), (aG, .inl (cI, 8, .inl fg)), (aL, .inr (1, [.ref aW, .int fi, .int cn])), (aW, .inl (cJ, 142, .inr (.inl fw)))] s.heap := hP
  have hD : va_D A [(aS, .inr (4, [.ref aC, .ref aG, .int wa])), (aC, .inr (3, [.long la])), (aG, .inl (cI, 8, .inl fg)), (aL, .inr (1, [.ref aW, .int fi, .int cn])), (aW, .inl (cJ, 142, .inr (.inl fw)))] := hD
  have rg_wa := zi_rg wa
  have rg_fi := zi_rg fi
  have rg_cn := zi_rg cn
  have rg_ch := zi_rg ch
  refine lv_aload_n hx hb dX5_accept_0 rfl (lv_at hl 0 rfl) ?_
  refine va_get (D := D) (ci := 4) (v := .ref aG) (C := RX5) (T := TX5) (N := 3) hx hb hts in_X5 hown hK hP 0 rfl rfl 1 (by decide) (hts _ wk38) (fun _ h9 => h9) rfl dX5_accept_1 ?_
  refine lv_aload_n hx hb dX5_accept_4 rfl (lv_at hl 0 rfl) ?_
  refine va_get (D := D) (ci := 4) (v := .int wa) (C := RX5) (T := TX5) (N := 3) hx hb hts in_X5 hown hK hP 0 rfl rfl 2 (by decide) (hts _ wk76) (fun _ h9 => h9) rfl dX5_accept_5 ?_
  refine lv_iload_n hx hb dX5_accept_8 rfl (lv_at hl 1 rfl) ?_
  obtain ⟨f1, ef1⟩ : ∃ z9, z9 = upd fg wa.toNatClampNeg ch := ⟨_, rfl⟩
  refine va_iast hx hb hK hP hD hS 2 0 rfl rfl (zi_in (by omega)) dX5_accept_9 (fun H locs hP1 hD1 hS1 => ?_)
  rw [← ef1] at hP1 hD1
  clear hP hD hS
  have hP : va_P D classes [(aS, .inr (4, [.ref aC, .ref aG, .int wa])), (aC, .inr (3, [.long la])), (aG, .inl (cI, 8, .inl f1)), (aL, .inr (1, [.ref aW, .int fi, .int cn])), (aW, .inl (cJ, 142, .inr (.inl fw)))] H := hP1
  have hD : va_D A [(aS, .inr (4, [.ref aC, .ref aG, .int wa])), (aC, .inr (3, [.long la])), (aG, .inl (cI, 8, .inl f1)), (aL, .inr (1, [.ref aW, .int fi, .int cn])), (aW, .inl (cJ, 142, .inr (.inl fw)))] := hD1
  have hS := hS1
  clear hP1 hD1 hS1
  refine lv_aload_n hx hb dX5_accept_10 rfl (lv_at hl 0 rfl) ?_
  refine lv_dup hx hb dX5_accept_11 rfl ?_
  refine va_get (D := D) (ci := 4) (v := .int wa) (C := RX5) (T := TX5) (N := 3) hx hb hts in_X5 hown hK hP 0 rfl rfl 2 (by decide) (hts _ wk76) (fun _ h9 => h9) rfl dX5_accept_12 ?_
  refine lv_iconst (v := 1) hx hb dX5_accept_15 (by decide) ?_
  refine lv_topi (fun v2 e2 => ?_)
  have z2 : v2.toInt = 1 := zi_c e2 (by decide)
  refine lv_iadd hx hb dX5_accept_16 ?_
  refine lv_topi (fun v3 e3 => ?_)
  first | have z3 := zi_add e3 (by omega) | skip
  refine va_put (D := D) (ci := 4) (v := .int v3) (ty := .int) (C := RX5) (T := TX5) (N := 3) hx hb hts in_X5 tyX5 tyX5_ok nmX5 hown hK hP hD hS 0 rfl rfl 2 (by decide) (hts _ wk76) (fun _ h9 => h9) rfl (by decide +kernel) rfl rfl (Nat.le_of_ble_eq_true rfl) dX5_accept_17 (fun H locs hP1 hD1 hS1 => ?_)
  clear hP hD hS
  have hP : va_P D classes [(aS, .inr (4, [.ref aC, .ref aG, .int v3])), (aC, .inr (3, [.long la])), (aG, .inl (cI, 8, .inl f1)), (aL, .inr (1, [.ref aW, .int fi, .int cn])), (aW, .inl (cJ, 142, .inr (.inl fw)))] H := hP1
  have hD : va_D A [(aS, .inr (4, [.ref aC, .ref aG, .int v3])), (aC, .inr (3, [.long la])), (aG, .inl (cI, 8, .inl f1)), (aL, .inr (1, [.ref aW, .int fi, .int cn])), (aW, .inl (cJ, 142, .inr (.inl fw)))] := hD1
  have hS := hS1
  clear hP1 hD1 hS1
  refine lv_aload_n hx hb dX5_accept_20 rfl (lv_at hl 0 rfl) ?_
  refine va_get (D := D) (ci := 4) (v := .int v3) (C := RX5) (T := TX5) (N := 3) hx hb hts in_X5 hown hK hP 0 rfl rfl 2 (by decide) (hts _ wk76) (fun _ h9 => h9) rfl dX5_accept_21 ?_
  refine lv_bipush (v := 8) hx hb dX5_accept_24 (by decide) ?_
  refine lv_topi (fun v4 e4 => ?_)
  have z4 : v4.toInt = 8 := zi_c e4 (by decide)
  refine lv_icmp_ne (tgt := 39) hx hb dX5_accept_26 (by decide) (fun c5 => ?_) (fun c5 => ?_)
  ·
    have z5 := zi_ne c5
    have hq6 : (wa.toInt < 7 → v3.toInt = wa.toInt + 1 ∧ cn.toInt = cn.toInt) ∧ (wa.toInt = 7 → v3.toInt = 0 ∧ cn.toInt = cn.toInt + 66) ∧ accR ch wa.toInt v3.toInt cn.toInt cn.toInt fg f1 (bl la) (bl la) (lnB fw fi.toInt) (lnB fw fi.toInt) := (by first | exact ⟨by omega, by omega, fun q => ⟨by omega, rfl, fun k hk => by rw [ef1]; exact pk_un (by show k ≠ wa.toInt.toNat; omega), by rw [ef1]; exact pk_us, fun _ _ => rfl, fun _ _ _ => rfl⟩, fun q => by exfalso; omega⟩ | (obtain ⟨w1, B, w2, w3⟩ := hw11; exact ⟨by omega, by omega, fun q => by exfalso; omega, fun q => ⟨by omega, f1, B, fun k hk => by rw [ef1]; exact pk_un (by show k ≠ wa.toInt.toNat; omega), by rw [ef1, show (7 : Nat) = wa.toNatClampNeg from by show 7 = wa.toInt.toNat; omega]; exact pk_us, w2, w3⟩⟩))
    exact hret (la, f1, v3, cn, fw) _ _ _ _ dX5_accept_39 hq6 (hP.sub [0, 1, 2, 3, 4] rfl) (hD.sub [0, 1, 2, 3, 4] (by decide) rfl) hS
  ·
    have z5 := zi_eq c5
    refine lv_aload_n hx hb dX5_accept_29 rfl (lv_at hl 0 rfl) ?_
    refine lv_iconst (v := 0) hx hb dX5_accept_30 (by decide) ?_
    refine lv_topi (fun v7 e7 => ?_)
    have z7 : v7.toInt = 0 := zi_c e7 (by decide)
    refine va_put (D := D) (ci := 4) (v := .int v7) (ty := .int) (C := RX5) (T := TX5) (N := 3) hx hb hts in_X5 tyX5 tyX5_ok nmX5 hown hK hP hD hS 0 rfl rfl 2 (by decide) (hts _ wk76) (fun _ h9 => h9) rfl (by decide +kernel) rfl rfl (Nat.le_of_ble_eq_true rfl) dX5_accept_31 (fun H locs hP1 hD1 hS1 => ?_)
    clear hP hD hS
    have hP : va_P D classes [(aS, .inr (4, [.ref aC, .ref aG, .int v7])), (aC, .inr (3, [.long la])), (aG, .inl (cI, 8, .inl f1)), (aL, .inr (1, [.ref aW, .int fi, .int cn])), (aW, .inl (cJ, 142, .inr (.inl fw)))] H := hP1
    have hD : va_D A [(aS, .inr (4, [.ref aC, .ref aG, .int v7])), (aC, .inr (3, [.long la])), (aG, .inl (cI, 8, .inl f1)), (aL, .inr (1, [.ref aW, .int fi, .int cn])), (aW, .inl (cJ, 142, .inr (.inl fw)))] := hD1
    have hS := hS1
    clear hP1 hD1 hS1
    refine lv_aload_n hx hb dX5_accept_34 rfl (lv_at hl 0 rfl) ?_
    refine lv_aload_n hx hb dX5_accept_35 rfl (lv_at hl 2 rfl) ?_
    have hh8 : 0 ≤ fi.toInt ∧ fi.toInt < 9088 := (by omega)
    have hh9 : 0 ≤ cn.toInt ∧ cn.toInt + 66 ≤ 9087 := (by omega)
    have hh10 : ∀ j, j < 8 → 0 ≤ (f1 j).toInt ∧ (f1 j).toInt ≤ 259 := (fun j hj => by rw [ef1]; by_cases g9 : j = wa.toInt.toNat; (· rw [g9, show upd fg wa.toNatClampNeg ch wa.toInt.toNat = ch from pk_us]; omega); (· rw [pk_un (show j ≠ wa.toNatClampNeg from g9)]; exact h5 j (by omega)))
    refine call_v (wc := [(aS, .inr (4, [.ref aC, .ref aG, .int v7])), (aC, .inr (3, [.long la])), (aG, .inl (cI, 8, .inl f1)), (aL, .inr (1, [.ref aW, .int fi, .int cn])), (aW, .inl (cJ, 142, .inr (.inl fw)))]) (wr := []) (run_V (As := [.ref aL]) (rest := []) kv_RX5_32 ⟨by decide, by decide⟩ ⟨rfl, rfl⟩ ⟨hx, hb, hml, hown, hts⟩ (c_Se_sendGroup l D cI cJ cB aS aC aG aL aW la f1 v7 fi cn fw hh8 hh9 hh10 _) ct_blind (ct_pre (wc := [(aS, .inr (4, [.ref aC, .ref aG, .int v7])), (aC, .inr (3, [.long la])), (aG, .inl (cI, 8, .inl f1)), (aL, .inr (1, [.ref aW, .int fi, .int cn])), (aW, .inl (cJ, 142, .inr (.inl fw)))]) hK hP hD hS hA hZ hN [0, 1, 2, 3, 4] (by decide) rfl rfl) (va_recv hK hP (ci := 4) (q0 := 0) rfl rfl) rfl hl.1 rfl (Nat.le_of_ble_eq_true rfl) dX5_accept_36 ⟨Nat.le_of_ble_eq_true rfl, Nat.le_of_ble_eq_true rfl⟩) hP hD hS hA [0, 1, 2, 3, 4] [] rfl rfl (by decide) (by decide) (fun u H locs hw11 hP1 hD1 hS1 => ?_)
    obtain ⟨la2_11, fg2_11, cn2_11, fw2_11⟩ := u
    have hw11 : cn2_11.toInt = cn.toInt + 66 ∧ ∃ B, blkR f1 B ∧ sndR B cn.toInt cn2_11.toInt (bl la) (bl la2_11) (lnB fw fi.toInt) (lnB fw2_11 fi.toInt) := hw11
    clear hP hD hS
    have hP : va_P D classes [(aS, .inr (4, [.ref aC, .ref aG, .int v7])), (aC, .inr (3, [.long la2_11])), (aG, .inl (cI, 8, .inl fg2_11)), (aL, .inr (1, [.ref aW, .int fi, .int cn2_11])), (aW, .inl (cJ, 142, .inr (.inl fw2_11)))] H := hP1
    have hD : va_D A [(aS, .inr (4, [.ref aC, .ref aG, .int v7])), (aC, .inr (3, [.long la2_11])), (aG, .inl (cI, 8, .inl fg2_11)), (aL, .inr (1, [.ref aW, .int fi, .int cn2_11])), (aW, .inl (cJ, 142, .inr (.inl fw2_11)))] := hD1
    have hS := hS1
    clear hP1 hD1 hS1
    have rg_cn2_11 := zi_rg cn2_11
    have hq12 : (wa.toInt < 7 → v7.toInt = wa.toInt + 1 ∧ cn2_11.toInt = cn.toInt) ∧ (wa.toInt = 7 → v7.toInt = 0 ∧ cn2_11.toInt = cn.toInt + 66) ∧ accR ch wa.toInt v7.toInt cn.toInt cn2_11.toInt fg fg2_11 (bl la) (bl la2_11) (lnB fw fi.toInt) (lnB fw2_11 fi.toInt) := (by first | exact ⟨by omega, by omega, fun q => ⟨by omega, rfl, fun k hk => by rw [ef1]; exact pk_un (by show k ≠ wa.toInt.toNat; omega), by rw [ef1]; exact pk_us, fun _ _ => rfl, fun _ _ _ => rfl⟩, fun q => by exfalso; omega⟩ | (obtain ⟨w1, B, w2, w3⟩ := hw11; exact ⟨by omega, by omega, fun q => by exfalso; omega, fun q => ⟨by omega, f1, B, fun k hk => by rw [ef1]; exact pk_un (by show k ≠ wa.toInt.toNat; omega), by rw [ef1, show (7 : Nat) = wa.toNatClampNeg from by show 7 = wa.toInt.toNat; omega]; exact pk_us, w2, w3⟩⟩))
    exact hret (la2_11, fg2_11, v7, cn2_11, fw2_11) _ _ _ _ dX5_accept_39 hq12 (hP.sub [0, 1, 2, 3, 4] rfl) (hD.sub [0, 1, 2, 3, 4] (by decide) rfl) hS

set_option maxHeartbeats 4000000 in
set_option maxRecDepth 100000 in
theorem c_Se_acceptBytes (l : Launch) (D : va_G) (cI cJ cB : ClassId) (aS : Nat) (aC : Nat) (aG : Nat) (aL : Nat) (aW : Nat) (la : Int64) (fg : Nat → Int32) (wa : Int32) (fi : Int32) (cn : Int32) (fw : Nat → Int64) (x : Int32) (h1 : 0 ≤ fi.toInt ∧ fi.toInt < 9088) (h2 : 0 ≤ cn.toInt ∧ cn.toInt ≤ 9066) (h3 : 0 ≤ wa.toInt ∧ wa.toInt < 8) (h4 : 4 ≤ wa.toInt → cn.toInt < 9000) (h5 : ∀ k : Nat, (k : Int) < wa.toInt → 0 ≤ (fg k).toInt ∧ (fg k).toInt ≤ 259) :
    ctv l yX5_acceptBytes (wsOf yX5_acceptBytes cX5_acceptBytes 4 none) (rmL 6 135 0 0) D classes (tys3 cI cJ cB) [.ref aS, .int x, .ref aL] [(aS, .inr (4, [.ref aC, .ref aG, .int wa])), (aC, .inr (3, [.long la])), (aG, .inl (cI, 8, .inl fg)), (aL, .inr (1, [.ref aW, .int fi, .int cn])), (aW, .inl (cJ, 142, .inr (.inl fw)))] (fun u : Int64 × (Nat → Int32) × Int32 × Int32 × (Nat → Int64) => (wa.toInt < 4 → u.2.2.1.toInt = wa.toInt + 4 ∧ u.2.2.2.1.toInt = cn.toInt) ∧ (4 ≤ wa.toInt → u.2.2.1.toInt = wa.toInt - 4 ∧ u.2.2.2.1.toInt = cn.toInt + 66) ∧ (∀ k : Nat, (k : Int) < u.2.2.1.toInt → 0 ≤ (u.2.1 k).toInt ∧ (u.2.1 k).toInt ≤ 259) ∧ accL (wl x 4) (wa.toInt, cn.toInt, fg, bl la, lnB fw fi.toInt) (u.2.2.1.toInt, u.2.2.2.1.toInt, u.2.1, bl u.1, lnB u.2.2.2.2 fi.toInt)) (fun u : Int64 × (Nat → Int32) × Int32 × Int32 × (Nat → Int64) => ([(aS, .inr (4, [.ref aC, .ref aG, .int u.2.2.1])), (aC, .inr (3, [.long u.1])), (aG, .inl (cI, 8, .inl u.2.1)), (aL, .inr (1, [.ref aW, .int fi, .int u.2.2.2.1])), (aW, .inl (cJ, 142, .inr (.inl u.2.2.2.2)))] : va_W)) 0 0 := by
  refine ctv.of (by first | exact plainFor_of_name (by decide) | decide +kernel) (Nat.le_of_ble_eq_true rfl) (fun p e s m args below meth c A ls Q h hret => ?_)
  obtain ⟨hx, hb, hml, hown, hts, hnm, hP, hK, hD, hA, hS, hZ, hN, hl⟩ := h
  have hown : s.vm.findClass RX5 = some m.cls := hown
  have hl : lv_has ls 4 [(0, .ref aS), (1, .int x), (2, .ref aL)] := hl
  have hP : va_P D classes [(aS, .inr (4, [.ref aC, .ref aG, .int wa])), (aC, .inr (3, [.long la])), (aG, .inl (cI, 8, .inl fg)), (aL, .inr (1, [.ref aW, .int fi, .int cn])), (aW, .inl (cJ, 142, .inr (.inl fw)))] s.heap := hP
  have hD : va_D A [(aS, .inr (4, [.ref aC, .ref aG, .int wa])), (aC, .inr (3, [.long la])), (aG, .inl (cI, 8, .inl fg)), (aL, .inr (1, [.ref aW, .int fi, .int cn])), (aW, .inl (cJ, 142, .inr (.inl fw)))] := hD
  have rg_wa := zi_rg wa
  have rg_fi := zi_rg fi
  have rg_cn := zi_rg cn
  have rg_x := zi_rg x
  refine lv_iconst (v := 3) hx hb dX5_acceptBytes_0 (by decide) ?_
  refine lv_topi (fun v1 e1 => ?_)
  have z1 : v1.toInt = 3 := zi_c e1 (by decide)
  refine lv_istore_n (lv' := [(3, .int v1), (0, .ref aS), (1, .int x), (2, .ref aL)]) hx hb dX5_acceptBytes_1 rfl hl (by decide) rfl (fun ls hl => ?_)
  have J2 : ∀ (n : Nat) (k : Int32) (la3 : Int64) (fg3 : Nat → Int32) (wa3 : Int32) (cn3 : Int32) (fw3 : Nat → Int64) (H : Heap) (locs : List Loc) (ls : Array Slot), ((k.toInt + 1).toNat) < n → (-1 ≤ k.toInt ∧ k.toInt ≤ 3) → ((wa.toInt + (3 - k.toInt) < 8 ∧ wa3.toInt = wa.toInt + (3 - k.toInt) ∧ cn3.toInt = cn.toInt) ∨ (8 ≤ wa.toInt + (3 - k.toInt) ∧ wa3.toInt = wa.toInt + (3 - k.toInt) - 8 ∧ cn3.toInt = cn.toInt + 66)) → (∀ q : Nat, (q : Int) < wa3.toInt → 0 ≤ (fg3 q).toInt ∧ (fg3 q).toInt ≤ 259) → (accL (wl x (3 - k.toInt).toNat) (wa.toInt, cn.toInt, fg, bl la, lnB fw fi.toInt) (wa3.toInt, cn3.toInt, fg3, bl la3, lnB fw3 fi.toInt)) → va_P D classes [(aS, .inr (4, [.ref aC, .ref aG, .int wa3])), (aC, .inr (3, [.long la3])), (aG, .inl (cI, 8, .inl fg3)), (aL, .inr (1, [.ref aW, .int fi, .int cn3])), (aW, .inl (cJ, 142, .inr (.inl fw3)))] H → va_D A [(aS, .inr (4, [.ref aC, .ref aG, .int wa3])), (aC, .inr (3, [.long la3])), (aG, .inl (cI, 8, .inl fg3)), (aL, .inr (1, [.ref aW, .int fi, .int cn3])), (aW, .inl (cJ, 142, .inr (.inl fw3)))] → va_S A s.heap H locs → lv_has ls 4 [(0, .ref aS), (1, .int x), (2, .ref aL), (3, .int k)] → W p l e (rmL 6 135 0 0) s m args below meth c H locs 0 0 Q (F0 m 2 ls []) := by
    intro n
    induction n with
    | zero => intro k la3 fg3 wa3 cn3 fw3 H locs ls hmu; exact absurd hmu (Nat.not_lt_zero _)
    | succ n ih2 =>
      intro k la3 fg3 wa3 cn3 fw3 H locs ls hmu2 i2_0 i2_1 i2_2 i2_3 hP hD hS hl
      have rg_k := zi_rg k
      have rg_wa3 := zi_rg wa3
      have rg_cn3 := zi_rg cn3
      refine lv_iload_n hx hb dX5_acceptBytes_2 rfl (lv_at hl 3 rfl) ?_
      refine lv_if_lt (tgt := 27) hx hb dX5_acceptBytes_3 (by decide) (fun c2 => ?_) (fun c2 => ?_)
      ·
        have z2 := zi_lt0 c2
        have hq3 : (wa.toInt < 4 → wa3.toInt = wa.toInt + 4 ∧ cn3.toInt = cn.toInt) ∧ (4 ≤ wa.toInt → wa3.toInt = wa.toInt - 4 ∧ cn3.toInt = cn.toInt + 66) ∧ (∀ k : Nat, (k : Int) < wa3.toInt → 0 ≤ (fg3 k).toInt ∧ (fg3 k).toInt ≤ 259) ∧ accL (wl x 4) (wa.toInt, cn.toInt, fg, bl la, lnB fw fi.toInt) (wa3.toInt, cn3.toInt, fg3, bl la3, lnB fw3 fi.toInt) := ⟨by omega, by omega, i2_2, by have q := i2_3; rw [show (3 - k.toInt).toNat = 4 by omega] at q; exact q⟩
        exact hret (la3, fg3, wa3, cn3, fw3) _ _ _ _ dX5_acceptBytes_27 hq3 (hP.sub [0, 1, 2, 3, 4] rfl) (hD.sub [0, 1, 2, 3, 4] (by decide) rfl) hS
      ·
        have z2 := zi_nlt0 c2
        refine lv_aload_n hx hb dX5_acceptBytes_6 rfl (lv_at hl 0 rfl) ?_
        refine lv_iload_n hx hb dX5_acceptBytes_7 rfl (lv_at hl 1 rfl) ?_
        refine lv_iload_n hx hb dX5_acceptBytes_8 rfl (lv_at hl 3 rfl) ?_
        refine lv_bipush (v := 8) hx hb dX5_acceptBytes_9 (by decide) ?_
        refine lv_topi (fun v4 e4 => ?_)
        have z4 : v4.toInt = 8 := zi_c e4 (by decide)
        refine lv_imul hx hb dX5_acceptBytes_11 ?_
        refine lv_topi (fun v5 e5 => ?_)
        first | have z5 := zi_mul (k := 8) e5 (by omega) (by omega) | skip
        refine lv_iushr hx hb dX5_acceptBytes_12 rfl ?_
        refine lv_topi (fun v6 e6 => ?_)
        refine lv_sipush (v := 255) hx hb dX5_acceptBytes_13 (by decide) ?_
        refine lv_topi (fun v7 e7 => ?_)
        have z7 : v7.toInt = 255 := zi_c e7 (by decide)
        refine lv_iand hx hb dX5_acceptBytes_16 ?_
        refine lv_topi (fun v8 e8 => ?_)
        have z8 := zi_and e8 e7 8 (z := 256) (by decide) (by decide) (by decide)
        refine lv_aload_n hx hb dX5_acceptBytes_17 rfl (lv_at hl 2 rfl) ?_
        have hh9 : 0 ≤ fi.toInt ∧ fi.toInt < 9088 := (by omega)
        have hh10 : 0 ≤ cn3.toInt ∧ cn3.toInt ≤ 9066 := (by omega)
        have hh11 : 0 ≤ wa3.toInt ∧ wa3.toInt < 8 := (by omega)
        have hh12 : wa3.toInt = 7 → cn3.toInt < 9000 := (by omega)
        have hh13 : ∀ k : Nat, (k : Int) < wa3.toInt → 0 ≤ (fg3 k).toInt ∧ (fg3 k).toInt ≤ 259 := (fun q hq => i2_2 q hq)
        have hh14 : 0 ≤ v8.toInt ∧ v8.toInt ≤ 259 := (by omega)
        refine call_v (wc := [(aS, .inr (4, [.ref aC, .ref aG, .int wa3])), (aC, .inr (3, [.long la3])), (aG, .inl (cI, 8, .inl fg3)), (aL, .inr (1, [.ref aW, .int fi, .int cn3])), (aW, .inl (cJ, 142, .inr (.inl fw3)))]) (wr := []) (run_V (As := [.int v8, .ref aL]) (rest := []) kv_RX5_36 ⟨by decide, by decide⟩ ⟨rfl, rfl⟩ ⟨hx, hb, hml, hown, hts⟩ (c_Se_accept l D cI cJ cB aS aC aG aL aW la3 fg3 wa3 fi cn3 fw3 v8 hh9 hh10 hh11 hh12 hh13 hh14 _) ct_blind (ct_pre (wc := [(aS, .inr (4, [.ref aC, .ref aG, .int wa3])), (aC, .inr (3, [.long la3])), (aG, .inl (cI, 8, .inl fg3)), (aL, .inr (1, [.ref aW, .int fi, .int cn3])), (aW, .inl (cJ, 142, .inr (.inl fw3)))]) hK hP hD hS hA hZ hN [0, 1, 2, 3, 4] (by decide) rfl rfl) (va_recv hK hP (ci := 4) (q0 := 0) rfl rfl) rfl hl.1 rfl (Nat.le_of_ble_eq_true rfl) dX5_acceptBytes_18 ⟨Nat.le_of_ble_eq_true rfl, Nat.le_of_ble_eq_true rfl⟩) hP hD hS hA [0, 1, 2, 3, 4] [] rfl rfl (by decide) (by decide) (fun u H locs hw15 hP1 hD1 hS1 => ?_)
        obtain ⟨la2_15, fg2_15, wa2_15, cn2_15, fw2_15⟩ := u
        have hw15 : (wa3.toInt < 7 → wa2_15.toInt = wa3.toInt + 1 ∧ cn2_15.toInt = cn3.toInt) ∧ (wa3.toInt = 7 → wa2_15.toInt = 0 ∧ cn2_15.toInt = cn3.toInt + 66) ∧ accR v8 wa3.toInt wa2_15.toInt cn3.toInt cn2_15.toInt fg3 fg2_15 (bl la3) (bl la2_15) (lnB fw3 fi.toInt) (lnB fw2_15 fi.toInt) := hw15
        clear hP hD hS
        have hP : va_P D classes [(aS, .inr (4, [.ref aC, .ref aG, .int wa2_15])), (aC, .inr (3, [.long la2_15])), (aG, .inl (cI, 8, .inl fg2_15)), (aL, .inr (1, [.ref aW, .int fi, .int cn2_15])), (aW, .inl (cJ, 142, .inr (.inl fw2_15)))] H := hP1
        have hD : va_D A [(aS, .inr (4, [.ref aC, .ref aG, .int wa2_15])), (aC, .inr (3, [.long la2_15])), (aG, .inl (cI, 8, .inl fg2_15)), (aL, .inr (1, [.ref aW, .int fi, .int cn2_15])), (aW, .inl (cJ, 142, .inr (.inl fw2_15)))] := hD1
        have hS := hS1
        clear hP1 hD1 hS1
        have rg_wa2_15 := zi_rg wa2_15
        have rg_cn2_15 := zi_rg cn2_15
        obtain ⟨v16, e16⟩ : ∃ y : Int32, y = k + (-1) := ⟨_, rfl⟩
        first | have z16 := zi_inc (z := (-1)) (-1) (by decide) e16 (by omega) | skip
        refine lv_iinc (v := v16) (lv' := [(3, .int v16), (0, .ref aS), (1, .int x), (2, .ref aL)]) hx hb dX5_acceptBytes_21 hl (k := 3) rfl (by rw [e16]; rfl) (by decide) rfl (fun ls hl => ?_)
        refine lv_goto (tgt := 2) hx hb dX5_acceptBytes_24 (by decide) ?_
        exact ih2 v16 la2_15 fg2_15 wa2_15 cn2_15 fw2_15 _ _ _ (by omega) (by omega) (by omega) (accR_v i2_2 (by omega) (by omega) hw15.2.2) (by rw [show (3 - v16.toInt).toNat = (3 - k.toInt).toNat + 1 by omega]; exact accL_snoc i2_3 (by rw [show 24 - 8 * (3 - k.toInt).toNat = (8 * k.toInt).toNat by omega, ← wch_u (w := x) (s := v5) (k := (8 * k.toInt).toNat) (by omega) (by omega) e6 e7 e8]; exact hw15.2.2)) (hP.sub [0, 1, 2, 3, 4] rfl) (hD.sub [0, 1, 2, 3, 4] (by decide) rfl) hS (lv_sub hl [1, 2, 3, 0] rfl)
  exact J2 _ v1 la fg wa cn fw _ _ _ (Nat.lt_succ_self _) (by omega) (by omega) h5 (by rw [show (3 - v1.toInt).toNat = 0 by omega]; exact rfl) (hP.sub [0, 1, 2, 3, 4] rfl) (hD.sub [0, 1, 2, 3, 4] (by decide) rfl) hS (lv_sub hl [1, 2, 3, 0] rfl)

set_option maxHeartbeats 4000000 in
set_option maxRecDepth 100000 in
theorem c_Se_sendIdleGroups (l : Launch) (D : va_G) (cI cJ cB : ClassId) (aS : Nat) (aC : Nat) (aG : Nat) (aL : Nat) (aW : Nat) (la : Int64) (wa : Int32) (fi : Int32) (cn : Int32) (nn : Int32) (fw : Nat → Int64) (h1 : 0 ≤ fi.toInt ∧ fi.toInt < 9088) (h2 : 1 ≤ nn.toInt ∧ nn.toInt ≤ 100) (h3 : 0 ≤ cn.toInt ∧ cn.toInt + 66 * nn.toInt ≤ 9087) :
    ctv l yX5_sendIdleGroups (wsOf yX5_sendIdleGroups cX5_sendIdleGroups 4 none) (rmL 4 90 0 0) D classes (tys3 cI cJ cB) [.ref aS, .int nn, .ref aL] [(aS, .inr (4, [.ref aC, .ref aG, .int wa])), (aC, .inr (3, [.long la])), (aL, .inr (1, [.ref aW, .int fi, .int cn])), (aW, .inl (cJ, 142, .inr (.inl fw)))] (fun u : Int64 × Int32 × (Nat → Int64) => u.2.1.toInt = cn.toInt + 66 * nn.toInt ∧ idlR nn.toInt.toNat cn.toInt u.2.1.toInt (bl la) (bl u.1) (lnB fw fi.toInt) (lnB u.2.2 fi.toInt)) (fun u : Int64 × Int32 × (Nat → Int64) => ([(aS, .inr (4, [.ref aC, .ref aG, .int wa])), (aC, .inr (3, [.long u.1])), (aL, .inr (1, [.ref aW, .int fi, .int u.2.1])), (aW, .inl (cJ, 142, .inr (.inl u.2.2)))] : va_W)) 0 0 := by
  refine ctv.of (by first | exact plainFor_of_name (by decide) | decide +kernel) (Nat.le_of_ble_eq_true rfl) (fun p e s m args below meth c A ls Q h hret => ?_)
  obtain ⟨hx, hb, hml, hown, hts, hnm, hP, hK, hD, hA, hS, hZ, hN, hl⟩ := h
  have hown : s.vm.findClass RX5 = some m.cls := hown
  have hl : lv_has ls 4 [(0, .ref aS), (1, .int nn), (2, .ref aL)] := hl
  have hP : va_P D classes [(aS, .inr (4, [.ref aC, .ref aG, .int wa])), (aC, .inr (3, [.long la])), (aL, .inr (1, [.ref aW, .int fi, .int cn])), (aW, .inl (cJ, 142, .inr (.inl fw)))] s.heap := hP
  have hD : va_D A [(aS, .inr (4, [.ref aC, .ref aG, .int wa])), (aC, .inr (3, [.long la])), (aL, .inr (1, [.ref aW, .int fi, .int cn])), (aW, .inl (cJ, 142, .inr (.inl fw)))] := hD
  have rg_wa := zi_rg wa
  have rg_fi := zi_rg fi
  have rg_cn := zi_rg cn
  have rg_nn := zi_rg nn
  refine lv_iconst (v := 0) hx hb dX5_sendIdleGroups_0 (by decide) ?_
  refine lv_topi (fun v1 e1 => ?_)
  have z1 : v1.toInt = 0 := zi_c e1 (by decide)
  refine lv_istore_n (lv' := [(3, .int v1), (0, .ref aS), (1, .int nn), (2, .ref aL)]) hx hb dX5_sendIdleGroups_1 rfl hl (by decide) rfl (fun ls hl => ?_)
  have J2 : ∀ (n : Nat) (k : Int32) (la3 : Int64) (cn3 : Int32) (fw3 : Nat → Int64) (H : Heap) (locs : List Loc) (ls : Array Slot), ((nn.toInt - k.toInt).toNat) < n → (0 ≤ k.toInt ∧ k.toInt ≤ nn.toInt) → (cn3.toInt = cn.toInt + 66 * k.toInt) → (idlR k.toInt.toNat cn.toInt cn3.toInt (bl la) (bl la3) (lnB fw fi.toInt) (lnB fw3 fi.toInt)) → va_P D classes [(aS, .inr (4, [.ref aC, .ref aG, .int wa])), (aC, .inr (3, [.long la3])), (aL, .inr (1, [.ref aW, .int fi, .int cn3])), (aW, .inl (cJ, 142, .inr (.inl fw3)))] H → va_D A [(aS, .inr (4, [.ref aC, .ref aG, .int wa])), (aC, .inr (3, [.long la3])), (aL, .inr (1, [.ref aW, .int fi, .int cn3])), (aW, .inl (cJ, 142, .inr (.inl fw3)))] → va_S A s.heap H locs → lv_has ls 4 [(0, .ref aS), (1, .int nn), (2, .ref aL), (3, .int k)] → W p l e (rmL 4 90 0 0) s m args below meth c H locs 0 0 Q (F0 m 2 ls []) := by
    intro n
    induction n with
    | zero => intro k la3 cn3 fw3 H locs ls hmu; exact absurd hmu (Nat.not_lt_zero _)
    | succ n ih2 =>
      intro k la3 cn3 fw3 H locs ls hmu2 i2_0 i2_1 i2_2 hP hD hS hl
      have rg_k := zi_rg k
      have rg_cn3 := zi_rg cn3
      refine lv_iload_n hx hb dX5_sendIdleGroups_2 rfl (lv_at hl 3 rfl) ?_
      refine lv_iload_n hx hb dX5_sendIdleGroups_3 rfl (lv_at hl 1 rfl) ?_
      refine lv_icmp_ge (tgt := 22) hx hb dX5_sendIdleGroups_4 (by decide) (fun c2 => ?_) (fun c2 => ?_)
      ·
        have z2 := zi_le c2
        have hq3 : cn3.toInt = cn.toInt + 66 * nn.toInt ∧ idlR nn.toInt.toNat cn.toInt cn3.toInt (bl la) (bl la3) (lnB fw fi.toInt) (lnB fw3 fi.toInt) := ⟨by omega, by rw [show nn.toInt.toNat = k.toInt.toNat by omega]; exact i2_2⟩
        exact hret (la3, cn3, fw3) _ _ _ _ dX5_sendIdleGroups_22 hq3 (hP.sub [0, 1, 2, 3] rfl) (hD.sub [0, 1, 2, 3] (by decide) rfl) hS
      ·
        have z2 := zi_nle c2
        refine lv_aload_n hx hb dX5_sendIdleGroups_7 rfl (lv_at hl 0 rfl) ?_
        refine lv_iconst (v := 2) hx hb dX5_sendIdleGroups_8 (by decide) ?_
        refine lv_topi (fun v4 e4 => ?_)
        have z4 : v4.toInt = 2 := zi_c e4 (by decide)
        refine lv_ldc2 (v := 30) hx hb hown (hts _ wk224) dX5_sendIdleGroups_9 ?_
        refine lv_topl (fun v5 e5 => ?_)
        refine lv_aload_n hx hb dX5_sendIdleGroups_12 rfl (lv_at hl 2 rfl) ?_
        have hh6 : 0 ≤ fi.toInt ∧ fi.toInt < 9088 := (by omega)
        have hh7 : 0 ≤ cn3.toInt ∧ cn3.toInt + 66 ≤ 9087 := (by omega)
        have hh8 : v4.toInt = 1 ∨ v4.toInt = 2 := (by omega)
        refine call_v (wc := [(aS, .inr (4, [.ref aC, .ref aG, .int wa])), (aC, .inr (3, [.long la3])), (aL, .inr (1, [.ref aW, .int fi, .int cn3])), (aW, .inl (cJ, 142, .inr (.inl fw3)))]) (wr := []) (run_V (As := [.int v4, .long v5, .ref aL]) (rest := []) kv_RX5_42 ⟨by decide, by decide⟩ ⟨rfl, rfl⟩ ⟨hx, hb, hml, hown, hts⟩ (c_Se_sendBlock l D cI cJ cB aS aC aG aL aW la3 v5 wa fi cn3 v4 fw3 hh6 hh7 hh8 _) ct_blind (ct_pre (wc := [(aS, .inr (4, [.ref aC, .ref aG, .int wa])), (aC, .inr (3, [.long la3])), (aL, .inr (1, [.ref aW, .int fi, .int cn3])), (aW, .inl (cJ, 142, .inr (.inl fw3)))]) hK hP hD hS hA hZ hN [0, 1, 2, 3] (by decide) rfl rfl) (va_recv hK hP (ci := 4) (q0 := 0) rfl rfl) rfl hl.1 rfl (Nat.le_of_ble_eq_true rfl) dX5_sendIdleGroups_13 ⟨Nat.le_of_ble_eq_true rfl, Nat.le_of_ble_eq_true rfl⟩) hP hD hS hA [0, 1, 2, 3] [] rfl rfl (by decide) (by decide) (fun u H locs hw9 hP1 hD1 hS1 => ?_)
        obtain ⟨la2_9, cn2_9, fw2_9⟩ := u
        have hw9 : cn2_9.toInt = cn3.toInt + 66 ∧ sndR (hpB v4 v5) cn3.toInt cn2_9.toInt (bl la3) (bl la2_9) (lnB fw3 fi.toInt) (lnB fw2_9 fi.toInt) := hw9
        clear hP hD hS
        have hP : va_P D classes [(aS, .inr (4, [.ref aC, .ref aG, .int wa])), (aC, .inr (3, [.long la2_9])), (aL, .inr (1, [.ref aW, .int fi, .int cn2_9])), (aW, .inl (cJ, 142, .inr (.inl fw2_9)))] H := hP1
        have hD : va_D A [(aS, .inr (4, [.ref aC, .ref aG, .int wa])), (aC, .inr (3, [.long la2_9])), (aL, .inr (1, [.ref aW, .int fi, .int cn2_9])), (aW, .inl (cJ, 142, .inr (.inl fw2_9)))] := hD1
        have hS := hS1
        clear hP1 hD1 hS1
        have rg_cn2_9 := zi_rg cn2_9
        obtain ⟨v10, e10⟩ : ∃ y : Int32, y = k + 1 := ⟨_, rfl⟩
        first | have z10 := zi_inc (z := 1) 1 (by decide) e10 (by omega) | skip
        refine lv_iinc (v := v10) (lv' := [(3, .int v10), (0, .ref aS), (1, .int nn), (2, .ref aL)]) hx hb dX5_sendIdleGroups_16 hl (k := 3) rfl (by rw [e10]; rfl) (by decide) rfl (fun ls hl => ?_)
        refine lv_goto (tgt := 2) hx hb dX5_sendIdleGroups_19 (by decide) ?_
        exact ih2 v10 la2_9 cn2_9 fw2_9 _ _ _ (by omega) (by omega) (by omega) (by rw [show v10.toInt.toNat = k.toInt.toNat + 1 by omega]; exact ⟨cn3.toInt, bl la3, lnB fw3 fi.toInt, hpB v4 v5, i2_2, blk_idle z4 e5, hw9.2⟩) (hP.sub [0, 1, 2, 3] rfl) (hD.sub [0, 1, 2, 3] (by decide) rfl) hS (lv_sub hl [1, 2, 3, 0] rfl)
  exact J2 _ v1 la cn fw _ _ _ (Nat.lt_succ_self _) (by omega) (by omega) (by rw [show v1.toInt.toNat = 0 by omega]; exact ⟨rfl, fun _ _ => rfl, fun _ _ _ => rfl⟩) (hP.sub [0, 1, 2, 3] rfl) (hD.sub [0, 1, 2, 3] (by decide) rfl) hS (lv_sub hl [1, 2, 3, 0] rfl)

set_option maxHeartbeats 4000000 in
set_option maxRecDepth 100000 in
theorem c_Se_init (l : Launch) (D : va_G) (cI cJ cB : ClassId) (aS : Nat)  :
    ctv l yX5_init (wsOf yX5_init cX5_init 1 none) (rmL 2 44 2 9) D classes (tys3 cI cJ cB) [.ref aS] [(aS, .inr (4, [.null, .null, .int 0]))] (fun u : Nat × Nat => True) (fun u : Nat × Nat => ([(aS, .inr (4, [.ref u.1, .ref u.2, .int 0])), (u.1, .inr (3, [.long 0])), (u.2, .inl (cI, 8, .inl (fun _ => 0)))] : va_W)) 2 9 := by
  refine ctv.of (by first | exact plainFor_of_name (by decide) | decide +kernel) (Nat.le_of_ble_eq_true rfl) (fun p e s m args below meth c A ls Q h hret => ?_)
  obtain ⟨hx, hb, hml, hown, hts, hnm, hP, hK, hD, hA, hS, hZ, hN, hl⟩ := h
  have hown : s.vm.findClass RX5 = some m.cls := hown
  have hl : lv_has ls 1 [(0, .ref aS)] := hl
  have hP : va_P D classes [(aS, .inr (4, [.null, .null, .int 0]))] s.heap := hP
  have hD : va_D A [(aS, .inr (4, [.null, .null, .int 0]))] := hD
  refine lv_aload_n hx hb dX5_init_0 rfl (lv_at hl 0 rfl) ?_
  refine W.objInit hx hb hown (hts _ wk32) (hts _ wk11) (hts _ wk12) rfl (by rw [hml]; exact hl.1) rfl dX5_init_1 (Nat.le_of_ble_eq_true rfl) (Nat.le_of_ble_eq_true rfl) ?_
  refine W.eq (g2 := F0 m 4 ls []) rfl ?_
  refine lv_aload_n hx hb dX5_init_4 rfl (lv_at hl 0 rfl) ?_
  refine va_new (ci := 3) (fs := [.long 0]) (C := RX4) (T := TX4) (N := 1) hx hb hts in_X4 tyX4 tyX4_ok hown (hts _ wk33) (hts _ wk34) (hts _ wk35) hK hP hD hS hA rfl (fun j hj => by rcases (show j = 0 by omega) with rfl <;> rfl) (Nat.le_of_ble_eq_true rfl) (Nat.le_of_ble_eq_true rfl) dX5_init_5 (fun q1 H hP1 hD1 hS1 => ?_)
  clear hP hD hS
  have hP : va_P D classes [(aS, .inr (4, [.null, .null, .int 0])), (q1, .inr (3, [.long 0]))] H := hP1
  have hD : va_D A [(aS, .inr (4, [.null, .null, .int 0])), (q1, .inr (3, [.long 0]))] := hD1
  have hS := hS1
  clear hP1 hD1 hS1
  refine W.widen (k := 1) (n := 1) (Nat.le_refl _) (Nat.le_refl _) ?_
  refine lv_dup hx hb dX5_init_8 rfl ?_
  refine call_v (wc := [(q1, .inr (3, [.long 0]))]) (wr := [(aS, .inr (4, [.null, .null, .int 0]))]) (run_N (As := []) (rest := [.ref q1, .ref aS]) kn_RX5_13 hN ⟨by decide, by decide⟩ ⟨rfl, rfl⟩ ⟨hx, hb, hml, hown, hts⟩ (c_Sc_init l D cI cJ cB q1  _) ct_blind (ct_pre (wc := [(q1, .inr (3, [.long 0]))]) hK hP hD hS hA hZ hN [1] (by decide) rfl rfl) rfl hl.1 rfl (Nat.le_of_ble_eq_true rfl) dX5_init_9 ⟨Nat.le_of_ble_eq_true rfl, Nat.le_of_ble_eq_true rfl⟩) hP hD hS hA [1] [0] rfl rfl (by decide) (by decide) (fun u H locs hw2 hP1 hD1 hS1 => ?_)
  clear hw2
  clear hP hD hS
  have hP : va_P D classes [(aS, .inr (4, [.null, .null, .int 0])), (q1, .inr (3, [.long 0]))] H := hP1
  have hD : va_D A [(aS, .inr (4, [.null, .null, .int 0])), (q1, .inr (3, [.long 0]))] := hD1
  have hS := hS1
  clear hP1 hD1 hS1
  refine va_putF (D := D) (ci := 4) (v := .ref q1) (ty := (.object "LineBlocks$Scrambler")) (C := RX5) (T := TX5) (N := 3) hx hb hts in_X5 tyX5 tyX5_ok nmX5 hown hK hP hD hS 0 rfl rfl 0 (by decide) (hts _ wk36) (fun _ h9 => h9) rfl hnm rfl (by decide +kernel) rfl rfl (Nat.le_of_ble_eq_true rfl) dX5_init_12 (fun H locs hP1 hD1 hS1 => ?_)
  clear hP hD hS
  have hP : va_P D classes [(aS, .inr (4, [.ref q1, .null, .int 0])), (q1, .inr (3, [.long 0]))] H := hP1
  have hD : va_D A [(aS, .inr (4, [.ref q1, .null, .int 0])), (q1, .inr (3, [.long 0]))] := hD1
  have hS := hS1
  clear hP1 hD1 hS1
  refine lv_aload_n hx hb dX5_init_15 rfl (lv_at hl 0 rfl) ?_
  refine lv_bipush (v := 8) hx hb dX5_init_16 (by decide) ?_
  refine lv_topi (fun v3 e3 => ?_)
  have z3 : v3.toInt = 8 := zi_c e3 (by decide)
  refine va_newa (a0 := (8, .inl (fun _ => 0))) (atype := .int) (ty := .int) hx hb (hts _ wk37) rfl hK hP hD hS hA (fun _ => rfl) (by rw [e3]; decide) (by rw [e3]; decide) (by decide) (Nat.le_of_ble_eq_true rfl) (Nat.le_of_ble_eq_true rfl) dX5_init_18 (fun q4 cN H hK9 hP1 hD1 hS1 => ?_)
  have hcN : cN = cI := ty3_eq 0 3 hK9 rfl rfl rfl rfl
  rw [hcN] at hP1 hD1
  clear hK9
  clear hP hD hS
  have hP : va_P D classes [(aS, .inr (4, [.ref q1, .null, .int 0])), (q1, .inr (3, [.long 0])), (q4, .inl (cI, 8, .inl (fun _ => 0)))] H := hP1
  have hD : va_D A [(aS, .inr (4, [.ref q1, .null, .int 0])), (q1, .inr (3, [.long 0])), (q4, .inl (cI, 8, .inl (fun _ => 0)))] := hD1
  have hS := hS1
  clear hP1 hD1 hS1
  refine W.widen (k := 2) (n := 9) (Nat.le_refl _) (Nat.le_refl _) ?_
  refine va_putF (D := D) (ci := 4) (v := .ref q4) (ty := (.array .int)) (C := RX5) (T := TX5) (N := 3) hx hb hts in_X5 tyX5 tyX5_ok nmX5 hown hK hP hD hS 0 rfl rfl 1 (by decide) (hts _ wk38) (fun _ h9 => h9) rfl hnm rfl (by decide +kernel) rfl rfl (Nat.le_of_ble_eq_true rfl) dX5_init_20 (fun H locs hP1 hD1 hS1 => ?_)
  clear hP hD hS
  have hP : va_P D classes [(aS, .inr (4, [.ref q1, .ref q4, .int 0])), (q1, .inr (3, [.long 0])), (q4, .inl (cI, 8, .inl (fun _ => 0)))] H := hP1
  have hD : va_D A [(aS, .inr (4, [.ref q1, .ref q4, .int 0])), (q1, .inr (3, [.long 0])), (q4, .inl (cI, 8, .inl (fun _ => 0)))] := hD1
  have hS := hS1
  clear hP1 hD1 hS1
  exact hret (q1, q4) _ _ _ _ dX5_init_23 trivial (hP.sub [0, 1, 2] rfl) (hD.sub [0, 1, 2] (by decide) rfl) hS
end
section
set_option maxHeartbeats 4000000 in
set_option maxRecDepth 100000 in
theorem c_Gr_count (l : Launch) (D : va_G) (cI cJ cB : ClassId) (aQ : Nat) (aT : Nat) (aP : Nat) (gc : Int32)  :
    cti l yX1_count (wsOf yX1_count cX1_count 1 (some .int)) (rmL 0 0 0 0) D classes (tys3 cI cJ cB) [.ref aQ] [(aQ, .inr (0, [.ref aT, .ref aP, .int gc]))] (fun (r : Int32) (u : Unit) => r.toInt = gc.toInt) (fun u : Unit => ([(aQ, .inr (0, [.ref aT, .ref aP, .int gc]))] : va_W)) := by
  refine cti.of (by first | exact plainFor_of_name (by decide) | decide +kernel) (Nat.le_of_ble_eq_true rfl) (fun p e s m args below meth c A ls Q h hret => ?_)
  obtain ⟨hx, hb, hml, hown, hts, hnm, hP, hK, hD, hA, hS, hZ, hN, hl⟩ := h
  have hown : s.vm.findClass RX1 = some m.cls := hown
  have hl : lv_has ls 1 [(0, .ref aQ)] := hl
  have hP : va_P D classes [(aQ, .inr (0, [.ref aT, .ref aP, .int gc]))] s.heap := hP
  have hD : va_D A [(aQ, .inr (0, [.ref aT, .ref aP, .int gc]))] := hD
  have rg_gc := zi_rg gc
  refine lv_aload_n hx hb dX1_count_0 rfl (lv_at hl 0 rfl) ?_
  refine va_get (D := D) (ci := 0) (v := .int gc) (C := RX1) (T := TX1) (N := 3) hx hb hts in_X1 hown hK hP 0 rfl rfl 2 (by decide) (hts _ wk314) (fun _ h9 => h9) rfl dX1_count_1 ?_
  have hq1 : gc.toInt = gc.toInt := (by omega)
  exact hret gc () _ _ _ _ dX1_count_4 hq1 (hP.sub [0] rfl) (hD.sub [0] (by decide) rfl) hS

set_option maxHeartbeats 4000000 in
set_option maxRecDepth 100000 in
theorem c_Gr_slotOf (l : Launch) (D : va_G) (cI cJ cB : ClassId) (i : Int32) (h1 : 0 ≤ i.toInt) :
    cti l yX1_slotOf (wsOf yX1_slotOf cX1_slotOf 1 (some .int)) (rmL 1 22 0 0) D classes (tys3 cI cJ cB) [.int i] [] (fun (r : Int32) (u : Unit) => 0 ≤ r.toInt ∧ r.toInt < 300) (fun u : Unit => ([] : va_W)) := by
  refine cti.of (by first | exact plainFor_of_name (by decide) | decide +kernel) (Nat.le_of_ble_eq_true rfl) (fun p e s m args below meth c A ls Q h hret => ?_)
  obtain ⟨hx, hb, hml, hown, hts, hnm, hP, hK, hD, hA, hS, hZ, hN, hl⟩ := h
  have hown : s.vm.findClass RX1 = some m.cls := hown
  have hl : lv_has ls 1 [(0, .int i)] := hl
  have hP : va_P D classes [] s.heap := hP
  have hD : va_D A [] := hD
  have rg_i := zi_rg i
  refine lv_iload_n hx hb dX1_slotOf_0 rfl (lv_at hl 0 rfl) ?_
  refine lv_sipush (v := 300) hx hb dX1_slotOf_1 (by decide) ?_
  refine lv_topi (fun v1 e1 => ?_)
  have z1 : v1.toInt = 300 := zi_c e1 (by decide)
  have hh2 : 0 ≤ i.toInt := (by omega)
  have hh3 : 0 < v1.toInt := (by omega)
  refine call_i (wc := []) (wr := []) (run_S (As := [.int i, .int v1]) (rest := []) ks_RX1_37 ⟨by decide, by decide⟩ ⟨rfl, rfl⟩ ⟨hx, hb, hml, hown, hts⟩ (c_JM_floorMod l D cI cJ cB i v1 hh2 hh3 _) ct_blind (ct_pre (wc := []) hK hP hD hS hA hZ hN [] (by decide) rfl rfl) rfl hl.1 rfl (Nat.le_of_ble_eq_true rfl) dX1_slotOf_4 ⟨Nat.le_of_ble_eq_true rfl, Nat.le_of_ble_eq_true rfl⟩) hP hD hS hA [] [] rfl rfl (by decide) (by decide) (fun r4 u H locs hw4 hP1 hD1 hS1 => ?_)
  have hw4 : (0 ≤ r4.toInt ∧ r4.toInt < v1.toInt) ∧ r4.toInt = i.toInt % v1.toInt := hw4
  clear hP hD hS
  have hP : va_P D classes [] H := hP1
  have hD : va_D A [] := hD1
  have hS := hS1
  clear hP1 hD1 hS1
  have rg_r4 := zi_rg r4
  have hq5 : 0 ≤ r4.toInt ∧ r4.toInt < 300 := (by omega)
  exact hret r4 () _ _ _ _ dX1_slotOf_7 hq5 (hP.sub [] rfl) (hD.sub [] (by decide) rfl) hS

set_option maxHeartbeats 4000000 in
set_option maxRecDepth 100000 in
theorem c_Gr_isKept (l : Launch) (D : va_G) (cI cJ cB : ClassId) (aQ : Nat) (aT : Nat) (aP : Nat) (gc : Int32) (i : Int32)  :
    cti l yX1_isKept (wsOf yX1_isKept cX1_isKept 2 (some .boolean)) (rmL 0 0 0 0) D classes (tys3 cI cJ cB) [.ref aQ, .int i] [(aQ, .inr (0, [.ref aT, .ref aP, .int gc]))] (fun (r : Int32) (u : Unit) => (r.toInt = 1 ∧ 0 ≤ i.toInt ∧ i.toInt < gc.toInt) ∨ r.toInt = 0) (fun u : Unit => ([(aQ, .inr (0, [.ref aT, .ref aP, .int gc]))] : va_W)) := by
  refine ctz.of (by first | exact plainFor_of_name (by decide) | decide +kernel) (Nat.le_of_ble_eq_true rfl) (fun p e s m args below meth c A ls Q h hret => ?_)
  obtain ⟨hx, hb, hml, hown, hts, hnm, hP, hK, hD, hA, hS, hZ, hN, hl⟩ := h
  have hown : s.vm.findClass RX1 = some m.cls := hown
  have hl : lv_has ls 2 [(0, .ref aQ), (1, .int i)] := hl
  have hP : va_P D classes [(aQ, .inr (0, [.ref aT, .ref aP, .int gc]))] s.heap := hP
  have hD : va_D A [(aQ, .inr (0, [.ref aT, .ref aP, .int gc]))] := hD
  have rg_gc := zi_rg gc
  have rg_i := zi_rg i
  refine lv_iload_n hx hb dX1_isKept_0 rfl (lv_at hl 1 rfl) ?_
  refine lv_if_lt (tgt := 28) hx hb dX1_isKept_1 (by decide) (fun c1 => ?_) (fun c1 => ?_)
  ·
    have z1 := zi_lt0 c1
    refine lv_iconst (v := 0) hx hb dX1_isKept_28 (by decide) ?_
    refine lv_topi (fun v2 e2 => ?_)
    have z2 : v2.toInt = 0 := zi_c e2 (by decide)
    have hq3 : (v2.toInt = 1 ∧ 0 ≤ i.toInt ∧ i.toInt < gc.toInt) ∨ v2.toInt = 0 := (by omega)
    exact hret v2 () _ _ _ _ dX1_isKept_29 (zb_n (by omega)) hq3 (hP.sub [0] rfl) (hD.sub [0] (by decide) rfl) hS
  ·
    have z1 := zi_nlt0 c1
    refine lv_iload_n hx hb dX1_isKept_4 rfl (lv_at hl 1 rfl) ?_
    refine lv_aload_n hx hb dX1_isKept_5 rfl (lv_at hl 0 rfl) ?_
    refine va_get (D := D) (ci := 0) (v := .int gc) (C := RX1) (T := TX1) (N := 3) hx hb hts in_X1 hown hK hP 0 rfl rfl 2 (by decide) (hts _ wk314) (fun _ h9 => h9) rfl dX1_isKept_6 ?_
    refine lv_icmp_ge (tgt := 28) hx hb dX1_isKept_9 (by decide) (fun c4 => ?_) (fun c4 => ?_)
    ·
      have z4 := zi_le c4
      refine lv_iconst (v := 0) hx hb dX1_isKept_28 (by decide) ?_
      refine lv_topi (fun v5 e5 => ?_)
      have z5 : v5.toInt = 0 := zi_c e5 (by decide)
      have hq6 : (v5.toInt = 1 ∧ 0 ≤ i.toInt ∧ i.toInt < gc.toInt) ∨ v5.toInt = 0 := (by omega)
      exact hret v5 () _ _ _ _ dX1_isKept_29 (zb_n (by omega)) hq6 (hP.sub [0] rfl) (hD.sub [0] (by decide) rfl) hS
    ·
      have z4 := zi_nle c4
      refine lv_iload_n hx hb dX1_isKept_12 rfl (lv_at hl 1 rfl) ?_
      refine lv_aload_n hx hb dX1_isKept_13 rfl (lv_at hl 0 rfl) ?_
      refine va_get (D := D) (ci := 0) (v := .int gc) (C := RX1) (T := TX1) (N := 3) hx hb hts in_X1 hown hK hP 0 rfl rfl 2 (by decide) (hts _ wk314) (fun _ h9 => h9) rfl dX1_isKept_14 ?_
      refine lv_sipush (v := 300) hx hb dX1_isKept_17 (by decide) ?_
      refine lv_topi (fun v7 e7 => ?_)
      have z7 : v7.toInt = 300 := zi_c e7 (by decide)
      refine lv_isub hx hb dX1_isKept_20 ?_
      refine lv_topi (fun v8 e8 => ?_)
      first | have z8 := zi_sub e8 (by omega) | skip
      refine lv_icmp_lt (tgt := 28) hx hb dX1_isKept_21 (by decide) (fun c9 => ?_) (fun c9 => ?_)
      ·
        have z9 := zi_lt c9
        refine lv_iconst (v := 0) hx hb dX1_isKept_28 (by decide) ?_
        refine lv_topi (fun v10 e10 => ?_)
        have z10 : v10.toInt = 0 := zi_c e10 (by decide)
        have hq11 : (v10.toInt = 1 ∧ 0 ≤ i.toInt ∧ i.toInt < gc.toInt) ∨ v10.toInt = 0 := (by omega)
        exact hret v10 () _ _ _ _ dX1_isKept_29 (zb_n (by omega)) hq11 (hP.sub [0] rfl) (hD.sub [0] (by decide) rfl) hS
      ·
        have z9 := zi_nlt c9
        refine lv_iconst (v := 1) hx hb dX1_isKept_24 (by decide) ?_
        refine lv_topi (fun v12 e12 => ?_)
        have z12 : v12.toInt = 1 := zi_c e12 (by decide)
        refine lv_goto (tgt := 29) hx hb dX1_isKept_25 (by decide) ?_
        have hq13 : (v12.toInt = 1 ∧ 0 ≤ i.toInt ∧ i.toInt < gc.toInt) ∨ v12.toInt = 0 := (by omega)
        exact hret v12 () _ _ _ _ dX1_isKept_29 (zb_n (by omega)) hq13 (hP.sub [0] rfl) (hD.sub [0] (by decide) rfl) hS

set_option maxHeartbeats 4000000 in
set_option maxRecDepth 100000 in
theorem c_Gr_keep (l : Launch) (D : va_G) (cI cJ cB : ClassId) (aQ : Nat) (aT : Nat) (aP : Nat) (gc : Int32) (ty : Int32) (pl : Int64) (ft : Nat → Int32) (fp : Nat → Int64) (h1 : 0 ≤ gc.toInt ∧ gc.toInt ≤ 1000000000) :
    ctv l yX1_keep (wsOf yX1_keep cX1_keep 5 none) (rmL 2 42 0 0) D classes (tys3 cI cJ cB) [.ref aQ, .int ty, .long pl] [(aQ, .inr (0, [.ref aT, .ref aP, .int gc])), (aT, .inl (cI, 300, .inl ft)), (aP, .inl (cJ, 300, .inr (.inl fp)))] (fun u : Int32 × (Nat → Int32) × (Nat → Int64) => u.1.toInt = gc.toInt + 1) (fun u : Int32 × (Nat → Int32) × (Nat → Int64) => ([(aQ, .inr (0, [.ref aT, .ref aP, .int u.1])), (aT, .inl (cI, 300, .inl u.2.1)), (aP, .inl (cJ, 300, .inr (.inl u.2.2)))] : va_W)) 0 0 := by
  refine ctv.of (by first | exact plainFor_of_name (by decide) | decide +kernel) (Nat.le_of_ble_eq_true rfl) (fun p e s m args below meth c A ls Q h hret => ?_)
  obtain ⟨hx, hb, hml, hown, hts, hnm, hP, hK, hD, hA, hS, hZ, hN, hl⟩ := h
  have hown : s.vm.findClass RX1 = some m.cls := hown
  have hl : lv_has ls 5 [(0, .ref aQ), (1, .int ty), (2, .long pl)] := hl
  have hP : va_P D classes [(aQ, .inr (0, [.ref aT, .ref aP, .int gc])), (aT, .inl (cI, 300, .inl ft)), (aP, .inl (cJ, 300, .inr (.inl fp)))] s.heap := hP
  have hD : va_D A [(aQ, .inr (0, [.ref aT, .ref aP, .int gc])), (aT, .inl (cI, 300, .inl ft)), (aP, .inl (cJ, 300, .inr (.inl fp)))] := hD
  have rg_gc := zi_rg gc
  have rg_ty := zi_rg ty
  refine lv_aload_n hx hb dX1_keep_0 rfl (lv_at hl 0 rfl) ?_
  refine va_get (D := D) (ci := 0) (v := .int gc) (C := RX1) (T := TX1) (N := 3) hx hb hts in_X1 hown hK hP 0 rfl rfl 2 (by decide) (hts _ wk314) (fun _ h9 => h9) rfl dX1_keep_1 ?_
  have hh1 : 0 ≤ gc.toInt := (by omega)
  refine call_i (wc := []) (wr := [(aQ, .inr (0, [.ref aT, .ref aP, .int gc])), (aT, .inl (cI, 300, .inl ft)), (aP, .inl (cJ, 300, .inr (.inl fp)))]) (run_S (As := [.int gc]) (rest := []) ks_RX1_23 ⟨by decide, by decide⟩ ⟨rfl, rfl⟩ ⟨hx, hb, hml, hown, hts⟩ (c_Gr_slotOf l D cI cJ cB gc hh1 _) ct_blind (ct_pre (wc := []) hK hP hD hS hA hZ hN [] (by decide) rfl rfl) rfl hl.1 rfl (Nat.le_of_ble_eq_true rfl) dX1_keep_4 ⟨Nat.le_of_ble_eq_true rfl, Nat.le_of_ble_eq_true rfl⟩) hP hD hS hA [] [0, 1, 2] rfl rfl (by decide) (by decide) (fun r2 u H locs hw2 hP1 hD1 hS1 => ?_)
  have hw2 : 0 ≤ r2.toInt ∧ r2.toInt < 300 := hw2
  clear hP hD hS
  have hP : va_P D classes [(aQ, .inr (0, [.ref aT, .ref aP, .int gc])), (aT, .inl (cI, 300, .inl ft)), (aP, .inl (cJ, 300, .inr (.inl fp)))] H := hP1
  have hD : va_D A [(aQ, .inr (0, [.ref aT, .ref aP, .int gc])), (aT, .inl (cI, 300, .inl ft)), (aP, .inl (cJ, 300, .inr (.inl fp)))] := hD1
  have hS := hS1
  clear hP1 hD1 hS1
  have rg_r2 := zi_rg r2
  refine lv_istore (lv' := [(4, .int r2), (0, .ref aQ), (1, .int ty), (2, .long pl)]) hx hb dX1_keep_7 hl (by decide) rfl (fun ls hl => ?_)
  refine lv_aload_n hx hb dX1_keep_9 rfl (lv_at hl 1 rfl) ?_
  refine va_get (D := D) (ci := 0) (v := .ref aT) (C := RX1) (T := TX1) (N := 3) hx hb hts in_X1 hown hK hP 0 rfl rfl 0 (by decide) (hts _ wk54) (fun _ h9 => h9) rfl dX1_keep_10 ?_
  refine lv_iload hx hb dX1_keep_13 (lv_at hl 0 rfl) ?_
  refine lv_iload_n hx hb dX1_keep_15 rfl (lv_at hl 2 rfl) ?_
  obtain ⟨f3, ef3⟩ : ∃ z9, z9 = upd ft r2.toNatClampNeg ty := ⟨_, rfl⟩
  refine va_iast hx hb hK hP hD hS 1 0 rfl rfl (zi_in (by omega)) dX1_keep_16 (fun H locs hP1 hD1 hS1 => ?_)
  rw [← ef3] at hP1 hD1
  clear hP hD hS
  have hP : va_P D classes [(aQ, .inr (0, [.ref aT, .ref aP, .int gc])), (aT, .inl (cI, 300, .inl f3)), (aP, .inl (cJ, 300, .inr (.inl fp)))] H := hP1
  have hD : va_D A [(aQ, .inr (0, [.ref aT, .ref aP, .int gc])), (aT, .inl (cI, 300, .inl f3)), (aP, .inl (cJ, 300, .inr (.inl fp)))] := hD1
  have hS := hS1
  clear hP1 hD1 hS1
  refine lv_aload_n hx hb dX1_keep_17 rfl (lv_at hl 1 rfl) ?_
  refine va_get (D := D) (ci := 0) (v := .ref aP) (C := RX1) (T := TX1) (N := 3) hx hb hts in_X1 hown hK hP 0 rfl rfl 1 (by decide) (hts _ wk55) (fun _ h9 => h9) rfl dX1_keep_18 ?_
  refine lv_iload hx hb dX1_keep_21 (lv_at hl 0 rfl) ?_
  refine lv_lload_n hx hb dX1_keep_23 rfl (lv_at hl 3 rfl) ?_
  obtain ⟨f4, ef4⟩ : ∃ z9, z9 = vp_updL fp r2.toNatClampNeg pl := ⟨_, rfl⟩
  refine va_last hx hb hK hP hD hS 2 1 rfl rfl (zi_in (by omega)) dX1_keep_24 (fun H locs hP1 hD1 hS1 => ?_)
  rw [← ef4] at hP1 hD1
  clear hP hD hS
  have hP : va_P D classes [(aQ, .inr (0, [.ref aT, .ref aP, .int gc])), (aT, .inl (cI, 300, .inl f3)), (aP, .inl (cJ, 300, .inr (.inl f4)))] H := hP1
  have hD : va_D A [(aQ, .inr (0, [.ref aT, .ref aP, .int gc])), (aT, .inl (cI, 300, .inl f3)), (aP, .inl (cJ, 300, .inr (.inl f4)))] := hD1
  have hS := hS1
  clear hP1 hD1 hS1
  refine lv_aload_n hx hb dX1_keep_25 rfl (lv_at hl 1 rfl) ?_
  refine lv_dup hx hb dX1_keep_26 rfl ?_
  refine va_get (D := D) (ci := 0) (v := .int gc) (C := RX1) (T := TX1) (N := 3) hx hb hts in_X1 hown hK hP 0 rfl rfl 2 (by decide) (hts _ wk314) (fun _ h9 => h9) rfl dX1_keep_27 ?_
  refine lv_iconst (v := 1) hx hb dX1_keep_30 (by decide) ?_
  refine lv_topi (fun v5 e5 => ?_)
  have z5 : v5.toInt = 1 := zi_c e5 (by decide)
  refine lv_iadd hx hb dX1_keep_31 ?_
  refine lv_topi (fun v6 e6 => ?_)
  first | have z6 := zi_add e6 (by omega) | skip
  refine va_put (D := D) (ci := 0) (v := .int v6) (ty := .int) (C := RX1) (T := TX1) (N := 3) hx hb hts in_X1 tyX1 tyX1_ok nmX1 hown hK hP hD hS 0 rfl rfl 2 (by decide) (hts _ wk314) (fun _ h9 => h9) rfl (by decide +kernel) rfl rfl (Nat.le_of_ble_eq_true rfl) dX1_keep_32 (fun H locs hP1 hD1 hS1 => ?_)
  clear hP hD hS
  have hP : va_P D classes [(aQ, .inr (0, [.ref aT, .ref aP, .int v6])), (aT, .inl (cI, 300, .inl f3)), (aP, .inl (cJ, 300, .inr (.inl f4)))] H := hP1
  have hD : va_D A [(aQ, .inr (0, [.ref aT, .ref aP, .int v6])), (aT, .inl (cI, 300, .inl f3)), (aP, .inl (cJ, 300, .inr (.inl f4)))] := hD1
  have hS := hS1
  clear hP1 hD1 hS1
  have hq7 : v6.toInt = gc.toInt + 1 := (by omega)
  exact hret (v6, f3, f4) _ _ _ _ dX1_keep_35 hq7 (hP.sub [0, 1, 2] rfl) (hD.sub [0, 1, 2] (by decide) rfl) hS

set_option maxHeartbeats 4000000 in
set_option maxRecDepth 100000 in
theorem c_Gr_character (l : Launch) (D : va_G) (cI cJ cB : ClassId) (aQ : Nat) (aT : Nat) (aP : Nat) (gc : Int32) (i : Int32) (j : Int32) (ft : Nat → Int32) (fp : Nat → Int64)  :
    cti l yX1_character (wsOf yX1_character cX1_character 4 (some .int)) (rmL 5 113 0 0) D classes (tys3 cI cJ cB) [.ref aQ, .int i, .int j] [(aQ, .inr (0, [.ref aT, .ref aP, .int gc])), (aT, .inl (cI, 300, .inl ft)), (aP, .inl (cJ, 300, .inr (.inl fp)))] (fun (r : Int32) (u : Unit) => gc.toInt = 0 → r.toInt = -1) (fun u : Unit => ([(aQ, .inr (0, [.ref aT, .ref aP, .int gc])), (aT, .inl (cI, 300, .inl ft)), (aP, .inl (cJ, 300, .inr (.inl fp)))] : va_W)) := by
  refine cti.of (by first | exact plainFor_of_name (by decide) | decide +kernel) (Nat.le_of_ble_eq_true rfl) (fun p e s m args below meth c A ls Q h hret => ?_)
  obtain ⟨hx, hb, hml, hown, hts, hnm, hP, hK, hD, hA, hS, hZ, hN, hl⟩ := h
  have hown : s.vm.findClass RX1 = some m.cls := hown
  have hl : lv_has ls 4 [(0, .ref aQ), (1, .int i), (2, .int j)] := hl
  have hP : va_P D classes [(aQ, .inr (0, [.ref aT, .ref aP, .int gc])), (aT, .inl (cI, 300, .inl ft)), (aP, .inl (cJ, 300, .inr (.inl fp)))] s.heap := hP
  have hD : va_D A [(aQ, .inr (0, [.ref aT, .ref aP, .int gc])), (aT, .inl (cI, 300, .inl ft)), (aP, .inl (cJ, 300, .inr (.inl fp)))] := hD
  have rg_gc := zi_rg gc
  have rg_i := zi_rg i
  have rg_j := zi_rg j
  refine lv_iload_n hx hb dX1_character_0 rfl (lv_at hl 2 rfl) ?_
  refine lv_if_lt (tgt := 18) hx hb dX1_character_1 (by decide) (fun c1 => ?_) (fun c1 => ?_)
  ·
    have z1 := zi_lt0 c1
    refine lv_iconst (v := -1) hx hb dX1_character_18 (by decide) ?_
    refine lv_topi (fun v2 e2 => ?_)
    have z2 : v2.toInt = (-1) := zi_c e2 (by decide)
    have hq3 : gc.toInt = 0 → v2.toInt = -1 := (by omega)
    exact hret v2 () _ _ _ _ dX1_character_19 hq3 (hP.sub [0, 1, 2] rfl) (hD.sub [0, 1, 2] (by decide) rfl) hS
  ·
    have z1 := zi_nlt0 c1
    refine lv_iload_n hx hb dX1_character_4 rfl (lv_at hl 2 rfl) ?_
    refine lv_bipush (v := 8) hx hb dX1_character_5 (by decide) ?_
    refine lv_topi (fun v4 e4 => ?_)
    have z4 : v4.toInt = 8 := zi_c e4 (by decide)
    refine lv_icmp_ge (tgt := 18) hx hb dX1_character_7 (by decide) (fun c5 => ?_) (fun c5 => ?_)
    ·
      have z5 := zi_le c5
      refine lv_iconst (v := -1) hx hb dX1_character_18 (by decide) ?_
      refine lv_topi (fun v6 e6 => ?_)
      have z6 : v6.toInt = (-1) := zi_c e6 (by decide)
      have hq7 : gc.toInt = 0 → v6.toInt = -1 := (by omega)
      exact hret v6 () _ _ _ _ dX1_character_19 hq7 (hP.sub [0, 1, 2] rfl) (hD.sub [0, 1, 2] (by decide) rfl) hS
    ·
      have z5 := zi_nle c5
      refine lv_aload_n hx hb dX1_character_10 rfl (lv_at hl 0 rfl) ?_
      refine lv_iload_n hx hb dX1_character_11 rfl (lv_at hl 1 rfl) ?_
      refine call_i (wc := [(aQ, .inr (0, [.ref aT, .ref aP, .int gc]))]) (wr := [(aT, .inl (cI, 300, .inl ft)), (aP, .inl (cJ, 300, .inr (.inl fp)))]) (run_V (As := [.int i]) (rest := []) kv_RX1_27 ⟨by decide, by decide⟩ ⟨rfl, rfl⟩ ⟨hx, hb, hml, hown, hts⟩ (c_Gr_isKept l D cI cJ cB aQ aT aP gc i  _) ct_blind (ct_pre (wc := [(aQ, .inr (0, [.ref aT, .ref aP, .int gc]))]) hK hP hD hS hA hZ hN [0] (by decide) rfl rfl) (va_recv hK hP (ci := 0) (q0 := 0) rfl rfl) rfl hl.1 rfl (Nat.le_of_ble_eq_true rfl) dX1_character_12 ⟨Nat.le_of_ble_eq_true rfl, Nat.le_of_ble_eq_true rfl⟩) hP hD hS hA [0] [1, 2] rfl rfl (by decide) (by decide) (fun r8 u H locs hw8 hP1 hD1 hS1 => ?_)
      have hw8 : (r8.toInt = 1 ∧ 0 ≤ i.toInt ∧ i.toInt < gc.toInt) ∨ r8.toInt = 0 := hw8
      clear hP hD hS
      have hP : va_P D classes [(aT, .inl (cI, 300, .inl ft)), (aP, .inl (cJ, 300, .inr (.inl fp))), (aQ, .inr (0, [.ref aT, .ref aP, .int gc]))] H := hP1
      have hD : va_D A [(aT, .inl (cI, 300, .inl ft)), (aP, .inl (cJ, 300, .inr (.inl fp))), (aQ, .inr (0, [.ref aT, .ref aP, .int gc]))] := hD1
      have hS := hS1
      clear hP1 hD1 hS1
      have rg_r8 := zi_rg r8
      refine lv_if_ne (tgt := 20) hx hb dX1_character_15 (by decide) (fun c9 => ?_) (fun c9 => ?_)
      ·
        have z9 := zi_ne0 c9
        refine lv_iload_n hx hb dX1_character_20 rfl (lv_at hl 1 rfl) ?_
        have hh10 : 0 ≤ i.toInt := (by omega)
        refine call_i (wc := []) (wr := [(aT, .inl (cI, 300, .inl ft)), (aP, .inl (cJ, 300, .inr (.inl fp))), (aQ, .inr (0, [.ref aT, .ref aP, .int gc]))]) (run_S (As := [.int i]) (rest := []) ks_RX1_23 ⟨by decide, by decide⟩ ⟨rfl, rfl⟩ ⟨hx, hb, hml, hown, hts⟩ (c_Gr_slotOf l D cI cJ cB i hh10 _) ct_blind (ct_pre (wc := []) hK hP hD hS hA hZ hN [] (by decide) rfl rfl) rfl hl.1 rfl (Nat.le_of_ble_eq_true rfl) dX1_character_21 ⟨Nat.le_of_ble_eq_true rfl, Nat.le_of_ble_eq_true rfl⟩) hP hD hS hA [] [0, 1, 2] rfl rfl (by decide) (by decide) (fun r11 u H locs hw11 hP1 hD1 hS1 => ?_)
        have hw11 : 0 ≤ r11.toInt ∧ r11.toInt < 300 := hw11
        clear hP hD hS
        have hP : va_P D classes [(aT, .inl (cI, 300, .inl ft)), (aP, .inl (cJ, 300, .inr (.inl fp))), (aQ, .inr (0, [.ref aT, .ref aP, .int gc]))] H := hP1
        have hD : va_D A [(aT, .inl (cI, 300, .inl ft)), (aP, .inl (cJ, 300, .inr (.inl fp))), (aQ, .inr (0, [.ref aT, .ref aP, .int gc]))] := hD1
        have hS := hS1
        clear hP1 hD1 hS1
        have rg_r11 := zi_rg r11
        refine lv_istore_n (lv' := [(3, .int r11), (0, .ref aQ), (1, .int i), (2, .int j)]) hx hb dX1_character_24 rfl hl (by decide) rfl (fun ls hl => ?_)
        refine lv_aload_n hx hb dX1_character_25 rfl (lv_at hl 1 rfl) ?_
        refine va_get (D := D) (ci := 0) (v := .ref aT) (C := RX1) (T := TX1) (N := 3) hx hb hts in_X1 hown hK hP 2 rfl rfl 0 (by decide) (hts _ wk54) (fun _ h9 => h9) rfl dX1_character_26 ?_
        refine lv_iload_n hx hb dX1_character_29 rfl (lv_at hl 0 rfl) ?_
        refine va_iald hx hb hK hP 0 0 rfl rfl (zi_in (by omega)) dX1_character_30 ?_
        refine lv_topi (fun v12 e12 => ?_)
        refine lv_aload_n hx hb dX1_character_31 rfl (lv_at hl 1 rfl) ?_
        refine va_get (D := D) (ci := 0) (v := .ref aP) (C := RX1) (T := TX1) (N := 3) hx hb hts in_X1 hown hK hP 2 rfl rfl 1 (by decide) (hts _ wk55) (fun _ h9 => h9) rfl dX1_character_32 ?_
        refine lv_iload_n hx hb dX1_character_35 rfl (lv_at hl 0 rfl) ?_
        refine va_lald hx hb hK hP 1 1 rfl rfl (zi_in (by omega)) dX1_character_36 ?_
        refine lv_topl (fun v13 e13 => ?_)
        refine lv_iload_n hx hb dX1_character_37 rfl (lv_at hl 3 rfl) ?_
        have hh14 : 0 ≤ j.toInt ∧ j.toInt < 8 := (by omega)
        refine call_i (wc := []) (wr := [(aT, .inl (cI, 300, .inl ft)), (aP, .inl (cJ, 300, .inr (.inl fp))), (aQ, .inr (0, [.ref aT, .ref aP, .int gc]))]) (run_S (As := [.int v12, .long v13, .int j]) (rest := []) ks_RX1_31 ⟨by decide, by decide⟩ ⟨rfl, rfl⟩ ⟨hx, hb, hml, hown, hts⟩ (c_Co_characterOf l D cI cJ cB v12 j v13 hh14 _) ct_blind (ct_pre (wc := []) hK hP hD hS hA hZ hN [] (by decide) rfl rfl) rfl hl.1 rfl (Nat.le_of_ble_eq_true rfl) dX1_character_38 ⟨Nat.le_of_ble_eq_true rfl, Nat.le_of_ble_eq_true rfl⟩) hP hD hS hA [] [0, 1, 2] rfl rfl (by decide) (by decide) (fun r15 u H locs hw15 hP1 hD1 hS1 => ?_)
        clear hw15
        clear hP hD hS
        have hP : va_P D classes [(aT, .inl (cI, 300, .inl ft)), (aP, .inl (cJ, 300, .inr (.inl fp))), (aQ, .inr (0, [.ref aT, .ref aP, .int gc]))] H := hP1
        have hD : va_D A [(aT, .inl (cI, 300, .inl ft)), (aP, .inl (cJ, 300, .inr (.inl fp))), (aQ, .inr (0, [.ref aT, .ref aP, .int gc]))] := hD1
        have hS := hS1
        clear hP1 hD1 hS1
        have rg_r15 := zi_rg r15
        have hq16 : gc.toInt = 0 → r15.toInt = -1 := (by omega)
        exact hret r15 () _ _ _ _ dX1_character_41 hq16 (hP.sub [2, 0, 1] rfl) (hD.sub [2, 0, 1] (by decide) rfl) hS
      ·
        have z9 := zi_eq0 c9
        refine lv_iconst (v := -1) hx hb dX1_character_18 (by decide) ?_
        refine lv_topi (fun v17 e17 => ?_)
        have z17 : v17.toInt = (-1) := zi_c e17 (by decide)
        have hq18 : gc.toInt = 0 → v17.toInt = -1 := (by omega)
        exact hret v17 () _ _ _ _ dX1_character_19 hq18 (hP.sub [2, 0, 1] rfl) (hD.sub [2, 0, 1] (by decide) rfl) hS

set_option maxHeartbeats 4000000 in
set_option maxRecDepth 100000 in
theorem c_Re_isLocked (l : Launch) (D : va_G) (cI cJ cB : ClassId) (aR : Nat) (aB : Nat) (aQ : Nat) (hd : Int32) (pl : Int64) (hv : Int32) (lk : Int32) (dn : Int32) (ht : Int32) (sl : Int32) (br : Int32) (wh : Int32) (h1 : 0 ≤ lk.toInt ∧ lk.toInt ≤ 1) :
    cti l yX3_isLocked (wsOf yX3_isLocked cX3_isLocked 1 (some .boolean)) (rmL 0 0 0 0) D classes (tys3 cI cJ cB) [.ref aR] [(aR, .inr (2, [.ref aB, .ref aQ, .int hd, .long pl, .int hv, .int lk, .int dn, .int ht, .int sl, .int br, .int wh]))] (fun (r : Int32) (u : Unit) => r.toInt = lk.toInt) (fun u : Unit => ([(aR, .inr (2, [.ref aB, .ref aQ, .int hd, .long pl, .int hv, .int lk, .int dn, .int ht, .int sl, .int br, .int wh]))] : va_W)) := by
  refine ctz.of (by first | exact plainFor_of_name (by decide) | decide +kernel) (Nat.le_of_ble_eq_true rfl) (fun p e s m args below meth c A ls Q h hret => ?_)
  obtain ⟨hx, hb, hml, hown, hts, hnm, hP, hK, hD, hA, hS, hZ, hN, hl⟩ := h
  have hown : s.vm.findClass RX3 = some m.cls := hown
  have hl : lv_has ls 1 [(0, .ref aR)] := hl
  have hP : va_P D classes [(aR, .inr (2, [.ref aB, .ref aQ, .int hd, .long pl, .int hv, .int lk, .int dn, .int ht, .int sl, .int br, .int wh]))] s.heap := hP
  have hD : va_D A [(aR, .inr (2, [.ref aB, .ref aQ, .int hd, .long pl, .int hv, .int lk, .int dn, .int ht, .int sl, .int br, .int wh]))] := hD
  have rg_hd := zi_rg hd
  have rg_hv := zi_rg hv
  have rg_lk := zi_rg lk
  have rg_dn := zi_rg dn
  have rg_ht := zi_rg ht
  have rg_sl := zi_rg sl
  have rg_br := zi_rg br
  have rg_wh := zi_rg wh
  refine lv_aload_n hx hb dX3_isLocked_0 rfl (lv_at hl 0 rfl) ?_
  refine va_get (D := D) (ci := 2) (v := .int lk) (C := RX3) (T := TX3) (N := 11) hx hb hts in_X3 hown hK hP 0 rfl rfl 5 (by decide) (hts _ wk331) (fun _ h9 => h9) rfl dX3_isLocked_1 ?_
  have hq1 : lk.toInt = lk.toInt := (by omega)
  exact hret lk () _ _ _ _ dX3_isLocked_4 (zb_n (by omega)) hq1 (hP.sub [0] rfl) (hD.sub [0] (by decide) rfl) hS

set_option maxHeartbeats 4000000 in
set_option maxRecDepth 100000 in
theorem c_Re_hitCount (l : Launch) (D : va_G) (cI cJ cB : ClassId) (aR : Nat) (aB : Nat) (aQ : Nat) (hd : Int32) (pl : Int64) (hv : Int32) (lk : Int32) (dn : Int32) (ht : Int32) (sl : Int32) (br : Int32) (wh : Int32)  :
    cti l yX3_hitCount (wsOf yX3_hitCount cX3_hitCount 1 (some .int)) (rmL 0 0 0 0) D classes (tys3 cI cJ cB) [.ref aR] [(aR, .inr (2, [.ref aB, .ref aQ, .int hd, .long pl, .int hv, .int lk, .int dn, .int ht, .int sl, .int br, .int wh]))] (fun (r : Int32) (u : Unit) => r.toInt = ht.toInt) (fun u : Unit => ([(aR, .inr (2, [.ref aB, .ref aQ, .int hd, .long pl, .int hv, .int lk, .int dn, .int ht, .int sl, .int br, .int wh]))] : va_W)) := by
  refine cti.of (by first | exact plainFor_of_name (by decide) | decide +kernel) (Nat.le_of_ble_eq_true rfl) (fun p e s m args below meth c A ls Q h hret => ?_)
  obtain ⟨hx, hb, hml, hown, hts, hnm, hP, hK, hD, hA, hS, hZ, hN, hl⟩ := h
  have hown : s.vm.findClass RX3 = some m.cls := hown
  have hl : lv_has ls 1 [(0, .ref aR)] := hl
  have hP : va_P D classes [(aR, .inr (2, [.ref aB, .ref aQ, .int hd, .long pl, .int hv, .int lk, .int dn, .int ht, .int sl, .int br, .int wh]))] s.heap := hP
  have hD : va_D A [(aR, .inr (2, [.ref aB, .ref aQ, .int hd, .long pl, .int hv, .int lk, .int dn, .int ht, .int sl, .int br, .int wh]))] := hD
  have rg_hd := zi_rg hd
  have rg_hv := zi_rg hv
  have rg_lk := zi_rg lk
  have rg_dn := zi_rg dn
  have rg_ht := zi_rg ht
  have rg_sl := zi_rg sl
  have rg_br := zi_rg br
  have rg_wh := zi_rg wh
  refine lv_aload_n hx hb dX3_hitCount_0 rfl (lv_at hl 0 rfl) ?_
  refine va_get (D := D) (ci := 2) (v := .int ht) (C := RX3) (T := TX3) (N := 11) hx hb hts in_X3 hown hK hP 0 rfl rfl 7 (by decide) (hts _ wk353) (fun _ h9 => h9) rfl dX3_hitCount_1 ?_
  have hq1 : ht.toInt = ht.toInt := (by omega)
  exact hret ht () _ _ _ _ dX3_hitCount_4 hq1 (hP.sub [0] rfl) (hD.sub [0] (by decide) rfl) hS

set_option maxHeartbeats 4000000 in
set_option maxRecDepth 100000 in
theorem c_Re_slipCount (l : Launch) (D : va_G) (cI cJ cB : ClassId) (aR : Nat) (aB : Nat) (aQ : Nat) (hd : Int32) (pl : Int64) (hv : Int32) (lk : Int32) (dn : Int32) (ht : Int32) (sl : Int32) (br : Int32) (wh : Int32)  :
    cti l yX3_slipCount (wsOf yX3_slipCount cX3_slipCount 1 (some .int)) (rmL 0 0 0 0) D classes (tys3 cI cJ cB) [.ref aR] [(aR, .inr (2, [.ref aB, .ref aQ, .int hd, .long pl, .int hv, .int lk, .int dn, .int ht, .int sl, .int br, .int wh]))] (fun (r : Int32) (u : Unit) => r.toInt = sl.toInt) (fun u : Unit => ([(aR, .inr (2, [.ref aB, .ref aQ, .int hd, .long pl, .int hv, .int lk, .int dn, .int ht, .int sl, .int br, .int wh]))] : va_W)) := by
  refine cti.of (by first | exact plainFor_of_name (by decide) | decide +kernel) (Nat.le_of_ble_eq_true rfl) (fun p e s m args below meth c A ls Q h hret => ?_)
  obtain ⟨hx, hb, hml, hown, hts, hnm, hP, hK, hD, hA, hS, hZ, hN, hl⟩ := h
  have hown : s.vm.findClass RX3 = some m.cls := hown
  have hl : lv_has ls 1 [(0, .ref aR)] := hl
  have hP : va_P D classes [(aR, .inr (2, [.ref aB, .ref aQ, .int hd, .long pl, .int hv, .int lk, .int dn, .int ht, .int sl, .int br, .int wh]))] s.heap := hP
  have hD : va_D A [(aR, .inr (2, [.ref aB, .ref aQ, .int hd, .long pl, .int hv, .int lk, .int dn, .int ht, .int sl, .int br, .int wh]))] := hD
  have rg_hd := zi_rg hd
  have rg_hv := zi_rg hv
  have rg_lk := zi_rg lk
  have rg_dn := zi_rg dn
  have rg_ht := zi_rg ht
  have rg_sl := zi_rg sl
  have rg_br := zi_rg br
  have rg_wh := zi_rg wh
  refine lv_aload_n hx hb dX3_slipCount_0 rfl (lv_at hl 0 rfl) ?_
  refine va_get (D := D) (ci := 2) (v := .int sl) (C := RX3) (T := TX3) (N := 11) hx hb hts in_X3 hown hK hP 0 rfl rfl 8 (by decide) (hts _ wk354) (fun _ h9 => h9) rfl dX3_slipCount_1 ?_
  have hq1 : sl.toInt = sl.toInt := (by omega)
  exact hret sl () _ _ _ _ dX3_slipCount_4 hq1 (hP.sub [0] rfl) (hD.sub [0] (by decide) rfl) hS

set_option maxHeartbeats 4000000 in
set_option maxRecDepth 100000 in
theorem c_Re_bitsOfBlock (l : Launch) (D : va_G) (cI cJ cB : ClassId) (aR : Nat) (aB : Nat) (aQ : Nat) (hd : Int32) (pl : Int64) (hv : Int32) (lk : Int32) (dn : Int32) (ht : Int32) (sl : Int32) (br : Int32) (wh : Int32)  :
    cti l yX3_bitsOfBlock (wsOf yX3_bitsOfBlock cX3_bitsOfBlock 1 (some .int)) (rmL 0 0 0 0) D classes (tys3 cI cJ cB) [.ref aR] [(aR, .inr (2, [.ref aB, .ref aQ, .int hd, .long pl, .int hv, .int lk, .int dn, .int ht, .int sl, .int br, .int wh]))] (fun (r : Int32) (u : Unit) => r.toInt = hv.toInt) (fun u : Unit => ([(aR, .inr (2, [.ref aB, .ref aQ, .int hd, .long pl, .int hv, .int lk, .int dn, .int ht, .int sl, .int br, .int wh]))] : va_W)) := by
  refine cti.of (by first | exact plainFor_of_name (by decide) | decide +kernel) (Nat.le_of_ble_eq_true rfl) (fun p e s m args below meth c A ls Q h hret => ?_)
  obtain ⟨hx, hb, hml, hown, hts, hnm, hP, hK, hD, hA, hS, hZ, hN, hl⟩ := h
  have hown : s.vm.findClass RX3 = some m.cls := hown
  have hl : lv_has ls 1 [(0, .ref aR)] := hl
  have hP : va_P D classes [(aR, .inr (2, [.ref aB, .ref aQ, .int hd, .long pl, .int hv, .int lk, .int dn, .int ht, .int sl, .int br, .int wh]))] s.heap := hP
  have hD : va_D A [(aR, .inr (2, [.ref aB, .ref aQ, .int hd, .long pl, .int hv, .int lk, .int dn, .int ht, .int sl, .int br, .int wh]))] := hD
  have rg_hd := zi_rg hd
  have rg_hv := zi_rg hv
  have rg_lk := zi_rg lk
  have rg_dn := zi_rg dn
  have rg_ht := zi_rg ht
  have rg_sl := zi_rg sl
  have rg_br := zi_rg br
  have rg_wh := zi_rg wh
  refine lv_aload_n hx hb dX3_bitsOfBlock_0 rfl (lv_at hl 0 rfl) ?_
  refine va_get (D := D) (ci := 2) (v := .int hv) (C := RX3) (T := TX3) (N := 11) hx hb hts in_X3 hown hK hP 0 rfl rfl 4 (by decide) (hts _ wk320) (fun _ h9 => h9) rfl dX3_bitsOfBlock_1 ?_
  have hq1 : hv.toInt = hv.toInt := (by omega)
  exact hret hv () _ _ _ _ dX3_bitsOfBlock_4 hq1 (hP.sub [0] rfl) (hD.sub [0] (by decide) rfl) hS

set_option maxHeartbeats 4000000 in
set_option maxRecDepth 100000 in
theorem c_Re_wrongHeadCount (l : Launch) (D : va_G) (cI cJ cB : ClassId) (aR : Nat) (aB : Nat) (aQ : Nat) (hd : Int32) (pl : Int64) (hv : Int32) (lk : Int32) (dn : Int32) (ht : Int32) (sl : Int32) (br : Int32) (wh : Int32)  :
    cti l yX3_wrongHeadCount (wsOf yX3_wrongHeadCount cX3_wrongHeadCount 1 (some .int)) (rmL 0 0 0 0) D classes (tys3 cI cJ cB) [.ref aR] [(aR, .inr (2, [.ref aB, .ref aQ, .int hd, .long pl, .int hv, .int lk, .int dn, .int ht, .int sl, .int br, .int wh]))] (fun (r : Int32) (u : Unit) => r.toInt = wh.toInt) (fun u : Unit => ([(aR, .inr (2, [.ref aB, .ref aQ, .int hd, .long pl, .int hv, .int lk, .int dn, .int ht, .int sl, .int br, .int wh]))] : va_W)) := by
  refine cti.of (by first | exact plainFor_of_name (by decide) | decide +kernel) (Nat.le_of_ble_eq_true rfl) (fun p e s m args below meth c A ls Q h hret => ?_)
  obtain ⟨hx, hb, hml, hown, hts, hnm, hP, hK, hD, hA, hS, hZ, hN, hl⟩ := h
  have hown : s.vm.findClass RX3 = some m.cls := hown
  have hl : lv_has ls 1 [(0, .ref aR)] := hl
  have hP : va_P D classes [(aR, .inr (2, [.ref aB, .ref aQ, .int hd, .long pl, .int hv, .int lk, .int dn, .int ht, .int sl, .int br, .int wh]))] s.heap := hP
  have hD : va_D A [(aR, .inr (2, [.ref aB, .ref aQ, .int hd, .long pl, .int hv, .int lk, .int dn, .int ht, .int sl, .int br, .int wh]))] := hD
  have rg_hd := zi_rg hd
  have rg_hv := zi_rg hv
  have rg_lk := zi_rg lk
  have rg_dn := zi_rg dn
  have rg_ht := zi_rg ht
  have rg_sl := zi_rg sl
  have rg_br := zi_rg br
  have rg_wh := zi_rg wh
  refine lv_aload_n hx hb dX3_wrongHeadCount_0 rfl (lv_at hl 0 rfl) ?_
  refine va_get (D := D) (ci := 2) (v := .int wh) (C := RX3) (T := TX3) (N := 11) hx hb hts in_X3 hown hK hP 0 rfl rfl 10 (by decide) (hts _ wk348) (fun _ h9 => h9) rfl dX3_wrongHeadCount_1 ?_
  have hq1 : wh.toInt = wh.toInt := (by omega)
  exact hret wh () _ _ _ _ dX3_wrongHeadCount_4 hq1 (hP.sub [0] rfl) (hD.sub [0] (by decide) rfl) hS

set_option maxHeartbeats 4000000 in
set_option maxRecDepth 100000 in
theorem c_Re_groupCount (l : Launch) (D : va_G) (cI cJ cB : ClassId) (aR : Nat) (aB : Nat) (aQ : Nat) (aT : Nat) (aP : Nat) (hd : Int32) (pl : Int64) (hv : Int32) (lk : Int32) (dn : Int32) (ht : Int32) (sl : Int32) (br : Int32) (wh : Int32) (gc : Int32)  :
    cti l yX3_groupCount (wsOf yX3_groupCount cX3_groupCount 1 (some .int)) (rmL 1 20 0 0) D classes (tys3 cI cJ cB) [.ref aR] [(aR, .inr (2, [.ref aB, .ref aQ, .int hd, .long pl, .int hv, .int lk, .int dn, .int ht, .int sl, .int br, .int wh])), (aQ, .inr (0, [.ref aT, .ref aP, .int gc]))] (fun (r : Int32) (u : Unit) => r.toInt = gc.toInt) (fun u : Unit => ([(aR, .inr (2, [.ref aB, .ref aQ, .int hd, .long pl, .int hv, .int lk, .int dn, .int ht, .int sl, .int br, .int wh])), (aQ, .inr (0, [.ref aT, .ref aP, .int gc]))] : va_W)) := by
  refine cti.of (by first | exact plainFor_of_name (by decide) | decide +kernel) (Nat.le_of_ble_eq_true rfl) (fun p e s m args below meth c A ls Q h hret => ?_)
  obtain ⟨hx, hb, hml, hown, hts, hnm, hP, hK, hD, hA, hS, hZ, hN, hl⟩ := h
  have hown : s.vm.findClass RX3 = some m.cls := hown
  have hl : lv_has ls 1 [(0, .ref aR)] := hl
  have hP : va_P D classes [(aR, .inr (2, [.ref aB, .ref aQ, .int hd, .long pl, .int hv, .int lk, .int dn, .int ht, .int sl, .int br, .int wh])), (aQ, .inr (0, [.ref aT, .ref aP, .int gc]))] s.heap := hP
  have hD : va_D A [(aR, .inr (2, [.ref aB, .ref aQ, .int hd, .long pl, .int hv, .int lk, .int dn, .int ht, .int sl, .int br, .int wh])), (aQ, .inr (0, [.ref aT, .ref aP, .int gc]))] := hD
  have rg_hd := zi_rg hd
  have rg_hv := zi_rg hv
  have rg_lk := zi_rg lk
  have rg_dn := zi_rg dn
  have rg_ht := zi_rg ht
  have rg_sl := zi_rg sl
  have rg_br := zi_rg br
  have rg_wh := zi_rg wh
  have rg_gc := zi_rg gc
  refine lv_aload_n hx hb dX3_groupCount_0 rfl (lv_at hl 0 rfl) ?_
  refine va_get (D := D) (ci := 2) (v := .ref aQ) (C := RX3) (T := TX3) (N := 11) hx hb hts in_X3 hown hK hP 0 rfl rfl 1 (by decide) (hts _ wk50) (fun _ h9 => h9) rfl dX3_groupCount_1 ?_
  refine call_i (wc := [(aQ, .inr (0, [.ref aT, .ref aP, .int gc]))]) (wr := [(aR, .inr (2, [.ref aB, .ref aQ, .int hd, .long pl, .int hv, .int lk, .int dn, .int ht, .int sl, .int br, .int wh]))]) (run_V (As := []) (rest := []) kv_RX3_39 ⟨by decide, by decide⟩ ⟨rfl, rfl⟩ ⟨hx, hb, hml, hown, hts⟩ (c_Gr_count l D cI cJ cB aQ aT aP gc  _) ct_blind (ct_pre (wc := [(aQ, .inr (0, [.ref aT, .ref aP, .int gc]))]) hK hP hD hS hA hZ hN [1] (by decide) rfl rfl) (va_recv hK hP (ci := 0) (q0 := 1) rfl rfl) rfl hl.1 rfl (Nat.le_of_ble_eq_true rfl) dX3_groupCount_4 ⟨Nat.le_of_ble_eq_true rfl, Nat.le_of_ble_eq_true rfl⟩) hP hD hS hA [1] [0] rfl rfl (by decide) (by decide) (fun r1 u H locs hw1 hP1 hD1 hS1 => ?_)
  have hw1 : r1.toInt = gc.toInt := hw1
  clear hP hD hS
  have hP : va_P D classes [(aR, .inr (2, [.ref aB, .ref aQ, .int hd, .long pl, .int hv, .int lk, .int dn, .int ht, .int sl, .int br, .int wh])), (aQ, .inr (0, [.ref aT, .ref aP, .int gc]))] H := hP1
  have hD : va_D A [(aR, .inr (2, [.ref aB, .ref aQ, .int hd, .long pl, .int hv, .int lk, .int dn, .int ht, .int sl, .int br, .int wh])), (aQ, .inr (0, [.ref aT, .ref aP, .int gc]))] := hD1
  have hS := hS1
  clear hP1 hD1 hS1
  have rg_r1 := zi_rg r1
  have hq2 : r1.toInt = gc.toInt := (by omega)
  exact hret r1 () _ _ _ _ dX3_groupCount_7 hq2 (hP.sub [0, 1] rfl) (hD.sub [0, 1] (by decide) rfl) hS

set_option maxHeartbeats 4000000 in
set_option maxRecDepth 100000 in
theorem c_Re_character (l : Launch) (D : va_G) (cI cJ cB : ClassId) (aR : Nat) (aB : Nat) (aQ : Nat) (aT : Nat) (aP : Nat) (hd : Int32) (pl : Int64) (hv : Int32) (lk : Int32) (dn : Int32) (ht : Int32) (sl : Int32) (br : Int32) (wh : Int32) (gc : Int32) (i : Int32) (j : Int32) (ft : Nat → Int32) (fp : Nat → Int64)  :
    cti l yX3_character (wsOf yX3_character cX3_character 3 (some .int)) (rmL 6 136 0 0) D classes (tys3 cI cJ cB) [.ref aR, .int i, .int j] [(aR, .inr (2, [.ref aB, .ref aQ, .int hd, .long pl, .int hv, .int lk, .int dn, .int ht, .int sl, .int br, .int wh])), (aQ, .inr (0, [.ref aT, .ref aP, .int gc])), (aT, .inl (cI, 300, .inl ft)), (aP, .inl (cJ, 300, .inr (.inl fp)))] (fun (r : Int32) (u : Unit) => gc.toInt = 0 → r.toInt = -1) (fun u : Unit => ([(aR, .inr (2, [.ref aB, .ref aQ, .int hd, .long pl, .int hv, .int lk, .int dn, .int ht, .int sl, .int br, .int wh])), (aQ, .inr (0, [.ref aT, .ref aP, .int gc])), (aT, .inl (cI, 300, .inl ft)), (aP, .inl (cJ, 300, .inr (.inl fp)))] : va_W)) := by
  refine cti.of (by first | exact plainFor_of_name (by decide) | decide +kernel) (Nat.le_of_ble_eq_true rfl) (fun p e s m args below meth c A ls Q h hret => ?_)
  obtain ⟨hx, hb, hml, hown, hts, hnm, hP, hK, hD, hA, hS, hZ, hN, hl⟩ := h
  have hown : s.vm.findClass RX3 = some m.cls := hown
  have hl : lv_has ls 3 [(0, .ref aR), (1, .int i), (2, .int j)] := hl
  have hP : va_P D classes [(aR, .inr (2, [.ref aB, .ref aQ, .int hd, .long pl, .int hv, .int lk, .int dn, .int ht, .int sl, .int br, .int wh])), (aQ, .inr (0, [.ref aT, .ref aP, .int gc])), (aT, .inl (cI, 300, .inl ft)), (aP, .inl (cJ, 300, .inr (.inl fp)))] s.heap := hP
  have hD : va_D A [(aR, .inr (2, [.ref aB, .ref aQ, .int hd, .long pl, .int hv, .int lk, .int dn, .int ht, .int sl, .int br, .int wh])), (aQ, .inr (0, [.ref aT, .ref aP, .int gc])), (aT, .inl (cI, 300, .inl ft)), (aP, .inl (cJ, 300, .inr (.inl fp)))] := hD
  have rg_hd := zi_rg hd
  have rg_hv := zi_rg hv
  have rg_lk := zi_rg lk
  have rg_dn := zi_rg dn
  have rg_ht := zi_rg ht
  have rg_sl := zi_rg sl
  have rg_br := zi_rg br
  have rg_wh := zi_rg wh
  have rg_gc := zi_rg gc
  have rg_i := zi_rg i
  have rg_j := zi_rg j
  refine lv_aload_n hx hb dX3_character_0 rfl (lv_at hl 0 rfl) ?_
  refine va_get (D := D) (ci := 2) (v := .ref aQ) (C := RX3) (T := TX3) (N := 11) hx hb hts in_X3 hown hK hP 0 rfl rfl 1 (by decide) (hts _ wk50) (fun _ h9 => h9) rfl dX3_character_1 ?_
  refine lv_iload_n hx hb dX3_character_4 rfl (lv_at hl 1 rfl) ?_
  refine lv_iload_n hx hb dX3_character_5 rfl (lv_at hl 2 rfl) ?_
  refine call_i (wc := [(aQ, .inr (0, [.ref aT, .ref aP, .int gc])), (aT, .inl (cI, 300, .inl ft)), (aP, .inl (cJ, 300, .inr (.inl fp)))]) (wr := [(aR, .inr (2, [.ref aB, .ref aQ, .int hd, .long pl, .int hv, .int lk, .int dn, .int ht, .int sl, .int br, .int wh]))]) (run_V (As := [.int i, .int j]) (rest := []) kv_RX3_46 ⟨by decide, by decide⟩ ⟨rfl, rfl⟩ ⟨hx, hb, hml, hown, hts⟩ (c_Gr_character l D cI cJ cB aQ aT aP gc i j ft fp  _) ct_blind (ct_pre (wc := [(aQ, .inr (0, [.ref aT, .ref aP, .int gc])), (aT, .inl (cI, 300, .inl ft)), (aP, .inl (cJ, 300, .inr (.inl fp)))]) hK hP hD hS hA hZ hN [1, 2, 3] (by decide) rfl rfl) (va_recv hK hP (ci := 0) (q0 := 1) rfl rfl) rfl hl.1 rfl (Nat.le_of_ble_eq_true rfl) dX3_character_6 ⟨Nat.le_of_ble_eq_true rfl, Nat.le_of_ble_eq_true rfl⟩) hP hD hS hA [1, 2, 3] [0] rfl rfl (by decide) (by decide) (fun r1 u H locs hw1 hP1 hD1 hS1 => ?_)
  have hw1 : gc.toInt = 0 → r1.toInt = -1 := hw1
  clear hP hD hS
  have hP : va_P D classes [(aR, .inr (2, [.ref aB, .ref aQ, .int hd, .long pl, .int hv, .int lk, .int dn, .int ht, .int sl, .int br, .int wh])), (aQ, .inr (0, [.ref aT, .ref aP, .int gc])), (aT, .inl (cI, 300, .inl ft)), (aP, .inl (cJ, 300, .inr (.inl fp)))] H := hP1
  have hD : va_D A [(aR, .inr (2, [.ref aB, .ref aQ, .int hd, .long pl, .int hv, .int lk, .int dn, .int ht, .int sl, .int br, .int wh])), (aQ, .inr (0, [.ref aT, .ref aP, .int gc])), (aT, .inl (cI, 300, .inl ft)), (aP, .inl (cJ, 300, .inr (.inl fp)))] := hD1
  have hS := hS1
  clear hP1 hD1 hS1
  have rg_r1 := zi_rg r1
  have hq2 : gc.toInt = 0 → r1.toInt = -1 := (by omega)
  exact hret r1 () _ _ _ _ dX3_character_9 hq2 (hP.sub [0, 1, 2, 3] rfl) (hD.sub [0, 1, 2, 3] (by decide) rfl) hS

set_option maxHeartbeats 4000000 in
set_option maxRecDepth 100000 in
theorem c_Re_exchangeState (l : Launch) (D : va_G) (cI cJ cB : ClassId) (aR : Nat) (aB : Nat) (aQ : Nat) (hd : Int32) (pl : Int64) (hv : Int32) (lk : Int32) (dn : Int32) (ht : Int32) (sl : Int32) (br : Int32) (wh : Int32) (la : Int64) (x : Int64)  :
    ctl l yX3_exchangeState (wsOf yX3_exchangeState cX3_exchangeState 3 (some .long)) (rmL 1 24 0 0) D classes (tys3 cI cJ cB) [.ref aR, .long x] [(aR, .inr (2, [.ref aB, .ref aQ, .int hd, .long pl, .int hv, .int lk, .int dn, .int ht, .int sl, .int br, .int wh])), (aB, .inr (3, [.long la]))] (fun (r : Int64) (u : Int64) => r = la) (fun u : Int64 => ([(aR, .inr (2, [.ref aB, .ref aQ, .int hd, .long pl, .int hv, .int lk, .int dn, .int ht, .int sl, .int br, .int wh])), (aB, .inr (3, [.long u]))] : va_W)) := by
  refine ctl.of (by first | exact plainFor_of_name (by decide) | decide +kernel) (Nat.le_of_ble_eq_true rfl) (fun p e s m args below meth c A ls Q h hret => ?_)
  obtain ⟨hx, hb, hml, hown, hts, hnm, hP, hK, hD, hA, hS, hZ, hN, hl⟩ := h
  have hown : s.vm.findClass RX3 = some m.cls := hown
  have hl : lv_has ls 3 [(0, .ref aR), (1, .long x)] := hl
  have hP : va_P D classes [(aR, .inr (2, [.ref aB, .ref aQ, .int hd, .long pl, .int hv, .int lk, .int dn, .int ht, .int sl, .int br, .int wh])), (aB, .inr (3, [.long la]))] s.heap := hP
  have hD : va_D A [(aR, .inr (2, [.ref aB, .ref aQ, .int hd, .long pl, .int hv, .int lk, .int dn, .int ht, .int sl, .int br, .int wh])), (aB, .inr (3, [.long la]))] := hD
  have rg_hd := zi_rg hd
  have rg_hv := zi_rg hv
  have rg_lk := zi_rg lk
  have rg_dn := zi_rg dn
  have rg_ht := zi_rg ht
  have rg_sl := zi_rg sl
  have rg_br := zi_rg br
  have rg_wh := zi_rg wh
  refine lv_aload_n hx hb dX3_exchangeState_0 rfl (lv_at hl 0 rfl) ?_
  refine va_get (D := D) (ci := 2) (v := .ref aB) (C := RX3) (T := TX3) (N := 11) hx hb hts in_X3 hown hK hP 0 rfl rfl 0 (by decide) (hts _ wk46) (fun _ h9 => h9) rfl dX3_exchangeState_1 ?_
  refine lv_lload_n hx hb dX3_exchangeState_4 rfl (lv_at hl 1 rfl) ?_
  refine call_l (wc := [(aB, .inr (3, [.long la]))]) (wr := [(aR, .inr (2, [.ref aB, .ref aQ, .int hd, .long pl, .int hv, .int lk, .int dn, .int ht, .int sl, .int br, .int wh]))]) (run_V (As := [.long x]) (rest := []) kv_RX3_50 ⟨by decide, by decide⟩ ⟨rfl, rfl⟩ ⟨hx, hb, hml, hown, hts⟩ (c_Sc_exchange l D cI cJ cB aB la x  _) ct_blind (ct_pre (wc := [(aB, .inr (3, [.long la]))]) hK hP hD hS hA hZ hN [1] (by decide) rfl rfl) (va_recv hK hP (ci := 3) (q0 := 1) rfl rfl) rfl hl.1 rfl (Nat.le_of_ble_eq_true rfl) dX3_exchangeState_5 ⟨Nat.le_of_ble_eq_true rfl, Nat.le_of_ble_eq_true rfl⟩) hP hD hS hA [1] [0] rfl rfl (by decide) (by decide) (fun r1 u H locs hw1 hP1 hD1 hS1 => ?_)
  obtain ⟨la2_1, hu9⟩ : ∃ z, z = u := ⟨_, rfl⟩
  subst hu9
  have hw1 : r1 = la ∧ ∀ j, j < 58 → bl la2_1 j = bl x j := hw1
  clear hP hD hS
  have hP : va_P D classes [(aR, .inr (2, [.ref aB, .ref aQ, .int hd, .long pl, .int hv, .int lk, .int dn, .int ht, .int sl, .int br, .int wh])), (aB, .inr (3, [.long la2_1]))] H := hP1
  have hD : va_D A [(aR, .inr (2, [.ref aB, .ref aQ, .int hd, .long pl, .int hv, .int lk, .int dn, .int ht, .int sl, .int br, .int wh])), (aB, .inr (3, [.long la2_1]))] := hD1
  have hS := hS1
  clear hP1 hD1 hS1
  have hq2 : r1 = la := hw1.1
  exact hret r1 la2_1 _ _ _ _ dX3_exchangeState_8 hq2 (hP.sub [0, 1] rfl) (hD.sub [0, 1] (by decide) rfl) hS

set_option maxHeartbeats 4000000 in
set_option maxRecDepth 100000 in
theorem c_Re_beginBlock (l : Launch) (D : va_G) (cI cJ cB : ClassId) (aR : Nat) (aB : Nat) (aQ : Nat) (hd : Int32) (pl : Int64) (hv : Int32) (lk : Int32) (dn : Int32) (ht : Int32) (sl : Int32) (br : Int32) (wh : Int32)  :
    ctv l yX3_beginBlock (wsOf yX3_beginBlock cX3_beginBlock 1 none) (rmL 0 0 0 0) D classes (tys3 cI cJ cB) [.ref aR] [(aR, .inr (2, [.ref aB, .ref aQ, .int hd, .long pl, .int hv, .int lk, .int dn, .int ht, .int sl, .int br, .int wh]))] (fun u : Int32 × Int64 × Int32 => True) (fun u : Int32 × Int64 × Int32 => ([(aR, .inr (2, [.ref aB, .ref aQ, .int u.1, .long u.2.1, .int u.2.2, .int lk, .int dn, .int ht, .int sl, .int br, .int wh]))] : va_W)) 0 0 := by
  refine ctv.of (by first | exact plainFor_of_name (by decide) | decide +kernel) (Nat.le_of_ble_eq_true rfl) (fun p e s m args below meth c A ls Q h hret => ?_)
  obtain ⟨hx, hb, hml, hown, hts, hnm, hP, hK, hD, hA, hS, hZ, hN, hl⟩ := h
  have hown : s.vm.findClass RX3 = some m.cls := hown
  have hl : lv_has ls 1 [(0, .ref aR)] := hl
  have hP : va_P D classes [(aR, .inr (2, [.ref aB, .ref aQ, .int hd, .long pl, .int hv, .int lk, .int dn, .int ht, .int sl, .int br, .int wh]))] s.heap := hP
  have hD : va_D A [(aR, .inr (2, [.ref aB, .ref aQ, .int hd, .long pl, .int hv, .int lk, .int dn, .int ht, .int sl, .int br, .int wh]))] := hD
  have rg_hd := zi_rg hd
  have rg_hv := zi_rg hv
  have rg_lk := zi_rg lk
  have rg_dn := zi_rg dn
  have rg_ht := zi_rg ht
  have rg_sl := zi_rg sl
  have rg_br := zi_rg br
  have rg_wh := zi_rg wh
  refine lv_aload_n hx hb dX3_beginBlock_0 rfl (lv_at hl 0 rfl) ?_
  refine lv_iconst (v := 0) hx hb dX3_beginBlock_1 (by decide) ?_
  refine lv_topi (fun v1 e1 => ?_)
  have z1 : v1.toInt = 0 := zi_c e1 (by decide)
  refine va_put (D := D) (ci := 2) (v := .int v1) (ty := .int) (C := RX3) (T := TX3) (N := 11) hx hb hts in_X3 tyX3 tyX3_ok nmX3 hown hK hP hD hS 0 rfl rfl 2 (by decide) (hts _ wk321) (fun _ h9 => h9) rfl (by decide +kernel) rfl rfl (Nat.le_of_ble_eq_true rfl) dX3_beginBlock_2 (fun H locs hP1 hD1 hS1 => ?_)
  clear hP hD hS
  have hP : va_P D classes [(aR, .inr (2, [.ref aB, .ref aQ, .int v1, .long pl, .int hv, .int lk, .int dn, .int ht, .int sl, .int br, .int wh]))] H := hP1
  have hD : va_D A [(aR, .inr (2, [.ref aB, .ref aQ, .int v1, .long pl, .int hv, .int lk, .int dn, .int ht, .int sl, .int br, .int wh]))] := hD1
  have hS := hS1
  clear hP1 hD1 hS1
  refine lv_aload_n hx hb dX3_beginBlock_5 rfl (lv_at hl 0 rfl) ?_
  refine lv_lconst (v := 0) hx hb dX3_beginBlock_6 (by decide) ?_
  refine lv_topl (fun v2 e2 => ?_)
  refine va_put (D := D) (ci := 2) (v := .long v2) (ty := .long) (C := RX3) (T := TX3) (N := 11) hx hb hts in_X3 tyX3 tyX3_ok nmX3 hown hK hP hD hS 0 rfl rfl 3 (by decide) (hts _ wk322) (fun _ h9 => h9) rfl (by decide +kernel) rfl rfl (Nat.le_of_ble_eq_true rfl) dX3_beginBlock_7 (fun H locs hP1 hD1 hS1 => ?_)
  clear hP hD hS
  have hP : va_P D classes [(aR, .inr (2, [.ref aB, .ref aQ, .int v1, .long v2, .int hv, .int lk, .int dn, .int ht, .int sl, .int br, .int wh]))] H := hP1
  have hD : va_D A [(aR, .inr (2, [.ref aB, .ref aQ, .int v1, .long v2, .int hv, .int lk, .int dn, .int ht, .int sl, .int br, .int wh]))] := hD1
  have hS := hS1
  clear hP1 hD1 hS1
  refine lv_aload_n hx hb dX3_beginBlock_10 rfl (lv_at hl 0 rfl) ?_
  refine lv_iconst (v := 0) hx hb dX3_beginBlock_11 (by decide) ?_
  refine lv_topi (fun v3 e3 => ?_)
  have z3 : v3.toInt = 0 := zi_c e3 (by decide)
  refine va_put (D := D) (ci := 2) (v := .int v3) (ty := .int) (C := RX3) (T := TX3) (N := 11) hx hb hts in_X3 tyX3 tyX3_ok nmX3 hown hK hP hD hS 0 rfl rfl 4 (by decide) (hts _ wk320) (fun _ h9 => h9) rfl (by decide +kernel) rfl rfl (Nat.le_of_ble_eq_true rfl) dX3_beginBlock_12 (fun H locs hP1 hD1 hS1 => ?_)
  clear hP hD hS
  have hP : va_P D classes [(aR, .inr (2, [.ref aB, .ref aQ, .int v1, .long v2, .int v3, .int lk, .int dn, .int ht, .int sl, .int br, .int wh]))] H := hP1
  have hD : va_D A [(aR, .inr (2, [.ref aB, .ref aQ, .int v1, .long v2, .int v3, .int lk, .int dn, .int ht, .int sl, .int br, .int wh]))] := hD1
  have hS := hS1
  clear hP1 hD1 hS1
  exact hret (v1, v2, v3) _ _ _ _ dX3_beginBlock_15 trivial (hP.sub [0] rfl) (hD.sub [0] (by decide) rfl) hS

set_option maxHeartbeats 4000000 in
set_option maxRecDepth 100000 in
theorem c_Re_beginRow (l : Launch) (D : va_G) (cI cJ cB : ClassId) (aR : Nat) (aB : Nat) (aQ : Nat) (hd : Int32) (pl : Int64) (hv : Int32) (lk : Int32) (dn : Int32) (ht : Int32) (sl : Int32) (br : Int32) (wh : Int32)  :
    ctv l yX3_beginRow (wsOf yX3_beginRow cX3_beginRow 1 none) (rmL 0 0 0 0) D classes (tys3 cI cJ cB) [.ref aR] [(aR, .inr (2, [.ref aB, .ref aQ, .int hd, .long pl, .int hv, .int lk, .int dn, .int ht, .int sl, .int br, .int wh]))] (fun u : Int32 × Int32 => True) (fun u : Int32 × Int32 => ([(aR, .inr (2, [.ref aB, .ref aQ, .int hd, .long pl, .int hv, .int lk, .int dn, .int ht, .int sl, .int u.1, .int u.2]))] : va_W)) 0 0 := by
  refine ctv.of (by first | exact plainFor_of_name (by decide) | decide +kernel) (Nat.le_of_ble_eq_true rfl) (fun p e s m args below meth c A ls Q h hret => ?_)
  obtain ⟨hx, hb, hml, hown, hts, hnm, hP, hK, hD, hA, hS, hZ, hN, hl⟩ := h
  have hown : s.vm.findClass RX3 = some m.cls := hown
  have hl : lv_has ls 1 [(0, .ref aR)] := hl
  have hP : va_P D classes [(aR, .inr (2, [.ref aB, .ref aQ, .int hd, .long pl, .int hv, .int lk, .int dn, .int ht, .int sl, .int br, .int wh]))] s.heap := hP
  have hD : va_D A [(aR, .inr (2, [.ref aB, .ref aQ, .int hd, .long pl, .int hv, .int lk, .int dn, .int ht, .int sl, .int br, .int wh]))] := hD
  have rg_hd := zi_rg hd
  have rg_hv := zi_rg hv
  have rg_lk := zi_rg lk
  have rg_dn := zi_rg dn
  have rg_ht := zi_rg ht
  have rg_sl := zi_rg sl
  have rg_br := zi_rg br
  have rg_wh := zi_rg wh
  refine lv_aload_n hx hb dX3_beginRow_0 rfl (lv_at hl 0 rfl) ?_
  refine lv_iconst (v := 0) hx hb dX3_beginRow_1 (by decide) ?_
  refine lv_topi (fun v1 e1 => ?_)
  have z1 : v1.toInt = 0 := zi_c e1 (by decide)
  refine va_put (D := D) (ci := 2) (v := .int v1) (ty := .int) (C := RX3) (T := TX3) (N := 11) hx hb hts in_X3 tyX3 tyX3_ok nmX3 hown hK hP hD hS 0 rfl rfl 9 (by decide) (hts _ wk347) (fun _ h9 => h9) rfl (by decide +kernel) rfl rfl (Nat.le_of_ble_eq_true rfl) dX3_beginRow_2 (fun H locs hP1 hD1 hS1 => ?_)
  clear hP hD hS
  have hP : va_P D classes [(aR, .inr (2, [.ref aB, .ref aQ, .int hd, .long pl, .int hv, .int lk, .int dn, .int ht, .int sl, .int v1, .int wh]))] H := hP1
  have hD : va_D A [(aR, .inr (2, [.ref aB, .ref aQ, .int hd, .long pl, .int hv, .int lk, .int dn, .int ht, .int sl, .int v1, .int wh]))] := hD1
  have hS := hS1
  clear hP1 hD1 hS1
  refine lv_aload_n hx hb dX3_beginRow_5 rfl (lv_at hl 0 rfl) ?_
  refine lv_iconst (v := 0) hx hb dX3_beginRow_6 (by decide) ?_
  refine lv_topi (fun v2 e2 => ?_)
  have z2 : v2.toInt = 0 := zi_c e2 (by decide)
  refine va_put (D := D) (ci := 2) (v := .int v2) (ty := .int) (C := RX3) (T := TX3) (N := 11) hx hb hts in_X3 tyX3 tyX3_ok nmX3 hown hK hP hD hS 0 rfl rfl 10 (by decide) (hts _ wk348) (fun _ h9 => h9) rfl (by decide +kernel) rfl rfl (Nat.le_of_ble_eq_true rfl) dX3_beginRow_7 (fun H locs hP1 hD1 hS1 => ?_)
  clear hP hD hS
  have hP : va_P D classes [(aR, .inr (2, [.ref aB, .ref aQ, .int hd, .long pl, .int hv, .int lk, .int dn, .int ht, .int sl, .int v1, .int v2]))] H := hP1
  have hD : va_D A [(aR, .inr (2, [.ref aB, .ref aQ, .int hd, .long pl, .int hv, .int lk, .int dn, .int ht, .int sl, .int v1, .int v2]))] := hD1
  have hS := hS1
  clear hP1 hD1 hS1
  exact hret (v1, v2) _ _ _ _ dX3_beginRow_10 trivial (hP.sub [0] rfl) (hD.sub [0] (by decide) rfl) hS

set_option maxHeartbeats 4000000 in
set_option maxRecDepth 100000 in
theorem c_Re_slip (l : Launch) (D : va_G) (cI cJ cB : ClassId) (aR : Nat) (aB : Nat) (aQ : Nat) (hd : Int32) (pl : Int64) (hv : Int32) (lk : Int32) (dn : Int32) (ht : Int32) (sl : Int32) (br : Int32) (wh : Int32) (h1 : 0 ≤ lk.toInt ∧ lk.toInt ≤ 1) :
    ctv l yX3_slip (wsOf yX3_slip cX3_slip 1 none) (rmL 1 20 0 0) D classes (tys3 cI cJ cB) [.ref aR] [(aR, .inr (2, [.ref aB, .ref aQ, .int hd, .long pl, .int hv, .int lk, .int dn, .int ht, .int sl, .int br, .int wh]))] (fun u : Int32 × Int32 × Int32 × Int32 × Int32 × Int32 => 0 ≤ u.1.toInt ∧ u.1.toInt ≤ 1) (fun u : Int32 × Int32 × Int32 × Int32 × Int32 × Int32 => ([(aR, .inr (2, [.ref aB, .ref aQ, .int hd, .long pl, .int hv, .int u.1, .int u.2.1, .int u.2.2.1, .int u.2.2.2.1, .int u.2.2.2.2.1, .int u.2.2.2.2.2]))] : va_W)) 0 0 := by
  refine ctv.of (by first | exact plainFor_of_name (by decide) | decide +kernel) (Nat.le_of_ble_eq_true rfl) (fun p e s m args below meth c A ls Q h hret => ?_)
  obtain ⟨hx, hb, hml, hown, hts, hnm, hP, hK, hD, hA, hS, hZ, hN, hl⟩ := h
  have hown : s.vm.findClass RX3 = some m.cls := hown
  have hl : lv_has ls 1 [(0, .ref aR)] := hl
  have hP : va_P D classes [(aR, .inr (2, [.ref aB, .ref aQ, .int hd, .long pl, .int hv, .int lk, .int dn, .int ht, .int sl, .int br, .int wh]))] s.heap := hP
  have hD : va_D A [(aR, .inr (2, [.ref aB, .ref aQ, .int hd, .long pl, .int hv, .int lk, .int dn, .int ht, .int sl, .int br, .int wh]))] := hD
  have rg_hd := zi_rg hd
  have rg_hv := zi_rg hv
  have rg_lk := zi_rg lk
  have rg_dn := zi_rg dn
  have rg_ht := zi_rg ht
  have rg_sl := zi_rg sl
  have rg_br := zi_rg br
  have rg_wh := zi_rg wh
  refine lv_aload_n hx hb dX3_slip_0 rfl (lv_at hl 0 rfl) ?_
  refine lv_iconst (v := 0) hx hb dX3_slip_1 (by decide) ?_
  refine lv_topi (fun v1 e1 => ?_)
  have z1 : v1.toInt = 0 := zi_c e1 (by decide)
  refine va_put (D := D) (ci := 2) (v := .int v1) (ty := .boolean) (C := RX3) (T := TX3) (N := 11) hx hb hts in_X3 tyX3 tyX3_ok nmX3 hown hK hP hD hS 0 rfl rfl 5 (by decide) (hts _ wk331) (fun _ h9 => h9) rfl (by decide +kernel) (zb_n (by omega)) (zb_f (by omega)) (Nat.le_of_ble_eq_true rfl) dX3_slip_2 (fun H locs hP1 hD1 hS1 => ?_)
  clear hP hD hS
  have hP : va_P D classes [(aR, .inr (2, [.ref aB, .ref aQ, .int hd, .long pl, .int hv, .int v1, .int dn, .int ht, .int sl, .int br, .int wh]))] H := hP1
  have hD : va_D A [(aR, .inr (2, [.ref aB, .ref aQ, .int hd, .long pl, .int hv, .int v1, .int dn, .int ht, .int sl, .int br, .int wh]))] := hD1
  have hS := hS1
  clear hP1 hD1 hS1
  refine lv_aload_n hx hb dX3_slip_5 rfl (lv_at hl 0 rfl) ?_
  refine lv_iconst (v := 0) hx hb dX3_slip_6 (by decide) ?_
  refine lv_topi (fun v2 e2 => ?_)
  have z2 : v2.toInt = 0 := zi_c e2 (by decide)
  refine va_put (D := D) (ci := 2) (v := .int v2) (ty := .int) (C := RX3) (T := TX3) (N := 11) hx hb hts in_X3 tyX3 tyX3_ok nmX3 hown hK hP hD hS 0 rfl rfl 7 (by decide) (hts _ wk353) (fun _ h9 => h9) rfl (by decide +kernel) rfl rfl (Nat.le_of_ble_eq_true rfl) dX3_slip_7 (fun H locs hP1 hD1 hS1 => ?_)
  clear hP hD hS
  have hP : va_P D classes [(aR, .inr (2, [.ref aB, .ref aQ, .int hd, .long pl, .int hv, .int v1, .int dn, .int v2, .int sl, .int br, .int wh]))] H := hP1
  have hD : va_D A [(aR, .inr (2, [.ref aB, .ref aQ, .int hd, .long pl, .int hv, .int v1, .int dn, .int v2, .int sl, .int br, .int wh]))] := hD1
  have hS := hS1
  clear hP1 hD1 hS1
  refine lv_aload_n hx hb dX3_slip_10 rfl (lv_at hl 0 rfl) ?_
  refine call_v (wc := [(aR, .inr (2, [.ref aB, .ref aQ, .int hd, .long pl, .int hv, .int v1, .int dn, .int v2, .int sl, .int br, .int wh]))]) (wr := []) (run_V (As := []) (rest := []) kv_RX3_97 ⟨by decide, by decide⟩ ⟨rfl, rfl⟩ ⟨hx, hb, hml, hown, hts⟩ (c_Re_beginRow l D cI cJ cB aR aB aQ hd pl hv v1 dn v2 sl br wh  _) ct_blind (ct_pre (wc := [(aR, .inr (2, [.ref aB, .ref aQ, .int hd, .long pl, .int hv, .int v1, .int dn, .int v2, .int sl, .int br, .int wh]))]) hK hP hD hS hA hZ hN [0] (by decide) rfl rfl) (va_recv hK hP (ci := 2) (q0 := 0) rfl rfl) rfl hl.1 rfl (Nat.le_of_ble_eq_true rfl) dX3_slip_11 ⟨Nat.le_of_ble_eq_true rfl, Nat.le_of_ble_eq_true rfl⟩) hP hD hS hA [0] [] rfl rfl (by decide) (by decide) (fun u H locs hw3 hP1 hD1 hS1 => ?_)
  obtain ⟨br2_3, wh2_3⟩ := u
  clear hw3
  clear hP hD hS
  have hP : va_P D classes [(aR, .inr (2, [.ref aB, .ref aQ, .int hd, .long pl, .int hv, .int v1, .int dn, .int v2, .int sl, .int br2_3, .int wh2_3]))] H := hP1
  have hD : va_D A [(aR, .inr (2, [.ref aB, .ref aQ, .int hd, .long pl, .int hv, .int v1, .int dn, .int v2, .int sl, .int br2_3, .int wh2_3]))] := hD1
  have hS := hS1
  clear hP1 hD1 hS1
  have rg_br2_3 := zi_rg br2_3
  have rg_wh2_3 := zi_rg wh2_3
  refine lv_aload_n hx hb dX3_slip_14 rfl (lv_at hl 0 rfl) ?_
  refine lv_dup hx hb dX3_slip_15 rfl ?_
  refine va_get (D := D) (ci := 2) (v := .int sl) (C := RX3) (T := TX3) (N := 11) hx hb hts in_X3 hown hK hP 0 rfl rfl 8 (by decide) (hts _ wk354) (fun _ h9 => h9) rfl dX3_slip_16 ?_
  refine lv_iconst (v := 1) hx hb dX3_slip_19 (by decide) ?_
  refine lv_topi (fun v4 e4 => ?_)
  have z4 : v4.toInt = 1 := zi_c e4 (by decide)
  refine lv_iadd hx hb dX3_slip_20 ?_
  refine lv_topi (fun v5 e5 => ?_)
  first | have z5 := zi_add e5 (by omega) | skip
  refine va_put (D := D) (ci := 2) (v := .int v5) (ty := .int) (C := RX3) (T := TX3) (N := 11) hx hb hts in_X3 tyX3 tyX3_ok nmX3 hown hK hP hD hS 0 rfl rfl 8 (by decide) (hts _ wk354) (fun _ h9 => h9) rfl (by decide +kernel) rfl rfl (Nat.le_of_ble_eq_true rfl) dX3_slip_21 (fun H locs hP1 hD1 hS1 => ?_)
  clear hP hD hS
  have hP : va_P D classes [(aR, .inr (2, [.ref aB, .ref aQ, .int hd, .long pl, .int hv, .int v1, .int dn, .int v2, .int v5, .int br2_3, .int wh2_3]))] H := hP1
  have hD : va_D A [(aR, .inr (2, [.ref aB, .ref aQ, .int hd, .long pl, .int hv, .int v1, .int dn, .int v2, .int v5, .int br2_3, .int wh2_3]))] := hD1
  have hS := hS1
  clear hP1 hD1 hS1
  refine lv_aload_n hx hb dX3_slip_24 rfl (lv_at hl 0 rfl) ?_
  refine lv_iconst (v := 1) hx hb dX3_slip_25 (by decide) ?_
  refine lv_topi (fun v6 e6 => ?_)
  have z6 : v6.toInt = 1 := zi_c e6 (by decide)
  refine va_put (D := D) (ci := 2) (v := .int v6) (ty := .boolean) (C := RX3) (T := TX3) (N := 11) hx hb hts in_X3 tyX3 tyX3_ok nmX3 hown hK hP hD hS 0 rfl rfl 6 (by decide) (hts _ wk319) (fun _ h9 => h9) rfl (by decide +kernel) (zb_n (by omega)) (zb_f (by omega)) (Nat.le_of_ble_eq_true rfl) dX3_slip_26 (fun H locs hP1 hD1 hS1 => ?_)
  clear hP hD hS
  have hP : va_P D classes [(aR, .inr (2, [.ref aB, .ref aQ, .int hd, .long pl, .int hv, .int v1, .int v6, .int v2, .int v5, .int br2_3, .int wh2_3]))] H := hP1
  have hD : va_D A [(aR, .inr (2, [.ref aB, .ref aQ, .int hd, .long pl, .int hv, .int v1, .int v6, .int v2, .int v5, .int br2_3, .int wh2_3]))] := hD1
  have hS := hS1
  clear hP1 hD1 hS1
  have hq7 : 0 ≤ v1.toInt ∧ v1.toInt ≤ 1 := (by omega)
  exact hret (v1, v6, v2, v5, br2_3, wh2_3) _ _ _ _ dX3_slip_29 hq7 (hP.sub [0] rfl) (hD.sub [0] (by decide) rfl) hS

set_option maxHeartbeats 4000000 in
set_option maxRecDepth 100000 in
theorem c_Re_countHit (l : Launch) (D : va_G) (cI cJ cB : ClassId) (aR : Nat) (aB : Nat) (aQ : Nat) (hd : Int32) (pl : Int64) (hv : Int32) (lk : Int32) (dn : Int32) (ht : Int32) (sl : Int32) (br : Int32) (wh : Int32) (hf : Int32) (h1 : 0 ≤ lk.toInt ∧ lk.toInt ≤ 1) :
    ctv l yX3_countHit (wsOf yX3_countHit cX3_countHit 2 none) (rmL 2 40 0 0) D classes (tys3 cI cJ cB) [.ref aR, .int hf] [(aR, .inr (2, [.ref aB, .ref aQ, .int hd, .long pl, .int hv, .int lk, .int dn, .int ht, .int sl, .int br, .int wh]))] (fun u : Int32 × Int32 × Int32 × Int32 × Int32 × Int32 => 0 ≤ u.1.toInt ∧ u.1.toInt ≤ 1) (fun u : Int32 × Int32 × Int32 × Int32 × Int32 × Int32 => ([(aR, .inr (2, [.ref aB, .ref aQ, .int hd, .long pl, .int hv, .int u.1, .int u.2.1, .int u.2.2.1, .int u.2.2.2.1, .int u.2.2.2.2.1, .int u.2.2.2.2.2]))] : va_W)) 0 0 := by
  refine ctv.of (by first | exact plainFor_of_name (by decide) | decide +kernel) (Nat.le_of_ble_eq_true rfl) (fun p e s m args below meth c A ls Q h hret => ?_)
  obtain ⟨hx, hb, hml, hown, hts, hnm, hP, hK, hD, hA, hS, hZ, hN, hl⟩ := h
  have hown : s.vm.findClass RX3 = some m.cls := hown
  have hl : lv_has ls 2 [(0, .ref aR), (1, .int hf)] := hl
  have hP : va_P D classes [(aR, .inr (2, [.ref aB, .ref aQ, .int hd, .long pl, .int hv, .int lk, .int dn, .int ht, .int sl, .int br, .int wh]))] s.heap := hP
  have hD : va_D A [(aR, .inr (2, [.ref aB, .ref aQ, .int hd, .long pl, .int hv, .int lk, .int dn, .int ht, .int sl, .int br, .int wh]))] := hD
  have rg_hd := zi_rg hd
  have rg_hv := zi_rg hv
  have rg_lk := zi_rg lk
  have rg_dn := zi_rg dn
  have rg_ht := zi_rg ht
  have rg_sl := zi_rg sl
  have rg_br := zi_rg br
  have rg_wh := zi_rg wh
  have rg_hf := zi_rg hf
  refine lv_iload_n hx hb dX3_countHit_0 rfl (lv_at hl 1 rfl) ?_
  refine lv_if_ne (tgt := 9) hx hb dX3_countHit_1 (by decide) (fun c1 => ?_) (fun c1 => ?_)
  ·
    have z1 := zi_ne0 c1
    refine lv_aload_n hx hb dX3_countHit_9 rfl (lv_at hl 0 rfl) ?_
    refine lv_dup hx hb dX3_countHit_10 rfl ?_
    refine va_get (D := D) (ci := 2) (v := .int ht) (C := RX3) (T := TX3) (N := 11) hx hb hts in_X3 hown hK hP 0 rfl rfl 7 (by decide) (hts _ wk353) (fun _ h9 => h9) rfl dX3_countHit_11 ?_
    refine lv_iconst (v := 1) hx hb dX3_countHit_14 (by decide) ?_
    refine lv_topi (fun v2 e2 => ?_)
    have z2 : v2.toInt = 1 := zi_c e2 (by decide)
    refine lv_iadd hx hb dX3_countHit_15 ?_
    refine lv_topi (fun v3 e3 => ?_)
    first | have z3 := zi_add e3 (by omega) | skip
    refine va_put (D := D) (ci := 2) (v := .int v3) (ty := .int) (C := RX3) (T := TX3) (N := 11) hx hb hts in_X3 tyX3 tyX3_ok nmX3 hown hK hP hD hS 0 rfl rfl 7 (by decide) (hts _ wk353) (fun _ h9 => h9) rfl (by decide +kernel) rfl rfl (Nat.le_of_ble_eq_true rfl) dX3_countHit_16 (fun H locs hP1 hD1 hS1 => ?_)
    clear hP hD hS
    have hP : va_P D classes [(aR, .inr (2, [.ref aB, .ref aQ, .int hd, .long pl, .int hv, .int lk, .int dn, .int v3, .int sl, .int br, .int wh]))] H := hP1
    have hD : va_D A [(aR, .inr (2, [.ref aB, .ref aQ, .int hd, .long pl, .int hv, .int lk, .int dn, .int v3, .int sl, .int br, .int wh]))] := hD1
    have hS := hS1
    clear hP1 hD1 hS1
    refine lv_aload_n hx hb dX3_countHit_19 rfl (lv_at hl 0 rfl) ?_
    refine va_get (D := D) (ci := 2) (v := .int v3) (C := RX3) (T := TX3) (N := 11) hx hb hts in_X3 hown hK hP 0 rfl rfl 7 (by decide) (hts _ wk353) (fun _ h9 => h9) rfl dX3_countHit_20 ?_
    refine lv_bipush (v := 64) hx hb dX3_countHit_23 (by decide) ?_
    refine lv_topi (fun v4 e4 => ?_)
    have z4 : v4.toInt = 64 := zi_c e4 (by decide)
    refine lv_icmp_ne (tgt := 38) hx hb dX3_countHit_25 (by decide) (fun c5 => ?_) (fun c5 => ?_)
    ·
      have z5 := zi_ne c5
      have hq6 : 0 ≤ lk.toInt ∧ lk.toInt ≤ 1 := (by omega)
      exact hret (lk, dn, v3, sl, br, wh) _ _ _ _ dX3_countHit_38 hq6 (hP.sub [0] rfl) (hD.sub [0] (by decide) rfl) hS
    ·
      have z5 := zi_eq c5
      refine lv_aload_n hx hb dX3_countHit_28 rfl (lv_at hl 0 rfl) ?_
      refine lv_iconst (v := 1) hx hb dX3_countHit_29 (by decide) ?_
      refine lv_topi (fun v7 e7 => ?_)
      have z7 : v7.toInt = 1 := zi_c e7 (by decide)
      refine va_put (D := D) (ci := 2) (v := .int v7) (ty := .boolean) (C := RX3) (T := TX3) (N := 11) hx hb hts in_X3 tyX3 tyX3_ok nmX3 hown hK hP hD hS 0 rfl rfl 5 (by decide) (hts _ wk331) (fun _ h9 => h9) rfl (by decide +kernel) (zb_n (by omega)) (zb_f (by omega)) (Nat.le_of_ble_eq_true rfl) dX3_countHit_30 (fun H locs hP1 hD1 hS1 => ?_)
      clear hP hD hS
      have hP : va_P D classes [(aR, .inr (2, [.ref aB, .ref aQ, .int hd, .long pl, .int hv, .int v7, .int dn, .int v3, .int sl, .int br, .int wh]))] H := hP1
      have hD : va_D A [(aR, .inr (2, [.ref aB, .ref aQ, .int hd, .long pl, .int hv, .int v7, .int dn, .int v3, .int sl, .int br, .int wh]))] := hD1
      have hS := hS1
      clear hP1 hD1 hS1
      refine lv_aload_n hx hb dX3_countHit_33 rfl (lv_at hl 0 rfl) ?_
      refine lv_iconst (v := 0) hx hb dX3_countHit_34 (by decide) ?_
      refine lv_topi (fun v8 e8 => ?_)
      have z8 : v8.toInt = 0 := zi_c e8 (by decide)
      refine va_put (D := D) (ci := 2) (v := .int v8) (ty := .int) (C := RX3) (T := TX3) (N := 11) hx hb hts in_X3 tyX3 tyX3_ok nmX3 hown hK hP hD hS 0 rfl rfl 7 (by decide) (hts _ wk353) (fun _ h9 => h9) rfl (by decide +kernel) rfl rfl (Nat.le_of_ble_eq_true rfl) dX3_countHit_35 (fun H locs hP1 hD1 hS1 => ?_)
      clear hP hD hS
      have hP : va_P D classes [(aR, .inr (2, [.ref aB, .ref aQ, .int hd, .long pl, .int hv, .int v7, .int dn, .int v8, .int sl, .int br, .int wh]))] H := hP1
      have hD : va_D A [(aR, .inr (2, [.ref aB, .ref aQ, .int hd, .long pl, .int hv, .int v7, .int dn, .int v8, .int sl, .int br, .int wh]))] := hD1
      have hS := hS1
      clear hP1 hD1 hS1
      have hq9 : 0 ≤ v7.toInt ∧ v7.toInt ≤ 1 := (by omega)
      exact hret (v7, dn, v8, sl, br, wh) _ _ _ _ dX3_countHit_38 hq9 (hP.sub [0] rfl) (hD.sub [0] (by decide) rfl) hS
  ·
    have z1 := zi_eq0 c1
    refine lv_aload_n hx hb dX3_countHit_4 rfl (lv_at hl 0 rfl) ?_
    have hh10 : 0 ≤ lk.toInt ∧ lk.toInt ≤ 1 := (by omega)
    refine call_v (wc := [(aR, .inr (2, [.ref aB, .ref aQ, .int hd, .long pl, .int hv, .int lk, .int dn, .int ht, .int sl, .int br, .int wh]))]) (wr := []) (run_V (As := []) (rest := []) kv_RX3_91 ⟨by decide, by decide⟩ ⟨rfl, rfl⟩ ⟨hx, hb, hml, hown, hts⟩ (c_Re_slip l D cI cJ cB aR aB aQ hd pl hv lk dn ht sl br wh hh10 _) ct_blind (ct_pre (wc := [(aR, .inr (2, [.ref aB, .ref aQ, .int hd, .long pl, .int hv, .int lk, .int dn, .int ht, .int sl, .int br, .int wh]))]) hK hP hD hS hA hZ hN [0] (by decide) rfl rfl) (va_recv hK hP (ci := 2) (q0 := 0) rfl rfl) rfl hl.1 rfl (Nat.le_of_ble_eq_true rfl) dX3_countHit_5 ⟨Nat.le_of_ble_eq_true rfl, Nat.le_of_ble_eq_true rfl⟩) hP hD hS hA [0] [] rfl rfl (by decide) (by decide) (fun u H locs hw11 hP1 hD1 hS1 => ?_)
    obtain ⟨lk2_11, dn2_11, ht2_11, sl2_11, br2_11, wh2_11⟩ := u
    have hw11 : 0 ≤ lk2_11.toInt ∧ lk2_11.toInt ≤ 1 := hw11
    clear hP hD hS
    have hP : va_P D classes [(aR, .inr (2, [.ref aB, .ref aQ, .int hd, .long pl, .int hv, .int lk2_11, .int dn2_11, .int ht2_11, .int sl2_11, .int br2_11, .int wh2_11]))] H := hP1
    have hD : va_D A [(aR, .inr (2, [.ref aB, .ref aQ, .int hd, .long pl, .int hv, .int lk2_11, .int dn2_11, .int ht2_11, .int sl2_11, .int br2_11, .int wh2_11]))] := hD1
    have hS := hS1
    clear hP1 hD1 hS1
    have rg_lk2_11 := zi_rg lk2_11
    have rg_dn2_11 := zi_rg dn2_11
    have rg_ht2_11 := zi_rg ht2_11
    have rg_sl2_11 := zi_rg sl2_11
    have rg_br2_11 := zi_rg br2_11
    have rg_wh2_11 := zi_rg wh2_11
    have hq12 : 0 ≤ lk2_11.toInt ∧ lk2_11.toInt ≤ 1 := (by omega)
    exact hret (lk2_11, dn2_11, ht2_11, sl2_11, br2_11, wh2_11) _ _ _ _ dX3_countHit_8 hq12 (hP.sub [0] rfl) (hD.sub [0] (by decide) rfl) hS

set_option maxHeartbeats 4000000 in
set_option maxRecDepth 100000 in
theorem c_Re_countInRow (l : Launch) (D : va_G) (cI cJ cB : ClassId) (aR : Nat) (aB : Nat) (aQ : Nat) (hd : Int32) (pl : Int64) (hv : Int32) (lk : Int32) (dn : Int32) (ht : Int32) (sl : Int32) (br : Int32) (wh : Int32) (hf : Int32) (h1 : 0 ≤ lk.toInt ∧ lk.toInt ≤ 1) :
    ctv l yX3_countInRow (wsOf yX3_countInRow cX3_countInRow 2 none) (rmL 2 40 0 0) D classes (tys3 cI cJ cB) [.ref aR, .int hf] [(aR, .inr (2, [.ref aB, .ref aQ, .int hd, .long pl, .int hv, .int lk, .int dn, .int ht, .int sl, .int br, .int wh]))] (fun u : Int32 × Int32 × Int32 × Int32 × Int32 × Int32 => 0 ≤ u.1.toInt ∧ u.1.toInt ≤ 1) (fun u : Int32 × Int32 × Int32 × Int32 × Int32 × Int32 => ([(aR, .inr (2, [.ref aB, .ref aQ, .int hd, .long pl, .int hv, .int u.1, .int u.2.1, .int u.2.2.1, .int u.2.2.2.1, .int u.2.2.2.2.1, .int u.2.2.2.2.2]))] : va_W)) 0 0 := by
  refine ctv.of (by first | exact plainFor_of_name (by decide) | decide +kernel) (Nat.le_of_ble_eq_true rfl) (fun p e s m args below meth c A ls Q h hret => ?_)
  obtain ⟨hx, hb, hml, hown, hts, hnm, hP, hK, hD, hA, hS, hZ, hN, hl⟩ := h
  have hown : s.vm.findClass RX3 = some m.cls := hown
  have hl : lv_has ls 2 [(0, .ref aR), (1, .int hf)] := hl
  have hP : va_P D classes [(aR, .inr (2, [.ref aB, .ref aQ, .int hd, .long pl, .int hv, .int lk, .int dn, .int ht, .int sl, .int br, .int wh]))] s.heap := hP
  have hD : va_D A [(aR, .inr (2, [.ref aB, .ref aQ, .int hd, .long pl, .int hv, .int lk, .int dn, .int ht, .int sl, .int br, .int wh]))] := hD
  have rg_hd := zi_rg hd
  have rg_hv := zi_rg hv
  have rg_lk := zi_rg lk
  have rg_dn := zi_rg dn
  have rg_ht := zi_rg ht
  have rg_sl := zi_rg sl
  have rg_br := zi_rg br
  have rg_wh := zi_rg wh
  have rg_hf := zi_rg hf
  refine lv_aload_n hx hb dX3_countInRow_0 rfl (lv_at hl 0 rfl) ?_
  refine lv_dup hx hb dX3_countInRow_1 rfl ?_
  refine va_get (D := D) (ci := 2) (v := .int br) (C := RX3) (T := TX3) (N := 11) hx hb hts in_X3 hown hK hP 0 rfl rfl 9 (by decide) (hts _ wk347) (fun _ h9 => h9) rfl dX3_countInRow_2 ?_
  refine lv_iconst (v := 1) hx hb dX3_countInRow_5 (by decide) ?_
  refine lv_topi (fun v1 e1 => ?_)
  have z1 : v1.toInt = 1 := zi_c e1 (by decide)
  refine lv_iadd hx hb dX3_countInRow_6 ?_
  refine lv_topi (fun v2 e2 => ?_)
  first | have z2 := zi_add e2 (by omega) | skip
  refine va_put (D := D) (ci := 2) (v := .int v2) (ty := .int) (C := RX3) (T := TX3) (N := 11) hx hb hts in_X3 tyX3 tyX3_ok nmX3 hown hK hP hD hS 0 rfl rfl 9 (by decide) (hts _ wk347) (fun _ h9 => h9) rfl (by decide +kernel) rfl rfl (Nat.le_of_ble_eq_true rfl) dX3_countInRow_7 (fun H locs hP1 hD1 hS1 => ?_)
  clear hP hD hS
  have hP : va_P D classes [(aR, .inr (2, [.ref aB, .ref aQ, .int hd, .long pl, .int hv, .int lk, .int dn, .int ht, .int sl, .int v2, .int wh]))] H := hP1
  have hD : va_D A [(aR, .inr (2, [.ref aB, .ref aQ, .int hd, .long pl, .int hv, .int lk, .int dn, .int ht, .int sl, .int v2, .int wh]))] := hD1
  have hS := hS1
  clear hP1 hD1 hS1
  refine lv_iload_n hx hb dX3_countInRow_10 rfl (lv_at hl 1 rfl) ?_
  refine lv_if_ne (tgt := 24) hx hb dX3_countInRow_11 (by decide) (fun c3 => ?_) (fun c3 => ?_)
  ·
    have z3 := zi_ne0 c3
    refine lv_aload_n hx hb dX3_countInRow_24 rfl (lv_at hl 0 rfl) ?_
    refine va_get (D := D) (ci := 2) (v := .int wh) (C := RX3) (T := TX3) (N := 11) hx hb hts in_X3 hown hK hP 0 rfl rfl 10 (by decide) (hts _ wk348) (fun _ h9 => h9) rfl dX3_countInRow_25 ?_
    refine lv_bipush (v := 16) hx hb dX3_countInRow_28 (by decide) ?_
    refine lv_topi (fun v4 e4 => ?_)
    have z4 : v4.toInt = 16 := zi_c e4 (by decide)
    refine lv_icmp_ne (tgt := 40) hx hb dX3_countInRow_30 (by decide) (fun c5 => ?_) (fun c5 => ?_)
    ·
      have z5 := zi_ne c5
      refine lv_aload_n hx hb dX3_countInRow_40 rfl (lv_at hl 0 rfl) ?_
      refine va_get (D := D) (ci := 2) (v := .int v2) (C := RX3) (T := TX3) (N := 11) hx hb hts in_X3 hown hK hP 0 rfl rfl 9 (by decide) (hts _ wk347) (fun _ h9 => h9) rfl dX3_countInRow_41 ?_
      refine lv_bipush (v := 64) hx hb dX3_countInRow_44 (by decide) ?_
      refine lv_topi (fun v6 e6 => ?_)
      have z6 : v6.toInt = 64 := zi_c e6 (by decide)
      refine lv_icmp_ne (tgt := 53) hx hb dX3_countInRow_46 (by decide) (fun c7 => ?_) (fun c7 => ?_)
      ·
        have z7 := zi_ne c7
        have hq8 : 0 ≤ lk.toInt ∧ lk.toInt ≤ 1 := (by omega)
        exact hret (lk, dn, ht, sl, v2, wh) _ _ _ _ dX3_countInRow_53 hq8 (hP.sub [0] rfl) (hD.sub [0] (by decide) rfl) hS
      ·
        have z7 := zi_eq c7
        refine lv_aload_n hx hb dX3_countInRow_49 rfl (lv_at hl 0 rfl) ?_
        refine call_v (wc := [(aR, .inr (2, [.ref aB, .ref aQ, .int hd, .long pl, .int hv, .int lk, .int dn, .int ht, .int sl, .int v2, .int wh]))]) (wr := []) (run_V (As := []) (rest := []) kv_RX3_97 ⟨by decide, by decide⟩ ⟨rfl, rfl⟩ ⟨hx, hb, hml, hown, hts⟩ (c_Re_beginRow l D cI cJ cB aR aB aQ hd pl hv lk dn ht sl v2 wh  _) ct_blind (ct_pre (wc := [(aR, .inr (2, [.ref aB, .ref aQ, .int hd, .long pl, .int hv, .int lk, .int dn, .int ht, .int sl, .int v2, .int wh]))]) hK hP hD hS hA hZ hN [0] (by decide) rfl rfl) (va_recv hK hP (ci := 2) (q0 := 0) rfl rfl) rfl hl.1 rfl (Nat.le_of_ble_eq_true rfl) dX3_countInRow_50 ⟨Nat.le_of_ble_eq_true rfl, Nat.le_of_ble_eq_true rfl⟩) hP hD hS hA [0] [] rfl rfl (by decide) (by decide) (fun u H locs hw9 hP1 hD1 hS1 => ?_)
        obtain ⟨br2_9, wh2_9⟩ := u
        clear hw9
        clear hP hD hS
        have hP : va_P D classes [(aR, .inr (2, [.ref aB, .ref aQ, .int hd, .long pl, .int hv, .int lk, .int dn, .int ht, .int sl, .int br2_9, .int wh2_9]))] H := hP1
        have hD : va_D A [(aR, .inr (2, [.ref aB, .ref aQ, .int hd, .long pl, .int hv, .int lk, .int dn, .int ht, .int sl, .int br2_9, .int wh2_9]))] := hD1
        have hS := hS1
        clear hP1 hD1 hS1
        have rg_br2_9 := zi_rg br2_9
        have rg_wh2_9 := zi_rg wh2_9
        have hq10 : 0 ≤ lk.toInt ∧ lk.toInt ≤ 1 := (by omega)
        exact hret (lk, dn, ht, sl, br2_9, wh2_9) _ _ _ _ dX3_countInRow_53 hq10 (hP.sub [0] rfl) (hD.sub [0] (by decide) rfl) hS
    ·
      have z5 := zi_eq c5
      refine lv_aload_n hx hb dX3_countInRow_33 rfl (lv_at hl 0 rfl) ?_
      have hh11 : 0 ≤ lk.toInt ∧ lk.toInt ≤ 1 := (by omega)
      refine call_v (wc := [(aR, .inr (2, [.ref aB, .ref aQ, .int hd, .long pl, .int hv, .int lk, .int dn, .int ht, .int sl, .int v2, .int wh]))]) (wr := []) (run_V (As := []) (rest := []) kv_RX3_91 ⟨by decide, by decide⟩ ⟨rfl, rfl⟩ ⟨hx, hb, hml, hown, hts⟩ (c_Re_slip l D cI cJ cB aR aB aQ hd pl hv lk dn ht sl v2 wh hh11 _) ct_blind (ct_pre (wc := [(aR, .inr (2, [.ref aB, .ref aQ, .int hd, .long pl, .int hv, .int lk, .int dn, .int ht, .int sl, .int v2, .int wh]))]) hK hP hD hS hA hZ hN [0] (by decide) rfl rfl) (va_recv hK hP (ci := 2) (q0 := 0) rfl rfl) rfl hl.1 rfl (Nat.le_of_ble_eq_true rfl) dX3_countInRow_34 ⟨Nat.le_of_ble_eq_true rfl, Nat.le_of_ble_eq_true rfl⟩) hP hD hS hA [0] [] rfl rfl (by decide) (by decide) (fun u H locs hw12 hP1 hD1 hS1 => ?_)
      obtain ⟨lk2_12, dn2_12, ht2_12, sl2_12, br2_12, wh2_12⟩ := u
      have hw12 : 0 ≤ lk2_12.toInt ∧ lk2_12.toInt ≤ 1 := hw12
      clear hP hD hS
      have hP : va_P D classes [(aR, .inr (2, [.ref aB, .ref aQ, .int hd, .long pl, .int hv, .int lk2_12, .int dn2_12, .int ht2_12, .int sl2_12, .int br2_12, .int wh2_12]))] H := hP1
      have hD : va_D A [(aR, .inr (2, [.ref aB, .ref aQ, .int hd, .long pl, .int hv, .int lk2_12, .int dn2_12, .int ht2_12, .int sl2_12, .int br2_12, .int wh2_12]))] := hD1
      have hS := hS1
      clear hP1 hD1 hS1
      have rg_lk2_12 := zi_rg lk2_12
      have rg_dn2_12 := zi_rg dn2_12
      have rg_ht2_12 := zi_rg ht2_12
      have rg_sl2_12 := zi_rg sl2_12
      have rg_br2_12 := zi_rg br2_12
      have rg_wh2_12 := zi_rg wh2_12
      refine lv_goto (tgt := 53) hx hb dX3_countInRow_37 (by decide) ?_
      have hq13 : 0 ≤ lk2_12.toInt ∧ lk2_12.toInt ≤ 1 := (by omega)
      exact hret (lk2_12, dn2_12, ht2_12, sl2_12, br2_12, wh2_12) _ _ _ _ dX3_countInRow_53 hq13 (hP.sub [0] rfl) (hD.sub [0] (by decide) rfl) hS
  ·
    have z3 := zi_eq0 c3
    refine lv_aload_n hx hb dX3_countInRow_14 rfl (lv_at hl 0 rfl) ?_
    refine lv_dup hx hb dX3_countInRow_15 rfl ?_
    refine va_get (D := D) (ci := 2) (v := .int wh) (C := RX3) (T := TX3) (N := 11) hx hb hts in_X3 hown hK hP 0 rfl rfl 10 (by decide) (hts _ wk348) (fun _ h9 => h9) rfl dX3_countInRow_16 ?_
    refine lv_iconst (v := 1) hx hb dX3_countInRow_19 (by decide) ?_
    refine lv_topi (fun v14 e14 => ?_)
    have z14 : v14.toInt = 1 := zi_c e14 (by decide)
    refine lv_iadd hx hb dX3_countInRow_20 ?_
    refine lv_topi (fun v15 e15 => ?_)
    first | have z15 := zi_add e15 (by omega) | skip
    refine va_put (D := D) (ci := 2) (v := .int v15) (ty := .int) (C := RX3) (T := TX3) (N := 11) hx hb hts in_X3 tyX3 tyX3_ok nmX3 hown hK hP hD hS 0 rfl rfl 10 (by decide) (hts _ wk348) (fun _ h9 => h9) rfl (by decide +kernel) rfl rfl (Nat.le_of_ble_eq_true rfl) dX3_countInRow_21 (fun H locs hP1 hD1 hS1 => ?_)
    clear hP hD hS
    have hP : va_P D classes [(aR, .inr (2, [.ref aB, .ref aQ, .int hd, .long pl, .int hv, .int lk, .int dn, .int ht, .int sl, .int v2, .int v15]))] H := hP1
    have hD : va_D A [(aR, .inr (2, [.ref aB, .ref aQ, .int hd, .long pl, .int hv, .int lk, .int dn, .int ht, .int sl, .int v2, .int v15]))] := hD1
    have hS := hS1
    clear hP1 hD1 hS1
    refine lv_aload_n hx hb dX3_countInRow_24 rfl (lv_at hl 0 rfl) ?_
    refine va_get (D := D) (ci := 2) (v := .int v15) (C := RX3) (T := TX3) (N := 11) hx hb hts in_X3 hown hK hP 0 rfl rfl 10 (by decide) (hts _ wk348) (fun _ h9 => h9) rfl dX3_countInRow_25 ?_
    refine lv_bipush (v := 16) hx hb dX3_countInRow_28 (by decide) ?_
    refine lv_topi (fun v16 e16 => ?_)
    have z16 : v16.toInt = 16 := zi_c e16 (by decide)
    refine lv_icmp_ne (tgt := 40) hx hb dX3_countInRow_30 (by decide) (fun c17 => ?_) (fun c17 => ?_)
    ·
      have z17 := zi_ne c17
      refine lv_aload_n hx hb dX3_countInRow_40 rfl (lv_at hl 0 rfl) ?_
      refine va_get (D := D) (ci := 2) (v := .int v2) (C := RX3) (T := TX3) (N := 11) hx hb hts in_X3 hown hK hP 0 rfl rfl 9 (by decide) (hts _ wk347) (fun _ h9 => h9) rfl dX3_countInRow_41 ?_
      refine lv_bipush (v := 64) hx hb dX3_countInRow_44 (by decide) ?_
      refine lv_topi (fun v18 e18 => ?_)
      have z18 : v18.toInt = 64 := zi_c e18 (by decide)
      refine lv_icmp_ne (tgt := 53) hx hb dX3_countInRow_46 (by decide) (fun c19 => ?_) (fun c19 => ?_)
      ·
        have z19 := zi_ne c19
        have hq20 : 0 ≤ lk.toInt ∧ lk.toInt ≤ 1 := (by omega)
        exact hret (lk, dn, ht, sl, v2, v15) _ _ _ _ dX3_countInRow_53 hq20 (hP.sub [0] rfl) (hD.sub [0] (by decide) rfl) hS
      ·
        have z19 := zi_eq c19
        refine lv_aload_n hx hb dX3_countInRow_49 rfl (lv_at hl 0 rfl) ?_
        refine call_v (wc := [(aR, .inr (2, [.ref aB, .ref aQ, .int hd, .long pl, .int hv, .int lk, .int dn, .int ht, .int sl, .int v2, .int v15]))]) (wr := []) (run_V (As := []) (rest := []) kv_RX3_97 ⟨by decide, by decide⟩ ⟨rfl, rfl⟩ ⟨hx, hb, hml, hown, hts⟩ (c_Re_beginRow l D cI cJ cB aR aB aQ hd pl hv lk dn ht sl v2 v15  _) ct_blind (ct_pre (wc := [(aR, .inr (2, [.ref aB, .ref aQ, .int hd, .long pl, .int hv, .int lk, .int dn, .int ht, .int sl, .int v2, .int v15]))]) hK hP hD hS hA hZ hN [0] (by decide) rfl rfl) (va_recv hK hP (ci := 2) (q0 := 0) rfl rfl) rfl hl.1 rfl (Nat.le_of_ble_eq_true rfl) dX3_countInRow_50 ⟨Nat.le_of_ble_eq_true rfl, Nat.le_of_ble_eq_true rfl⟩) hP hD hS hA [0] [] rfl rfl (by decide) (by decide) (fun u H locs hw21 hP1 hD1 hS1 => ?_)
        obtain ⟨br2_21, wh2_21⟩ := u
        clear hw21
        clear hP hD hS
        have hP : va_P D classes [(aR, .inr (2, [.ref aB, .ref aQ, .int hd, .long pl, .int hv, .int lk, .int dn, .int ht, .int sl, .int br2_21, .int wh2_21]))] H := hP1
        have hD : va_D A [(aR, .inr (2, [.ref aB, .ref aQ, .int hd, .long pl, .int hv, .int lk, .int dn, .int ht, .int sl, .int br2_21, .int wh2_21]))] := hD1
        have hS := hS1
        clear hP1 hD1 hS1
        have rg_br2_21 := zi_rg br2_21
        have rg_wh2_21 := zi_rg wh2_21
        have hq22 : 0 ≤ lk.toInt ∧ lk.toInt ≤ 1 := (by omega)
        exact hret (lk, dn, ht, sl, br2_21, wh2_21) _ _ _ _ dX3_countInRow_53 hq22 (hP.sub [0] rfl) (hD.sub [0] (by decide) rfl) hS
    ·
      have z17 := zi_eq c17
      refine lv_aload_n hx hb dX3_countInRow_33 rfl (lv_at hl 0 rfl) ?_
      have hh23 : 0 ≤ lk.toInt ∧ lk.toInt ≤ 1 := (by omega)
      refine call_v (wc := [(aR, .inr (2, [.ref aB, .ref aQ, .int hd, .long pl, .int hv, .int lk, .int dn, .int ht, .int sl, .int v2, .int v15]))]) (wr := []) (run_V (As := []) (rest := []) kv_RX3_91 ⟨by decide, by decide⟩ ⟨rfl, rfl⟩ ⟨hx, hb, hml, hown, hts⟩ (c_Re_slip l D cI cJ cB aR aB aQ hd pl hv lk dn ht sl v2 v15 hh23 _) ct_blind (ct_pre (wc := [(aR, .inr (2, [.ref aB, .ref aQ, .int hd, .long pl, .int hv, .int lk, .int dn, .int ht, .int sl, .int v2, .int v15]))]) hK hP hD hS hA hZ hN [0] (by decide) rfl rfl) (va_recv hK hP (ci := 2) (q0 := 0) rfl rfl) rfl hl.1 rfl (Nat.le_of_ble_eq_true rfl) dX3_countInRow_34 ⟨Nat.le_of_ble_eq_true rfl, Nat.le_of_ble_eq_true rfl⟩) hP hD hS hA [0] [] rfl rfl (by decide) (by decide) (fun u H locs hw24 hP1 hD1 hS1 => ?_)
      obtain ⟨lk2_24, dn2_24, ht2_24, sl2_24, br2_24, wh2_24⟩ := u
      have hw24 : 0 ≤ lk2_24.toInt ∧ lk2_24.toInt ≤ 1 := hw24
      clear hP hD hS
      have hP : va_P D classes [(aR, .inr (2, [.ref aB, .ref aQ, .int hd, .long pl, .int hv, .int lk2_24, .int dn2_24, .int ht2_24, .int sl2_24, .int br2_24, .int wh2_24]))] H := hP1
      have hD : va_D A [(aR, .inr (2, [.ref aB, .ref aQ, .int hd, .long pl, .int hv, .int lk2_24, .int dn2_24, .int ht2_24, .int sl2_24, .int br2_24, .int wh2_24]))] := hD1
      have hS := hS1
      clear hP1 hD1 hS1
      have rg_lk2_24 := zi_rg lk2_24
      have rg_dn2_24 := zi_rg dn2_24
      have rg_ht2_24 := zi_rg ht2_24
      have rg_sl2_24 := zi_rg sl2_24
      have rg_br2_24 := zi_rg br2_24
      have rg_wh2_24 := zi_rg wh2_24
      refine lv_goto (tgt := 53) hx hb dX3_countInRow_37 (by decide) ?_
      have hq25 : 0 ≤ lk2_24.toInt ∧ lk2_24.toInt ≤ 1 := (by omega)
      exact hret (lk2_24, dn2_24, ht2_24, sl2_24, br2_24, wh2_24) _ _ _ _ dX3_countInRow_53 hq25 (hP.sub [0] rfl) (hD.sub [0] (by decide) rfl) hS

set_option maxHeartbeats 4000000 in
set_option maxRecDepth 100000 in
theorem c_Re_endBlock (l : Launch) (D : va_G) (cI cJ cB : ClassId) (aR : Nat) (aB : Nat) (aQ : Nat) (aT : Nat) (aP : Nat) (hd : Int32) (pl : Int64) (hv : Int32) (lk : Int32) (dn : Int32) (ht : Int32) (sl : Int32) (br : Int32) (wh : Int32) (gc : Int32) (ft : Nat → Int32) (fp : Nat → Int64) (h1 : 0 ≤ gc.toInt ∧ gc.toInt ≤ 1000000000) (h2 : 0 ≤ lk.toInt ∧ lk.toInt ≤ 1) :
    ctv l yX3_endBlock (wsOf yX3_endBlock cX3_endBlock 2 none) (rmL 3 66 0 0) D classes (tys3 cI cJ cB) [.ref aR] [(aR, .inr (2, [.ref aB, .ref aQ, .int hd, .long pl, .int hv, .int lk, .int dn, .int ht, .int sl, .int br, .int wh])), (aQ, .inr (0, [.ref aT, .ref aP, .int gc])), (aT, .inl (cI, 300, .inl ft)), (aP, .inl (cJ, 300, .inr (.inl fp)))] (fun u : Int32 × Int32 × Int32 × Int32 × Int32 × Int32 × Int32 × (Nat → Int32) × (Nat → Int64) => (gc.toInt ≤ u.2.2.2.2.2.2.1.toInt ∧ u.2.2.2.2.2.2.1.toInt ≤ gc.toInt + 1) ∧ 0 ≤ u.1.toInt ∧ u.1.toInt ≤ 1) (fun u : Int32 × Int32 × Int32 × Int32 × Int32 × Int32 × Int32 × (Nat → Int32) × (Nat → Int64) => ([(aR, .inr (2, [.ref aB, .ref aQ, .int hd, .long pl, .int hv, .int u.1, .int u.2.1, .int u.2.2.1, .int u.2.2.2.1, .int u.2.2.2.2.1, .int u.2.2.2.2.2.1])), (aQ, .inr (0, [.ref aT, .ref aP, .int u.2.2.2.2.2.2.1])), (aT, .inl (cI, 300, .inl u.2.2.2.2.2.2.2.1)), (aP, .inl (cJ, 300, .inr (.inl u.2.2.2.2.2.2.2.2)))] : va_W)) 0 0 := by
  refine ctv.of (by first | exact plainFor_of_name (by decide) | decide +kernel) (Nat.le_of_ble_eq_true rfl) (fun p e s m args below meth c A ls Q h hret => ?_)
  obtain ⟨hx, hb, hml, hown, hts, hnm, hP, hK, hD, hA, hS, hZ, hN, hl⟩ := h
  have hown : s.vm.findClass RX3 = some m.cls := hown
  have hl : lv_has ls 2 [(0, .ref aR)] := hl
  have hP : va_P D classes [(aR, .inr (2, [.ref aB, .ref aQ, .int hd, .long pl, .int hv, .int lk, .int dn, .int ht, .int sl, .int br, .int wh])), (aQ, .inr (0, [.ref aT, .ref aP, .int gc])), (aT, .inl (cI, 300, .inl ft)), (aP, .inl (cJ, 300, .inr (.inl fp)))] s.heap := hP
  have hD : va_D A [(aR, .inr (2, [.ref aB, .ref aQ, .int hd, .long pl, .int hv, .int lk, .int dn, .int ht, .int sl, .int br, .int wh])), (aQ, .inr (0, [.ref aT, .ref aP, .int gc])), (aT, .inl (cI, 300, .inl ft)), (aP, .inl (cJ, 300, .inr (.inl fp)))] := hD
  have rg_hd := zi_rg hd
  have rg_hv := zi_rg hv
  have rg_lk := zi_rg lk
  have rg_dn := zi_rg dn
  have rg_ht := zi_rg ht
  have rg_sl := zi_rg sl
  have rg_br := zi_rg br
  have rg_wh := zi_rg wh
  have rg_gc := zi_rg gc
  refine lv_aload_n hx hb dX3_endBlock_0 rfl (lv_at hl 0 rfl) ?_
  refine va_get (D := D) (ci := 2) (v := .int hd) (C := RX3) (T := TX3) (N := 11) hx hb hts in_X3 hown hK hP 0 rfl rfl 2 (by decide) (hts _ wk321) (fun _ h9 => h9) rfl dX3_endBlock_1 ?_
  refine lv_iconst (v := 1) hx hb dX3_endBlock_4 (by decide) ?_
  refine lv_topi (fun v1 e1 => ?_)
  have z1 : v1.toInt = 1 := zi_c e1 (by decide)
  refine lv_icmp_eq (tgt := 16) hx hb dX3_endBlock_5 (by decide) (fun c2 => ?_) (fun c2 => ?_)
  ·
    have z2 := zi_eq c2
    refine lv_iconst (v := 1) hx hb dX3_endBlock_16 (by decide) ?_
    refine lv_topi (fun v3 e3 => ?_)
    have z3 : v3.toInt = 1 := zi_c e3 (by decide)
    refine lv_goto (tgt := 21) hx hb dX3_endBlock_17 (by decide) ?_
    refine lv_istore_n (lv' := [(1, .int v3), (0, .ref aR)]) hx hb dX3_endBlock_21 rfl hl (by decide) rfl (fun ls hl => ?_)
    refine lv_aload_n hx hb dX3_endBlock_22 rfl (lv_at hl 1 rfl) ?_
    refine va_get (D := D) (ci := 2) (v := .int lk) (C := RX3) (T := TX3) (N := 11) hx hb hts in_X3 hown hK hP 0 rfl rfl 5 (by decide) (hts _ wk331) (fun _ h9 => h9) rfl dX3_endBlock_23 ?_
    refine lv_if_eq (tgt := 59) hx hb dX3_endBlock_26 (by decide) (fun c4 => ?_) (fun c4 => ?_)
    ·
      have z4 := zi_eq0 c4
      refine lv_aload_n hx hb dX3_endBlock_59 rfl (lv_at hl 1 rfl) ?_
      refine lv_iload_n hx hb dX3_endBlock_60 rfl (lv_at hl 0 rfl) ?_
      have hh5 : 0 ≤ lk.toInt ∧ lk.toInt ≤ 1 := (by omega)
      refine call_v (wc := [(aR, .inr (2, [.ref aB, .ref aQ, .int hd, .long pl, .int hv, .int lk, .int dn, .int ht, .int sl, .int br, .int wh]))]) (wr := [(aQ, .inr (0, [.ref aT, .ref aP, .int gc])), (aT, .inl (cI, 300, .inl ft)), (aP, .inl (cJ, 300, .inr (.inl fp)))]) (run_V (As := [.int v3]) (rest := []) kv_RX3_88 ⟨by decide, by decide⟩ ⟨rfl, rfl⟩ ⟨hx, hb, hml, hown, hts⟩ (c_Re_countHit l D cI cJ cB aR aB aQ hd pl hv lk dn ht sl br wh v3 hh5 _) ct_blind (ct_pre (wc := [(aR, .inr (2, [.ref aB, .ref aQ, .int hd, .long pl, .int hv, .int lk, .int dn, .int ht, .int sl, .int br, .int wh]))]) hK hP hD hS hA hZ hN [0] (by decide) rfl rfl) (va_recv hK hP (ci := 2) (q0 := 0) rfl rfl) rfl hl.1 rfl (Nat.le_of_ble_eq_true rfl) dX3_endBlock_61 ⟨Nat.le_of_ble_eq_true rfl, Nat.le_of_ble_eq_true rfl⟩) hP hD hS hA [0] [1, 2, 3] rfl rfl (by decide) (by decide) (fun u H locs hw6 hP1 hD1 hS1 => ?_)
      obtain ⟨lk2_6, dn2_6, ht2_6, sl2_6, br2_6, wh2_6⟩ := u
      have hw6 : 0 ≤ lk2_6.toInt ∧ lk2_6.toInt ≤ 1 := hw6
      clear hP hD hS
      have hP : va_P D classes [(aQ, .inr (0, [.ref aT, .ref aP, .int gc])), (aT, .inl (cI, 300, .inl ft)), (aP, .inl (cJ, 300, .inr (.inl fp))), (aR, .inr (2, [.ref aB, .ref aQ, .int hd, .long pl, .int hv, .int lk2_6, .int dn2_6, .int ht2_6, .int sl2_6, .int br2_6, .int wh2_6]))] H := hP1
      have hD : va_D A [(aQ, .inr (0, [.ref aT, .ref aP, .int gc])), (aT, .inl (cI, 300, .inl ft)), (aP, .inl (cJ, 300, .inr (.inl fp))), (aR, .inr (2, [.ref aB, .ref aQ, .int hd, .long pl, .int hv, .int lk2_6, .int dn2_6, .int ht2_6, .int sl2_6, .int br2_6, .int wh2_6]))] := hD1
      have hS := hS1
      clear hP1 hD1 hS1
      have rg_lk2_6 := zi_rg lk2_6
      have rg_dn2_6 := zi_rg dn2_6
      have rg_ht2_6 := zi_rg ht2_6
      have rg_sl2_6 := zi_rg sl2_6
      have rg_br2_6 := zi_rg br2_6
      have rg_wh2_6 := zi_rg wh2_6
      have hq7 : (gc.toInt ≤ gc.toInt ∧ gc.toInt ≤ gc.toInt + 1) ∧ 0 ≤ lk2_6.toInt ∧ lk2_6.toInt ≤ 1 := (by omega)
      exact hret (lk2_6, dn2_6, ht2_6, sl2_6, br2_6, wh2_6, gc, ft, fp) _ _ _ _ dX3_endBlock_64 hq7 (hP.sub [3, 0, 1, 2] rfl) (hD.sub [3, 0, 1, 2] (by decide) rfl) hS
    ·
      have z4 := zi_ne0 c4
      refine lv_aload_n hx hb dX3_endBlock_29 rfl (lv_at hl 1 rfl) ?_
      refine va_get (D := D) (ci := 2) (v := .ref aQ) (C := RX3) (T := TX3) (N := 11) hx hb hts in_X3 hown hK hP 0 rfl rfl 1 (by decide) (hts _ wk50) (fun _ h9 => h9) rfl dX3_endBlock_30 ?_
      refine lv_aload_n hx hb dX3_endBlock_33 rfl (lv_at hl 1 rfl) ?_
      refine va_get (D := D) (ci := 2) (v := .int hd) (C := RX3) (T := TX3) (N := 11) hx hb hts in_X3 hown hK hP 0 rfl rfl 2 (by decide) (hts _ wk321) (fun _ h9 => h9) rfl dX3_endBlock_34 ?_
      refine lv_aload_n hx hb dX3_endBlock_37 rfl (lv_at hl 1 rfl) ?_
      refine va_get (D := D) (ci := 2) (v := .long pl) (C := RX3) (T := TX3) (N := 11) hx hb hts in_X3 hown hK hP 0 rfl rfl 3 (by decide) (hts _ wk322) (fun _ h9 => h9) rfl dX3_endBlock_38 ?_
      refine call_i (wc := []) (wr := [(aR, .inr (2, [.ref aB, .ref aQ, .int hd, .long pl, .int hv, .int lk, .int dn, .int ht, .int sl, .int br, .int wh])), (aQ, .inr (0, [.ref aT, .ref aP, .int gc])), (aT, .inl (cI, 300, .inl ft)), (aP, .inl (cJ, 300, .inr (.inl fp)))]) (run_S (As := [.int hd, .long pl]) (rest := [.ref aQ]) ks_RX3_74 ⟨by decide, by decide⟩ ⟨rfl, rfl⟩ ⟨hx, hb, hml, hown, hts⟩ (c_Co_typeOfBlock l D cI cJ cB hd pl  _) ct_blind (ct_pre (wc := []) hK hP hD hS hA hZ hN [] (by decide) rfl rfl) rfl hl.1 rfl (Nat.le_of_ble_eq_true rfl) dX3_endBlock_41 ⟨Nat.le_of_ble_eq_true rfl, Nat.le_of_ble_eq_true rfl⟩) hP hD hS hA [] [0, 1, 2, 3] rfl rfl (by decide) (by decide) (fun r8 u H locs hw8 hP1 hD1 hS1 => ?_)
      clear hw8
      clear hP hD hS
      have hP : va_P D classes [(aR, .inr (2, [.ref aB, .ref aQ, .int hd, .long pl, .int hv, .int lk, .int dn, .int ht, .int sl, .int br, .int wh])), (aQ, .inr (0, [.ref aT, .ref aP, .int gc])), (aT, .inl (cI, 300, .inl ft)), (aP, .inl (cJ, 300, .inr (.inl fp)))] H := hP1
      have hD : va_D A [(aR, .inr (2, [.ref aB, .ref aQ, .int hd, .long pl, .int hv, .int lk, .int dn, .int ht, .int sl, .int br, .int wh])), (aQ, .inr (0, [.ref aT, .ref aP, .int gc])), (aT, .inl (cI, 300, .inl ft)), (aP, .inl (cJ, 300, .inr (.inl fp)))] := hD1
      have hS := hS1
      clear hP1 hD1 hS1
      have rg_r8 := zi_rg r8
      refine lv_aload_n hx hb dX3_endBlock_44 rfl (lv_at hl 1 rfl) ?_
      refine va_get (D := D) (ci := 2) (v := .long pl) (C := RX3) (T := TX3) (N := 11) hx hb hts in_X3 hown hK hP 0 rfl rfl 3 (by decide) (hts _ wk322) (fun _ h9 => h9) rfl dX3_endBlock_45 ?_
      have hh9 : 0 ≤ gc.toInt ∧ gc.toInt ≤ 1000000000 := (by omega)
      refine call_v (wc := [(aQ, .inr (0, [.ref aT, .ref aP, .int gc])), (aT, .inl (cI, 300, .inl ft)), (aP, .inl (cJ, 300, .inr (.inl fp)))]) (wr := [(aR, .inr (2, [.ref aB, .ref aQ, .int hd, .long pl, .int hv, .int lk, .int dn, .int ht, .int sl, .int br, .int wh]))]) (run_V (As := [.int r8, .long pl]) (rest := []) kv_RX3_80 ⟨by decide, by decide⟩ ⟨rfl, rfl⟩ ⟨hx, hb, hml, hown, hts⟩ (c_Gr_keep l D cI cJ cB aQ aT aP gc r8 pl ft fp hh9 _) ct_blind (ct_pre (wc := [(aQ, .inr (0, [.ref aT, .ref aP, .int gc])), (aT, .inl (cI, 300, .inl ft)), (aP, .inl (cJ, 300, .inr (.inl fp)))]) hK hP hD hS hA hZ hN [1, 2, 3] (by decide) rfl rfl) (va_recv hK hP (ci := 0) (q0 := 1) rfl rfl) rfl hl.1 rfl (Nat.le_of_ble_eq_true rfl) dX3_endBlock_48 ⟨Nat.le_of_ble_eq_true rfl, Nat.le_of_ble_eq_true rfl⟩) hP hD hS hA [1, 2, 3] [0] rfl rfl (by decide) (by decide) (fun u H locs hw10 hP1 hD1 hS1 => ?_)
      obtain ⟨gc2_10, ft2_10, fp2_10⟩ := u
      have hw10 : gc2_10.toInt = gc.toInt + 1 := hw10
      clear hP hD hS
      have hP : va_P D classes [(aR, .inr (2, [.ref aB, .ref aQ, .int hd, .long pl, .int hv, .int lk, .int dn, .int ht, .int sl, .int br, .int wh])), (aQ, .inr (0, [.ref aT, .ref aP, .int gc2_10])), (aT, .inl (cI, 300, .inl ft2_10)), (aP, .inl (cJ, 300, .inr (.inl fp2_10)))] H := hP1
      have hD : va_D A [(aR, .inr (2, [.ref aB, .ref aQ, .int hd, .long pl, .int hv, .int lk, .int dn, .int ht, .int sl, .int br, .int wh])), (aQ, .inr (0, [.ref aT, .ref aP, .int gc2_10])), (aT, .inl (cI, 300, .inl ft2_10)), (aP, .inl (cJ, 300, .inr (.inl fp2_10)))] := hD1
      have hS := hS1
      clear hP1 hD1 hS1
      have rg_gc2_10 := zi_rg gc2_10
      refine lv_aload_n hx hb dX3_endBlock_51 rfl (lv_at hl 1 rfl) ?_
      refine lv_iload_n hx hb dX3_endBlock_52 rfl (lv_at hl 0 rfl) ?_
      have hh11 : 0 ≤ lk.toInt ∧ lk.toInt ≤ 1 := (by omega)
      refine call_v (wc := [(aR, .inr (2, [.ref aB, .ref aQ, .int hd, .long pl, .int hv, .int lk, .int dn, .int ht, .int sl, .int br, .int wh]))]) (wr := [(aQ, .inr (0, [.ref aT, .ref aP, .int gc2_10])), (aT, .inl (cI, 300, .inl ft2_10)), (aP, .inl (cJ, 300, .inr (.inl fp2_10)))]) (run_V (As := [.int v3]) (rest := []) kv_RX3_84 ⟨by decide, by decide⟩ ⟨rfl, rfl⟩ ⟨hx, hb, hml, hown, hts⟩ (c_Re_countInRow l D cI cJ cB aR aB aQ hd pl hv lk dn ht sl br wh v3 hh11 _) ct_blind (ct_pre (wc := [(aR, .inr (2, [.ref aB, .ref aQ, .int hd, .long pl, .int hv, .int lk, .int dn, .int ht, .int sl, .int br, .int wh]))]) hK hP hD hS hA hZ hN [0] (by decide) rfl rfl) (va_recv hK hP (ci := 2) (q0 := 0) rfl rfl) rfl hl.1 rfl (Nat.le_of_ble_eq_true rfl) dX3_endBlock_53 ⟨Nat.le_of_ble_eq_true rfl, Nat.le_of_ble_eq_true rfl⟩) hP hD hS hA [0] [1, 2, 3] rfl rfl (by decide) (by decide) (fun u H locs hw12 hP1 hD1 hS1 => ?_)
      obtain ⟨lk2_12, dn2_12, ht2_12, sl2_12, br2_12, wh2_12⟩ := u
      have hw12 : 0 ≤ lk2_12.toInt ∧ lk2_12.toInt ≤ 1 := hw12
      clear hP hD hS
      have hP : va_P D classes [(aQ, .inr (0, [.ref aT, .ref aP, .int gc2_10])), (aT, .inl (cI, 300, .inl ft2_10)), (aP, .inl (cJ, 300, .inr (.inl fp2_10))), (aR, .inr (2, [.ref aB, .ref aQ, .int hd, .long pl, .int hv, .int lk2_12, .int dn2_12, .int ht2_12, .int sl2_12, .int br2_12, .int wh2_12]))] H := hP1
      have hD : va_D A [(aQ, .inr (0, [.ref aT, .ref aP, .int gc2_10])), (aT, .inl (cI, 300, .inl ft2_10)), (aP, .inl (cJ, 300, .inr (.inl fp2_10))), (aR, .inr (2, [.ref aB, .ref aQ, .int hd, .long pl, .int hv, .int lk2_12, .int dn2_12, .int ht2_12, .int sl2_12, .int br2_12, .int wh2_12]))] := hD1
      have hS := hS1
      clear hP1 hD1 hS1
      have rg_lk2_12 := zi_rg lk2_12
      have rg_dn2_12 := zi_rg dn2_12
      have rg_ht2_12 := zi_rg ht2_12
      have rg_sl2_12 := zi_rg sl2_12
      have rg_br2_12 := zi_rg br2_12
      have rg_wh2_12 := zi_rg wh2_12
      refine lv_goto (tgt := 64) hx hb dX3_endBlock_56 (by decide) ?_
      have hq13 : (gc.toInt ≤ gc2_10.toInt ∧ gc2_10.toInt ≤ gc.toInt + 1) ∧ 0 ≤ lk2_12.toInt ∧ lk2_12.toInt ≤ 1 := (by omega)
      exact hret (lk2_12, dn2_12, ht2_12, sl2_12, br2_12, wh2_12, gc2_10, ft2_10, fp2_10) _ _ _ _ dX3_endBlock_64 hq13 (hP.sub [3, 0, 1, 2] rfl) (hD.sub [3, 0, 1, 2] (by decide) rfl) hS
  ·
    have z2 := zi_ne c2
    refine lv_aload_n hx hb dX3_endBlock_8 rfl (lv_at hl 0 rfl) ?_
    refine va_get (D := D) (ci := 2) (v := .int hd) (C := RX3) (T := TX3) (N := 11) hx hb hts in_X3 hown hK hP 0 rfl rfl 2 (by decide) (hts _ wk321) (fun _ h9 => h9) rfl dX3_endBlock_9 ?_
    refine lv_iconst (v := 2) hx hb dX3_endBlock_12 (by decide) ?_
    refine lv_topi (fun v14 e14 => ?_)
    have z14 : v14.toInt = 2 := zi_c e14 (by decide)
    refine lv_icmp_ne (tgt := 20) hx hb dX3_endBlock_13 (by decide) (fun c15 => ?_) (fun c15 => ?_)
    ·
      have z15 := zi_ne c15
      refine lv_iconst (v := 0) hx hb dX3_endBlock_20 (by decide) ?_
      refine lv_topi (fun v16 e16 => ?_)
      have z16 : v16.toInt = 0 := zi_c e16 (by decide)
      refine lv_istore_n (lv' := [(1, .int v16), (0, .ref aR)]) hx hb dX3_endBlock_21 rfl hl (by decide) rfl (fun ls hl => ?_)
      refine lv_aload_n hx hb dX3_endBlock_22 rfl (lv_at hl 1 rfl) ?_
      refine va_get (D := D) (ci := 2) (v := .int lk) (C := RX3) (T := TX3) (N := 11) hx hb hts in_X3 hown hK hP 0 rfl rfl 5 (by decide) (hts _ wk331) (fun _ h9 => h9) rfl dX3_endBlock_23 ?_
      refine lv_if_eq (tgt := 59) hx hb dX3_endBlock_26 (by decide) (fun c17 => ?_) (fun c17 => ?_)
      ·
        have z17 := zi_eq0 c17
        refine lv_aload_n hx hb dX3_endBlock_59 rfl (lv_at hl 1 rfl) ?_
        refine lv_iload_n hx hb dX3_endBlock_60 rfl (lv_at hl 0 rfl) ?_
        have hh18 : 0 ≤ lk.toInt ∧ lk.toInt ≤ 1 := (by omega)
        refine call_v (wc := [(aR, .inr (2, [.ref aB, .ref aQ, .int hd, .long pl, .int hv, .int lk, .int dn, .int ht, .int sl, .int br, .int wh]))]) (wr := [(aQ, .inr (0, [.ref aT, .ref aP, .int gc])), (aT, .inl (cI, 300, .inl ft)), (aP, .inl (cJ, 300, .inr (.inl fp)))]) (run_V (As := [.int v16]) (rest := []) kv_RX3_88 ⟨by decide, by decide⟩ ⟨rfl, rfl⟩ ⟨hx, hb, hml, hown, hts⟩ (c_Re_countHit l D cI cJ cB aR aB aQ hd pl hv lk dn ht sl br wh v16 hh18 _) ct_blind (ct_pre (wc := [(aR, .inr (2, [.ref aB, .ref aQ, .int hd, .long pl, .int hv, .int lk, .int dn, .int ht, .int sl, .int br, .int wh]))]) hK hP hD hS hA hZ hN [0] (by decide) rfl rfl) (va_recv hK hP (ci := 2) (q0 := 0) rfl rfl) rfl hl.1 rfl (Nat.le_of_ble_eq_true rfl) dX3_endBlock_61 ⟨Nat.le_of_ble_eq_true rfl, Nat.le_of_ble_eq_true rfl⟩) hP hD hS hA [0] [1, 2, 3] rfl rfl (by decide) (by decide) (fun u H locs hw19 hP1 hD1 hS1 => ?_)
        obtain ⟨lk2_19, dn2_19, ht2_19, sl2_19, br2_19, wh2_19⟩ := u
        have hw19 : 0 ≤ lk2_19.toInt ∧ lk2_19.toInt ≤ 1 := hw19
        clear hP hD hS
        have hP : va_P D classes [(aQ, .inr (0, [.ref aT, .ref aP, .int gc])), (aT, .inl (cI, 300, .inl ft)), (aP, .inl (cJ, 300, .inr (.inl fp))), (aR, .inr (2, [.ref aB, .ref aQ, .int hd, .long pl, .int hv, .int lk2_19, .int dn2_19, .int ht2_19, .int sl2_19, .int br2_19, .int wh2_19]))] H := hP1
        have hD : va_D A [(aQ, .inr (0, [.ref aT, .ref aP, .int gc])), (aT, .inl (cI, 300, .inl ft)), (aP, .inl (cJ, 300, .inr (.inl fp))), (aR, .inr (2, [.ref aB, .ref aQ, .int hd, .long pl, .int hv, .int lk2_19, .int dn2_19, .int ht2_19, .int sl2_19, .int br2_19, .int wh2_19]))] := hD1
        have hS := hS1
        clear hP1 hD1 hS1
        have rg_lk2_19 := zi_rg lk2_19
        have rg_dn2_19 := zi_rg dn2_19
        have rg_ht2_19 := zi_rg ht2_19
        have rg_sl2_19 := zi_rg sl2_19
        have rg_br2_19 := zi_rg br2_19
        have rg_wh2_19 := zi_rg wh2_19
        have hq20 : (gc.toInt ≤ gc.toInt ∧ gc.toInt ≤ gc.toInt + 1) ∧ 0 ≤ lk2_19.toInt ∧ lk2_19.toInt ≤ 1 := (by omega)
        exact hret (lk2_19, dn2_19, ht2_19, sl2_19, br2_19, wh2_19, gc, ft, fp) _ _ _ _ dX3_endBlock_64 hq20 (hP.sub [3, 0, 1, 2] rfl) (hD.sub [3, 0, 1, 2] (by decide) rfl) hS
      ·
        have z17 := zi_ne0 c17
        refine lv_aload_n hx hb dX3_endBlock_29 rfl (lv_at hl 1 rfl) ?_
        refine va_get (D := D) (ci := 2) (v := .ref aQ) (C := RX3) (T := TX3) (N := 11) hx hb hts in_X3 hown hK hP 0 rfl rfl 1 (by decide) (hts _ wk50) (fun _ h9 => h9) rfl dX3_endBlock_30 ?_
        refine lv_aload_n hx hb dX3_endBlock_33 rfl (lv_at hl 1 rfl) ?_
        refine va_get (D := D) (ci := 2) (v := .int hd) (C := RX3) (T := TX3) (N := 11) hx hb hts in_X3 hown hK hP 0 rfl rfl 2 (by decide) (hts _ wk321) (fun _ h9 => h9) rfl dX3_endBlock_34 ?_
        refine lv_aload_n hx hb dX3_endBlock_37 rfl (lv_at hl 1 rfl) ?_
        refine va_get (D := D) (ci := 2) (v := .long pl) (C := RX3) (T := TX3) (N := 11) hx hb hts in_X3 hown hK hP 0 rfl rfl 3 (by decide) (hts _ wk322) (fun _ h9 => h9) rfl dX3_endBlock_38 ?_
        refine call_i (wc := []) (wr := [(aR, .inr (2, [.ref aB, .ref aQ, .int hd, .long pl, .int hv, .int lk, .int dn, .int ht, .int sl, .int br, .int wh])), (aQ, .inr (0, [.ref aT, .ref aP, .int gc])), (aT, .inl (cI, 300, .inl ft)), (aP, .inl (cJ, 300, .inr (.inl fp)))]) (run_S (As := [.int hd, .long pl]) (rest := [.ref aQ]) ks_RX3_74 ⟨by decide, by decide⟩ ⟨rfl, rfl⟩ ⟨hx, hb, hml, hown, hts⟩ (c_Co_typeOfBlock l D cI cJ cB hd pl  _) ct_blind (ct_pre (wc := []) hK hP hD hS hA hZ hN [] (by decide) rfl rfl) rfl hl.1 rfl (Nat.le_of_ble_eq_true rfl) dX3_endBlock_41 ⟨Nat.le_of_ble_eq_true rfl, Nat.le_of_ble_eq_true rfl⟩) hP hD hS hA [] [0, 1, 2, 3] rfl rfl (by decide) (by decide) (fun r21 u H locs hw21 hP1 hD1 hS1 => ?_)
        clear hw21
        clear hP hD hS
        have hP : va_P D classes [(aR, .inr (2, [.ref aB, .ref aQ, .int hd, .long pl, .int hv, .int lk, .int dn, .int ht, .int sl, .int br, .int wh])), (aQ, .inr (0, [.ref aT, .ref aP, .int gc])), (aT, .inl (cI, 300, .inl ft)), (aP, .inl (cJ, 300, .inr (.inl fp)))] H := hP1
        have hD : va_D A [(aR, .inr (2, [.ref aB, .ref aQ, .int hd, .long pl, .int hv, .int lk, .int dn, .int ht, .int sl, .int br, .int wh])), (aQ, .inr (0, [.ref aT, .ref aP, .int gc])), (aT, .inl (cI, 300, .inl ft)), (aP, .inl (cJ, 300, .inr (.inl fp)))] := hD1
        have hS := hS1
        clear hP1 hD1 hS1
        have rg_r21 := zi_rg r21
        refine lv_aload_n hx hb dX3_endBlock_44 rfl (lv_at hl 1 rfl) ?_
        refine va_get (D := D) (ci := 2) (v := .long pl) (C := RX3) (T := TX3) (N := 11) hx hb hts in_X3 hown hK hP 0 rfl rfl 3 (by decide) (hts _ wk322) (fun _ h9 => h9) rfl dX3_endBlock_45 ?_
        have hh22 : 0 ≤ gc.toInt ∧ gc.toInt ≤ 1000000000 := (by omega)
        refine call_v (wc := [(aQ, .inr (0, [.ref aT, .ref aP, .int gc])), (aT, .inl (cI, 300, .inl ft)), (aP, .inl (cJ, 300, .inr (.inl fp)))]) (wr := [(aR, .inr (2, [.ref aB, .ref aQ, .int hd, .long pl, .int hv, .int lk, .int dn, .int ht, .int sl, .int br, .int wh]))]) (run_V (As := [.int r21, .long pl]) (rest := []) kv_RX3_80 ⟨by decide, by decide⟩ ⟨rfl, rfl⟩ ⟨hx, hb, hml, hown, hts⟩ (c_Gr_keep l D cI cJ cB aQ aT aP gc r21 pl ft fp hh22 _) ct_blind (ct_pre (wc := [(aQ, .inr (0, [.ref aT, .ref aP, .int gc])), (aT, .inl (cI, 300, .inl ft)), (aP, .inl (cJ, 300, .inr (.inl fp)))]) hK hP hD hS hA hZ hN [1, 2, 3] (by decide) rfl rfl) (va_recv hK hP (ci := 0) (q0 := 1) rfl rfl) rfl hl.1 rfl (Nat.le_of_ble_eq_true rfl) dX3_endBlock_48 ⟨Nat.le_of_ble_eq_true rfl, Nat.le_of_ble_eq_true rfl⟩) hP hD hS hA [1, 2, 3] [0] rfl rfl (by decide) (by decide) (fun u H locs hw23 hP1 hD1 hS1 => ?_)
        obtain ⟨gc2_23, ft2_23, fp2_23⟩ := u
        have hw23 : gc2_23.toInt = gc.toInt + 1 := hw23
        clear hP hD hS
        have hP : va_P D classes [(aR, .inr (2, [.ref aB, .ref aQ, .int hd, .long pl, .int hv, .int lk, .int dn, .int ht, .int sl, .int br, .int wh])), (aQ, .inr (0, [.ref aT, .ref aP, .int gc2_23])), (aT, .inl (cI, 300, .inl ft2_23)), (aP, .inl (cJ, 300, .inr (.inl fp2_23)))] H := hP1
        have hD : va_D A [(aR, .inr (2, [.ref aB, .ref aQ, .int hd, .long pl, .int hv, .int lk, .int dn, .int ht, .int sl, .int br, .int wh])), (aQ, .inr (0, [.ref aT, .ref aP, .int gc2_23])), (aT, .inl (cI, 300, .inl ft2_23)), (aP, .inl (cJ, 300, .inr (.inl fp2_23)))] := hD1
        have hS := hS1
        clear hP1 hD1 hS1
        have rg_gc2_23 := zi_rg gc2_23
        refine lv_aload_n hx hb dX3_endBlock_51 rfl (lv_at hl 1 rfl) ?_
        refine lv_iload_n hx hb dX3_endBlock_52 rfl (lv_at hl 0 rfl) ?_
        have hh24 : 0 ≤ lk.toInt ∧ lk.toInt ≤ 1 := (by omega)
        refine call_v (wc := [(aR, .inr (2, [.ref aB, .ref aQ, .int hd, .long pl, .int hv, .int lk, .int dn, .int ht, .int sl, .int br, .int wh]))]) (wr := [(aQ, .inr (0, [.ref aT, .ref aP, .int gc2_23])), (aT, .inl (cI, 300, .inl ft2_23)), (aP, .inl (cJ, 300, .inr (.inl fp2_23)))]) (run_V (As := [.int v16]) (rest := []) kv_RX3_84 ⟨by decide, by decide⟩ ⟨rfl, rfl⟩ ⟨hx, hb, hml, hown, hts⟩ (c_Re_countInRow l D cI cJ cB aR aB aQ hd pl hv lk dn ht sl br wh v16 hh24 _) ct_blind (ct_pre (wc := [(aR, .inr (2, [.ref aB, .ref aQ, .int hd, .long pl, .int hv, .int lk, .int dn, .int ht, .int sl, .int br, .int wh]))]) hK hP hD hS hA hZ hN [0] (by decide) rfl rfl) (va_recv hK hP (ci := 2) (q0 := 0) rfl rfl) rfl hl.1 rfl (Nat.le_of_ble_eq_true rfl) dX3_endBlock_53 ⟨Nat.le_of_ble_eq_true rfl, Nat.le_of_ble_eq_true rfl⟩) hP hD hS hA [0] [1, 2, 3] rfl rfl (by decide) (by decide) (fun u H locs hw25 hP1 hD1 hS1 => ?_)
        obtain ⟨lk2_25, dn2_25, ht2_25, sl2_25, br2_25, wh2_25⟩ := u
        have hw25 : 0 ≤ lk2_25.toInt ∧ lk2_25.toInt ≤ 1 := hw25
        clear hP hD hS
        have hP : va_P D classes [(aQ, .inr (0, [.ref aT, .ref aP, .int gc2_23])), (aT, .inl (cI, 300, .inl ft2_23)), (aP, .inl (cJ, 300, .inr (.inl fp2_23))), (aR, .inr (2, [.ref aB, .ref aQ, .int hd, .long pl, .int hv, .int lk2_25, .int dn2_25, .int ht2_25, .int sl2_25, .int br2_25, .int wh2_25]))] H := hP1
        have hD : va_D A [(aQ, .inr (0, [.ref aT, .ref aP, .int gc2_23])), (aT, .inl (cI, 300, .inl ft2_23)), (aP, .inl (cJ, 300, .inr (.inl fp2_23))), (aR, .inr (2, [.ref aB, .ref aQ, .int hd, .long pl, .int hv, .int lk2_25, .int dn2_25, .int ht2_25, .int sl2_25, .int br2_25, .int wh2_25]))] := hD1
        have hS := hS1
        clear hP1 hD1 hS1
        have rg_lk2_25 := zi_rg lk2_25
        have rg_dn2_25 := zi_rg dn2_25
        have rg_ht2_25 := zi_rg ht2_25
        have rg_sl2_25 := zi_rg sl2_25
        have rg_br2_25 := zi_rg br2_25
        have rg_wh2_25 := zi_rg wh2_25
        refine lv_goto (tgt := 64) hx hb dX3_endBlock_56 (by decide) ?_
        have hq26 : (gc.toInt ≤ gc2_23.toInt ∧ gc2_23.toInt ≤ gc.toInt + 1) ∧ 0 ≤ lk2_25.toInt ∧ lk2_25.toInt ≤ 1 := (by omega)
        exact hret (lk2_25, dn2_25, ht2_25, sl2_25, br2_25, wh2_25, gc2_23, ft2_23, fp2_23) _ _ _ _ dX3_endBlock_64 hq26 (hP.sub [3, 0, 1, 2] rfl) (hD.sub [3, 0, 1, 2] (by decide) rfl) hS
    ·
      have z15 := zi_eq c15
      refine lv_iconst (v := 1) hx hb dX3_endBlock_16 (by decide) ?_
      refine lv_topi (fun v27 e27 => ?_)
      have z27 : v27.toInt = 1 := zi_c e27 (by decide)
      refine lv_goto (tgt := 21) hx hb dX3_endBlock_17 (by decide) ?_
      refine lv_istore_n (lv' := [(1, .int v27), (0, .ref aR)]) hx hb dX3_endBlock_21 rfl hl (by decide) rfl (fun ls hl => ?_)
      refine lv_aload_n hx hb dX3_endBlock_22 rfl (lv_at hl 1 rfl) ?_
      refine va_get (D := D) (ci := 2) (v := .int lk) (C := RX3) (T := TX3) (N := 11) hx hb hts in_X3 hown hK hP 0 rfl rfl 5 (by decide) (hts _ wk331) (fun _ h9 => h9) rfl dX3_endBlock_23 ?_
      refine lv_if_eq (tgt := 59) hx hb dX3_endBlock_26 (by decide) (fun c28 => ?_) (fun c28 => ?_)
      ·
        have z28 := zi_eq0 c28
        refine lv_aload_n hx hb dX3_endBlock_59 rfl (lv_at hl 1 rfl) ?_
        refine lv_iload_n hx hb dX3_endBlock_60 rfl (lv_at hl 0 rfl) ?_
        have hh29 : 0 ≤ lk.toInt ∧ lk.toInt ≤ 1 := (by omega)
        refine call_v (wc := [(aR, .inr (2, [.ref aB, .ref aQ, .int hd, .long pl, .int hv, .int lk, .int dn, .int ht, .int sl, .int br, .int wh]))]) (wr := [(aQ, .inr (0, [.ref aT, .ref aP, .int gc])), (aT, .inl (cI, 300, .inl ft)), (aP, .inl (cJ, 300, .inr (.inl fp)))]) (run_V (As := [.int v27]) (rest := []) kv_RX3_88 ⟨by decide, by decide⟩ ⟨rfl, rfl⟩ ⟨hx, hb, hml, hown, hts⟩ (c_Re_countHit l D cI cJ cB aR aB aQ hd pl hv lk dn ht sl br wh v27 hh29 _) ct_blind (ct_pre (wc := [(aR, .inr (2, [.ref aB, .ref aQ, .int hd, .long pl, .int hv, .int lk, .int dn, .int ht, .int sl, .int br, .int wh]))]) hK hP hD hS hA hZ hN [0] (by decide) rfl rfl) (va_recv hK hP (ci := 2) (q0 := 0) rfl rfl) rfl hl.1 rfl (Nat.le_of_ble_eq_true rfl) dX3_endBlock_61 ⟨Nat.le_of_ble_eq_true rfl, Nat.le_of_ble_eq_true rfl⟩) hP hD hS hA [0] [1, 2, 3] rfl rfl (by decide) (by decide) (fun u H locs hw30 hP1 hD1 hS1 => ?_)
        obtain ⟨lk2_30, dn2_30, ht2_30, sl2_30, br2_30, wh2_30⟩ := u
        have hw30 : 0 ≤ lk2_30.toInt ∧ lk2_30.toInt ≤ 1 := hw30
        clear hP hD hS
        have hP : va_P D classes [(aQ, .inr (0, [.ref aT, .ref aP, .int gc])), (aT, .inl (cI, 300, .inl ft)), (aP, .inl (cJ, 300, .inr (.inl fp))), (aR, .inr (2, [.ref aB, .ref aQ, .int hd, .long pl, .int hv, .int lk2_30, .int dn2_30, .int ht2_30, .int sl2_30, .int br2_30, .int wh2_30]))] H := hP1
        have hD : va_D A [(aQ, .inr (0, [.ref aT, .ref aP, .int gc])), (aT, .inl (cI, 300, .inl ft)), (aP, .inl (cJ, 300, .inr (.inl fp))), (aR, .inr (2, [.ref aB, .ref aQ, .int hd, .long pl, .int hv, .int lk2_30, .int dn2_30, .int ht2_30, .int sl2_30, .int br2_30, .int wh2_30]))] := hD1
        have hS := hS1
        clear hP1 hD1 hS1
        have rg_lk2_30 := zi_rg lk2_30
        have rg_dn2_30 := zi_rg dn2_30
        have rg_ht2_30 := zi_rg ht2_30
        have rg_sl2_30 := zi_rg sl2_30
        have rg_br2_30 := zi_rg br2_30
        have rg_wh2_30 := zi_rg wh2_30
        have hq31 : (gc.toInt ≤ gc.toInt ∧ gc.toInt ≤ gc.toInt + 1) ∧ 0 ≤ lk2_30.toInt ∧ lk2_30.toInt ≤ 1 := (by omega)
        exact hret (lk2_30, dn2_30, ht2_30, sl2_30, br2_30, wh2_30, gc, ft, fp) _ _ _ _ dX3_endBlock_64 hq31 (hP.sub [3, 0, 1, 2] rfl) (hD.sub [3, 0, 1, 2] (by decide) rfl) hS
      ·
        have z28 := zi_ne0 c28
        refine lv_aload_n hx hb dX3_endBlock_29 rfl (lv_at hl 1 rfl) ?_
        refine va_get (D := D) (ci := 2) (v := .ref aQ) (C := RX3) (T := TX3) (N := 11) hx hb hts in_X3 hown hK hP 0 rfl rfl 1 (by decide) (hts _ wk50) (fun _ h9 => h9) rfl dX3_endBlock_30 ?_
        refine lv_aload_n hx hb dX3_endBlock_33 rfl (lv_at hl 1 rfl) ?_
        refine va_get (D := D) (ci := 2) (v := .int hd) (C := RX3) (T := TX3) (N := 11) hx hb hts in_X3 hown hK hP 0 rfl rfl 2 (by decide) (hts _ wk321) (fun _ h9 => h9) rfl dX3_endBlock_34 ?_
        refine lv_aload_n hx hb dX3_endBlock_37 rfl (lv_at hl 1 rfl) ?_
        refine va_get (D := D) (ci := 2) (v := .long pl) (C := RX3) (T := TX3) (N := 11) hx hb hts in_X3 hown hK hP 0 rfl rfl 3 (by decide) (hts _ wk322) (fun _ h9 => h9) rfl dX3_endBlock_38 ?_
        refine call_i (wc := []) (wr := [(aR, .inr (2, [.ref aB, .ref aQ, .int hd, .long pl, .int hv, .int lk, .int dn, .int ht, .int sl, .int br, .int wh])), (aQ, .inr (0, [.ref aT, .ref aP, .int gc])), (aT, .inl (cI, 300, .inl ft)), (aP, .inl (cJ, 300, .inr (.inl fp)))]) (run_S (As := [.int hd, .long pl]) (rest := [.ref aQ]) ks_RX3_74 ⟨by decide, by decide⟩ ⟨rfl, rfl⟩ ⟨hx, hb, hml, hown, hts⟩ (c_Co_typeOfBlock l D cI cJ cB hd pl  _) ct_blind (ct_pre (wc := []) hK hP hD hS hA hZ hN [] (by decide) rfl rfl) rfl hl.1 rfl (Nat.le_of_ble_eq_true rfl) dX3_endBlock_41 ⟨Nat.le_of_ble_eq_true rfl, Nat.le_of_ble_eq_true rfl⟩) hP hD hS hA [] [0, 1, 2, 3] rfl rfl (by decide) (by decide) (fun r32 u H locs hw32 hP1 hD1 hS1 => ?_)
        clear hw32
        clear hP hD hS
        have hP : va_P D classes [(aR, .inr (2, [.ref aB, .ref aQ, .int hd, .long pl, .int hv, .int lk, .int dn, .int ht, .int sl, .int br, .int wh])), (aQ, .inr (0, [.ref aT, .ref aP, .int gc])), (aT, .inl (cI, 300, .inl ft)), (aP, .inl (cJ, 300, .inr (.inl fp)))] H := hP1
        have hD : va_D A [(aR, .inr (2, [.ref aB, .ref aQ, .int hd, .long pl, .int hv, .int lk, .int dn, .int ht, .int sl, .int br, .int wh])), (aQ, .inr (0, [.ref aT, .ref aP, .int gc])), (aT, .inl (cI, 300, .inl ft)), (aP, .inl (cJ, 300, .inr (.inl fp)))] := hD1
        have hS := hS1
        clear hP1 hD1 hS1
        have rg_r32 := zi_rg r32
        refine lv_aload_n hx hb dX3_endBlock_44 rfl (lv_at hl 1 rfl) ?_
        refine va_get (D := D) (ci := 2) (v := .long pl) (C := RX3) (T := TX3) (N := 11) hx hb hts in_X3 hown hK hP 0 rfl rfl 3 (by decide) (hts _ wk322) (fun _ h9 => h9) rfl dX3_endBlock_45 ?_
        have hh33 : 0 ≤ gc.toInt ∧ gc.toInt ≤ 1000000000 := (by omega)
        refine call_v (wc := [(aQ, .inr (0, [.ref aT, .ref aP, .int gc])), (aT, .inl (cI, 300, .inl ft)), (aP, .inl (cJ, 300, .inr (.inl fp)))]) (wr := [(aR, .inr (2, [.ref aB, .ref aQ, .int hd, .long pl, .int hv, .int lk, .int dn, .int ht, .int sl, .int br, .int wh]))]) (run_V (As := [.int r32, .long pl]) (rest := []) kv_RX3_80 ⟨by decide, by decide⟩ ⟨rfl, rfl⟩ ⟨hx, hb, hml, hown, hts⟩ (c_Gr_keep l D cI cJ cB aQ aT aP gc r32 pl ft fp hh33 _) ct_blind (ct_pre (wc := [(aQ, .inr (0, [.ref aT, .ref aP, .int gc])), (aT, .inl (cI, 300, .inl ft)), (aP, .inl (cJ, 300, .inr (.inl fp)))]) hK hP hD hS hA hZ hN [1, 2, 3] (by decide) rfl rfl) (va_recv hK hP (ci := 0) (q0 := 1) rfl rfl) rfl hl.1 rfl (Nat.le_of_ble_eq_true rfl) dX3_endBlock_48 ⟨Nat.le_of_ble_eq_true rfl, Nat.le_of_ble_eq_true rfl⟩) hP hD hS hA [1, 2, 3] [0] rfl rfl (by decide) (by decide) (fun u H locs hw34 hP1 hD1 hS1 => ?_)
        obtain ⟨gc2_34, ft2_34, fp2_34⟩ := u
        have hw34 : gc2_34.toInt = gc.toInt + 1 := hw34
        clear hP hD hS
        have hP : va_P D classes [(aR, .inr (2, [.ref aB, .ref aQ, .int hd, .long pl, .int hv, .int lk, .int dn, .int ht, .int sl, .int br, .int wh])), (aQ, .inr (0, [.ref aT, .ref aP, .int gc2_34])), (aT, .inl (cI, 300, .inl ft2_34)), (aP, .inl (cJ, 300, .inr (.inl fp2_34)))] H := hP1
        have hD : va_D A [(aR, .inr (2, [.ref aB, .ref aQ, .int hd, .long pl, .int hv, .int lk, .int dn, .int ht, .int sl, .int br, .int wh])), (aQ, .inr (0, [.ref aT, .ref aP, .int gc2_34])), (aT, .inl (cI, 300, .inl ft2_34)), (aP, .inl (cJ, 300, .inr (.inl fp2_34)))] := hD1
        have hS := hS1
        clear hP1 hD1 hS1
        have rg_gc2_34 := zi_rg gc2_34
        refine lv_aload_n hx hb dX3_endBlock_51 rfl (lv_at hl 1 rfl) ?_
        refine lv_iload_n hx hb dX3_endBlock_52 rfl (lv_at hl 0 rfl) ?_
        have hh35 : 0 ≤ lk.toInt ∧ lk.toInt ≤ 1 := (by omega)
        refine call_v (wc := [(aR, .inr (2, [.ref aB, .ref aQ, .int hd, .long pl, .int hv, .int lk, .int dn, .int ht, .int sl, .int br, .int wh]))]) (wr := [(aQ, .inr (0, [.ref aT, .ref aP, .int gc2_34])), (aT, .inl (cI, 300, .inl ft2_34)), (aP, .inl (cJ, 300, .inr (.inl fp2_34)))]) (run_V (As := [.int v27]) (rest := []) kv_RX3_84 ⟨by decide, by decide⟩ ⟨rfl, rfl⟩ ⟨hx, hb, hml, hown, hts⟩ (c_Re_countInRow l D cI cJ cB aR aB aQ hd pl hv lk dn ht sl br wh v27 hh35 _) ct_blind (ct_pre (wc := [(aR, .inr (2, [.ref aB, .ref aQ, .int hd, .long pl, .int hv, .int lk, .int dn, .int ht, .int sl, .int br, .int wh]))]) hK hP hD hS hA hZ hN [0] (by decide) rfl rfl) (va_recv hK hP (ci := 2) (q0 := 0) rfl rfl) rfl hl.1 rfl (Nat.le_of_ble_eq_true rfl) dX3_endBlock_53 ⟨Nat.le_of_ble_eq_true rfl, Nat.le_of_ble_eq_true rfl⟩) hP hD hS hA [0] [1, 2, 3] rfl rfl (by decide) (by decide) (fun u H locs hw36 hP1 hD1 hS1 => ?_)
        obtain ⟨lk2_36, dn2_36, ht2_36, sl2_36, br2_36, wh2_36⟩ := u
        have hw36 : 0 ≤ lk2_36.toInt ∧ lk2_36.toInt ≤ 1 := hw36
        clear hP hD hS
        have hP : va_P D classes [(aQ, .inr (0, [.ref aT, .ref aP, .int gc2_34])), (aT, .inl (cI, 300, .inl ft2_34)), (aP, .inl (cJ, 300, .inr (.inl fp2_34))), (aR, .inr (2, [.ref aB, .ref aQ, .int hd, .long pl, .int hv, .int lk2_36, .int dn2_36, .int ht2_36, .int sl2_36, .int br2_36, .int wh2_36]))] H := hP1
        have hD : va_D A [(aQ, .inr (0, [.ref aT, .ref aP, .int gc2_34])), (aT, .inl (cI, 300, .inl ft2_34)), (aP, .inl (cJ, 300, .inr (.inl fp2_34))), (aR, .inr (2, [.ref aB, .ref aQ, .int hd, .long pl, .int hv, .int lk2_36, .int dn2_36, .int ht2_36, .int sl2_36, .int br2_36, .int wh2_36]))] := hD1
        have hS := hS1
        clear hP1 hD1 hS1
        have rg_lk2_36 := zi_rg lk2_36
        have rg_dn2_36 := zi_rg dn2_36
        have rg_ht2_36 := zi_rg ht2_36
        have rg_sl2_36 := zi_rg sl2_36
        have rg_br2_36 := zi_rg br2_36
        have rg_wh2_36 := zi_rg wh2_36
        refine lv_goto (tgt := 64) hx hb dX3_endBlock_56 (by decide) ?_
        have hq37 : (gc.toInt ≤ gc2_34.toInt ∧ gc2_34.toInt ≤ gc.toInt + 1) ∧ 0 ≤ lk2_36.toInt ∧ lk2_36.toInt ≤ 1 := (by omega)
        exact hret (lk2_36, dn2_36, ht2_36, sl2_36, br2_36, wh2_36, gc2_34, ft2_34, fp2_34) _ _ _ _ dX3_endBlock_64 hq37 (hP.sub [3, 0, 1, 2] rfl) (hD.sub [3, 0, 1, 2] (by decide) rfl) hS

set_option maxHeartbeats 4000000 in
set_option maxRecDepth 100000 in
theorem c_Re_take (l : Launch) (D : va_G) (cI cJ cB : ClassId) (aR : Nat) (aB : Nat) (aQ : Nat) (aT : Nat) (aP : Nat) (hd : Int32) (pl : Int64) (hv : Int32) (lk : Int32) (dn : Int32) (ht : Int32) (sl : Int32) (br : Int32) (wh : Int32) (la : Int64) (gc : Int32) (ft : Nat → Int32) (fp : Nat → Int64) (b : Int32) (h1 : 0 ≤ gc.toInt ∧ gc.toInt ≤ 1000000000) (h2 : 0 ≤ lk.toInt ∧ lk.toInt ≤ 1) (h3 : 0 ≤ b.toInt ∧ b.toInt ≤ 1) :
    ctv l yX3_take (wsOf yX3_take cX3_take 2 none) (rmL 4 87 0 0) D classes (tys3 cI cJ cB) [.ref aR, .int b] [(aR, .inr (2, [.ref aB, .ref aQ, .int hd, .long pl, .int hv, .int lk, .int dn, .int ht, .int sl, .int br, .int wh])), (aB, .inr (3, [.long la])), (aQ, .inr (0, [.ref aT, .ref aP, .int gc])), (aT, .inl (cI, 300, .inl ft)), (aP, .inl (cJ, 300, .inr (.inl fp)))] (fun u : Int32 × Int64 × Int32 × Int32 × Int32 × Int32 × Int32 × Int32 × Int32 × Int64 × Int32 × (Nat → Int32) × (Nat → Int64) => (gc.toInt ≤ u.2.2.2.2.2.2.2.2.2.2.1.toInt ∧ u.2.2.2.2.2.2.2.2.2.2.1.toInt ≤ gc.toInt + 1) ∧ 0 ≤ u.2.2.2.1.toInt ∧ u.2.2.2.1.toInt ≤ 1) (fun u : Int32 × Int64 × Int32 × Int32 × Int32 × Int32 × Int32 × Int32 × Int32 × Int64 × Int32 × (Nat → Int32) × (Nat → Int64) => ([(aR, .inr (2, [.ref aB, .ref aQ, .int u.1, .long u.2.1, .int u.2.2.1, .int u.2.2.2.1, .int u.2.2.2.2.1, .int u.2.2.2.2.2.1, .int u.2.2.2.2.2.2.1, .int u.2.2.2.2.2.2.2.1, .int u.2.2.2.2.2.2.2.2.1])), (aB, .inr (3, [.long u.2.2.2.2.2.2.2.2.2.1])), (aQ, .inr (0, [.ref aT, .ref aP, .int u.2.2.2.2.2.2.2.2.2.2.1])), (aT, .inl (cI, 300, .inl u.2.2.2.2.2.2.2.2.2.2.2.1)), (aP, .inl (cJ, 300, .inr (.inl u.2.2.2.2.2.2.2.2.2.2.2.2)))] : va_W)) 0 0 := by
  refine ctv.of (by first | exact plainFor_of_name (by decide) | decide +kernel) (Nat.le_of_ble_eq_true rfl) (fun p e s m args below meth c A ls Q h hret => ?_)
  obtain ⟨hx, hb, hml, hown, hts, hnm, hP, hK, hD, hA, hS, hZ, hN, hl⟩ := h
  have hown : s.vm.findClass RX3 = some m.cls := hown
  have hl : lv_has ls 2 [(0, .ref aR), (1, .int b)] := hl
  have hP : va_P D classes [(aR, .inr (2, [.ref aB, .ref aQ, .int hd, .long pl, .int hv, .int lk, .int dn, .int ht, .int sl, .int br, .int wh])), (aB, .inr (3, [.long la])), (aQ, .inr (0, [.ref aT, .ref aP, .int gc])), (aT, .inl (cI, 300, .inl ft)), (aP, .inl (cJ, 300, .inr (.inl fp)))] s.heap := hP
  have hD : va_D A [(aR, .inr (2, [.ref aB, .ref aQ, .int hd, .long pl, .int hv, .int lk, .int dn, .int ht, .int sl, .int br, .int wh])), (aB, .inr (3, [.long la])), (aQ, .inr (0, [.ref aT, .ref aP, .int gc])), (aT, .inl (cI, 300, .inl ft)), (aP, .inl (cJ, 300, .inr (.inl fp)))] := hD
  have rg_hd := zi_rg hd
  have rg_hv := zi_rg hv
  have rg_lk := zi_rg lk
  have rg_dn := zi_rg dn
  have rg_ht := zi_rg ht
  have rg_sl := zi_rg sl
  have rg_br := zi_rg br
  have rg_wh := zi_rg wh
  have rg_gc := zi_rg gc
  have rg_b := zi_rg b
  refine lv_aload_n hx hb dX3_take_0 rfl (lv_at hl 0 rfl) ?_
  refine va_get (D := D) (ci := 2) (v := .int dn) (C := RX3) (T := TX3) (N := 11) hx hb hts in_X3 hown hK hP 0 rfl rfl 6 (by decide) (hts _ wk319) (fun _ h9 => h9) rfl dX3_take_1 ?_
  refine lv_if_eq (tgt := 13) hx hb dX3_take_4 (by decide) (fun c1 => ?_) (fun c1 => ?_)
  ·
    have z1 := zi_eq0 c1
    refine lv_aload_n hx hb dX3_take_13 rfl (lv_at hl 0 rfl) ?_
    refine va_get (D := D) (ci := 2) (v := .int hv) (C := RX3) (T := TX3) (N := 11) hx hb hts in_X3 hown hK hP 0 rfl rfl 4 (by decide) (hts _ wk320) (fun _ h9 => h9) rfl dX3_take_14 ?_
    refine lv_iconst (v := 2) hx hb dX3_take_17 (by decide) ?_
    refine lv_topi (fun v2 e2 => ?_)
    have z2 : v2.toInt = 2 := zi_c e2 (by decide)
    refine lv_icmp_ge (tgt := 36) hx hb dX3_take_18 (by decide) (fun c3 => ?_) (fun c3 => ?_)
    ·
      have z3 := zi_le c3
      refine lv_aload_n hx hb dX3_take_36 rfl (lv_at hl 0 rfl) ?_
      refine lv_dup hx hb dX3_take_37 rfl ?_
      refine va_get (D := D) (ci := 2) (v := .long pl) (C := RX3) (T := TX3) (N := 11) hx hb hts in_X3 hown hK hP 0 rfl rfl 3 (by decide) (hts _ wk322) (fun _ h9 => h9) rfl dX3_take_38 ?_
      refine lv_aload_n hx hb dX3_take_41 rfl (lv_at hl 0 rfl) ?_
      refine va_get (D := D) (ci := 2) (v := .ref aB) (C := RX3) (T := TX3) (N := 11) hx hb hts in_X3 hown hK hP 0 rfl rfl 0 (by decide) (hts _ wk46) (fun _ h9 => h9) rfl dX3_take_42 ?_
      refine lv_iload_n hx hb dX3_take_45 rfl (lv_at hl 1 rfl) ?_
      have hh4 : 0 ≤ b.toInt ∧ b.toInt ≤ 1 := (by omega)
      refine call_i (wc := [(aB, .inr (3, [.long la]))]) (wr := [(aR, .inr (2, [.ref aB, .ref aQ, .int hd, .long pl, .int hv, .int lk, .int dn, .int ht, .int sl, .int br, .int wh])), (aQ, .inr (0, [.ref aT, .ref aP, .int gc])), (aT, .inl (cI, 300, .inl ft)), (aP, .inl (cJ, 300, .inr (.inl fp)))]) (run_V (As := [.int b]) (rest := [.long pl, .ref aR]) kv_RX3_64 ⟨by decide, by decide⟩ ⟨rfl, rfl⟩ ⟨hx, hb, hml, hown, hts⟩ (c_Sc_unscramble l D cI cJ cB aB la b hh4 _) ct_blind (ct_pre (wc := [(aB, .inr (3, [.long la]))]) hK hP hD hS hA hZ hN [1] (by decide) rfl rfl) (va_recv hK hP (ci := 3) (q0 := 1) rfl rfl) rfl hl.1 rfl (Nat.le_of_ble_eq_true rfl) dX3_take_46 ⟨Nat.le_of_ble_eq_true rfl, Nat.le_of_ble_eq_true rfl⟩) hP hD hS hA [1] [0, 2, 3, 4] rfl rfl (by decide) (by decide) (fun r5 u H locs hw5 hP1 hD1 hS1 => ?_)
      obtain ⟨la2_5, hu9⟩ : ∃ z, z = u := ⟨_, rfl⟩
      subst hu9
      clear hw5
      clear hP hD hS
      have hP : va_P D classes [(aR, .inr (2, [.ref aB, .ref aQ, .int hd, .long pl, .int hv, .int lk, .int dn, .int ht, .int sl, .int br, .int wh])), (aQ, .inr (0, [.ref aT, .ref aP, .int gc])), (aT, .inl (cI, 300, .inl ft)), (aP, .inl (cJ, 300, .inr (.inl fp))), (aB, .inr (3, [.long la2_5]))] H := hP1
      have hD : va_D A [(aR, .inr (2, [.ref aB, .ref aQ, .int hd, .long pl, .int hv, .int lk, .int dn, .int ht, .int sl, .int br, .int wh])), (aQ, .inr (0, [.ref aT, .ref aP, .int gc])), (aT, .inl (cI, 300, .inl ft)), (aP, .inl (cJ, 300, .inr (.inl fp))), (aB, .inr (3, [.long la2_5]))] := hD1
      have hS := hS1
      clear hP1 hD1 hS1
      have rg_r5 := zi_rg r5
      refine lv_i2l hx hb dX3_take_49 rfl ?_
      refine lv_topl (fun v6 e6 => ?_)
      refine lv_aload_n hx hb dX3_take_50 rfl (lv_at hl 0 rfl) ?_
      refine va_get (D := D) (ci := 2) (v := .int hv) (C := RX3) (T := TX3) (N := 11) hx hb hts in_X3 hown hK hP 0 rfl rfl 4 (by decide) (hts _ wk320) (fun _ h9 => h9) rfl dX3_take_51 ?_
      refine lv_iconst (v := 2) hx hb dX3_take_54 (by decide) ?_
      refine lv_topi (fun v7 e7 => ?_)
      have z7 : v7.toInt = 2 := zi_c e7 (by decide)
      refine lv_isub hx hb dX3_take_55 ?_
      refine lv_topi (fun v8 e8 => ?_)
      first | have z8 := zi_sub e8 (by omega) | skip
      refine lv_lshl hx hb dX3_take_56 rfl ?_
      refine lv_topl (fun v9 e9 => ?_)
      refine lv_lor hx hb dX3_take_57 ?_
      refine lv_topl (fun v10 e10 => ?_)
      refine va_put (D := D) (ci := 2) (v := .long v10) (ty := .long) (C := RX3) (T := TX3) (N := 11) hx hb hts in_X3 tyX3 tyX3_ok nmX3 hown hK hP hD hS 0 rfl rfl 3 (by decide) (hts _ wk322) (fun _ h9 => h9) rfl (by decide +kernel) rfl rfl (Nat.le_of_ble_eq_true rfl) dX3_take_58 (fun H locs hP1 hD1 hS1 => ?_)
      clear hP hD hS
      have hP : va_P D classes [(aR, .inr (2, [.ref aB, .ref aQ, .int hd, .long v10, .int hv, .int lk, .int dn, .int ht, .int sl, .int br, .int wh])), (aQ, .inr (0, [.ref aT, .ref aP, .int gc])), (aT, .inl (cI, 300, .inl ft)), (aP, .inl (cJ, 300, .inr (.inl fp))), (aB, .inr (3, [.long la2_5]))] H := hP1
      have hD : va_D A [(aR, .inr (2, [.ref aB, .ref aQ, .int hd, .long v10, .int hv, .int lk, .int dn, .int ht, .int sl, .int br, .int wh])), (aQ, .inr (0, [.ref aT, .ref aP, .int gc])), (aT, .inl (cI, 300, .inl ft)), (aP, .inl (cJ, 300, .inr (.inl fp))), (aB, .inr (3, [.long la2_5]))] := hD1
      have hS := hS1
      clear hP1 hD1 hS1
      refine lv_aload_n hx hb dX3_take_61 rfl (lv_at hl 0 rfl) ?_
      refine lv_dup hx hb dX3_take_62 rfl ?_
      refine va_get (D := D) (ci := 2) (v := .int hv) (C := RX3) (T := TX3) (N := 11) hx hb hts in_X3 hown hK hP 0 rfl rfl 4 (by decide) (hts _ wk320) (fun _ h9 => h9) rfl dX3_take_63 ?_
      refine lv_iconst (v := 1) hx hb dX3_take_66 (by decide) ?_
      refine lv_topi (fun v11 e11 => ?_)
      have z11 : v11.toInt = 1 := zi_c e11 (by decide)
      refine lv_iadd hx hb dX3_take_67 ?_
      refine lv_topi (fun v12 e12 => ?_)
      first | have z12 := zi_add e12 (by omega) | skip
      refine va_put (D := D) (ci := 2) (v := .int v12) (ty := .int) (C := RX3) (T := TX3) (N := 11) hx hb hts in_X3 tyX3 tyX3_ok nmX3 hown hK hP hD hS 0 rfl rfl 4 (by decide) (hts _ wk320) (fun _ h9 => h9) rfl (by decide +kernel) rfl rfl (Nat.le_of_ble_eq_true rfl) dX3_take_68 (fun H locs hP1 hD1 hS1 => ?_)
      clear hP hD hS
      have hP : va_P D classes [(aR, .inr (2, [.ref aB, .ref aQ, .int hd, .long v10, .int v12, .int lk, .int dn, .int ht, .int sl, .int br, .int wh])), (aQ, .inr (0, [.ref aT, .ref aP, .int gc])), (aT, .inl (cI, 300, .inl ft)), (aP, .inl (cJ, 300, .inr (.inl fp))), (aB, .inr (3, [.long la2_5]))] H := hP1
      have hD : va_D A [(aR, .inr (2, [.ref aB, .ref aQ, .int hd, .long v10, .int v12, .int lk, .int dn, .int ht, .int sl, .int br, .int wh])), (aQ, .inr (0, [.ref aT, .ref aP, .int gc])), (aT, .inl (cI, 300, .inl ft)), (aP, .inl (cJ, 300, .inr (.inl fp))), (aB, .inr (3, [.long la2_5]))] := hD1
      have hS := hS1
      clear hP1 hD1 hS1
      refine lv_aload_n hx hb dX3_take_71 rfl (lv_at hl 0 rfl) ?_
      refine va_get (D := D) (ci := 2) (v := .int v12) (C := RX3) (T := TX3) (N := 11) hx hb hts in_X3 hown hK hP 0 rfl rfl 4 (by decide) (hts _ wk320) (fun _ h9 => h9) rfl dX3_take_72 ?_
      refine lv_bipush (v := 66) hx hb dX3_take_75 (by decide) ?_
      refine lv_topi (fun v13 e13 => ?_)
      have z13 : v13.toInt = 66 := zi_c e13 (by decide)
      refine lv_icmp_ne (tgt := 88) hx hb dX3_take_77 (by decide) (fun c14 => ?_) (fun c14 => ?_)
      ·
        have z14 := zi_ne c14
        have hq15 : (gc.toInt ≤ gc.toInt ∧ gc.toInt ≤ gc.toInt + 1) ∧ 0 ≤ lk.toInt ∧ lk.toInt ≤ 1 := (by omega)
        exact hret (hd, v10, v12, lk, dn, ht, sl, br, wh, la2_5, gc, ft, fp) _ _ _ _ dX3_take_88 hq15 (hP.sub [0, 4, 1, 2, 3] rfl) (hD.sub [0, 4, 1, 2, 3] (by decide) rfl) hS
      ·
        have z14 := zi_eq c14
        refine lv_aload_n hx hb dX3_take_80 rfl (lv_at hl 0 rfl) ?_
        have hh16 : 0 ≤ gc.toInt ∧ gc.toInt ≤ 1000000000 := (by omega)
        have hh17 : 0 ≤ lk.toInt ∧ lk.toInt ≤ 1 := (by omega)
        refine call_v (wc := [(aR, .inr (2, [.ref aB, .ref aQ, .int hd, .long v10, .int v12, .int lk, .int dn, .int ht, .int sl, .int br, .int wh])), (aQ, .inr (0, [.ref aT, .ref aP, .int gc])), (aT, .inl (cI, 300, .inl ft)), (aP, .inl (cJ, 300, .inr (.inl fp)))]) (wr := [(aB, .inr (3, [.long la2_5]))]) (run_V (As := []) (rest := []) kv_RX3_68 ⟨by decide, by decide⟩ ⟨rfl, rfl⟩ ⟨hx, hb, hml, hown, hts⟩ (c_Re_endBlock l D cI cJ cB aR aB aQ aT aP hd v10 v12 lk dn ht sl br wh gc ft fp hh16 hh17 _) ct_blind (ct_pre (wc := [(aR, .inr (2, [.ref aB, .ref aQ, .int hd, .long v10, .int v12, .int lk, .int dn, .int ht, .int sl, .int br, .int wh])), (aQ, .inr (0, [.ref aT, .ref aP, .int gc])), (aT, .inl (cI, 300, .inl ft)), (aP, .inl (cJ, 300, .inr (.inl fp)))]) hK hP hD hS hA hZ hN [0, 1, 2, 3] (by decide) rfl rfl) (va_recv hK hP (ci := 2) (q0 := 0) rfl rfl) rfl hl.1 rfl (Nat.le_of_ble_eq_true rfl) dX3_take_81 ⟨Nat.le_of_ble_eq_true rfl, Nat.le_of_ble_eq_true rfl⟩) hP hD hS hA [0, 1, 2, 3] [4] rfl rfl (by decide) (by decide) (fun u H locs hw18 hP1 hD1 hS1 => ?_)
        obtain ⟨lk2_18, dn2_18, ht2_18, sl2_18, br2_18, wh2_18, gc2_18, ft2_18, fp2_18⟩ := u
        have hw18 : (gc.toInt ≤ gc2_18.toInt ∧ gc2_18.toInt ≤ gc.toInt + 1) ∧ 0 ≤ lk2_18.toInt ∧ lk2_18.toInt ≤ 1 := hw18
        clear hP hD hS
        have hP : va_P D classes [(aB, .inr (3, [.long la2_5])), (aR, .inr (2, [.ref aB, .ref aQ, .int hd, .long v10, .int v12, .int lk2_18, .int dn2_18, .int ht2_18, .int sl2_18, .int br2_18, .int wh2_18])), (aQ, .inr (0, [.ref aT, .ref aP, .int gc2_18])), (aT, .inl (cI, 300, .inl ft2_18)), (aP, .inl (cJ, 300, .inr (.inl fp2_18)))] H := hP1
        have hD : va_D A [(aB, .inr (3, [.long la2_5])), (aR, .inr (2, [.ref aB, .ref aQ, .int hd, .long v10, .int v12, .int lk2_18, .int dn2_18, .int ht2_18, .int sl2_18, .int br2_18, .int wh2_18])), (aQ, .inr (0, [.ref aT, .ref aP, .int gc2_18])), (aT, .inl (cI, 300, .inl ft2_18)), (aP, .inl (cJ, 300, .inr (.inl fp2_18)))] := hD1
        have hS := hS1
        clear hP1 hD1 hS1
        have rg_lk2_18 := zi_rg lk2_18
        have rg_dn2_18 := zi_rg dn2_18
        have rg_ht2_18 := zi_rg ht2_18
        have rg_sl2_18 := zi_rg sl2_18
        have rg_br2_18 := zi_rg br2_18
        have rg_wh2_18 := zi_rg wh2_18
        have rg_gc2_18 := zi_rg gc2_18
        refine lv_aload_n hx hb dX3_take_84 rfl (lv_at hl 0 rfl) ?_
        refine call_v (wc := [(aR, .inr (2, [.ref aB, .ref aQ, .int hd, .long v10, .int v12, .int lk2_18, .int dn2_18, .int ht2_18, .int sl2_18, .int br2_18, .int wh2_18]))]) (wr := [(aB, .inr (3, [.long la2_5])), (aQ, .inr (0, [.ref aT, .ref aP, .int gc2_18])), (aT, .inl (cI, 300, .inl ft2_18)), (aP, .inl (cJ, 300, .inr (.inl fp2_18)))]) (run_V (As := []) (rest := []) kv_RX3_71 ⟨by decide, by decide⟩ ⟨rfl, rfl⟩ ⟨hx, hb, hml, hown, hts⟩ (c_Re_beginBlock l D cI cJ cB aR aB aQ hd v10 v12 lk2_18 dn2_18 ht2_18 sl2_18 br2_18 wh2_18  _) ct_blind (ct_pre (wc := [(aR, .inr (2, [.ref aB, .ref aQ, .int hd, .long v10, .int v12, .int lk2_18, .int dn2_18, .int ht2_18, .int sl2_18, .int br2_18, .int wh2_18]))]) hK hP hD hS hA hZ hN [1] (by decide) rfl rfl) (va_recv hK hP (ci := 2) (q0 := 1) rfl rfl) rfl hl.1 rfl (Nat.le_of_ble_eq_true rfl) dX3_take_85 ⟨Nat.le_of_ble_eq_true rfl, Nat.le_of_ble_eq_true rfl⟩) hP hD hS hA [1] [0, 2, 3, 4] rfl rfl (by decide) (by decide) (fun u H locs hw19 hP1 hD1 hS1 => ?_)
        obtain ⟨hd2_19, pl2_19, hv2_19⟩ := u
        clear hw19
        clear hP hD hS
        have hP : va_P D classes [(aB, .inr (3, [.long la2_5])), (aQ, .inr (0, [.ref aT, .ref aP, .int gc2_18])), (aT, .inl (cI, 300, .inl ft2_18)), (aP, .inl (cJ, 300, .inr (.inl fp2_18))), (aR, .inr (2, [.ref aB, .ref aQ, .int hd2_19, .long pl2_19, .int hv2_19, .int lk2_18, .int dn2_18, .int ht2_18, .int sl2_18, .int br2_18, .int wh2_18]))] H := hP1
        have hD : va_D A [(aB, .inr (3, [.long la2_5])), (aQ, .inr (0, [.ref aT, .ref aP, .int gc2_18])), (aT, .inl (cI, 300, .inl ft2_18)), (aP, .inl (cJ, 300, .inr (.inl fp2_18))), (aR, .inr (2, [.ref aB, .ref aQ, .int hd2_19, .long pl2_19, .int hv2_19, .int lk2_18, .int dn2_18, .int ht2_18, .int sl2_18, .int br2_18, .int wh2_18]))] := hD1
        have hS := hS1
        clear hP1 hD1 hS1
        have rg_hd2_19 := zi_rg hd2_19
        have rg_hv2_19 := zi_rg hv2_19
        have hq20 : (gc.toInt ≤ gc2_18.toInt ∧ gc2_18.toInt ≤ gc.toInt + 1) ∧ 0 ≤ lk2_18.toInt ∧ lk2_18.toInt ≤ 1 := (by omega)
        exact hret (hd2_19, pl2_19, hv2_19, lk2_18, dn2_18, ht2_18, sl2_18, br2_18, wh2_18, la2_5, gc2_18, ft2_18, fp2_18) _ _ _ _ dX3_take_88 hq20 (hP.sub [4, 0, 1, 2, 3] rfl) (hD.sub [4, 0, 1, 2, 3] (by decide) rfl) hS
    ·
      have z3 := zi_nle c3
      refine lv_aload_n hx hb dX3_take_21 rfl (lv_at hl 0 rfl) ?_
      refine lv_aload_n hx hb dX3_take_22 rfl (lv_at hl 0 rfl) ?_
      refine va_get (D := D) (ci := 2) (v := .int hd) (C := RX3) (T := TX3) (N := 11) hx hb hts in_X3 hown hK hP 0 rfl rfl 2 (by decide) (hts _ wk321) (fun _ h9 => h9) rfl dX3_take_23 ?_
      refine lv_iconst (v := 1) hx hb dX3_take_26 (by decide) ?_
      refine lv_topi (fun v21 e21 => ?_)
      have z21 : v21.toInt = 1 := zi_c e21 (by decide)
      refine lv_ishl hx hb dX3_take_27 ?_
      refine lv_topi (fun v22 e22 => ?_)
      refine lv_iload_n hx hb dX3_take_28 rfl (lv_at hl 1 rfl) ?_
      refine lv_ior hx hb dX3_take_29 ?_
      refine lv_topi (fun v23 e23 => ?_)
      refine va_put (D := D) (ci := 2) (v := .int v23) (ty := .int) (C := RX3) (T := TX3) (N := 11) hx hb hts in_X3 tyX3 tyX3_ok nmX3 hown hK hP hD hS 0 rfl rfl 2 (by decide) (hts _ wk321) (fun _ h9 => h9) rfl (by decide +kernel) rfl rfl (Nat.le_of_ble_eq_true rfl) dX3_take_30 (fun H locs hP1 hD1 hS1 => ?_)
      clear hP hD hS
      have hP : va_P D classes [(aR, .inr (2, [.ref aB, .ref aQ, .int v23, .long pl, .int hv, .int lk, .int dn, .int ht, .int sl, .int br, .int wh])), (aB, .inr (3, [.long la])), (aQ, .inr (0, [.ref aT, .ref aP, .int gc])), (aT, .inl (cI, 300, .inl ft)), (aP, .inl (cJ, 300, .inr (.inl fp)))] H := hP1
      have hD : va_D A [(aR, .inr (2, [.ref aB, .ref aQ, .int v23, .long pl, .int hv, .int lk, .int dn, .int ht, .int sl, .int br, .int wh])), (aB, .inr (3, [.long la])), (aQ, .inr (0, [.ref aT, .ref aP, .int gc])), (aT, .inl (cI, 300, .inl ft)), (aP, .inl (cJ, 300, .inr (.inl fp)))] := hD1
      have hS := hS1
      clear hP1 hD1 hS1
      refine lv_goto (tgt := 61) hx hb dX3_take_33 (by decide) ?_
      refine lv_aload_n hx hb dX3_take_61 rfl (lv_at hl 0 rfl) ?_
      refine lv_dup hx hb dX3_take_62 rfl ?_
      refine va_get (D := D) (ci := 2) (v := .int hv) (C := RX3) (T := TX3) (N := 11) hx hb hts in_X3 hown hK hP 0 rfl rfl 4 (by decide) (hts _ wk320) (fun _ h9 => h9) rfl dX3_take_63 ?_
      refine lv_iconst (v := 1) hx hb dX3_take_66 (by decide) ?_
      refine lv_topi (fun v24 e24 => ?_)
      have z24 : v24.toInt = 1 := zi_c e24 (by decide)
      refine lv_iadd hx hb dX3_take_67 ?_
      refine lv_topi (fun v25 e25 => ?_)
      first | have z25 := zi_add e25 (by omega) | skip
      refine va_put (D := D) (ci := 2) (v := .int v25) (ty := .int) (C := RX3) (T := TX3) (N := 11) hx hb hts in_X3 tyX3 tyX3_ok nmX3 hown hK hP hD hS 0 rfl rfl 4 (by decide) (hts _ wk320) (fun _ h9 => h9) rfl (by decide +kernel) rfl rfl (Nat.le_of_ble_eq_true rfl) dX3_take_68 (fun H locs hP1 hD1 hS1 => ?_)
      clear hP hD hS
      have hP : va_P D classes [(aR, .inr (2, [.ref aB, .ref aQ, .int v23, .long pl, .int v25, .int lk, .int dn, .int ht, .int sl, .int br, .int wh])), (aB, .inr (3, [.long la])), (aQ, .inr (0, [.ref aT, .ref aP, .int gc])), (aT, .inl (cI, 300, .inl ft)), (aP, .inl (cJ, 300, .inr (.inl fp)))] H := hP1
      have hD : va_D A [(aR, .inr (2, [.ref aB, .ref aQ, .int v23, .long pl, .int v25, .int lk, .int dn, .int ht, .int sl, .int br, .int wh])), (aB, .inr (3, [.long la])), (aQ, .inr (0, [.ref aT, .ref aP, .int gc])), (aT, .inl (cI, 300, .inl ft)), (aP, .inl (cJ, 300, .inr (.inl fp)))] := hD1
      have hS := hS1
      clear hP1 hD1 hS1
      refine lv_aload_n hx hb dX3_take_71 rfl (lv_at hl 0 rfl) ?_
      refine va_get (D := D) (ci := 2) (v := .int v25) (C := RX3) (T := TX3) (N := 11) hx hb hts in_X3 hown hK hP 0 rfl rfl 4 (by decide) (hts _ wk320) (fun _ h9 => h9) rfl dX3_take_72 ?_
      refine lv_bipush (v := 66) hx hb dX3_take_75 (by decide) ?_
      refine lv_topi (fun v26 e26 => ?_)
      have z26 : v26.toInt = 66 := zi_c e26 (by decide)
      refine lv_icmp_ne (tgt := 88) hx hb dX3_take_77 (by decide) (fun c27 => ?_) (fun c27 => ?_)
      ·
        have z27 := zi_ne c27
        have hq28 : (gc.toInt ≤ gc.toInt ∧ gc.toInt ≤ gc.toInt + 1) ∧ 0 ≤ lk.toInt ∧ lk.toInt ≤ 1 := (by omega)
        exact hret (v23, pl, v25, lk, dn, ht, sl, br, wh, la, gc, ft, fp) _ _ _ _ dX3_take_88 hq28 (hP.sub [0, 1, 2, 3, 4] rfl) (hD.sub [0, 1, 2, 3, 4] (by decide) rfl) hS
      ·
        have z27 := zi_eq c27
        refine lv_aload_n hx hb dX3_take_80 rfl (lv_at hl 0 rfl) ?_
        have hh29 : 0 ≤ gc.toInt ∧ gc.toInt ≤ 1000000000 := (by omega)
        have hh30 : 0 ≤ lk.toInt ∧ lk.toInt ≤ 1 := (by omega)
        refine call_v (wc := [(aR, .inr (2, [.ref aB, .ref aQ, .int v23, .long pl, .int v25, .int lk, .int dn, .int ht, .int sl, .int br, .int wh])), (aQ, .inr (0, [.ref aT, .ref aP, .int gc])), (aT, .inl (cI, 300, .inl ft)), (aP, .inl (cJ, 300, .inr (.inl fp)))]) (wr := [(aB, .inr (3, [.long la]))]) (run_V (As := []) (rest := []) kv_RX3_68 ⟨by decide, by decide⟩ ⟨rfl, rfl⟩ ⟨hx, hb, hml, hown, hts⟩ (c_Re_endBlock l D cI cJ cB aR aB aQ aT aP v23 pl v25 lk dn ht sl br wh gc ft fp hh29 hh30 _) ct_blind (ct_pre (wc := [(aR, .inr (2, [.ref aB, .ref aQ, .int v23, .long pl, .int v25, .int lk, .int dn, .int ht, .int sl, .int br, .int wh])), (aQ, .inr (0, [.ref aT, .ref aP, .int gc])), (aT, .inl (cI, 300, .inl ft)), (aP, .inl (cJ, 300, .inr (.inl fp)))]) hK hP hD hS hA hZ hN [0, 2, 3, 4] (by decide) rfl rfl) (va_recv hK hP (ci := 2) (q0 := 0) rfl rfl) rfl hl.1 rfl (Nat.le_of_ble_eq_true rfl) dX3_take_81 ⟨Nat.le_of_ble_eq_true rfl, Nat.le_of_ble_eq_true rfl⟩) hP hD hS hA [0, 2, 3, 4] [1] rfl rfl (by decide) (by decide) (fun u H locs hw31 hP1 hD1 hS1 => ?_)
        obtain ⟨lk2_31, dn2_31, ht2_31, sl2_31, br2_31, wh2_31, gc2_31, ft2_31, fp2_31⟩ := u
        have hw31 : (gc.toInt ≤ gc2_31.toInt ∧ gc2_31.toInt ≤ gc.toInt + 1) ∧ 0 ≤ lk2_31.toInt ∧ lk2_31.toInt ≤ 1 := hw31
        clear hP hD hS
        have hP : va_P D classes [(aB, .inr (3, [.long la])), (aR, .inr (2, [.ref aB, .ref aQ, .int v23, .long pl, .int v25, .int lk2_31, .int dn2_31, .int ht2_31, .int sl2_31, .int br2_31, .int wh2_31])), (aQ, .inr (0, [.ref aT, .ref aP, .int gc2_31])), (aT, .inl (cI, 300, .inl ft2_31)), (aP, .inl (cJ, 300, .inr (.inl fp2_31)))] H := hP1
        have hD : va_D A [(aB, .inr (3, [.long la])), (aR, .inr (2, [.ref aB, .ref aQ, .int v23, .long pl, .int v25, .int lk2_31, .int dn2_31, .int ht2_31, .int sl2_31, .int br2_31, .int wh2_31])), (aQ, .inr (0, [.ref aT, .ref aP, .int gc2_31])), (aT, .inl (cI, 300, .inl ft2_31)), (aP, .inl (cJ, 300, .inr (.inl fp2_31)))] := hD1
        have hS := hS1
        clear hP1 hD1 hS1
        have rg_lk2_31 := zi_rg lk2_31
        have rg_dn2_31 := zi_rg dn2_31
        have rg_ht2_31 := zi_rg ht2_31
        have rg_sl2_31 := zi_rg sl2_31
        have rg_br2_31 := zi_rg br2_31
        have rg_wh2_31 := zi_rg wh2_31
        have rg_gc2_31 := zi_rg gc2_31
        refine lv_aload_n hx hb dX3_take_84 rfl (lv_at hl 0 rfl) ?_
        refine call_v (wc := [(aR, .inr (2, [.ref aB, .ref aQ, .int v23, .long pl, .int v25, .int lk2_31, .int dn2_31, .int ht2_31, .int sl2_31, .int br2_31, .int wh2_31]))]) (wr := [(aB, .inr (3, [.long la])), (aQ, .inr (0, [.ref aT, .ref aP, .int gc2_31])), (aT, .inl (cI, 300, .inl ft2_31)), (aP, .inl (cJ, 300, .inr (.inl fp2_31)))]) (run_V (As := []) (rest := []) kv_RX3_71 ⟨by decide, by decide⟩ ⟨rfl, rfl⟩ ⟨hx, hb, hml, hown, hts⟩ (c_Re_beginBlock l D cI cJ cB aR aB aQ v23 pl v25 lk2_31 dn2_31 ht2_31 sl2_31 br2_31 wh2_31  _) ct_blind (ct_pre (wc := [(aR, .inr (2, [.ref aB, .ref aQ, .int v23, .long pl, .int v25, .int lk2_31, .int dn2_31, .int ht2_31, .int sl2_31, .int br2_31, .int wh2_31]))]) hK hP hD hS hA hZ hN [1] (by decide) rfl rfl) (va_recv hK hP (ci := 2) (q0 := 1) rfl rfl) rfl hl.1 rfl (Nat.le_of_ble_eq_true rfl) dX3_take_85 ⟨Nat.le_of_ble_eq_true rfl, Nat.le_of_ble_eq_true rfl⟩) hP hD hS hA [1] [0, 2, 3, 4] rfl rfl (by decide) (by decide) (fun u H locs hw32 hP1 hD1 hS1 => ?_)
        obtain ⟨hd2_32, pl2_32, hv2_32⟩ := u
        clear hw32
        clear hP hD hS
        have hP : va_P D classes [(aB, .inr (3, [.long la])), (aQ, .inr (0, [.ref aT, .ref aP, .int gc2_31])), (aT, .inl (cI, 300, .inl ft2_31)), (aP, .inl (cJ, 300, .inr (.inl fp2_31))), (aR, .inr (2, [.ref aB, .ref aQ, .int hd2_32, .long pl2_32, .int hv2_32, .int lk2_31, .int dn2_31, .int ht2_31, .int sl2_31, .int br2_31, .int wh2_31]))] H := hP1
        have hD : va_D A [(aB, .inr (3, [.long la])), (aQ, .inr (0, [.ref aT, .ref aP, .int gc2_31])), (aT, .inl (cI, 300, .inl ft2_31)), (aP, .inl (cJ, 300, .inr (.inl fp2_31))), (aR, .inr (2, [.ref aB, .ref aQ, .int hd2_32, .long pl2_32, .int hv2_32, .int lk2_31, .int dn2_31, .int ht2_31, .int sl2_31, .int br2_31, .int wh2_31]))] := hD1
        have hS := hS1
        clear hP1 hD1 hS1
        have rg_hd2_32 := zi_rg hd2_32
        have rg_hv2_32 := zi_rg hv2_32
        have hq33 : (gc.toInt ≤ gc2_31.toInt ∧ gc2_31.toInt ≤ gc.toInt + 1) ∧ 0 ≤ lk2_31.toInt ∧ lk2_31.toInt ≤ 1 := (by omega)
        exact hret (hd2_32, pl2_32, hv2_32, lk2_31, dn2_31, ht2_31, sl2_31, br2_31, wh2_31, la, gc2_31, ft2_31, fp2_31) _ _ _ _ dX3_take_88 hq33 (hP.sub [4, 0, 1, 2, 3] rfl) (hD.sub [4, 0, 1, 2, 3] (by decide) rfl) hS
  ·
    have z1 := zi_ne0 c1
    refine lv_aload_n hx hb dX3_take_7 rfl (lv_at hl 0 rfl) ?_
    refine lv_iconst (v := 0) hx hb dX3_take_8 (by decide) ?_
    refine lv_topi (fun v34 e34 => ?_)
    have z34 : v34.toInt = 0 := zi_c e34 (by decide)
    refine va_put (D := D) (ci := 2) (v := .int v34) (ty := .boolean) (C := RX3) (T := TX3) (N := 11) hx hb hts in_X3 tyX3 tyX3_ok nmX3 hown hK hP hD hS 0 rfl rfl 6 (by decide) (hts _ wk319) (fun _ h9 => h9) rfl (by decide +kernel) (zb_n (by omega)) (zb_f (by omega)) (Nat.le_of_ble_eq_true rfl) dX3_take_9 (fun H locs hP1 hD1 hS1 => ?_)
    clear hP hD hS
    have hP : va_P D classes [(aR, .inr (2, [.ref aB, .ref aQ, .int hd, .long pl, .int hv, .int lk, .int v34, .int ht, .int sl, .int br, .int wh])), (aB, .inr (3, [.long la])), (aQ, .inr (0, [.ref aT, .ref aP, .int gc])), (aT, .inl (cI, 300, .inl ft)), (aP, .inl (cJ, 300, .inr (.inl fp)))] H := hP1
    have hD : va_D A [(aR, .inr (2, [.ref aB, .ref aQ, .int hd, .long pl, .int hv, .int lk, .int v34, .int ht, .int sl, .int br, .int wh])), (aB, .inr (3, [.long la])), (aQ, .inr (0, [.ref aT, .ref aP, .int gc])), (aT, .inl (cI, 300, .inl ft)), (aP, .inl (cJ, 300, .inr (.inl fp)))] := hD1
    have hS := hS1
    clear hP1 hD1 hS1
    have hq35 : (gc.toInt ≤ gc.toInt ∧ gc.toInt ≤ gc.toInt + 1) ∧ 0 ≤ lk.toInt ∧ lk.toInt ≤ 1 := (by omega)
    exact hret (hd, pl, hv, lk, v34, ht, sl, br, wh, la, gc, ft, fp) _ _ _ _ dX3_take_12 hq35 (hP.sub [0, 1, 2, 3, 4] rfl) (hD.sub [0, 1, 2, 3, 4] (by decide) rfl) hS

set_option maxHeartbeats 4000000 in
set_option maxRecDepth 100000 in
theorem c_Gr_init (l : Launch) (D : va_G) (cI cJ cB : ClassId) (aQ : Nat)  :
    ctv l yX1_init (wsOf yX1_init cX1_init 1 none) (rmL 1 24 2 600) D classes (tys3 cI cJ cB) [.ref aQ] [(aQ, .inr (0, [.null, .null, .int 0]))] (fun u : Nat × Nat => True) (fun u : Nat × Nat => ([(aQ, .inr (0, [.ref u.1, .ref u.2, .int 0])), (u.1, .inl (cI, 300, .inl (fun _ => 0))), (u.2, .inl (cJ, 300, .inr (.inl (fun _ => 0))))] : va_W)) 2 600 := by
  refine ctv.of (by first | exact plainFor_of_name (by decide) | decide +kernel) (Nat.le_of_ble_eq_true rfl) (fun p e s m args below meth c A ls Q h hret => ?_)
  obtain ⟨hx, hb, hml, hown, hts, hnm, hP, hK, hD, hA, hS, hZ, hN, hl⟩ := h
  have hown : s.vm.findClass RX1 = some m.cls := hown
  have hl : lv_has ls 1 [(0, .ref aQ)] := hl
  have hP : va_P D classes [(aQ, .inr (0, [.null, .null, .int 0]))] s.heap := hP
  have hD : va_D A [(aQ, .inr (0, [.null, .null, .int 0]))] := hD
  refine lv_aload_n hx hb dX1_init_0 rfl (lv_at hl 0 rfl) ?_
  refine W.objInit hx hb hown (hts _ wk53) (hts _ wk11) (hts _ wk12) rfl (by rw [hml]; exact hl.1) rfl dX1_init_1 (Nat.le_of_ble_eq_true rfl) (Nat.le_of_ble_eq_true rfl) ?_
  refine W.eq (g2 := F0 m 4 ls []) rfl ?_
  refine lv_aload_n hx hb dX1_init_4 rfl (lv_at hl 0 rfl) ?_
  refine lv_sipush (v := 300) hx hb dX1_init_5 (by decide) ?_
  refine lv_topi (fun v1 e1 => ?_)
  have z1 : v1.toInt = 300 := zi_c e1 (by decide)
  refine va_newa (a0 := (300, .inl (fun _ => 0))) (atype := .int) (ty := .int) hx hb (hts _ wk37) rfl hK hP hD hS hA (fun _ => rfl) (by rw [e1]; decide) (by rw [e1]; decide) (by decide) (Nat.le_of_ble_eq_true rfl) (Nat.le_of_ble_eq_true rfl) dX1_init_8 (fun q2 cN H hK9 hP1 hD1 hS1 => ?_)
  have hcN : cN = cI := ty3_eq 0 3 hK9 rfl rfl rfl rfl
  rw [hcN] at hP1 hD1
  clear hK9
  clear hP hD hS
  have hP : va_P D classes [(aQ, .inr (0, [.null, .null, .int 0])), (q2, .inl (cI, 300, .inl (fun _ => 0)))] H := hP1
  have hD : va_D A [(aQ, .inr (0, [.null, .null, .int 0])), (q2, .inl (cI, 300, .inl (fun _ => 0)))] := hD1
  have hS := hS1
  clear hP1 hD1 hS1
  refine W.widen (k := 1) (n := 300) (Nat.le_refl _) (Nat.le_refl _) ?_
  refine va_putF (D := D) (ci := 0) (v := .ref q2) (ty := (.array .int)) (C := RX1) (T := TX1) (N := 3) hx hb hts in_X1 tyX1 tyX1_ok nmX1 hown hK hP hD hS 0 rfl rfl 0 (by decide) (hts _ wk54) (fun _ h9 => h9) rfl hnm rfl (by decide +kernel) rfl rfl (Nat.le_of_ble_eq_true rfl) dX1_init_10 (fun H locs hP1 hD1 hS1 => ?_)
  clear hP hD hS
  have hP : va_P D classes [(aQ, .inr (0, [.ref q2, .null, .int 0])), (q2, .inl (cI, 300, .inl (fun _ => 0)))] H := hP1
  have hD : va_D A [(aQ, .inr (0, [.ref q2, .null, .int 0])), (q2, .inl (cI, 300, .inl (fun _ => 0)))] := hD1
  have hS := hS1
  clear hP1 hD1 hS1
  refine lv_aload_n hx hb dX1_init_13 rfl (lv_at hl 0 rfl) ?_
  refine lv_sipush (v := 300) hx hb dX1_init_14 (by decide) ?_
  refine lv_topi (fun v3 e3 => ?_)
  have z3 : v3.toInt = 300 := zi_c e3 (by decide)
  refine va_newa (a0 := (300, .inr (.inl (fun _ => 0)))) (atype := .long) (ty := .long) hx hb (hts _ wk28) rfl hK hP hD hS hA (fun _ => rfl) (by rw [e3]; decide) (by rw [e3]; decide) (by decide) (Nat.le_of_ble_eq_true rfl) (Nat.le_of_ble_eq_true rfl) dX1_init_17 (fun q4 cN H hK9 hP1 hD1 hS1 => ?_)
  have hcN : cN = cJ := ty3_eq 1 3 hK9 rfl rfl rfl rfl
  rw [hcN] at hP1 hD1
  clear hK9
  clear hP hD hS
  have hP : va_P D classes [(aQ, .inr (0, [.ref q2, .null, .int 0])), (q2, .inl (cI, 300, .inl (fun _ => 0))), (q4, .inl (cJ, 300, .inr (.inl (fun _ => 0))))] H := hP1
  have hD : va_D A [(aQ, .inr (0, [.ref q2, .null, .int 0])), (q2, .inl (cI, 300, .inl (fun _ => 0))), (q4, .inl (cJ, 300, .inr (.inl (fun _ => 0))))] := hD1
  have hS := hS1
  clear hP1 hD1 hS1
  refine W.widen (k := 2) (n := 600) (Nat.le_refl _) (Nat.le_refl _) ?_
  refine va_putF (D := D) (ci := 0) (v := .ref q4) (ty := (.array .long)) (C := RX1) (T := TX1) (N := 3) hx hb hts in_X1 tyX1 tyX1_ok nmX1 hown hK hP hD hS 0 rfl rfl 1 (by decide) (hts _ wk55) (fun _ h9 => h9) rfl hnm rfl (by decide +kernel) rfl rfl (Nat.le_of_ble_eq_true rfl) dX1_init_19 (fun H locs hP1 hD1 hS1 => ?_)
  clear hP hD hS
  have hP : va_P D classes [(aQ, .inr (0, [.ref q2, .ref q4, .int 0])), (q2, .inl (cI, 300, .inl (fun _ => 0))), (q4, .inl (cJ, 300, .inr (.inl (fun _ => 0))))] H := hP1
  have hD : va_D A [(aQ, .inr (0, [.ref q2, .ref q4, .int 0])), (q2, .inl (cI, 300, .inl (fun _ => 0))), (q4, .inl (cJ, 300, .inr (.inl (fun _ => 0))))] := hD1
  have hS := hS1
  clear hP1 hD1 hS1
  exact hret (q2, q4) _ _ _ _ dX1_init_22 trivial (hP.sub [0, 1, 2] rfl) (hD.sub [0, 1, 2] (by decide) rfl) hS

set_option maxHeartbeats 4000000 in
set_option maxRecDepth 100000 in
theorem c_Re_init (l : Launch) (D : va_G) (cI cJ cB : ClassId) (aR : Nat)  :
    ctv l yX3_init (wsOf yX3_init cX3_init 1 none) (rmL 2 44 4 604) D classes (tys3 cI cJ cB) [.ref aR] [(aR, .inr (2, [.null, .null, .int 0, .long 0, .int 0, .int 0, .int 0, .int 0, .int 0, .int 0, .int 0]))] (fun u : Nat × Nat × Nat × Nat => True) (fun u : Nat × Nat × Nat × Nat => ([(aR, .inr (2, [.ref u.1, .ref u.2.1, .int 0, .long 0, .int 0, .int 0, .int 0, .int 0, .int 0, .int 0, .int 0])), (u.1, .inr (3, [.long 0])), (u.2.1, .inr (0, [.ref u.2.2.1, .ref u.2.2.2, .int 0])), (u.2.2.1, .inl (cI, 300, .inl (fun _ => 0))), (u.2.2.2, .inl (cJ, 300, .inr (.inl (fun _ => 0))))] : va_W)) 4 604 := by
  refine ctv.of (by first | exact plainFor_of_name (by decide) | decide +kernel) (Nat.le_of_ble_eq_true rfl) (fun p e s m args below meth c A ls Q h hret => ?_)
  obtain ⟨hx, hb, hml, hown, hts, hnm, hP, hK, hD, hA, hS, hZ, hN, hl⟩ := h
  have hown : s.vm.findClass RX3 = some m.cls := hown
  have hl : lv_has ls 1 [(0, .ref aR)] := hl
  have hP : va_P D classes [(aR, .inr (2, [.null, .null, .int 0, .long 0, .int 0, .int 0, .int 0, .int 0, .int 0, .int 0, .int 0]))] s.heap := hP
  have hD : va_D A [(aR, .inr (2, [.null, .null, .int 0, .long 0, .int 0, .int 0, .int 0, .int 0, .int 0, .int 0, .int 0]))] := hD
  refine lv_aload_n hx hb dX3_init_0 rfl (lv_at hl 0 rfl) ?_
  refine W.objInit hx hb hown (hts _ wk44) (hts _ wk11) (hts _ wk12) rfl (by rw [hml]; exact hl.1) rfl dX3_init_1 (Nat.le_of_ble_eq_true rfl) (Nat.le_of_ble_eq_true rfl) ?_
  refine W.eq (g2 := F0 m 4 ls []) rfl ?_
  refine lv_aload_n hx hb dX3_init_4 rfl (lv_at hl 0 rfl) ?_
  refine va_new (ci := 3) (fs := [.long 0]) (C := RX4) (T := TX4) (N := 1) hx hb hts in_X4 tyX4 tyX4_ok hown (hts _ wk45) (hts _ wk34) (hts _ wk35) hK hP hD hS hA rfl (fun j hj => by rcases (show j = 0 by omega) with rfl <;> rfl) (Nat.le_of_ble_eq_true rfl) (Nat.le_of_ble_eq_true rfl) dX3_init_5 (fun q1 H hP1 hD1 hS1 => ?_)
  clear hP hD hS
  have hP : va_P D classes [(aR, .inr (2, [.null, .null, .int 0, .long 0, .int 0, .int 0, .int 0, .int 0, .int 0, .int 0, .int 0])), (q1, .inr (3, [.long 0]))] H := hP1
  have hD : va_D A [(aR, .inr (2, [.null, .null, .int 0, .long 0, .int 0, .int 0, .int 0, .int 0, .int 0, .int 0, .int 0])), (q1, .inr (3, [.long 0]))] := hD1
  have hS := hS1
  clear hP1 hD1 hS1
  refine W.widen (k := 1) (n := 1) (Nat.le_refl _) (Nat.le_refl _) ?_
  refine lv_dup hx hb dX3_init_8 rfl ?_
  refine call_v (wc := [(q1, .inr (3, [.long 0]))]) (wr := [(aR, .inr (2, [.null, .null, .int 0, .long 0, .int 0, .int 0, .int 0, .int 0, .int 0, .int 0, .int 0]))]) (run_N (As := []) (rest := [.ref q1, .ref aR]) kn_RX3_11 hN ⟨by decide, by decide⟩ ⟨rfl, rfl⟩ ⟨hx, hb, hml, hown, hts⟩ (c_Sc_init l D cI cJ cB q1  _) ct_blind (ct_pre (wc := [(q1, .inr (3, [.long 0]))]) hK hP hD hS hA hZ hN [1] (by decide) rfl rfl) rfl hl.1 rfl (Nat.le_of_ble_eq_true rfl) dX3_init_9 ⟨Nat.le_of_ble_eq_true rfl, Nat.le_of_ble_eq_true rfl⟩) hP hD hS hA [1] [0] rfl rfl (by decide) (by decide) (fun u H locs hw2 hP1 hD1 hS1 => ?_)
  clear hw2
  clear hP hD hS
  have hP : va_P D classes [(aR, .inr (2, [.null, .null, .int 0, .long 0, .int 0, .int 0, .int 0, .int 0, .int 0, .int 0, .int 0])), (q1, .inr (3, [.long 0]))] H := hP1
  have hD : va_D A [(aR, .inr (2, [.null, .null, .int 0, .long 0, .int 0, .int 0, .int 0, .int 0, .int 0, .int 0, .int 0])), (q1, .inr (3, [.long 0]))] := hD1
  have hS := hS1
  clear hP1 hD1 hS1
  refine va_putF (D := D) (ci := 2) (v := .ref q1) (ty := (.object "LineBlocks$Scrambler")) (C := RX3) (T := TX3) (N := 11) hx hb hts in_X3 tyX3 tyX3_ok nmX3 hown hK hP hD hS 0 rfl rfl 0 (by decide) (hts _ wk46) (fun _ h9 => h9) rfl hnm rfl (by decide +kernel) rfl rfl (Nat.le_of_ble_eq_true rfl) dX3_init_12 (fun H locs hP1 hD1 hS1 => ?_)
  clear hP hD hS
  have hP : va_P D classes [(aR, .inr (2, [.ref q1, .null, .int 0, .long 0, .int 0, .int 0, .int 0, .int 0, .int 0, .int 0, .int 0])), (q1, .inr (3, [.long 0]))] H := hP1
  have hD : va_D A [(aR, .inr (2, [.ref q1, .null, .int 0, .long 0, .int 0, .int 0, .int 0, .int 0, .int 0, .int 0, .int 0])), (q1, .inr (3, [.long 0]))] := hD1
  have hS := hS1
  clear hP1 hD1 hS1
  refine lv_aload_n hx hb dX3_init_15 rfl (lv_at hl 0 rfl) ?_
  refine va_new (ci := 0) (fs := [.null, .null, .int 0]) (C := RX1) (T := TX1) (N := 3) hx hb hts in_X1 tyX1 tyX1_ok hown (hts _ wk47) (hts _ wk48) (hts _ wk49) hK hP hD hS hA rfl (fun j hj => by rcases (show j = 0 ∨ j = 1 ∨ j = 2 by omega) with rfl | rfl | rfl <;> rfl) (Nat.le_of_ble_eq_true rfl) (Nat.le_of_ble_eq_true rfl) dX3_init_16 (fun q3 H hP1 hD1 hS1 => ?_)
  clear hP hD hS
  have hP : va_P D classes [(aR, .inr (2, [.ref q1, .null, .int 0, .long 0, .int 0, .int 0, .int 0, .int 0, .int 0, .int 0, .int 0])), (q1, .inr (3, [.long 0])), (q3, .inr (0, [.null, .null, .int 0]))] H := hP1
  have hD : va_D A [(aR, .inr (2, [.ref q1, .null, .int 0, .long 0, .int 0, .int 0, .int 0, .int 0, .int 0, .int 0, .int 0])), (q1, .inr (3, [.long 0])), (q3, .inr (0, [.null, .null, .int 0]))] := hD1
  have hS := hS1
  clear hP1 hD1 hS1
  refine W.widen (k := 2) (n := 4) (Nat.le_refl _) (Nat.le_refl _) ?_
  refine lv_dup hx hb dX3_init_19 rfl ?_
  refine call_v (wc := [(q3, .inr (0, [.null, .null, .int 0]))]) (wr := [(aR, .inr (2, [.ref q1, .null, .int 0, .long 0, .int 0, .int 0, .int 0, .int 0, .int 0, .int 0, .int 0])), (q1, .inr (3, [.long 0]))]) (run_N (As := []) (rest := [.ref q3, .ref aR]) kn_RX3_20 hN ⟨by decide, by decide⟩ ⟨rfl, rfl⟩ ⟨hx, hb, hml, hown, hts⟩ (c_Gr_init l D cI cJ cB q3  _) ct_blind (ct_pre (wc := [(q3, .inr (0, [.null, .null, .int 0]))]) hK hP hD hS hA hZ hN [2] (by decide) rfl rfl) rfl hl.1 rfl (Nat.le_of_ble_eq_true rfl) dX3_init_20 ⟨Nat.le_of_ble_eq_true rfl, Nat.le_of_ble_eq_true rfl⟩) hP hD hS hA [2] [0, 1] rfl rfl (by decide) (by decide) (fun u H locs hw4 hP1 hD1 hS1 => ?_)
  obtain ⟨aT_4, aP_4⟩ := u
  clear hw4
  clear hP hD hS
  have hP : va_P D classes [(aR, .inr (2, [.ref q1, .null, .int 0, .long 0, .int 0, .int 0, .int 0, .int 0, .int 0, .int 0, .int 0])), (q1, .inr (3, [.long 0])), (q3, .inr (0, [.ref aT_4, .ref aP_4, .int 0])), (aT_4, .inl (cI, 300, .inl (fun _ => 0))), (aP_4, .inl (cJ, 300, .inr (.inl (fun _ => 0))))] H := hP1
  have hD : va_D A [(aR, .inr (2, [.ref q1, .null, .int 0, .long 0, .int 0, .int 0, .int 0, .int 0, .int 0, .int 0, .int 0])), (q1, .inr (3, [.long 0])), (q3, .inr (0, [.ref aT_4, .ref aP_4, .int 0])), (aT_4, .inl (cI, 300, .inl (fun _ => 0))), (aP_4, .inl (cJ, 300, .inr (.inl (fun _ => 0))))] := hD1
  have hS := hS1
  clear hP1 hD1 hS1
  refine W.widen (k := 4) (n := 604) (Nat.le_refl _) (Nat.le_refl _) ?_
  refine va_putF (D := D) (ci := 2) (v := .ref q3) (ty := (.object "LineBlocks$Groups")) (C := RX3) (T := TX3) (N := 11) hx hb hts in_X3 tyX3 tyX3_ok nmX3 hown hK hP hD hS 0 rfl rfl 1 (by decide) (hts _ wk50) (fun _ h9 => h9) rfl hnm rfl (by decide +kernel) rfl rfl (Nat.le_of_ble_eq_true rfl) dX3_init_23 (fun H locs hP1 hD1 hS1 => ?_)
  clear hP hD hS
  have hP : va_P D classes [(aR, .inr (2, [.ref q1, .ref q3, .int 0, .long 0, .int 0, .int 0, .int 0, .int 0, .int 0, .int 0, .int 0])), (q1, .inr (3, [.long 0])), (q3, .inr (0, [.ref aT_4, .ref aP_4, .int 0])), (aT_4, .inl (cI, 300, .inl (fun _ => 0))), (aP_4, .inl (cJ, 300, .inr (.inl (fun _ => 0))))] H := hP1
  have hD : va_D A [(aR, .inr (2, [.ref q1, .ref q3, .int 0, .long 0, .int 0, .int 0, .int 0, .int 0, .int 0, .int 0, .int 0])), (q1, .inr (3, [.long 0])), (q3, .inr (0, [.ref aT_4, .ref aP_4, .int 0])), (aT_4, .inl (cI, 300, .inl (fun _ => 0))), (aP_4, .inl (cJ, 300, .inr (.inl (fun _ => 0))))] := hD1
  have hS := hS1
  clear hP1 hD1 hS1
  exact hret (q1, q3, aT_4, aP_4) _ _ _ _ dX3_init_26 trivial (hP.sub [0, 1, 2, 3, 4] rfl) (hD.sub [0, 1, 2, 3, 4] (by decide) rfl) hS
end
section
set_option maxHeartbeats 4000000 in
set_option maxRecDepth 100000 in
theorem c_LB_put (l : Launch) (D : va_G) (cI cJ cB : ClassId) (aX : Nat) (aL : Nat) (aW : Nat) (aS : Nat) (aC : Nat) (aG : Nat) (aR : Nat) (fi : Int32) (cn : Int32) (wa : Int32) (fw : Nat → Int64) (la : Int64) (fg : Nat → Int32) (ch : Int32) (h1 : 0 ≤ fi.toInt ∧ fi.toInt < 9088) (h2 : 0 ≤ cn.toInt ∧ cn.toInt ≤ 9066) (h3 : 0 ≤ wa.toInt ∧ wa.toInt < 8) (h4 : ∀ k : Nat, (k : Int) < wa.toInt → 0 ≤ (fg k).toInt ∧ (fg k).toInt ≤ 259) :
    cti l yX6_put (wsOf yX6_put cX6_put 2 (some .int)) (rmL 6 135 0 0) D classes (tys3 cI cJ cB) [.ref aX, .int ch] [(aX, .inr (5, [.ref aL, .ref aS, .ref aR])), (aL, .inr (1, [.ref aW, .int fi, .int cn])), (aW, .inl (cJ, 142, .inr (.inl fw))), (aS, .inr (4, [.ref aC, .ref aG, .int wa])), (aC, .inr (3, [.long la])), (aG, .inl (cI, 8, .inl fg))] (fun (r : Int32) (u : Int32 × Int32 × (Nat → Int64) × Int64 × (Nat → Int32)) => (((ch.toInt < 0 ∨ 259 < ch.toInt) → r.toInt = -12 ∧ u.2.1.toInt = wa.toInt ∧ u.1.toInt = cn.toInt) ∧ ((0 ≤ ch.toInt ∧ ch.toInt ≤ 259) → ((wa.toInt = 7 ∧ 9000 ≤ cn.toInt) → r.toInt = -14 ∧ u.2.1.toInt = wa.toInt ∧ u.1.toInt = cn.toInt) ∧ ((wa.toInt = 7 ∧ cn.toInt < 9000) → r.toInt = 0 ∧ u.2.1.toInt = 0 ∧ u.1.toInt = cn.toInt + 66) ∧ (wa.toInt < 7 → r.toInt = wa.toInt + 1 ∧ u.2.1.toInt = wa.toInt + 1 ∧ u.1.toInt = cn.toInt))) ∧ ((ch.toInt < 0 ∨ 259 < ch.toInt ∨ (wa.toInt = 7 ∧ 9000 ≤ cn.toInt)) → u.2.2.2.2 = fg ∧ u.2.2.2.1 = la ∧ u.2.2.1 = fw) ∧ (¬ (ch.toInt < 0 ∨ 259 < ch.toInt ∨ (wa.toInt = 7 ∧ 9000 ≤ cn.toInt)) → accR ch wa.toInt u.2.1.toInt cn.toInt u.1.toInt fg u.2.2.2.2 (bl la) (bl u.2.2.2.1) (lnB fw fi.toInt) (lnB u.2.2.1 fi.toInt))) (fun u : Int32 × Int32 × (Nat → Int64) × Int64 × (Nat → Int32) => ([(aX, .inr (5, [.ref aL, .ref aS, .ref aR])), (aL, .inr (1, [.ref aW, .int fi, .int u.1])), (aW, .inl (cJ, 142, .inr (.inl u.2.2.1))), (aS, .inr (4, [.ref aC, .ref aG, .int u.2.1])), (aC, .inr (3, [.long u.2.2.2.1])), (aG, .inl (cI, 8, .inl u.2.2.2.2))] : va_W)) := by
  refine cti.of (by first | exact plainFor_of_name (by decide) | decide +kernel) (Nat.le_of_ble_eq_true rfl) (fun p e s m args below meth c A ls Q h hret => ?_)
  obtain ⟨hx, hb, hml, hown, hts, hnm, hP, hK, hD, hA, hS, hZ, hN, hl⟩ := h
  have hown : s.vm.findClass RX6 = some m.cls := hown
  have hl : lv_has ls 2 [(0, .ref aX), (1, .int ch)] := hl
  have hP : va_P D classes [(aX, .inr (5, [.ref aL, .ref aS, .ref aR])), (aL, .inr (1, [.ref aW, .int fi, .int cn])), (aW, .inl (cJ, 142, .inr (.inl fw))), (aS, .inr (4, [.ref aC, .ref aG, .int wa])), (aC, .inr (3, [.long la])), (aG, .inl (cI, 8, .inl fg))] s.heap := hP
  have hD : va_D A [(aX, .inr (5, [.ref aL, .ref aS, .ref aR])), (aL, .inr (1, [.ref aW, .int fi, .int cn])), (aW, .inl (cJ, 142, .inr (.inl fw))), (aS, .inr (4, [.ref aC, .ref aG, .int wa])), (aC, .inr (3, [.long la])), (aG, .inl (cI, 8, .inl fg))] := hD
  have rg_fi := zi_rg fi
  have rg_cn := zi_rg cn
  have rg_wa := zi_rg wa
  have rg_ch := zi_rg ch
  refine lv_iload_n hx hb dX6_put_0 rfl (lv_at hl 1 rfl) ?_
  refine lv_if_lt (tgt := 11) hx hb dX6_put_1 (by decide) (fun c1 => ?_) (fun c1 => ?_)
  ·
    have z1 := zi_lt0 c1
    refine lv_bipush (v := -12) hx hb dX6_put_11 (by decide) ?_
    refine lv_topi (fun v2 e2 => ?_)
    have z2 : v2.toInt = (-12) := zi_c e2 (by decide)
    have hq3 : (((ch.toInt < 0 ∨ 259 < ch.toInt) → v2.toInt = -12 ∧ wa.toInt = wa.toInt ∧ cn.toInt = cn.toInt) ∧ ((0 ≤ ch.toInt ∧ ch.toInt ≤ 259) → ((wa.toInt = 7 ∧ 9000 ≤ cn.toInt) → v2.toInt = -14 ∧ wa.toInt = wa.toInt ∧ cn.toInt = cn.toInt) ∧ ((wa.toInt = 7 ∧ cn.toInt < 9000) → v2.toInt = 0 ∧ wa.toInt = 0 ∧ cn.toInt = cn.toInt + 66) ∧ (wa.toInt < 7 → v2.toInt = wa.toInt + 1 ∧ wa.toInt = wa.toInt + 1 ∧ cn.toInt = cn.toInt))) ∧ ((ch.toInt < 0 ∨ 259 < ch.toInt ∨ (wa.toInt = 7 ∧ 9000 ≤ cn.toInt)) → fg = fg ∧ la = la ∧ fw = fw) ∧ (¬ (ch.toInt < 0 ∨ 259 < ch.toInt ∨ (wa.toInt = 7 ∧ 9000 ≤ cn.toInt)) → accR ch wa.toInt wa.toInt cn.toInt cn.toInt fg fg (bl la) (bl la) (lnB fw fi.toInt) (lnB fw fi.toInt)) := (by refine ⟨by omega, fun q => ?_, fun q => ?_⟩ <;> first | exact ⟨rfl, rfl, rfl⟩ | (exfalso; omega) | exact hw15.2.2 | exact hw27.2.2)
    exact hret v2 (cn, wa, fw, la, fg) _ _ _ _ dX6_put_13 hq3 (hP.sub [0, 1, 2, 3, 4, 5] rfl) (hD.sub [0, 1, 2, 3, 4, 5] (by decide) rfl) hS
  ·
    have z1 := zi_nlt0 c1
    refine lv_iload_n hx hb dX6_put_4 rfl (lv_at hl 1 rfl) ?_
    refine lv_sipush (v := 259) hx hb dX6_put_5 (by decide) ?_
    refine lv_topi (fun v4 e4 => ?_)
    have z4 : v4.toInt = 259 := zi_c e4 (by decide)
    refine lv_icmp_le (tgt := 14) hx hb dX6_put_8 (by decide) (fun c5 => ?_) (fun c5 => ?_)
    ·
      have z5 := zi_le c5
      refine lv_aload_n hx hb dX6_put_14 rfl (lv_at hl 0 rfl) ?_
      refine va_get (D := D) (ci := 5) (v := .ref aS) (C := RX6) (T := TX6) (N := 3) hx hb hts in_X6 hown hK hP 0 rfl rfl 1 (by decide) (hts _ wk20) (fun _ h9 => h9) rfl dX6_put_15 ?_
      refine call_i (wc := [(aS, .inr (4, [.ref aC, .ref aG, .int wa]))]) (wr := [(aX, .inr (5, [.ref aL, .ref aS, .ref aR])), (aL, .inr (1, [.ref aW, .int fi, .int cn])), (aW, .inl (cJ, 142, .inr (.inl fw))), (aC, .inr (3, [.long la])), (aG, .inl (cI, 8, .inl fg))]) (run_V (As := []) (rest := []) kv_RX6_30 ⟨by decide, by decide⟩ ⟨rfl, rfl⟩ ⟨hx, hb, hml, hown, hts⟩ (c_Se_waitingCount l D cI cJ cB aS aC aG wa  _) ct_blind (ct_pre (wc := [(aS, .inr (4, [.ref aC, .ref aG, .int wa]))]) hK hP hD hS hA hZ hN [3] (by decide) rfl rfl) (va_recv hK hP (ci := 4) (q0 := 3) rfl rfl) rfl hl.1 rfl (Nat.le_of_ble_eq_true rfl) dX6_put_18 ⟨Nat.le_of_ble_eq_true rfl, Nat.le_of_ble_eq_true rfl⟩) hP hD hS hA [3] [0, 1, 2, 4, 5] rfl rfl (by decide) (by decide) (fun r6 u H locs hw6 hP1 hD1 hS1 => ?_)
      have hw6 : r6.toInt = wa.toInt := hw6
      clear hP hD hS
      have hP : va_P D classes [(aX, .inr (5, [.ref aL, .ref aS, .ref aR])), (aL, .inr (1, [.ref aW, .int fi, .int cn])), (aW, .inl (cJ, 142, .inr (.inl fw))), (aC, .inr (3, [.long la])), (aG, .inl (cI, 8, .inl fg)), (aS, .inr (4, [.ref aC, .ref aG, .int wa]))] H := hP1
      have hD : va_D A [(aX, .inr (5, [.ref aL, .ref aS, .ref aR])), (aL, .inr (1, [.ref aW, .int fi, .int cn])), (aW, .inl (cJ, 142, .inr (.inl fw))), (aC, .inr (3, [.long la])), (aG, .inl (cI, 8, .inl fg)), (aS, .inr (4, [.ref aC, .ref aG, .int wa]))] := hD1
      have hS := hS1
      clear hP1 hD1 hS1
      have rg_r6 := zi_rg r6
      refine lv_bipush (v := 7) hx hb dX6_put_21 (by decide) ?_
      refine lv_topi (fun v7 e7 => ?_)
      have z7 : v7.toInt = 7 := zi_c e7 (by decide)
      refine lv_icmp_ne (tgt := 42) hx hb dX6_put_23 (by decide) (fun c8 => ?_) (fun c8 => ?_)
      ·
        have z8 := zi_ne c8
        refine lv_aload_n hx hb dX6_put_42 rfl (lv_at hl 0 rfl) ?_
        refine va_get (D := D) (ci := 5) (v := .ref aS) (C := RX6) (T := TX6) (N := 3) hx hb hts in_X6 hown hK hP 0 rfl rfl 1 (by decide) (hts _ wk20) (fun _ h9 => h9) rfl dX6_put_43 ?_
        refine lv_iload_n hx hb dX6_put_46 rfl (lv_at hl 1 rfl) ?_
        refine lv_aload_n hx hb dX6_put_47 rfl (lv_at hl 0 rfl) ?_
        refine va_get (D := D) (ci := 5) (v := .ref aL) (C := RX6) (T := TX6) (N := 3) hx hb hts in_X6 hown hK hP 0 rfl rfl 0 (by decide) (hts _ wk16) (fun _ h9 => h9) rfl dX6_put_48 ?_
        have hh9 : 0 ≤ fi.toInt ∧ fi.toInt < 9088 := (by omega)
        have hh10 : 0 ≤ cn.toInt ∧ cn.toInt ≤ 9066 := (by omega)
        have hh11 : 0 ≤ wa.toInt ∧ wa.toInt < 8 := (by omega)
        have hh12 : wa.toInt = 7 → cn.toInt < 9000 := (by omega)
        have hh13 : ∀ k : Nat, (k : Int) < wa.toInt → 0 ≤ (fg k).toInt ∧ (fg k).toInt ≤ 259 := h4
        have hh14 : 0 ≤ ch.toInt ∧ ch.toInt ≤ 259 := (by omega)
        refine call_v (wc := [(aS, .inr (4, [.ref aC, .ref aG, .int wa])), (aC, .inr (3, [.long la])), (aG, .inl (cI, 8, .inl fg)), (aL, .inr (1, [.ref aW, .int fi, .int cn])), (aW, .inl (cJ, 142, .inr (.inl fw)))]) (wr := [(aX, .inr (5, [.ref aL, .ref aS, .ref aR]))]) (run_V (As := [.int ch, .ref aL]) (rest := []) kv_RX6_37 ⟨by decide, by decide⟩ ⟨rfl, rfl⟩ ⟨hx, hb, hml, hown, hts⟩ (c_Se_accept l D cI cJ cB aS aC aG aL aW la fg wa fi cn fw ch hh9 hh10 hh11 hh12 hh13 hh14 _) ct_blind (ct_pre (wc := [(aS, .inr (4, [.ref aC, .ref aG, .int wa])), (aC, .inr (3, [.long la])), (aG, .inl (cI, 8, .inl fg)), (aL, .inr (1, [.ref aW, .int fi, .int cn])), (aW, .inl (cJ, 142, .inr (.inl fw)))]) hK hP hD hS hA hZ hN [5, 3, 4, 1, 2] (by decide) rfl rfl) (va_recv hK hP (ci := 4) (q0 := 5) rfl rfl) rfl hl.1 rfl (Nat.le_of_ble_eq_true rfl) dX6_put_51 ⟨Nat.le_of_ble_eq_true rfl, Nat.le_of_ble_eq_true rfl⟩) hP hD hS hA [5, 3, 4, 1, 2] [0] rfl rfl (by decide) (by decide) (fun u H locs hw15 hP1 hD1 hS1 => ?_)
        obtain ⟨la2_15, fg2_15, wa2_15, cn2_15, fw2_15⟩ := u
        have hw15 : (wa.toInt < 7 → wa2_15.toInt = wa.toInt + 1 ∧ cn2_15.toInt = cn.toInt) ∧ (wa.toInt = 7 → wa2_15.toInt = 0 ∧ cn2_15.toInt = cn.toInt + 66) ∧ accR ch wa.toInt wa2_15.toInt cn.toInt cn2_15.toInt fg fg2_15 (bl la) (bl la2_15) (lnB fw fi.toInt) (lnB fw2_15 fi.toInt) := hw15
        clear hP hD hS
        have hP : va_P D classes [(aX, .inr (5, [.ref aL, .ref aS, .ref aR])), (aS, .inr (4, [.ref aC, .ref aG, .int wa2_15])), (aC, .inr (3, [.long la2_15])), (aG, .inl (cI, 8, .inl fg2_15)), (aL, .inr (1, [.ref aW, .int fi, .int cn2_15])), (aW, .inl (cJ, 142, .inr (.inl fw2_15)))] H := hP1
        have hD : va_D A [(aX, .inr (5, [.ref aL, .ref aS, .ref aR])), (aS, .inr (4, [.ref aC, .ref aG, .int wa2_15])), (aC, .inr (3, [.long la2_15])), (aG, .inl (cI, 8, .inl fg2_15)), (aL, .inr (1, [.ref aW, .int fi, .int cn2_15])), (aW, .inl (cJ, 142, .inr (.inl fw2_15)))] := hD1
        have hS := hS1
        clear hP1 hD1 hS1
        have rg_wa2_15 := zi_rg wa2_15
        have rg_cn2_15 := zi_rg cn2_15
        refine lv_aload_n hx hb dX6_put_54 rfl (lv_at hl 0 rfl) ?_
        refine va_get (D := D) (ci := 5) (v := .ref aS) (C := RX6) (T := TX6) (N := 3) hx hb hts in_X6 hown hK hP 0 rfl rfl 1 (by decide) (hts _ wk20) (fun _ h9 => h9) rfl dX6_put_55 ?_
        refine call_i (wc := [(aS, .inr (4, [.ref aC, .ref aG, .int wa2_15]))]) (wr := [(aX, .inr (5, [.ref aL, .ref aS, .ref aR])), (aC, .inr (3, [.long la2_15])), (aG, .inl (cI, 8, .inl fg2_15)), (aL, .inr (1, [.ref aW, .int fi, .int cn2_15])), (aW, .inl (cJ, 142, .inr (.inl fw2_15)))]) (run_V (As := []) (rest := []) kv_RX6_30 ⟨by decide, by decide⟩ ⟨rfl, rfl⟩ ⟨hx, hb, hml, hown, hts⟩ (c_Se_waitingCount l D cI cJ cB aS aC aG wa2_15  _) ct_blind (ct_pre (wc := [(aS, .inr (4, [.ref aC, .ref aG, .int wa2_15]))]) hK hP hD hS hA hZ hN [1] (by decide) rfl rfl) (va_recv hK hP (ci := 4) (q0 := 1) rfl rfl) rfl hl.1 rfl (Nat.le_of_ble_eq_true rfl) dX6_put_58 ⟨Nat.le_of_ble_eq_true rfl, Nat.le_of_ble_eq_true rfl⟩) hP hD hS hA [1] [0, 2, 3, 4, 5] rfl rfl (by decide) (by decide) (fun r16 u H locs hw16 hP1 hD1 hS1 => ?_)
        have hw16 : r16.toInt = wa2_15.toInt := hw16
        clear hP hD hS
        have hP : va_P D classes [(aX, .inr (5, [.ref aL, .ref aS, .ref aR])), (aC, .inr (3, [.long la2_15])), (aG, .inl (cI, 8, .inl fg2_15)), (aL, .inr (1, [.ref aW, .int fi, .int cn2_15])), (aW, .inl (cJ, 142, .inr (.inl fw2_15))), (aS, .inr (4, [.ref aC, .ref aG, .int wa2_15]))] H := hP1
        have hD : va_D A [(aX, .inr (5, [.ref aL, .ref aS, .ref aR])), (aC, .inr (3, [.long la2_15])), (aG, .inl (cI, 8, .inl fg2_15)), (aL, .inr (1, [.ref aW, .int fi, .int cn2_15])), (aW, .inl (cJ, 142, .inr (.inl fw2_15))), (aS, .inr (4, [.ref aC, .ref aG, .int wa2_15]))] := hD1
        have hS := hS1
        clear hP1 hD1 hS1
        have rg_r16 := zi_rg r16
        have hq17 : (((ch.toInt < 0 ∨ 259 < ch.toInt) → r16.toInt = -12 ∧ wa2_15.toInt = wa.toInt ∧ cn2_15.toInt = cn.toInt) ∧ ((0 ≤ ch.toInt ∧ ch.toInt ≤ 259) → ((wa.toInt = 7 ∧ 9000 ≤ cn.toInt) → r16.toInt = -14 ∧ wa2_15.toInt = wa.toInt ∧ cn2_15.toInt = cn.toInt) ∧ ((wa.toInt = 7 ∧ cn.toInt < 9000) → r16.toInt = 0 ∧ wa2_15.toInt = 0 ∧ cn2_15.toInt = cn.toInt + 66) ∧ (wa.toInt < 7 → r16.toInt = wa.toInt + 1 ∧ wa2_15.toInt = wa.toInt + 1 ∧ cn2_15.toInt = cn.toInt))) ∧ ((ch.toInt < 0 ∨ 259 < ch.toInt ∨ (wa.toInt = 7 ∧ 9000 ≤ cn.toInt)) → fg2_15 = fg ∧ la2_15 = la ∧ fw2_15 = fw) ∧ (¬ (ch.toInt < 0 ∨ 259 < ch.toInt ∨ (wa.toInt = 7 ∧ 9000 ≤ cn.toInt)) → accR ch wa.toInt wa2_15.toInt cn.toInt cn2_15.toInt fg fg2_15 (bl la) (bl la2_15) (lnB fw fi.toInt) (lnB fw2_15 fi.toInt)) := (by refine ⟨by omega, fun q => ?_, fun q => ?_⟩ <;> first | exact ⟨rfl, rfl, rfl⟩ | (exfalso; omega) | exact hw15.2.2 | exact hw27.2.2)
        exact hret r16 (cn2_15, wa2_15, fw2_15, la2_15, fg2_15) _ _ _ _ dX6_put_61 hq17 (hP.sub [0, 3, 4, 5, 1, 2] rfl) (hD.sub [0, 3, 4, 5, 1, 2] (by decide) rfl) hS
      ·
        have z8 := zi_eq c8
        refine lv_aload_n hx hb dX6_put_26 rfl (lv_at hl 0 rfl) ?_
        refine va_get (D := D) (ci := 5) (v := .ref aL) (C := RX6) (T := TX6) (N := 3) hx hb hts in_X6 hown hK hP 0 rfl rfl 0 (by decide) (hts _ wk16) (fun _ h9 => h9) rfl dX6_put_27 ?_
        refine call_i (wc := [(aL, .inr (1, [.ref aW, .int fi, .int cn]))]) (wr := [(aX, .inr (5, [.ref aL, .ref aS, .ref aR])), (aW, .inl (cJ, 142, .inr (.inl fw))), (aC, .inr (3, [.long la])), (aG, .inl (cI, 8, .inl fg)), (aS, .inr (4, [.ref aC, .ref aG, .int wa]))]) (run_V (As := []) (rest := []) kv_RX6_34 ⟨by decide, by decide⟩ ⟨rfl, rfl⟩ ⟨hx, hb, hml, hown, hts⟩ (c_Ln_size l D cI cJ cB aL aW fi cn  _) ct_blind (ct_pre (wc := [(aL, .inr (1, [.ref aW, .int fi, .int cn]))]) hK hP hD hS hA hZ hN [1] (by decide) rfl rfl) (va_recv hK hP (ci := 1) (q0 := 1) rfl rfl) rfl hl.1 rfl (Nat.le_of_ble_eq_true rfl) dX6_put_30 ⟨Nat.le_of_ble_eq_true rfl, Nat.le_of_ble_eq_true rfl⟩) hP hD hS hA [1] [0, 2, 3, 4, 5] rfl rfl (by decide) (by decide) (fun r18 u H locs hw18 hP1 hD1 hS1 => ?_)
        have hw18 : r18.toInt = cn.toInt := hw18
        clear hP hD hS
        have hP : va_P D classes [(aX, .inr (5, [.ref aL, .ref aS, .ref aR])), (aW, .inl (cJ, 142, .inr (.inl fw))), (aC, .inr (3, [.long la])), (aG, .inl (cI, 8, .inl fg)), (aS, .inr (4, [.ref aC, .ref aG, .int wa])), (aL, .inr (1, [.ref aW, .int fi, .int cn]))] H := hP1
        have hD : va_D A [(aX, .inr (5, [.ref aL, .ref aS, .ref aR])), (aW, .inl (cJ, 142, .inr (.inl fw))), (aC, .inr (3, [.long la])), (aG, .inl (cI, 8, .inl fg)), (aS, .inr (4, [.ref aC, .ref aG, .int wa])), (aL, .inr (1, [.ref aW, .int fi, .int cn]))] := hD1
        have hS := hS1
        clear hP1 hD1 hS1
        have rg_r18 := zi_rg r18
        refine lv_sipush (v := 9000) hx hb dX6_put_33 (by decide) ?_
        refine lv_topi (fun v19 e19 => ?_)
        have z19 : v19.toInt = 9000 := zi_c e19 (by decide)
        refine lv_icmp_lt (tgt := 42) hx hb dX6_put_36 (by decide) (fun c20 => ?_) (fun c20 => ?_)
        ·
          have z20 := zi_lt c20
          refine lv_aload_n hx hb dX6_put_42 rfl (lv_at hl 0 rfl) ?_
          refine va_get (D := D) (ci := 5) (v := .ref aS) (C := RX6) (T := TX6) (N := 3) hx hb hts in_X6 hown hK hP 0 rfl rfl 1 (by decide) (hts _ wk20) (fun _ h9 => h9) rfl dX6_put_43 ?_
          refine lv_iload_n hx hb dX6_put_46 rfl (lv_at hl 1 rfl) ?_
          refine lv_aload_n hx hb dX6_put_47 rfl (lv_at hl 0 rfl) ?_
          refine va_get (D := D) (ci := 5) (v := .ref aL) (C := RX6) (T := TX6) (N := 3) hx hb hts in_X6 hown hK hP 0 rfl rfl 0 (by decide) (hts _ wk16) (fun _ h9 => h9) rfl dX6_put_48 ?_
          have hh21 : 0 ≤ fi.toInt ∧ fi.toInt < 9088 := (by omega)
          have hh22 : 0 ≤ cn.toInt ∧ cn.toInt ≤ 9066 := (by omega)
          have hh23 : 0 ≤ wa.toInt ∧ wa.toInt < 8 := (by omega)
          have hh24 : wa.toInt = 7 → cn.toInt < 9000 := (by omega)
          have hh25 : ∀ k : Nat, (k : Int) < wa.toInt → 0 ≤ (fg k).toInt ∧ (fg k).toInt ≤ 259 := h4
          have hh26 : 0 ≤ ch.toInt ∧ ch.toInt ≤ 259 := (by omega)
          refine call_v (wc := [(aS, .inr (4, [.ref aC, .ref aG, .int wa])), (aC, .inr (3, [.long la])), (aG, .inl (cI, 8, .inl fg)), (aL, .inr (1, [.ref aW, .int fi, .int cn])), (aW, .inl (cJ, 142, .inr (.inl fw)))]) (wr := [(aX, .inr (5, [.ref aL, .ref aS, .ref aR]))]) (run_V (As := [.int ch, .ref aL]) (rest := []) kv_RX6_37 ⟨by decide, by decide⟩ ⟨rfl, rfl⟩ ⟨hx, hb, hml, hown, hts⟩ (c_Se_accept l D cI cJ cB aS aC aG aL aW la fg wa fi cn fw ch hh21 hh22 hh23 hh24 hh25 hh26 _) ct_blind (ct_pre (wc := [(aS, .inr (4, [.ref aC, .ref aG, .int wa])), (aC, .inr (3, [.long la])), (aG, .inl (cI, 8, .inl fg)), (aL, .inr (1, [.ref aW, .int fi, .int cn])), (aW, .inl (cJ, 142, .inr (.inl fw)))]) hK hP hD hS hA hZ hN [4, 2, 3, 5, 1] (by decide) rfl rfl) (va_recv hK hP (ci := 4) (q0 := 4) rfl rfl) rfl hl.1 rfl (Nat.le_of_ble_eq_true rfl) dX6_put_51 ⟨Nat.le_of_ble_eq_true rfl, Nat.le_of_ble_eq_true rfl⟩) hP hD hS hA [4, 2, 3, 5, 1] [0] rfl rfl (by decide) (by decide) (fun u H locs hw27 hP1 hD1 hS1 => ?_)
          obtain ⟨la2_27, fg2_27, wa2_27, cn2_27, fw2_27⟩ := u
          have hw27 : (wa.toInt < 7 → wa2_27.toInt = wa.toInt + 1 ∧ cn2_27.toInt = cn.toInt) ∧ (wa.toInt = 7 → wa2_27.toInt = 0 ∧ cn2_27.toInt = cn.toInt + 66) ∧ accR ch wa.toInt wa2_27.toInt cn.toInt cn2_27.toInt fg fg2_27 (bl la) (bl la2_27) (lnB fw fi.toInt) (lnB fw2_27 fi.toInt) := hw27
          clear hP hD hS
          have hP : va_P D classes [(aX, .inr (5, [.ref aL, .ref aS, .ref aR])), (aS, .inr (4, [.ref aC, .ref aG, .int wa2_27])), (aC, .inr (3, [.long la2_27])), (aG, .inl (cI, 8, .inl fg2_27)), (aL, .inr (1, [.ref aW, .int fi, .int cn2_27])), (aW, .inl (cJ, 142, .inr (.inl fw2_27)))] H := hP1
          have hD : va_D A [(aX, .inr (5, [.ref aL, .ref aS, .ref aR])), (aS, .inr (4, [.ref aC, .ref aG, .int wa2_27])), (aC, .inr (3, [.long la2_27])), (aG, .inl (cI, 8, .inl fg2_27)), (aL, .inr (1, [.ref aW, .int fi, .int cn2_27])), (aW, .inl (cJ, 142, .inr (.inl fw2_27)))] := hD1
          have hS := hS1
          clear hP1 hD1 hS1
          have rg_wa2_27 := zi_rg wa2_27
          have rg_cn2_27 := zi_rg cn2_27
          refine lv_aload_n hx hb dX6_put_54 rfl (lv_at hl 0 rfl) ?_
          refine va_get (D := D) (ci := 5) (v := .ref aS) (C := RX6) (T := TX6) (N := 3) hx hb hts in_X6 hown hK hP 0 rfl rfl 1 (by decide) (hts _ wk20) (fun _ h9 => h9) rfl dX6_put_55 ?_
          refine call_i (wc := [(aS, .inr (4, [.ref aC, .ref aG, .int wa2_27]))]) (wr := [(aX, .inr (5, [.ref aL, .ref aS, .ref aR])), (aC, .inr (3, [.long la2_27])), (aG, .inl (cI, 8, .inl fg2_27)), (aL, .inr (1, [.ref aW, .int fi, .int cn2_27])), (aW, .inl (cJ, 142, .inr (.inl fw2_27)))]) (run_V (As := []) (rest := []) kv_RX6_30 ⟨by decide, by decide⟩ ⟨rfl, rfl⟩ ⟨hx, hb, hml, hown, hts⟩ (c_Se_waitingCount l D cI cJ cB aS aC aG wa2_27  _) ct_blind (ct_pre (wc := [(aS, .inr (4, [.ref aC, .ref aG, .int wa2_27]))]) hK hP hD hS hA hZ hN [1] (by decide) rfl rfl) (va_recv hK hP (ci := 4) (q0 := 1) rfl rfl) rfl hl.1 rfl (Nat.le_of_ble_eq_true rfl) dX6_put_58 ⟨Nat.le_of_ble_eq_true rfl, Nat.le_of_ble_eq_true rfl⟩) hP hD hS hA [1] [0, 2, 3, 4, 5] rfl rfl (by decide) (by decide) (fun r28 u H locs hw28 hP1 hD1 hS1 => ?_)
          have hw28 : r28.toInt = wa2_27.toInt := hw28
          clear hP hD hS
          have hP : va_P D classes [(aX, .inr (5, [.ref aL, .ref aS, .ref aR])), (aC, .inr (3, [.long la2_27])), (aG, .inl (cI, 8, .inl fg2_27)), (aL, .inr (1, [.ref aW, .int fi, .int cn2_27])), (aW, .inl (cJ, 142, .inr (.inl fw2_27))), (aS, .inr (4, [.ref aC, .ref aG, .int wa2_27]))] H := hP1
          have hD : va_D A [(aX, .inr (5, [.ref aL, .ref aS, .ref aR])), (aC, .inr (3, [.long la2_27])), (aG, .inl (cI, 8, .inl fg2_27)), (aL, .inr (1, [.ref aW, .int fi, .int cn2_27])), (aW, .inl (cJ, 142, .inr (.inl fw2_27))), (aS, .inr (4, [.ref aC, .ref aG, .int wa2_27]))] := hD1
          have hS := hS1
          clear hP1 hD1 hS1
          have rg_r28 := zi_rg r28
          have hq29 : (((ch.toInt < 0 ∨ 259 < ch.toInt) → r28.toInt = -12 ∧ wa2_27.toInt = wa.toInt ∧ cn2_27.toInt = cn.toInt) ∧ ((0 ≤ ch.toInt ∧ ch.toInt ≤ 259) → ((wa.toInt = 7 ∧ 9000 ≤ cn.toInt) → r28.toInt = -14 ∧ wa2_27.toInt = wa.toInt ∧ cn2_27.toInt = cn.toInt) ∧ ((wa.toInt = 7 ∧ cn.toInt < 9000) → r28.toInt = 0 ∧ wa2_27.toInt = 0 ∧ cn2_27.toInt = cn.toInt + 66) ∧ (wa.toInt < 7 → r28.toInt = wa.toInt + 1 ∧ wa2_27.toInt = wa.toInt + 1 ∧ cn2_27.toInt = cn.toInt))) ∧ ((ch.toInt < 0 ∨ 259 < ch.toInt ∨ (wa.toInt = 7 ∧ 9000 ≤ cn.toInt)) → fg2_27 = fg ∧ la2_27 = la ∧ fw2_27 = fw) ∧ (¬ (ch.toInt < 0 ∨ 259 < ch.toInt ∨ (wa.toInt = 7 ∧ 9000 ≤ cn.toInt)) → accR ch wa.toInt wa2_27.toInt cn.toInt cn2_27.toInt fg fg2_27 (bl la) (bl la2_27) (lnB fw fi.toInt) (lnB fw2_27 fi.toInt)) := (by refine ⟨by omega, fun q => ?_, fun q => ?_⟩ <;> first | exact ⟨rfl, rfl, rfl⟩ | (exfalso; omega) | exact hw15.2.2 | exact hw27.2.2)
          exact hret r28 (cn2_27, wa2_27, fw2_27, la2_27, fg2_27) _ _ _ _ dX6_put_61 hq29 (hP.sub [0, 3, 4, 5, 1, 2] rfl) (hD.sub [0, 3, 4, 5, 1, 2] (by decide) rfl) hS
        ·
          have z20 := zi_nlt c20
          refine lv_bipush (v := -14) hx hb dX6_put_39 (by decide) ?_
          refine lv_topi (fun v30 e30 => ?_)
          have z30 : v30.toInt = (-14) := zi_c e30 (by decide)
          have hq31 : (((ch.toInt < 0 ∨ 259 < ch.toInt) → v30.toInt = -12 ∧ wa.toInt = wa.toInt ∧ cn.toInt = cn.toInt) ∧ ((0 ≤ ch.toInt ∧ ch.toInt ≤ 259) → ((wa.toInt = 7 ∧ 9000 ≤ cn.toInt) → v30.toInt = -14 ∧ wa.toInt = wa.toInt ∧ cn.toInt = cn.toInt) ∧ ((wa.toInt = 7 ∧ cn.toInt < 9000) → v30.toInt = 0 ∧ wa.toInt = 0 ∧ cn.toInt = cn.toInt + 66) ∧ (wa.toInt < 7 → v30.toInt = wa.toInt + 1 ∧ wa.toInt = wa.toInt + 1 ∧ cn.toInt = cn.toInt))) ∧ ((ch.toInt < 0 ∨ 259 < ch.toInt ∨ (wa.toInt = 7 ∧ 9000 ≤ cn.toInt)) → fg = fg ∧ la = la ∧ fw = fw) ∧ (¬ (ch.toInt < 0 ∨ 259 < ch.toInt ∨ (wa.toInt = 7 ∧ 9000 ≤ cn.toInt)) → accR ch wa.toInt wa.toInt cn.toInt cn.toInt fg fg (bl la) (bl la) (lnB fw fi.toInt) (lnB fw fi.toInt)) := (by refine ⟨by omega, fun q => ?_, fun q => ?_⟩ <;> first | exact ⟨rfl, rfl, rfl⟩ | (exfalso; omega) | exact hw15.2.2 | exact hw27.2.2)
          exact hret v30 (cn, wa, fw, la, fg) _ _ _ _ dX6_put_41 hq31 (hP.sub [0, 5, 1, 4, 2, 3] rfl) (hD.sub [0, 5, 1, 4, 2, 3] (by decide) rfl) hS
    ·
      have z5 := zi_nle c5
      refine lv_bipush (v := -12) hx hb dX6_put_11 (by decide) ?_
      refine lv_topi (fun v32 e32 => ?_)
      have z32 : v32.toInt = (-12) := zi_c e32 (by decide)
      have hq33 : (((ch.toInt < 0 ∨ 259 < ch.toInt) → v32.toInt = -12 ∧ wa.toInt = wa.toInt ∧ cn.toInt = cn.toInt) ∧ ((0 ≤ ch.toInt ∧ ch.toInt ≤ 259) → ((wa.toInt = 7 ∧ 9000 ≤ cn.toInt) → v32.toInt = -14 ∧ wa.toInt = wa.toInt ∧ cn.toInt = cn.toInt) ∧ ((wa.toInt = 7 ∧ cn.toInt < 9000) → v32.toInt = 0 ∧ wa.toInt = 0 ∧ cn.toInt = cn.toInt + 66) ∧ (wa.toInt < 7 → v32.toInt = wa.toInt + 1 ∧ wa.toInt = wa.toInt + 1 ∧ cn.toInt = cn.toInt))) ∧ ((ch.toInt < 0 ∨ 259 < ch.toInt ∨ (wa.toInt = 7 ∧ 9000 ≤ cn.toInt)) → fg = fg ∧ la = la ∧ fw = fw) ∧ (¬ (ch.toInt < 0 ∨ 259 < ch.toInt ∨ (wa.toInt = 7 ∧ 9000 ≤ cn.toInt)) → accR ch wa.toInt wa.toInt cn.toInt cn.toInt fg fg (bl la) (bl la) (lnB fw fi.toInt) (lnB fw fi.toInt)) := (by refine ⟨by omega, fun q => ?_, fun q => ?_⟩ <;> first | exact ⟨rfl, rfl, rfl⟩ | (exfalso; omega) | exact hw15.2.2 | exact hw27.2.2)
      exact hret v32 (cn, wa, fw, la, fg) _ _ _ _ dX6_put_13 hq33 (hP.sub [0, 1, 2, 3, 4, 5] rfl) (hD.sub [0, 1, 2, 3, 4, 5] (by decide) rfl) hS

set_option maxHeartbeats 4000000 in
set_option maxRecDepth 100000 in
theorem c_LB_word (l : Launch) (D : va_G) (cI cJ cB : ClassId) (aX : Nat) (aL : Nat) (aW : Nat) (aS : Nat) (aC : Nat) (aG : Nat) (aR : Nat) (fi : Int32) (cn : Int32) (wa : Int32) (fw : Nat → Int64) (la : Int64) (fg : Nat → Int32) (x : Int32) (y : Int32) (h1 : 0 ≤ fi.toInt ∧ fi.toInt < 9088) (h2 : 0 ≤ cn.toInt ∧ cn.toInt ≤ 9066) (h3 : 0 ≤ wa.toInt ∧ wa.toInt < 8) (h4 : ∀ k : Nat, (k : Int) < wa.toInt → 0 ≤ (fg k).toInt ∧ (fg k).toInt ≤ 259) :
    cti l yX6_word (wsOf yX6_word cX6_word 3 (some .int)) (rmL 7 158 0 0) D classes (tys3 cI cJ cB) [.ref aX, .int x, .int y] [(aX, .inr (5, [.ref aL, .ref aS, .ref aR])), (aL, .inr (1, [.ref aW, .int fi, .int cn])), (aW, .inl (cJ, 142, .inr (.inl fw))), (aS, .inr (4, [.ref aC, .ref aG, .int wa])), (aC, .inr (3, [.long la])), (aG, .inl (cI, 8, .inl fg))] (fun (r : Int32) (u : Int32 × Int32 × (Nat → Int64) × Int64 × (Nat → Int32)) => ((9000 ≤ cn.toInt → r.toInt = -14 ∧ u.2.1.toInt = wa.toInt ∧ u.1.toInt = cn.toInt) ∧ (cn.toInt < 9000 → r.toInt = wa.toInt ∧ u.2.1.toInt = wa.toInt ∧ u.1.toInt = cn.toInt + 66)) ∧ (9000 ≤ cn.toInt → u.2.2.2.2 = fg ∧ u.2.2.2.1 = la ∧ u.2.2.1 = fw) ∧ (cn.toInt < 9000 → accL (wl x 4 ++ wl y 4) (wa.toInt, cn.toInt, fg, bl la, lnB fw fi.toInt) (u.2.1.toInt, u.1.toInt, u.2.2.2.2, bl u.2.2.2.1, lnB u.2.2.1 fi.toInt))) (fun u : Int32 × Int32 × (Nat → Int64) × Int64 × (Nat → Int32) => ([(aX, .inr (5, [.ref aL, .ref aS, .ref aR])), (aL, .inr (1, [.ref aW, .int fi, .int u.1])), (aW, .inl (cJ, 142, .inr (.inl u.2.2.1))), (aS, .inr (4, [.ref aC, .ref aG, .int u.2.1])), (aC, .inr (3, [.long u.2.2.2.1])), (aG, .inl (cI, 8, .inl u.2.2.2.2))] : va_W)) := by
  refine cti.of (by first | exact plainFor_of_name (by decide) | decide +kernel) (Nat.le_of_ble_eq_true rfl) (fun p e s m args below meth c A ls Q h hret => ?_)
  obtain ⟨hx, hb, hml, hown, hts, hnm, hP, hK, hD, hA, hS, hZ, hN, hl⟩ := h
  have hown : s.vm.findClass RX6 = some m.cls := hown
  have hl : lv_has ls 3 [(0, .ref aX), (1, .int x), (2, .int y)] := hl
  have hP : va_P D classes [(aX, .inr (5, [.ref aL, .ref aS, .ref aR])), (aL, .inr (1, [.ref aW, .int fi, .int cn])), (aW, .inl (cJ, 142, .inr (.inl fw))), (aS, .inr (4, [.ref aC, .ref aG, .int wa])), (aC, .inr (3, [.long la])), (aG, .inl (cI, 8, .inl fg))] s.heap := hP
  have hD : va_D A [(aX, .inr (5, [.ref aL, .ref aS, .ref aR])), (aL, .inr (1, [.ref aW, .int fi, .int cn])), (aW, .inl (cJ, 142, .inr (.inl fw))), (aS, .inr (4, [.ref aC, .ref aG, .int wa])), (aC, .inr (3, [.long la])), (aG, .inl (cI, 8, .inl fg))] := hD
  have rg_fi := zi_rg fi
  have rg_cn := zi_rg cn
  have rg_wa := zi_rg wa
  have rg_x := zi_rg x
  have rg_y := zi_rg y
  refine lv_aload_n hx hb dX6_word_0 rfl (lv_at hl 0 rfl) ?_
  refine va_get (D := D) (ci := 5) (v := .ref aL) (C := RX6) (T := TX6) (N := 3) hx hb hts in_X6 hown hK hP 0 rfl rfl 0 (by decide) (hts _ wk16) (fun _ h9 => h9) rfl dX6_word_1 ?_
  refine call_i (wc := [(aL, .inr (1, [.ref aW, .int fi, .int cn]))]) (wr := [(aX, .inr (5, [.ref aL, .ref aS, .ref aR])), (aW, .inl (cJ, 142, .inr (.inl fw))), (aS, .inr (4, [.ref aC, .ref aG, .int wa])), (aC, .inr (3, [.long la])), (aG, .inl (cI, 8, .inl fg))]) (run_V (As := []) (rest := []) kv_RX6_34 ⟨by decide, by decide⟩ ⟨rfl, rfl⟩ ⟨hx, hb, hml, hown, hts⟩ (c_Ln_size l D cI cJ cB aL aW fi cn  _) ct_blind (ct_pre (wc := [(aL, .inr (1, [.ref aW, .int fi, .int cn]))]) hK hP hD hS hA hZ hN [1] (by decide) rfl rfl) (va_recv hK hP (ci := 1) (q0 := 1) rfl rfl) rfl hl.1 rfl (Nat.le_of_ble_eq_true rfl) dX6_word_4 ⟨Nat.le_of_ble_eq_true rfl, Nat.le_of_ble_eq_true rfl⟩) hP hD hS hA [1] [0, 2, 3, 4, 5] rfl rfl (by decide) (by decide) (fun r1 u H locs hw1 hP1 hD1 hS1 => ?_)
  have hw1 : r1.toInt = cn.toInt := hw1
  clear hP hD hS
  have hP : va_P D classes [(aX, .inr (5, [.ref aL, .ref aS, .ref aR])), (aW, .inl (cJ, 142, .inr (.inl fw))), (aS, .inr (4, [.ref aC, .ref aG, .int wa])), (aC, .inr (3, [.long la])), (aG, .inl (cI, 8, .inl fg)), (aL, .inr (1, [.ref aW, .int fi, .int cn]))] H := hP1
  have hD : va_D A [(aX, .inr (5, [.ref aL, .ref aS, .ref aR])), (aW, .inl (cJ, 142, .inr (.inl fw))), (aS, .inr (4, [.ref aC, .ref aG, .int wa])), (aC, .inr (3, [.long la])), (aG, .inl (cI, 8, .inl fg)), (aL, .inr (1, [.ref aW, .int fi, .int cn]))] := hD1
  have hS := hS1
  clear hP1 hD1 hS1
  have rg_r1 := zi_rg r1
  refine lv_sipush (v := 9000) hx hb dX6_word_7 (by decide) ?_
  refine lv_topi (fun v2 e2 => ?_)
  have z2 : v2.toInt = 9000 := zi_c e2 (by decide)
  refine lv_icmp_lt (tgt := 16) hx hb dX6_word_10 (by decide) (fun c3 => ?_) (fun c3 => ?_)
  ·
    have z3 := zi_lt c3
    refine lv_aload_n hx hb dX6_word_16 rfl (lv_at hl 0 rfl) ?_
    refine va_get (D := D) (ci := 5) (v := .ref aS) (C := RX6) (T := TX6) (N := 3) hx hb hts in_X6 hown hK hP 0 rfl rfl 1 (by decide) (hts _ wk20) (fun _ h9 => h9) rfl dX6_word_17 ?_
    refine lv_iload_n hx hb dX6_word_20 rfl (lv_at hl 1 rfl) ?_
    refine lv_aload_n hx hb dX6_word_21 rfl (lv_at hl 0 rfl) ?_
    refine va_get (D := D) (ci := 5) (v := .ref aL) (C := RX6) (T := TX6) (N := 3) hx hb hts in_X6 hown hK hP 0 rfl rfl 0 (by decide) (hts _ wk16) (fun _ h9 => h9) rfl dX6_word_22 ?_
    have hh4 : 0 ≤ fi.toInt ∧ fi.toInt < 9088 := (by omega)
    have hh5 : 0 ≤ cn.toInt ∧ cn.toInt ≤ 9066 := (by omega)
    have hh6 : 0 ≤ wa.toInt ∧ wa.toInt < 8 := (by omega)
    have hh7 : 4 ≤ wa.toInt → cn.toInt < 9000 := (by omega)
    have hh8 : ∀ k : Nat, (k : Int) < wa.toInt → 0 ≤ (fg k).toInt ∧ (fg k).toInt ≤ 259 := (by first | exact h4 | exact hw9.2.2.1)
    refine call_v (wc := [(aS, .inr (4, [.ref aC, .ref aG, .int wa])), (aC, .inr (3, [.long la])), (aG, .inl (cI, 8, .inl fg)), (aL, .inr (1, [.ref aW, .int fi, .int cn])), (aW, .inl (cJ, 142, .inr (.inl fw)))]) (wr := [(aX, .inr (5, [.ref aL, .ref aS, .ref aR]))]) (run_V (As := [.int x, .ref aL]) (rest := []) kv_RX6_41 ⟨by decide, by decide⟩ ⟨rfl, rfl⟩ ⟨hx, hb, hml, hown, hts⟩ (c_Se_acceptBytes l D cI cJ cB aS aC aG aL aW la fg wa fi cn fw x hh4 hh5 hh6 hh7 hh8 _) ct_blind (ct_pre (wc := [(aS, .inr (4, [.ref aC, .ref aG, .int wa])), (aC, .inr (3, [.long la])), (aG, .inl (cI, 8, .inl fg)), (aL, .inr (1, [.ref aW, .int fi, .int cn])), (aW, .inl (cJ, 142, .inr (.inl fw)))]) hK hP hD hS hA hZ hN [2, 3, 4, 5, 1] (by decide) rfl rfl) (va_recv hK hP (ci := 4) (q0 := 2) rfl rfl) rfl hl.1 rfl (Nat.le_of_ble_eq_true rfl) dX6_word_25 ⟨Nat.le_of_ble_eq_true rfl, Nat.le_of_ble_eq_true rfl⟩) hP hD hS hA [2, 3, 4, 5, 1] [0] rfl rfl (by decide) (by decide) (fun u H locs hw9 hP1 hD1 hS1 => ?_)
    obtain ⟨la2_9, fg2_9, wa2_9, cn2_9, fw2_9⟩ := u
    have hw9 : (wa.toInt < 4 → wa2_9.toInt = wa.toInt + 4 ∧ cn2_9.toInt = cn.toInt) ∧ (4 ≤ wa.toInt → wa2_9.toInt = wa.toInt - 4 ∧ cn2_9.toInt = cn.toInt + 66) ∧ (∀ k : Nat, (k : Int) < wa2_9.toInt → 0 ≤ (fg2_9 k).toInt ∧ (fg2_9 k).toInt ≤ 259) ∧ accL (wl x 4) (wa.toInt, cn.toInt, fg, bl la, lnB fw fi.toInt) (wa2_9.toInt, cn2_9.toInt, fg2_9, bl la2_9, lnB fw2_9 fi.toInt) := hw9
    clear hP hD hS
    have hP : va_P D classes [(aX, .inr (5, [.ref aL, .ref aS, .ref aR])), (aS, .inr (4, [.ref aC, .ref aG, .int wa2_9])), (aC, .inr (3, [.long la2_9])), (aG, .inl (cI, 8, .inl fg2_9)), (aL, .inr (1, [.ref aW, .int fi, .int cn2_9])), (aW, .inl (cJ, 142, .inr (.inl fw2_9)))] H := hP1
    have hD : va_D A [(aX, .inr (5, [.ref aL, .ref aS, .ref aR])), (aS, .inr (4, [.ref aC, .ref aG, .int wa2_9])), (aC, .inr (3, [.long la2_9])), (aG, .inl (cI, 8, .inl fg2_9)), (aL, .inr (1, [.ref aW, .int fi, .int cn2_9])), (aW, .inl (cJ, 142, .inr (.inl fw2_9)))] := hD1
    have hS := hS1
    clear hP1 hD1 hS1
    have rg_wa2_9 := zi_rg wa2_9
    have rg_cn2_9 := zi_rg cn2_9
    refine lv_aload_n hx hb dX6_word_28 rfl (lv_at hl 0 rfl) ?_
    refine va_get (D := D) (ci := 5) (v := .ref aS) (C := RX6) (T := TX6) (N := 3) hx hb hts in_X6 hown hK hP 0 rfl rfl 1 (by decide) (hts _ wk20) (fun _ h9 => h9) rfl dX6_word_29 ?_
    refine lv_iload_n hx hb dX6_word_32 rfl (lv_at hl 2 rfl) ?_
    refine lv_aload_n hx hb dX6_word_33 rfl (lv_at hl 0 rfl) ?_
    refine va_get (D := D) (ci := 5) (v := .ref aL) (C := RX6) (T := TX6) (N := 3) hx hb hts in_X6 hown hK hP 0 rfl rfl 0 (by decide) (hts _ wk16) (fun _ h9 => h9) rfl dX6_word_34 ?_
    have hh10 : 0 ≤ fi.toInt ∧ fi.toInt < 9088 := (by omega)
    have hh11 : 0 ≤ cn2_9.toInt ∧ cn2_9.toInt ≤ 9066 := (by omega)
    have hh12 : 0 ≤ wa2_9.toInt ∧ wa2_9.toInt < 8 := (by omega)
    have hh13 : 4 ≤ wa2_9.toInt → cn2_9.toInt < 9000 := (by omega)
    have hh14 : ∀ k : Nat, (k : Int) < wa2_9.toInt → 0 ≤ (fg2_9 k).toInt ∧ (fg2_9 k).toInt ≤ 259 := (by first | exact h4 | exact hw9.2.2.1)
    refine call_v (wc := [(aS, .inr (4, [.ref aC, .ref aG, .int wa2_9])), (aC, .inr (3, [.long la2_9])), (aG, .inl (cI, 8, .inl fg2_9)), (aL, .inr (1, [.ref aW, .int fi, .int cn2_9])), (aW, .inl (cJ, 142, .inr (.inl fw2_9)))]) (wr := [(aX, .inr (5, [.ref aL, .ref aS, .ref aR]))]) (run_V (As := [.int y, .ref aL]) (rest := []) kv_RX6_41 ⟨by decide, by decide⟩ ⟨rfl, rfl⟩ ⟨hx, hb, hml, hown, hts⟩ (c_Se_acceptBytes l D cI cJ cB aS aC aG aL aW la2_9 fg2_9 wa2_9 fi cn2_9 fw2_9 y hh10 hh11 hh12 hh13 hh14 _) ct_blind (ct_pre (wc := [(aS, .inr (4, [.ref aC, .ref aG, .int wa2_9])), (aC, .inr (3, [.long la2_9])), (aG, .inl (cI, 8, .inl fg2_9)), (aL, .inr (1, [.ref aW, .int fi, .int cn2_9])), (aW, .inl (cJ, 142, .inr (.inl fw2_9)))]) hK hP hD hS hA hZ hN [1, 2, 3, 4, 5] (by decide) rfl rfl) (va_recv hK hP (ci := 4) (q0 := 1) rfl rfl) rfl hl.1 rfl (Nat.le_of_ble_eq_true rfl) dX6_word_37 ⟨Nat.le_of_ble_eq_true rfl, Nat.le_of_ble_eq_true rfl⟩) hP hD hS hA [1, 2, 3, 4, 5] [0] rfl rfl (by decide) (by decide) (fun u H locs hw15 hP1 hD1 hS1 => ?_)
    obtain ⟨la2_15, fg2_15, wa2_15, cn2_15, fw2_15⟩ := u
    have hw15 : (wa2_9.toInt < 4 → wa2_15.toInt = wa2_9.toInt + 4 ∧ cn2_15.toInt = cn2_9.toInt) ∧ (4 ≤ wa2_9.toInt → wa2_15.toInt = wa2_9.toInt - 4 ∧ cn2_15.toInt = cn2_9.toInt + 66) ∧ (∀ k : Nat, (k : Int) < wa2_15.toInt → 0 ≤ (fg2_15 k).toInt ∧ (fg2_15 k).toInt ≤ 259) ∧ accL (wl y 4) (wa2_9.toInt, cn2_9.toInt, fg2_9, bl la2_9, lnB fw2_9 fi.toInt) (wa2_15.toInt, cn2_15.toInt, fg2_15, bl la2_15, lnB fw2_15 fi.toInt) := hw15
    clear hP hD hS
    have hP : va_P D classes [(aX, .inr (5, [.ref aL, .ref aS, .ref aR])), (aS, .inr (4, [.ref aC, .ref aG, .int wa2_15])), (aC, .inr (3, [.long la2_15])), (aG, .inl (cI, 8, .inl fg2_15)), (aL, .inr (1, [.ref aW, .int fi, .int cn2_15])), (aW, .inl (cJ, 142, .inr (.inl fw2_15)))] H := hP1
    have hD : va_D A [(aX, .inr (5, [.ref aL, .ref aS, .ref aR])), (aS, .inr (4, [.ref aC, .ref aG, .int wa2_15])), (aC, .inr (3, [.long la2_15])), (aG, .inl (cI, 8, .inl fg2_15)), (aL, .inr (1, [.ref aW, .int fi, .int cn2_15])), (aW, .inl (cJ, 142, .inr (.inl fw2_15)))] := hD1
    have hS := hS1
    clear hP1 hD1 hS1
    have rg_wa2_15 := zi_rg wa2_15
    have rg_cn2_15 := zi_rg cn2_15
    refine lv_aload_n hx hb dX6_word_40 rfl (lv_at hl 0 rfl) ?_
    refine va_get (D := D) (ci := 5) (v := .ref aS) (C := RX6) (T := TX6) (N := 3) hx hb hts in_X6 hown hK hP 0 rfl rfl 1 (by decide) (hts _ wk20) (fun _ h9 => h9) rfl dX6_word_41 ?_
    refine call_i (wc := [(aS, .inr (4, [.ref aC, .ref aG, .int wa2_15]))]) (wr := [(aX, .inr (5, [.ref aL, .ref aS, .ref aR])), (aC, .inr (3, [.long la2_15])), (aG, .inl (cI, 8, .inl fg2_15)), (aL, .inr (1, [.ref aW, .int fi, .int cn2_15])), (aW, .inl (cJ, 142, .inr (.inl fw2_15)))]) (run_V (As := []) (rest := []) kv_RX6_30 ⟨by decide, by decide⟩ ⟨rfl, rfl⟩ ⟨hx, hb, hml, hown, hts⟩ (c_Se_waitingCount l D cI cJ cB aS aC aG wa2_15  _) ct_blind (ct_pre (wc := [(aS, .inr (4, [.ref aC, .ref aG, .int wa2_15]))]) hK hP hD hS hA hZ hN [1] (by decide) rfl rfl) (va_recv hK hP (ci := 4) (q0 := 1) rfl rfl) rfl hl.1 rfl (Nat.le_of_ble_eq_true rfl) dX6_word_44 ⟨Nat.le_of_ble_eq_true rfl, Nat.le_of_ble_eq_true rfl⟩) hP hD hS hA [1] [0, 2, 3, 4, 5] rfl rfl (by decide) (by decide) (fun r16 u H locs hw16 hP1 hD1 hS1 => ?_)
    have hw16 : r16.toInt = wa2_15.toInt := hw16
    clear hP hD hS
    have hP : va_P D classes [(aX, .inr (5, [.ref aL, .ref aS, .ref aR])), (aC, .inr (3, [.long la2_15])), (aG, .inl (cI, 8, .inl fg2_15)), (aL, .inr (1, [.ref aW, .int fi, .int cn2_15])), (aW, .inl (cJ, 142, .inr (.inl fw2_15))), (aS, .inr (4, [.ref aC, .ref aG, .int wa2_15]))] H := hP1
    have hD : va_D A [(aX, .inr (5, [.ref aL, .ref aS, .ref aR])), (aC, .inr (3, [.long la2_15])), (aG, .inl (cI, 8, .inl fg2_15)), (aL, .inr (1, [.ref aW, .int fi, .int cn2_15])), (aW, .inl (cJ, 142, .inr (.inl fw2_15))), (aS, .inr (4, [.ref aC, .ref aG, .int wa2_15]))] := hD1
    have hS := hS1
    clear hP1 hD1 hS1
    have rg_r16 := zi_rg r16
    have hq17 : ((9000 ≤ cn.toInt → r16.toInt = -14 ∧ wa2_15.toInt = wa.toInt ∧ cn2_15.toInt = cn.toInt) ∧ (cn.toInt < 9000 → r16.toInt = wa.toInt ∧ wa2_15.toInt = wa.toInt ∧ cn2_15.toInt = cn.toInt + 66)) ∧ (9000 ≤ cn.toInt → fg2_15 = fg ∧ la2_15 = la ∧ fw2_15 = fw) ∧ (cn.toInt < 9000 → accL (wl x 4 ++ wl y 4) (wa.toInt, cn.toInt, fg, bl la, lnB fw fi.toInt) (wa2_15.toInt, cn2_15.toInt, fg2_15, bl la2_15, lnB fw2_15 fi.toInt)) := (by refine ⟨by omega, fun q => ?_, fun q => ?_⟩ <;> first | exact ⟨rfl, rfl, rfl⟩ | (exfalso; omega) | exact accL_app hw9.2.2.2 hw15.2.2.2)
    exact hret r16 (cn2_15, wa2_15, fw2_15, la2_15, fg2_15) _ _ _ _ dX6_word_47 hq17 (hP.sub [0, 3, 4, 5, 1, 2] rfl) (hD.sub [0, 3, 4, 5, 1, 2] (by decide) rfl) hS
  ·
    have z3 := zi_nlt c3
    refine lv_bipush (v := -14) hx hb dX6_word_13 (by decide) ?_
    refine lv_topi (fun v18 e18 => ?_)
    have z18 : v18.toInt = (-14) := zi_c e18 (by decide)
    have hq19 : ((9000 ≤ cn.toInt → v18.toInt = -14 ∧ wa.toInt = wa.toInt ∧ cn.toInt = cn.toInt) ∧ (cn.toInt < 9000 → v18.toInt = wa.toInt ∧ wa.toInt = wa.toInt ∧ cn.toInt = cn.toInt + 66)) ∧ (9000 ≤ cn.toInt → fg = fg ∧ la = la ∧ fw = fw) ∧ (cn.toInt < 9000 → accL (wl x 4 ++ wl y 4) (wa.toInt, cn.toInt, fg, bl la, lnB fw fi.toInt) (wa.toInt, cn.toInt, fg, bl la, lnB fw fi.toInt)) := (by refine ⟨by omega, fun q => ?_, fun q => ?_⟩ <;> first | exact ⟨rfl, rfl, rfl⟩ | (exfalso; omega) | exact accL_app hw9.2.2.2 hw15.2.2.2)
    exact hret v18 (cn, wa, fw, la, fg) _ _ _ _ dX6_word_15 hq19 (hP.sub [0, 5, 1, 2, 3, 4] rfl) (hD.sub [0, 5, 1, 2, 3, 4] (by decide) rfl) hS

set_option maxHeartbeats 4000000 in
set_option maxRecDepth 100000 in
theorem c_LB_idle (l : Launch) (D : va_G) (cI cJ cB : ClassId) (aX : Nat) (aL : Nat) (aW : Nat) (aS : Nat) (aC : Nat) (aG : Nat) (aR : Nat) (fi : Int32) (cn : Int32) (wa : Int32) (fw : Nat → Int64) (la : Int64) (fg : Nat → Int32) (nn : Int32) (h1 : 0 ≤ fi.toInt ∧ fi.toInt < 9088) (h2 : 0 ≤ cn.toInt ∧ cn.toInt ≤ 9066) (h3 : 0 ≤ wa.toInt ∧ wa.toInt < 8) :
    cti l yX6_idle (wsOf yX6_idle cX6_idle 2 (some .int)) (rmL 5 113 0 0) D classes (tys3 cI cJ cB) [.ref aX, .int nn] [(aX, .inr (5, [.ref aL, .ref aS, .ref aR])), (aL, .inr (1, [.ref aW, .int fi, .int cn])), (aW, .inl (cJ, 142, .inr (.inl fw))), (aS, .inr (4, [.ref aC, .ref aG, .int wa])), (aC, .inr (3, [.long la])), (aG, .inl (cI, 8, .inl fg))] (fun (r : Int32) (u : Int32 × Int32 × (Nat → Int64) × Int64 × (Nat → Int32)) => ((u.2.1.toInt = wa.toInt) ∧ ((nn.toInt < 1 ∨ 100 < nn.toInt ∨ 0 < wa.toInt) → r.toInt = -12 ∧ u.1.toInt = cn.toInt) ∧ ((1 ≤ nn.toInt ∧ nn.toInt ≤ 100 ∧ wa.toInt = 0) → (9000 ≤ cn.toInt + 66 * (nn.toInt - 1) → r.toInt = -14 ∧ u.1.toInt = cn.toInt) ∧ (cn.toInt + 66 * (nn.toInt - 1) < 9000 → r.toInt = cn.toInt + 66 * nn.toInt ∧ u.1.toInt = cn.toInt + 66 * nn.toInt))) ∧ ((nn.toInt < 1 ∨ 100 < nn.toInt ∨ 0 < wa.toInt ∨ 9000 ≤ cn.toInt + 66 * (nn.toInt - 1)) → u.2.2.2.2 = fg ∧ u.2.2.2.1 = la ∧ u.2.2.1 = fw) ∧ (¬ (nn.toInt < 1 ∨ 100 < nn.toInt ∨ 0 < wa.toInt ∨ 9000 ≤ cn.toInt + 66 * (nn.toInt - 1)) → idlR nn.toInt.toNat cn.toInt u.1.toInt (bl la) (bl u.2.2.2.1) (lnB fw fi.toInt) (lnB u.2.2.1 fi.toInt))) (fun u : Int32 × Int32 × (Nat → Int64) × Int64 × (Nat → Int32) => ([(aX, .inr (5, [.ref aL, .ref aS, .ref aR])), (aL, .inr (1, [.ref aW, .int fi, .int u.1])), (aW, .inl (cJ, 142, .inr (.inl u.2.2.1))), (aS, .inr (4, [.ref aC, .ref aG, .int u.2.1])), (aC, .inr (3, [.long u.2.2.2.1])), (aG, .inl (cI, 8, .inl u.2.2.2.2))] : va_W)) := by
  refine cti.of (by first | exact plainFor_of_name (by decide) | decide +kernel) (Nat.le_of_ble_eq_true rfl) (fun p e s m args below meth c A ls Q h hret => ?_)
  obtain ⟨hx, hb, hml, hown, hts, hnm, hP, hK, hD, hA, hS, hZ, hN, hl⟩ := h
  have hown : s.vm.findClass RX6 = some m.cls := hown
  have hl : lv_has ls 2 [(0, .ref aX), (1, .int nn)] := hl
  have hP : va_P D classes [(aX, .inr (5, [.ref aL, .ref aS, .ref aR])), (aL, .inr (1, [.ref aW, .int fi, .int cn])), (aW, .inl (cJ, 142, .inr (.inl fw))), (aS, .inr (4, [.ref aC, .ref aG, .int wa])), (aC, .inr (3, [.long la])), (aG, .inl (cI, 8, .inl fg))] s.heap := hP
  have hD : va_D A [(aX, .inr (5, [.ref aL, .ref aS, .ref aR])), (aL, .inr (1, [.ref aW, .int fi, .int cn])), (aW, .inl (cJ, 142, .inr (.inl fw))), (aS, .inr (4, [.ref aC, .ref aG, .int wa])), (aC, .inr (3, [.long la])), (aG, .inl (cI, 8, .inl fg))] := hD
  have rg_fi := zi_rg fi
  have rg_cn := zi_rg cn
  have rg_wa := zi_rg wa
  have rg_nn := zi_rg nn
  refine lv_iload_n hx hb dX6_idle_0 rfl (lv_at hl 1 rfl) ?_
  refine lv_iconst (v := 1) hx hb dX6_idle_1 (by decide) ?_
  refine lv_topi (fun v1 e1 => ?_)
  have z1 : v1.toInt = 1 := zi_c e1 (by decide)
  refine lv_icmp_lt (tgt := 21) hx hb dX6_idle_2 (by decide) (fun c2 => ?_) (fun c2 => ?_)
  ·
    have z2 := zi_lt c2
    refine lv_bipush (v := -12) hx hb dX6_idle_21 (by decide) ?_
    refine lv_topi (fun v3 e3 => ?_)
    have z3 : v3.toInt = (-12) := zi_c e3 (by decide)
    have hq4 : ((wa.toInt = wa.toInt) ∧ ((nn.toInt < 1 ∨ 100 < nn.toInt ∨ 0 < wa.toInt) → v3.toInt = -12 ∧ cn.toInt = cn.toInt) ∧ ((1 ≤ nn.toInt ∧ nn.toInt ≤ 100 ∧ wa.toInt = 0) → (9000 ≤ cn.toInt + 66 * (nn.toInt - 1) → v3.toInt = -14 ∧ cn.toInt = cn.toInt) ∧ (cn.toInt + 66 * (nn.toInt - 1) < 9000 → v3.toInt = cn.toInt + 66 * nn.toInt ∧ cn.toInt = cn.toInt + 66 * nn.toInt))) ∧ ((nn.toInt < 1 ∨ 100 < nn.toInt ∨ 0 < wa.toInt ∨ 9000 ≤ cn.toInt + 66 * (nn.toInt - 1)) → fg = fg ∧ la = la ∧ fw = fw) ∧ (¬ (nn.toInt < 1 ∨ 100 < nn.toInt ∨ 0 < wa.toInt ∨ 9000 ≤ cn.toInt + 66 * (nn.toInt - 1)) → idlR nn.toInt.toNat cn.toInt cn.toInt (bl la) (bl la) (lnB fw fi.toInt) (lnB fw fi.toInt)) := (by refine ⟨by omega, fun q => ?_, fun q => ?_⟩ <;> first | exact ⟨rfl, rfl, rfl⟩ | (exfalso; omega) | exact hw22.2)
    exact hret v3 (cn, wa, fw, la, fg) _ _ _ _ dX6_idle_23 hq4 (hP.sub [0, 1, 2, 3, 4, 5] rfl) (hD.sub [0, 1, 2, 3, 4, 5] (by decide) rfl) hS
  ·
    have z2 := zi_nlt c2
    refine lv_iload_n hx hb dX6_idle_5 rfl (lv_at hl 1 rfl) ?_
    refine lv_bipush (v := 100) hx hb dX6_idle_6 (by decide) ?_
    refine lv_topi (fun v5 e5 => ?_)
    have z5 : v5.toInt = 100 := zi_c e5 (by decide)
    refine lv_icmp_gt (tgt := 21) hx hb dX6_idle_8 (by decide) (fun c6 => ?_) (fun c6 => ?_)
    ·
      have z6 := zi_lt c6
      refine lv_bipush (v := -12) hx hb dX6_idle_21 (by decide) ?_
      refine lv_topi (fun v7 e7 => ?_)
      have z7 : v7.toInt = (-12) := zi_c e7 (by decide)
      have hq8 : ((wa.toInt = wa.toInt) ∧ ((nn.toInt < 1 ∨ 100 < nn.toInt ∨ 0 < wa.toInt) → v7.toInt = -12 ∧ cn.toInt = cn.toInt) ∧ ((1 ≤ nn.toInt ∧ nn.toInt ≤ 100 ∧ wa.toInt = 0) → (9000 ≤ cn.toInt + 66 * (nn.toInt - 1) → v7.toInt = -14 ∧ cn.toInt = cn.toInt) ∧ (cn.toInt + 66 * (nn.toInt - 1) < 9000 → v7.toInt = cn.toInt + 66 * nn.toInt ∧ cn.toInt = cn.toInt + 66 * nn.toInt))) ∧ ((nn.toInt < 1 ∨ 100 < nn.toInt ∨ 0 < wa.toInt ∨ 9000 ≤ cn.toInt + 66 * (nn.toInt - 1)) → fg = fg ∧ la = la ∧ fw = fw) ∧ (¬ (nn.toInt < 1 ∨ 100 < nn.toInt ∨ 0 < wa.toInt ∨ 9000 ≤ cn.toInt + 66 * (nn.toInt - 1)) → idlR nn.toInt.toNat cn.toInt cn.toInt (bl la) (bl la) (lnB fw fi.toInt) (lnB fw fi.toInt)) := (by refine ⟨by omega, fun q => ?_, fun q => ?_⟩ <;> first | exact ⟨rfl, rfl, rfl⟩ | (exfalso; omega) | exact hw22.2)
      exact hret v7 (cn, wa, fw, la, fg) _ _ _ _ dX6_idle_23 hq8 (hP.sub [0, 1, 2, 3, 4, 5] rfl) (hD.sub [0, 1, 2, 3, 4, 5] (by decide) rfl) hS
    ·
      have z6 := zi_nlt c6
      refine lv_aload_n hx hb dX6_idle_11 rfl (lv_at hl 0 rfl) ?_
      refine va_get (D := D) (ci := 5) (v := .ref aS) (C := RX6) (T := TX6) (N := 3) hx hb hts in_X6 hown hK hP 0 rfl rfl 1 (by decide) (hts _ wk20) (fun _ h9 => h9) rfl dX6_idle_12 ?_
      refine call_i (wc := [(aS, .inr (4, [.ref aC, .ref aG, .int wa]))]) (wr := [(aX, .inr (5, [.ref aL, .ref aS, .ref aR])), (aL, .inr (1, [.ref aW, .int fi, .int cn])), (aW, .inl (cJ, 142, .inr (.inl fw))), (aC, .inr (3, [.long la])), (aG, .inl (cI, 8, .inl fg))]) (run_V (As := []) (rest := []) kv_RX6_30 ⟨by decide, by decide⟩ ⟨rfl, rfl⟩ ⟨hx, hb, hml, hown, hts⟩ (c_Se_waitingCount l D cI cJ cB aS aC aG wa  _) ct_blind (ct_pre (wc := [(aS, .inr (4, [.ref aC, .ref aG, .int wa]))]) hK hP hD hS hA hZ hN [3] (by decide) rfl rfl) (va_recv hK hP (ci := 4) (q0 := 3) rfl rfl) rfl hl.1 rfl (Nat.le_of_ble_eq_true rfl) dX6_idle_15 ⟨Nat.le_of_ble_eq_true rfl, Nat.le_of_ble_eq_true rfl⟩) hP hD hS hA [3] [0, 1, 2, 4, 5] rfl rfl (by decide) (by decide) (fun r9 u H locs hw9 hP1 hD1 hS1 => ?_)
      have hw9 : r9.toInt = wa.toInt := hw9
      clear hP hD hS
      have hP : va_P D classes [(aX, .inr (5, [.ref aL, .ref aS, .ref aR])), (aL, .inr (1, [.ref aW, .int fi, .int cn])), (aW, .inl (cJ, 142, .inr (.inl fw))), (aC, .inr (3, [.long la])), (aG, .inl (cI, 8, .inl fg)), (aS, .inr (4, [.ref aC, .ref aG, .int wa]))] H := hP1
      have hD : va_D A [(aX, .inr (5, [.ref aL, .ref aS, .ref aR])), (aL, .inr (1, [.ref aW, .int fi, .int cn])), (aW, .inl (cJ, 142, .inr (.inl fw))), (aC, .inr (3, [.long la])), (aG, .inl (cI, 8, .inl fg)), (aS, .inr (4, [.ref aC, .ref aG, .int wa]))] := hD1
      have hS := hS1
      clear hP1 hD1 hS1
      have rg_r9 := zi_rg r9
      refine lv_if_eq (tgt := 24) hx hb dX6_idle_18 (by decide) (fun c10 => ?_) (fun c10 => ?_)
      ·
        have z10 := zi_eq0 c10
        refine lv_aload_n hx hb dX6_idle_24 rfl (lv_at hl 0 rfl) ?_
        refine va_get (D := D) (ci := 5) (v := .ref aL) (C := RX6) (T := TX6) (N := 3) hx hb hts in_X6 hown hK hP 0 rfl rfl 0 (by decide) (hts _ wk16) (fun _ h9 => h9) rfl dX6_idle_25 ?_
        refine call_i (wc := [(aL, .inr (1, [.ref aW, .int fi, .int cn]))]) (wr := [(aX, .inr (5, [.ref aL, .ref aS, .ref aR])), (aW, .inl (cJ, 142, .inr (.inl fw))), (aC, .inr (3, [.long la])), (aG, .inl (cI, 8, .inl fg)), (aS, .inr (4, [.ref aC, .ref aG, .int wa]))]) (run_V (As := []) (rest := []) kv_RX6_34 ⟨by decide, by decide⟩ ⟨rfl, rfl⟩ ⟨hx, hb, hml, hown, hts⟩ (c_Ln_size l D cI cJ cB aL aW fi cn  _) ct_blind (ct_pre (wc := [(aL, .inr (1, [.ref aW, .int fi, .int cn]))]) hK hP hD hS hA hZ hN [1] (by decide) rfl rfl) (va_recv hK hP (ci := 1) (q0 := 1) rfl rfl) rfl hl.1 rfl (Nat.le_of_ble_eq_true rfl) dX6_idle_28 ⟨Nat.le_of_ble_eq_true rfl, Nat.le_of_ble_eq_true rfl⟩) hP hD hS hA [1] [0, 2, 3, 4, 5] rfl rfl (by decide) (by decide) (fun r11 u H locs hw11 hP1 hD1 hS1 => ?_)
        have hw11 : r11.toInt = cn.toInt := hw11
        clear hP hD hS
        have hP : va_P D classes [(aX, .inr (5, [.ref aL, .ref aS, .ref aR])), (aW, .inl (cJ, 142, .inr (.inl fw))), (aC, .inr (3, [.long la])), (aG, .inl (cI, 8, .inl fg)), (aS, .inr (4, [.ref aC, .ref aG, .int wa])), (aL, .inr (1, [.ref aW, .int fi, .int cn]))] H := hP1
        have hD : va_D A [(aX, .inr (5, [.ref aL, .ref aS, .ref aR])), (aW, .inl (cJ, 142, .inr (.inl fw))), (aC, .inr (3, [.long la])), (aG, .inl (cI, 8, .inl fg)), (aS, .inr (4, [.ref aC, .ref aG, .int wa])), (aL, .inr (1, [.ref aW, .int fi, .int cn]))] := hD1
        have hS := hS1
        clear hP1 hD1 hS1
        have rg_r11 := zi_rg r11
        refine lv_iload_n hx hb dX6_idle_31 rfl (lv_at hl 1 rfl) ?_
        refine lv_iconst (v := 1) hx hb dX6_idle_32 (by decide) ?_
        refine lv_topi (fun v12 e12 => ?_)
        have z12 : v12.toInt = 1 := zi_c e12 (by decide)
        refine lv_isub hx hb dX6_idle_33 ?_
        refine lv_topi (fun v13 e13 => ?_)
        first | have z13 := zi_sub e13 (by omega) | skip
        refine lv_bipush (v := 66) hx hb dX6_idle_34 (by decide) ?_
        refine lv_topi (fun v14 e14 => ?_)
        have z14 : v14.toInt = 66 := zi_c e14 (by decide)
        refine lv_imul hx hb dX6_idle_36 ?_
        refine lv_topi (fun v15 e15 => ?_)
        first | have z15 := zi_mul (k := 66) e15 (by omega) (by omega) | skip
        refine lv_iadd hx hb dX6_idle_37 ?_
        refine lv_topi (fun v16 e16 => ?_)
        first | have z16 := zi_add e16 (by omega) | skip
        refine lv_sipush (v := 9000) hx hb dX6_idle_38 (by decide) ?_
        refine lv_topi (fun v17 e17 => ?_)
        have z17 : v17.toInt = 9000 := zi_c e17 (by decide)
        refine lv_icmp_lt (tgt := 47) hx hb dX6_idle_41 (by decide) (fun c18 => ?_) (fun c18 => ?_)
        ·
          have z18 := zi_lt c18
          refine lv_aload_n hx hb dX6_idle_47 rfl (lv_at hl 0 rfl) ?_
          refine va_get (D := D) (ci := 5) (v := .ref aS) (C := RX6) (T := TX6) (N := 3) hx hb hts in_X6 hown hK hP 0 rfl rfl 1 (by decide) (hts _ wk20) (fun _ h9 => h9) rfl dX6_idle_48 ?_
          refine lv_iload_n hx hb dX6_idle_51 rfl (lv_at hl 1 rfl) ?_
          refine lv_aload_n hx hb dX6_idle_52 rfl (lv_at hl 0 rfl) ?_
          refine va_get (D := D) (ci := 5) (v := .ref aL) (C := RX6) (T := TX6) (N := 3) hx hb hts in_X6 hown hK hP 0 rfl rfl 0 (by decide) (hts _ wk16) (fun _ h9 => h9) rfl dX6_idle_53 ?_
          have hh19 : 0 ≤ fi.toInt ∧ fi.toInt < 9088 := (by omega)
          have hh20 : 1 ≤ nn.toInt ∧ nn.toInt ≤ 100 := (by omega)
          have hh21 : 0 ≤ cn.toInt ∧ cn.toInt + 66 * nn.toInt ≤ 9087 := (by omega)
          refine call_v (wc := [(aS, .inr (4, [.ref aC, .ref aG, .int wa])), (aC, .inr (3, [.long la])), (aL, .inr (1, [.ref aW, .int fi, .int cn])), (aW, .inl (cJ, 142, .inr (.inl fw)))]) (wr := [(aX, .inr (5, [.ref aL, .ref aS, .ref aR])), (aG, .inl (cI, 8, .inl fg))]) (run_V (As := [.int nn, .ref aL]) (rest := []) kv_RX6_44 ⟨by decide, by decide⟩ ⟨rfl, rfl⟩ ⟨hx, hb, hml, hown, hts⟩ (c_Se_sendIdleGroups l D cI cJ cB aS aC aG aL aW la wa fi cn nn fw hh19 hh20 hh21 _) ct_blind (ct_pre (wc := [(aS, .inr (4, [.ref aC, .ref aG, .int wa])), (aC, .inr (3, [.long la])), (aL, .inr (1, [.ref aW, .int fi, .int cn])), (aW, .inl (cJ, 142, .inr (.inl fw)))]) hK hP hD hS hA hZ hN [4, 2, 5, 1] (by decide) rfl rfl) (va_recv hK hP (ci := 4) (q0 := 4) rfl rfl) rfl hl.1 rfl (Nat.le_of_ble_eq_true rfl) dX6_idle_56 ⟨Nat.le_of_ble_eq_true rfl, Nat.le_of_ble_eq_true rfl⟩) hP hD hS hA [4, 2, 5, 1] [0, 3] rfl rfl (by decide) (by decide) (fun u H locs hw22 hP1 hD1 hS1 => ?_)
          obtain ⟨la2_22, cn2_22, fw2_22⟩ := u
          have hw22 : cn2_22.toInt = cn.toInt + 66 * nn.toInt ∧ idlR nn.toInt.toNat cn.toInt cn2_22.toInt (bl la) (bl la2_22) (lnB fw fi.toInt) (lnB fw2_22 fi.toInt) := hw22
          clear hP hD hS
          have hP : va_P D classes [(aX, .inr (5, [.ref aL, .ref aS, .ref aR])), (aG, .inl (cI, 8, .inl fg)), (aS, .inr (4, [.ref aC, .ref aG, .int wa])), (aC, .inr (3, [.long la2_22])), (aL, .inr (1, [.ref aW, .int fi, .int cn2_22])), (aW, .inl (cJ, 142, .inr (.inl fw2_22)))] H := hP1
          have hD : va_D A [(aX, .inr (5, [.ref aL, .ref aS, .ref aR])), (aG, .inl (cI, 8, .inl fg)), (aS, .inr (4, [.ref aC, .ref aG, .int wa])), (aC, .inr (3, [.long la2_22])), (aL, .inr (1, [.ref aW, .int fi, .int cn2_22])), (aW, .inl (cJ, 142, .inr (.inl fw2_22)))] := hD1
          have hS := hS1
          clear hP1 hD1 hS1
          have rg_cn2_22 := zi_rg cn2_22
          refine lv_aload_n hx hb dX6_idle_59 rfl (lv_at hl 0 rfl) ?_
          refine va_get (D := D) (ci := 5) (v := .ref aL) (C := RX6) (T := TX6) (N := 3) hx hb hts in_X6 hown hK hP 0 rfl rfl 0 (by decide) (hts _ wk16) (fun _ h9 => h9) rfl dX6_idle_60 ?_
          refine call_i (wc := [(aL, .inr (1, [.ref aW, .int fi, .int cn2_22]))]) (wr := [(aX, .inr (5, [.ref aL, .ref aS, .ref aR])), (aG, .inl (cI, 8, .inl fg)), (aS, .inr (4, [.ref aC, .ref aG, .int wa])), (aC, .inr (3, [.long la2_22])), (aW, .inl (cJ, 142, .inr (.inl fw2_22)))]) (run_V (As := []) (rest := []) kv_RX6_34 ⟨by decide, by decide⟩ ⟨rfl, rfl⟩ ⟨hx, hb, hml, hown, hts⟩ (c_Ln_size l D cI cJ cB aL aW fi cn2_22  _) ct_blind (ct_pre (wc := [(aL, .inr (1, [.ref aW, .int fi, .int cn2_22]))]) hK hP hD hS hA hZ hN [4] (by decide) rfl rfl) (va_recv hK hP (ci := 1) (q0 := 4) rfl rfl) rfl hl.1 rfl (Nat.le_of_ble_eq_true rfl) dX6_idle_63 ⟨Nat.le_of_ble_eq_true rfl, Nat.le_of_ble_eq_true rfl⟩) hP hD hS hA [4] [0, 1, 2, 3, 5] rfl rfl (by decide) (by decide) (fun r23 u H locs hw23 hP1 hD1 hS1 => ?_)
          have hw23 : r23.toInt = cn2_22.toInt := hw23
          clear hP hD hS
          have hP : va_P D classes [(aX, .inr (5, [.ref aL, .ref aS, .ref aR])), (aG, .inl (cI, 8, .inl fg)), (aS, .inr (4, [.ref aC, .ref aG, .int wa])), (aC, .inr (3, [.long la2_22])), (aW, .inl (cJ, 142, .inr (.inl fw2_22))), (aL, .inr (1, [.ref aW, .int fi, .int cn2_22]))] H := hP1
          have hD : va_D A [(aX, .inr (5, [.ref aL, .ref aS, .ref aR])), (aG, .inl (cI, 8, .inl fg)), (aS, .inr (4, [.ref aC, .ref aG, .int wa])), (aC, .inr (3, [.long la2_22])), (aW, .inl (cJ, 142, .inr (.inl fw2_22))), (aL, .inr (1, [.ref aW, .int fi, .int cn2_22]))] := hD1
          have hS := hS1
          clear hP1 hD1 hS1
          have rg_r23 := zi_rg r23
          have hq24 : ((wa.toInt = wa.toInt) ∧ ((nn.toInt < 1 ∨ 100 < nn.toInt ∨ 0 < wa.toInt) → r23.toInt = -12 ∧ cn2_22.toInt = cn.toInt) ∧ ((1 ≤ nn.toInt ∧ nn.toInt ≤ 100 ∧ wa.toInt = 0) → (9000 ≤ cn.toInt + 66 * (nn.toInt - 1) → r23.toInt = -14 ∧ cn2_22.toInt = cn.toInt) ∧ (cn.toInt + 66 * (nn.toInt - 1) < 9000 → r23.toInt = cn.toInt + 66 * nn.toInt ∧ cn2_22.toInt = cn.toInt + 66 * nn.toInt))) ∧ ((nn.toInt < 1 ∨ 100 < nn.toInt ∨ 0 < wa.toInt ∨ 9000 ≤ cn.toInt + 66 * (nn.toInt - 1)) → fg = fg ∧ la2_22 = la ∧ fw2_22 = fw) ∧ (¬ (nn.toInt < 1 ∨ 100 < nn.toInt ∨ 0 < wa.toInt ∨ 9000 ≤ cn.toInt + 66 * (nn.toInt - 1)) → idlR nn.toInt.toNat cn.toInt cn2_22.toInt (bl la) (bl la2_22) (lnB fw fi.toInt) (lnB fw2_22 fi.toInt)) := (by refine ⟨by omega, fun q => ?_, fun q => ?_⟩ <;> first | exact ⟨rfl, rfl, rfl⟩ | (exfalso; omega) | exact hw22.2)
          exact hret r23 (cn2_22, wa, fw2_22, la2_22, fg) _ _ _ _ dX6_idle_66 hq24 (hP.sub [0, 5, 4, 2, 3, 1] rfl) (hD.sub [0, 5, 4, 2, 3, 1] (by decide) rfl) hS
        ·
          have z18 := zi_nlt c18
          refine lv_bipush (v := -14) hx hb dX6_idle_44 (by decide) ?_
          refine lv_topi (fun v25 e25 => ?_)
          have z25 : v25.toInt = (-14) := zi_c e25 (by decide)
          have hq26 : ((wa.toInt = wa.toInt) ∧ ((nn.toInt < 1 ∨ 100 < nn.toInt ∨ 0 < wa.toInt) → v25.toInt = -12 ∧ cn.toInt = cn.toInt) ∧ ((1 ≤ nn.toInt ∧ nn.toInt ≤ 100 ∧ wa.toInt = 0) → (9000 ≤ cn.toInt + 66 * (nn.toInt - 1) → v25.toInt = -14 ∧ cn.toInt = cn.toInt) ∧ (cn.toInt + 66 * (nn.toInt - 1) < 9000 → v25.toInt = cn.toInt + 66 * nn.toInt ∧ cn.toInt = cn.toInt + 66 * nn.toInt))) ∧ ((nn.toInt < 1 ∨ 100 < nn.toInt ∨ 0 < wa.toInt ∨ 9000 ≤ cn.toInt + 66 * (nn.toInt - 1)) → fg = fg ∧ la = la ∧ fw = fw) ∧ (¬ (nn.toInt < 1 ∨ 100 < nn.toInt ∨ 0 < wa.toInt ∨ 9000 ≤ cn.toInt + 66 * (nn.toInt - 1)) → idlR nn.toInt.toNat cn.toInt cn.toInt (bl la) (bl la) (lnB fw fi.toInt) (lnB fw fi.toInt)) := (by refine ⟨by omega, fun q => ?_, fun q => ?_⟩ <;> first | exact ⟨rfl, rfl, rfl⟩ | (exfalso; omega) | exact hw22.2)
          exact hret v25 (cn, wa, fw, la, fg) _ _ _ _ dX6_idle_46 hq26 (hP.sub [0, 5, 1, 4, 2, 3] rfl) (hD.sub [0, 5, 1, 4, 2, 3] (by decide) rfl) hS
      ·
        have z10 := zi_ne0 c10
        refine lv_bipush (v := -12) hx hb dX6_idle_21 (by decide) ?_
        refine lv_topi (fun v27 e27 => ?_)
        have z27 : v27.toInt = (-12) := zi_c e27 (by decide)
        have hq28 : ((wa.toInt = wa.toInt) ∧ ((nn.toInt < 1 ∨ 100 < nn.toInt ∨ 0 < wa.toInt) → v27.toInt = -12 ∧ cn.toInt = cn.toInt) ∧ ((1 ≤ nn.toInt ∧ nn.toInt ≤ 100 ∧ wa.toInt = 0) → (9000 ≤ cn.toInt + 66 * (nn.toInt - 1) → v27.toInt = -14 ∧ cn.toInt = cn.toInt) ∧ (cn.toInt + 66 * (nn.toInt - 1) < 9000 → v27.toInt = cn.toInt + 66 * nn.toInt ∧ cn.toInt = cn.toInt + 66 * nn.toInt))) ∧ ((nn.toInt < 1 ∨ 100 < nn.toInt ∨ 0 < wa.toInt ∨ 9000 ≤ cn.toInt + 66 * (nn.toInt - 1)) → fg = fg ∧ la = la ∧ fw = fw) ∧ (¬ (nn.toInt < 1 ∨ 100 < nn.toInt ∨ 0 < wa.toInt ∨ 9000 ≤ cn.toInt + 66 * (nn.toInt - 1)) → idlR nn.toInt.toNat cn.toInt cn.toInt (bl la) (bl la) (lnB fw fi.toInt) (lnB fw fi.toInt)) := (by refine ⟨by omega, fun q => ?_, fun q => ?_⟩ <;> first | exact ⟨rfl, rfl, rfl⟩ | (exfalso; omega) | exact hw22.2)
        exact hret v27 (cn, wa, fw, la, fg) _ _ _ _ dX6_idle_23 hq28 (hP.sub [0, 1, 2, 5, 3, 4] rfl) (hD.sub [0, 1, 2, 5, 3, 4] (by decide) rfl) hS

set_option maxHeartbeats 4000000 in
set_option maxRecDepth 100000 in
theorem c_LB_state (l : Launch) (D : va_G) (cI cJ cB : ClassId) (aX : Nat) (aL : Nat) (aS : Nat) (aC : Nat) (aG : Nat) (aR : Nat) (aB : Nat) (aQ : Nat) (hd : Int32) (pl : Int64) (hv : Int32) (lk : Int32) (dn : Int32) (ht : Int32) (sl : Int32) (br : Int32) (wh : Int32) (sd : Int32) (wa : Int32) (x : Int64) (la : Int64) (lb : Int64)  :
    ctl l yX6_state (wsOf yX6_state cX6_state 4 (some .long)) (rmL 2 46 0 0) D classes (tys3 cI cJ cB) [.ref aX, .int sd, .long x] [(aX, .inr (5, [.ref aL, .ref aS, .ref aR])), (aS, .inr (4, [.ref aC, .ref aG, .int wa])), (aC, .inr (3, [.long la])), (aR, .inr (2, [.ref aB, .ref aQ, .int hd, .long pl, .int hv, .int lk, .int dn, .int ht, .int sl, .int br, .int wh])), (aB, .inr (3, [.long lb]))] (fun (r : Int64) (u : Int64 × Int64) => (sd.toInt = 0 → r = la) ∧ (sd.toInt = 1 → r = lb) ∧ ((¬ sd.toInt = 0 ∧ ¬ sd.toInt = 1) → r = -12) ∧ (sd.toInt = 0 → ∀ j, j < 58 → bl u.1 j = bl x j) ∧ (¬ sd.toInt = 0 → u.1 = la)) (fun u : Int64 × Int64 => ([(aX, .inr (5, [.ref aL, .ref aS, .ref aR])), (aS, .inr (4, [.ref aC, .ref aG, .int wa])), (aC, .inr (3, [.long u.1])), (aR, .inr (2, [.ref aB, .ref aQ, .int hd, .long pl, .int hv, .int lk, .int dn, .int ht, .int sl, .int br, .int wh])), (aB, .inr (3, [.long u.2]))] : va_W)) := by
  refine ctl.of (by first | exact plainFor_of_name (by decide) | decide +kernel) (Nat.le_of_ble_eq_true rfl) (fun p e s m args below meth c A ls Q h hret => ?_)
  obtain ⟨hx, hb, hml, hown, hts, hnm, hP, hK, hD, hA, hS, hZ, hN, hl⟩ := h
  have hown : s.vm.findClass RX6 = some m.cls := hown
  have hl : lv_has ls 4 [(0, .ref aX), (1, .int sd), (2, .long x)] := hl
  have hP : va_P D classes [(aX, .inr (5, [.ref aL, .ref aS, .ref aR])), (aS, .inr (4, [.ref aC, .ref aG, .int wa])), (aC, .inr (3, [.long la])), (aR, .inr (2, [.ref aB, .ref aQ, .int hd, .long pl, .int hv, .int lk, .int dn, .int ht, .int sl, .int br, .int wh])), (aB, .inr (3, [.long lb]))] s.heap := hP
  have hD : va_D A [(aX, .inr (5, [.ref aL, .ref aS, .ref aR])), (aS, .inr (4, [.ref aC, .ref aG, .int wa])), (aC, .inr (3, [.long la])), (aR, .inr (2, [.ref aB, .ref aQ, .int hd, .long pl, .int hv, .int lk, .int dn, .int ht, .int sl, .int br, .int wh])), (aB, .inr (3, [.long lb]))] := hD
  have rg_hd := zi_rg hd
  have rg_hv := zi_rg hv
  have rg_lk := zi_rg lk
  have rg_dn := zi_rg dn
  have rg_ht := zi_rg ht
  have rg_sl := zi_rg sl
  have rg_br := zi_rg br
  have rg_wh := zi_rg wh
  have rg_sd := zi_rg sd
  have rg_wa := zi_rg wa
  refine lv_iload_n hx hb dX6_state_0 rfl (lv_at hl 1 rfl) ?_
  refine lv_if_ne (tgt := 13) hx hb dX6_state_1 (by decide) (fun c1 => ?_) (fun c1 => ?_)
  ·
    have z1 := zi_ne0 c1
    refine lv_iload_n hx hb dX6_state_13 rfl (lv_at hl 1 rfl) ?_
    refine lv_iconst (v := 1) hx hb dX6_state_14 (by decide) ?_
    refine lv_topi (fun v2 e2 => ?_)
    have z2 : v2.toInt = 1 := zi_c e2 (by decide)
    refine lv_icmp_ne (tgt := 27) hx hb dX6_state_15 (by decide) (fun c3 => ?_) (fun c3 => ?_)
    ·
      have z3 := zi_ne c3
      refine lv_ldc2 (v := (-12)) hx hb hown (hts _ wk233) dX6_state_27 ?_
      refine lv_topl (fun v4 e4 => ?_)
      have hq5 : (sd.toInt = 0 → v4 = la) ∧ (sd.toInt = 1 → v4 = lb) ∧ ((¬ sd.toInt = 0 ∧ ¬ sd.toInt = 1) → v4 = -12) ∧ (sd.toInt = 0 → ∀ j, j < 58 → bl la j = bl x j) ∧ (¬ sd.toInt = 0 → la = la) := (by refine ⟨fun q => ?_, fun q => ?_, fun q => ?_, fun q => ?_, fun q => ?_⟩ <;> first | assumption | rfl | (exfalso; omega) | exact hw8.1 | exact hw8.2)
      exact hret v4 (la, lb) _ _ _ _ dX6_state_30 hq5 (hP.sub [0, 1, 2, 3, 4] rfl) (hD.sub [0, 1, 2, 3, 4] (by decide) rfl) hS
    ·
      have z3 := zi_eq c3
      refine lv_aload_n hx hb dX6_state_18 rfl (lv_at hl 0 rfl) ?_
      refine va_get (D := D) (ci := 5) (v := .ref aR) (C := RX6) (T := TX6) (N := 3) hx hb hts in_X6 hown hK hP 0 rfl rfl 2 (by decide) (hts _ wk24) (fun _ h9 => h9) rfl dX6_state_19 ?_
      refine lv_lload_n hx hb dX6_state_22 rfl (lv_at hl 2 rfl) ?_
      refine call_l (wc := [(aR, .inr (2, [.ref aB, .ref aQ, .int hd, .long pl, .int hv, .int lk, .int dn, .int ht, .int sl, .int br, .int wh])), (aB, .inr (3, [.long lb]))]) (wr := [(aX, .inr (5, [.ref aL, .ref aS, .ref aR])), (aS, .inr (4, [.ref aC, .ref aG, .int wa])), (aC, .inr (3, [.long la]))]) (run_V (As := [.long x]) (rest := []) kv_RX6_51 ⟨by decide, by decide⟩ ⟨rfl, rfl⟩ ⟨hx, hb, hml, hown, hts⟩ (c_Re_exchangeState l D cI cJ cB aR aB aQ hd pl hv lk dn ht sl br wh lb x  _) ct_blind (ct_pre (wc := [(aR, .inr (2, [.ref aB, .ref aQ, .int hd, .long pl, .int hv, .int lk, .int dn, .int ht, .int sl, .int br, .int wh])), (aB, .inr (3, [.long lb]))]) hK hP hD hS hA hZ hN [3, 4] (by decide) rfl rfl) (va_recv hK hP (ci := 2) (q0 := 3) rfl rfl) rfl hl.1 rfl (Nat.le_of_ble_eq_true rfl) dX6_state_23 ⟨Nat.le_of_ble_eq_true rfl, Nat.le_of_ble_eq_true rfl⟩) hP hD hS hA [3, 4] [0, 1, 2] rfl rfl (by decide) (by decide) (fun r6 u H locs hw6 hP1 hD1 hS1 => ?_)
      obtain ⟨la2_6, hu9⟩ : ∃ z, z = u := ⟨_, rfl⟩
      subst hu9
      have hw6 : r6 = lb := hw6
      clear hP hD hS
      have hP : va_P D classes [(aX, .inr (5, [.ref aL, .ref aS, .ref aR])), (aS, .inr (4, [.ref aC, .ref aG, .int wa])), (aC, .inr (3, [.long la])), (aR, .inr (2, [.ref aB, .ref aQ, .int hd, .long pl, .int hv, .int lk, .int dn, .int ht, .int sl, .int br, .int wh])), (aB, .inr (3, [.long la2_6]))] H := hP1
      have hD : va_D A [(aX, .inr (5, [.ref aL, .ref aS, .ref aR])), (aS, .inr (4, [.ref aC, .ref aG, .int wa])), (aC, .inr (3, [.long la])), (aR, .inr (2, [.ref aB, .ref aQ, .int hd, .long pl, .int hv, .int lk, .int dn, .int ht, .int sl, .int br, .int wh])), (aB, .inr (3, [.long la2_6]))] := hD1
      have hS := hS1
      clear hP1 hD1 hS1
      have hq7 : (sd.toInt = 0 → r6 = la) ∧ (sd.toInt = 1 → r6 = lb) ∧ ((¬ sd.toInt = 0 ∧ ¬ sd.toInt = 1) → r6 = -12) ∧ (sd.toInt = 0 → ∀ j, j < 58 → bl la j = bl x j) ∧ (¬ sd.toInt = 0 → la = la) := (by refine ⟨fun q => ?_, fun q => ?_, fun q => ?_, fun q => ?_, fun q => ?_⟩ <;> first | assumption | rfl | (exfalso; omega) | exact hw8.1 | exact hw8.2)
      exact hret r6 (la, la2_6) _ _ _ _ dX6_state_26 hq7 (hP.sub [0, 1, 2, 3, 4] rfl) (hD.sub [0, 1, 2, 3, 4] (by decide) rfl) hS
  ·
    have z1 := zi_eq0 c1
    refine lv_aload_n hx hb dX6_state_4 rfl (lv_at hl 0 rfl) ?_
    refine va_get (D := D) (ci := 5) (v := .ref aS) (C := RX6) (T := TX6) (N := 3) hx hb hts in_X6 hown hK hP 0 rfl rfl 1 (by decide) (hts _ wk20) (fun _ h9 => h9) rfl dX6_state_5 ?_
    refine lv_lload_n hx hb dX6_state_8 rfl (lv_at hl 2 rfl) ?_
    refine call_l (wc := [(aS, .inr (4, [.ref aC, .ref aG, .int wa])), (aC, .inr (3, [.long la]))]) (wr := [(aX, .inr (5, [.ref aL, .ref aS, .ref aR])), (aR, .inr (2, [.ref aB, .ref aQ, .int hd, .long pl, .int hv, .int lk, .int dn, .int ht, .int sl, .int br, .int wh])), (aB, .inr (3, [.long lb]))]) (run_V (As := [.long x]) (rest := []) kv_RX6_47 ⟨by decide, by decide⟩ ⟨rfl, rfl⟩ ⟨hx, hb, hml, hown, hts⟩ (c_Se_exchangeState l D cI cJ cB aS aC aG wa la x  _) ct_blind (ct_pre (wc := [(aS, .inr (4, [.ref aC, .ref aG, .int wa])), (aC, .inr (3, [.long la]))]) hK hP hD hS hA hZ hN [1, 2] (by decide) rfl rfl) (va_recv hK hP (ci := 4) (q0 := 1) rfl rfl) rfl hl.1 rfl (Nat.le_of_ble_eq_true rfl) dX6_state_9 ⟨Nat.le_of_ble_eq_true rfl, Nat.le_of_ble_eq_true rfl⟩) hP hD hS hA [1, 2] [0, 3, 4] rfl rfl (by decide) (by decide) (fun r8 u H locs hw8 hP1 hD1 hS1 => ?_)
    obtain ⟨la2_8, hu9⟩ : ∃ z, z = u := ⟨_, rfl⟩
    subst hu9
    have hw8 : r8 = la ∧ ∀ j, j < 58 → bl la2_8 j = bl x j := hw8
    clear hP hD hS
    have hP : va_P D classes [(aX, .inr (5, [.ref aL, .ref aS, .ref aR])), (aR, .inr (2, [.ref aB, .ref aQ, .int hd, .long pl, .int hv, .int lk, .int dn, .int ht, .int sl, .int br, .int wh])), (aB, .inr (3, [.long lb])), (aS, .inr (4, [.ref aC, .ref aG, .int wa])), (aC, .inr (3, [.long la2_8]))] H := hP1
    have hD : va_D A [(aX, .inr (5, [.ref aL, .ref aS, .ref aR])), (aR, .inr (2, [.ref aB, .ref aQ, .int hd, .long pl, .int hv, .int lk, .int dn, .int ht, .int sl, .int br, .int wh])), (aB, .inr (3, [.long lb])), (aS, .inr (4, [.ref aC, .ref aG, .int wa])), (aC, .inr (3, [.long la2_8]))] := hD1
    have hS := hS1
    clear hP1 hD1 hS1
    have hq9 : (sd.toInt = 0 → r8 = la) ∧ (sd.toInt = 1 → r8 = lb) ∧ ((¬ sd.toInt = 0 ∧ ¬ sd.toInt = 1) → r8 = -12) ∧ (sd.toInt = 0 → ∀ j, j < 58 → bl la2_8 j = bl x j) ∧ (¬ sd.toInt = 0 → la2_8 = la) := (by refine ⟨fun q => ?_, fun q => ?_, fun q => ?_, fun q => ?_, fun q => ?_⟩ <;> first | assumption | rfl | (exfalso; omega) | exact hw8.1 | exact hw8.2)
    exact hret r8 (la2_8, lb) _ _ _ _ dX6_state_12 hq9 (hP.sub [0, 3, 4, 1, 2] rfl) (hD.sub [0, 3, 4, 1, 2] (by decide) rfl) hS

set_option maxHeartbeats 4000000 in
set_option maxRecDepth 100000 in
theorem c_LB_bits (l : Launch) (D : va_G) (cI cJ cB : ClassId) (aX : Nat) (aL : Nat) (aW : Nat) (aS : Nat) (aR : Nat) (fi : Int32) (cn : Int32)  :
    cti l yX6_bits (wsOf yX6_bits cX6_bits 1 (some .int)) (rmL 1 20 0 0) D classes (tys3 cI cJ cB) [.ref aX] [(aX, .inr (5, [.ref aL, .ref aS, .ref aR])), (aL, .inr (1, [.ref aW, .int fi, .int cn]))] (fun (r : Int32) (u : Unit) => r.toInt = cn.toInt) (fun u : Unit => ([(aX, .inr (5, [.ref aL, .ref aS, .ref aR])), (aL, .inr (1, [.ref aW, .int fi, .int cn]))] : va_W)) := by
  refine cti.of (by first | exact plainFor_of_name (by decide) | decide +kernel) (Nat.le_of_ble_eq_true rfl) (fun p e s m args below meth c A ls Q h hret => ?_)
  obtain ⟨hx, hb, hml, hown, hts, hnm, hP, hK, hD, hA, hS, hZ, hN, hl⟩ := h
  have hown : s.vm.findClass RX6 = some m.cls := hown
  have hl : lv_has ls 1 [(0, .ref aX)] := hl
  have hP : va_P D classes [(aX, .inr (5, [.ref aL, .ref aS, .ref aR])), (aL, .inr (1, [.ref aW, .int fi, .int cn]))] s.heap := hP
  have hD : va_D A [(aX, .inr (5, [.ref aL, .ref aS, .ref aR])), (aL, .inr (1, [.ref aW, .int fi, .int cn]))] := hD
  have rg_fi := zi_rg fi
  have rg_cn := zi_rg cn
  refine lv_aload_n hx hb dX6_bits_0 rfl (lv_at hl 0 rfl) ?_
  refine va_get (D := D) (ci := 5) (v := .ref aL) (C := RX6) (T := TX6) (N := 3) hx hb hts in_X6 hown hK hP 0 rfl rfl 0 (by decide) (hts _ wk16) (fun _ h9 => h9) rfl dX6_bits_1 ?_
  refine call_i (wc := [(aL, .inr (1, [.ref aW, .int fi, .int cn]))]) (wr := [(aX, .inr (5, [.ref aL, .ref aS, .ref aR]))]) (run_V (As := []) (rest := []) kv_RX6_34 ⟨by decide, by decide⟩ ⟨rfl, rfl⟩ ⟨hx, hb, hml, hown, hts⟩ (c_Ln_size l D cI cJ cB aL aW fi cn  _) ct_blind (ct_pre (wc := [(aL, .inr (1, [.ref aW, .int fi, .int cn]))]) hK hP hD hS hA hZ hN [1] (by decide) rfl rfl) (va_recv hK hP (ci := 1) (q0 := 1) rfl rfl) rfl hl.1 rfl (Nat.le_of_ble_eq_true rfl) dX6_bits_4 ⟨Nat.le_of_ble_eq_true rfl, Nat.le_of_ble_eq_true rfl⟩) hP hD hS hA [1] [0] rfl rfl (by decide) (by decide) (fun r1 u H locs hw1 hP1 hD1 hS1 => ?_)
  have hw1 : r1.toInt = cn.toInt := hw1
  clear hP hD hS
  have hP : va_P D classes [(aX, .inr (5, [.ref aL, .ref aS, .ref aR])), (aL, .inr (1, [.ref aW, .int fi, .int cn]))] H := hP1
  have hD : va_D A [(aX, .inr (5, [.ref aL, .ref aS, .ref aR])), (aL, .inr (1, [.ref aW, .int fi, .int cn]))] := hD1
  have hS := hS1
  clear hP1 hD1 hS1
  have rg_r1 := zi_rg r1
  have hq2 : r1.toInt = cn.toInt := (by omega)
  exact hret r1 () _ _ _ _ dX6_bits_7 hq2 (hP.sub [0, 1] rfl) (hD.sub [0, 1] (by decide) rfl) hS

set_option maxHeartbeats 4000000 in
set_option maxRecDepth 100000 in
theorem c_LB_bit (l : Launch) (D : va_G) (cI cJ cB : ClassId) (aX : Nat) (aL : Nat) (aW : Nat) (aS : Nat) (aR : Nat) (fi : Int32) (cn : Int32) (i : Int32) (fw : Nat → Int64) (h1 : 0 ≤ fi.toInt ∧ fi.toInt < 9088) (h2 : 0 ≤ cn.toInt ∧ cn.toInt ≤ 9066) :
    cti l yX6_bit (wsOf yX6_bit cX6_bit 2 (some .int)) (rmL 3 65 0 0) D classes (tys3 cI cJ cB) [.ref aX, .int i] [(aX, .inr (5, [.ref aL, .ref aS, .ref aR])), (aL, .inr (1, [.ref aW, .int fi, .int cn])), (aW, .inl (cJ, 142, .inr (.inl fw)))] (fun (r : Int32) (u : Unit) => ((i.toInt < 0 ∨ cn.toInt ≤ i.toInt) → r.toInt = -1) ∧ ((0 ≤ i.toInt ∧ i.toInt < cn.toInt) → r = bi (lnB fw fi.toInt i.toInt))) (fun u : Unit => ([(aX, .inr (5, [.ref aL, .ref aS, .ref aR])), (aL, .inr (1, [.ref aW, .int fi, .int cn])), (aW, .inl (cJ, 142, .inr (.inl fw)))] : va_W)) := by
  refine cti.of (by first | exact plainFor_of_name (by decide) | decide +kernel) (Nat.le_of_ble_eq_true rfl) (fun p e s m args below meth c A ls Q h hret => ?_)
  obtain ⟨hx, hb, hml, hown, hts, hnm, hP, hK, hD, hA, hS, hZ, hN, hl⟩ := h
  have hown : s.vm.findClass RX6 = some m.cls := hown
  have hl : lv_has ls 2 [(0, .ref aX), (1, .int i)] := hl
  have hP : va_P D classes [(aX, .inr (5, [.ref aL, .ref aS, .ref aR])), (aL, .inr (1, [.ref aW, .int fi, .int cn])), (aW, .inl (cJ, 142, .inr (.inl fw)))] s.heap := hP
  have hD : va_D A [(aX, .inr (5, [.ref aL, .ref aS, .ref aR])), (aL, .inr (1, [.ref aW, .int fi, .int cn])), (aW, .inl (cJ, 142, .inr (.inl fw)))] := hD
  have rg_fi := zi_rg fi
  have rg_cn := zi_rg cn
  have rg_i := zi_rg i
  refine lv_aload_n hx hb dX6_bit_0 rfl (lv_at hl 0 rfl) ?_
  refine va_get (D := D) (ci := 5) (v := .ref aL) (C := RX6) (T := TX6) (N := 3) hx hb hts in_X6 hown hK hP 0 rfl rfl 0 (by decide) (hts _ wk16) (fun _ h9 => h9) rfl dX6_bit_1 ?_
  refine lv_iload_n hx hb dX6_bit_4 rfl (lv_at hl 1 rfl) ?_
  refine call_i (wc := [(aL, .inr (1, [.ref aW, .int fi, .int cn]))]) (wr := [(aX, .inr (5, [.ref aL, .ref aS, .ref aR])), (aW, .inl (cJ, 142, .inr (.inl fw)))]) (run_V (As := [.int i]) (rest := []) kv_RX6_54 ⟨by decide, by decide⟩ ⟨rfl, rfl⟩ ⟨hx, hb, hml, hown, hts⟩ (c_Ln_has l D cI cJ cB aL aW fi cn i  _) ct_blind (ct_pre (wc := [(aL, .inr (1, [.ref aW, .int fi, .int cn]))]) hK hP hD hS hA hZ hN [1] (by decide) rfl rfl) (va_recv hK hP (ci := 1) (q0 := 1) rfl rfl) rfl hl.1 rfl (Nat.le_of_ble_eq_true rfl) dX6_bit_5 ⟨Nat.le_of_ble_eq_true rfl, Nat.le_of_ble_eq_true rfl⟩) hP hD hS hA [1] [0, 2] rfl rfl (by decide) (by decide) (fun r1 u H locs hw1 hP1 hD1 hS1 => ?_)
  have hw1 : (r1.toInt = 1 ∧ 0 ≤ i.toInt ∧ i.toInt < cn.toInt) ∨ (r1.toInt = 0 ∧ (i.toInt < 0 ∨ cn.toInt ≤ i.toInt)) := hw1
  clear hP hD hS
  have hP : va_P D classes [(aX, .inr (5, [.ref aL, .ref aS, .ref aR])), (aW, .inl (cJ, 142, .inr (.inl fw))), (aL, .inr (1, [.ref aW, .int fi, .int cn]))] H := hP1
  have hD : va_D A [(aX, .inr (5, [.ref aL, .ref aS, .ref aR])), (aW, .inl (cJ, 142, .inr (.inl fw))), (aL, .inr (1, [.ref aW, .int fi, .int cn]))] := hD1
  have hS := hS1
  clear hP1 hD1 hS1
  have rg_r1 := zi_rg r1
  refine lv_if_eq (tgt := 22) hx hb dX6_bit_8 (by decide) (fun c2 => ?_) (fun c2 => ?_)
  ·
    have z2 := zi_eq0 c2
    refine lv_iconst (v := -1) hx hb dX6_bit_22 (by decide) ?_
    refine lv_topi (fun v3 e3 => ?_)
    have z3 : v3.toInt = (-1) := zi_c e3 (by decide)
    have hq4 : ((i.toInt < 0 ∨ cn.toInt ≤ i.toInt) → v3.toInt = -1) ∧ ((0 ≤ i.toInt ∧ i.toInt < cn.toInt) → v3 = bi (lnB fw fi.toInt i.toInt)) := (by refine ⟨fun q => ?_, fun q => ?_⟩ <;> first | omega | (exfalso; omega) | exact hw7.2)
    exact hret v3 () _ _ _ _ dX6_bit_23 hq4 (hP.sub [0, 2, 1] rfl) (hD.sub [0, 2, 1] (by decide) rfl) hS
  ·
    have z2 := zi_ne0 c2
    refine lv_aload_n hx hb dX6_bit_11 rfl (lv_at hl 0 rfl) ?_
    refine va_get (D := D) (ci := 5) (v := .ref aL) (C := RX6) (T := TX6) (N := 3) hx hb hts in_X6 hown hK hP 0 rfl rfl 0 (by decide) (hts _ wk16) (fun _ h9 => h9) rfl dX6_bit_12 ?_
    refine lv_iload_n hx hb dX6_bit_15 rfl (lv_at hl 1 rfl) ?_
    have hh5 : 0 ≤ fi.toInt ∧ fi.toInt < 9088 := (by omega)
    have hh6 : 0 ≤ i.toInt ∧ i.toInt ≤ 9087 := (by omega)
    refine call_i (wc := [(aL, .inr (1, [.ref aW, .int fi, .int cn])), (aW, .inl (cJ, 142, .inr (.inl fw)))]) (wr := [(aX, .inr (5, [.ref aL, .ref aS, .ref aR]))]) (run_V (As := [.int i]) (rest := []) kv_RX6_58 ⟨by decide, by decide⟩ ⟨rfl, rfl⟩ ⟨hx, hb, hml, hown, hts⟩ (c_Ln_at l D cI cJ cB aL aW fi cn i fw hh5 hh6 _) ct_blind (ct_pre (wc := [(aL, .inr (1, [.ref aW, .int fi, .int cn])), (aW, .inl (cJ, 142, .inr (.inl fw)))]) hK hP hD hS hA hZ hN [2, 1] (by decide) rfl rfl) (va_recv hK hP (ci := 1) (q0 := 2) rfl rfl) rfl hl.1 rfl (Nat.le_of_ble_eq_true rfl) dX6_bit_16 ⟨Nat.le_of_ble_eq_true rfl, Nat.le_of_ble_eq_true rfl⟩) hP hD hS hA [2, 1] [0] rfl rfl (by decide) (by decide) (fun r7 u H locs hw7 hP1 hD1 hS1 => ?_)
    have hw7 : (0 ≤ r7.toInt ∧ r7.toInt < 2) ∧ r7 = bi (lnB fw fi.toInt i.toInt) := hw7
    clear hP hD hS
    have hP : va_P D classes [(aX, .inr (5, [.ref aL, .ref aS, .ref aR])), (aL, .inr (1, [.ref aW, .int fi, .int cn])), (aW, .inl (cJ, 142, .inr (.inl fw)))] H := hP1
    have hD : va_D A [(aX, .inr (5, [.ref aL, .ref aS, .ref aR])), (aL, .inr (1, [.ref aW, .int fi, .int cn])), (aW, .inl (cJ, 142, .inr (.inl fw)))] := hD1
    have hS := hS1
    clear hP1 hD1 hS1
    have rg_r7 := zi_rg r7
    refine lv_goto (tgt := 23) hx hb dX6_bit_19 (by decide) ?_
    have hq8 : ((i.toInt < 0 ∨ cn.toInt ≤ i.toInt) → r7.toInt = -1) ∧ ((0 ≤ i.toInt ∧ i.toInt < cn.toInt) → r7 = bi (lnB fw fi.toInt i.toInt)) := (by refine ⟨fun q => ?_, fun q => ?_⟩ <;> first | omega | (exfalso; omega) | exact hw7.2)
    exact hret r7 () _ _ _ _ dX6_bit_23 hq8 (hP.sub [0, 1, 2] rfl) (hD.sub [0, 1, 2] (by decide) rfl) hS

set_option maxHeartbeats 4000000 in
set_option maxRecDepth 100000 in
theorem c_LB_turn (l : Launch) (D : va_G) (cI cJ cB : ClassId) (aX : Nat) (aL : Nat) (aW : Nat) (aS : Nat) (aR : Nat) (fi : Int32) (cn : Int32) (i : Int32) (fw : Nat → Int64) (h1 : 0 ≤ fi.toInt ∧ fi.toInt < 9088) (h2 : 0 ≤ cn.toInt ∧ cn.toInt ≤ 9066) :
    cti l yX6_turn (wsOf yX6_turn cX6_turn 2 (some .int)) (rmL 3 65 0 0) D classes (tys3 cI cJ cB) [.ref aX, .int i] [(aX, .inr (5, [.ref aL, .ref aS, .ref aR])), (aL, .inr (1, [.ref aW, .int fi, .int cn])), (aW, .inl (cJ, 142, .inr (.inl fw)))] (fun (r : Int32) (u : (Nat → Int64)) => ((i.toInt < 0 ∨ cn.toInt ≤ i.toInt) → r.toInt = -12 ∧ u = fw) ∧ ((0 ≤ i.toInt ∧ i.toInt < cn.toInt) → r = bi (!lnB fw fi.toInt i.toInt) ∧ ∀ j : Int, 0 ≤ j → j < cn.toInt → lnB u fi.toInt j = if j = i.toInt then !lnB fw fi.toInt j else lnB fw fi.toInt j)) (fun u : (Nat → Int64) => ([(aX, .inr (5, [.ref aL, .ref aS, .ref aR])), (aL, .inr (1, [.ref aW, .int fi, .int cn])), (aW, .inl (cJ, 142, .inr (.inl u)))] : va_W)) := by
  refine cti.of (by first | exact plainFor_of_name (by decide) | decide +kernel) (Nat.le_of_ble_eq_true rfl) (fun p e s m args below meth c A ls Q h hret => ?_)
  obtain ⟨hx, hb, hml, hown, hts, hnm, hP, hK, hD, hA, hS, hZ, hN, hl⟩ := h
  have hown : s.vm.findClass RX6 = some m.cls := hown
  have hl : lv_has ls 2 [(0, .ref aX), (1, .int i)] := hl
  have hP : va_P D classes [(aX, .inr (5, [.ref aL, .ref aS, .ref aR])), (aL, .inr (1, [.ref aW, .int fi, .int cn])), (aW, .inl (cJ, 142, .inr (.inl fw)))] s.heap := hP
  have hD : va_D A [(aX, .inr (5, [.ref aL, .ref aS, .ref aR])), (aL, .inr (1, [.ref aW, .int fi, .int cn])), (aW, .inl (cJ, 142, .inr (.inl fw)))] := hD
  have rg_fi := zi_rg fi
  have rg_cn := zi_rg cn
  have rg_i := zi_rg i
  refine lv_aload_n hx hb dX6_turn_0 rfl (lv_at hl 0 rfl) ?_
  refine va_get (D := D) (ci := 5) (v := .ref aL) (C := RX6) (T := TX6) (N := 3) hx hb hts in_X6 hown hK hP 0 rfl rfl 0 (by decide) (hts _ wk16) (fun _ h9 => h9) rfl dX6_turn_1 ?_
  refine lv_iload_n hx hb dX6_turn_4 rfl (lv_at hl 1 rfl) ?_
  refine call_i (wc := [(aL, .inr (1, [.ref aW, .int fi, .int cn]))]) (wr := [(aX, .inr (5, [.ref aL, .ref aS, .ref aR])), (aW, .inl (cJ, 142, .inr (.inl fw)))]) (run_V (As := [.int i]) (rest := []) kv_RX6_54 ⟨by decide, by decide⟩ ⟨rfl, rfl⟩ ⟨hx, hb, hml, hown, hts⟩ (c_Ln_has l D cI cJ cB aL aW fi cn i  _) ct_blind (ct_pre (wc := [(aL, .inr (1, [.ref aW, .int fi, .int cn]))]) hK hP hD hS hA hZ hN [1] (by decide) rfl rfl) (va_recv hK hP (ci := 1) (q0 := 1) rfl rfl) rfl hl.1 rfl (Nat.le_of_ble_eq_true rfl) dX6_turn_5 ⟨Nat.le_of_ble_eq_true rfl, Nat.le_of_ble_eq_true rfl⟩) hP hD hS hA [1] [0, 2] rfl rfl (by decide) (by decide) (fun r1 u H locs hw1 hP1 hD1 hS1 => ?_)
  have hw1 : (r1.toInt = 1 ∧ 0 ≤ i.toInt ∧ i.toInt < cn.toInt) ∨ (r1.toInt = 0 ∧ (i.toInt < 0 ∨ cn.toInt ≤ i.toInt)) := hw1
  clear hP hD hS
  have hP : va_P D classes [(aX, .inr (5, [.ref aL, .ref aS, .ref aR])), (aW, .inl (cJ, 142, .inr (.inl fw))), (aL, .inr (1, [.ref aW, .int fi, .int cn]))] H := hP1
  have hD : va_D A [(aX, .inr (5, [.ref aL, .ref aS, .ref aR])), (aW, .inl (cJ, 142, .inr (.inl fw))), (aL, .inr (1, [.ref aW, .int fi, .int cn]))] := hD1
  have hS := hS1
  clear hP1 hD1 hS1
  have rg_r1 := zi_rg r1
  refine lv_if_ne (tgt := 14) hx hb dX6_turn_8 (by decide) (fun c2 => ?_) (fun c2 => ?_)
  ·
    have z2 := zi_ne0 c2
    refine lv_aload_n hx hb dX6_turn_14 rfl (lv_at hl 0 rfl) ?_
    refine va_get (D := D) (ci := 5) (v := .ref aL) (C := RX6) (T := TX6) (N := 3) hx hb hts in_X6 hown hK hP 0 rfl rfl 0 (by decide) (hts _ wk16) (fun _ h9 => h9) rfl dX6_turn_15 ?_
    refine lv_iload_n hx hb dX6_turn_18 rfl (lv_at hl 1 rfl) ?_
    have hh3 : 0 ≤ fi.toInt ∧ fi.toInt < 9088 := (by omega)
    have hh4 : 0 ≤ i.toInt ∧ i.toInt ≤ 9087 := (by omega)
    refine call_v (wc := [(aL, .inr (1, [.ref aW, .int fi, .int cn])), (aW, .inl (cJ, 142, .inr (.inl fw)))]) (wr := [(aX, .inr (5, [.ref aL, .ref aS, .ref aR]))]) (run_V (As := [.int i]) (rest := []) kv_RX6_62 ⟨by decide, by decide⟩ ⟨rfl, rfl⟩ ⟨hx, hb, hml, hown, hts⟩ (c_Ln_flip l D cI cJ cB aL aW fi cn i fw hh3 hh4 _) ct_blind (ct_pre (wc := [(aL, .inr (1, [.ref aW, .int fi, .int cn])), (aW, .inl (cJ, 142, .inr (.inl fw)))]) hK hP hD hS hA hZ hN [2, 1] (by decide) rfl rfl) (va_recv hK hP (ci := 1) (q0 := 2) rfl rfl) rfl hl.1 rfl (Nat.le_of_ble_eq_true rfl) dX6_turn_19 ⟨Nat.le_of_ble_eq_true rfl, Nat.le_of_ble_eq_true rfl⟩) hP hD hS hA [2, 1] [0] rfl rfl (by decide) (by decide) (fun u H locs hw5 hP1 hD1 hS1 => ?_)
    obtain ⟨fw2_5, hu9⟩ : ∃ z, z = u := ⟨_, rfl⟩
    subst hu9
    have hw5 : ∀ j : Int, lnB fw2_5 fi.toInt j = if (fi.toInt + j) % 9088 = (fi.toInt + i.toInt) % 9088 then !lnB fw fi.toInt j else lnB fw fi.toInt j := hw5
    clear hP hD hS
    have hP : va_P D classes [(aX, .inr (5, [.ref aL, .ref aS, .ref aR])), (aL, .inr (1, [.ref aW, .int fi, .int cn])), (aW, .inl (cJ, 142, .inr (.inl fw2_5)))] H := hP1
    have hD : va_D A [(aX, .inr (5, [.ref aL, .ref aS, .ref aR])), (aL, .inr (1, [.ref aW, .int fi, .int cn])), (aW, .inl (cJ, 142, .inr (.inl fw2_5)))] := hD1
    have hS := hS1
    clear hP1 hD1 hS1
    refine lv_aload_n hx hb dX6_turn_22 rfl (lv_at hl 0 rfl) ?_
    refine va_get (D := D) (ci := 5) (v := .ref aL) (C := RX6) (T := TX6) (N := 3) hx hb hts in_X6 hown hK hP 0 rfl rfl 0 (by decide) (hts _ wk16) (fun _ h9 => h9) rfl dX6_turn_23 ?_
    refine lv_iload_n hx hb dX6_turn_26 rfl (lv_at hl 1 rfl) ?_
    have hh6 : 0 ≤ fi.toInt ∧ fi.toInt < 9088 := (by omega)
    have hh7 : 0 ≤ i.toInt ∧ i.toInt ≤ 9087 := (by omega)
    refine call_i (wc := [(aL, .inr (1, [.ref aW, .int fi, .int cn])), (aW, .inl (cJ, 142, .inr (.inl fw2_5)))]) (wr := [(aX, .inr (5, [.ref aL, .ref aS, .ref aR]))]) (run_V (As := [.int i]) (rest := []) kv_RX6_58 ⟨by decide, by decide⟩ ⟨rfl, rfl⟩ ⟨hx, hb, hml, hown, hts⟩ (c_Ln_at l D cI cJ cB aL aW fi cn i fw2_5 hh6 hh7 _) ct_blind (ct_pre (wc := [(aL, .inr (1, [.ref aW, .int fi, .int cn])), (aW, .inl (cJ, 142, .inr (.inl fw2_5)))]) hK hP hD hS hA hZ hN [1, 2] (by decide) rfl rfl) (va_recv hK hP (ci := 1) (q0 := 1) rfl rfl) rfl hl.1 rfl (Nat.le_of_ble_eq_true rfl) dX6_turn_27 ⟨Nat.le_of_ble_eq_true rfl, Nat.le_of_ble_eq_true rfl⟩) hP hD hS hA [1, 2] [0] rfl rfl (by decide) (by decide) (fun r8 u H locs hw8 hP1 hD1 hS1 => ?_)
    have hw8 : (0 ≤ r8.toInt ∧ r8.toInt < 2) ∧ r8 = bi (lnB fw2_5 fi.toInt i.toInt) := hw8
    clear hP hD hS
    have hP : va_P D classes [(aX, .inr (5, [.ref aL, .ref aS, .ref aR])), (aL, .inr (1, [.ref aW, .int fi, .int cn])), (aW, .inl (cJ, 142, .inr (.inl fw2_5)))] H := hP1
    have hD : va_D A [(aX, .inr (5, [.ref aL, .ref aS, .ref aR])), (aL, .inr (1, [.ref aW, .int fi, .int cn])), (aW, .inl (cJ, 142, .inr (.inl fw2_5)))] := hD1
    have hS := hS1
    clear hP1 hD1 hS1
    have rg_r8 := zi_rg r8
    have hq9 : ((i.toInt < 0 ∨ cn.toInt ≤ i.toInt) → r8.toInt = -12 ∧ fw2_5 = fw) ∧ ((0 ≤ i.toInt ∧ i.toInt < cn.toInt) → r8 = bi (!lnB fw fi.toInt i.toInt) ∧ ∀ j : Int, 0 ≤ j → j < cn.toInt → lnB fw2_5 fi.toInt j = if j = i.toInt then !lnB fw fi.toInt j else lnB fw fi.toInt j) := (by refine ⟨fun q => ?_, fun q => ?_⟩ <;> first | (exfalso; omega) | exact ⟨by omega, rfl⟩ | exact ⟨by rw [hw8.2, hw5, if_pos rfl], fun j a b => by rw [hw5 j]; by_cases g : j = i.toInt; (· rw [if_pos (by rw [g]), if_pos g]); (· rw [if_neg (by omega), if_neg g])⟩)
    exact hret r8 fw2_5 _ _ _ _ dX6_turn_30 hq9 (hP.sub [0, 1, 2] rfl) (hD.sub [0, 1, 2] (by decide) rfl) hS
  ·
    have z2 := zi_eq0 c2
    refine lv_bipush (v := -12) hx hb dX6_turn_11 (by decide) ?_
    refine lv_topi (fun v10 e10 => ?_)
    have z10 : v10.toInt = (-12) := zi_c e10 (by decide)
    have hq11 : ((i.toInt < 0 ∨ cn.toInt ≤ i.toInt) → v10.toInt = -12 ∧ fw = fw) ∧ ((0 ≤ i.toInt ∧ i.toInt < cn.toInt) → v10 = bi (!lnB fw fi.toInt i.toInt) ∧ ∀ j : Int, 0 ≤ j → j < cn.toInt → lnB fw fi.toInt j = if j = i.toInt then !lnB fw fi.toInt j else lnB fw fi.toInt j) := (by refine ⟨fun q => ?_, fun q => ?_⟩ <;> first | (exfalso; omega) | exact ⟨by omega, rfl⟩ | exact ⟨by rw [hw8.2, hw5, if_pos rfl], fun j a b => by rw [hw5 j]; by_cases g : j = i.toInt; (· rw [if_pos (by rw [g]), if_pos g]); (· rw [if_neg (by omega), if_neg g])⟩)
    exact hret v10 fw _ _ _ _ dX6_turn_13 hq11 (hP.sub [0, 2, 1] rfl) (hD.sub [0, 2, 1] (by decide) rfl) hS

set_option maxHeartbeats 4000000 in
set_option maxRecDepth 100000 in
theorem c_LB_add (l : Launch) (D : va_G) (cI cJ cB : ClassId) (aX : Nat) (aL : Nat) (aW : Nat) (aS : Nat) (aR : Nat) (fi : Int32) (cn : Int32) (b : Int32) (fw : Nat → Int64) (h1 : 0 ≤ fi.toInt ∧ fi.toInt < 9088) (h2 : 0 ≤ cn.toInt ∧ cn.toInt ≤ 9066) :
    cti l yX6_add (wsOf yX6_add cX6_add 2 (some .int)) (rmL 3 65 0 0) D classes (tys3 cI cJ cB) [.ref aX, .int b] [(aX, .inr (5, [.ref aL, .ref aS, .ref aR])), (aL, .inr (1, [.ref aW, .int fi, .int cn])), (aW, .inl (cJ, 142, .inr (.inl fw)))] (fun (r : Int32) (u : Int32 × (Nat → Int64)) => (((¬ b.toInt = 0 ∧ ¬ b.toInt = 1) → r.toInt = -12 ∧ u.1.toInt = cn.toInt) ∧ ((b.toInt = 0 ∨ b.toInt = 1) → (9066 ≤ cn.toInt → r.toInt = -14 ∧ u.1.toInt = cn.toInt) ∧ (cn.toInt < 9066 → r.toInt = cn.toInt + 1 ∧ u.1.toInt = cn.toInt + 1))) ∧ (¬ ((b.toInt = 0 ∨ b.toInt = 1) ∧ cn.toInt < 9066) → u.2 = fw) ∧ (((b.toInt = 0 ∨ b.toInt = 1) ∧ cn.toInt < 9066) → lnB u.2 fi.toInt cn.toInt = bt b 0 ∧ ∀ j : Int, 0 ≤ j → j < cn.toInt → lnB u.2 fi.toInt j = lnB fw fi.toInt j)) (fun u : Int32 × (Nat → Int64) => ([(aX, .inr (5, [.ref aL, .ref aS, .ref aR])), (aL, .inr (1, [.ref aW, .int fi, .int u.1])), (aW, .inl (cJ, 142, .inr (.inl u.2)))] : va_W)) := by
  refine cti.of (by first | exact plainFor_of_name (by decide) | decide +kernel) (Nat.le_of_ble_eq_true rfl) (fun p e s m args below meth c A ls Q h hret => ?_)
  obtain ⟨hx, hb, hml, hown, hts, hnm, hP, hK, hD, hA, hS, hZ, hN, hl⟩ := h
  have hown : s.vm.findClass RX6 = some m.cls := hown
  have hl : lv_has ls 2 [(0, .ref aX), (1, .int b)] := hl
  have hP : va_P D classes [(aX, .inr (5, [.ref aL, .ref aS, .ref aR])), (aL, .inr (1, [.ref aW, .int fi, .int cn])), (aW, .inl (cJ, 142, .inr (.inl fw)))] s.heap := hP
  have hD : va_D A [(aX, .inr (5, [.ref aL, .ref aS, .ref aR])), (aL, .inr (1, [.ref aW, .int fi, .int cn])), (aW, .inl (cJ, 142, .inr (.inl fw)))] := hD
  have rg_fi := zi_rg fi
  have rg_cn := zi_rg cn
  have rg_b := zi_rg b
  refine lv_iload_n hx hb dX6_add_0 rfl (lv_at hl 1 rfl) ?_
  refine lv_if_eq (tgt := 12) hx hb dX6_add_1 (by decide) (fun c1 => ?_) (fun c1 => ?_)
  ·
    have z1 := zi_eq0 c1
    refine lv_aload_n hx hb dX6_add_12 rfl (lv_at hl 0 rfl) ?_
    refine va_get (D := D) (ci := 5) (v := .ref aL) (C := RX6) (T := TX6) (N := 3) hx hb hts in_X6 hown hK hP 0 rfl rfl 0 (by decide) (hts _ wk16) (fun _ h9 => h9) rfl dX6_add_13 ?_
    refine call_i (wc := [(aL, .inr (1, [.ref aW, .int fi, .int cn]))]) (wr := [(aX, .inr (5, [.ref aL, .ref aS, .ref aR])), (aW, .inl (cJ, 142, .inr (.inl fw)))]) (run_V (As := []) (rest := []) kv_RX6_34 ⟨by decide, by decide⟩ ⟨rfl, rfl⟩ ⟨hx, hb, hml, hown, hts⟩ (c_Ln_size l D cI cJ cB aL aW fi cn  _) ct_blind (ct_pre (wc := [(aL, .inr (1, [.ref aW, .int fi, .int cn]))]) hK hP hD hS hA hZ hN [1] (by decide) rfl rfl) (va_recv hK hP (ci := 1) (q0 := 1) rfl rfl) rfl hl.1 rfl (Nat.le_of_ble_eq_true rfl) dX6_add_16 ⟨Nat.le_of_ble_eq_true rfl, Nat.le_of_ble_eq_true rfl⟩) hP hD hS hA [1] [0, 2] rfl rfl (by decide) (by decide) (fun r2 u H locs hw2 hP1 hD1 hS1 => ?_)
    have hw2 : r2.toInt = cn.toInt := hw2
    clear hP hD hS
    have hP : va_P D classes [(aX, .inr (5, [.ref aL, .ref aS, .ref aR])), (aW, .inl (cJ, 142, .inr (.inl fw))), (aL, .inr (1, [.ref aW, .int fi, .int cn]))] H := hP1
    have hD : va_D A [(aX, .inr (5, [.ref aL, .ref aS, .ref aR])), (aW, .inl (cJ, 142, .inr (.inl fw))), (aL, .inr (1, [.ref aW, .int fi, .int cn]))] := hD1
    have hS := hS1
    clear hP1 hD1 hS1
    have rg_r2 := zi_rg r2
    refine lv_sipush (v := 9066) hx hb dX6_add_19 (by decide) ?_
    refine lv_topi (fun v3 e3 => ?_)
    have z3 : v3.toInt = 9066 := zi_c e3 (by decide)
    refine lv_icmp_lt (tgt := 28) hx hb dX6_add_22 (by decide) (fun c4 => ?_) (fun c4 => ?_)
    ·
      have z4 := zi_lt c4
      refine lv_aload_n hx hb dX6_add_28 rfl (lv_at hl 0 rfl) ?_
      refine va_get (D := D) (ci := 5) (v := .ref aL) (C := RX6) (T := TX6) (N := 3) hx hb hts in_X6 hown hK hP 0 rfl rfl 0 (by decide) (hts _ wk16) (fun _ h9 => h9) rfl dX6_add_29 ?_
      refine lv_iload_n hx hb dX6_add_32 rfl (lv_at hl 1 rfl) ?_
      have hh5 : 0 ≤ fi.toInt ∧ fi.toInt < 9088 := (by omega)
      have hh6 : 0 ≤ cn.toInt ∧ cn.toInt ≤ 9087 := (by omega)
      have hh7 : 0 ≤ b.toInt ∧ b.toInt ≤ 1 := (by omega)
      refine call_v (wc := [(aL, .inr (1, [.ref aW, .int fi, .int cn])), (aW, .inl (cJ, 142, .inr (.inl fw)))]) (wr := [(aX, .inr (5, [.ref aL, .ref aS, .ref aR]))]) (run_V (As := [.int b]) (rest := []) kv_RX6_66 ⟨by decide, by decide⟩ ⟨rfl, rfl⟩ ⟨hx, hb, hml, hown, hts⟩ (c_Ln_append l D cI cJ cB aL aW fi cn b fw hh5 hh6 hh7 _) ct_blind (ct_pre (wc := [(aL, .inr (1, [.ref aW, .int fi, .int cn])), (aW, .inl (cJ, 142, .inr (.inl fw)))]) hK hP hD hS hA hZ hN [2, 1] (by decide) rfl rfl) (va_recv hK hP (ci := 1) (q0 := 2) rfl rfl) rfl hl.1 rfl (Nat.le_of_ble_eq_true rfl) dX6_add_33 ⟨Nat.le_of_ble_eq_true rfl, Nat.le_of_ble_eq_true rfl⟩) hP hD hS hA [2, 1] [0] rfl rfl (by decide) (by decide) (fun u H locs hw8 hP1 hD1 hS1 => ?_)
      obtain ⟨cn2_8, fw2_8⟩ := u
      have hw8 : cn2_8.toInt = cn.toInt + 1 ∧ ∀ j : Int, lnB fw2_8 fi.toInt j = if (fi.toInt + j) % 9088 = (fi.toInt + cn.toInt) % 9088 then bt b 0 else lnB fw fi.toInt j := hw8
      clear hP hD hS
      have hP : va_P D classes [(aX, .inr (5, [.ref aL, .ref aS, .ref aR])), (aL, .inr (1, [.ref aW, .int fi, .int cn2_8])), (aW, .inl (cJ, 142, .inr (.inl fw2_8)))] H := hP1
      have hD : va_D A [(aX, .inr (5, [.ref aL, .ref aS, .ref aR])), (aL, .inr (1, [.ref aW, .int fi, .int cn2_8])), (aW, .inl (cJ, 142, .inr (.inl fw2_8)))] := hD1
      have hS := hS1
      clear hP1 hD1 hS1
      have rg_cn2_8 := zi_rg cn2_8
      refine lv_aload_n hx hb dX6_add_36 rfl (lv_at hl 0 rfl) ?_
      refine va_get (D := D) (ci := 5) (v := .ref aL) (C := RX6) (T := TX6) (N := 3) hx hb hts in_X6 hown hK hP 0 rfl rfl 0 (by decide) (hts _ wk16) (fun _ h9 => h9) rfl dX6_add_37 ?_
      refine call_i (wc := [(aL, .inr (1, [.ref aW, .int fi, .int cn2_8]))]) (wr := [(aX, .inr (5, [.ref aL, .ref aS, .ref aR])), (aW, .inl (cJ, 142, .inr (.inl fw2_8)))]) (run_V (As := []) (rest := []) kv_RX6_34 ⟨by decide, by decide⟩ ⟨rfl, rfl⟩ ⟨hx, hb, hml, hown, hts⟩ (c_Ln_size l D cI cJ cB aL aW fi cn2_8  _) ct_blind (ct_pre (wc := [(aL, .inr (1, [.ref aW, .int fi, .int cn2_8]))]) hK hP hD hS hA hZ hN [1] (by decide) rfl rfl) (va_recv hK hP (ci := 1) (q0 := 1) rfl rfl) rfl hl.1 rfl (Nat.le_of_ble_eq_true rfl) dX6_add_40 ⟨Nat.le_of_ble_eq_true rfl, Nat.le_of_ble_eq_true rfl⟩) hP hD hS hA [1] [0, 2] rfl rfl (by decide) (by decide) (fun r9 u H locs hw9 hP1 hD1 hS1 => ?_)
      have hw9 : r9.toInt = cn2_8.toInt := hw9
      clear hP hD hS
      have hP : va_P D classes [(aX, .inr (5, [.ref aL, .ref aS, .ref aR])), (aW, .inl (cJ, 142, .inr (.inl fw2_8))), (aL, .inr (1, [.ref aW, .int fi, .int cn2_8]))] H := hP1
      have hD : va_D A [(aX, .inr (5, [.ref aL, .ref aS, .ref aR])), (aW, .inl (cJ, 142, .inr (.inl fw2_8))), (aL, .inr (1, [.ref aW, .int fi, .int cn2_8]))] := hD1
      have hS := hS1
      clear hP1 hD1 hS1
      have rg_r9 := zi_rg r9
      have hq10 : (((¬ b.toInt = 0 ∧ ¬ b.toInt = 1) → r9.toInt = -12 ∧ cn2_8.toInt = cn.toInt) ∧ ((b.toInt = 0 ∨ b.toInt = 1) → (9066 ≤ cn.toInt → r9.toInt = -14 ∧ cn2_8.toInt = cn.toInt) ∧ (cn.toInt < 9066 → r9.toInt = cn.toInt + 1 ∧ cn2_8.toInt = cn.toInt + 1))) ∧ (¬ ((b.toInt = 0 ∨ b.toInt = 1) ∧ cn.toInt < 9066) → fw2_8 = fw) ∧ (((b.toInt = 0 ∨ b.toInt = 1) ∧ cn.toInt < 9066) → lnB fw2_8 fi.toInt cn.toInt = bt b 0 ∧ ∀ j : Int, 0 ≤ j → j < cn.toInt → lnB fw2_8 fi.toInt j = lnB fw fi.toInt j) := (by refine ⟨by omega, fun q => ?_, fun q => ?_⟩ <;> first | rfl | (exfalso; omega) | exact ⟨by rw [hw8.2, if_pos rfl], fun j a b => by rw [hw8.2 j, if_neg (by omega)]⟩ | exact ⟨by rw [hw21.2, if_pos rfl], fun j a b => by rw [hw21.2 j, if_neg (by omega)]⟩)
      exact hret r9 (cn2_8, fw2_8) _ _ _ _ dX6_add_43 hq10 (hP.sub [0, 2, 1] rfl) (hD.sub [0, 2, 1] (by decide) rfl) hS
    ·
      have z4 := zi_nlt c4
      refine lv_bipush (v := -14) hx hb dX6_add_25 (by decide) ?_
      refine lv_topi (fun v11 e11 => ?_)
      have z11 : v11.toInt = (-14) := zi_c e11 (by decide)
      have hq12 : (((¬ b.toInt = 0 ∧ ¬ b.toInt = 1) → v11.toInt = -12 ∧ cn.toInt = cn.toInt) ∧ ((b.toInt = 0 ∨ b.toInt = 1) → (9066 ≤ cn.toInt → v11.toInt = -14 ∧ cn.toInt = cn.toInt) ∧ (cn.toInt < 9066 → v11.toInt = cn.toInt + 1 ∧ cn.toInt = cn.toInt + 1))) ∧ (¬ ((b.toInt = 0 ∨ b.toInt = 1) ∧ cn.toInt < 9066) → fw = fw) ∧ (((b.toInt = 0 ∨ b.toInt = 1) ∧ cn.toInt < 9066) → lnB fw fi.toInt cn.toInt = bt b 0 ∧ ∀ j : Int, 0 ≤ j → j < cn.toInt → lnB fw fi.toInt j = lnB fw fi.toInt j) := (by refine ⟨by omega, fun q => ?_, fun q => ?_⟩ <;> first | rfl | (exfalso; omega) | exact ⟨by rw [hw8.2, if_pos rfl], fun j a b => by rw [hw8.2 j, if_neg (by omega)]⟩ | exact ⟨by rw [hw21.2, if_pos rfl], fun j a b => by rw [hw21.2 j, if_neg (by omega)]⟩)
      exact hret v11 (cn, fw) _ _ _ _ dX6_add_27 hq12 (hP.sub [0, 2, 1] rfl) (hD.sub [0, 2, 1] (by decide) rfl) hS
  ·
    have z1 := zi_ne0 c1
    refine lv_iload_n hx hb dX6_add_4 rfl (lv_at hl 1 rfl) ?_
    refine lv_iconst (v := 1) hx hb dX6_add_5 (by decide) ?_
    refine lv_topi (fun v13 e13 => ?_)
    have z13 : v13.toInt = 1 := zi_c e13 (by decide)
    refine lv_icmp_eq (tgt := 12) hx hb dX6_add_6 (by decide) (fun c14 => ?_) (fun c14 => ?_)
    ·
      have z14 := zi_eq c14
      refine lv_aload_n hx hb dX6_add_12 rfl (lv_at hl 0 rfl) ?_
      refine va_get (D := D) (ci := 5) (v := .ref aL) (C := RX6) (T := TX6) (N := 3) hx hb hts in_X6 hown hK hP 0 rfl rfl 0 (by decide) (hts _ wk16) (fun _ h9 => h9) rfl dX6_add_13 ?_
      refine call_i (wc := [(aL, .inr (1, [.ref aW, .int fi, .int cn]))]) (wr := [(aX, .inr (5, [.ref aL, .ref aS, .ref aR])), (aW, .inl (cJ, 142, .inr (.inl fw)))]) (run_V (As := []) (rest := []) kv_RX6_34 ⟨by decide, by decide⟩ ⟨rfl, rfl⟩ ⟨hx, hb, hml, hown, hts⟩ (c_Ln_size l D cI cJ cB aL aW fi cn  _) ct_blind (ct_pre (wc := [(aL, .inr (1, [.ref aW, .int fi, .int cn]))]) hK hP hD hS hA hZ hN [1] (by decide) rfl rfl) (va_recv hK hP (ci := 1) (q0 := 1) rfl rfl) rfl hl.1 rfl (Nat.le_of_ble_eq_true rfl) dX6_add_16 ⟨Nat.le_of_ble_eq_true rfl, Nat.le_of_ble_eq_true rfl⟩) hP hD hS hA [1] [0, 2] rfl rfl (by decide) (by decide) (fun r15 u H locs hw15 hP1 hD1 hS1 => ?_)
      have hw15 : r15.toInt = cn.toInt := hw15
      clear hP hD hS
      have hP : va_P D classes [(aX, .inr (5, [.ref aL, .ref aS, .ref aR])), (aW, .inl (cJ, 142, .inr (.inl fw))), (aL, .inr (1, [.ref aW, .int fi, .int cn]))] H := hP1
      have hD : va_D A [(aX, .inr (5, [.ref aL, .ref aS, .ref aR])), (aW, .inl (cJ, 142, .inr (.inl fw))), (aL, .inr (1, [.ref aW, .int fi, .int cn]))] := hD1
      have hS := hS1
      clear hP1 hD1 hS1
      have rg_r15 := zi_rg r15
      refine lv_sipush (v := 9066) hx hb dX6_add_19 (by decide) ?_
      refine lv_topi (fun v16 e16 => ?_)
      have z16 : v16.toInt = 9066 := zi_c e16 (by decide)
      refine lv_icmp_lt (tgt := 28) hx hb dX6_add_22 (by decide) (fun c17 => ?_) (fun c17 => ?_)
      ·
        have z17 := zi_lt c17
        refine lv_aload_n hx hb dX6_add_28 rfl (lv_at hl 0 rfl) ?_
        refine va_get (D := D) (ci := 5) (v := .ref aL) (C := RX6) (T := TX6) (N := 3) hx hb hts in_X6 hown hK hP 0 rfl rfl 0 (by decide) (hts _ wk16) (fun _ h9 => h9) rfl dX6_add_29 ?_
        refine lv_iload_n hx hb dX6_add_32 rfl (lv_at hl 1 rfl) ?_
        have hh18 : 0 ≤ fi.toInt ∧ fi.toInt < 9088 := (by omega)
        have hh19 : 0 ≤ cn.toInt ∧ cn.toInt ≤ 9087 := (by omega)
        have hh20 : 0 ≤ b.toInt ∧ b.toInt ≤ 1 := (by omega)
        refine call_v (wc := [(aL, .inr (1, [.ref aW, .int fi, .int cn])), (aW, .inl (cJ, 142, .inr (.inl fw)))]) (wr := [(aX, .inr (5, [.ref aL, .ref aS, .ref aR]))]) (run_V (As := [.int b]) (rest := []) kv_RX6_66 ⟨by decide, by decide⟩ ⟨rfl, rfl⟩ ⟨hx, hb, hml, hown, hts⟩ (c_Ln_append l D cI cJ cB aL aW fi cn b fw hh18 hh19 hh20 _) ct_blind (ct_pre (wc := [(aL, .inr (1, [.ref aW, .int fi, .int cn])), (aW, .inl (cJ, 142, .inr (.inl fw)))]) hK hP hD hS hA hZ hN [2, 1] (by decide) rfl rfl) (va_recv hK hP (ci := 1) (q0 := 2) rfl rfl) rfl hl.1 rfl (Nat.le_of_ble_eq_true rfl) dX6_add_33 ⟨Nat.le_of_ble_eq_true rfl, Nat.le_of_ble_eq_true rfl⟩) hP hD hS hA [2, 1] [0] rfl rfl (by decide) (by decide) (fun u H locs hw21 hP1 hD1 hS1 => ?_)
        obtain ⟨cn2_21, fw2_21⟩ := u
        have hw21 : cn2_21.toInt = cn.toInt + 1 ∧ ∀ j : Int, lnB fw2_21 fi.toInt j = if (fi.toInt + j) % 9088 = (fi.toInt + cn.toInt) % 9088 then bt b 0 else lnB fw fi.toInt j := hw21
        clear hP hD hS
        have hP : va_P D classes [(aX, .inr (5, [.ref aL, .ref aS, .ref aR])), (aL, .inr (1, [.ref aW, .int fi, .int cn2_21])), (aW, .inl (cJ, 142, .inr (.inl fw2_21)))] H := hP1
        have hD : va_D A [(aX, .inr (5, [.ref aL, .ref aS, .ref aR])), (aL, .inr (1, [.ref aW, .int fi, .int cn2_21])), (aW, .inl (cJ, 142, .inr (.inl fw2_21)))] := hD1
        have hS := hS1
        clear hP1 hD1 hS1
        have rg_cn2_21 := zi_rg cn2_21
        refine lv_aload_n hx hb dX6_add_36 rfl (lv_at hl 0 rfl) ?_
        refine va_get (D := D) (ci := 5) (v := .ref aL) (C := RX6) (T := TX6) (N := 3) hx hb hts in_X6 hown hK hP 0 rfl rfl 0 (by decide) (hts _ wk16) (fun _ h9 => h9) rfl dX6_add_37 ?_
        refine call_i (wc := [(aL, .inr (1, [.ref aW, .int fi, .int cn2_21]))]) (wr := [(aX, .inr (5, [.ref aL, .ref aS, .ref aR])), (aW, .inl (cJ, 142, .inr (.inl fw2_21)))]) (run_V (As := []) (rest := []) kv_RX6_34 ⟨by decide, by decide⟩ ⟨rfl, rfl⟩ ⟨hx, hb, hml, hown, hts⟩ (c_Ln_size l D cI cJ cB aL aW fi cn2_21  _) ct_blind (ct_pre (wc := [(aL, .inr (1, [.ref aW, .int fi, .int cn2_21]))]) hK hP hD hS hA hZ hN [1] (by decide) rfl rfl) (va_recv hK hP (ci := 1) (q0 := 1) rfl rfl) rfl hl.1 rfl (Nat.le_of_ble_eq_true rfl) dX6_add_40 ⟨Nat.le_of_ble_eq_true rfl, Nat.le_of_ble_eq_true rfl⟩) hP hD hS hA [1] [0, 2] rfl rfl (by decide) (by decide) (fun r22 u H locs hw22 hP1 hD1 hS1 => ?_)
        have hw22 : r22.toInt = cn2_21.toInt := hw22
        clear hP hD hS
        have hP : va_P D classes [(aX, .inr (5, [.ref aL, .ref aS, .ref aR])), (aW, .inl (cJ, 142, .inr (.inl fw2_21))), (aL, .inr (1, [.ref aW, .int fi, .int cn2_21]))] H := hP1
        have hD : va_D A [(aX, .inr (5, [.ref aL, .ref aS, .ref aR])), (aW, .inl (cJ, 142, .inr (.inl fw2_21))), (aL, .inr (1, [.ref aW, .int fi, .int cn2_21]))] := hD1
        have hS := hS1
        clear hP1 hD1 hS1
        have rg_r22 := zi_rg r22
        have hq23 : (((¬ b.toInt = 0 ∧ ¬ b.toInt = 1) → r22.toInt = -12 ∧ cn2_21.toInt = cn.toInt) ∧ ((b.toInt = 0 ∨ b.toInt = 1) → (9066 ≤ cn.toInt → r22.toInt = -14 ∧ cn2_21.toInt = cn.toInt) ∧ (cn.toInt < 9066 → r22.toInt = cn.toInt + 1 ∧ cn2_21.toInt = cn.toInt + 1))) ∧ (¬ ((b.toInt = 0 ∨ b.toInt = 1) ∧ cn.toInt < 9066) → fw2_21 = fw) ∧ (((b.toInt = 0 ∨ b.toInt = 1) ∧ cn.toInt < 9066) → lnB fw2_21 fi.toInt cn.toInt = bt b 0 ∧ ∀ j : Int, 0 ≤ j → j < cn.toInt → lnB fw2_21 fi.toInt j = lnB fw fi.toInt j) := (by refine ⟨by omega, fun q => ?_, fun q => ?_⟩ <;> first | rfl | (exfalso; omega) | exact ⟨by rw [hw8.2, if_pos rfl], fun j a b => by rw [hw8.2 j, if_neg (by omega)]⟩ | exact ⟨by rw [hw21.2, if_pos rfl], fun j a b => by rw [hw21.2 j, if_neg (by omega)]⟩)
        exact hret r22 (cn2_21, fw2_21) _ _ _ _ dX6_add_43 hq23 (hP.sub [0, 2, 1] rfl) (hD.sub [0, 2, 1] (by decide) rfl) hS
      ·
        have z17 := zi_nlt c17
        refine lv_bipush (v := -14) hx hb dX6_add_25 (by decide) ?_
        refine lv_topi (fun v24 e24 => ?_)
        have z24 : v24.toInt = (-14) := zi_c e24 (by decide)
        have hq25 : (((¬ b.toInt = 0 ∧ ¬ b.toInt = 1) → v24.toInt = -12 ∧ cn.toInt = cn.toInt) ∧ ((b.toInt = 0 ∨ b.toInt = 1) → (9066 ≤ cn.toInt → v24.toInt = -14 ∧ cn.toInt = cn.toInt) ∧ (cn.toInt < 9066 → v24.toInt = cn.toInt + 1 ∧ cn.toInt = cn.toInt + 1))) ∧ (¬ ((b.toInt = 0 ∨ b.toInt = 1) ∧ cn.toInt < 9066) → fw = fw) ∧ (((b.toInt = 0 ∨ b.toInt = 1) ∧ cn.toInt < 9066) → lnB fw fi.toInt cn.toInt = bt b 0 ∧ ∀ j : Int, 0 ≤ j → j < cn.toInt → lnB fw fi.toInt j = lnB fw fi.toInt j) := (by refine ⟨by omega, fun q => ?_, fun q => ?_⟩ <;> first | rfl | (exfalso; omega) | exact ⟨by rw [hw8.2, if_pos rfl], fun j a b => by rw [hw8.2 j, if_neg (by omega)]⟩ | exact ⟨by rw [hw21.2, if_pos rfl], fun j a b => by rw [hw21.2 j, if_neg (by omega)]⟩)
        exact hret v24 (cn, fw) _ _ _ _ dX6_add_27 hq25 (hP.sub [0, 2, 1] rfl) (hD.sub [0, 2, 1] (by decide) rfl) hS
    ·
      have z14 := zi_ne c14
      refine lv_bipush (v := -12) hx hb dX6_add_9 (by decide) ?_
      refine lv_topi (fun v26 e26 => ?_)
      have z26 : v26.toInt = (-12) := zi_c e26 (by decide)
      have hq27 : (((¬ b.toInt = 0 ∧ ¬ b.toInt = 1) → v26.toInt = -12 ∧ cn.toInt = cn.toInt) ∧ ((b.toInt = 0 ∨ b.toInt = 1) → (9066 ≤ cn.toInt → v26.toInt = -14 ∧ cn.toInt = cn.toInt) ∧ (cn.toInt < 9066 → v26.toInt = cn.toInt + 1 ∧ cn.toInt = cn.toInt + 1))) ∧ (¬ ((b.toInt = 0 ∨ b.toInt = 1) ∧ cn.toInt < 9066) → fw = fw) ∧ (((b.toInt = 0 ∨ b.toInt = 1) ∧ cn.toInt < 9066) → lnB fw fi.toInt cn.toInt = bt b 0 ∧ ∀ j : Int, 0 ≤ j → j < cn.toInt → lnB fw fi.toInt j = lnB fw fi.toInt j) := (by refine ⟨by omega, fun q => ?_, fun q => ?_⟩ <;> first | rfl | (exfalso; omega) | exact ⟨by rw [hw8.2, if_pos rfl], fun j a b => by rw [hw8.2 j, if_neg (by omega)]⟩ | exact ⟨by rw [hw21.2, if_pos rfl], fun j a b => by rw [hw21.2 j, if_neg (by omega)]⟩)
      exact hret v26 (cn, fw) _ _ _ _ dX6_add_11 hq27 (hP.sub [0, 1, 2] rfl) (hD.sub [0, 1, 2] (by decide) rfl) hS

set_option maxHeartbeats 4000000 in
set_option maxRecDepth 100000 in
theorem c_LB_receive (l : Launch) (D : va_G) (cI cJ cB : ClassId) (aX : Nat) (aL : Nat) (aW : Nat) (aS : Nat) (fi : Int32) (cn : Int32) (nn : Int32) (fw : Nat → Int64) (aR : Nat) (aB : Nat) (aQ : Nat) (aT : Nat) (aP : Nat) (hd : Int32) (pl : Int64) (hv : Int32) (lk : Int32) (dn : Int32) (ht : Int32) (sl : Int32) (br : Int32) (wh : Int32) (lb : Int64) (gc : Int32) (ft : Nat → Int32) (fp : Nat → Int64) (h1 : 0 ≤ fi.toInt ∧ fi.toInt < 9088) (h2 : 0 ≤ cn.toInt ∧ cn.toInt ≤ 9066) (h3 : 0 ≤ gc.toInt ∧ gc.toInt ≤ 900000000) (h4 : 0 ≤ lk.toInt ∧ lk.toInt ≤ 1) :
    cti l yX6_receive (wsOf yX6_receive cX6_receive 5 (some .int)) (rmL 5 108 0 0) D classes (tys3 cI cJ cB) [.ref aX, .int nn] [(aX, .inr (5, [.ref aL, .ref aS, .ref aR])), (aL, .inr (1, [.ref aW, .int fi, .int cn])), (aW, .inl (cJ, 142, .inr (.inl fw))), (aR, .inr (2, [.ref aB, .ref aQ, .int hd, .long pl, .int hv, .int lk, .int dn, .int ht, .int sl, .int br, .int wh])), (aB, .inr (3, [.long lb])), (aQ, .inr (0, [.ref aT, .ref aP, .int gc])), (aT, .inl (cI, 300, .inl ft)), (aP, .inl (cJ, 300, .inr (.inl fp)))] (fun (r : Int32) (u : Int32 × Int32 × Int32 × Int64 × Int32 × Int32 × Int32 × Int32 × Int32 × Int32 × Int32 × Int64 × Int32 × (Nat → Int32) × (Nat → Int64)) => (0 ≤ u.1.toInt ∧ u.1.toInt < 9088) ∧ (gc.toInt ≤ u.2.2.2.2.2.2.2.2.2.2.2.2.1.toInt ∧ u.2.2.2.2.2.2.2.2.2.2.2.2.1.toInt ≤ gc.toInt + 9066) ∧ (0 ≤ u.2.2.2.2.2.1.toInt ∧ u.2.2.2.2.2.1.toInt ≤ 1) ∧ (nn.toInt < 0 → r.toInt = -12 ∧ u.2.1.toInt = cn.toInt) ∧ (0 ≤ nn.toInt → (0 ≤ r.toInt ∧ r.toInt ≤ cn.toInt) ∧ (cn.toInt ≤ nn.toInt → u.2.1.toInt = 0) ∧ (nn.toInt < cn.toInt → u.2.1.toInt = cn.toInt - nn.toInt)) ∧ ∀ j : Int, lnB fw u.1.toInt j = lnB fw fi.toInt (j + (cn.toInt - u.2.1.toInt))) (fun u : Int32 × Int32 × Int32 × Int64 × Int32 × Int32 × Int32 × Int32 × Int32 × Int32 × Int32 × Int64 × Int32 × (Nat → Int32) × (Nat → Int64) => ([(aX, .inr (5, [.ref aL, .ref aS, .ref aR])), (aL, .inr (1, [.ref aW, .int u.1, .int u.2.1])), (aW, .inl (cJ, 142, .inr (.inl fw))), (aR, .inr (2, [.ref aB, .ref aQ, .int u.2.2.1, .long u.2.2.2.1, .int u.2.2.2.2.1, .int u.2.2.2.2.2.1, .int u.2.2.2.2.2.2.1, .int u.2.2.2.2.2.2.2.1, .int u.2.2.2.2.2.2.2.2.1, .int u.2.2.2.2.2.2.2.2.2.1, .int u.2.2.2.2.2.2.2.2.2.2.1])), (aB, .inr (3, [.long u.2.2.2.2.2.2.2.2.2.2.2.1])), (aQ, .inr (0, [.ref aT, .ref aP, .int u.2.2.2.2.2.2.2.2.2.2.2.2.1])), (aT, .inl (cI, 300, .inl u.2.2.2.2.2.2.2.2.2.2.2.2.2.1)), (aP, .inl (cJ, 300, .inr (.inl u.2.2.2.2.2.2.2.2.2.2.2.2.2.2)))] : va_W)) := by
  refine cti.of (by first | exact plainFor_of_name (by decide) | decide +kernel) (Nat.le_of_ble_eq_true rfl) (fun p e s m args below meth c A ls Q h hret => ?_)
  obtain ⟨hx, hb, hml, hown, hts, hnm, hP, hK, hD, hA, hS, hZ, hN, hl⟩ := h
  have hown : s.vm.findClass RX6 = some m.cls := hown
  have hl : lv_has ls 5 [(0, .ref aX), (1, .int nn)] := hl
  have hP : va_P D classes [(aX, .inr (5, [.ref aL, .ref aS, .ref aR])), (aL, .inr (1, [.ref aW, .int fi, .int cn])), (aW, .inl (cJ, 142, .inr (.inl fw))), (aR, .inr (2, [.ref aB, .ref aQ, .int hd, .long pl, .int hv, .int lk, .int dn, .int ht, .int sl, .int br, .int wh])), (aB, .inr (3, [.long lb])), (aQ, .inr (0, [.ref aT, .ref aP, .int gc])), (aT, .inl (cI, 300, .inl ft)), (aP, .inl (cJ, 300, .inr (.inl fp)))] s.heap := hP
  have hD : va_D A [(aX, .inr (5, [.ref aL, .ref aS, .ref aR])), (aL, .inr (1, [.ref aW, .int fi, .int cn])), (aW, .inl (cJ, 142, .inr (.inl fw))), (aR, .inr (2, [.ref aB, .ref aQ, .int hd, .long pl, .int hv, .int lk, .int dn, .int ht, .int sl, .int br, .int wh])), (aB, .inr (3, [.long lb])), (aQ, .inr (0, [.ref aT, .ref aP, .int gc])), (aT, .inl (cI, 300, .inl ft)), (aP, .inl (cJ, 300, .inr (.inl fp)))] := hD
  have rg_fi := zi_rg fi
  have rg_cn := zi_rg cn
  have rg_nn := zi_rg nn
  have rg_hd := zi_rg hd
  have rg_hv := zi_rg hv
  have rg_lk := zi_rg lk
  have rg_dn := zi_rg dn
  have rg_ht := zi_rg ht
  have rg_sl := zi_rg sl
  have rg_br := zi_rg br
  have rg_wh := zi_rg wh
  have rg_gc := zi_rg gc
  refine lv_iload_n hx hb dX6_receive_0 rfl (lv_at hl 1 rfl) ?_
  refine lv_if_ge (tgt := 7) hx hb dX6_receive_1 (by decide) (fun c1 => ?_) (fun c1 => ?_)
  ·
    have z1 := zi_ge0 c1
    refine lv_aload_n hx hb dX6_receive_7 rfl (lv_at hl 0 rfl) ?_
    refine va_get (D := D) (ci := 5) (v := .ref aR) (C := RX6) (T := TX6) (N := 3) hx hb hts in_X6 hown hK hP 0 rfl rfl 2 (by decide) (hts _ wk24) (fun _ h9 => h9) rfl dX6_receive_8 ?_
    refine call_i (wc := [(aR, .inr (2, [.ref aB, .ref aQ, .int hd, .long pl, .int hv, .int lk, .int dn, .int ht, .int sl, .int br, .int wh])), (aQ, .inr (0, [.ref aT, .ref aP, .int gc]))]) (wr := [(aX, .inr (5, [.ref aL, .ref aS, .ref aR])), (aL, .inr (1, [.ref aW, .int fi, .int cn])), (aW, .inl (cJ, 142, .inr (.inl fw))), (aB, .inr (3, [.long lb])), (aT, .inl (cI, 300, .inl ft)), (aP, .inl (cJ, 300, .inr (.inl fp)))]) (run_V (As := []) (rest := []) kv_RX6_69 ⟨by decide, by decide⟩ ⟨rfl, rfl⟩ ⟨hx, hb, hml, hown, hts⟩ (c_Re_groupCount l D cI cJ cB aR aB aQ aT aP hd pl hv lk dn ht sl br wh gc  _) ct_blind (ct_pre (wc := [(aR, .inr (2, [.ref aB, .ref aQ, .int hd, .long pl, .int hv, .int lk, .int dn, .int ht, .int sl, .int br, .int wh])), (aQ, .inr (0, [.ref aT, .ref aP, .int gc]))]) hK hP hD hS hA hZ hN [3, 5] (by decide) rfl rfl) (va_recv hK hP (ci := 2) (q0 := 3) rfl rfl) rfl hl.1 rfl (Nat.le_of_ble_eq_true rfl) dX6_receive_11 ⟨Nat.le_of_ble_eq_true rfl, Nat.le_of_ble_eq_true rfl⟩) hP hD hS hA [3, 5] [0, 1, 2, 4, 6, 7] rfl rfl (by decide) (by decide) (fun r2 u H locs hw2 hP1 hD1 hS1 => ?_)
    have hw2 : r2.toInt = gc.toInt := hw2
    clear hP hD hS
    have hP : va_P D classes [(aX, .inr (5, [.ref aL, .ref aS, .ref aR])), (aL, .inr (1, [.ref aW, .int fi, .int cn])), (aW, .inl (cJ, 142, .inr (.inl fw))), (aB, .inr (3, [.long lb])), (aT, .inl (cI, 300, .inl ft)), (aP, .inl (cJ, 300, .inr (.inl fp))), (aR, .inr (2, [.ref aB, .ref aQ, .int hd, .long pl, .int hv, .int lk, .int dn, .int ht, .int sl, .int br, .int wh])), (aQ, .inr (0, [.ref aT, .ref aP, .int gc]))] H := hP1
    have hD : va_D A [(aX, .inr (5, [.ref aL, .ref aS, .ref aR])), (aL, .inr (1, [.ref aW, .int fi, .int cn])), (aW, .inl (cJ, 142, .inr (.inl fw))), (aB, .inr (3, [.long lb])), (aT, .inl (cI, 300, .inl ft)), (aP, .inl (cJ, 300, .inr (.inl fp))), (aR, .inr (2, [.ref aB, .ref aQ, .int hd, .long pl, .int hv, .int lk, .int dn, .int ht, .int sl, .int br, .int wh])), (aQ, .inr (0, [.ref aT, .ref aP, .int gc]))] := hD1
    have hS := hS1
    clear hP1 hD1 hS1
    have rg_r2 := zi_rg r2
    refine lv_istore_n (lv' := [(2, .int r2), (0, .ref aX), (1, .int nn)]) hx hb dX6_receive_14 rfl hl (by decide) rfl (fun ls hl => ?_)
    refine lv_iload_n hx hb dX6_receive_15 rfl (lv_at hl 2 rfl) ?_
    refine lv_aload_n hx hb dX6_receive_16 rfl (lv_at hl 1 rfl) ?_
    refine va_get (D := D) (ci := 5) (v := .ref aL) (C := RX6) (T := TX6) (N := 3) hx hb hts in_X6 hown hK hP 0 rfl rfl 0 (by decide) (hts _ wk16) (fun _ h9 => h9) rfl dX6_receive_17 ?_
    refine call_i (wc := [(aL, .inr (1, [.ref aW, .int fi, .int cn]))]) (wr := [(aX, .inr (5, [.ref aL, .ref aS, .ref aR])), (aW, .inl (cJ, 142, .inr (.inl fw))), (aB, .inr (3, [.long lb])), (aT, .inl (cI, 300, .inl ft)), (aP, .inl (cJ, 300, .inr (.inl fp))), (aR, .inr (2, [.ref aB, .ref aQ, .int hd, .long pl, .int hv, .int lk, .int dn, .int ht, .int sl, .int br, .int wh])), (aQ, .inr (0, [.ref aT, .ref aP, .int gc]))]) (run_V (As := []) (rest := [.int nn]) kv_RX6_34 ⟨by decide, by decide⟩ ⟨rfl, rfl⟩ ⟨hx, hb, hml, hown, hts⟩ (c_Ln_size l D cI cJ cB aL aW fi cn  _) ct_blind (ct_pre (wc := [(aL, .inr (1, [.ref aW, .int fi, .int cn]))]) hK hP hD hS hA hZ hN [1] (by decide) rfl rfl) (va_recv hK hP (ci := 1) (q0 := 1) rfl rfl) rfl hl.1 rfl (Nat.le_of_ble_eq_true rfl) dX6_receive_20 ⟨Nat.le_of_ble_eq_true rfl, Nat.le_of_ble_eq_true rfl⟩) hP hD hS hA [1] [0, 2, 3, 4, 5, 6, 7] rfl rfl (by decide) (by decide) (fun r3 u H locs hw3 hP1 hD1 hS1 => ?_)
    have hw3 : r3.toInt = cn.toInt := hw3
    clear hP hD hS
    have hP : va_P D classes [(aX, .inr (5, [.ref aL, .ref aS, .ref aR])), (aW, .inl (cJ, 142, .inr (.inl fw))), (aB, .inr (3, [.long lb])), (aT, .inl (cI, 300, .inl ft)), (aP, .inl (cJ, 300, .inr (.inl fp))), (aR, .inr (2, [.ref aB, .ref aQ, .int hd, .long pl, .int hv, .int lk, .int dn, .int ht, .int sl, .int br, .int wh])), (aQ, .inr (0, [.ref aT, .ref aP, .int gc])), (aL, .inr (1, [.ref aW, .int fi, .int cn]))] H := hP1
    have hD : va_D A [(aX, .inr (5, [.ref aL, .ref aS, .ref aR])), (aW, .inl (cJ, 142, .inr (.inl fw))), (aB, .inr (3, [.long lb])), (aT, .inl (cI, 300, .inl ft)), (aP, .inl (cJ, 300, .inr (.inl fp))), (aR, .inr (2, [.ref aB, .ref aQ, .int hd, .long pl, .int hv, .int lk, .int dn, .int ht, .int sl, .int br, .int wh])), (aQ, .inr (0, [.ref aT, .ref aP, .int gc])), (aL, .inr (1, [.ref aW, .int fi, .int cn]))] := hD1
    have hS := hS1
    clear hP1 hD1 hS1
    have rg_r3 := zi_rg r3
    refine va_mmin hx hb (by rw [hml]; exact hl.1.symm) hown (hts _ wk302) (hts _ wk303) (hts _ wk143) (hts _ wk305) (Nat.le_of_ble_eq_true rfl) (Nat.le_of_ble_eq_true rfl) (Nat.le_of_ble_eq_true rfl) (Nat.le_of_ble_eq_true rfl) dX6_receive_23 ?_
    refine lv_topi (fun v4 e4 => ?_)
    have z4 := zi_min e4
    refine lv_istore_n (lv' := [(3, .int v4), (2, .int r2), (0, .ref aX), (1, .int nn)]) hx hb dX6_receive_26 rfl hl (by decide) rfl (fun ls hl => ?_)
    refine lv_iconst (v := 0) hx hb dX6_receive_27 (by decide) ?_
    refine lv_topi (fun v5 e5 => ?_)
    have z5 : v5.toInt = 0 := zi_c e5 (by decide)
    refine lv_istore (lv' := [(4, .int v5), (3, .int v4), (2, .int r2), (0, .ref aX), (1, .int nn)]) hx hb dX6_receive_28 hl (by decide) rfl (fun ls hl => ?_)
    have J30 : ∀ (n : Nat) (k : Int32) (hd3 : Int32) (pl3 : Int64) (hv3 : Int32) (lk3 : Int32) (dn3 : Int32) (ht3 : Int32) (sl3 : Int32) (br3 : Int32) (wh3 : Int32) (lb3 : Int64) (gc3 : Int32) (ft3 : Nat → Int32) (fp3 : Nat → Int64) (H : Heap) (locs : List Loc) (ls : Array Slot), ((v4.toInt - k.toInt).toNat) < n → (0 ≤ k.toInt ∧ k.toInt ≤ v4.toInt) → (gc.toInt ≤ gc3.toInt ∧ gc3.toInt ≤ gc.toInt + k.toInt) → (0 ≤ lk3.toInt ∧ lk3.toInt ≤ 1) → va_P D classes [(aX, .inr (5, [.ref aL, .ref aS, .ref aR])), (aW, .inl (cJ, 142, .inr (.inl fw))), (aB, .inr (3, [.long lb3])), (aT, .inl (cI, 300, .inl ft3)), (aP, .inl (cJ, 300, .inr (.inl fp3))), (aR, .inr (2, [.ref aB, .ref aQ, .int hd3, .long pl3, .int hv3, .int lk3, .int dn3, .int ht3, .int sl3, .int br3, .int wh3])), (aQ, .inr (0, [.ref aT, .ref aP, .int gc3])), (aL, .inr (1, [.ref aW, .int fi, .int cn]))] H → va_D A [(aX, .inr (5, [.ref aL, .ref aS, .ref aR])), (aW, .inl (cJ, 142, .inr (.inl fw))), (aB, .inr (3, [.long lb3])), (aT, .inl (cI, 300, .inl ft3)), (aP, .inl (cJ, 300, .inr (.inl fp3))), (aR, .inr (2, [.ref aB, .ref aQ, .int hd3, .long pl3, .int hv3, .int lk3, .int dn3, .int ht3, .int sl3, .int br3, .int wh3])), (aQ, .inr (0, [.ref aT, .ref aP, .int gc3])), (aL, .inr (1, [.ref aW, .int fi, .int cn]))] → va_S A s.heap H locs → lv_has ls 5 [(3, .int v4), (2, .int r2), (0, .ref aX), (1, .int nn), (4, .int k)] → W p l e (rmL 5 108 0 0) s m args below meth c H locs 0 0 Q (F0 m 30 ls []) := by
      intro n
      induction n with
      | zero => intro k hd3 pl3 hv3 lk3 dn3 ht3 sl3 br3 wh3 lb3 gc3 ft3 fp3 H locs ls hmu; exact absurd hmu (Nat.not_lt_zero _)
      | succ n ih30 =>
        intro k hd3 pl3 hv3 lk3 dn3 ht3 sl3 br3 wh3 lb3 gc3 ft3 fp3 H locs ls hmu30 i30_0 i30_1 i30_2 hP hD hS hl
        have rg_k := zi_rg k
        have rg_hd3 := zi_rg hd3
        have rg_hv3 := zi_rg hv3
        have rg_lk3 := zi_rg lk3
        have rg_dn3 := zi_rg dn3
        have rg_ht3 := zi_rg ht3
        have rg_sl3 := zi_rg sl3
        have rg_br3 := zi_rg br3
        have rg_wh3 := zi_rg wh3
        have rg_gc3 := zi_rg gc3
        refine lv_iload hx hb dX6_receive_30 (lv_at hl 4 rfl) ?_
        refine lv_iload_n hx hb dX6_receive_32 rfl (lv_at hl 0 rfl) ?_
        refine lv_icmp_ge (tgt := 58) hx hb dX6_receive_33 (by decide) (fun c6 => ?_) (fun c6 => ?_)
        ·
          have z6 := zi_le c6
          refine lv_aload_n hx hb dX6_receive_58 rfl (lv_at hl 2 rfl) ?_
          refine va_get (D := D) (ci := 5) (v := .ref aL) (C := RX6) (T := TX6) (N := 3) hx hb hts in_X6 hown hK hP 0 rfl rfl 0 (by decide) (hts _ wk16) (fun _ h9 => h9) rfl dX6_receive_59 ?_
          refine lv_iload_n hx hb dX6_receive_62 rfl (lv_at hl 0 rfl) ?_
          have hh7 : 0 ≤ fi.toInt ∧ fi.toInt < 9088 := (by omega)
          have hh8 : 0 ≤ cn.toInt ∧ cn.toInt ≤ 9066 := (by omega)
          have hh9 : 0 ≤ v4.toInt ∧ v4.toInt ≤ cn.toInt := (by omega)
          refine call_v (wc := [(aL, .inr (1, [.ref aW, .int fi, .int cn]))]) (wr := [(aX, .inr (5, [.ref aL, .ref aS, .ref aR])), (aW, .inl (cJ, 142, .inr (.inl fw))), (aB, .inr (3, [.long lb3])), (aT, .inl (cI, 300, .inl ft3)), (aP, .inl (cJ, 300, .inr (.inl fp3))), (aR, .inr (2, [.ref aB, .ref aQ, .int hd3, .long pl3, .int hv3, .int lk3, .int dn3, .int ht3, .int sl3, .int br3, .int wh3])), (aQ, .inr (0, [.ref aT, .ref aP, .int gc3]))]) (run_V (As := [.int v4]) (rest := []) kv_RX6_81 ⟨by decide, by decide⟩ ⟨rfl, rfl⟩ ⟨hx, hb, hml, hown, hts⟩ (c_Ln_dropFirst l D cI cJ cB aL aW fi cn v4 hh7 hh8 hh9 _) ct_blind (ct_pre (wc := [(aL, .inr (1, [.ref aW, .int fi, .int cn]))]) hK hP hD hS hA hZ hN [7] (by decide) rfl rfl) (va_recv hK hP (ci := 1) (q0 := 7) rfl rfl) rfl hl.1 rfl (Nat.le_of_ble_eq_true rfl) dX6_receive_63 ⟨Nat.le_of_ble_eq_true rfl, Nat.le_of_ble_eq_true rfl⟩) hP hD hS hA [7] [0, 1, 2, 3, 4, 5, 6] rfl rfl (by decide) (by decide) (fun u H locs hw10 hP1 hD1 hS1 => ?_)
          obtain ⟨fi2_10, cn2_10⟩ := u
          have hw10 : (0 ≤ fi2_10.toInt ∧ fi2_10.toInt < 9088) ∧ cn2_10.toInt = cn.toInt - v4.toInt ∧ fi2_10.toInt = (fi.toInt + v4.toInt) % 9088 := hw10
          clear hP hD hS
          have hP : va_P D classes [(aX, .inr (5, [.ref aL, .ref aS, .ref aR])), (aW, .inl (cJ, 142, .inr (.inl fw))), (aB, .inr (3, [.long lb3])), (aT, .inl (cI, 300, .inl ft3)), (aP, .inl (cJ, 300, .inr (.inl fp3))), (aR, .inr (2, [.ref aB, .ref aQ, .int hd3, .long pl3, .int hv3, .int lk3, .int dn3, .int ht3, .int sl3, .int br3, .int wh3])), (aQ, .inr (0, [.ref aT, .ref aP, .int gc3])), (aL, .inr (1, [.ref aW, .int fi2_10, .int cn2_10]))] H := hP1
          have hD : va_D A [(aX, .inr (5, [.ref aL, .ref aS, .ref aR])), (aW, .inl (cJ, 142, .inr (.inl fw))), (aB, .inr (3, [.long lb3])), (aT, .inl (cI, 300, .inl ft3)), (aP, .inl (cJ, 300, .inr (.inl fp3))), (aR, .inr (2, [.ref aB, .ref aQ, .int hd3, .long pl3, .int hv3, .int lk3, .int dn3, .int ht3, .int sl3, .int br3, .int wh3])), (aQ, .inr (0, [.ref aT, .ref aP, .int gc3])), (aL, .inr (1, [.ref aW, .int fi2_10, .int cn2_10]))] := hD1
          have hS := hS1
          clear hP1 hD1 hS1
          have rg_fi2_10 := zi_rg fi2_10
          have rg_cn2_10 := zi_rg cn2_10
          refine lv_aload_n hx hb dX6_receive_66 rfl (lv_at hl 2 rfl) ?_
          refine va_get (D := D) (ci := 5) (v := .ref aR) (C := RX6) (T := TX6) (N := 3) hx hb hts in_X6 hown hK hP 0 rfl rfl 2 (by decide) (hts _ wk24) (fun _ h9 => h9) rfl dX6_receive_67 ?_
          refine call_i (wc := [(aR, .inr (2, [.ref aB, .ref aQ, .int hd3, .long pl3, .int hv3, .int lk3, .int dn3, .int ht3, .int sl3, .int br3, .int wh3])), (aQ, .inr (0, [.ref aT, .ref aP, .int gc3]))]) (wr := [(aX, .inr (5, [.ref aL, .ref aS, .ref aR])), (aW, .inl (cJ, 142, .inr (.inl fw))), (aB, .inr (3, [.long lb3])), (aT, .inl (cI, 300, .inl ft3)), (aP, .inl (cJ, 300, .inr (.inl fp3))), (aL, .inr (1, [.ref aW, .int fi2_10, .int cn2_10]))]) (run_V (As := []) (rest := []) kv_RX6_69 ⟨by decide, by decide⟩ ⟨rfl, rfl⟩ ⟨hx, hb, hml, hown, hts⟩ (c_Re_groupCount l D cI cJ cB aR aB aQ aT aP hd3 pl3 hv3 lk3 dn3 ht3 sl3 br3 wh3 gc3  _) ct_blind (ct_pre (wc := [(aR, .inr (2, [.ref aB, .ref aQ, .int hd3, .long pl3, .int hv3, .int lk3, .int dn3, .int ht3, .int sl3, .int br3, .int wh3])), (aQ, .inr (0, [.ref aT, .ref aP, .int gc3]))]) hK hP hD hS hA hZ hN [5, 6] (by decide) rfl rfl) (va_recv hK hP (ci := 2) (q0 := 5) rfl rfl) rfl hl.1 rfl (Nat.le_of_ble_eq_true rfl) dX6_receive_70 ⟨Nat.le_of_ble_eq_true rfl, Nat.le_of_ble_eq_true rfl⟩) hP hD hS hA [5, 6] [0, 1, 2, 3, 4, 7] rfl rfl (by decide) (by decide) (fun r11 u H locs hw11 hP1 hD1 hS1 => ?_)
          have hw11 : r11.toInt = gc3.toInt := hw11
          clear hP hD hS
          have hP : va_P D classes [(aX, .inr (5, [.ref aL, .ref aS, .ref aR])), (aW, .inl (cJ, 142, .inr (.inl fw))), (aB, .inr (3, [.long lb3])), (aT, .inl (cI, 300, .inl ft3)), (aP, .inl (cJ, 300, .inr (.inl fp3))), (aL, .inr (1, [.ref aW, .int fi2_10, .int cn2_10])), (aR, .inr (2, [.ref aB, .ref aQ, .int hd3, .long pl3, .int hv3, .int lk3, .int dn3, .int ht3, .int sl3, .int br3, .int wh3])), (aQ, .inr (0, [.ref aT, .ref aP, .int gc3]))] H := hP1
          have hD : va_D A [(aX, .inr (5, [.ref aL, .ref aS, .ref aR])), (aW, .inl (cJ, 142, .inr (.inl fw))), (aB, .inr (3, [.long lb3])), (aT, .inl (cI, 300, .inl ft3)), (aP, .inl (cJ, 300, .inr (.inl fp3))), (aL, .inr (1, [.ref aW, .int fi2_10, .int cn2_10])), (aR, .inr (2, [.ref aB, .ref aQ, .int hd3, .long pl3, .int hv3, .int lk3, .int dn3, .int ht3, .int sl3, .int br3, .int wh3])), (aQ, .inr (0, [.ref aT, .ref aP, .int gc3]))] := hD1
          have hS := hS1
          clear hP1 hD1 hS1
          have rg_r11 := zi_rg r11
          refine lv_iload_n hx hb dX6_receive_73 rfl (lv_at hl 1 rfl) ?_
          refine lv_isub hx hb dX6_receive_74 ?_
          refine lv_topi (fun v12 e12 => ?_)
          first | have z12 := zi_sub e12 (by omega) | skip
          have hq13 : (0 ≤ fi2_10.toInt ∧ fi2_10.toInt < 9088) ∧ (gc.toInt ≤ gc3.toInt ∧ gc3.toInt ≤ gc.toInt + 9066) ∧ (0 ≤ lk3.toInt ∧ lk3.toInt ≤ 1) ∧ (nn.toInt < 0 → v12.toInt = -12 ∧ cn2_10.toInt = cn.toInt) ∧ (0 ≤ nn.toInt → (0 ≤ v12.toInt ∧ v12.toInt ≤ cn.toInt) ∧ (cn.toInt ≤ nn.toInt → cn2_10.toInt = 0) ∧ (nn.toInt < cn.toInt → cn2_10.toInt = cn.toInt - nn.toInt)) ∧ ∀ j : Int, lnB fw fi2_10.toInt j = lnB fw fi.toInt (j + (cn.toInt - cn2_10.toInt)) := (by refine ⟨by omega, by omega, by omega, by omega, by omega, fun j => ?_⟩; first | (rw [lnB_drop hw10.2.2 j]; congr 1; omega) | (rw [show j + (cn.toInt - cn.toInt) = j by omega]))
          exact hret v12 (fi2_10, cn2_10, hd3, pl3, hv3, lk3, dn3, ht3, sl3, br3, wh3, lb3, gc3, ft3, fp3) _ _ _ _ dX6_receive_75 hq13 (hP.sub [0, 5, 1, 6, 2, 7, 3, 4] rfl) (hD.sub [0, 5, 1, 6, 2, 7, 3, 4] (by decide) rfl) hS
        ·
          have z6 := zi_nle c6
          refine lv_aload_n hx hb dX6_receive_36 rfl (lv_at hl 2 rfl) ?_
          refine va_get (D := D) (ci := 5) (v := .ref aR) (C := RX6) (T := TX6) (N := 3) hx hb hts in_X6 hown hK hP 0 rfl rfl 2 (by decide) (hts _ wk24) (fun _ h9 => h9) rfl dX6_receive_37 ?_
          refine lv_aload_n hx hb dX6_receive_40 rfl (lv_at hl 2 rfl) ?_
          refine va_get (D := D) (ci := 5) (v := .ref aL) (C := RX6) (T := TX6) (N := 3) hx hb hts in_X6 hown hK hP 0 rfl rfl 0 (by decide) (hts _ wk16) (fun _ h9 => h9) rfl dX6_receive_41 ?_
          refine lv_iload hx hb dX6_receive_44 (lv_at hl 4 rfl) ?_
          have hh14 : 0 ≤ fi.toInt ∧ fi.toInt < 9088 := (by omega)
          have hh15 : 0 ≤ k.toInt ∧ k.toInt ≤ 9087 := (by omega)
          refine call_i (wc := [(aL, .inr (1, [.ref aW, .int fi, .int cn])), (aW, .inl (cJ, 142, .inr (.inl fw)))]) (wr := [(aX, .inr (5, [.ref aL, .ref aS, .ref aR])), (aB, .inr (3, [.long lb3])), (aT, .inl (cI, 300, .inl ft3)), (aP, .inl (cJ, 300, .inr (.inl fp3))), (aR, .inr (2, [.ref aB, .ref aQ, .int hd3, .long pl3, .int hv3, .int lk3, .int dn3, .int ht3, .int sl3, .int br3, .int wh3])), (aQ, .inr (0, [.ref aT, .ref aP, .int gc3]))]) (run_V (As := [.int k]) (rest := [.ref aR]) kv_RX6_58 ⟨by decide, by decide⟩ ⟨rfl, rfl⟩ ⟨hx, hb, hml, hown, hts⟩ (c_Ln_at l D cI cJ cB aL aW fi cn k fw hh14 hh15 _) ct_blind (ct_pre (wc := [(aL, .inr (1, [.ref aW, .int fi, .int cn])), (aW, .inl (cJ, 142, .inr (.inl fw)))]) hK hP hD hS hA hZ hN [7, 1] (by decide) rfl rfl) (va_recv hK hP (ci := 1) (q0 := 7) rfl rfl) rfl hl.1 rfl (Nat.le_of_ble_eq_true rfl) dX6_receive_46 ⟨Nat.le_of_ble_eq_true rfl, Nat.le_of_ble_eq_true rfl⟩) hP hD hS hA [7, 1] [0, 2, 3, 4, 5, 6] rfl rfl (by decide) (by decide) (fun r16 u H locs hw16 hP1 hD1 hS1 => ?_)
          have hw16 : (0 ≤ r16.toInt ∧ r16.toInt < 2) ∧ r16 = bi (lnB fw fi.toInt k.toInt) := hw16
          clear hP hD hS
          have hP : va_P D classes [(aX, .inr (5, [.ref aL, .ref aS, .ref aR])), (aB, .inr (3, [.long lb3])), (aT, .inl (cI, 300, .inl ft3)), (aP, .inl (cJ, 300, .inr (.inl fp3))), (aR, .inr (2, [.ref aB, .ref aQ, .int hd3, .long pl3, .int hv3, .int lk3, .int dn3, .int ht3, .int sl3, .int br3, .int wh3])), (aQ, .inr (0, [.ref aT, .ref aP, .int gc3])), (aL, .inr (1, [.ref aW, .int fi, .int cn])), (aW, .inl (cJ, 142, .inr (.inl fw)))] H := hP1
          have hD : va_D A [(aX, .inr (5, [.ref aL, .ref aS, .ref aR])), (aB, .inr (3, [.long lb3])), (aT, .inl (cI, 300, .inl ft3)), (aP, .inl (cJ, 300, .inr (.inl fp3))), (aR, .inr (2, [.ref aB, .ref aQ, .int hd3, .long pl3, .int hv3, .int lk3, .int dn3, .int ht3, .int sl3, .int br3, .int wh3])), (aQ, .inr (0, [.ref aT, .ref aP, .int gc3])), (aL, .inr (1, [.ref aW, .int fi, .int cn])), (aW, .inl (cJ, 142, .inr (.inl fw)))] := hD1
          have hS := hS1
          clear hP1 hD1 hS1
          have rg_r16 := zi_rg r16
          have hh17 : 0 ≤ gc3.toInt ∧ gc3.toInt ≤ 1000000000 := (by omega)
          have hh18 : 0 ≤ lk3.toInt ∧ lk3.toInt ≤ 1 := (by omega)
          have hh19 : 0 ≤ r16.toInt ∧ r16.toInt ≤ 1 := (by omega)
          refine call_v (wc := [(aR, .inr (2, [.ref aB, .ref aQ, .int hd3, .long pl3, .int hv3, .int lk3, .int dn3, .int ht3, .int sl3, .int br3, .int wh3])), (aB, .inr (3, [.long lb3])), (aQ, .inr (0, [.ref aT, .ref aP, .int gc3])), (aT, .inl (cI, 300, .inl ft3)), (aP, .inl (cJ, 300, .inr (.inl fp3)))]) (wr := [(aX, .inr (5, [.ref aL, .ref aS, .ref aR])), (aL, .inr (1, [.ref aW, .int fi, .int cn])), (aW, .inl (cJ, 142, .inr (.inl fw)))]) (run_V (As := [.int r16]) (rest := []) kv_RX6_78 ⟨by decide, by decide⟩ ⟨rfl, rfl⟩ ⟨hx, hb, hml, hown, hts⟩ (c_Re_take l D cI cJ cB aR aB aQ aT aP hd3 pl3 hv3 lk3 dn3 ht3 sl3 br3 wh3 lb3 gc3 ft3 fp3 r16 hh17 hh18 hh19 _) ct_blind (ct_pre (wc := [(aR, .inr (2, [.ref aB, .ref aQ, .int hd3, .long pl3, .int hv3, .int lk3, .int dn3, .int ht3, .int sl3, .int br3, .int wh3])), (aB, .inr (3, [.long lb3])), (aQ, .inr (0, [.ref aT, .ref aP, .int gc3])), (aT, .inl (cI, 300, .inl ft3)), (aP, .inl (cJ, 300, .inr (.inl fp3)))]) hK hP hD hS hA hZ hN [4, 1, 5, 2, 3] (by decide) rfl rfl) (va_recv hK hP (ci := 2) (q0 := 4) rfl rfl) rfl hl.1 rfl (Nat.le_of_ble_eq_true rfl) dX6_receive_49 ⟨Nat.le_of_ble_eq_true rfl, Nat.le_of_ble_eq_true rfl⟩) hP hD hS hA [4, 1, 5, 2, 3] [0, 6, 7] rfl rfl (by decide) (by decide) (fun u H locs hw20 hP1 hD1 hS1 => ?_)
          obtain ⟨hd2_20, pl2_20, hv2_20, lk2_20, dn2_20, ht2_20, sl2_20, br2_20, wh2_20, la2_20, gc2_20, ft2_20, fp2_20⟩ := u
          have hw20 : (gc3.toInt ≤ gc2_20.toInt ∧ gc2_20.toInt ≤ gc3.toInt + 1) ∧ 0 ≤ lk2_20.toInt ∧ lk2_20.toInt ≤ 1 := hw20
          clear hP hD hS
          have hP : va_P D classes [(aX, .inr (5, [.ref aL, .ref aS, .ref aR])), (aL, .inr (1, [.ref aW, .int fi, .int cn])), (aW, .inl (cJ, 142, .inr (.inl fw))), (aR, .inr (2, [.ref aB, .ref aQ, .int hd2_20, .long pl2_20, .int hv2_20, .int lk2_20, .int dn2_20, .int ht2_20, .int sl2_20, .int br2_20, .int wh2_20])), (aB, .inr (3, [.long la2_20])), (aQ, .inr (0, [.ref aT, .ref aP, .int gc2_20])), (aT, .inl (cI, 300, .inl ft2_20)), (aP, .inl (cJ, 300, .inr (.inl fp2_20)))] H := hP1
          have hD : va_D A [(aX, .inr (5, [.ref aL, .ref aS, .ref aR])), (aL, .inr (1, [.ref aW, .int fi, .int cn])), (aW, .inl (cJ, 142, .inr (.inl fw))), (aR, .inr (2, [.ref aB, .ref aQ, .int hd2_20, .long pl2_20, .int hv2_20, .int lk2_20, .int dn2_20, .int ht2_20, .int sl2_20, .int br2_20, .int wh2_20])), (aB, .inr (3, [.long la2_20])), (aQ, .inr (0, [.ref aT, .ref aP, .int gc2_20])), (aT, .inl (cI, 300, .inl ft2_20)), (aP, .inl (cJ, 300, .inr (.inl fp2_20)))] := hD1
          have hS := hS1
          clear hP1 hD1 hS1
          have rg_hd2_20 := zi_rg hd2_20
          have rg_hv2_20 := zi_rg hv2_20
          have rg_lk2_20 := zi_rg lk2_20
          have rg_dn2_20 := zi_rg dn2_20
          have rg_ht2_20 := zi_rg ht2_20
          have rg_sl2_20 := zi_rg sl2_20
          have rg_br2_20 := zi_rg br2_20
          have rg_wh2_20 := zi_rg wh2_20
          have rg_gc2_20 := zi_rg gc2_20
          obtain ⟨v21, e21⟩ : ∃ y : Int32, y = k + 1 := ⟨_, rfl⟩
          first | have z21 := zi_inc (z := 1) 1 (by decide) e21 (by omega) | skip
          refine lv_iinc (v := v21) (lv' := [(4, .int v21), (3, .int v4), (2, .int r2), (0, .ref aX), (1, .int nn)]) hx hb dX6_receive_52 hl (k := 4) rfl (by rw [e21]; rfl) (by decide) rfl (fun ls hl => ?_)
          refine lv_goto (tgt := 30) hx hb dX6_receive_55 (by decide) ?_
          exact ih30 v21 hd2_20 pl2_20 hv2_20 lk2_20 dn2_20 ht2_20 sl2_20 br2_20 wh2_20 la2_20 gc2_20 ft2_20 fp2_20 _ _ _ (by omega) (by omega) (by omega) (by omega) (hP.sub [0, 2, 4, 6, 7, 3, 5, 1] rfl) (hD.sub [0, 2, 4, 6, 7, 3, 5, 1] (by decide) rfl) hS (lv_sub hl [1, 2, 3, 4, 0] rfl)
    exact J30 _ v5 hd pl hv lk dn ht sl br wh lb gc ft fp _ _ _ (Nat.lt_succ_self _) (by omega) (by omega) (by omega) (hP.sub [0, 1, 2, 3, 4, 5, 6, 7] rfl) (hD.sub [0, 1, 2, 3, 4, 5, 6, 7] (by decide) rfl) hS (lv_sub hl [1, 2, 3, 4, 0] rfl)
  ·
    have z1 := zi_nge0 c1
    refine lv_bipush (v := -12) hx hb dX6_receive_4 (by decide) ?_
    refine lv_topi (fun v22 e22 => ?_)
    have z22 : v22.toInt = (-12) := zi_c e22 (by decide)
    have hq23 : (0 ≤ fi.toInt ∧ fi.toInt < 9088) ∧ (gc.toInt ≤ gc.toInt ∧ gc.toInt ≤ gc.toInt + 9066) ∧ (0 ≤ lk.toInt ∧ lk.toInt ≤ 1) ∧ (nn.toInt < 0 → v22.toInt = -12 ∧ cn.toInt = cn.toInt) ∧ (0 ≤ nn.toInt → (0 ≤ v22.toInt ∧ v22.toInt ≤ cn.toInt) ∧ (cn.toInt ≤ nn.toInt → cn.toInt = 0) ∧ (nn.toInt < cn.toInt → cn.toInt = cn.toInt - nn.toInt)) ∧ ∀ j : Int, lnB fw fi.toInt j = lnB fw fi.toInt (j + (cn.toInt - cn.toInt)) := (by refine ⟨by omega, by omega, by omega, by omega, by omega, fun j => ?_⟩; first | (rw [lnB_drop hw10.2.2 j]; congr 1; omega) | (rw [show j + (cn.toInt - cn.toInt) = j by omega]))
    exact hret v22 (fi, cn, hd, pl, hv, lk, dn, ht, sl, br, wh, lb, gc, ft, fp) _ _ _ _ dX6_receive_6 hq23 (hP.sub [0, 1, 2, 3, 4, 5, 6, 7] rfl) (hD.sub [0, 1, 2, 3, 4, 5, 6, 7] (by decide) rfl) hS

set_option maxHeartbeats 4000000 in
set_option maxRecDepth 100000 in
theorem c_LB_told (l : Launch) (D : va_G) (cI cJ cB : ClassId) (aX : Nat) (aL : Nat) (aS : Nat) (aR : Nat) (aB : Nat) (aQ : Nat) (aT : Nat) (aP : Nat) (hd : Int32) (pl : Int64) (hv : Int32) (lk : Int32) (dn : Int32) (ht : Int32) (sl : Int32) (br : Int32) (wh : Int32) (gc : Int32) (i : Int32) (j : Int32) (ft : Nat → Int32) (fp : Nat → Int64)  :
    cti l yX6_told (wsOf yX6_told cX6_told 3 (some .int)) (rmL 7 158 0 0) D classes (tys3 cI cJ cB) [.ref aX, .int i, .int j] [(aX, .inr (5, [.ref aL, .ref aS, .ref aR])), (aR, .inr (2, [.ref aB, .ref aQ, .int hd, .long pl, .int hv, .int lk, .int dn, .int ht, .int sl, .int br, .int wh])), (aQ, .inr (0, [.ref aT, .ref aP, .int gc])), (aT, .inl (cI, 300, .inl ft)), (aP, .inl (cJ, 300, .inr (.inl fp)))] (fun (r : Int32) (u : Unit) => gc.toInt = 0 → r.toInt = -1) (fun u : Unit => ([(aX, .inr (5, [.ref aL, .ref aS, .ref aR])), (aR, .inr (2, [.ref aB, .ref aQ, .int hd, .long pl, .int hv, .int lk, .int dn, .int ht, .int sl, .int br, .int wh])), (aQ, .inr (0, [.ref aT, .ref aP, .int gc])), (aT, .inl (cI, 300, .inl ft)), (aP, .inl (cJ, 300, .inr (.inl fp)))] : va_W)) := by
  refine cti.of (by first | exact plainFor_of_name (by decide) | decide +kernel) (Nat.le_of_ble_eq_true rfl) (fun p e s m args below meth c A ls Q h hret => ?_)
  obtain ⟨hx, hb, hml, hown, hts, hnm, hP, hK, hD, hA, hS, hZ, hN, hl⟩ := h
  have hown : s.vm.findClass RX6 = some m.cls := hown
  have hl : lv_has ls 3 [(0, .ref aX), (1, .int i), (2, .int j)] := hl
  have hP : va_P D classes [(aX, .inr (5, [.ref aL, .ref aS, .ref aR])), (aR, .inr (2, [.ref aB, .ref aQ, .int hd, .long pl, .int hv, .int lk, .int dn, .int ht, .int sl, .int br, .int wh])), (aQ, .inr (0, [.ref aT, .ref aP, .int gc])), (aT, .inl (cI, 300, .inl ft)), (aP, .inl (cJ, 300, .inr (.inl fp)))] s.heap := hP
  have hD : va_D A [(aX, .inr (5, [.ref aL, .ref aS, .ref aR])), (aR, .inr (2, [.ref aB, .ref aQ, .int hd, .long pl, .int hv, .int lk, .int dn, .int ht, .int sl, .int br, .int wh])), (aQ, .inr (0, [.ref aT, .ref aP, .int gc])), (aT, .inl (cI, 300, .inl ft)), (aP, .inl (cJ, 300, .inr (.inl fp)))] := hD
  have rg_hd := zi_rg hd
  have rg_hv := zi_rg hv
  have rg_lk := zi_rg lk
  have rg_dn := zi_rg dn
  have rg_ht := zi_rg ht
  have rg_sl := zi_rg sl
  have rg_br := zi_rg br
  have rg_wh := zi_rg wh
  have rg_gc := zi_rg gc
  have rg_i := zi_rg i
  have rg_j := zi_rg j
  refine lv_aload_n hx hb dX6_told_0 rfl (lv_at hl 0 rfl) ?_
  refine va_get (D := D) (ci := 5) (v := .ref aR) (C := RX6) (T := TX6) (N := 3) hx hb hts in_X6 hown hK hP 0 rfl rfl 2 (by decide) (hts _ wk24) (fun _ h9 => h9) rfl dX6_told_1 ?_
  refine lv_iload_n hx hb dX6_told_4 rfl (lv_at hl 1 rfl) ?_
  refine lv_iload_n hx hb dX6_told_5 rfl (lv_at hl 2 rfl) ?_
  refine call_i (wc := [(aR, .inr (2, [.ref aB, .ref aQ, .int hd, .long pl, .int hv, .int lk, .int dn, .int ht, .int sl, .int br, .int wh])), (aQ, .inr (0, [.ref aT, .ref aP, .int gc])), (aT, .inl (cI, 300, .inl ft)), (aP, .inl (cJ, 300, .inr (.inl fp)))]) (wr := [(aX, .inr (5, [.ref aL, .ref aS, .ref aR]))]) (run_V (As := [.int i, .int j]) (rest := []) kv_RX6_84 ⟨by decide, by decide⟩ ⟨rfl, rfl⟩ ⟨hx, hb, hml, hown, hts⟩ (c_Re_character l D cI cJ cB aR aB aQ aT aP hd pl hv lk dn ht sl br wh gc i j ft fp  _) ct_blind (ct_pre (wc := [(aR, .inr (2, [.ref aB, .ref aQ, .int hd, .long pl, .int hv, .int lk, .int dn, .int ht, .int sl, .int br, .int wh])), (aQ, .inr (0, [.ref aT, .ref aP, .int gc])), (aT, .inl (cI, 300, .inl ft)), (aP, .inl (cJ, 300, .inr (.inl fp)))]) hK hP hD hS hA hZ hN [1, 2, 3, 4] (by decide) rfl rfl) (va_recv hK hP (ci := 2) (q0 := 1) rfl rfl) rfl hl.1 rfl (Nat.le_of_ble_eq_true rfl) dX6_told_6 ⟨Nat.le_of_ble_eq_true rfl, Nat.le_of_ble_eq_true rfl⟩) hP hD hS hA [1, 2, 3, 4] [0] rfl rfl (by decide) (by decide) (fun r1 u H locs hw1 hP1 hD1 hS1 => ?_)
  have hw1 : gc.toInt = 0 → r1.toInt = -1 := hw1
  clear hP hD hS
  have hP : va_P D classes [(aX, .inr (5, [.ref aL, .ref aS, .ref aR])), (aR, .inr (2, [.ref aB, .ref aQ, .int hd, .long pl, .int hv, .int lk, .int dn, .int ht, .int sl, .int br, .int wh])), (aQ, .inr (0, [.ref aT, .ref aP, .int gc])), (aT, .inl (cI, 300, .inl ft)), (aP, .inl (cJ, 300, .inr (.inl fp)))] H := hP1
  have hD : va_D A [(aX, .inr (5, [.ref aL, .ref aS, .ref aR])), (aR, .inr (2, [.ref aB, .ref aQ, .int hd, .long pl, .int hv, .int lk, .int dn, .int ht, .int sl, .int br, .int wh])), (aQ, .inr (0, [.ref aT, .ref aP, .int gc])), (aT, .inl (cI, 300, .inl ft)), (aP, .inl (cJ, 300, .inr (.inl fp)))] := hD1
  have hS := hS1
  clear hP1 hD1 hS1
  have rg_r1 := zi_rg r1
  have hq2 : gc.toInt = 0 → r1.toInt = -1 := (by omega)
  exact hret r1 () _ _ _ _ dX6_told_9 hq2 (hP.sub [0, 1, 2, 3, 4] rfl) (hD.sub [0, 1, 2, 3, 4] (by decide) rfl) hS

set_option maxHeartbeats 4000000 in
set_option maxRecDepth 100000 in
theorem c_LB_receiver (l : Launch) (D : va_G) (cI cJ cB : ClassId) (aX : Nat) (aL : Nat) (aS : Nat) (aR : Nat) (aB : Nat) (aQ : Nat) (aT : Nat) (aP : Nat) (hd : Int32) (pl : Int64) (hv : Int32) (lk : Int32) (dn : Int32) (ht : Int32) (sl : Int32) (br : Int32) (wh : Int32) (gc : Int32) (x : Int32) (h1 : 0 ≤ lk.toInt ∧ lk.toInt ≤ 1) :
    cti l yX6_receiver (wsOf yX6_receiver cX6_receiver 2 (some .int)) (rmL 2 40 0 0) D classes (tys3 cI cJ cB) [.ref aX, .int x] [(aX, .inr (5, [.ref aL, .ref aS, .ref aR])), (aR, .inr (2, [.ref aB, .ref aQ, .int hd, .long pl, .int hv, .int lk, .int dn, .int ht, .int sl, .int br, .int wh])), (aQ, .inr (0, [.ref aT, .ref aP, .int gc]))] (fun (r : Int32) (u : Unit) => (x.toInt = 0 → r.toInt = lk.toInt) ∧ (x.toInt = 1 → r.toInt = ht.toInt) ∧ (x.toInt = 2 → r.toInt = sl.toInt) ∧ (x.toInt = 3 → r.toInt = hv.toInt) ∧ (x.toInt = 4 → r.toInt = gc.toInt) ∧ (x.toInt = 5 → r.toInt = wh.toInt) ∧ ((x.toInt < 0 ∨ 5 < x.toInt) → r.toInt = -12)) (fun u : Unit => ([(aX, .inr (5, [.ref aL, .ref aS, .ref aR])), (aR, .inr (2, [.ref aB, .ref aQ, .int hd, .long pl, .int hv, .int lk, .int dn, .int ht, .int sl, .int br, .int wh])), (aQ, .inr (0, [.ref aT, .ref aP, .int gc]))] : va_W)) := by
  refine cti.of (by first | exact plainFor_of_name (by decide) | decide +kernel) (Nat.le_of_ble_eq_true rfl) (fun p e s m args below meth c A ls Q h hret => ?_)
  obtain ⟨hx, hb, hml, hown, hts, hnm, hP, hK, hD, hA, hS, hZ, hN, hl⟩ := h
  have hown : s.vm.findClass RX6 = some m.cls := hown
  have hl : lv_has ls 2 [(0, .ref aX), (1, .int x)] := hl
  have hP : va_P D classes [(aX, .inr (5, [.ref aL, .ref aS, .ref aR])), (aR, .inr (2, [.ref aB, .ref aQ, .int hd, .long pl, .int hv, .int lk, .int dn, .int ht, .int sl, .int br, .int wh])), (aQ, .inr (0, [.ref aT, .ref aP, .int gc]))] s.heap := hP
  have hD : va_D A [(aX, .inr (5, [.ref aL, .ref aS, .ref aR])), (aR, .inr (2, [.ref aB, .ref aQ, .int hd, .long pl, .int hv, .int lk, .int dn, .int ht, .int sl, .int br, .int wh])), (aQ, .inr (0, [.ref aT, .ref aP, .int gc]))] := hD
  have rg_hd := zi_rg hd
  have rg_hv := zi_rg hv
  have rg_lk := zi_rg lk
  have rg_dn := zi_rg dn
  have rg_ht := zi_rg ht
  have rg_sl := zi_rg sl
  have rg_br := zi_rg br
  have rg_wh := zi_rg wh
  have rg_gc := zi_rg gc
  have rg_x := zi_rg x
  refine lv_iload_n hx hb dX6_receiver_0 rfl (lv_at hl 1 rfl) ?_
  have hs1 : (x.toInt < 0 ∨ 5 < x.toInt) ∨ x.toInt = 0 ∨ x.toInt = 1 ∨ x.toInt = 2 ∨ x.toInt = 3 ∨ x.toInt = 4 ∨ x.toInt = 5 := by omega
  rcases hs1 with z1 | z1 | z1 | z1 | z1 | z1 | z1
  ·
    refine lv_tableOut (tgt := 96) hx hb dX6_receiver_1 z1 (by decide) ?_
    refine lv_bipush (v := -12) hx hb dX6_receiver_96 (by decide) ?_
    refine lv_topi (fun v2 e2 => ?_)
    have z2 : v2.toInt = (-12) := zi_c e2 (by decide)
    have hq3 : (x.toInt = 0 → v2.toInt = lk.toInt) ∧ (x.toInt = 1 → v2.toInt = ht.toInt) ∧ (x.toInt = 2 → v2.toInt = sl.toInt) ∧ (x.toInt = 3 → v2.toInt = hv.toInt) ∧ (x.toInt = 4 → v2.toInt = gc.toInt) ∧ (x.toInt = 5 → v2.toInt = wh.toInt) ∧ ((x.toInt < 0 ∨ 5 < x.toInt) → v2.toInt = -12) := (by omega)
    exact hret v2 () _ _ _ _ dX6_receiver_98 hq3 (hP.sub [0, 1, 2] rfl) (hD.sub [0, 1, 2] (by decide) rfl) hS
  ·
    refine lv_tableIn (tgt := 40) hx hb dX6_receiver_1 (by omega) (by omega) (by rw [z1]; rfl) (by decide) ?_
    refine lv_aload_n hx hb dX6_receiver_40 rfl (lv_at hl 0 rfl) ?_
    refine va_get (D := D) (ci := 5) (v := .ref aR) (C := RX6) (T := TX6) (N := 3) hx hb hts in_X6 hown hK hP 0 rfl rfl 2 (by decide) (hts _ wk24) (fun _ h9 => h9) rfl dX6_receiver_41 ?_
    have hh4 : 0 ≤ lk.toInt ∧ lk.toInt ≤ 1 := (by omega)
    refine call_i (wc := [(aR, .inr (2, [.ref aB, .ref aQ, .int hd, .long pl, .int hv, .int lk, .int dn, .int ht, .int sl, .int br, .int wh]))]) (wr := [(aX, .inr (5, [.ref aL, .ref aS, .ref aR])), (aQ, .inr (0, [.ref aT, .ref aP, .int gc]))]) (run_V (As := []) (rest := []) kv_RX6_87 ⟨by decide, by decide⟩ ⟨rfl, rfl⟩ ⟨hx, hb, hml, hown, hts⟩ (c_Re_isLocked l D cI cJ cB aR aB aQ hd pl hv lk dn ht sl br wh hh4 _) ct_blind (ct_pre (wc := [(aR, .inr (2, [.ref aB, .ref aQ, .int hd, .long pl, .int hv, .int lk, .int dn, .int ht, .int sl, .int br, .int wh]))]) hK hP hD hS hA hZ hN [1] (by decide) rfl rfl) (va_recv hK hP (ci := 2) (q0 := 1) rfl rfl) rfl hl.1 rfl (Nat.le_of_ble_eq_true rfl) dX6_receiver_44 ⟨Nat.le_of_ble_eq_true rfl, Nat.le_of_ble_eq_true rfl⟩) hP hD hS hA [1] [0, 2] rfl rfl (by decide) (by decide) (fun r5 u H locs hw5 hP1 hD1 hS1 => ?_)
    have hw5 : r5.toInt = lk.toInt := hw5
    clear hP hD hS
    have hP : va_P D classes [(aX, .inr (5, [.ref aL, .ref aS, .ref aR])), (aQ, .inr (0, [.ref aT, .ref aP, .int gc])), (aR, .inr (2, [.ref aB, .ref aQ, .int hd, .long pl, .int hv, .int lk, .int dn, .int ht, .int sl, .int br, .int wh]))] H := hP1
    have hD : va_D A [(aX, .inr (5, [.ref aL, .ref aS, .ref aR])), (aQ, .inr (0, [.ref aT, .ref aP, .int gc])), (aR, .inr (2, [.ref aB, .ref aQ, .int hd, .long pl, .int hv, .int lk, .int dn, .int ht, .int sl, .int br, .int wh]))] := hD1
    have hS := hS1
    clear hP1 hD1 hS1
    have rg_r5 := zi_rg r5
    refine lv_if_eq (tgt := 54) hx hb dX6_receiver_47 (by decide) (fun c6 => ?_) (fun c6 => ?_)
    ·
      have z6 := zi_eq0 c6
      refine lv_iconst (v := 0) hx hb dX6_receiver_54 (by decide) ?_
      refine lv_topi (fun v7 e7 => ?_)
      have z7 : v7.toInt = 0 := zi_c e7 (by decide)
      have hq8 : (x.toInt = 0 → v7.toInt = lk.toInt) ∧ (x.toInt = 1 → v7.toInt = ht.toInt) ∧ (x.toInt = 2 → v7.toInt = sl.toInt) ∧ (x.toInt = 3 → v7.toInt = hv.toInt) ∧ (x.toInt = 4 → v7.toInt = gc.toInt) ∧ (x.toInt = 5 → v7.toInt = wh.toInt) ∧ ((x.toInt < 0 ∨ 5 < x.toInt) → v7.toInt = -12) := (by omega)
      exact hret v7 () _ _ _ _ dX6_receiver_55 hq8 (hP.sub [0, 2, 1] rfl) (hD.sub [0, 2, 1] (by decide) rfl) hS
    ·
      have z6 := zi_ne0 c6
      refine lv_iconst (v := 1) hx hb dX6_receiver_50 (by decide) ?_
      refine lv_topi (fun v9 e9 => ?_)
      have z9 : v9.toInt = 1 := zi_c e9 (by decide)
      refine lv_goto (tgt := 55) hx hb dX6_receiver_51 (by decide) ?_
      have hq10 : (x.toInt = 0 → v9.toInt = lk.toInt) ∧ (x.toInt = 1 → v9.toInt = ht.toInt) ∧ (x.toInt = 2 → v9.toInt = sl.toInt) ∧ (x.toInt = 3 → v9.toInt = hv.toInt) ∧ (x.toInt = 4 → v9.toInt = gc.toInt) ∧ (x.toInt = 5 → v9.toInt = wh.toInt) ∧ ((x.toInt < 0 ∨ 5 < x.toInt) → v9.toInt = -12) := (by omega)
      exact hret v9 () _ _ _ _ dX6_receiver_55 hq10 (hP.sub [0, 2, 1] rfl) (hD.sub [0, 2, 1] (by decide) rfl) hS
  ·
    refine lv_tableIn (tgt := 56) hx hb dX6_receiver_1 (by omega) (by omega) (by rw [z1]; rfl) (by decide) ?_
    refine lv_aload_n hx hb dX6_receiver_56 rfl (lv_at hl 0 rfl) ?_
    refine va_get (D := D) (ci := 5) (v := .ref aR) (C := RX6) (T := TX6) (N := 3) hx hb hts in_X6 hown hK hP 0 rfl rfl 2 (by decide) (hts _ wk24) (fun _ h9 => h9) rfl dX6_receiver_57 ?_
    refine call_i (wc := [(aR, .inr (2, [.ref aB, .ref aQ, .int hd, .long pl, .int hv, .int lk, .int dn, .int ht, .int sl, .int br, .int wh]))]) (wr := [(aX, .inr (5, [.ref aL, .ref aS, .ref aR])), (aQ, .inr (0, [.ref aT, .ref aP, .int gc]))]) (run_V (As := []) (rest := []) kv_RX6_91 ⟨by decide, by decide⟩ ⟨rfl, rfl⟩ ⟨hx, hb, hml, hown, hts⟩ (c_Re_hitCount l D cI cJ cB aR aB aQ hd pl hv lk dn ht sl br wh  _) ct_blind (ct_pre (wc := [(aR, .inr (2, [.ref aB, .ref aQ, .int hd, .long pl, .int hv, .int lk, .int dn, .int ht, .int sl, .int br, .int wh]))]) hK hP hD hS hA hZ hN [1] (by decide) rfl rfl) (va_recv hK hP (ci := 2) (q0 := 1) rfl rfl) rfl hl.1 rfl (Nat.le_of_ble_eq_true rfl) dX6_receiver_60 ⟨Nat.le_of_ble_eq_true rfl, Nat.le_of_ble_eq_true rfl⟩) hP hD hS hA [1] [0, 2] rfl rfl (by decide) (by decide) (fun r11 u H locs hw11 hP1 hD1 hS1 => ?_)
    have hw11 : r11.toInt = ht.toInt := hw11
    clear hP hD hS
    have hP : va_P D classes [(aX, .inr (5, [.ref aL, .ref aS, .ref aR])), (aQ, .inr (0, [.ref aT, .ref aP, .int gc])), (aR, .inr (2, [.ref aB, .ref aQ, .int hd, .long pl, .int hv, .int lk, .int dn, .int ht, .int sl, .int br, .int wh]))] H := hP1
    have hD : va_D A [(aX, .inr (5, [.ref aL, .ref aS, .ref aR])), (aQ, .inr (0, [.ref aT, .ref aP, .int gc])), (aR, .inr (2, [.ref aB, .ref aQ, .int hd, .long pl, .int hv, .int lk, .int dn, .int ht, .int sl, .int br, .int wh]))] := hD1
    have hS := hS1
    clear hP1 hD1 hS1
    have rg_r11 := zi_rg r11
    have hq12 : (x.toInt = 0 → r11.toInt = lk.toInt) ∧ (x.toInt = 1 → r11.toInt = ht.toInt) ∧ (x.toInt = 2 → r11.toInt = sl.toInt) ∧ (x.toInt = 3 → r11.toInt = hv.toInt) ∧ (x.toInt = 4 → r11.toInt = gc.toInt) ∧ (x.toInt = 5 → r11.toInt = wh.toInt) ∧ ((x.toInt < 0 ∨ 5 < x.toInt) → r11.toInt = -12) := (by omega)
    exact hret r11 () _ _ _ _ dX6_receiver_63 hq12 (hP.sub [0, 2, 1] rfl) (hD.sub [0, 2, 1] (by decide) rfl) hS
  ·
    refine lv_tableIn (tgt := 64) hx hb dX6_receiver_1 (by omega) (by omega) (by rw [z1]; rfl) (by decide) ?_
    refine lv_aload_n hx hb dX6_receiver_64 rfl (lv_at hl 0 rfl) ?_
    refine va_get (D := D) (ci := 5) (v := .ref aR) (C := RX6) (T := TX6) (N := 3) hx hb hts in_X6 hown hK hP 0 rfl rfl 2 (by decide) (hts _ wk24) (fun _ h9 => h9) rfl dX6_receiver_65 ?_
    refine call_i (wc := [(aR, .inr (2, [.ref aB, .ref aQ, .int hd, .long pl, .int hv, .int lk, .int dn, .int ht, .int sl, .int br, .int wh]))]) (wr := [(aX, .inr (5, [.ref aL, .ref aS, .ref aR])), (aQ, .inr (0, [.ref aT, .ref aP, .int gc]))]) (run_V (As := []) (rest := []) kv_RX6_94 ⟨by decide, by decide⟩ ⟨rfl, rfl⟩ ⟨hx, hb, hml, hown, hts⟩ (c_Re_slipCount l D cI cJ cB aR aB aQ hd pl hv lk dn ht sl br wh  _) ct_blind (ct_pre (wc := [(aR, .inr (2, [.ref aB, .ref aQ, .int hd, .long pl, .int hv, .int lk, .int dn, .int ht, .int sl, .int br, .int wh]))]) hK hP hD hS hA hZ hN [1] (by decide) rfl rfl) (va_recv hK hP (ci := 2) (q0 := 1) rfl rfl) rfl hl.1 rfl (Nat.le_of_ble_eq_true rfl) dX6_receiver_68 ⟨Nat.le_of_ble_eq_true rfl, Nat.le_of_ble_eq_true rfl⟩) hP hD hS hA [1] [0, 2] rfl rfl (by decide) (by decide) (fun r13 u H locs hw13 hP1 hD1 hS1 => ?_)
    have hw13 : r13.toInt = sl.toInt := hw13
    clear hP hD hS
    have hP : va_P D classes [(aX, .inr (5, [.ref aL, .ref aS, .ref aR])), (aQ, .inr (0, [.ref aT, .ref aP, .int gc])), (aR, .inr (2, [.ref aB, .ref aQ, .int hd, .long pl, .int hv, .int lk, .int dn, .int ht, .int sl, .int br, .int wh]))] H := hP1
    have hD : va_D A [(aX, .inr (5, [.ref aL, .ref aS, .ref aR])), (aQ, .inr (0, [.ref aT, .ref aP, .int gc])), (aR, .inr (2, [.ref aB, .ref aQ, .int hd, .long pl, .int hv, .int lk, .int dn, .int ht, .int sl, .int br, .int wh]))] := hD1
    have hS := hS1
    clear hP1 hD1 hS1
    have rg_r13 := zi_rg r13
    have hq14 : (x.toInt = 0 → r13.toInt = lk.toInt) ∧ (x.toInt = 1 → r13.toInt = ht.toInt) ∧ (x.toInt = 2 → r13.toInt = sl.toInt) ∧ (x.toInt = 3 → r13.toInt = hv.toInt) ∧ (x.toInt = 4 → r13.toInt = gc.toInt) ∧ (x.toInt = 5 → r13.toInt = wh.toInt) ∧ ((x.toInt < 0 ∨ 5 < x.toInt) → r13.toInt = -12) := (by omega)
    exact hret r13 () _ _ _ _ dX6_receiver_71 hq14 (hP.sub [0, 2, 1] rfl) (hD.sub [0, 2, 1] (by decide) rfl) hS
  ·
    refine lv_tableIn (tgt := 72) hx hb dX6_receiver_1 (by omega) (by omega) (by rw [z1]; rfl) (by decide) ?_
    refine lv_aload_n hx hb dX6_receiver_72 rfl (lv_at hl 0 rfl) ?_
    refine va_get (D := D) (ci := 5) (v := .ref aR) (C := RX6) (T := TX6) (N := 3) hx hb hts in_X6 hown hK hP 0 rfl rfl 2 (by decide) (hts _ wk24) (fun _ h9 => h9) rfl dX6_receiver_73 ?_
    refine call_i (wc := [(aR, .inr (2, [.ref aB, .ref aQ, .int hd, .long pl, .int hv, .int lk, .int dn, .int ht, .int sl, .int br, .int wh]))]) (wr := [(aX, .inr (5, [.ref aL, .ref aS, .ref aR])), (aQ, .inr (0, [.ref aT, .ref aP, .int gc]))]) (run_V (As := []) (rest := []) kv_RX6_97 ⟨by decide, by decide⟩ ⟨rfl, rfl⟩ ⟨hx, hb, hml, hown, hts⟩ (c_Re_bitsOfBlock l D cI cJ cB aR aB aQ hd pl hv lk dn ht sl br wh  _) ct_blind (ct_pre (wc := [(aR, .inr (2, [.ref aB, .ref aQ, .int hd, .long pl, .int hv, .int lk, .int dn, .int ht, .int sl, .int br, .int wh]))]) hK hP hD hS hA hZ hN [1] (by decide) rfl rfl) (va_recv hK hP (ci := 2) (q0 := 1) rfl rfl) rfl hl.1 rfl (Nat.le_of_ble_eq_true rfl) dX6_receiver_76 ⟨Nat.le_of_ble_eq_true rfl, Nat.le_of_ble_eq_true rfl⟩) hP hD hS hA [1] [0, 2] rfl rfl (by decide) (by decide) (fun r15 u H locs hw15 hP1 hD1 hS1 => ?_)
    have hw15 : r15.toInt = hv.toInt := hw15
    clear hP hD hS
    have hP : va_P D classes [(aX, .inr (5, [.ref aL, .ref aS, .ref aR])), (aQ, .inr (0, [.ref aT, .ref aP, .int gc])), (aR, .inr (2, [.ref aB, .ref aQ, .int hd, .long pl, .int hv, .int lk, .int dn, .int ht, .int sl, .int br, .int wh]))] H := hP1
    have hD : va_D A [(aX, .inr (5, [.ref aL, .ref aS, .ref aR])), (aQ, .inr (0, [.ref aT, .ref aP, .int gc])), (aR, .inr (2, [.ref aB, .ref aQ, .int hd, .long pl, .int hv, .int lk, .int dn, .int ht, .int sl, .int br, .int wh]))] := hD1
    have hS := hS1
    clear hP1 hD1 hS1
    have rg_r15 := zi_rg r15
    have hq16 : (x.toInt = 0 → r15.toInt = lk.toInt) ∧ (x.toInt = 1 → r15.toInt = ht.toInt) ∧ (x.toInt = 2 → r15.toInt = sl.toInt) ∧ (x.toInt = 3 → r15.toInt = hv.toInt) ∧ (x.toInt = 4 → r15.toInt = gc.toInt) ∧ (x.toInt = 5 → r15.toInt = wh.toInt) ∧ ((x.toInt < 0 ∨ 5 < x.toInt) → r15.toInt = -12) := (by omega)
    exact hret r15 () _ _ _ _ dX6_receiver_79 hq16 (hP.sub [0, 2, 1] rfl) (hD.sub [0, 2, 1] (by decide) rfl) hS
  ·
    refine lv_tableIn (tgt := 80) hx hb dX6_receiver_1 (by omega) (by omega) (by rw [z1]; rfl) (by decide) ?_
    refine lv_aload_n hx hb dX6_receiver_80 rfl (lv_at hl 0 rfl) ?_
    refine va_get (D := D) (ci := 5) (v := .ref aR) (C := RX6) (T := TX6) (N := 3) hx hb hts in_X6 hown hK hP 0 rfl rfl 2 (by decide) (hts _ wk24) (fun _ h9 => h9) rfl dX6_receiver_81 ?_
    refine call_i (wc := [(aR, .inr (2, [.ref aB, .ref aQ, .int hd, .long pl, .int hv, .int lk, .int dn, .int ht, .int sl, .int br, .int wh])), (aQ, .inr (0, [.ref aT, .ref aP, .int gc]))]) (wr := [(aX, .inr (5, [.ref aL, .ref aS, .ref aR]))]) (run_V (As := []) (rest := []) kv_RX6_69 ⟨by decide, by decide⟩ ⟨rfl, rfl⟩ ⟨hx, hb, hml, hown, hts⟩ (c_Re_groupCount l D cI cJ cB aR aB aQ aT aP hd pl hv lk dn ht sl br wh gc  _) ct_blind (ct_pre (wc := [(aR, .inr (2, [.ref aB, .ref aQ, .int hd, .long pl, .int hv, .int lk, .int dn, .int ht, .int sl, .int br, .int wh])), (aQ, .inr (0, [.ref aT, .ref aP, .int gc]))]) hK hP hD hS hA hZ hN [1, 2] (by decide) rfl rfl) (va_recv hK hP (ci := 2) (q0 := 1) rfl rfl) rfl hl.1 rfl (Nat.le_of_ble_eq_true rfl) dX6_receiver_84 ⟨Nat.le_of_ble_eq_true rfl, Nat.le_of_ble_eq_true rfl⟩) hP hD hS hA [1, 2] [0] rfl rfl (by decide) (by decide) (fun r17 u H locs hw17 hP1 hD1 hS1 => ?_)
    have hw17 : r17.toInt = gc.toInt := hw17
    clear hP hD hS
    have hP : va_P D classes [(aX, .inr (5, [.ref aL, .ref aS, .ref aR])), (aR, .inr (2, [.ref aB, .ref aQ, .int hd, .long pl, .int hv, .int lk, .int dn, .int ht, .int sl, .int br, .int wh])), (aQ, .inr (0, [.ref aT, .ref aP, .int gc]))] H := hP1
    have hD : va_D A [(aX, .inr (5, [.ref aL, .ref aS, .ref aR])), (aR, .inr (2, [.ref aB, .ref aQ, .int hd, .long pl, .int hv, .int lk, .int dn, .int ht, .int sl, .int br, .int wh])), (aQ, .inr (0, [.ref aT, .ref aP, .int gc]))] := hD1
    have hS := hS1
    clear hP1 hD1 hS1
    have rg_r17 := zi_rg r17
    have hq18 : (x.toInt = 0 → r17.toInt = lk.toInt) ∧ (x.toInt = 1 → r17.toInt = ht.toInt) ∧ (x.toInt = 2 → r17.toInt = sl.toInt) ∧ (x.toInt = 3 → r17.toInt = hv.toInt) ∧ (x.toInt = 4 → r17.toInt = gc.toInt) ∧ (x.toInt = 5 → r17.toInt = wh.toInt) ∧ ((x.toInt < 0 ∨ 5 < x.toInt) → r17.toInt = -12) := (by omega)
    exact hret r17 () _ _ _ _ dX6_receiver_87 hq18 (hP.sub [0, 1, 2] rfl) (hD.sub [0, 1, 2] (by decide) rfl) hS
  ·
    refine lv_tableIn (tgt := 88) hx hb dX6_receiver_1 (by omega) (by omega) (by rw [z1]; rfl) (by decide) ?_
    refine lv_aload_n hx hb dX6_receiver_88 rfl (lv_at hl 0 rfl) ?_
    refine va_get (D := D) (ci := 5) (v := .ref aR) (C := RX6) (T := TX6) (N := 3) hx hb hts in_X6 hown hK hP 0 rfl rfl 2 (by decide) (hts _ wk24) (fun _ h9 => h9) rfl dX6_receiver_89 ?_
    refine call_i (wc := [(aR, .inr (2, [.ref aB, .ref aQ, .int hd, .long pl, .int hv, .int lk, .int dn, .int ht, .int sl, .int br, .int wh]))]) (wr := [(aX, .inr (5, [.ref aL, .ref aS, .ref aR])), (aQ, .inr (0, [.ref aT, .ref aP, .int gc]))]) (run_V (As := []) (rest := []) kv_RX6_100 ⟨by decide, by decide⟩ ⟨rfl, rfl⟩ ⟨hx, hb, hml, hown, hts⟩ (c_Re_wrongHeadCount l D cI cJ cB aR aB aQ hd pl hv lk dn ht sl br wh  _) ct_blind (ct_pre (wc := [(aR, .inr (2, [.ref aB, .ref aQ, .int hd, .long pl, .int hv, .int lk, .int dn, .int ht, .int sl, .int br, .int wh]))]) hK hP hD hS hA hZ hN [1] (by decide) rfl rfl) (va_recv hK hP (ci := 2) (q0 := 1) rfl rfl) rfl hl.1 rfl (Nat.le_of_ble_eq_true rfl) dX6_receiver_92 ⟨Nat.le_of_ble_eq_true rfl, Nat.le_of_ble_eq_true rfl⟩) hP hD hS hA [1] [0, 2] rfl rfl (by decide) (by decide) (fun r19 u H locs hw19 hP1 hD1 hS1 => ?_)
    have hw19 : r19.toInt = wh.toInt := hw19
    clear hP hD hS
    have hP : va_P D classes [(aX, .inr (5, [.ref aL, .ref aS, .ref aR])), (aQ, .inr (0, [.ref aT, .ref aP, .int gc])), (aR, .inr (2, [.ref aB, .ref aQ, .int hd, .long pl, .int hv, .int lk, .int dn, .int ht, .int sl, .int br, .int wh]))] H := hP1
    have hD : va_D A [(aX, .inr (5, [.ref aL, .ref aS, .ref aR])), (aQ, .inr (0, [.ref aT, .ref aP, .int gc])), (aR, .inr (2, [.ref aB, .ref aQ, .int hd, .long pl, .int hv, .int lk, .int dn, .int ht, .int sl, .int br, .int wh]))] := hD1
    have hS := hS1
    clear hP1 hD1 hS1
    have rg_r19 := zi_rg r19
    have hq20 : (x.toInt = 0 → r19.toInt = lk.toInt) ∧ (x.toInt = 1 → r19.toInt = ht.toInt) ∧ (x.toInt = 2 → r19.toInt = sl.toInt) ∧ (x.toInt = 3 → r19.toInt = hv.toInt) ∧ (x.toInt = 4 → r19.toInt = gc.toInt) ∧ (x.toInt = 5 → r19.toInt = wh.toInt) ∧ ((x.toInt < 0 ∨ 5 < x.toInt) → r19.toInt = -12) := (by omega)
    exact hret r19 () _ _ _ _ dX6_receiver_95 hq20 (hP.sub [0, 2, 1] rfl) (hD.sub [0, 2, 1] (by decide) rfl) hS

set_option maxHeartbeats 4000000 in
set_option maxRecDepth 100000 in
theorem c_LB_init (l : Launch) (D : va_G) (cI cJ cB : ClassId) (aX : Nat)  :
    ctv l yX6_init (wsOf yX6_init cX6_init 1 none) (rmL 3 64 10 772) D classes (tys3 cI cJ cB) [.ref aX] [(aX, .inr (5, [.null, .null, .null]))] (fun u : Nat × Nat × Nat × Nat × Nat × Nat × Nat × Nat × Nat × Nat => True) (fun u : Nat × Nat × Nat × Nat × Nat × Nat × Nat × Nat × Nat × Nat => ([(aX, .inr (5, [.ref u.1, .ref u.2.2.1, .ref u.2.2.2.2.2.1])), (u.1, .inr (1, [.ref u.2.1, .int 0, .int 0])), (u.2.1, .inl (cJ, 142, .inr (.inl (fun _ => 0)))), (u.2.2.1, .inr (4, [.ref u.2.2.2.1, .ref u.2.2.2.2.1, .int 0])), (u.2.2.2.1, .inr (3, [.long 0])), (u.2.2.2.2.1, .inl (cI, 8, .inl (fun _ => 0))), (u.2.2.2.2.2.1, .inr (2, [.ref u.2.2.2.2.2.2.1, .ref u.2.2.2.2.2.2.2.1, .int 0, .long 0, .int 0, .int 0, .int 0, .int 0, .int 0, .int 0, .int 0])), (u.2.2.2.2.2.2.1, .inr (3, [.long 0])), (u.2.2.2.2.2.2.2.1, .inr (0, [.ref u.2.2.2.2.2.2.2.2.1, .ref u.2.2.2.2.2.2.2.2.2, .int 0])), (u.2.2.2.2.2.2.2.2.1, .inl (cI, 300, .inl (fun _ => 0))), (u.2.2.2.2.2.2.2.2.2, .inl (cJ, 300, .inr (.inl (fun _ => 0))))] : va_W)) 10 772 := by
  refine ctv.of (by first | exact plainFor_of_name (by decide) | decide +kernel) (Nat.le_of_ble_eq_true rfl) (fun p e s m args below meth c A ls Q h hret => ?_)
  obtain ⟨hx, hb, hml, hown, hts, hnm, hP, hK, hD, hA, hS, hZ, hN, hl⟩ := h
  have hown : s.vm.findClass RX6 = some m.cls := hown
  have hl : lv_has ls 1 [(0, .ref aX)] := hl
  have hP : va_P D classes [(aX, .inr (5, [.null, .null, .null]))] s.heap := hP
  have hD : va_D A [(aX, .inr (5, [.null, .null, .null]))] := hD
  refine lv_aload_n hx hb dX6_init_0 rfl (lv_at hl 0 rfl) ?_
  refine W.objInit hx hb hown (hts _ wk10) (hts _ wk11) (hts _ wk12) rfl (by rw [hml]; exact hl.1) rfl dX6_init_1 (Nat.le_of_ble_eq_true rfl) (Nat.le_of_ble_eq_true rfl) ?_
  refine W.eq (g2 := F0 m 4 ls []) rfl ?_
  refine lv_aload_n hx hb dX6_init_4 rfl (lv_at hl 0 rfl) ?_
  refine va_new (ci := 1) (fs := [.null, .int 0, .int 0]) (C := RX2) (T := TX2) (N := 3) hx hb hts in_X2 tyX2 tyX2_ok hown (hts _ wk13) (hts _ wk14) (hts _ wk15) hK hP hD hS hA rfl (fun j hj => by rcases (show j = 0 ∨ j = 1 ∨ j = 2 by omega) with rfl | rfl | rfl <;> rfl) (Nat.le_of_ble_eq_true rfl) (Nat.le_of_ble_eq_true rfl) dX6_init_5 (fun q1 H hP1 hD1 hS1 => ?_)
  clear hP hD hS
  have hP : va_P D classes [(aX, .inr (5, [.null, .null, .null])), (q1, .inr (1, [.null, .int 0, .int 0]))] H := hP1
  have hD : va_D A [(aX, .inr (5, [.null, .null, .null])), (q1, .inr (1, [.null, .int 0, .int 0]))] := hD1
  have hS := hS1
  clear hP1 hD1 hS1
  refine W.widen (k := 1) (n := 3) (Nat.le_refl _) (Nat.le_refl _) ?_
  refine lv_dup hx hb dX6_init_8 rfl ?_
  refine call_v (wc := [(q1, .inr (1, [.null, .int 0, .int 0]))]) (wr := [(aX, .inr (5, [.null, .null, .null]))]) (run_N (As := []) (rest := [.ref q1, .ref aX]) kn_RX6_11 hN ⟨by decide, by decide⟩ ⟨rfl, rfl⟩ ⟨hx, hb, hml, hown, hts⟩ (c_Ln_init l D cI cJ cB q1  _) ct_blind (ct_pre (wc := [(q1, .inr (1, [.null, .int 0, .int 0]))]) hK hP hD hS hA hZ hN [1] (by decide) rfl rfl) rfl hl.1 rfl (Nat.le_of_ble_eq_true rfl) dX6_init_9 ⟨Nat.le_of_ble_eq_true rfl, Nat.le_of_ble_eq_true rfl⟩) hP hD hS hA [1] [0] rfl rfl (by decide) (by decide) (fun u H locs hw2 hP1 hD1 hS1 => ?_)
  obtain ⟨aW_2, hu9⟩ : ∃ z, z = u := ⟨_, rfl⟩
  subst hu9
  clear hw2
  clear hP hD hS
  have hP : va_P D classes [(aX, .inr (5, [.null, .null, .null])), (q1, .inr (1, [.ref aW_2, .int 0, .int 0])), (aW_2, .inl (cJ, 142, .inr (.inl (fun _ => 0))))] H := hP1
  have hD : va_D A [(aX, .inr (5, [.null, .null, .null])), (q1, .inr (1, [.ref aW_2, .int 0, .int 0])), (aW_2, .inl (cJ, 142, .inr (.inl (fun _ => 0))))] := hD1
  have hS := hS1
  clear hP1 hD1 hS1
  refine W.widen (k := 2) (n := 145) (Nat.le_refl _) (Nat.le_refl _) ?_
  refine va_putF (D := D) (ci := 5) (v := .ref q1) (ty := (.object "LineBlocks$Line")) (C := RX6) (T := TX6) (N := 3) hx hb hts in_X6 tyX6 tyX6_ok nmX6 hown hK hP hD hS 0 rfl rfl 0 (by decide) (hts _ wk16) (fun _ h9 => h9) rfl hnm rfl (by decide +kernel) rfl rfl (Nat.le_of_ble_eq_true rfl) dX6_init_12 (fun H locs hP1 hD1 hS1 => ?_)
  clear hP hD hS
  have hP : va_P D classes [(aX, .inr (5, [.ref q1, .null, .null])), (q1, .inr (1, [.ref aW_2, .int 0, .int 0])), (aW_2, .inl (cJ, 142, .inr (.inl (fun _ => 0))))] H := hP1
  have hD : va_D A [(aX, .inr (5, [.ref q1, .null, .null])), (q1, .inr (1, [.ref aW_2, .int 0, .int 0])), (aW_2, .inl (cJ, 142, .inr (.inl (fun _ => 0))))] := hD1
  have hS := hS1
  clear hP1 hD1 hS1
  refine lv_aload_n hx hb dX6_init_15 rfl (lv_at hl 0 rfl) ?_
  refine va_new (ci := 4) (fs := [.null, .null, .int 0]) (C := RX5) (T := TX5) (N := 3) hx hb hts in_X5 tyX5 tyX5_ok hown (hts _ wk17) (hts _ wk18) (hts _ wk19) hK hP hD hS hA rfl (fun j hj => by rcases (show j = 0 ∨ j = 1 ∨ j = 2 by omega) with rfl | rfl | rfl <;> rfl) (Nat.le_of_ble_eq_true rfl) (Nat.le_of_ble_eq_true rfl) dX6_init_16 (fun q3 H hP1 hD1 hS1 => ?_)
  clear hP hD hS
  have hP : va_P D classes [(aX, .inr (5, [.ref q1, .null, .null])), (q1, .inr (1, [.ref aW_2, .int 0, .int 0])), (aW_2, .inl (cJ, 142, .inr (.inl (fun _ => 0)))), (q3, .inr (4, [.null, .null, .int 0]))] H := hP1
  have hD : va_D A [(aX, .inr (5, [.ref q1, .null, .null])), (q1, .inr (1, [.ref aW_2, .int 0, .int 0])), (aW_2, .inl (cJ, 142, .inr (.inl (fun _ => 0)))), (q3, .inr (4, [.null, .null, .int 0]))] := hD1
  have hS := hS1
  clear hP1 hD1 hS1
  refine W.widen (k := 3) (n := 148) (Nat.le_refl _) (Nat.le_refl _) ?_
  refine lv_dup hx hb dX6_init_19 rfl ?_
  refine call_v (wc := [(q3, .inr (4, [.null, .null, .int 0]))]) (wr := [(aX, .inr (5, [.ref q1, .null, .null])), (q1, .inr (1, [.ref aW_2, .int 0, .int 0])), (aW_2, .inl (cJ, 142, .inr (.inl (fun _ => 0))))]) (run_N (As := []) (rest := [.ref q3, .ref aX]) kn_RX6_18 hN ⟨by decide, by decide⟩ ⟨rfl, rfl⟩ ⟨hx, hb, hml, hown, hts⟩ (c_Se_init l D cI cJ cB q3  _) ct_blind (ct_pre (wc := [(q3, .inr (4, [.null, .null, .int 0]))]) hK hP hD hS hA hZ hN [3] (by decide) rfl rfl) rfl hl.1 rfl (Nat.le_of_ble_eq_true rfl) dX6_init_20 ⟨Nat.le_of_ble_eq_true rfl, Nat.le_of_ble_eq_true rfl⟩) hP hD hS hA [3] [0, 1, 2] rfl rfl (by decide) (by decide) (fun u H locs hw4 hP1 hD1 hS1 => ?_)
  obtain ⟨aC_4, aG_4⟩ := u
  clear hw4
  clear hP hD hS
  have hP : va_P D classes [(aX, .inr (5, [.ref q1, .null, .null])), (q1, .inr (1, [.ref aW_2, .int 0, .int 0])), (aW_2, .inl (cJ, 142, .inr (.inl (fun _ => 0)))), (q3, .inr (4, [.ref aC_4, .ref aG_4, .int 0])), (aC_4, .inr (3, [.long 0])), (aG_4, .inl (cI, 8, .inl (fun _ => 0)))] H := hP1
  have hD : va_D A [(aX, .inr (5, [.ref q1, .null, .null])), (q1, .inr (1, [.ref aW_2, .int 0, .int 0])), (aW_2, .inl (cJ, 142, .inr (.inl (fun _ => 0)))), (q3, .inr (4, [.ref aC_4, .ref aG_4, .int 0])), (aC_4, .inr (3, [.long 0])), (aG_4, .inl (cI, 8, .inl (fun _ => 0)))] := hD1
  have hS := hS1
  clear hP1 hD1 hS1
  refine W.widen (k := 5) (n := 157) (Nat.le_refl _) (Nat.le_refl _) ?_
  refine va_putF (D := D) (ci := 5) (v := .ref q3) (ty := (.object "LineBlocks$Sender")) (C := RX6) (T := TX6) (N := 3) hx hb hts in_X6 tyX6 tyX6_ok nmX6 hown hK hP hD hS 0 rfl rfl 1 (by decide) (hts _ wk20) (fun _ h9 => h9) rfl hnm rfl (by decide +kernel) rfl rfl (Nat.le_of_ble_eq_true rfl) dX6_init_23 (fun H locs hP1 hD1 hS1 => ?_)
  clear hP hD hS
  have hP : va_P D classes [(aX, .inr (5, [.ref q1, .ref q3, .null])), (q1, .inr (1, [.ref aW_2, .int 0, .int 0])), (aW_2, .inl (cJ, 142, .inr (.inl (fun _ => 0)))), (q3, .inr (4, [.ref aC_4, .ref aG_4, .int 0])), (aC_4, .inr (3, [.long 0])), (aG_4, .inl (cI, 8, .inl (fun _ => 0)))] H := hP1
  have hD : va_D A [(aX, .inr (5, [.ref q1, .ref q3, .null])), (q1, .inr (1, [.ref aW_2, .int 0, .int 0])), (aW_2, .inl (cJ, 142, .inr (.inl (fun _ => 0)))), (q3, .inr (4, [.ref aC_4, .ref aG_4, .int 0])), (aC_4, .inr (3, [.long 0])), (aG_4, .inl (cI, 8, .inl (fun _ => 0)))] := hD1
  have hS := hS1
  clear hP1 hD1 hS1
  refine lv_aload_n hx hb dX6_init_26 rfl (lv_at hl 0 rfl) ?_
  refine va_new (ci := 2) (fs := [.null, .null, .int 0, .long 0, .int 0, .int 0, .int 0, .int 0, .int 0, .int 0, .int 0]) (C := RX3) (T := TX3) (N := 11) hx hb hts in_X3 tyX3 tyX3_ok hown (hts _ wk21) (hts _ wk22) (hts _ wk23) hK hP hD hS hA rfl (fun j hj => by rcases (show j = 0 ∨ j = 1 ∨ j = 2 ∨ j = 3 ∨ j = 4 ∨ j = 5 ∨ j = 6 ∨ j = 7 ∨ j = 8 ∨ j = 9 ∨ j = 10 by omega) with rfl | rfl | rfl | rfl | rfl | rfl | rfl | rfl | rfl | rfl | rfl <;> rfl) (Nat.le_of_ble_eq_true rfl) (Nat.le_of_ble_eq_true rfl) dX6_init_27 (fun q5 H hP1 hD1 hS1 => ?_)
  clear hP hD hS
  have hP : va_P D classes [(aX, .inr (5, [.ref q1, .ref q3, .null])), (q1, .inr (1, [.ref aW_2, .int 0, .int 0])), (aW_2, .inl (cJ, 142, .inr (.inl (fun _ => 0)))), (q3, .inr (4, [.ref aC_4, .ref aG_4, .int 0])), (aC_4, .inr (3, [.long 0])), (aG_4, .inl (cI, 8, .inl (fun _ => 0))), (q5, .inr (2, [.null, .null, .int 0, .long 0, .int 0, .int 0, .int 0, .int 0, .int 0, .int 0, .int 0]))] H := hP1
  have hD : va_D A [(aX, .inr (5, [.ref q1, .ref q3, .null])), (q1, .inr (1, [.ref aW_2, .int 0, .int 0])), (aW_2, .inl (cJ, 142, .inr (.inl (fun _ => 0)))), (q3, .inr (4, [.ref aC_4, .ref aG_4, .int 0])), (aC_4, .inr (3, [.long 0])), (aG_4, .inl (cI, 8, .inl (fun _ => 0))), (q5, .inr (2, [.null, .null, .int 0, .long 0, .int 0, .int 0, .int 0, .int 0, .int 0, .int 0, .int 0]))] := hD1
  have hS := hS1
  clear hP1 hD1 hS1
  refine W.widen (k := 6) (n := 168) (Nat.le_refl _) (Nat.le_refl _) ?_
  refine lv_dup hx hb dX6_init_30 rfl ?_
  refine call_v (wc := [(q5, .inr (2, [.null, .null, .int 0, .long 0, .int 0, .int 0, .int 0, .int 0, .int 0, .int 0, .int 0]))]) (wr := [(aX, .inr (5, [.ref q1, .ref q3, .null])), (q1, .inr (1, [.ref aW_2, .int 0, .int 0])), (aW_2, .inl (cJ, 142, .inr (.inl (fun _ => 0)))), (q3, .inr (4, [.ref aC_4, .ref aG_4, .int 0])), (aC_4, .inr (3, [.long 0])), (aG_4, .inl (cI, 8, .inl (fun _ => 0)))]) (run_N (As := []) (rest := [.ref q5, .ref aX]) kn_RX6_25 hN ⟨by decide, by decide⟩ ⟨rfl, rfl⟩ ⟨hx, hb, hml, hown, hts⟩ (c_Re_init l D cI cJ cB q5  _) ct_blind (ct_pre (wc := [(q5, .inr (2, [.null, .null, .int 0, .long 0, .int 0, .int 0, .int 0, .int 0, .int 0, .int 0, .int 0]))]) hK hP hD hS hA hZ hN [6] (by decide) rfl rfl) rfl hl.1 rfl (Nat.le_of_ble_eq_true rfl) dX6_init_31 ⟨Nat.le_of_ble_eq_true rfl, Nat.le_of_ble_eq_true rfl⟩) hP hD hS hA [6] [0, 1, 2, 3, 4, 5] rfl rfl (by decide) (by decide) (fun u H locs hw6 hP1 hD1 hS1 => ?_)
  obtain ⟨aB_6, aQ_6, aT_6, aP_6⟩ := u
  clear hw6
  clear hP hD hS
  have hP : va_P D classes [(aX, .inr (5, [.ref q1, .ref q3, .null])), (q1, .inr (1, [.ref aW_2, .int 0, .int 0])), (aW_2, .inl (cJ, 142, .inr (.inl (fun _ => 0)))), (q3, .inr (4, [.ref aC_4, .ref aG_4, .int 0])), (aC_4, .inr (3, [.long 0])), (aG_4, .inl (cI, 8, .inl (fun _ => 0))), (q5, .inr (2, [.ref aB_6, .ref aQ_6, .int 0, .long 0, .int 0, .int 0, .int 0, .int 0, .int 0, .int 0, .int 0])), (aB_6, .inr (3, [.long 0])), (aQ_6, .inr (0, [.ref aT_6, .ref aP_6, .int 0])), (aT_6, .inl (cI, 300, .inl (fun _ => 0))), (aP_6, .inl (cJ, 300, .inr (.inl (fun _ => 0))))] H := hP1
  have hD : va_D A [(aX, .inr (5, [.ref q1, .ref q3, .null])), (q1, .inr (1, [.ref aW_2, .int 0, .int 0])), (aW_2, .inl (cJ, 142, .inr (.inl (fun _ => 0)))), (q3, .inr (4, [.ref aC_4, .ref aG_4, .int 0])), (aC_4, .inr (3, [.long 0])), (aG_4, .inl (cI, 8, .inl (fun _ => 0))), (q5, .inr (2, [.ref aB_6, .ref aQ_6, .int 0, .long 0, .int 0, .int 0, .int 0, .int 0, .int 0, .int 0, .int 0])), (aB_6, .inr (3, [.long 0])), (aQ_6, .inr (0, [.ref aT_6, .ref aP_6, .int 0])), (aT_6, .inl (cI, 300, .inl (fun _ => 0))), (aP_6, .inl (cJ, 300, .inr (.inl (fun _ => 0))))] := hD1
  have hS := hS1
  clear hP1 hD1 hS1
  refine W.widen (k := 10) (n := 772) (Nat.le_refl _) (Nat.le_refl _) ?_
  refine va_putF (D := D) (ci := 5) (v := .ref q5) (ty := (.object "LineBlocks$Receiver")) (C := RX6) (T := TX6) (N := 3) hx hb hts in_X6 tyX6 tyX6_ok nmX6 hown hK hP hD hS 0 rfl rfl 2 (by decide) (hts _ wk24) (fun _ h9 => h9) rfl hnm rfl (by decide +kernel) rfl rfl (Nat.le_of_ble_eq_true rfl) dX6_init_34 (fun H locs hP1 hD1 hS1 => ?_)
  clear hP hD hS
  have hP : va_P D classes [(aX, .inr (5, [.ref q1, .ref q3, .ref q5])), (q1, .inr (1, [.ref aW_2, .int 0, .int 0])), (aW_2, .inl (cJ, 142, .inr (.inl (fun _ => 0)))), (q3, .inr (4, [.ref aC_4, .ref aG_4, .int 0])), (aC_4, .inr (3, [.long 0])), (aG_4, .inl (cI, 8, .inl (fun _ => 0))), (q5, .inr (2, [.ref aB_6, .ref aQ_6, .int 0, .long 0, .int 0, .int 0, .int 0, .int 0, .int 0, .int 0, .int 0])), (aB_6, .inr (3, [.long 0])), (aQ_6, .inr (0, [.ref aT_6, .ref aP_6, .int 0])), (aT_6, .inl (cI, 300, .inl (fun _ => 0))), (aP_6, .inl (cJ, 300, .inr (.inl (fun _ => 0))))] H := hP1
  have hD : va_D A [(aX, .inr (5, [.ref q1, .ref q3, .ref q5])), (q1, .inr (1, [.ref aW_2, .int 0, .int 0])), (aW_2, .inl (cJ, 142, .inr (.inl (fun _ => 0)))), (q3, .inr (4, [.ref aC_4, .ref aG_4, .int 0])), (aC_4, .inr (3, [.long 0])), (aG_4, .inl (cI, 8, .inl (fun _ => 0))), (q5, .inr (2, [.ref aB_6, .ref aQ_6, .int 0, .long 0, .int 0, .int 0, .int 0, .int 0, .int 0, .int 0, .int 0])), (aB_6, .inr (3, [.long 0])), (aQ_6, .inr (0, [.ref aT_6, .ref aP_6, .int 0])), (aT_6, .inl (cI, 300, .inl (fun _ => 0))), (aP_6, .inl (cJ, 300, .inr (.inl (fun _ => 0))))] := hD1
  have hS := hS1
  clear hP1 hD1 hS1
  exact hret (q1, aW_2, q3, aC_4, aG_4, q5, aB_6, aQ_6, aT_6, aP_6) _ _ _ _ dX6_init_37 trivial (hP.sub [0, 1, 2, 3, 4, 5, 6, 7, 8, 9, 10] rfl) (hD.sub [0, 1, 2, 3, 4, 5, 6, 7, 8, 9, 10] (by decide) rfl) hS
end
