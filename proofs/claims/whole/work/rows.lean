section
-- ===== PART A: goes FIRST, ahead of the names: the tables' words, and 'selects' of the private methods out of them =====
/-- a private method of a class that the tables say can be made, by its rows of tables_1 -/
def lw_okq (q : MethodName × Nat) : Prop := (q.1.cls ≠ "java/lang/invoke/MethodHandle" ∧ q.1.cls ≠ "java/lang/invoke/VarHandle") ∧ Cond.instantiable q.1.cls q.2 ∈ tables_1 ∧ Cond.privateMethod q.1 ∈ tables_1 ∧ Cond.instanceMethod q.1 ∈ tables_1
theorem lw_p0 : lw_okq (⟨"CopyPolls", "isTaken", "(I)Z"⟩, 12) := ⟨⟨by decide +kernel, by decide +kernel⟩, List.mem_of_getElem? (i := 14) (by decide +kernel), List.mem_of_getElem? (i := 89) (by decide +kernel), List.mem_of_getElem? (i := 90) (by decide +kernel)⟩
theorem lw_p1 : lw_okq (⟨"CopyPolls", "answeringStores", "()I"⟩, 12) := ⟨⟨by decide +kernel, by decide +kernel⟩, List.mem_of_getElem? (i := 14) (by decide +kernel), List.mem_of_getElem? (i := 130) (by decide +kernel), List.mem_of_getElem? (i := 131) (by decide +kernel)⟩
theorem lw_p2 : lw_okq (⟨"CopyPolls", "isAnswering", "(I)Z"⟩, 12) := ⟨⟨by decide +kernel, by decide +kernel⟩, List.mem_of_getElem? (i := 14) (by decide +kernel), List.mem_of_getElem? (i := 134) (by decide +kernel), List.mem_of_getElem? (i := 135) (by decide +kernel)⟩
theorem lw_p3 : lw_okq (⟨"CopyPolls", "storeOf", "(I)LCopyPolls$Store;"⟩, 12) := ⟨⟨by decide +kernel, by decide +kernel⟩, List.mem_of_getElem? (i := 14) (by decide +kernel), List.mem_of_getElem? (i := 138) (by decide +kernel), List.mem_of_getElem? (i := 139) (by decide +kernel)⟩
theorem lw_p4 : lw_okq (⟨"CopyPolls", "placeCollected", "(LCopyPolls$Item;)V"⟩, 12) := ⟨⟨by decide +kernel, by decide +kernel⟩, List.mem_of_getElem? (i := 14) (by decide +kernel), List.mem_of_getElem? (i := 162) (by decide +kernel), List.mem_of_getElem? (i := 163) (by decide +kernel)⟩
theorem lw_p5 : lw_okq (⟨"CopyPolls", "copiesOn", "(I)I"⟩, 12) := ⟨⟨by decide +kernel, by decide +kernel⟩, List.mem_of_getElem? (i := 14) (by decide +kernel), List.mem_of_getElem? (i := 166) (by decide +kernel), List.mem_of_getElem? (i := 167) (by decide +kernel)⟩
theorem lw_p6 : lw_okq (⟨"CopyPolls", "copyOf", "(II)LCopyPolls$Row;"⟩, 12) := ⟨⟨by decide +kernel, by decide +kernel⟩, List.mem_of_getElem? (i := 14) (by decide +kernel), List.mem_of_getElem? (i := 170) (by decide +kernel), List.mem_of_getElem? (i := 171) (by decide +kernel)⟩
theorem lw_p7 : lw_okq (⟨"CopyPolls", "itemOf", "(I)LCopyPolls$Item;"⟩, 12) := ⟨⟨by decide +kernel, by decide +kernel⟩, List.mem_of_getElem? (i := 14) (by decide +kernel), List.mem_of_getElem? (i := 174) (by decide +kernel), List.mem_of_getElem? (i := 175) (by decide +kernel)⟩
theorem lw_p8 : lw_okq (⟨"CopyPolls", "listCounting", "(LCopyPolls$Item;)I"⟩, 12) := ⟨⟨by decide +kernel, by decide +kernel⟩, List.mem_of_getElem? (i := 14) (by decide +kernel), List.mem_of_getElem? (i := 212) (by decide +kernel), List.mem_of_getElem? (i := 213) (by decide +kernel)⟩
theorem lw_p9 : lw_okq (⟨"CopyPolls", "countingRow", "(LCopyPolls$Item;I)LCopyPolls$Row;"⟩, 12) := ⟨⟨by decide +kernel, by decide +kernel⟩, List.mem_of_getElem? (i := 14) (by decide +kernel), List.mem_of_getElem? (i := 216) (by decide +kernel), List.mem_of_getElem? (i := 217) (by decide +kernel)⟩
theorem lw_p10 : lw_okq (⟨"CopyPolls", "mix", "(IJ)J"⟩, 12) := ⟨⟨by decide +kernel, by decide +kernel⟩, List.mem_of_getElem? (i := 14) (by decide +kernel), List.mem_of_getElem? (i := 220) (by decide +kernel), List.mem_of_getElem? (i := 221) (by decide +kernel)⟩
theorem lw_p11 : lw_okq (⟨"CopyPolls", "ask", "(ILCopyPolls$Item;I)V"⟩, 12) := ⟨⟨by decide +kernel, by decide +kernel⟩, List.mem_of_getElem? (i := 14) (by decide +kernel), List.mem_of_getElem? (i := 226) (by decide +kernel), List.mem_of_getElem? (i := 227) (by decide +kernel)⟩
theorem lw_p12 : lw_okq (⟨"CopyPolls", "majorityRow", "(LCopyPolls$Item;)LCopyPolls$Row;"⟩, 12) := ⟨⟨by decide +kernel, by decide +kernel⟩, List.mem_of_getElem? (i := 14) (by decide +kernel), List.mem_of_getElem? (i := 238) (by decide +kernel), List.mem_of_getElem? (i := 239) (by decide +kernel)⟩
theorem lw_p13 : lw_okq (⟨"CopyPolls", "countingCopies", "(LCopyPolls$Item;)I"⟩, 12) := ⟨⟨by decide +kernel, by decide +kernel⟩, List.mem_of_getElem? (i := 14) (by decide +kernel), List.mem_of_getElem? (i := 242) (by decide +kernel), List.mem_of_getElem? (i := 243) (by decide +kernel)⟩
theorem lw_p14 : lw_okq (⟨"CopyPolls", "countingWith", "(LCopyPolls$Item;I)I"⟩, 12) := ⟨⟨by decide +kernel, by decide +kernel⟩, List.mem_of_getElem? (i := 14) (by decide +kernel), List.mem_of_getElem? (i := 246) (by decide +kernel), List.mem_of_getElem? (i := 247) (by decide +kernel)⟩
theorem lw_p15 : lw_okq (⟨"CopyPolls", "mendItem", "(LCopyPolls$Item;)I"⟩, 12) := ⟨⟨by decide +kernel, by decide +kernel⟩, List.mem_of_getElem? (i := 14) (by decide +kernel), List.mem_of_getElem? (i := 258) (by decide +kernel), List.mem_of_getElem? (i := 259) (by decide +kernel)⟩
def lw_privs_1 : List (MethodName × Nat) := [(⟨"CopyPolls", "isTaken", "(I)Z"⟩, 12), (⟨"CopyPolls", "answeringStores", "()I"⟩, 12), (⟨"CopyPolls", "isAnswering", "(I)Z"⟩, 12), (⟨"CopyPolls", "storeOf", "(I)LCopyPolls$Store;"⟩, 12), (⟨"CopyPolls", "placeCollected", "(LCopyPolls$Item;)V"⟩, 12), (⟨"CopyPolls", "copiesOn", "(I)I"⟩, 12), (⟨"CopyPolls", "copyOf", "(II)LCopyPolls$Row;"⟩, 12), (⟨"CopyPolls", "itemOf", "(I)LCopyPolls$Item;"⟩, 12), (⟨"CopyPolls", "listCounting", "(LCopyPolls$Item;)I"⟩, 12), (⟨"CopyPolls", "countingRow", "(LCopyPolls$Item;I)LCopyPolls$Row;"⟩, 12), (⟨"CopyPolls", "mix", "(IJ)J"⟩, 12), (⟨"CopyPolls", "ask", "(ILCopyPolls$Item;I)V"⟩, 12), (⟨"CopyPolls", "majorityRow", "(LCopyPolls$Item;)LCopyPolls$Row;"⟩, 12), (⟨"CopyPolls", "countingCopies", "(LCopyPolls$Item;)I"⟩, 12), (⟨"CopyPolls", "countingWith", "(LCopyPolls$Item;I)I"⟩, 12), (⟨"CopyPolls", "mendItem", "(LCopyPolls$Item;)I"⟩, 12)]
theorem lw_r1 : ∀ q ∈ lw_privs_1, lw_okq q := List.forall_mem_cons.mpr ⟨lw_p0, List.forall_mem_cons.mpr ⟨lw_p1, List.forall_mem_cons.mpr ⟨lw_p2, List.forall_mem_cons.mpr ⟨lw_p3, List.forall_mem_cons.mpr ⟨lw_p4, List.forall_mem_cons.mpr ⟨lw_p5, List.forall_mem_cons.mpr ⟨lw_p6, List.forall_mem_cons.mpr ⟨lw_p7, List.forall_mem_cons.mpr ⟨lw_p8, List.forall_mem_cons.mpr ⟨lw_p9, List.forall_mem_cons.mpr ⟨lw_p10, List.forall_mem_cons.mpr ⟨lw_p11, List.forall_mem_cons.mpr ⟨lw_p12, List.forall_mem_cons.mpr ⟨lw_p13, List.forall_mem_cons.mpr ⟨lw_p14, List.forall_mem_cons.mpr ⟨lw_p15, fun _ h => absurd h List.not_mem_nil⟩⟩⟩⟩⟩⟩⟩⟩⟩⟩⟩⟩⟩⟩⟩⟩
theorem lw_p16 : lw_okq (⟨"CopyPolls", "fillItem", "(LCopyPolls$Item;I)Z"⟩, 12) := ⟨⟨by decide +kernel, by decide +kernel⟩, List.mem_of_getElem? (i := 14) (by decide +kernel), List.mem_of_getElem? (i := 271) (by decide +kernel), List.mem_of_getElem? (i := 272) (by decide +kernel)⟩
theorem lw_p17 : lw_okq (⟨"java/lang/Throwable", "fillInStackTrace", "(I)Ljava/lang/Throwable;"⟩, 6) := ⟨⟨by decide +kernel, by decide +kernel⟩, List.mem_of_getElem? (i := 344) (by decide +kernel), List.mem_of_getElem? (i := 342) (by decide +kernel), List.mem_of_getElem? (i := 343) (by decide +kernel)⟩
theorem lw_p18 : lw_okq (⟨"CopyPolls", "bearsOdds", "(LCopyPolls$Item;ILCopyPolls$Row;)Z"⟩, 12) := ⟨⟨by decide +kernel, by decide +kernel⟩, List.mem_of_getElem? (i := 14) (by decide +kernel), List.mem_of_getElem? (i := 383) (by decide +kernel), List.mem_of_getElem? (i := 384) (by decide +kernel)⟩
theorem lw_p19 : lw_okq (⟨"CopyPollsModel", "ahead", "(I)I"⟩, 20) := ⟨⟨by decide +kernel, by decide +kernel⟩, List.mem_of_getElem? (i := 432) (by decide +kernel), List.mem_of_getElem? (i := 519) (by decide +kernel), List.mem_of_getElem? (i := 520) (by decide +kernel)⟩
theorem lw_p20 : lw_okq (⟨"CopyPollsModel", "loadOf", "(I)I"⟩, 20) := ⟨⟨by decide +kernel, by decide +kernel⟩, List.mem_of_getElem? (i := 432) (by decide +kernel), List.mem_of_getElem? (i := 523) (by decide +kernel), List.mem_of_getElem? (i := 524) (by decide +kernel)⟩
theorem lw_p21 : lw_okq (⟨"CopyPollsModel", "isStore", "(I)Z"⟩, 20) := ⟨⟨by decide +kernel, by decide +kernel⟩, List.mem_of_getElem? (i := 432) (by decide +kernel), List.mem_of_getElem? (i := 531) (by decide +kernel), List.mem_of_getElem? (i := 532) (by decide +kernel)⟩
theorem lw_p22 : lw_okq (⟨"CopyPollsModel", "has", "(II)Z"⟩, 20) := ⟨⟨by decide +kernel, by decide +kernel⟩, List.mem_of_getElem? (i := 432) (by decide +kernel), List.mem_of_getElem? (i := 539) (by decide +kernel), List.mem_of_getElem? (i := 540) (by decide +kernel)⟩
theorem lw_p23 : lw_okq (⟨"CopyPollsModel", "isFile", "(I)Z"⟩, 20) := ⟨⟨by decide +kernel, by decide +kernel⟩, List.mem_of_getElem? (i := 432) (by decide +kernel), List.mem_of_getElem? (i := 543) (by decide +kernel), List.mem_of_getElem? (i := 544) (by decide +kernel)⟩
theorem lw_p24 : lw_okq (⟨"CopyPollsModel", "counts", "(II)Z"⟩, 20) := ⟨⟨by decide +kernel, by decide +kernel⟩, List.mem_of_getElem? (i := 432) (by decide +kernel), List.mem_of_getElem? (i := 559) (by decide +kernel), List.mem_of_getElem? (i := 560) (by decide +kernel)⟩
theorem lw_p25 : lw_okq (⟨"CopyPollsModel", "digestOf", "(II)I"⟩, 20) := ⟨⟨by decide +kernel, by decide +kernel⟩, List.mem_of_getElem? (i := 432) (by decide +kernel), List.mem_of_getElem? (i := 565) (by decide +kernel), List.mem_of_getElem? (i := 566) (by decide +kernel)⟩
theorem lw_p26 : lw_okq (⟨"CopyPollsModel", "leader", "(I)I"⟩, 20) := ⟨⟨by decide +kernel, by decide +kernel⟩, List.mem_of_getElem? (i := 432) (by decide +kernel), List.mem_of_getElem? (i := 577) (by decide +kernel), List.mem_of_getElem? (i := 578) (by decide +kernel)⟩
theorem lw_p27 : lw_okq (⟨"CopyPollsModel", "copy", "(III)V"⟩, 20) := ⟨⟨by decide +kernel, by decide +kernel⟩, List.mem_of_getElem? (i := 432) (by decide +kernel), List.mem_of_getElem? (i := 589) (by decide +kernel), List.mem_of_getElem? (i := 590) (by decide +kernel)⟩
theorem lw_p28 : lw_okq (⟨"CopyPollsModel", "copiesOf", "(IZ)I"⟩, 20) := ⟨⟨by decide +kernel, by decide +kernel⟩, List.mem_of_getElem? (i := 432) (by decide +kernel), List.mem_of_getElem? (i := 601) (by decide +kernel), List.mem_of_getElem? (i := 602) (by decide +kernel)⟩
def lw_privs_2 : List (MethodName × Nat) := [(⟨"CopyPolls", "fillItem", "(LCopyPolls$Item;I)Z"⟩, 12), (⟨"java/lang/Throwable", "fillInStackTrace", "(I)Ljava/lang/Throwable;"⟩, 6), (⟨"CopyPolls", "bearsOdds", "(LCopyPolls$Item;ILCopyPolls$Row;)Z"⟩, 12), (⟨"CopyPollsModel", "ahead", "(I)I"⟩, 20), (⟨"CopyPollsModel", "loadOf", "(I)I"⟩, 20), (⟨"CopyPollsModel", "isStore", "(I)Z"⟩, 20), (⟨"CopyPollsModel", "has", "(II)Z"⟩, 20), (⟨"CopyPollsModel", "isFile", "(I)Z"⟩, 20), (⟨"CopyPollsModel", "counts", "(II)Z"⟩, 20), (⟨"CopyPollsModel", "digestOf", "(II)I"⟩, 20), (⟨"CopyPollsModel", "leader", "(I)I"⟩, 20), (⟨"CopyPollsModel", "copy", "(III)V"⟩, 20), (⟨"CopyPollsModel", "copiesOf", "(IZ)I"⟩, 20)]
theorem lw_r2 : ∀ q ∈ lw_privs_2, lw_okq q := List.forall_mem_cons.mpr ⟨lw_p16, List.forall_mem_cons.mpr ⟨lw_p17, List.forall_mem_cons.mpr ⟨lw_p18, List.forall_mem_cons.mpr ⟨lw_p19, List.forall_mem_cons.mpr ⟨lw_p20, List.forall_mem_cons.mpr ⟨lw_p21, List.forall_mem_cons.mpr ⟨lw_p22, List.forall_mem_cons.mpr ⟨lw_p23, List.forall_mem_cons.mpr ⟨lw_p24, List.forall_mem_cons.mpr ⟨lw_p25, List.forall_mem_cons.mpr ⟨lw_p26, List.forall_mem_cons.mpr ⟨lw_p27, List.forall_mem_cons.mpr ⟨lw_p28, fun _ h => absurd h List.not_mem_nil⟩⟩⟩⟩⟩⟩⟩⟩⟩⟩⟩⟩⟩
def lw_privs : List (MethodName × Nat) := lw_privs_1 ++ (lw_privs_2)
def lw_tbl : List Cond := k2_sels lw_privs ++ tables_1
theorem lw_privs_ok : ∀ q ∈ lw_privs, lw_okq q := by
  show ∀ q ∈ lw_privs_1 ++ (lw_privs_2), lw_okq q
  exact List.forall_mem_append.mpr ⟨lw_r1, lw_r2⟩
end
section
def RX0 : String := "CopyPolls$Item"
def TX0 : u_T := fun k => match k with
  | 0 => ("CopyPolls$Item", "pack", "I", true)
  | 1 => ("CopyPolls$Item", "rows", "[LCopyPolls$Row;", true)
  | _ => ("CopyPolls$Item", "renewed", "I", false)
def tyX0 : Nat → FieldType := fun k => match k with
  | 0 => .int
  | 1 => .array (.object "CopyPolls$Row")
  | _ => .int
abbrev wsX00 : List Cond := u_ws RX0 TX0 3
theorem nmX0 : ∀ a, a < 3 → ∀ b, b < 3 → a ≠ b → (TX0 a).2.1 ≠ (TX0 b).2.1 := by decide +kernel
theorem tyX0_ok : ∀ k, k < 3 → parseFieldDescriptor (TX0 k).2.2.1 = some (tyX0 k) := by decide +kernel
abbrev cX0_init : ByteArray := prog_2_method_1_code
def yX0_init : MethodName := ⟨RX0, "<init>", "(I)V"⟩
abbrev cX0_copyCount : ByteArray := prog_2_method_2_code
def yX0_copyCount : MethodName := ⟨RX0, "copyCount", "()I"⟩
def RX1 : String := "CopyPolls$Row"
def TX1 : u_T := fun k => match k with
  | 0 => ("CopyPolls$Row", "bytes", "[I", true)
  | _ => ("CopyPolls$Row", "size", "I", false)
def tyX1 : Nat → FieldType := fun k => match k with
  | 0 => .array .int
  | _ => .int
abbrev wsX10 : List Cond := u_ws RX1 TX1 2
theorem nmX1 : ∀ a, a < 2 → ∀ b, b < 2 → a ≠ b → (TX1 a).2.1 ≠ (TX1 b).2.1 := by decide +kernel
theorem tyX1_ok : ∀ k, k < 2 → parseFieldDescriptor (TX1 k).2.2.1 = some (tyX1 k) := by decide +kernel
abbrev cX1_init : ByteArray := prog_3_method_1_code
def yX1_init : MethodName := ⟨RX1, "<init>", "()V"⟩
abbrev cX1_has : ByteArray := prog_3_method_2_code
def yX1_has : MethodName := ⟨RX1, "has", "(I)Z"⟩
abbrev cX1_append : ByteArray := prog_3_method_3_code
def yX1_append : MethodName := ⟨RX1, "append", "(I)V"⟩
abbrev cX1_become : ByteArray := prog_3_method_4_code
def yX1_become : MethodName := ⟨RX1, "become", "(LCopyPolls$Row;)V"⟩
abbrev cX1_twin : ByteArray := prog_3_method_5_code
def yX1_twin : MethodName := ⟨RX1, "twin", "()LCopyPolls$Row;"⟩
abbrev cX1_sum : ByteArray := prog_3_method_6_code
def yX1_sum : MethodName := ⟨RX1, "sum", "()I"⟩
def RX2 : String := "CopyPolls$Store"
def TX2 : u_T := fun k => match k with
  | 0 => ("CopyPolls$Store", "place", "I", true)
  | 1 => ("CopyPolls$Store", "answering", "Z", false)
  | 2 => ("CopyPolls$Store", "up", "I", false)
  | _ => ("CopyPolls$Store", "down", "I", false)
def tyX2 : Nat → FieldType := fun k => match k with
  | 0 => .int
  | 1 => .boolean
  | 2 => .int
  | _ => .int
abbrev wsX20 : List Cond := u_ws RX2 TX2 4
theorem nmX2 : ∀ a, a < 4 → ∀ b, b < 4 → a ≠ b → (TX2 a).2.1 ≠ (TX2 b).2.1 := by decide +kernel
theorem tyX2_ok : ∀ k, k < 4 → parseFieldDescriptor (TX2 k).2.2.1 = some (tyX2 k) := by decide +kernel
abbrev cX2_init : ByteArray := prog_4_method_1_code
def yX2_init : MethodName := ⟨RX2, "<init>", "(I)V"⟩
def RX3 : String := "CopyPolls"
def TX3 : u_T := fun k => match k with
  | 0 => ("CopyPolls", "copies", "I", true)
  | 1 => ("CopyPolls", "stores", "[LCopyPolls$Store;", true)
  | 2 => ("CopyPolls", "storeCount", "I", false)
  | 3 => ("CopyPolls", "items", "[LCopyPolls$Item;", true)
  | 4 => ("CopyPolls", "itemCount", "I", false)
  | 5 => ("CopyPolls", "collected", "LCopyPolls$Row;", true)
  | 6 => ("CopyPolls", "mixed", "[I", true)
  | 7 => ("CopyPolls", "askedFiles", "[I", true)
  | 8 => ("CopyPolls", "askedStores", "[I", true)
  | 9 => ("CopyPolls", "askedDigests", "[I", true)
  | 10 => ("CopyPolls", "askedCount", "I", false)
  | _ => ("CopyPolls", "foundDigest", "I", false)
def tyX3 : Nat → FieldType := fun k => match k with
  | 0 => .int
  | 1 => .array (.object "CopyPolls$Store")
  | 2 => .int
  | 3 => .array (.object "CopyPolls$Item")
  | 4 => .int
  | 5 => .object "CopyPolls$Row"
  | 6 => .array .int
  | 7 => .array .int
  | 8 => .array .int
  | 9 => .array .int
  | 10 => .int
  | _ => .int
abbrev wsX30 : List Cond := u_ws RX3 TX3 12
theorem nmX3 : ∀ a, a < 12 → ∀ b, b < 12 → a ≠ b → (TX3 a).2.1 ≠ (TX3 b).2.1 := by decide +kernel
theorem tyX3_ok : ∀ k, k < 12 → parseFieldDescriptor (TX3 k).2.2.1 = some (tyX3 k) := by decide +kernel
abbrev cX3_init : ByteArray := prog_1_method_1_code
def yX3_init : MethodName := ⟨RX3, "<init>", "(I)V"⟩
abbrev cX3_store : ByteArray := prog_1_method_2_code
def yX3_store : MethodName := ⟨RX3, "store", "(I)I"⟩
abbrev cX3_octet : ByteArray := prog_1_method_3_code
def yX3_octet : MethodName := ⟨RX3, "octet", "(I)V"⟩
abbrev cX3_put : ByteArray := prog_1_method_4_code
def yX3_put : MethodName := ⟨RX3, "put", "(I)I"⟩
abbrev cX3_answers : ByteArray := prog_1_method_5_code
def yX3_answers : MethodName := ⟨RX3, "answers", "(IZ)I"⟩
abbrev cX3_alter : ByteArray := prog_1_method_6_code
def yX3_alter : MethodName := ⟨RX3, "alter", "(IIII)I"⟩
abbrev cX3_cut : ByteArray := prog_1_method_7_code
def yX3_cut : MethodName := ⟨RX3, "cut", "(III)I"⟩
abbrev cX3_lose : ByteArray := prog_1_method_8_code
def yX3_lose : MethodName := ⟨RX3, "lose", "(II)I"⟩
abbrev cX3_poll : ByteArray := prog_1_method_9_code
def yX3_poll : MethodName := ⟨RX3, "poll", "(IJ)I"⟩
abbrev cX3_polled : ByteArray := prog_1_method_10_code
def yX3_polled : MethodName := ⟨RX3, "polled", "(II)I"⟩
abbrev cX3_majority : ByteArray := prog_1_method_11_code
def yX3_majority : MethodName := ⟨RX3, "majority", "(I)I"⟩
abbrev cX3_digest : ByteArray := prog_1_method_12_code
def yX3_digest : MethodName := ⟨RX3, "digest", "()I"⟩
abbrev cX3_mend : ByteArray := prog_1_method_13_code
def yX3_mend : MethodName := ⟨RX3, "mend", "(I)I"⟩
abbrev cX3_stale : ByteArray := prog_1_method_14_code
def yX3_stale : MethodName := ⟨RX3, "stale", "(II)I"⟩
abbrev cX3_fill : ByteArray := prog_1_method_15_code
def yX3_fill : MethodName := ⟨RX3, "fill", "(I)I"⟩
abbrev cX3_move : ByteArray := prog_1_method_16_code
def yX3_move : MethodName := ⟨RX3, "move", "(III)I"⟩
abbrev cX3_rate : ByteArray := prog_1_method_17_code
def yX3_rate : MethodName := ⟨RX3, "rate", "(III)I"⟩
abbrev cX3_odds : ByteArray := prog_1_method_18_code
def yX3_odds : MethodName := ⟨RX3, "odds", "(II)J"⟩
abbrev cX3_at : ByteArray := prog_1_method_19_code
def yX3_at : MethodName := ⟨RX3, "at", "(III)I"⟩
abbrev cX3_about : ByteArray := prog_1_method_20_code
def yX3_about : MethodName := ⟨RX3, "about", "(II)I"⟩
abbrev cX3_load : ByteArray := prog_1_method_21_code
def yX3_load : MethodName := ⟨RX3, "load", "(I)I"⟩
abbrev cX3_isPackage : ByteArray := prog_1_method_22_code
def yX3_isPackage : MethodName := ⟨RX3, "isPackage", "(I)Z"⟩
abbrev cX3_isTaken : ByteArray := prog_1_method_23_code
def yX3_isTaken : MethodName := ⟨RX3, "isTaken", "(I)Z"⟩
abbrev cX3_storeOf : ByteArray := prog_1_method_24_code
def yX3_storeOf : MethodName := ⟨RX3, "storeOf", "(I)LCopyPolls$Store;"⟩
abbrev cX3_itemOf : ByteArray := prog_1_method_25_code
def yX3_itemOf : MethodName := ⟨RX3, "itemOf", "(I)LCopyPolls$Item;"⟩
abbrev cX3_copyOf : ByteArray := prog_1_method_26_code
def yX3_copyOf : MethodName := ⟨RX3, "copyOf", "(II)LCopyPolls$Row;"⟩
abbrev cX3_isAnswering : ByteArray := prog_1_method_27_code
def yX3_isAnswering : MethodName := ⟨RX3, "isAnswering", "(I)Z"⟩
abbrev cX3_answeringStores : ByteArray := prog_1_method_28_code
def yX3_answeringStores : MethodName := ⟨RX3, "answeringStores", "()I"⟩
abbrev cX3_copiesOn : ByteArray := prog_1_method_29_code
def yX3_copiesOn : MethodName := ⟨RX3, "copiesOn", "(I)I"⟩
abbrev cX3_placeCollected : ByteArray := prog_1_method_30_code
def yX3_placeCollected : MethodName := ⟨RX3, "placeCollected", "(LCopyPolls$Item;)V"⟩
abbrev cX3_countingRow : ByteArray := prog_1_method_31_code
def yX3_countingRow : MethodName := ⟨RX3, "countingRow", "(LCopyPolls$Item;I)LCopyPolls$Row;"⟩
abbrev cX3_countingCopies : ByteArray := prog_1_method_32_code
def yX3_countingCopies : MethodName := ⟨RX3, "countingCopies", "(LCopyPolls$Item;)I"⟩
abbrev cX3_listCounting : ByteArray := prog_1_method_33_code
def yX3_listCounting : MethodName := ⟨RX3, "listCounting", "(LCopyPolls$Item;)I"⟩
abbrev cX3_mix : ByteArray := prog_1_method_34_code
def yX3_mix : MethodName := ⟨RX3, "mix", "(IJ)J"⟩
abbrev cX3_ask : ByteArray := prog_1_method_35_code
def yX3_ask : MethodName := ⟨RX3, "ask", "(ILCopyPolls$Item;I)V"⟩
abbrev cX3_majorityRow : ByteArray := prog_1_method_36_code
def yX3_majorityRow : MethodName := ⟨RX3, "majorityRow", "(LCopyPolls$Item;)LCopyPolls$Row;"⟩
abbrev cX3_countingWith : ByteArray := prog_1_method_37_code
def yX3_countingWith : MethodName := ⟨RX3, "countingWith", "(LCopyPolls$Item;I)I"⟩
abbrev cX3_mendItem : ByteArray := prog_1_method_38_code
def yX3_mendItem : MethodName := ⟨RX3, "mendItem", "(LCopyPolls$Item;)I"⟩
abbrev cX3_fillItem : ByteArray := prog_1_method_39_code
def yX3_fillItem : MethodName := ⟨RX3, "fillItem", "(LCopyPolls$Item;I)Z"⟩
abbrev cX3_bearsOdds : ByteArray := prog_1_method_40_code
def yX3_bearsOdds : MethodName := ⟨RX3, "bearsOdds", "(LCopyPolls$Item;ILCopyPolls$Row;)Z"⟩
abbrev cX3_commonDivisor : ByteArray := prog_1_method_41_code
def yX3_commonDivisor : MethodName := ⟨RX3, "commonDivisor", "(JJ)J"⟩
def RX4 : String := "CopyPollsModel"
def TX4 : u_T := fun k => match k with
  | 0 => ("CopyPollsModel", "thrown", "I", false)
  | 1 => ("CopyPollsModel", "copies", "I", true)
  | 2 => ("CopyPollsModel", "stores", "I", false)
  | 3 => ("CopyPollsModel", "place", "[I", true)
  | 4 => ("CopyPollsModel", "silent", "[Z", true)
  | 5 => ("CopyPollsModel", "up", "[I", true)
  | 6 => ("CopyPollsModel", "down", "[I", true)
  | 7 => ("CopyPollsModel", "collected", "I", false)
  | 8 => ("CopyPollsModel", "said", "[B", true)
  | 9 => ("CopyPollsModel", "files", "I", false)
  | 10 => ("CopyPollsModel", "packages", "[I", true)
  | 11 => ("CopyPollsModel", "mended", "[I", true)
  | 12 => ("CopyPollsModel", "size", "[I", true)
  | 13 => ("CopyPollsModel", "bytes", "[B", true)
  | 14 => ("CopyPollsModel", "polls", "I", false)
  | 15 => ("CopyPollsModel", "pollFile", "[I", true)
  | 16 => ("CopyPollsModel", "pollStore", "[I", true)
  | 17 => ("CopyPollsModel", "pollDigest", "[I", true)
  | 18 => ("CopyPollsModel", "mixed", "[I", true)
  | _ => ("CopyPollsModel", "found", "I", false)
def tyX4 : Nat → FieldType := fun k => match k with
  | 0 => .int
  | 1 => .int
  | 2 => .int
  | 3 => .array .int
  | 4 => .array .boolean
  | 5 => .array .int
  | 6 => .array .int
  | 7 => .int
  | 8 => .array .byte
  | 9 => .int
  | 10 => .array .int
  | 11 => .array .int
  | 12 => .array .int
  | 13 => .array .byte
  | 14 => .int
  | 15 => .array .int
  | 16 => .array .int
  | 17 => .array .int
  | 18 => .array .int
  | _ => .int
abbrev wsX40 : List Cond := u_ws RX4 TX4 20
theorem nmX4 : ∀ a, a < 20 → ∀ b, b < 20 → a ≠ b → (TX4 a).2.1 ≠ (TX4 b).2.1 := by decide +kernel
theorem tyX4_ok : ∀ k, k < 20 → parseFieldDescriptor (TX4 k).2.2.1 = some (tyX4 k) := by decide +kernel
abbrev cX4_init : ByteArray := prog_6_method_1_code
def yX4_init : MethodName := ⟨RX4, "<init>", "(I)V"⟩
abbrev cX4_thrown : ByteArray := prog_6_method_2_code
def yX4_thrown : MethodName := ⟨RX4, "thrown", "()I"⟩
abbrev cX4_in : ByteArray := prog_6_method_3_code
def yX4_in : MethodName := ⟨RX4, "in", "(III)Z"⟩
abbrev cX4_isStore : ByteArray := prog_6_method_4_code
def yX4_isStore : MethodName := ⟨RX4, "isStore", "(I)Z"⟩
abbrev cX4_isFile : ByteArray := prog_6_method_5_code
def yX4_isFile : MethodName := ⟨RX4, "isFile", "(I)Z"⟩
abbrev cX4_has : ByteArray := prog_6_method_6_code
def yX4_has : MethodName := ⟨RX4, "has", "(II)Z"⟩
abbrev cX4_counts : ByteArray := prog_6_method_7_code
def yX4_counts : MethodName := ⟨RX4, "counts", "(II)Z"⟩
abbrev cX4_store : ByteArray := prog_6_method_8_code
def yX4_store : MethodName := ⟨RX4, "store", "(I)I"⟩
abbrev cX4_octet : ByteArray := prog_6_method_9_code
def yX4_octet : MethodName := ⟨RX4, "octet", "(I)V"⟩
abbrev cX4_loadOf : ByteArray := prog_6_method_10_code
def yX4_loadOf : MethodName := ⟨RX4, "loadOf", "(I)I"⟩
abbrev cX4_ahead : ByteArray := prog_6_method_11_code
def yX4_ahead : MethodName := ⟨RX4, "ahead", "(I)I"⟩
abbrev cX4_put : ByteArray := prog_6_method_12_code
def yX4_put : MethodName := ⟨RX4, "put", "(I)I"⟩
abbrev cX4_answers : ByteArray := prog_6_method_13_code
def yX4_answers : MethodName := ⟨RX4, "answers", "(IZ)I"⟩
abbrev cX4_alter : ByteArray := prog_6_method_14_code
def yX4_alter : MethodName := ⟨RX4, "alter", "(IIII)I"⟩
abbrev cX4_cut : ByteArray := prog_6_method_15_code
def yX4_cut : MethodName := ⟨RX4, "cut", "(III)I"⟩
abbrev cX4_lose : ByteArray := prog_6_method_16_code
def yX4_lose : MethodName := ⟨RX4, "lose", "(II)I"⟩
abbrev cX4_digestOf : ByteArray := prog_6_method_17_code
def yX4_digestOf : MethodName := ⟨RX4, "digestOf", "(II)I"⟩
abbrev cX4_leader : ByteArray := prog_6_method_18_code
def yX4_leader : MethodName := ⟨RX4, "leader", "(I)I"⟩
abbrev cX4_poll : ByteArray := prog_6_method_19_code
def yX4_poll : MethodName := ⟨RX4, "poll", "(IJ)I"⟩
abbrev cX4_polled : ByteArray := prog_6_method_20_code
def yX4_polled : MethodName := ⟨RX4, "polled", "(II)I"⟩
abbrev cX4_majority : ByteArray := prog_6_method_21_code
def yX4_majority : MethodName := ⟨RX4, "majority", "(I)I"⟩
abbrev cX4_digest : ByteArray := prog_6_method_22_code
def yX4_digest : MethodName := ⟨RX4, "digest", "()I"⟩
abbrev cX4_copy : ByteArray := prog_6_method_23_code
def yX4_copy : MethodName := ⟨RX4, "copy", "(III)V"⟩
abbrev cX4_mend : ByteArray := prog_6_method_24_code
def yX4_mend : MethodName := ⟨RX4, "mend", "(I)I"⟩
abbrev cX4_stale : ByteArray := prog_6_method_25_code
def yX4_stale : MethodName := ⟨RX4, "stale", "(II)I"⟩
abbrev cX4_copiesOf : ByteArray := prog_6_method_26_code
def yX4_copiesOf : MethodName := ⟨RX4, "copiesOf", "(IZ)I"⟩
abbrev cX4_fill : ByteArray := prog_6_method_27_code
def yX4_fill : MethodName := ⟨RX4, "fill", "(I)I"⟩
abbrev cX4_move : ByteArray := prog_6_method_28_code
def yX4_move : MethodName := ⟨RX4, "move", "(III)I"⟩
abbrev cX4_rate : ByteArray := prog_6_method_29_code
def yX4_rate : MethodName := ⟨RX4, "rate", "(III)I"⟩
abbrev cX4_odds : ByteArray := prog_6_method_30_code
def yX4_odds : MethodName := ⟨RX4, "odds", "(II)J"⟩
abbrev cX4_at : ByteArray := prog_6_method_31_code
def yX4_at : MethodName := ⟨RX4, "at", "(III)I"⟩
abbrev cX4_about : ByteArray := prog_6_method_32_code
def yX4_about : MethodName := ⟨RX4, "about", "(II)I"⟩
abbrev cX4_load : ByteArray := prog_6_method_33_code
def yX4_load : MethodName := ⟨RX4, "load", "(I)I"⟩
def RL : String := "CopyPollsLaw"
abbrev cL_cell : ByteArray := method_2_code
def yL_cell : MethodName := ⟨RL, "cell", "([II)I"⟩
abbrev cL_polled : ByteArray := method_3_code
def yL_polled : MethodName := ⟨RL, "polled", "(LCopyPolls;II[J)I"⟩
abbrev cL_odds : ByteArray := method_4_code
def yL_odds : MethodName := ⟨RL, "odds", "(LCopyPolls;II[J)I"⟩
abbrev cL_at : ByteArray := method_5_code
def yL_at : MethodName := ⟨RL, "at", "(LCopyPolls;III[J)I"⟩
abbrev cL_law : ByteArray := code
def yL_law : MethodName := ⟨RL, "law", "([I)Z"⟩
end
section
theorem dX0_init_0 : decode cX0_init 0 = .ok (.aload_n 0, 1) := by decide +kernel
theorem dX0_init_1 : decode cX0_init 1 = .ok (.invokespecial 3, 3) := by decide +kernel
theorem dX0_init_4 : decode cX0_init 4 = .ok (.aload_n 0, 1) := by decide +kernel
theorem dX0_init_5 : decode cX0_init 5 = .ok (.bipush 10, 2) := by decide +kernel
theorem dX0_init_7 : decode cX0_init 7 = .ok (.anewarray 9, 3) := by decide +kernel
theorem dX0_init_10 : decode cX0_init 10 = .ok (.putfield 11, 3) := by decide +kernel
theorem dX0_init_13 : decode cX0_init 13 = .ok (.aload_n 0, 1) := by decide +kernel
theorem dX0_init_14 : decode cX0_init 14 = .ok (.iconst 0, 1) := by decide +kernel
theorem dX0_init_15 : decode cX0_init 15 = .ok (.putfield 17, 3) := by decide +kernel
theorem dX0_init_18 : decode cX0_init 18 = .ok (.aload_n 0, 1) := by decide +kernel
theorem dX0_init_19 : decode cX0_init 19 = .ok (.iload_n 1, 1) := by decide +kernel
theorem dX0_init_20 : decode cX0_init 20 = .ok (.putfield 21, 3) := by decide +kernel
theorem dX0_init_23 : decode cX0_init 23 = .ok (.return_, 1) := by decide +kernel
theorem dX0_copyCount_0 : decode cX0_copyCount 0 = .ok (.iconst 0, 1) := by decide +kernel
theorem dX0_copyCount_1 : decode cX0_copyCount 1 = .ok (.istore_n 1, 1) := by decide +kernel
theorem dX0_copyCount_2 : decode cX0_copyCount 2 = .ok (.aload_n 0, 1) := by decide +kernel
theorem dX0_copyCount_3 : decode cX0_copyCount 3 = .ok (.getfield 11, 3) := by decide +kernel
theorem dX0_copyCount_6 : decode cX0_copyCount 6 = .ok (.astore_n 2, 1) := by decide +kernel
theorem dX0_copyCount_7 : decode cX0_copyCount 7 = .ok (.aload_n 2, 1) := by decide +kernel
theorem dX0_copyCount_8 : decode cX0_copyCount 8 = .ok (.arraylength, 1) := by decide +kernel
theorem dX0_copyCount_9 : decode cX0_copyCount 9 = .ok (.istore_n 3, 1) := by decide +kernel
theorem dX0_copyCount_10 : decode cX0_copyCount 10 = .ok (.iconst 0, 1) := by decide +kernel
theorem dX0_copyCount_11 : decode cX0_copyCount 11 = .ok (.istore 4, 2) := by decide +kernel
theorem dX0_copyCount_13 : decode cX0_copyCount 13 = .ok (.iload 4, 2) := by decide +kernel
theorem dX0_copyCount_15 : decode cX0_copyCount 15 = .ok (.iload_n 3, 1) := by decide +kernel
theorem dX0_copyCount_16 : decode cX0_copyCount 16 = .ok (.if_icmp .ge 23, 3) := by decide +kernel
theorem dX0_copyCount_19 : decode cX0_copyCount 19 = .ok (.aload_n 2, 1) := by decide +kernel
theorem dX0_copyCount_20 : decode cX0_copyCount 20 = .ok (.iload 4, 2) := by decide +kernel
theorem dX0_copyCount_22 : decode cX0_copyCount 22 = .ok (.aaload, 1) := by decide +kernel
theorem dX0_copyCount_23 : decode cX0_copyCount 23 = .ok (.astore 5, 2) := by decide +kernel
theorem dX0_copyCount_25 : decode cX0_copyCount 25 = .ok (.aload 5, 2) := by decide +kernel
theorem dX0_copyCount_27 : decode cX0_copyCount 27 = .ok (.ifnull 6, 3) := by decide +kernel
theorem dX0_copyCount_30 : decode cX0_copyCount 30 = .ok (.iinc 1 1, 3) := by decide +kernel
theorem dX0_copyCount_33 : decode cX0_copyCount 33 = .ok (.iinc 4 1, 3) := by decide +kernel
theorem dX0_copyCount_36 : decode cX0_copyCount 36 = .ok (.goto (-23), 3) := by decide +kernel
theorem dX0_copyCount_39 : decode cX0_copyCount 39 = .ok (.iload_n 1, 1) := by decide +kernel
theorem dX0_copyCount_40 : decode cX0_copyCount 40 = .ok (.ireturn, 1) := by decide +kernel
theorem dX1_init_0 : decode cX1_init 0 = .ok (.aload_n 0, 1) := by decide +kernel
theorem dX1_init_1 : decode cX1_init 1 = .ok (.invokespecial 3, 3) := by decide +kernel
theorem dX1_init_4 : decode cX1_init 4 = .ok (.aload_n 0, 1) := by decide +kernel
theorem dX1_init_5 : decode cX1_init 5 = .ok (.bipush 16, 2) := by decide +kernel
theorem dX1_init_7 : decode cX1_init 7 = .ok (.newarray .int, 2) := by decide +kernel
theorem dX1_init_9 : decode cX1_init 9 = .ok (.putfield 9, 3) := by decide +kernel
theorem dX1_init_12 : decode cX1_init 12 = .ok (.aload_n 0, 1) := by decide +kernel
theorem dX1_init_13 : decode cX1_init 13 = .ok (.iconst 0, 1) := by decide +kernel
theorem dX1_init_14 : decode cX1_init 14 = .ok (.putfield 15, 3) := by decide +kernel
theorem dX1_init_17 : decode cX1_init 17 = .ok (.return_, 1) := by decide +kernel
theorem dX1_has_0 : decode cX1_has 0 = .ok (.iload_n 1, 1) := by decide +kernel
theorem dX1_has_1 : decode cX1_has 1 = .ok (.ifCond .lt 15, 3) := by decide +kernel
theorem dX1_has_4 : decode cX1_has 4 = .ok (.iload_n 1, 1) := by decide +kernel
theorem dX1_has_5 : decode cX1_has 5 = .ok (.aload_n 0, 1) := by decide +kernel
theorem dX1_has_6 : decode cX1_has 6 = .ok (.getfield 15, 3) := by decide +kernel
theorem dX1_has_9 : decode cX1_has 9 = .ok (.if_icmp .ge 7, 3) := by decide +kernel
theorem dX1_has_12 : decode cX1_has 12 = .ok (.iconst 1, 1) := by decide +kernel
theorem dX1_has_13 : decode cX1_has 13 = .ok (.goto 4, 3) := by decide +kernel
theorem dX1_has_16 : decode cX1_has 16 = .ok (.iconst 0, 1) := by decide +kernel
theorem dX1_has_17 : decode cX1_has 17 = .ok (.ireturn, 1) := by decide +kernel
theorem dX1_append_0 : decode cX1_append 0 = .ok (.aload_n 0, 1) := by decide +kernel
theorem dX1_append_1 : decode cX1_append 1 = .ok (.getfield 15, 3) := by decide +kernel
theorem dX1_append_4 : decode cX1_append 4 = .ok (.aload_n 0, 1) := by decide +kernel
theorem dX1_append_5 : decode cX1_append 5 = .ok (.getfield 9, 3) := by decide +kernel
theorem dX1_append_8 : decode cX1_append 8 = .ok (.arraylength, 1) := by decide +kernel
theorem dX1_append_9 : decode cX1_append 9 = .ok (.if_icmp .ge 27, 3) := by decide +kernel
theorem dX1_append_12 : decode cX1_append 12 = .ok (.aload_n 0, 1) := by decide +kernel
theorem dX1_append_13 : decode cX1_append 13 = .ok (.getfield 9, 3) := by decide +kernel
theorem dX1_append_16 : decode cX1_append 16 = .ok (.aload_n 0, 1) := by decide +kernel
theorem dX1_append_17 : decode cX1_append 17 = .ok (.getfield 15, 3) := by decide +kernel
theorem dX1_append_20 : decode cX1_append 20 = .ok (.iload_n 1, 1) := by decide +kernel
theorem dX1_append_21 : decode cX1_append 21 = .ok (.sipush 255, 3) := by decide +kernel
theorem dX1_append_24 : decode cX1_append 24 = .ok (.iand, 1) := by decide +kernel
theorem dX1_append_25 : decode cX1_append 25 = .ok (.iastore, 1) := by decide +kernel
theorem dX1_append_26 : decode cX1_append 26 = .ok (.aload_n 0, 1) := by decide +kernel
theorem dX1_append_27 : decode cX1_append 27 = .ok (.dup, 1) := by decide +kernel
theorem dX1_append_28 : decode cX1_append 28 = .ok (.getfield 15, 3) := by decide +kernel
theorem dX1_append_31 : decode cX1_append 31 = .ok (.iconst 1, 1) := by decide +kernel
theorem dX1_append_32 : decode cX1_append 32 = .ok (.iadd, 1) := by decide +kernel
theorem dX1_append_33 : decode cX1_append 33 = .ok (.putfield 15, 3) := by decide +kernel
theorem dX1_append_36 : decode cX1_append 36 = .ok (.return_, 1) := by decide +kernel
theorem dX1_become_0 : decode cX1_become 0 = .ok (.iconst 0, 1) := by decide +kernel
theorem dX1_become_1 : decode cX1_become 1 = .ok (.istore_n 2, 1) := by decide +kernel
theorem dX1_become_2 : decode cX1_become 2 = .ok (.iload_n 2, 1) := by decide +kernel
theorem dX1_become_3 : decode cX1_become 3 = .ok (.aload_n 1, 1) := by decide +kernel
theorem dX1_become_4 : decode cX1_become 4 = .ok (.getfield 15, 3) := by decide +kernel
theorem dX1_become_7 : decode cX1_become 7 = .ok (.if_icmp .ge 21, 3) := by decide +kernel
theorem dX1_become_10 : decode cX1_become 10 = .ok (.aload_n 0, 1) := by decide +kernel
theorem dX1_become_11 : decode cX1_become 11 = .ok (.getfield 9, 3) := by decide +kernel
theorem dX1_become_14 : decode cX1_become 14 = .ok (.iload_n 2, 1) := by decide +kernel
theorem dX1_become_15 : decode cX1_become 15 = .ok (.aload_n 1, 1) := by decide +kernel
theorem dX1_become_16 : decode cX1_become 16 = .ok (.getfield 9, 3) := by decide +kernel
theorem dX1_become_19 : decode cX1_become 19 = .ok (.iload_n 2, 1) := by decide +kernel
theorem dX1_become_20 : decode cX1_become 20 = .ok (.iaload, 1) := by decide +kernel
theorem dX1_become_21 : decode cX1_become 21 = .ok (.iastore, 1) := by decide +kernel
theorem dX1_become_22 : decode cX1_become 22 = .ok (.iinc 2 1, 3) := by decide +kernel
theorem dX1_become_25 : decode cX1_become 25 = .ok (.goto (-23), 3) := by decide +kernel
theorem dX1_become_28 : decode cX1_become 28 = .ok (.aload_n 0, 1) := by decide +kernel
theorem dX1_become_29 : decode cX1_become 29 = .ok (.aload_n 1, 1) := by decide +kernel
theorem dX1_become_30 : decode cX1_become 30 = .ok (.getfield 15, 3) := by decide +kernel
theorem dX1_become_33 : decode cX1_become 33 = .ok (.putfield 15, 3) := by decide +kernel
theorem dX1_become_36 : decode cX1_become 36 = .ok (.return_, 1) := by decide +kernel
theorem dX1_twin_0 : decode cX1_twin 0 = .ok (.new 10, 3) := by decide +kernel
theorem dX1_twin_3 : decode cX1_twin 3 = .ok (.dup, 1) := by decide +kernel
theorem dX1_twin_4 : decode cX1_twin 4 = .ok (.invokespecial 19, 3) := by decide +kernel
theorem dX1_twin_7 : decode cX1_twin 7 = .ok (.astore_n 1, 1) := by decide +kernel
theorem dX1_twin_8 : decode cX1_twin 8 = .ok (.aload_n 1, 1) := by decide +kernel
theorem dX1_twin_9 : decode cX1_twin 9 = .ok (.aload_n 0, 1) := by decide +kernel
theorem dX1_twin_10 : decode cX1_twin 10 = .ok (.invokevirtual 20, 3) := by decide +kernel
theorem dX1_twin_13 : decode cX1_twin 13 = .ok (.aload_n 1, 1) := by decide +kernel
theorem dX1_twin_14 : decode cX1_twin 14 = .ok (.areturn, 1) := by decide +kernel
theorem dX1_sum_0 : decode cX1_sum 0 = .ok (.bipush 7, 2) := by decide +kernel
theorem dX1_sum_2 : decode cX1_sum 2 = .ok (.istore_n 1, 1) := by decide +kernel
theorem dX1_sum_3 : decode cX1_sum 3 = .ok (.iconst 0, 1) := by decide +kernel
theorem dX1_sum_4 : decode cX1_sum 4 = .ok (.istore_n 2, 1) := by decide +kernel
theorem dX1_sum_5 : decode cX1_sum 5 = .ok (.iload_n 2, 1) := by decide +kernel
theorem dX1_sum_6 : decode cX1_sum 6 = .ok (.aload_n 0, 1) := by decide +kernel
theorem dX1_sum_7 : decode cX1_sum 7 = .ok (.getfield 15, 3) := by decide +kernel
theorem dX1_sum_10 : decode cX1_sum 10 = .ok (.if_icmp .ge 21, 3) := by decide +kernel
theorem dX1_sum_13 : decode cX1_sum 13 = .ok (.bipush 31, 2) := by decide +kernel
theorem dX1_sum_15 : decode cX1_sum 15 = .ok (.iload_n 1, 1) := by decide +kernel
theorem dX1_sum_16 : decode cX1_sum 16 = .ok (.imul, 1) := by decide +kernel
theorem dX1_sum_17 : decode cX1_sum 17 = .ok (.aload_n 0, 1) := by decide +kernel
theorem dX1_sum_18 : decode cX1_sum 18 = .ok (.getfield 9, 3) := by decide +kernel
theorem dX1_sum_21 : decode cX1_sum 21 = .ok (.iload_n 2, 1) := by decide +kernel
theorem dX1_sum_22 : decode cX1_sum 22 = .ok (.iaload, 1) := by decide +kernel
theorem dX1_sum_23 : decode cX1_sum 23 = .ok (.iadd, 1) := by decide +kernel
theorem dX1_sum_24 : decode cX1_sum 24 = .ok (.istore_n 1, 1) := by decide +kernel
theorem dX1_sum_25 : decode cX1_sum 25 = .ok (.iinc 2 1, 3) := by decide +kernel
theorem dX1_sum_28 : decode cX1_sum 28 = .ok (.goto (-23), 3) := by decide +kernel
theorem dX1_sum_31 : decode cX1_sum 31 = .ok (.iload_n 1, 1) := by decide +kernel
theorem dX1_sum_32 : decode cX1_sum 32 = .ok (.aload_n 0, 1) := by decide +kernel
theorem dX1_sum_33 : decode cX1_sum 33 = .ok (.getfield 15, 3) := by decide +kernel
theorem dX1_sum_36 : decode cX1_sum 36 = .ok (.ixor, 1) := by decide +kernel
theorem dX1_sum_37 : decode cX1_sum 37 = .ok (.ireturn, 1) := by decide +kernel
theorem dX2_init_0 : decode cX2_init 0 = .ok (.aload_n 0, 1) := by decide +kernel
theorem dX2_init_1 : decode cX2_init 1 = .ok (.invokespecial 1, 3) := by decide +kernel
theorem dX2_init_4 : decode cX2_init 4 = .ok (.aload_n 0, 1) := by decide +kernel
theorem dX2_init_5 : decode cX2_init 5 = .ok (.iconst 1, 1) := by decide +kernel
theorem dX2_init_6 : decode cX2_init 6 = .ok (.putfield 7, 3) := by decide +kernel
theorem dX2_init_9 : decode cX2_init 9 = .ok (.aload_n 0, 1) := by decide +kernel
theorem dX2_init_10 : decode cX2_init 10 = .ok (.iconst 0, 1) := by decide +kernel
theorem dX2_init_11 : decode cX2_init 11 = .ok (.putfield 13, 3) := by decide +kernel
theorem dX2_init_14 : decode cX2_init 14 = .ok (.aload_n 0, 1) := by decide +kernel
theorem dX2_init_15 : decode cX2_init 15 = .ok (.iconst 0, 1) := by decide +kernel
theorem dX2_init_16 : decode cX2_init 16 = .ok (.putfield 17, 3) := by decide +kernel
theorem dX2_init_19 : decode cX2_init 19 = .ok (.aload_n 0, 1) := by decide +kernel
theorem dX2_init_20 : decode cX2_init 20 = .ok (.iload_n 1, 1) := by decide +kernel
theorem dX2_init_21 : decode cX2_init 21 = .ok (.putfield 20, 3) := by decide +kernel
theorem dX2_init_24 : decode cX2_init 24 = .ok (.return_, 1) := by decide +kernel
theorem dX3_init_0 : decode cX3_init 0 = .ok (.aload_n 0, 1) := by decide +kernel
theorem dX3_init_1 : decode cX3_init 1 = .ok (.invokespecial 1, 3) := by decide +kernel
theorem dX3_init_4 : decode cX3_init 4 = .ok (.aload_n 0, 1) := by decide +kernel
theorem dX3_init_5 : decode cX3_init 5 = .ok (.bipush 10, 2) := by decide +kernel
theorem dX3_init_7 : decode cX3_init 7 = .ok (.anewarray 9, 3) := by decide +kernel
theorem dX3_init_10 : decode cX3_init 10 = .ok (.putfield 11, 3) := by decide +kernel
theorem dX3_init_13 : decode cX3_init 13 = .ok (.aload_n 0, 1) := by decide +kernel
theorem dX3_init_14 : decode cX3_init 14 = .ok (.iconst 0, 1) := by decide +kernel
theorem dX3_init_15 : decode cX3_init 15 = .ok (.putfield 15, 3) := by decide +kernel
theorem dX3_init_18 : decode cX3_init 18 = .ok (.aload_n 0, 1) := by decide +kernel
theorem dX3_init_19 : decode cX3_init 19 = .ok (.bipush 40, 2) := by decide +kernel
theorem dX3_init_21 : decode cX3_init 21 = .ok (.anewarray 19, 3) := by decide +kernel
theorem dX3_init_24 : decode cX3_init 24 = .ok (.putfield 21, 3) := by decide +kernel
theorem dX3_init_27 : decode cX3_init 27 = .ok (.aload_n 0, 1) := by decide +kernel
theorem dX3_init_28 : decode cX3_init 28 = .ok (.iconst 0, 1) := by decide +kernel
theorem dX3_init_29 : decode cX3_init 29 = .ok (.putfield 25, 3) := by decide +kernel
theorem dX3_init_32 : decode cX3_init 32 = .ok (.aload_n 0, 1) := by decide +kernel
theorem dX3_init_33 : decode cX3_init 33 = .ok (.new 28, 3) := by decide +kernel
theorem dX3_init_36 : decode cX3_init 36 = .ok (.dup, 1) := by decide +kernel
theorem dX3_init_37 : decode cX3_init 37 = .ok (.invokespecial 30, 3) := by decide +kernel
theorem dX3_init_40 : decode cX3_init 40 = .ok (.putfield 31, 3) := by decide +kernel
theorem dX3_init_43 : decode cX3_init 43 = .ok (.aload_n 0, 1) := by decide +kernel
theorem dX3_init_44 : decode cX3_init 44 = .ok (.bipush 10, 2) := by decide +kernel
theorem dX3_init_46 : decode cX3_init 46 = .ok (.newarray .int, 2) := by decide +kernel
theorem dX3_init_48 : decode cX3_init 48 = .ok (.putfield 35, 3) := by decide +kernel
theorem dX3_init_51 : decode cX3_init 51 = .ok (.aload_n 0, 1) := by decide +kernel
theorem dX3_init_52 : decode cX3_init 52 = .ok (.bipush 120, 2) := by decide +kernel
theorem dX3_init_54 : decode cX3_init 54 = .ok (.newarray .int, 2) := by decide +kernel
theorem dX3_init_56 : decode cX3_init 56 = .ok (.putfield 39, 3) := by decide +kernel
theorem dX3_init_59 : decode cX3_init 59 = .ok (.aload_n 0, 1) := by decide +kernel
theorem dX3_init_60 : decode cX3_init 60 = .ok (.bipush 120, 2) := by decide +kernel
theorem dX3_init_62 : decode cX3_init 62 = .ok (.newarray .int, 2) := by decide +kernel
theorem dX3_init_64 : decode cX3_init 64 = .ok (.putfield 42, 3) := by decide +kernel
theorem dX3_init_67 : decode cX3_init 67 = .ok (.aload_n 0, 1) := by decide +kernel
theorem dX3_init_68 : decode cX3_init 68 = .ok (.bipush 120, 2) := by decide +kernel
theorem dX3_init_70 : decode cX3_init 70 = .ok (.newarray .int, 2) := by decide +kernel
theorem dX3_init_72 : decode cX3_init 72 = .ok (.putfield 45, 3) := by decide +kernel
theorem dX3_init_75 : decode cX3_init 75 = .ok (.aload_n 0, 1) := by decide +kernel
theorem dX3_init_76 : decode cX3_init 76 = .ok (.iconst 0, 1) := by decide +kernel
theorem dX3_init_77 : decode cX3_init 77 = .ok (.putfield 48, 3) := by decide +kernel
theorem dX3_init_80 : decode cX3_init 80 = .ok (.aload_n 0, 1) := by decide +kernel
theorem dX3_init_81 : decode cX3_init 81 = .ok (.iconst 0, 1) := by decide +kernel
theorem dX3_init_82 : decode cX3_init 82 = .ok (.putfield 51, 3) := by decide +kernel
theorem dX3_init_85 : decode cX3_init 85 = .ok (.aload_n 0, 1) := by decide +kernel
theorem dX3_init_86 : decode cX3_init 86 = .ok (.iconst 1, 1) := by decide +kernel
theorem dX3_init_87 : decode cX3_init 87 = .ok (.iconst 5, 1) := by decide +kernel
theorem dX3_init_88 : decode cX3_init 88 = .ok (.iload_n 1, 1) := by decide +kernel
theorem dX3_init_89 : decode cX3_init 89 = .ok (.invokestatic 54, 3) := by decide +kernel
theorem dX3_init_92 : decode cX3_init 92 = .ok (.invokestatic 60, 3) := by decide +kernel
theorem dX3_init_95 : decode cX3_init 95 = .ok (.putfield 63, 3) := by decide +kernel
theorem dX3_init_98 : decode cX3_init 98 = .ok (.return_, 1) := by decide +kernel
theorem dX3_store_0 : decode cX3_store 0 = .ok (.iload_n 1, 1) := by decide +kernel
theorem dX3_store_1 : decode cX3_store 1 = .ok (.ifCond .lt 9, 3) := by decide +kernel
theorem dX3_store_4 : decode cX3_store 4 = .ok (.iload_n 1, 1) := by decide +kernel
theorem dX3_store_5 : decode cX3_store 5 = .ok (.bipush 10, 2) := by decide +kernel
theorem dX3_store_7 : decode cX3_store 7 = .ok (.if_icmp .lt 6, 3) := by decide +kernel
theorem dX3_store_10 : decode cX3_store 10 = .ok (.bipush (-2), 2) := by decide +kernel
theorem dX3_store_12 : decode cX3_store 12 = .ok (.ireturn, 1) := by decide +kernel
theorem dX3_store_13 : decode cX3_store 13 = .ok (.aload_n 0, 1) := by decide +kernel
theorem dX3_store_14 : decode cX3_store 14 = .ok (.iload_n 1, 1) := by decide +kernel
theorem dX3_store_15 : decode cX3_store 15 = .ok (.invokevirtual 66, 3) := by decide +kernel
theorem dX3_store_18 : decode cX3_store 18 = .ok (.ifCond .eq 6, 3) := by decide +kernel
theorem dX3_store_21 : decode cX3_store 21 = .ok (.bipush (-3), 2) := by decide +kernel
theorem dX3_store_23 : decode cX3_store 23 = .ok (.ireturn, 1) := by decide +kernel
theorem dX3_store_24 : decode cX3_store 24 = .ok (.aload_n 0, 1) := by decide +kernel
theorem dX3_store_25 : decode cX3_store 25 = .ok (.getfield 15, 3) := by decide +kernel
theorem dX3_store_28 : decode cX3_store 28 = .ok (.bipush 10, 2) := by decide +kernel
theorem dX3_store_30 : decode cX3_store 30 = .ok (.if_icmp .lt 6, 3) := by decide +kernel
theorem dX3_store_33 : decode cX3_store 33 = .ok (.bipush (-4), 2) := by decide +kernel
theorem dX3_store_35 : decode cX3_store 35 = .ok (.ireturn, 1) := by decide +kernel
theorem dX3_store_36 : decode cX3_store 36 = .ok (.aload_n 0, 1) := by decide +kernel
theorem dX3_store_37 : decode cX3_store 37 = .ok (.getfield 11, 3) := by decide +kernel
theorem dX3_store_40 : decode cX3_store 40 = .ok (.aload_n 0, 1) := by decide +kernel
theorem dX3_store_41 : decode cX3_store 41 = .ok (.getfield 15, 3) := by decide +kernel
theorem dX3_store_44 : decode cX3_store 44 = .ok (.new 9, 3) := by decide +kernel
theorem dX3_store_47 : decode cX3_store 47 = .ok (.dup, 1) := by decide +kernel
theorem dX3_store_48 : decode cX3_store 48 = .ok (.iload_n 1, 1) := by decide +kernel
theorem dX3_store_49 : decode cX3_store 49 = .ok (.invokespecial 70, 3) := by decide +kernel
theorem dX3_store_52 : decode cX3_store 52 = .ok (.aastore, 1) := by decide +kernel
theorem dX3_store_53 : decode cX3_store 53 = .ok (.aload_n 0, 1) := by decide +kernel
theorem dX3_store_54 : decode cX3_store 54 = .ok (.dup, 1) := by decide +kernel
theorem dX3_store_55 : decode cX3_store 55 = .ok (.getfield 15, 3) := by decide +kernel
theorem dX3_store_58 : decode cX3_store 58 = .ok (.iconst 1, 1) := by decide +kernel
theorem dX3_store_59 : decode cX3_store 59 = .ok (.iadd, 1) := by decide +kernel
theorem dX3_store_60 : decode cX3_store 60 = .ok (.putfield 15, 3) := by decide +kernel
theorem dX3_store_63 : decode cX3_store 63 = .ok (.aload_n 0, 1) := by decide +kernel
theorem dX3_store_64 : decode cX3_store 64 = .ok (.getfield 15, 3) := by decide +kernel
theorem dX3_store_67 : decode cX3_store 67 = .ok (.iconst 1, 1) := by decide +kernel
theorem dX3_store_68 : decode cX3_store 68 = .ok (.isub, 1) := by decide +kernel
theorem dX3_store_69 : decode cX3_store 69 = .ok (.ireturn, 1) := by decide +kernel
theorem dX3_octet_0 : decode cX3_octet 0 = .ok (.aload_n 0, 1) := by decide +kernel
theorem dX3_octet_1 : decode cX3_octet 1 = .ok (.getfield 31, 3) := by decide +kernel
theorem dX3_octet_4 : decode cX3_octet 4 = .ok (.iload_n 1, 1) := by decide +kernel
theorem dX3_octet_5 : decode cX3_octet 5 = .ok (.invokevirtual 73, 3) := by decide +kernel
theorem dX3_octet_8 : decode cX3_octet 8 = .ok (.return_, 1) := by decide +kernel
theorem dX3_put_0 : decode cX3_put 0 = .ok (.iload_n 1, 1) := by decide +kernel
theorem dX3_put_1 : decode cX3_put 1 = .ok (.invokestatic 76, 3) := by decide +kernel
theorem dX3_put_4 : decode cX3_put 4 = .ok (.ifCond .eq 13, 3) := by decide +kernel
theorem dX3_put_7 : decode cX3_put 7 = .ok (.aload_n 0, 1) := by decide +kernel
theorem dX3_put_8 : decode cX3_put 8 = .ok (.getfield 31, 3) := by decide +kernel
theorem dX3_put_11 : decode cX3_put 11 = .ok (.getfield 79, 3) := by decide +kernel
theorem dX3_put_14 : decode cX3_put 14 = .ok (.ifCond .ne 6, 3) := by decide +kernel
theorem dX3_put_17 : decode cX3_put 17 = .ok (.bipush (-2), 2) := by decide +kernel
theorem dX3_put_19 : decode cX3_put 19 = .ok (.ireturn, 1) := by decide +kernel
theorem dX3_put_20 : decode cX3_put 20 = .ok (.aload_n 0, 1) := by decide +kernel
theorem dX3_put_21 : decode cX3_put 21 = .ok (.invokevirtual 82, 3) := by decide +kernel
theorem dX3_put_24 : decode cX3_put 24 = .ok (.aload_n 0, 1) := by decide +kernel
theorem dX3_put_25 : decode cX3_put 25 = .ok (.getfield 63, 3) := by decide +kernel
theorem dX3_put_28 : decode cX3_put 28 = .ok (.if_icmp .ge 6, 3) := by decide +kernel
theorem dX3_put_31 : decode cX3_put 31 = .ok (.bipush (-3), 2) := by decide +kernel
theorem dX3_put_33 : decode cX3_put 33 = .ok (.ireturn, 1) := by decide +kernel
theorem dX3_put_34 : decode cX3_put 34 = .ok (.aload_n 0, 1) := by decide +kernel
theorem dX3_put_35 : decode cX3_put 35 = .ok (.getfield 25, 3) := by decide +kernel
theorem dX3_put_38 : decode cX3_put 38 = .ok (.bipush 40, 2) := by decide +kernel
theorem dX3_put_40 : decode cX3_put 40 = .ok (.if_icmp .lt 6, 3) := by decide +kernel
theorem dX3_put_43 : decode cX3_put 43 = .ok (.bipush (-4), 2) := by decide +kernel
theorem dX3_put_45 : decode cX3_put 45 = .ok (.ireturn, 1) := by decide +kernel
theorem dX3_put_46 : decode cX3_put 46 = .ok (.new 19, 3) := by decide +kernel
theorem dX3_put_49 : decode cX3_put 49 = .ok (.dup, 1) := by decide +kernel
theorem dX3_put_50 : decode cX3_put 50 = .ok (.iload_n 1, 1) := by decide +kernel
theorem dX3_put_51 : decode cX3_put 51 = .ok (.invokespecial 86, 3) := by decide +kernel
theorem dX3_put_54 : decode cX3_put 54 = .ok (.astore_n 2, 1) := by decide +kernel
theorem dX3_put_55 : decode cX3_put 55 = .ok (.iconst 0, 1) := by decide +kernel
theorem dX3_put_56 : decode cX3_put 56 = .ok (.istore_n 3, 1) := by decide +kernel
theorem dX3_put_57 : decode cX3_put 57 = .ok (.iload_n 3, 1) := by decide +kernel
theorem dX3_put_58 : decode cX3_put 58 = .ok (.aload_n 0, 1) := by decide +kernel
theorem dX3_put_59 : decode cX3_put 59 = .ok (.getfield 63, 3) := by decide +kernel
theorem dX3_put_62 : decode cX3_put 62 = .ok (.if_icmp .ge 14, 3) := by decide +kernel
theorem dX3_put_65 : decode cX3_put 65 = .ok (.aload_n 0, 1) := by decide +kernel
theorem dX3_put_66 : decode cX3_put 66 = .ok (.aload_n 2, 1) := by decide +kernel
theorem dX3_put_67 : decode cX3_put 67 = .ok (.invokevirtual 87, 3) := by decide +kernel
theorem dX3_put_70 : decode cX3_put 70 = .ok (.iinc 3 1, 3) := by decide +kernel
theorem dX3_put_73 : decode cX3_put 73 = .ok (.goto (-16), 3) := by decide +kernel
theorem dX3_put_76 : decode cX3_put 76 = .ok (.aload_n 0, 1) := by decide +kernel
theorem dX3_put_77 : decode cX3_put 77 = .ok (.getfield 21, 3) := by decide +kernel
theorem dX3_put_80 : decode cX3_put 80 = .ok (.aload_n 0, 1) := by decide +kernel
theorem dX3_put_81 : decode cX3_put 81 = .ok (.getfield 25, 3) := by decide +kernel
theorem dX3_put_84 : decode cX3_put 84 = .ok (.aload_n 2, 1) := by decide +kernel
theorem dX3_put_85 : decode cX3_put 85 = .ok (.aastore, 1) := by decide +kernel
theorem dX3_put_86 : decode cX3_put 86 = .ok (.aload_n 0, 1) := by decide +kernel
theorem dX3_put_87 : decode cX3_put 87 = .ok (.dup, 1) := by decide +kernel
theorem dX3_put_88 : decode cX3_put 88 = .ok (.getfield 25, 3) := by decide +kernel
theorem dX3_put_91 : decode cX3_put 91 = .ok (.iconst 1, 1) := by decide +kernel
theorem dX3_put_92 : decode cX3_put 92 = .ok (.iadd, 1) := by decide +kernel
theorem dX3_put_93 : decode cX3_put 93 = .ok (.putfield 25, 3) := by decide +kernel
theorem dX3_put_96 : decode cX3_put 96 = .ok (.aload_n 0, 1) := by decide +kernel
theorem dX3_put_97 : decode cX3_put 97 = .ok (.getfield 31, 3) := by decide +kernel
theorem dX3_put_100 : decode cX3_put 100 = .ok (.iconst 0, 1) := by decide +kernel
theorem dX3_put_101 : decode cX3_put 101 = .ok (.putfield 79, 3) := by decide +kernel
theorem dX3_put_104 : decode cX3_put 104 = .ok (.aload_n 0, 1) := by decide +kernel
theorem dX3_put_105 : decode cX3_put 105 = .ok (.getfield 25, 3) := by decide +kernel
theorem dX3_put_108 : decode cX3_put 108 = .ok (.iconst 1, 1) := by decide +kernel
theorem dX3_put_109 : decode cX3_put 109 = .ok (.isub, 1) := by decide +kernel
theorem dX3_put_110 : decode cX3_put 110 = .ok (.ireturn, 1) := by decide +kernel
theorem dX3_answers_0 : decode cX3_answers 0 = .ok (.aload_n 0, 1) := by decide +kernel
theorem dX3_answers_1 : decode cX3_answers 1 = .ok (.iload_n 1, 1) := by decide +kernel
theorem dX3_answers_2 : decode cX3_answers 2 = .ok (.invokevirtual 91, 3) := by decide +kernel
theorem dX3_answers_5 : decode cX3_answers 5 = .ok (.astore_n 3, 1) := by decide +kernel
theorem dX3_answers_6 : decode cX3_answers 6 = .ok (.aload_n 3, 1) := by decide +kernel
theorem dX3_answers_7 : decode cX3_answers 7 = .ok (.ifnonnull 5, 3) := by decide +kernel
theorem dX3_answers_10 : decode cX3_answers 10 = .ok (.iconst (-1), 1) := by decide +kernel
theorem dX3_answers_11 : decode cX3_answers 11 = .ok (.ireturn, 1) := by decide +kernel
theorem dX3_answers_12 : decode cX3_answers 12 = .ok (.aload_n 3, 1) := by decide +kernel
theorem dX3_answers_13 : decode cX3_answers 13 = .ok (.iload_n 2, 1) := by decide +kernel
theorem dX3_answers_14 : decode cX3_answers 14 = .ok (.putfield 95, 3) := by decide +kernel
theorem dX3_answers_17 : decode cX3_answers 17 = .ok (.iconst 1, 1) := by decide +kernel
theorem dX3_answers_18 : decode cX3_answers 18 = .ok (.ireturn, 1) := by decide +kernel
theorem dX3_alter_0 : decode cX3_alter 0 = .ok (.aload_n 0, 1) := by decide +kernel
theorem dX3_alter_1 : decode cX3_alter 1 = .ok (.iload_n 1, 1) := by decide +kernel
theorem dX3_alter_2 : decode cX3_alter 2 = .ok (.iload_n 2, 1) := by decide +kernel
theorem dX3_alter_3 : decode cX3_alter 3 = .ok (.invokevirtual 99, 3) := by decide +kernel
theorem dX3_alter_6 : decode cX3_alter 6 = .ok (.astore 5, 2) := by decide +kernel
theorem dX3_alter_8 : decode cX3_alter 8 = .ok (.aload 5, 2) := by decide +kernel
theorem dX3_alter_10 : decode cX3_alter 10 = .ok (.ifnull 12, 3) := by decide +kernel
theorem dX3_alter_13 : decode cX3_alter 13 = .ok (.aload 5, 2) := by decide +kernel
theorem dX3_alter_15 : decode cX3_alter 15 = .ok (.iload_n 3, 1) := by decide +kernel
theorem dX3_alter_16 : decode cX3_alter 16 = .ok (.invokevirtual 103, 3) := by decide +kernel
theorem dX3_alter_19 : decode cX3_alter 19 = .ok (.ifCond .ne 5, 3) := by decide +kernel
theorem dX3_alter_22 : decode cX3_alter 22 = .ok (.iconst (-1), 1) := by decide +kernel
theorem dX3_alter_23 : decode cX3_alter 23 = .ok (.ireturn, 1) := by decide +kernel
theorem dX3_alter_24 : decode cX3_alter 24 = .ok (.aload 5, 2) := by decide +kernel
theorem dX3_alter_26 : decode cX3_alter 26 = .ok (.getfield 106, 3) := by decide +kernel
theorem dX3_alter_29 : decode cX3_alter 29 = .ok (.iload_n 3, 1) := by decide +kernel
theorem dX3_alter_30 : decode cX3_alter 30 = .ok (.iaload, 1) := by decide +kernel
theorem dX3_alter_31 : decode cX3_alter 31 = .ok (.istore 6, 2) := by decide +kernel
theorem dX3_alter_33 : decode cX3_alter 33 = .ok (.aload 5, 2) := by decide +kernel
theorem dX3_alter_35 : decode cX3_alter 35 = .ok (.getfield 106, 3) := by decide +kernel
theorem dX3_alter_38 : decode cX3_alter 38 = .ok (.iload_n 3, 1) := by decide +kernel
theorem dX3_alter_39 : decode cX3_alter 39 = .ok (.iload 4, 2) := by decide +kernel
theorem dX3_alter_41 : decode cX3_alter 41 = .ok (.sipush 255, 3) := by decide +kernel
theorem dX3_alter_44 : decode cX3_alter 44 = .ok (.iand, 1) := by decide +kernel
theorem dX3_alter_45 : decode cX3_alter 45 = .ok (.iastore, 1) := by decide +kernel
theorem dX3_alter_46 : decode cX3_alter 46 = .ok (.iload 6, 2) := by decide +kernel
theorem dX3_alter_48 : decode cX3_alter 48 = .ok (.ireturn, 1) := by decide +kernel
theorem dX3_cut_0 : decode cX3_cut 0 = .ok (.aload_n 0, 1) := by decide +kernel
theorem dX3_cut_1 : decode cX3_cut 1 = .ok (.iload_n 1, 1) := by decide +kernel
theorem dX3_cut_2 : decode cX3_cut 2 = .ok (.iload_n 2, 1) := by decide +kernel
theorem dX3_cut_3 : decode cX3_cut 3 = .ok (.invokevirtual 99, 3) := by decide +kernel
theorem dX3_cut_6 : decode cX3_cut 6 = .ok (.astore 4, 2) := by decide +kernel
theorem dX3_cut_8 : decode cX3_cut 8 = .ok (.aload 4, 2) := by decide +kernel
theorem dX3_cut_10 : decode cX3_cut 10 = .ok (.ifnonnull 5, 3) := by decide +kernel
theorem dX3_cut_13 : decode cX3_cut 13 = .ok (.iconst (-1), 1) := by decide +kernel
theorem dX3_cut_14 : decode cX3_cut 14 = .ok (.ireturn, 1) := by decide +kernel
theorem dX3_cut_15 : decode cX3_cut 15 = .ok (.iload_n 3, 1) := by decide +kernel
theorem dX3_cut_16 : decode cX3_cut 16 = .ok (.ifCond .lt 12, 3) := by decide +kernel
theorem dX3_cut_19 : decode cX3_cut 19 = .ok (.iload_n 3, 1) := by decide +kernel
theorem dX3_cut_20 : decode cX3_cut 20 = .ok (.aload 4, 2) := by decide +kernel
theorem dX3_cut_22 : decode cX3_cut 22 = .ok (.getfield 79, 3) := by decide +kernel
theorem dX3_cut_25 : decode cX3_cut 25 = .ok (.if_icmp .le 6, 3) := by decide +kernel
theorem dX3_cut_28 : decode cX3_cut 28 = .ok (.bipush (-2), 2) := by decide +kernel
theorem dX3_cut_30 : decode cX3_cut 30 = .ok (.ireturn, 1) := by decide +kernel
theorem dX3_cut_31 : decode cX3_cut 31 = .ok (.aload 4, 2) := by decide +kernel
theorem dX3_cut_33 : decode cX3_cut 33 = .ok (.getfield 79, 3) := by decide +kernel
theorem dX3_cut_36 : decode cX3_cut 36 = .ok (.iload_n 3, 1) := by decide +kernel
theorem dX3_cut_37 : decode cX3_cut 37 = .ok (.isub, 1) := by decide +kernel
theorem dX3_cut_38 : decode cX3_cut 38 = .ok (.istore 5, 2) := by decide +kernel
theorem dX3_cut_40 : decode cX3_cut 40 = .ok (.aload 4, 2) := by decide +kernel
theorem dX3_cut_42 : decode cX3_cut 42 = .ok (.iload_n 3, 1) := by decide +kernel
theorem dX3_cut_43 : decode cX3_cut 43 = .ok (.putfield 79, 3) := by decide +kernel
theorem dX3_cut_46 : decode cX3_cut 46 = .ok (.iload 5, 2) := by decide +kernel
theorem dX3_cut_48 : decode cX3_cut 48 = .ok (.ireturn, 1) := by decide +kernel
theorem dX3_lose_0 : decode cX3_lose 0 = .ok (.aload_n 0, 1) := by decide +kernel
theorem dX3_lose_1 : decode cX3_lose 1 = .ok (.iload_n 2, 1) := by decide +kernel
theorem dX3_lose_2 : decode cX3_lose 2 = .ok (.invokevirtual 109, 3) := by decide +kernel
theorem dX3_lose_5 : decode cX3_lose 5 = .ok (.astore_n 3, 1) := by decide +kernel
theorem dX3_lose_6 : decode cX3_lose 6 = .ok (.aload_n 3, 1) := by decide +kernel
theorem dX3_lose_7 : decode cX3_lose 7 = .ok (.ifnull 12, 3) := by decide +kernel
theorem dX3_lose_10 : decode cX3_lose 10 = .ok (.aload_n 0, 1) := by decide +kernel
theorem dX3_lose_11 : decode cX3_lose 11 = .ok (.iload_n 1, 1) := by decide +kernel
theorem dX3_lose_12 : decode cX3_lose 12 = .ok (.iload_n 2, 1) := by decide +kernel
theorem dX3_lose_13 : decode cX3_lose 13 = .ok (.invokevirtual 99, 3) := by decide +kernel
theorem dX3_lose_16 : decode cX3_lose 16 = .ok (.ifnonnull 5, 3) := by decide +kernel
theorem dX3_lose_19 : decode cX3_lose 19 = .ok (.iconst (-1), 1) := by decide +kernel
theorem dX3_lose_20 : decode cX3_lose 20 = .ok (.ireturn, 1) := by decide +kernel
theorem dX3_lose_21 : decode cX3_lose 21 = .ok (.aload_n 3, 1) := by decide +kernel
theorem dX3_lose_22 : decode cX3_lose 22 = .ok (.getfield 113, 3) := by decide +kernel
theorem dX3_lose_25 : decode cX3_lose 25 = .ok (.iload_n 1, 1) := by decide +kernel
theorem dX3_lose_26 : decode cX3_lose 26 = .ok (.aconst_null, 1) := by decide +kernel
theorem dX3_lose_27 : decode cX3_lose 27 = .ok (.aastore, 1) := by decide +kernel
theorem dX3_lose_28 : decode cX3_lose 28 = .ok (.iconst 1, 1) := by decide +kernel
theorem dX3_lose_29 : decode cX3_lose 29 = .ok (.ireturn, 1) := by decide +kernel
theorem dX3_poll_0 : decode cX3_poll 0 = .ok (.iload_n 1, 1) := by decide +kernel
theorem dX3_poll_1 : decode cX3_poll 1 = .ok (.invokestatic 76, 3) := by decide +kernel
theorem dX3_poll_4 : decode cX3_poll 4 = .ok (.ifCond .ne 6, 3) := by decide +kernel
theorem dX3_poll_7 : decode cX3_poll 7 = .ok (.bipush (-2), 2) := by decide +kernel
theorem dX3_poll_9 : decode cX3_poll 9 = .ok (.ireturn, 1) := by decide +kernel
theorem dX3_poll_10 : decode cX3_poll 10 = .ok (.aload_n 0, 1) := by decide +kernel
theorem dX3_poll_11 : decode cX3_poll 11 = .ok (.iconst 0, 1) := by decide +kernel
theorem dX3_poll_12 : decode cX3_poll 12 = .ok (.putfield 48, 3) := by decide +kernel
theorem dX3_poll_15 : decode cX3_poll 15 = .ok (.lload_n 2, 1) := by decide +kernel
theorem dX3_poll_16 : decode cX3_poll 16 = .ok (.lstore 4, 2) := by decide +kernel
theorem dX3_poll_18 : decode cX3_poll 18 = .ok (.iconst 0, 1) := by decide +kernel
theorem dX3_poll_19 : decode cX3_poll 19 = .ok (.istore 6, 2) := by decide +kernel
theorem dX3_poll_21 : decode cX3_poll 21 = .ok (.iload 6, 2) := by decide +kernel
theorem dX3_poll_23 : decode cX3_poll 23 = .ok (.aload_n 0, 1) := by decide +kernel
theorem dX3_poll_24 : decode cX3_poll 24 = .ok (.getfield 25, 3) := by decide +kernel
theorem dX3_poll_27 : decode cX3_poll 27 = .ok (.if_icmp .ge 64, 3) := by decide +kernel
theorem dX3_poll_30 : decode cX3_poll 30 = .ok (.aload_n 0, 1) := by decide +kernel
theorem dX3_poll_31 : decode cX3_poll 31 = .ok (.getfield 21, 3) := by decide +kernel
theorem dX3_poll_34 : decode cX3_poll 34 = .ok (.iload 6, 2) := by decide +kernel
theorem dX3_poll_36 : decode cX3_poll 36 = .ok (.aaload, 1) := by decide +kernel
theorem dX3_poll_37 : decode cX3_poll 37 = .ok (.astore 7, 2) := by decide +kernel
theorem dX3_poll_39 : decode cX3_poll 39 = .ok (.aload 7, 2) := by decide +kernel
theorem dX3_poll_41 : decode cX3_poll 41 = .ok (.ifnull 44, 3) := by decide +kernel
theorem dX3_poll_44 : decode cX3_poll 44 = .ok (.aload 7, 2) := by decide +kernel
theorem dX3_poll_46 : decode cX3_poll 46 = .ok (.getfield 117, 3) := by decide +kernel
theorem dX3_poll_49 : decode cX3_poll 49 = .ok (.iload_n 1, 1) := by decide +kernel
theorem dX3_poll_50 : decode cX3_poll 50 = .ok (.if_icmp .ne 35, 3) := by decide +kernel
theorem dX3_poll_53 : decode cX3_poll 53 = .ok (.aload_n 0, 1) := by decide +kernel
theorem dX3_poll_54 : decode cX3_poll 54 = .ok (.aload 7, 2) := by decide +kernel
theorem dX3_poll_56 : decode cX3_poll 56 = .ok (.invokevirtual 120, 3) := by decide +kernel
theorem dX3_poll_59 : decode cX3_poll 59 = .ok (.istore 8, 2) := by decide +kernel
theorem dX3_poll_61 : decode cX3_poll 61 = .ok (.aload_n 0, 1) := by decide +kernel
theorem dX3_poll_62 : decode cX3_poll 62 = .ok (.iload 8, 2) := by decide +kernel
theorem dX3_poll_64 : decode cX3_poll 64 = .ok (.lload 4, 2) := by decide +kernel
theorem dX3_poll_66 : decode cX3_poll 66 = .ok (.invokevirtual 124, 3) := by decide +kernel
theorem dX3_poll_69 : decode cX3_poll 69 = .ok (.lstore 4, 2) := by decide +kernel
theorem dX3_poll_71 : decode cX3_poll 71 = .ok (.aload_n 0, 1) := by decide +kernel
theorem dX3_poll_72 : decode cX3_poll 72 = .ok (.iload 6, 2) := by decide +kernel
theorem dX3_poll_74 : decode cX3_poll 74 = .ok (.aload 7, 2) := by decide +kernel
theorem dX3_poll_76 : decode cX3_poll 76 = .ok (.iload 8, 2) := by decide +kernel
theorem dX3_poll_78 : decode cX3_poll 78 = .ok (.iconst 3, 1) := by decide +kernel
theorem dX3_poll_79 : decode cX3_poll 79 = .ok (.invokestatic 54, 3) := by decide +kernel
theorem dX3_poll_82 : decode cX3_poll 82 = .ok (.invokevirtual 128, 3) := by decide +kernel
theorem dX3_poll_85 : decode cX3_poll 85 = .ok (.iinc 6 1, 3) := by decide +kernel
theorem dX3_poll_88 : decode cX3_poll 88 = .ok (.goto (-67), 3) := by decide +kernel
theorem dX3_poll_91 : decode cX3_poll 91 = .ok (.aload_n 0, 1) := by decide +kernel
theorem dX3_poll_92 : decode cX3_poll 92 = .ok (.getfield 48, 3) := by decide +kernel
theorem dX3_poll_95 : decode cX3_poll 95 = .ok (.ireturn, 1) := by decide +kernel
theorem dX3_polled_0 : decode cX3_polled 0 = .ok (.iload_n 1, 1) := by decide +kernel
theorem dX3_polled_1 : decode cX3_polled 1 = .ok (.ifCond .lt 11, 3) := by decide +kernel
theorem dX3_polled_4 : decode cX3_polled 4 = .ok (.iload_n 1, 1) := by decide +kernel
theorem dX3_polled_5 : decode cX3_polled 5 = .ok (.aload_n 0, 1) := by decide +kernel
theorem dX3_polled_6 : decode cX3_polled 6 = .ok (.getfield 48, 3) := by decide +kernel
theorem dX3_polled_9 : decode cX3_polled 9 = .ok (.if_icmp .lt 13, 3) := by decide +kernel
theorem dX3_polled_12 : decode cX3_polled 12 = .ok (.new 132, 3) := by decide +kernel
theorem dX3_polled_15 : decode cX3_polled 15 = .ok (.dup, 1) := by decide +kernel
theorem dX3_polled_16 : decode cX3_polled 16 = .ok (.ldc 134, 2) := by decide +kernel
theorem dX3_polled_18 : decode cX3_polled 18 = .ok (.invokespecial 136, 3) := by decide +kernel
theorem dX3_polled_21 : decode cX3_polled 21 = .ok (.athrow, 1) := by decide +kernel
theorem dX3_polled_22 : decode cX3_polled 22 = .ok (.iload_n 2, 1) := by decide +kernel
theorem dX3_polled_23 : decode cX3_polled 23 = .ok (.tableswitch 46 0 2 #[25, 32, 39], 25) := by decide +kernel
theorem dX3_polled_48 : decode cX3_polled 48 = .ok (.aload_n 0, 1) := by decide +kernel
theorem dX3_polled_49 : decode cX3_polled 49 = .ok (.getfield 39, 3) := by decide +kernel
theorem dX3_polled_52 : decode cX3_polled 52 = .ok (.iload_n 1, 1) := by decide +kernel
theorem dX3_polled_53 : decode cX3_polled 53 = .ok (.iaload, 1) := by decide +kernel
theorem dX3_polled_54 : decode cX3_polled 54 = .ok (.ireturn, 1) := by decide +kernel
theorem dX3_polled_55 : decode cX3_polled 55 = .ok (.aload_n 0, 1) := by decide +kernel
theorem dX3_polled_56 : decode cX3_polled 56 = .ok (.getfield 42, 3) := by decide +kernel
theorem dX3_polled_59 : decode cX3_polled 59 = .ok (.iload_n 1, 1) := by decide +kernel
theorem dX3_polled_60 : decode cX3_polled 60 = .ok (.iaload, 1) := by decide +kernel
theorem dX3_polled_61 : decode cX3_polled 61 = .ok (.ireturn, 1) := by decide +kernel
theorem dX3_polled_62 : decode cX3_polled 62 = .ok (.aload_n 0, 1) := by decide +kernel
theorem dX3_polled_63 : decode cX3_polled 63 = .ok (.getfield 45, 3) := by decide +kernel
theorem dX3_polled_66 : decode cX3_polled 66 = .ok (.iload_n 1, 1) := by decide +kernel
theorem dX3_polled_67 : decode cX3_polled 67 = .ok (.iaload, 1) := by decide +kernel
theorem dX3_polled_68 : decode cX3_polled 68 = .ok (.ireturn, 1) := by decide +kernel
theorem dX3_polled_69 : decode cX3_polled 69 = .ok (.iconst (-1), 1) := by decide +kernel
theorem dX3_polled_70 : decode cX3_polled 70 = .ok (.ireturn, 1) := by decide +kernel
theorem dX3_majority_0 : decode cX3_majority 0 = .ok (.aload_n 0, 1) := by decide +kernel
theorem dX3_majority_1 : decode cX3_majority 1 = .ok (.iload_n 1, 1) := by decide +kernel
theorem dX3_majority_2 : decode cX3_majority 2 = .ok (.invokevirtual 109, 3) := by decide +kernel
theorem dX3_majority_5 : decode cX3_majority 5 = .ok (.astore_n 2, 1) := by decide +kernel
theorem dX3_majority_6 : decode cX3_majority 6 = .ok (.aload_n 2, 1) := by decide +kernel
theorem dX3_majority_7 : decode cX3_majority 7 = .ok (.ifnonnull 5, 3) := by decide +kernel
theorem dX3_majority_10 : decode cX3_majority 10 = .ok (.iconst (-1), 1) := by decide +kernel
theorem dX3_majority_11 : decode cX3_majority 11 = .ok (.ireturn, 1) := by decide +kernel
theorem dX3_majority_12 : decode cX3_majority 12 = .ok (.aload_n 0, 1) := by decide +kernel
theorem dX3_majority_13 : decode cX3_majority 13 = .ok (.aload_n 2, 1) := by decide +kernel
theorem dX3_majority_14 : decode cX3_majority 14 = .ok (.invokevirtual 139, 3) := by decide +kernel
theorem dX3_majority_17 : decode cX3_majority 17 = .ok (.astore_n 3, 1) := by decide +kernel
theorem dX3_majority_18 : decode cX3_majority 18 = .ok (.aload_n 0, 1) := by decide +kernel
theorem dX3_majority_19 : decode cX3_majority 19 = .ok (.aload_n 3, 1) := by decide +kernel
theorem dX3_majority_20 : decode cX3_majority 20 = .ok (.ifnonnull 7, 3) := by decide +kernel
theorem dX3_majority_23 : decode cX3_majority 23 = .ok (.iconst 0, 1) := by decide +kernel
theorem dX3_majority_24 : decode cX3_majority 24 = .ok (.goto 7, 3) := by decide +kernel
theorem dX3_majority_27 : decode cX3_majority 27 = .ok (.aload_n 3, 1) := by decide +kernel
theorem dX3_majority_28 : decode cX3_majority 28 = .ok (.invokevirtual 143, 3) := by decide +kernel
theorem dX3_majority_31 : decode cX3_majority 31 = .ok (.putfield 51, 3) := by decide +kernel
theorem dX3_majority_34 : decode cX3_majority 34 = .ok (.aload_n 3, 1) := by decide +kernel
theorem dX3_majority_35 : decode cX3_majority 35 = .ok (.ifnonnull 7, 3) := by decide +kernel
theorem dX3_majority_38 : decode cX3_majority 38 = .ok (.iconst 0, 1) := by decide +kernel
theorem dX3_majority_39 : decode cX3_majority 39 = .ok (.goto 4, 3) := by decide +kernel
theorem dX3_majority_42 : decode cX3_majority 42 = .ok (.iconst 1, 1) := by decide +kernel
theorem dX3_majority_43 : decode cX3_majority 43 = .ok (.ireturn, 1) := by decide +kernel
theorem dX3_digest_0 : decode cX3_digest 0 = .ok (.aload_n 0, 1) := by decide +kernel
theorem dX3_digest_1 : decode cX3_digest 1 = .ok (.getfield 51, 3) := by decide +kernel
theorem dX3_digest_4 : decode cX3_digest 4 = .ok (.ireturn, 1) := by decide +kernel
theorem dX3_mend_0 : decode cX3_mend 0 = .ok (.iload_n 1, 1) := by decide +kernel
theorem dX3_mend_1 : decode cX3_mend 1 = .ok (.invokestatic 76, 3) := by decide +kernel
theorem dX3_mend_4 : decode cX3_mend 4 = .ok (.ifCond .ne 6, 3) := by decide +kernel
theorem dX3_mend_7 : decode cX3_mend 7 = .ok (.bipush (-2), 2) := by decide +kernel
theorem dX3_mend_9 : decode cX3_mend 9 = .ok (.ireturn, 1) := by decide +kernel
theorem dX3_mend_10 : decode cX3_mend 10 = .ok (.iconst 0, 1) := by decide +kernel
theorem dX3_mend_11 : decode cX3_mend 11 = .ok (.istore_n 2, 1) := by decide +kernel
theorem dX3_mend_12 : decode cX3_mend 12 = .ok (.iconst 0, 1) := by decide +kernel
theorem dX3_mend_13 : decode cX3_mend 13 = .ok (.istore_n 3, 1) := by decide +kernel
theorem dX3_mend_14 : decode cX3_mend 14 = .ok (.iload_n 3, 1) := by decide +kernel
theorem dX3_mend_15 : decode cX3_mend 15 = .ok (.aload_n 0, 1) := by decide +kernel
theorem dX3_mend_16 : decode cX3_mend 16 = .ok (.getfield 25, 3) := by decide +kernel
theorem dX3_mend_19 : decode cX3_mend 19 = .ok (.if_icmp .ge 40, 3) := by decide +kernel
theorem dX3_mend_22 : decode cX3_mend 22 = .ok (.aload_n 0, 1) := by decide +kernel
theorem dX3_mend_23 : decode cX3_mend 23 = .ok (.getfield 21, 3) := by decide +kernel
theorem dX3_mend_26 : decode cX3_mend 26 = .ok (.iload_n 3, 1) := by decide +kernel
theorem dX3_mend_27 : decode cX3_mend 27 = .ok (.aaload, 1) := by decide +kernel
theorem dX3_mend_28 : decode cX3_mend 28 = .ok (.astore 4, 2) := by decide +kernel
theorem dX3_mend_30 : decode cX3_mend 30 = .ok (.aload 4, 2) := by decide +kernel
theorem dX3_mend_32 : decode cX3_mend 32 = .ok (.ifnull 21, 3) := by decide +kernel
theorem dX3_mend_35 : decode cX3_mend 35 = .ok (.aload 4, 2) := by decide +kernel
theorem dX3_mend_37 : decode cX3_mend 37 = .ok (.getfield 117, 3) := by decide +kernel
theorem dX3_mend_40 : decode cX3_mend 40 = .ok (.iload_n 1, 1) := by decide +kernel
theorem dX3_mend_41 : decode cX3_mend 41 = .ok (.if_icmp .ne 12, 3) := by decide +kernel
theorem dX3_mend_44 : decode cX3_mend 44 = .ok (.iload_n 2, 1) := by decide +kernel
theorem dX3_mend_45 : decode cX3_mend 45 = .ok (.aload_n 0, 1) := by decide +kernel
theorem dX3_mend_46 : decode cX3_mend 46 = .ok (.aload 4, 2) := by decide +kernel
theorem dX3_mend_48 : decode cX3_mend 48 = .ok (.invokevirtual 146, 3) := by decide +kernel
theorem dX3_mend_51 : decode cX3_mend 51 = .ok (.iadd, 1) := by decide +kernel
theorem dX3_mend_52 : decode cX3_mend 52 = .ok (.istore_n 2, 1) := by decide +kernel
theorem dX3_mend_53 : decode cX3_mend 53 = .ok (.iinc 3 1, 3) := by decide +kernel
theorem dX3_mend_56 : decode cX3_mend 56 = .ok (.goto (-42), 3) := by decide +kernel
theorem dX3_mend_59 : decode cX3_mend 59 = .ok (.iload_n 2, 1) := by decide +kernel
theorem dX3_mend_60 : decode cX3_mend 60 = .ok (.ireturn, 1) := by decide +kernel
theorem dX3_stale_0 : decode cX3_stale 0 = .ok (.aload_n 0, 1) := by decide +kernel
theorem dX3_stale_1 : decode cX3_stale 1 = .ok (.iload_n 2, 1) := by decide +kernel
theorem dX3_stale_2 : decode cX3_stale 2 = .ok (.invokevirtual 109, 3) := by decide +kernel
theorem dX3_stale_5 : decode cX3_stale 5 = .ok (.astore_n 3, 1) := by decide +kernel
theorem dX3_stale_6 : decode cX3_stale 6 = .ok (.aload_n 0, 1) := by decide +kernel
theorem dX3_stale_7 : decode cX3_stale 7 = .ok (.iload_n 1, 1) := by decide +kernel
theorem dX3_stale_8 : decode cX3_stale 8 = .ok (.iload_n 2, 1) := by decide +kernel
theorem dX3_stale_9 : decode cX3_stale 9 = .ok (.invokevirtual 99, 3) := by decide +kernel
theorem dX3_stale_12 : decode cX3_stale 12 = .ok (.astore 4, 2) := by decide +kernel
theorem dX3_stale_14 : decode cX3_stale 14 = .ok (.aload_n 3, 1) := by decide +kernel
theorem dX3_stale_15 : decode cX3_stale 15 = .ok (.ifnull 8, 3) := by decide +kernel
theorem dX3_stale_18 : decode cX3_stale 18 = .ok (.aload 4, 2) := by decide +kernel
theorem dX3_stale_20 : decode cX3_stale 20 = .ok (.ifnonnull 5, 3) := by decide +kernel
theorem dX3_stale_23 : decode cX3_stale 23 = .ok (.iconst (-1), 1) := by decide +kernel
theorem dX3_stale_24 : decode cX3_stale 24 = .ok (.ireturn, 1) := by decide +kernel
theorem dX3_stale_25 : decode cX3_stale 25 = .ok (.aload_n 0, 1) := by decide +kernel
theorem dX3_stale_26 : decode cX3_stale 26 = .ok (.aload_n 3, 1) := by decide +kernel
theorem dX3_stale_27 : decode cX3_stale 27 = .ok (.invokevirtual 139, 3) := by decide +kernel
theorem dX3_stale_30 : decode cX3_stale 30 = .ok (.astore 5, 2) := by decide +kernel
theorem dX3_stale_32 : decode cX3_stale 32 = .ok (.aload 5, 2) := by decide +kernel
theorem dX3_stale_34 : decode cX3_stale 34 = .ok (.ifnull 20, 3) := by decide +kernel
theorem dX3_stale_37 : decode cX3_stale 37 = .ok (.aload 5, 2) := by decide +kernel
theorem dX3_stale_39 : decode cX3_stale 39 = .ok (.invokevirtual 143, 3) := by decide +kernel
theorem dX3_stale_42 : decode cX3_stale 42 = .ok (.aload 4, 2) := by decide +kernel
theorem dX3_stale_44 : decode cX3_stale 44 = .ok (.invokevirtual 143, 3) := by decide +kernel
theorem dX3_stale_47 : decode cX3_stale 47 = .ok (.if_icmp .eq 7, 3) := by decide +kernel
theorem dX3_stale_50 : decode cX3_stale 50 = .ok (.iconst 1, 1) := by decide +kernel
theorem dX3_stale_51 : decode cX3_stale 51 = .ok (.goto 4, 3) := by decide +kernel
theorem dX3_stale_54 : decode cX3_stale 54 = .ok (.iconst 0, 1) := by decide +kernel
theorem dX3_stale_55 : decode cX3_stale 55 = .ok (.ireturn, 1) := by decide +kernel
theorem dX3_fill_0 : decode cX3_fill 0 = .ok (.aload_n 0, 1) := by decide +kernel
theorem dX3_fill_1 : decode cX3_fill 1 = .ok (.iload_n 1, 1) := by decide +kernel
theorem dX3_fill_2 : decode cX3_fill 2 = .ok (.invokevirtual 91, 3) := by decide +kernel
theorem dX3_fill_5 : decode cX3_fill 5 = .ok (.astore_n 2, 1) := by decide +kernel
theorem dX3_fill_6 : decode cX3_fill 6 = .ok (.aload_n 2, 1) := by decide +kernel
theorem dX3_fill_7 : decode cX3_fill 7 = .ok (.ifnonnull 5, 3) := by decide +kernel
theorem dX3_fill_10 : decode cX3_fill 10 = .ok (.iconst (-1), 1) := by decide +kernel
theorem dX3_fill_11 : decode cX3_fill 11 = .ok (.ireturn, 1) := by decide +kernel
theorem dX3_fill_12 : decode cX3_fill 12 = .ok (.aload_n 2, 1) := by decide +kernel
theorem dX3_fill_13 : decode cX3_fill 13 = .ok (.getfield 95, 3) := by decide +kernel
theorem dX3_fill_16 : decode cX3_fill 16 = .ok (.ifCond .ne 6, 3) := by decide +kernel
theorem dX3_fill_19 : decode cX3_fill 19 = .ok (.bipush (-3), 2) := by decide +kernel
theorem dX3_fill_21 : decode cX3_fill 21 = .ok (.ireturn, 1) := by decide +kernel
theorem dX3_fill_22 : decode cX3_fill 22 = .ok (.iconst 0, 1) := by decide +kernel
theorem dX3_fill_23 : decode cX3_fill 23 = .ok (.istore_n 3, 1) := by decide +kernel
theorem dX3_fill_24 : decode cX3_fill 24 = .ok (.iconst 0, 1) := by decide +kernel
theorem dX3_fill_25 : decode cX3_fill 25 = .ok (.istore 4, 2) := by decide +kernel
theorem dX3_fill_27 : decode cX3_fill 27 = .ok (.iload 4, 2) := by decide +kernel
theorem dX3_fill_29 : decode cX3_fill 29 = .ok (.aload_n 0, 1) := by decide +kernel
theorem dX3_fill_30 : decode cX3_fill 30 = .ok (.getfield 25, 3) := by decide +kernel
theorem dX3_fill_33 : decode cX3_fill 33 = .ok (.if_icmp .ge 36, 3) := by decide +kernel
theorem dX3_fill_36 : decode cX3_fill 36 = .ok (.aload_n 0, 1) := by decide +kernel
theorem dX3_fill_37 : decode cX3_fill 37 = .ok (.getfield 21, 3) := by decide +kernel
theorem dX3_fill_40 : decode cX3_fill 40 = .ok (.iload 4, 2) := by decide +kernel
theorem dX3_fill_42 : decode cX3_fill 42 = .ok (.aaload, 1) := by decide +kernel
theorem dX3_fill_43 : decode cX3_fill 43 = .ok (.astore 5, 2) := by decide +kernel
theorem dX3_fill_45 : decode cX3_fill 45 = .ok (.aload 5, 2) := by decide +kernel
theorem dX3_fill_47 : decode cX3_fill 47 = .ok (.ifnull 16, 3) := by decide +kernel
theorem dX3_fill_50 : decode cX3_fill 50 = .ok (.aload_n 0, 1) := by decide +kernel
theorem dX3_fill_51 : decode cX3_fill 51 = .ok (.aload 5, 2) := by decide +kernel
theorem dX3_fill_53 : decode cX3_fill 53 = .ok (.iload_n 1, 1) := by decide +kernel
theorem dX3_fill_54 : decode cX3_fill 54 = .ok (.invokevirtual 149, 3) := by decide +kernel
theorem dX3_fill_57 : decode cX3_fill 57 = .ok (.ifCond .eq 6, 3) := by decide +kernel
theorem dX3_fill_60 : decode cX3_fill 60 = .ok (.iinc 3 1, 3) := by decide +kernel
theorem dX3_fill_63 : decode cX3_fill 63 = .ok (.iinc 4 1, 3) := by decide +kernel
theorem dX3_fill_66 : decode cX3_fill 66 = .ok (.goto (-39), 3) := by decide +kernel
theorem dX3_fill_69 : decode cX3_fill 69 = .ok (.iload_n 3, 1) := by decide +kernel
theorem dX3_fill_70 : decode cX3_fill 70 = .ok (.ireturn, 1) := by decide +kernel
theorem dX3_move_0 : decode cX3_move 0 = .ok (.aload_n 0, 1) := by decide +kernel
theorem dX3_move_1 : decode cX3_move 1 = .ok (.iload_n 1, 1) := by decide +kernel
theorem dX3_move_2 : decode cX3_move 2 = .ok (.invokevirtual 109, 3) := by decide +kernel
theorem dX3_move_5 : decode cX3_move 5 = .ok (.astore 4, 2) := by decide +kernel
theorem dX3_move_7 : decode cX3_move 7 = .ok (.aload_n 0, 1) := by decide +kernel
theorem dX3_move_8 : decode cX3_move 8 = .ok (.iload_n 2, 1) := by decide +kernel
theorem dX3_move_9 : decode cX3_move 9 = .ok (.iload_n 1, 1) := by decide +kernel
theorem dX3_move_10 : decode cX3_move 10 = .ok (.invokevirtual 99, 3) := by decide +kernel
theorem dX3_move_13 : decode cX3_move 13 = .ok (.astore 5, 2) := by decide +kernel
theorem dX3_move_15 : decode cX3_move 15 = .ok (.aload 4, 2) := by decide +kernel
theorem dX3_move_17 : decode cX3_move 17 = .ok (.ifnull 16, 3) := by decide +kernel
theorem dX3_move_20 : decode cX3_move 20 = .ok (.aload 5, 2) := by decide +kernel
theorem dX3_move_22 : decode cX3_move 22 = .ok (.ifnull 11, 3) := by decide +kernel
theorem dX3_move_25 : decode cX3_move 25 = .ok (.aload_n 0, 1) := by decide +kernel
theorem dX3_move_26 : decode cX3_move 26 = .ok (.iload_n 3, 1) := by decide +kernel
theorem dX3_move_27 : decode cX3_move 27 = .ok (.invokevirtual 91, 3) := by decide +kernel
theorem dX3_move_30 : decode cX3_move 30 = .ok (.ifnonnull 5, 3) := by decide +kernel
theorem dX3_move_33 : decode cX3_move 33 = .ok (.iconst (-1), 1) := by decide +kernel
theorem dX3_move_34 : decode cX3_move 34 = .ok (.ireturn, 1) := by decide +kernel
theorem dX3_move_35 : decode cX3_move 35 = .ok (.iload_n 2, 1) := by decide +kernel
theorem dX3_move_36 : decode cX3_move 36 = .ok (.iload_n 3, 1) := by decide +kernel
theorem dX3_move_37 : decode cX3_move 37 = .ok (.if_icmp .eq 29, 3) := by decide +kernel
theorem dX3_move_40 : decode cX3_move 40 = .ok (.aload_n 0, 1) := by decide +kernel
theorem dX3_move_41 : decode cX3_move 41 = .ok (.iload_n 2, 1) := by decide +kernel
theorem dX3_move_42 : decode cX3_move 42 = .ok (.invokevirtual 153, 3) := by decide +kernel
theorem dX3_move_45 : decode cX3_move 45 = .ok (.ifCond .eq 21, 3) := by decide +kernel
theorem dX3_move_48 : decode cX3_move 48 = .ok (.aload_n 0, 1) := by decide +kernel
theorem dX3_move_49 : decode cX3_move 49 = .ok (.iload_n 3, 1) := by decide +kernel
theorem dX3_move_50 : decode cX3_move 50 = .ok (.invokevirtual 153, 3) := by decide +kernel
theorem dX3_move_53 : decode cX3_move 53 = .ok (.ifCond .eq 13, 3) := by decide +kernel
theorem dX3_move_56 : decode cX3_move 56 = .ok (.aload 4, 2) := by decide +kernel
theorem dX3_move_58 : decode cX3_move 58 = .ok (.getfield 113, 3) := by decide +kernel
theorem dX3_move_61 : decode cX3_move 61 = .ok (.iload_n 3, 1) := by decide +kernel
theorem dX3_move_62 : decode cX3_move 62 = .ok (.aaload, 1) := by decide +kernel
theorem dX3_move_63 : decode cX3_move 63 = .ok (.ifnull 6, 3) := by decide +kernel
theorem dX3_move_66 : decode cX3_move 66 = .ok (.bipush (-3), 2) := by decide +kernel
theorem dX3_move_68 : decode cX3_move 68 = .ok (.ireturn, 1) := by decide +kernel
theorem dX3_move_69 : decode cX3_move 69 = .ok (.aload 4, 2) := by decide +kernel
theorem dX3_move_71 : decode cX3_move 71 = .ok (.getfield 113, 3) := by decide +kernel
theorem dX3_move_74 : decode cX3_move 74 = .ok (.iload_n 3, 1) := by decide +kernel
theorem dX3_move_75 : decode cX3_move 75 = .ok (.aload 5, 2) := by decide +kernel
theorem dX3_move_77 : decode cX3_move 77 = .ok (.aastore, 1) := by decide +kernel
theorem dX3_move_78 : decode cX3_move 78 = .ok (.aload 4, 2) := by decide +kernel
theorem dX3_move_80 : decode cX3_move 80 = .ok (.getfield 113, 3) := by decide +kernel
theorem dX3_move_83 : decode cX3_move 83 = .ok (.iload_n 2, 1) := by decide +kernel
theorem dX3_move_84 : decode cX3_move 84 = .ok (.aconst_null, 1) := by decide +kernel
theorem dX3_move_85 : decode cX3_move 85 = .ok (.aastore, 1) := by decide +kernel
theorem dX3_move_86 : decode cX3_move 86 = .ok (.iconst 1, 1) := by decide +kernel
theorem dX3_move_87 : decode cX3_move 87 = .ok (.ireturn, 1) := by decide +kernel
theorem dX3_rate_0 : decode cX3_rate 0 = .ok (.aload_n 0, 1) := by decide +kernel
theorem dX3_rate_1 : decode cX3_rate 1 = .ok (.iload_n 1, 1) := by decide +kernel
theorem dX3_rate_2 : decode cX3_rate 2 = .ok (.invokevirtual 91, 3) := by decide +kernel
theorem dX3_rate_5 : decode cX3_rate 5 = .ok (.astore 4, 2) := by decide +kernel
theorem dX3_rate_7 : decode cX3_rate 7 = .ok (.aload 4, 2) := by decide +kernel
theorem dX3_rate_9 : decode cX3_rate 9 = .ok (.ifnonnull 5, 3) := by decide +kernel
theorem dX3_rate_12 : decode cX3_rate 12 = .ok (.iconst (-1), 1) := by decide +kernel
theorem dX3_rate_13 : decode cX3_rate 13 = .ok (.ireturn, 1) := by decide +kernel
theorem dX3_rate_14 : decode cX3_rate 14 = .ok (.iload_n 3, 1) := by decide +kernel
theorem dX3_rate_15 : decode cX3_rate 15 = .ok (.iconst 1, 1) := by decide +kernel
theorem dX3_rate_16 : decode cX3_rate 16 = .ok (.if_icmp .lt 19, 3) := by decide +kernel
theorem dX3_rate_19 : decode cX3_rate 19 = .ok (.iload_n 3, 1) := by decide +kernel
theorem dX3_rate_20 : decode cX3_rate 20 = .ok (.sipush 1000, 3) := by decide +kernel
theorem dX3_rate_23 : decode cX3_rate 23 = .ok (.if_icmp .gt 12, 3) := by decide +kernel
theorem dX3_rate_26 : decode cX3_rate 26 = .ok (.iload_n 2, 1) := by decide +kernel
theorem dX3_rate_27 : decode cX3_rate 27 = .ok (.ifCond .lt 8, 3) := by decide +kernel
theorem dX3_rate_30 : decode cX3_rate 30 = .ok (.iload_n 2, 1) := by decide +kernel
theorem dX3_rate_31 : decode cX3_rate 31 = .ok (.iload_n 3, 1) := by decide +kernel
theorem dX3_rate_32 : decode cX3_rate 32 = .ok (.if_icmp .le 6, 3) := by decide +kernel
theorem dX3_rate_35 : decode cX3_rate 35 = .ok (.bipush (-2), 2) := by decide +kernel
theorem dX3_rate_37 : decode cX3_rate 37 = .ok (.ireturn, 1) := by decide +kernel
theorem dX3_rate_38 : decode cX3_rate 38 = .ok (.aload 4, 2) := by decide +kernel
theorem dX3_rate_40 : decode cX3_rate 40 = .ok (.iload_n 2, 1) := by decide +kernel
theorem dX3_rate_41 : decode cX3_rate 41 = .ok (.putfield 156, 3) := by decide +kernel
theorem dX3_rate_44 : decode cX3_rate 44 = .ok (.aload 4, 2) := by decide +kernel
theorem dX3_rate_46 : decode cX3_rate 46 = .ok (.iload_n 3, 1) := by decide +kernel
theorem dX3_rate_47 : decode cX3_rate 47 = .ok (.putfield 159, 3) := by decide +kernel
theorem dX3_rate_50 : decode cX3_rate 50 = .ok (.iconst 1, 1) := by decide +kernel
theorem dX3_rate_51 : decode cX3_rate 51 = .ok (.ireturn, 1) := by decide +kernel
theorem dX3_odds_0 : decode cX3_odds 0 = .ok (.aload_n 0, 1) := by decide +kernel
theorem dX3_odds_1 : decode cX3_odds 1 = .ok (.iload_n 1, 1) := by decide +kernel
theorem dX3_odds_2 : decode cX3_odds 2 = .ok (.invokevirtual 109, 3) := by decide +kernel
theorem dX3_odds_5 : decode cX3_odds 5 = .ok (.astore_n 3, 1) := by decide +kernel
theorem dX3_odds_6 : decode cX3_odds 6 = .ok (.aload_n 3, 1) := by decide +kernel
theorem dX3_odds_7 : decode cX3_odds 7 = .ok (.ifnonnull 7, 3) := by decide +kernel
theorem dX3_odds_10 : decode cX3_odds 10 = .ok (.ldc2_w 162, 3) := by decide +kernel
theorem dX3_odds_13 : decode cX3_odds 13 = .ok (.lreturn, 1) := by decide +kernel
theorem dX3_odds_14 : decode cX3_odds 14 = .ok (.aload_n 0, 1) := by decide +kernel
theorem dX3_odds_15 : decode cX3_odds 15 = .ok (.aload_n 3, 1) := by decide +kernel
theorem dX3_odds_16 : decode cX3_odds 16 = .ok (.invokevirtual 139, 3) := by decide +kernel
theorem dX3_odds_19 : decode cX3_odds 19 = .ok (.astore 4, 2) := by decide +kernel
theorem dX3_odds_21 : decode cX3_odds 21 = .ok (.lconst 1, 1) := by decide +kernel
theorem dX3_odds_22 : decode cX3_odds 22 = .ok (.lstore 5, 2) := by decide +kernel
theorem dX3_odds_24 : decode cX3_odds 24 = .ok (.lconst 1, 1) := by decide +kernel
theorem dX3_odds_25 : decode cX3_odds 25 = .ok (.lstore 7, 2) := by decide +kernel
theorem dX3_odds_27 : decode cX3_odds 27 = .ok (.iconst 0, 1) := by decide +kernel
theorem dX3_odds_28 : decode cX3_odds 28 = .ok (.istore 9, 2) := by decide +kernel
theorem dX3_odds_30 : decode cX3_odds 30 = .ok (.iload 9, 2) := by decide +kernel
theorem dX3_odds_32 : decode cX3_odds 32 = .ok (.aload_n 0, 1) := by decide +kernel
theorem dX3_odds_33 : decode cX3_odds 33 = .ok (.getfield 15, 3) := by decide +kernel
theorem dX3_odds_36 : decode cX3_odds 36 = .ok (.if_icmp .ge 75, 3) := by decide +kernel
theorem dX3_odds_39 : decode cX3_odds 39 = .ok (.aload_n 0, 1) := by decide +kernel
theorem dX3_odds_40 : decode cX3_odds 40 = .ok (.getfield 11, 3) := by decide +kernel
theorem dX3_odds_43 : decode cX3_odds 43 = .ok (.iload 9, 2) := by decide +kernel
theorem dX3_odds_45 : decode cX3_odds 45 = .ok (.aaload, 1) := by decide +kernel
theorem dX3_odds_46 : decode cX3_odds 46 = .ok (.astore 10, 2) := by decide +kernel
theorem dX3_odds_48 : decode cX3_odds 48 = .ok (.aload 10, 2) := by decide +kernel
theorem dX3_odds_50 : decode cX3_odds 50 = .ok (.ifnull 55, 3) := by decide +kernel
theorem dX3_odds_53 : decode cX3_odds 53 = .ok (.aload_n 0, 1) := by decide +kernel
theorem dX3_odds_54 : decode cX3_odds 54 = .ok (.aload_n 3, 1) := by decide +kernel
theorem dX3_odds_55 : decode cX3_odds 55 = .ok (.iload 9, 2) := by decide +kernel
theorem dX3_odds_57 : decode cX3_odds 57 = .ok (.aload 4, 2) := by decide +kernel
theorem dX3_odds_59 : decode cX3_odds 59 = .ok (.invokevirtual 164, 3) := by decide +kernel
theorem dX3_odds_62 : decode cX3_odds 62 = .ok (.ifCond .eq 43, 3) := by decide +kernel
theorem dX3_odds_65 : decode cX3_odds 65 = .ok (.aload 10, 2) := by decide +kernel
theorem dX3_odds_67 : decode cX3_odds 67 = .ok (.getfield 159, 3) := by decide +kernel
theorem dX3_odds_70 : decode cX3_odds 70 = .ok (.ifCond .ne 13, 3) := by decide +kernel
theorem dX3_odds_73 : decode cX3_odds 73 = .ok (.new 168, 3) := by decide +kernel
theorem dX3_odds_76 : decode cX3_odds 76 = .ok (.dup, 1) := by decide +kernel
theorem dX3_odds_77 : decode cX3_odds 77 = .ok (.ldc 170, 2) := by decide +kernel
theorem dX3_odds_79 : decode cX3_odds 79 = .ok (.invokespecial 172, 3) := by decide +kernel
theorem dX3_odds_82 : decode cX3_odds 82 = .ok (.athrow, 1) := by decide +kernel
theorem dX3_odds_83 : decode cX3_odds 83 = .ok (.lload 5, 2) := by decide +kernel
theorem dX3_odds_85 : decode cX3_odds 85 = .ok (.aload 10, 2) := by decide +kernel
theorem dX3_odds_87 : decode cX3_odds 87 = .ok (.getfield 156, 3) := by decide +kernel
theorem dX3_odds_90 : decode cX3_odds 90 = .ok (.i2l, 1) := by decide +kernel
theorem dX3_odds_91 : decode cX3_odds 91 = .ok (.lmul, 1) := by decide +kernel
theorem dX3_odds_92 : decode cX3_odds 92 = .ok (.lstore 5, 2) := by decide +kernel
theorem dX3_odds_94 : decode cX3_odds 94 = .ok (.lload 7, 2) := by decide +kernel
theorem dX3_odds_96 : decode cX3_odds 96 = .ok (.aload 10, 2) := by decide +kernel
theorem dX3_odds_98 : decode cX3_odds 98 = .ok (.getfield 159, 3) := by decide +kernel
theorem dX3_odds_101 : decode cX3_odds 101 = .ok (.i2l, 1) := by decide +kernel
theorem dX3_odds_102 : decode cX3_odds 102 = .ok (.lmul, 1) := by decide +kernel
theorem dX3_odds_103 : decode cX3_odds 103 = .ok (.lstore 7, 2) := by decide +kernel
theorem dX3_odds_105 : decode cX3_odds 105 = .ok (.iinc 9 1, 3) := by decide +kernel
theorem dX3_odds_108 : decode cX3_odds 108 = .ok (.goto (-78), 3) := by decide +kernel
theorem dX3_odds_111 : decode cX3_odds 111 = .ok (.lload 5, 2) := by decide +kernel
theorem dX3_odds_113 : decode cX3_odds 113 = .ok (.lload 7, 2) := by decide +kernel
theorem dX3_odds_115 : decode cX3_odds 115 = .ok (.invokestatic 173, 3) := by decide +kernel
theorem dX3_odds_118 : decode cX3_odds 118 = .ok (.lstore 9, 2) := by decide +kernel
theorem dX3_odds_120 : decode cX3_odds 120 = .ok (.iload_n 2, 1) := by decide +kernel
theorem dX3_odds_121 : decode cX3_odds 121 = .ok (.ifCond .ne 8, 3) := by decide +kernel
theorem dX3_odds_124 : decode cX3_odds 124 = .ok (.lload 5, 2) := by decide +kernel
theorem dX3_odds_126 : decode cX3_odds 126 = .ok (.goto 5, 3) := by decide +kernel
theorem dX3_odds_129 : decode cX3_odds 129 = .ok (.lload 7, 2) := by decide +kernel
theorem dX3_odds_131 : decode cX3_odds 131 = .ok (.lstore 11, 2) := by decide +kernel
theorem dX3_odds_133 : decode cX3_odds 133 = .ok (.lload 9, 2) := by decide +kernel
theorem dX3_odds_135 : decode cX3_odds 135 = .ok (.lconst 1, 1) := by decide +kernel
theorem dX3_odds_136 : decode cX3_odds 136 = .ok (.lcmp, 1) := by decide +kernel
theorem dX3_odds_137 : decode cX3_odds 137 = .ok (.ifCond .le 11, 3) := by decide +kernel
theorem dX3_odds_140 : decode cX3_odds 140 = .ok (.lload 11, 2) := by decide +kernel
theorem dX3_odds_142 : decode cX3_odds 142 = .ok (.lload 9, 2) := by decide +kernel
theorem dX3_odds_144 : decode cX3_odds 144 = .ok (.ldiv, 1) := by decide +kernel
theorem dX3_odds_145 : decode cX3_odds 145 = .ok (.goto 5, 3) := by decide +kernel
theorem dX3_odds_148 : decode cX3_odds 148 = .ok (.lload 11, 2) := by decide +kernel
theorem dX3_odds_150 : decode cX3_odds 150 = .ok (.lreturn, 1) := by decide +kernel
theorem dX3_at_0 : decode cX3_at 0 = .ok (.aload_n 0, 1) := by decide +kernel
theorem dX3_at_1 : decode cX3_at 1 = .ok (.iload_n 1, 1) := by decide +kernel
theorem dX3_at_2 : decode cX3_at 2 = .ok (.iload_n 2, 1) := by decide +kernel
theorem dX3_at_3 : decode cX3_at 3 = .ok (.invokevirtual 99, 3) := by decide +kernel
theorem dX3_at_6 : decode cX3_at 6 = .ok (.astore 4, 2) := by decide +kernel
theorem dX3_at_8 : decode cX3_at 8 = .ok (.aload 4, 2) := by decide +kernel
theorem dX3_at_10 : decode cX3_at 10 = .ok (.ifnonnull 5, 3) := by decide +kernel
theorem dX3_at_13 : decode cX3_at 13 = .ok (.iconst (-1), 1) := by decide +kernel
theorem dX3_at_14 : decode cX3_at 14 = .ok (.ireturn, 1) := by decide +kernel
theorem dX3_at_15 : decode cX3_at 15 = .ok (.aload 4, 2) := by decide +kernel
theorem dX3_at_17 : decode cX3_at 17 = .ok (.iload_n 3, 1) := by decide +kernel
theorem dX3_at_18 : decode cX3_at 18 = .ok (.invokevirtual 103, 3) := by decide +kernel
theorem dX3_at_21 : decode cX3_at 21 = .ok (.ifCond .ne 13, 3) := by decide +kernel
theorem dX3_at_24 : decode cX3_at 24 = .ok (.new 177, 3) := by decide +kernel
theorem dX3_at_27 : decode cX3_at 27 = .ok (.dup, 1) := by decide +kernel
theorem dX3_at_28 : decode cX3_at 28 = .ok (.ldc 179, 2) := by decide +kernel
theorem dX3_at_30 : decode cX3_at 30 = .ok (.invokespecial 181, 3) := by decide +kernel
theorem dX3_at_33 : decode cX3_at 33 = .ok (.athrow, 1) := by decide +kernel
theorem dX3_at_34 : decode cX3_at 34 = .ok (.aload 4, 2) := by decide +kernel
theorem dX3_at_36 : decode cX3_at 36 = .ok (.getfield 106, 3) := by decide +kernel
theorem dX3_at_39 : decode cX3_at 39 = .ok (.iload_n 3, 1) := by decide +kernel
theorem dX3_at_40 : decode cX3_at 40 = .ok (.iaload, 1) := by decide +kernel
theorem dX3_at_41 : decode cX3_at 41 = .ok (.ireturn, 1) := by decide +kernel
theorem dX3_about_0 : decode cX3_about 0 = .ok (.aload_n 0, 1) := by decide +kernel
theorem dX3_about_1 : decode cX3_about 1 = .ok (.iload_n 1, 1) := by decide +kernel
theorem dX3_about_2 : decode cX3_about 2 = .ok (.invokevirtual 109, 3) := by decide +kernel
theorem dX3_about_5 : decode cX3_about 5 = .ok (.astore_n 3, 1) := by decide +kernel
theorem dX3_about_6 : decode cX3_about 6 = .ok (.aload_n 3, 1) := by decide +kernel
theorem dX3_about_7 : decode cX3_about 7 = .ok (.ifnonnull 5, 3) := by decide +kernel
theorem dX3_about_10 : decode cX3_about 10 = .ok (.iconst (-1), 1) := by decide +kernel
theorem dX3_about_11 : decode cX3_about 11 = .ok (.ireturn, 1) := by decide +kernel
theorem dX3_about_12 : decode cX3_about 12 = .ok (.iload_n 2, 1) := by decide +kernel
theorem dX3_about_13 : decode cX3_about 13 = .ok (.tableswitch 52 0 3 #[31, 36, 41, 47], 31) := by decide +kernel
theorem dX3_about_44 : decode cX3_about 44 = .ok (.aload_n 3, 1) := by decide +kernel
theorem dX3_about_45 : decode cX3_about 45 = .ok (.getfield 117, 3) := by decide +kernel
theorem dX3_about_48 : decode cX3_about 48 = .ok (.ireturn, 1) := by decide +kernel
theorem dX3_about_49 : decode cX3_about 49 = .ok (.aload_n 3, 1) := by decide +kernel
theorem dX3_about_50 : decode cX3_about 50 = .ok (.invokevirtual 182, 3) := by decide +kernel
theorem dX3_about_53 : decode cX3_about 53 = .ok (.ireturn, 1) := by decide +kernel
theorem dX3_about_54 : decode cX3_about 54 = .ok (.aload_n 0, 1) := by decide +kernel
theorem dX3_about_55 : decode cX3_about 55 = .ok (.aload_n 3, 1) := by decide +kernel
theorem dX3_about_56 : decode cX3_about 56 = .ok (.invokevirtual 185, 3) := by decide +kernel
theorem dX3_about_59 : decode cX3_about 59 = .ok (.ireturn, 1) := by decide +kernel
theorem dX3_about_60 : decode cX3_about 60 = .ok (.aload_n 3, 1) := by decide +kernel
theorem dX3_about_61 : decode cX3_about 61 = .ok (.getfield 188, 3) := by decide +kernel
theorem dX3_about_64 : decode cX3_about 64 = .ok (.ireturn, 1) := by decide +kernel
theorem dX3_about_65 : decode cX3_about 65 = .ok (.iconst (-1), 1) := by decide +kernel
theorem dX3_about_66 : decode cX3_about 66 = .ok (.ireturn, 1) := by decide +kernel
theorem dX3_load_0 : decode cX3_load 0 = .ok (.aload_n 0, 1) := by decide +kernel
theorem dX3_load_1 : decode cX3_load 1 = .ok (.iload_n 1, 1) := by decide +kernel
theorem dX3_load_2 : decode cX3_load 2 = .ok (.invokevirtual 91, 3) := by decide +kernel
theorem dX3_load_5 : decode cX3_load 5 = .ok (.ifnonnull 7, 3) := by decide +kernel
theorem dX3_load_8 : decode cX3_load 8 = .ok (.iconst (-1), 1) := by decide +kernel
theorem dX3_load_9 : decode cX3_load 9 = .ok (.goto 8, 3) := by decide +kernel
theorem dX3_load_12 : decode cX3_load 12 = .ok (.aload_n 0, 1) := by decide +kernel
theorem dX3_load_13 : decode cX3_load 13 = .ok (.iload_n 1, 1) := by decide +kernel
theorem dX3_load_14 : decode cX3_load 14 = .ok (.invokevirtual 191, 3) := by decide +kernel
theorem dX3_load_17 : decode cX3_load 17 = .ok (.ireturn, 1) := by decide +kernel
theorem dX3_isPackage_0 : decode cX3_isPackage 0 = .ok (.iload_n 0, 1) := by decide +kernel
theorem dX3_isPackage_1 : decode cX3_isPackage 1 = .ok (.ifCond .lt 13, 3) := by decide +kernel
theorem dX3_isPackage_4 : decode cX3_isPackage 4 = .ok (.iload_n 0, 1) := by decide +kernel
theorem dX3_isPackage_5 : decode cX3_isPackage 5 = .ok (.bipush 10, 2) := by decide +kernel
theorem dX3_isPackage_7 : decode cX3_isPackage 7 = .ok (.if_icmp .ge 7, 3) := by decide +kernel
theorem dX3_isPackage_10 : decode cX3_isPackage 10 = .ok (.iconst 1, 1) := by decide +kernel
theorem dX3_isPackage_11 : decode cX3_isPackage 11 = .ok (.goto 4, 3) := by decide +kernel
theorem dX3_isPackage_14 : decode cX3_isPackage 14 = .ok (.iconst 0, 1) := by decide +kernel
theorem dX3_isPackage_15 : decode cX3_isPackage 15 = .ok (.ireturn, 1) := by decide +kernel
theorem dX3_isTaken_0 : decode cX3_isTaken 0 = .ok (.iconst 0, 1) := by decide +kernel
theorem dX3_isTaken_1 : decode cX3_isTaken 1 = .ok (.istore_n 2, 1) := by decide +kernel
theorem dX3_isTaken_2 : decode cX3_isTaken 2 = .ok (.iload_n 2, 1) := by decide +kernel
theorem dX3_isTaken_3 : decode cX3_isTaken 3 = .ok (.aload_n 0, 1) := by decide +kernel
theorem dX3_isTaken_4 : decode cX3_isTaken 4 = .ok (.getfield 15, 3) := by decide +kernel
theorem dX3_isTaken_7 : decode cX3_isTaken 7 = .ok (.if_icmp .ge 30, 3) := by decide +kernel
theorem dX3_isTaken_10 : decode cX3_isTaken 10 = .ok (.aload_n 0, 1) := by decide +kernel
theorem dX3_isTaken_11 : decode cX3_isTaken 11 = .ok (.getfield 11, 3) := by decide +kernel
theorem dX3_isTaken_14 : decode cX3_isTaken 14 = .ok (.iload_n 2, 1) := by decide +kernel
theorem dX3_isTaken_15 : decode cX3_isTaken 15 = .ok (.aaload, 1) := by decide +kernel
theorem dX3_isTaken_16 : decode cX3_isTaken 16 = .ok (.astore_n 3, 1) := by decide +kernel
theorem dX3_isTaken_17 : decode cX3_isTaken 17 = .ok (.aload_n 3, 1) := by decide +kernel
theorem dX3_isTaken_18 : decode cX3_isTaken 18 = .ok (.ifnull 13, 3) := by decide +kernel
theorem dX3_isTaken_21 : decode cX3_isTaken 21 = .ok (.aload_n 3, 1) := by decide +kernel
theorem dX3_isTaken_22 : decode cX3_isTaken 22 = .ok (.getfield 195, 3) := by decide +kernel
theorem dX3_isTaken_25 : decode cX3_isTaken 25 = .ok (.iload_n 1, 1) := by decide +kernel
theorem dX3_isTaken_26 : decode cX3_isTaken 26 = .ok (.if_icmp .ne 5, 3) := by decide +kernel
theorem dX3_isTaken_29 : decode cX3_isTaken 29 = .ok (.iconst 1, 1) := by decide +kernel
theorem dX3_isTaken_30 : decode cX3_isTaken 30 = .ok (.ireturn, 1) := by decide +kernel
theorem dX3_isTaken_31 : decode cX3_isTaken 31 = .ok (.iinc 2 1, 3) := by decide +kernel
theorem dX3_isTaken_34 : decode cX3_isTaken 34 = .ok (.goto (-32), 3) := by decide +kernel
theorem dX3_isTaken_37 : decode cX3_isTaken 37 = .ok (.iconst 0, 1) := by decide +kernel
theorem dX3_isTaken_38 : decode cX3_isTaken 38 = .ok (.ireturn, 1) := by decide +kernel
theorem dX3_storeOf_0 : decode cX3_storeOf 0 = .ok (.iload_n 1, 1) := by decide +kernel
theorem dX3_storeOf_1 : decode cX3_storeOf 1 = .ok (.ifCond .lt 20, 3) := by decide +kernel
theorem dX3_storeOf_4 : decode cX3_storeOf 4 = .ok (.iload_n 1, 1) := by decide +kernel
theorem dX3_storeOf_5 : decode cX3_storeOf 5 = .ok (.aload_n 0, 1) := by decide +kernel
theorem dX3_storeOf_6 : decode cX3_storeOf 6 = .ok (.getfield 15, 3) := by decide +kernel
theorem dX3_storeOf_9 : decode cX3_storeOf 9 = .ok (.if_icmp .ge 12, 3) := by decide +kernel
theorem dX3_storeOf_12 : decode cX3_storeOf 12 = .ok (.aload_n 0, 1) := by decide +kernel
theorem dX3_storeOf_13 : decode cX3_storeOf 13 = .ok (.getfield 11, 3) := by decide +kernel
theorem dX3_storeOf_16 : decode cX3_storeOf 16 = .ok (.iload_n 1, 1) := by decide +kernel
theorem dX3_storeOf_17 : decode cX3_storeOf 17 = .ok (.aaload, 1) := by decide +kernel
theorem dX3_storeOf_18 : decode cX3_storeOf 18 = .ok (.goto 4, 3) := by decide +kernel
theorem dX3_storeOf_21 : decode cX3_storeOf 21 = .ok (.aconst_null, 1) := by decide +kernel
theorem dX3_storeOf_22 : decode cX3_storeOf 22 = .ok (.areturn, 1) := by decide +kernel
theorem dX3_itemOf_0 : decode cX3_itemOf 0 = .ok (.iload_n 1, 1) := by decide +kernel
theorem dX3_itemOf_1 : decode cX3_itemOf 1 = .ok (.ifCond .lt 20, 3) := by decide +kernel
theorem dX3_itemOf_4 : decode cX3_itemOf 4 = .ok (.iload_n 1, 1) := by decide +kernel
theorem dX3_itemOf_5 : decode cX3_itemOf 5 = .ok (.aload_n 0, 1) := by decide +kernel
theorem dX3_itemOf_6 : decode cX3_itemOf 6 = .ok (.getfield 25, 3) := by decide +kernel
theorem dX3_itemOf_9 : decode cX3_itemOf 9 = .ok (.if_icmp .ge 12, 3) := by decide +kernel
theorem dX3_itemOf_12 : decode cX3_itemOf 12 = .ok (.aload_n 0, 1) := by decide +kernel
theorem dX3_itemOf_13 : decode cX3_itemOf 13 = .ok (.getfield 21, 3) := by decide +kernel
theorem dX3_itemOf_16 : decode cX3_itemOf 16 = .ok (.iload_n 1, 1) := by decide +kernel
theorem dX3_itemOf_17 : decode cX3_itemOf 17 = .ok (.aaload, 1) := by decide +kernel
theorem dX3_itemOf_18 : decode cX3_itemOf 18 = .ok (.goto 4, 3) := by decide +kernel
theorem dX3_itemOf_21 : decode cX3_itemOf 21 = .ok (.aconst_null, 1) := by decide +kernel
theorem dX3_itemOf_22 : decode cX3_itemOf 22 = .ok (.areturn, 1) := by decide +kernel
theorem dX3_copyOf_0 : decode cX3_copyOf 0 = .ok (.aload_n 0, 1) := by decide +kernel
theorem dX3_copyOf_1 : decode cX3_copyOf 1 = .ok (.iload_n 2, 1) := by decide +kernel
theorem dX3_copyOf_2 : decode cX3_copyOf 2 = .ok (.invokevirtual 109, 3) := by decide +kernel
theorem dX3_copyOf_5 : decode cX3_copyOf 5 = .ok (.astore_n 3, 1) := by decide +kernel
theorem dX3_copyOf_6 : decode cX3_copyOf 6 = .ok (.aload_n 3, 1) := by decide +kernel
theorem dX3_copyOf_7 : decode cX3_copyOf 7 = .ok (.ifnull 11, 3) := by decide +kernel
theorem dX3_copyOf_10 : decode cX3_copyOf 10 = .ok (.aload_n 0, 1) := by decide +kernel
theorem dX3_copyOf_11 : decode cX3_copyOf 11 = .ok (.iload_n 1, 1) := by decide +kernel
theorem dX3_copyOf_12 : decode cX3_copyOf 12 = .ok (.invokevirtual 91, 3) := by decide +kernel
theorem dX3_copyOf_15 : decode cX3_copyOf 15 = .ok (.ifnonnull 7, 3) := by decide +kernel
theorem dX3_copyOf_18 : decode cX3_copyOf 18 = .ok (.aconst_null, 1) := by decide +kernel
theorem dX3_copyOf_19 : decode cX3_copyOf 19 = .ok (.goto 9, 3) := by decide +kernel
theorem dX3_copyOf_22 : decode cX3_copyOf 22 = .ok (.aload_n 3, 1) := by decide +kernel
theorem dX3_copyOf_23 : decode cX3_copyOf 23 = .ok (.getfield 113, 3) := by decide +kernel
theorem dX3_copyOf_26 : decode cX3_copyOf 26 = .ok (.iload_n 1, 1) := by decide +kernel
theorem dX3_copyOf_27 : decode cX3_copyOf 27 = .ok (.aaload, 1) := by decide +kernel
theorem dX3_copyOf_28 : decode cX3_copyOf 28 = .ok (.areturn, 1) := by decide +kernel
theorem dX3_isAnswering_0 : decode cX3_isAnswering 0 = .ok (.aload_n 0, 1) := by decide +kernel
theorem dX3_isAnswering_1 : decode cX3_isAnswering 1 = .ok (.iload_n 1, 1) := by decide +kernel
theorem dX3_isAnswering_2 : decode cX3_isAnswering 2 = .ok (.invokevirtual 91, 3) := by decide +kernel
theorem dX3_isAnswering_5 : decode cX3_isAnswering 5 = .ok (.astore_n 2, 1) := by decide +kernel
theorem dX3_isAnswering_6 : decode cX3_isAnswering 6 = .ok (.aload_n 2, 1) := by decide +kernel
theorem dX3_isAnswering_7 : decode cX3_isAnswering 7 = .ok (.ifnull 14, 3) := by decide +kernel
theorem dX3_isAnswering_10 : decode cX3_isAnswering 10 = .ok (.aload_n 2, 1) := by decide +kernel
theorem dX3_isAnswering_11 : decode cX3_isAnswering 11 = .ok (.getfield 95, 3) := by decide +kernel
theorem dX3_isAnswering_14 : decode cX3_isAnswering 14 = .ok (.ifCond .eq 7, 3) := by decide +kernel
theorem dX3_isAnswering_17 : decode cX3_isAnswering 17 = .ok (.iconst 1, 1) := by decide +kernel
theorem dX3_isAnswering_18 : decode cX3_isAnswering 18 = .ok (.goto 4, 3) := by decide +kernel
theorem dX3_isAnswering_21 : decode cX3_isAnswering 21 = .ok (.iconst 0, 1) := by decide +kernel
theorem dX3_isAnswering_22 : decode cX3_isAnswering 22 = .ok (.ireturn, 1) := by decide +kernel
theorem dX3_answeringStores_0 : decode cX3_answeringStores 0 = .ok (.iconst 0, 1) := by decide +kernel
theorem dX3_answeringStores_1 : decode cX3_answeringStores 1 = .ok (.istore_n 1, 1) := by decide +kernel
theorem dX3_answeringStores_2 : decode cX3_answeringStores 2 = .ok (.iconst 0, 1) := by decide +kernel
theorem dX3_answeringStores_3 : decode cX3_answeringStores 3 = .ok (.istore_n 2, 1) := by decide +kernel
theorem dX3_answeringStores_4 : decode cX3_answeringStores 4 = .ok (.iload_n 2, 1) := by decide +kernel
theorem dX3_answeringStores_5 : decode cX3_answeringStores 5 = .ok (.aload_n 0, 1) := by decide +kernel
theorem dX3_answeringStores_6 : decode cX3_answeringStores 6 = .ok (.getfield 15, 3) := by decide +kernel
theorem dX3_answeringStores_9 : decode cX3_answeringStores 9 = .ok (.if_icmp .ge 20, 3) := by decide +kernel
theorem dX3_answeringStores_12 : decode cX3_answeringStores 12 = .ok (.aload_n 0, 1) := by decide +kernel
theorem dX3_answeringStores_13 : decode cX3_answeringStores 13 = .ok (.iload_n 2, 1) := by decide +kernel
theorem dX3_answeringStores_14 : decode cX3_answeringStores 14 = .ok (.invokevirtual 153, 3) := by decide +kernel
theorem dX3_answeringStores_17 : decode cX3_answeringStores 17 = .ok (.ifCond .eq 6, 3) := by decide +kernel
theorem dX3_answeringStores_20 : decode cX3_answeringStores 20 = .ok (.iinc 1 1, 3) := by decide +kernel
theorem dX3_answeringStores_23 : decode cX3_answeringStores 23 = .ok (.iinc 2 1, 3) := by decide +kernel
theorem dX3_answeringStores_26 : decode cX3_answeringStores 26 = .ok (.goto (-22), 3) := by decide +kernel
theorem dX3_answeringStores_29 : decode cX3_answeringStores 29 = .ok (.iload_n 1, 1) := by decide +kernel
theorem dX3_answeringStores_30 : decode cX3_answeringStores 30 = .ok (.ireturn, 1) := by decide +kernel
theorem dX3_copiesOn_0 : decode cX3_copiesOn 0 = .ok (.iconst 0, 1) := by decide +kernel
theorem dX3_copiesOn_1 : decode cX3_copiesOn 1 = .ok (.istore_n 2, 1) := by decide +kernel
theorem dX3_copiesOn_2 : decode cX3_copiesOn 2 = .ok (.iconst 0, 1) := by decide +kernel
theorem dX3_copiesOn_3 : decode cX3_copiesOn 3 = .ok (.istore_n 3, 1) := by decide +kernel
theorem dX3_copiesOn_4 : decode cX3_copiesOn 4 = .ok (.iload_n 3, 1) := by decide +kernel
theorem dX3_copiesOn_5 : decode cX3_copiesOn 5 = .ok (.aload_n 0, 1) := by decide +kernel
theorem dX3_copiesOn_6 : decode cX3_copiesOn 6 = .ok (.getfield 25, 3) := by decide +kernel
theorem dX3_copiesOn_9 : decode cX3_copiesOn 9 = .ok (.if_icmp .ge 21, 3) := by decide +kernel
theorem dX3_copiesOn_12 : decode cX3_copiesOn 12 = .ok (.aload_n 0, 1) := by decide +kernel
theorem dX3_copiesOn_13 : decode cX3_copiesOn 13 = .ok (.iload_n 1, 1) := by decide +kernel
theorem dX3_copiesOn_14 : decode cX3_copiesOn 14 = .ok (.iload_n 3, 1) := by decide +kernel
theorem dX3_copiesOn_15 : decode cX3_copiesOn 15 = .ok (.invokevirtual 99, 3) := by decide +kernel
theorem dX3_copiesOn_18 : decode cX3_copiesOn 18 = .ok (.ifnull 6, 3) := by decide +kernel
theorem dX3_copiesOn_21 : decode cX3_copiesOn 21 = .ok (.iinc 2 1, 3) := by decide +kernel
theorem dX3_copiesOn_24 : decode cX3_copiesOn 24 = .ok (.iinc 3 1, 3) := by decide +kernel
theorem dX3_copiesOn_27 : decode cX3_copiesOn 27 = .ok (.goto (-23), 3) := by decide +kernel
theorem dX3_copiesOn_30 : decode cX3_copiesOn 30 = .ok (.iload_n 2, 1) := by decide +kernel
theorem dX3_copiesOn_31 : decode cX3_copiesOn 31 = .ok (.ireturn, 1) := by decide +kernel
theorem dX3_placeCollected_0 : decode cX3_placeCollected 0 = .ok (.iconst (-1), 1) := by decide +kernel
theorem dX3_placeCollected_1 : decode cX3_placeCollected 1 = .ok (.istore_n 2, 1) := by decide +kernel
theorem dX3_placeCollected_2 : decode cX3_placeCollected 2 = .ok (.iconst 0, 1) := by decide +kernel
theorem dX3_placeCollected_3 : decode cX3_placeCollected 3 = .ok (.istore_n 3, 1) := by decide +kernel
theorem dX3_placeCollected_4 : decode cX3_placeCollected 4 = .ok (.iconst 0, 1) := by decide +kernel
theorem dX3_placeCollected_5 : decode cX3_placeCollected 5 = .ok (.istore 4, 2) := by decide +kernel
theorem dX3_placeCollected_7 : decode cX3_placeCollected 7 = .ok (.iload 4, 2) := by decide +kernel
theorem dX3_placeCollected_9 : decode cX3_placeCollected 9 = .ok (.aload_n 0, 1) := by decide +kernel
theorem dX3_placeCollected_10 : decode cX3_placeCollected 10 = .ok (.getfield 15, 3) := by decide +kernel
theorem dX3_placeCollected_13 : decode cX3_placeCollected 13 = .ok (.if_icmp .ge 53, 3) := by decide +kernel
theorem dX3_placeCollected_16 : decode cX3_placeCollected 16 = .ok (.aload_n 0, 1) := by decide +kernel
theorem dX3_placeCollected_17 : decode cX3_placeCollected 17 = .ok (.iload 4, 2) := by decide +kernel
theorem dX3_placeCollected_19 : decode cX3_placeCollected 19 = .ok (.invokevirtual 153, 3) := by decide +kernel
theorem dX3_placeCollected_22 : decode cX3_placeCollected 22 = .ok (.ifCond .eq 38, 3) := by decide +kernel
theorem dX3_placeCollected_25 : decode cX3_placeCollected 25 = .ok (.aload_n 1, 1) := by decide +kernel
theorem dX3_placeCollected_26 : decode cX3_placeCollected 26 = .ok (.getfield 113, 3) := by decide +kernel
theorem dX3_placeCollected_29 : decode cX3_placeCollected 29 = .ok (.iload 4, 2) := by decide +kernel
theorem dX3_placeCollected_31 : decode cX3_placeCollected 31 = .ok (.aaload, 1) := by decide +kernel
theorem dX3_placeCollected_32 : decode cX3_placeCollected 32 = .ok (.ifnonnull 28, 3) := by decide +kernel
theorem dX3_placeCollected_35 : decode cX3_placeCollected 35 = .ok (.aload_n 0, 1) := by decide +kernel
theorem dX3_placeCollected_36 : decode cX3_placeCollected 36 = .ok (.iload 4, 2) := by decide +kernel
theorem dX3_placeCollected_38 : decode cX3_placeCollected 38 = .ok (.invokevirtual 191, 3) := by decide +kernel
theorem dX3_placeCollected_41 : decode cX3_placeCollected 41 = .ok (.istore 5, 2) := by decide +kernel
theorem dX3_placeCollected_43 : decode cX3_placeCollected 43 = .ok (.iload_n 2, 1) := by decide +kernel
theorem dX3_placeCollected_44 : decode cX3_placeCollected 44 = .ok (.iconst (-1), 1) := by decide +kernel
theorem dX3_placeCollected_45 : decode cX3_placeCollected 45 = .ok (.if_icmp .eq 9, 3) := by decide +kernel
theorem dX3_placeCollected_48 : decode cX3_placeCollected 48 = .ok (.iload 5, 2) := by decide +kernel
theorem dX3_placeCollected_50 : decode cX3_placeCollected 50 = .ok (.iload_n 3, 1) := by decide +kernel
theorem dX3_placeCollected_51 : decode cX3_placeCollected 51 = .ok (.if_icmp .ge 9, 3) := by decide +kernel
theorem dX3_placeCollected_54 : decode cX3_placeCollected 54 = .ok (.iload 4, 2) := by decide +kernel
theorem dX3_placeCollected_56 : decode cX3_placeCollected 56 = .ok (.istore_n 2, 1) := by decide +kernel
theorem dX3_placeCollected_57 : decode cX3_placeCollected 57 = .ok (.iload 5, 2) := by decide +kernel
theorem dX3_placeCollected_59 : decode cX3_placeCollected 59 = .ok (.istore_n 3, 1) := by decide +kernel
theorem dX3_placeCollected_60 : decode cX3_placeCollected 60 = .ok (.iinc 4 1, 3) := by decide +kernel
theorem dX3_placeCollected_63 : decode cX3_placeCollected 63 = .ok (.goto (-56), 3) := by decide +kernel
theorem dX3_placeCollected_66 : decode cX3_placeCollected 66 = .ok (.iload_n 2, 1) := by decide +kernel
theorem dX3_placeCollected_67 : decode cX3_placeCollected 67 = .ok (.iconst (-1), 1) := by decide +kernel
theorem dX3_placeCollected_68 : decode cX3_placeCollected 68 = .ok (.if_icmp .eq 16, 3) := by decide +kernel
theorem dX3_placeCollected_71 : decode cX3_placeCollected 71 = .ok (.aload_n 1, 1) := by decide +kernel
theorem dX3_placeCollected_72 : decode cX3_placeCollected 72 = .ok (.getfield 113, 3) := by decide +kernel
theorem dX3_placeCollected_75 : decode cX3_placeCollected 75 = .ok (.iload_n 2, 1) := by decide +kernel
theorem dX3_placeCollected_76 : decode cX3_placeCollected 76 = .ok (.aload_n 0, 1) := by decide +kernel
theorem dX3_placeCollected_77 : decode cX3_placeCollected 77 = .ok (.getfield 31, 3) := by decide +kernel
theorem dX3_placeCollected_80 : decode cX3_placeCollected 80 = .ok (.invokevirtual 198, 3) := by decide +kernel
theorem dX3_placeCollected_83 : decode cX3_placeCollected 83 = .ok (.aastore, 1) := by decide +kernel
theorem dX3_placeCollected_84 : decode cX3_placeCollected 84 = .ok (.return_, 1) := by decide +kernel
theorem dX3_countingRow_0 : decode cX3_countingRow 0 = .ok (.aload_n 0, 1) := by decide +kernel
theorem dX3_countingRow_1 : decode cX3_countingRow 1 = .ok (.iload_n 2, 1) := by decide +kernel
theorem dX3_countingRow_2 : decode cX3_countingRow 2 = .ok (.invokevirtual 153, 3) := by decide +kernel
theorem dX3_countingRow_5 : decode cX3_countingRow 5 = .ok (.ifCond .eq 12, 3) := by decide +kernel
theorem dX3_countingRow_8 : decode cX3_countingRow 8 = .ok (.aload_n 1, 1) := by decide +kernel
theorem dX3_countingRow_9 : decode cX3_countingRow 9 = .ok (.getfield 113, 3) := by decide +kernel
theorem dX3_countingRow_12 : decode cX3_countingRow 12 = .ok (.iload_n 2, 1) := by decide +kernel
theorem dX3_countingRow_13 : decode cX3_countingRow 13 = .ok (.aaload, 1) := by decide +kernel
theorem dX3_countingRow_14 : decode cX3_countingRow 14 = .ok (.goto 4, 3) := by decide +kernel
theorem dX3_countingRow_17 : decode cX3_countingRow 17 = .ok (.aconst_null, 1) := by decide +kernel
theorem dX3_countingRow_18 : decode cX3_countingRow 18 = .ok (.areturn, 1) := by decide +kernel
theorem dX3_countingCopies_0 : decode cX3_countingCopies 0 = .ok (.iconst 0, 1) := by decide +kernel
theorem dX3_countingCopies_1 : decode cX3_countingCopies 1 = .ok (.istore_n 2, 1) := by decide +kernel
theorem dX3_countingCopies_2 : decode cX3_countingCopies 2 = .ok (.iconst 0, 1) := by decide +kernel
theorem dX3_countingCopies_3 : decode cX3_countingCopies 3 = .ok (.istore_n 3, 1) := by decide +kernel
theorem dX3_countingCopies_4 : decode cX3_countingCopies 4 = .ok (.iload_n 3, 1) := by decide +kernel
theorem dX3_countingCopies_5 : decode cX3_countingCopies 5 = .ok (.aload_n 0, 1) := by decide +kernel
theorem dX3_countingCopies_6 : decode cX3_countingCopies 6 = .ok (.getfield 15, 3) := by decide +kernel
theorem dX3_countingCopies_9 : decode cX3_countingCopies 9 = .ok (.if_icmp .ge 21, 3) := by decide +kernel
theorem dX3_countingCopies_12 : decode cX3_countingCopies 12 = .ok (.aload_n 0, 1) := by decide +kernel
theorem dX3_countingCopies_13 : decode cX3_countingCopies 13 = .ok (.aload_n 1, 1) := by decide +kernel
theorem dX3_countingCopies_14 : decode cX3_countingCopies 14 = .ok (.iload_n 3, 1) := by decide +kernel
theorem dX3_countingCopies_15 : decode cX3_countingCopies 15 = .ok (.invokevirtual 202, 3) := by decide +kernel
theorem dX3_countingCopies_18 : decode cX3_countingCopies 18 = .ok (.ifnull 6, 3) := by decide +kernel
theorem dX3_countingCopies_21 : decode cX3_countingCopies 21 = .ok (.iinc 2 1, 3) := by decide +kernel
theorem dX3_countingCopies_24 : decode cX3_countingCopies 24 = .ok (.iinc 3 1, 3) := by decide +kernel
theorem dX3_countingCopies_27 : decode cX3_countingCopies 27 = .ok (.goto (-23), 3) := by decide +kernel
theorem dX3_countingCopies_30 : decode cX3_countingCopies 30 = .ok (.iload_n 2, 1) := by decide +kernel
theorem dX3_countingCopies_31 : decode cX3_countingCopies 31 = .ok (.ireturn, 1) := by decide +kernel
theorem dX3_listCounting_0 : decode cX3_listCounting 0 = .ok (.iconst 0, 1) := by decide +kernel
theorem dX3_listCounting_1 : decode cX3_listCounting 1 = .ok (.istore_n 2, 1) := by decide +kernel
theorem dX3_listCounting_2 : decode cX3_listCounting 2 = .ok (.iconst 0, 1) := by decide +kernel
theorem dX3_listCounting_3 : decode cX3_listCounting 3 = .ok (.istore_n 3, 1) := by decide +kernel
theorem dX3_listCounting_4 : decode cX3_listCounting 4 = .ok (.iload_n 3, 1) := by decide +kernel
theorem dX3_listCounting_5 : decode cX3_listCounting 5 = .ok (.aload_n 0, 1) := by decide +kernel
theorem dX3_listCounting_6 : decode cX3_listCounting 6 = .ok (.getfield 15, 3) := by decide +kernel
theorem dX3_listCounting_9 : decode cX3_listCounting 9 = .ok (.if_icmp .ge 37, 3) := by decide +kernel
theorem dX3_listCounting_12 : decode cX3_listCounting 12 = .ok (.iload_n 2, 1) := by decide +kernel
theorem dX3_listCounting_13 : decode cX3_listCounting 13 = .ok (.aload_n 0, 1) := by decide +kernel
theorem dX3_listCounting_14 : decode cX3_listCounting 14 = .ok (.getfield 35, 3) := by decide +kernel
theorem dX3_listCounting_17 : decode cX3_listCounting 17 = .ok (.arraylength, 1) := by decide +kernel
theorem dX3_listCounting_18 : decode cX3_listCounting 18 = .ok (.if_icmp .ge 22, 3) := by decide +kernel
theorem dX3_listCounting_21 : decode cX3_listCounting 21 = .ok (.aload_n 0, 1) := by decide +kernel
theorem dX3_listCounting_22 : decode cX3_listCounting 22 = .ok (.aload_n 1, 1) := by decide +kernel
theorem dX3_listCounting_23 : decode cX3_listCounting 23 = .ok (.iload_n 3, 1) := by decide +kernel
theorem dX3_listCounting_24 : decode cX3_listCounting 24 = .ok (.invokevirtual 202, 3) := by decide +kernel
theorem dX3_listCounting_27 : decode cX3_listCounting 27 = .ok (.ifnull 13, 3) := by decide +kernel
theorem dX3_listCounting_30 : decode cX3_listCounting 30 = .ok (.aload_n 0, 1) := by decide +kernel
theorem dX3_listCounting_31 : decode cX3_listCounting 31 = .ok (.getfield 35, 3) := by decide +kernel
theorem dX3_listCounting_34 : decode cX3_listCounting 34 = .ok (.iload_n 2, 1) := by decide +kernel
theorem dX3_listCounting_35 : decode cX3_listCounting 35 = .ok (.iload_n 3, 1) := by decide +kernel
theorem dX3_listCounting_36 : decode cX3_listCounting 36 = .ok (.iastore, 1) := by decide +kernel
theorem dX3_listCounting_37 : decode cX3_listCounting 37 = .ok (.iinc 2 1, 3) := by decide +kernel
theorem dX3_listCounting_40 : decode cX3_listCounting 40 = .ok (.iinc 3 1, 3) := by decide +kernel
theorem dX3_listCounting_43 : decode cX3_listCounting 43 = .ok (.goto (-39), 3) := by decide +kernel
theorem dX3_listCounting_46 : decode cX3_listCounting 46 = .ok (.iload_n 2, 1) := by decide +kernel
theorem dX3_listCounting_47 : decode cX3_listCounting 47 = .ok (.ireturn, 1) := by decide +kernel
theorem dX3_mix_0 : decode cX3_mix 0 = .ok (.lload_n 2, 1) := by decide +kernel
theorem dX3_mix_1 : decode cX3_mix 1 = .ok (.lstore 4, 2) := by decide +kernel
theorem dX3_mix_3 : decode cX3_mix 3 = .ok (.iload_n 1, 1) := by decide +kernel
theorem dX3_mix_4 : decode cX3_mix 4 = .ok (.iconst 1, 1) := by decide +kernel
theorem dX3_mix_5 : decode cX3_mix 5 = .ok (.isub, 1) := by decide +kernel
theorem dX3_mix_6 : decode cX3_mix 6 = .ok (.istore 6, 2) := by decide +kernel
theorem dX3_mix_8 : decode cX3_mix 8 = .ok (.iload 6, 2) := by decide +kernel
theorem dX3_mix_10 : decode cX3_mix 10 = .ok (.iconst 1, 1) := by decide +kernel
theorem dX3_mix_11 : decode cX3_mix 11 = .ok (.if_icmp .lt 66, 3) := by decide +kernel
theorem dX3_mix_14 : decode cX3_mix 14 = .ok (.lload 4, 2) := by decide +kernel
theorem dX3_mix_16 : decode cX3_mix 16 = .ok (.ldc2_w 206, 3) := by decide +kernel
theorem dX3_mix_19 : decode cX3_mix 19 = .ok (.lmul, 1) := by decide +kernel
theorem dX3_mix_20 : decode cX3_mix 20 = .ok (.ldc2_w 208, 3) := by decide +kernel
theorem dX3_mix_23 : decode cX3_mix 23 = .ok (.ladd, 1) := by decide +kernel
theorem dX3_mix_24 : decode cX3_mix 24 = .ok (.lstore 4, 2) := by decide +kernel
theorem dX3_mix_26 : decode cX3_mix 26 = .ok (.lload 4, 2) := by decide +kernel
theorem dX3_mix_28 : decode cX3_mix 28 = .ok (.bipush 33, 2) := by decide +kernel
theorem dX3_mix_30 : decode cX3_mix 30 = .ok (.lushr, 1) := by decide +kernel
theorem dX3_mix_31 : decode cX3_mix 31 = .ok (.l2i, 1) := by decide +kernel
theorem dX3_mix_32 : decode cX3_mix 32 = .ok (.iload 6, 2) := by decide +kernel
theorem dX3_mix_34 : decode cX3_mix 34 = .ok (.iconst 1, 1) := by decide +kernel
theorem dX3_mix_35 : decode cX3_mix 35 = .ok (.iadd, 1) := by decide +kernel
theorem dX3_mix_36 : decode cX3_mix 36 = .ok (.irem, 1) := by decide +kernel
theorem dX3_mix_37 : decode cX3_mix 37 = .ok (.istore 7, 2) := by decide +kernel
theorem dX3_mix_39 : decode cX3_mix 39 = .ok (.aload_n 0, 1) := by decide +kernel
theorem dX3_mix_40 : decode cX3_mix 40 = .ok (.getfield 35, 3) := by decide +kernel
theorem dX3_mix_43 : decode cX3_mix 43 = .ok (.iload 6, 2) := by decide +kernel
theorem dX3_mix_45 : decode cX3_mix 45 = .ok (.iaload, 1) := by decide +kernel
theorem dX3_mix_46 : decode cX3_mix 46 = .ok (.istore 8, 2) := by decide +kernel
theorem dX3_mix_48 : decode cX3_mix 48 = .ok (.aload_n 0, 1) := by decide +kernel
theorem dX3_mix_49 : decode cX3_mix 49 = .ok (.getfield 35, 3) := by decide +kernel
theorem dX3_mix_52 : decode cX3_mix 52 = .ok (.iload 6, 2) := by decide +kernel
theorem dX3_mix_54 : decode cX3_mix 54 = .ok (.aload_n 0, 1) := by decide +kernel
theorem dX3_mix_55 : decode cX3_mix 55 = .ok (.getfield 35, 3) := by decide +kernel
theorem dX3_mix_58 : decode cX3_mix 58 = .ok (.iload 7, 2) := by decide +kernel
theorem dX3_mix_60 : decode cX3_mix 60 = .ok (.iaload, 1) := by decide +kernel
theorem dX3_mix_61 : decode cX3_mix 61 = .ok (.iastore, 1) := by decide +kernel
theorem dX3_mix_62 : decode cX3_mix 62 = .ok (.aload_n 0, 1) := by decide +kernel
theorem dX3_mix_63 : decode cX3_mix 63 = .ok (.getfield 35, 3) := by decide +kernel
theorem dX3_mix_66 : decode cX3_mix 66 = .ok (.iload 7, 2) := by decide +kernel
theorem dX3_mix_68 : decode cX3_mix 68 = .ok (.iload 8, 2) := by decide +kernel
theorem dX3_mix_70 : decode cX3_mix 70 = .ok (.iastore, 1) := by decide +kernel
theorem dX3_mix_71 : decode cX3_mix 71 = .ok (.iinc 6 (-1), 3) := by decide +kernel
theorem dX3_mix_74 : decode cX3_mix 74 = .ok (.goto (-66), 3) := by decide +kernel
theorem dX3_mix_77 : decode cX3_mix 77 = .ok (.lload 4, 2) := by decide +kernel
theorem dX3_mix_79 : decode cX3_mix 79 = .ok (.lreturn, 1) := by decide +kernel
theorem dX3_ask_0 : decode cX3_ask 0 = .ok (.iconst 0, 1) := by decide +kernel
theorem dX3_ask_1 : decode cX3_ask 1 = .ok (.istore 4, 2) := by decide +kernel
theorem dX3_ask_3 : decode cX3_ask 3 = .ok (.iload 4, 2) := by decide +kernel
theorem dX3_ask_5 : decode cX3_ask 5 = .ok (.iload_n 3, 1) := by decide +kernel
theorem dX3_ask_6 : decode cX3_ask 6 = .ok (.if_icmp .ge 90, 3) := by decide +kernel
theorem dX3_ask_9 : decode cX3_ask 9 = .ok (.aload_n 0, 1) := by decide +kernel
theorem dX3_ask_10 : decode cX3_ask 10 = .ok (.aload_n 2, 1) := by decide +kernel
theorem dX3_ask_11 : decode cX3_ask 11 = .ok (.aload_n 0, 1) := by decide +kernel
theorem dX3_ask_12 : decode cX3_ask 12 = .ok (.getfield 35, 3) := by decide +kernel
theorem dX3_ask_15 : decode cX3_ask 15 = .ok (.iload 4, 2) := by decide +kernel
theorem dX3_ask_17 : decode cX3_ask 17 = .ok (.iaload, 1) := by decide +kernel
theorem dX3_ask_18 : decode cX3_ask 18 = .ok (.invokevirtual 202, 3) := by decide +kernel
theorem dX3_ask_21 : decode cX3_ask 21 = .ok (.astore 5, 2) := by decide +kernel
theorem dX3_ask_23 : decode cX3_ask 23 = .ok (.aload 5, 2) := by decide +kernel
theorem dX3_ask_25 : decode cX3_ask 25 = .ok (.ifnull 65, 3) := by decide +kernel
theorem dX3_ask_28 : decode cX3_ask 28 = .ok (.aload_n 0, 1) := by decide +kernel
theorem dX3_ask_29 : decode cX3_ask 29 = .ok (.getfield 48, 3) := by decide +kernel
theorem dX3_ask_32 : decode cX3_ask 32 = .ok (.aload_n 0, 1) := by decide +kernel
theorem dX3_ask_33 : decode cX3_ask 33 = .ok (.getfield 39, 3) := by decide +kernel
theorem dX3_ask_36 : decode cX3_ask 36 = .ok (.arraylength, 1) := by decide +kernel
theorem dX3_ask_37 : decode cX3_ask 37 = .ok (.if_icmp .ge 53, 3) := by decide +kernel
theorem dX3_ask_40 : decode cX3_ask 40 = .ok (.aload_n 0, 1) := by decide +kernel
theorem dX3_ask_41 : decode cX3_ask 41 = .ok (.getfield 39, 3) := by decide +kernel
theorem dX3_ask_44 : decode cX3_ask 44 = .ok (.aload_n 0, 1) := by decide +kernel
theorem dX3_ask_45 : decode cX3_ask 45 = .ok (.getfield 48, 3) := by decide +kernel
theorem dX3_ask_48 : decode cX3_ask 48 = .ok (.iload_n 1, 1) := by decide +kernel
theorem dX3_ask_49 : decode cX3_ask 49 = .ok (.iastore, 1) := by decide +kernel
theorem dX3_ask_50 : decode cX3_ask 50 = .ok (.aload_n 0, 1) := by decide +kernel
theorem dX3_ask_51 : decode cX3_ask 51 = .ok (.getfield 42, 3) := by decide +kernel
theorem dX3_ask_54 : decode cX3_ask 54 = .ok (.aload_n 0, 1) := by decide +kernel
theorem dX3_ask_55 : decode cX3_ask 55 = .ok (.getfield 48, 3) := by decide +kernel
theorem dX3_ask_58 : decode cX3_ask 58 = .ok (.aload_n 0, 1) := by decide +kernel
theorem dX3_ask_59 : decode cX3_ask 59 = .ok (.getfield 35, 3) := by decide +kernel
theorem dX3_ask_62 : decode cX3_ask 62 = .ok (.iload 4, 2) := by decide +kernel
theorem dX3_ask_64 : decode cX3_ask 64 = .ok (.iaload, 1) := by decide +kernel
theorem dX3_ask_65 : decode cX3_ask 65 = .ok (.iastore, 1) := by decide +kernel
theorem dX3_ask_66 : decode cX3_ask 66 = .ok (.aload_n 0, 1) := by decide +kernel
theorem dX3_ask_67 : decode cX3_ask 67 = .ok (.getfield 45, 3) := by decide +kernel
theorem dX3_ask_70 : decode cX3_ask 70 = .ok (.aload_n 0, 1) := by decide +kernel
theorem dX3_ask_71 : decode cX3_ask 71 = .ok (.getfield 48, 3) := by decide +kernel
theorem dX3_ask_74 : decode cX3_ask 74 = .ok (.aload 5, 2) := by decide +kernel
theorem dX3_ask_76 : decode cX3_ask 76 = .ok (.invokevirtual 143, 3) := by decide +kernel
theorem dX3_ask_79 : decode cX3_ask 79 = .ok (.iastore, 1) := by decide +kernel
theorem dX3_ask_80 : decode cX3_ask 80 = .ok (.aload_n 0, 1) := by decide +kernel
theorem dX3_ask_81 : decode cX3_ask 81 = .ok (.dup, 1) := by decide +kernel
theorem dX3_ask_82 : decode cX3_ask 82 = .ok (.getfield 48, 3) := by decide +kernel
theorem dX3_ask_85 : decode cX3_ask 85 = .ok (.iconst 1, 1) := by decide +kernel
theorem dX3_ask_86 : decode cX3_ask 86 = .ok (.iadd, 1) := by decide +kernel
theorem dX3_ask_87 : decode cX3_ask 87 = .ok (.putfield 48, 3) := by decide +kernel
theorem dX3_ask_90 : decode cX3_ask 90 = .ok (.iinc 4 1, 3) := by decide +kernel
theorem dX3_ask_93 : decode cX3_ask 93 = .ok (.goto (-90), 3) := by decide +kernel
theorem dX3_ask_96 : decode cX3_ask 96 = .ok (.return_, 1) := by decide +kernel
theorem dX3_majorityRow_0 : decode cX3_majorityRow 0 = .ok (.aload_n 0, 1) := by decide +kernel
theorem dX3_majorityRow_1 : decode cX3_majorityRow 1 = .ok (.aload_n 1, 1) := by decide +kernel
theorem dX3_majorityRow_2 : decode cX3_majorityRow 2 = .ok (.invokevirtual 185, 3) := by decide +kernel
theorem dX3_majorityRow_5 : decode cX3_majorityRow 5 = .ok (.istore_n 2, 1) := by decide +kernel
theorem dX3_majorityRow_6 : decode cX3_majorityRow 6 = .ok (.iconst 0, 1) := by decide +kernel
theorem dX3_majorityRow_7 : decode cX3_majorityRow 7 = .ok (.istore_n 3, 1) := by decide +kernel
theorem dX3_majorityRow_8 : decode cX3_majorityRow 8 = .ok (.iload_n 3, 1) := by decide +kernel
theorem dX3_majorityRow_9 : decode cX3_majorityRow 9 = .ok (.aload_n 0, 1) := by decide +kernel
theorem dX3_majorityRow_10 : decode cX3_majorityRow 10 = .ok (.getfield 15, 3) := by decide +kernel
theorem dX3_majorityRow_13 : decode cX3_majorityRow 13 = .ok (.if_icmp .ge 41, 3) := by decide +kernel
theorem dX3_majorityRow_16 : decode cX3_majorityRow 16 = .ok (.aload_n 0, 1) := by decide +kernel
theorem dX3_majorityRow_17 : decode cX3_majorityRow 17 = .ok (.aload_n 1, 1) := by decide +kernel
theorem dX3_majorityRow_18 : decode cX3_majorityRow 18 = .ok (.iload_n 3, 1) := by decide +kernel
theorem dX3_majorityRow_19 : decode cX3_majorityRow 19 = .ok (.invokevirtual 202, 3) := by decide +kernel
theorem dX3_majorityRow_22 : decode cX3_majorityRow 22 = .ok (.astore 4, 2) := by decide +kernel
theorem dX3_majorityRow_24 : decode cX3_majorityRow 24 = .ok (.aload 4, 2) := by decide +kernel
theorem dX3_majorityRow_26 : decode cX3_majorityRow 26 = .ok (.ifnull 22, 3) := by decide +kernel
theorem dX3_majorityRow_29 : decode cX3_majorityRow 29 = .ok (.iconst 2, 1) := by decide +kernel
theorem dX3_majorityRow_30 : decode cX3_majorityRow 30 = .ok (.aload_n 0, 1) := by decide +kernel
theorem dX3_majorityRow_31 : decode cX3_majorityRow 31 = .ok (.aload_n 1, 1) := by decide +kernel
theorem dX3_majorityRow_32 : decode cX3_majorityRow 32 = .ok (.aload 4, 2) := by decide +kernel
theorem dX3_majorityRow_34 : decode cX3_majorityRow 34 = .ok (.invokevirtual 143, 3) := by decide +kernel
theorem dX3_majorityRow_37 : decode cX3_majorityRow 37 = .ok (.invokevirtual 210, 3) := by decide +kernel
theorem dX3_majorityRow_40 : decode cX3_majorityRow 40 = .ok (.imul, 1) := by decide +kernel
theorem dX3_majorityRow_41 : decode cX3_majorityRow 41 = .ok (.iload_n 2, 1) := by decide +kernel
theorem dX3_majorityRow_42 : decode cX3_majorityRow 42 = .ok (.if_icmp .le 6, 3) := by decide +kernel
theorem dX3_majorityRow_45 : decode cX3_majorityRow 45 = .ok (.aload 4, 2) := by decide +kernel
theorem dX3_majorityRow_47 : decode cX3_majorityRow 47 = .ok (.areturn, 1) := by decide +kernel
theorem dX3_majorityRow_48 : decode cX3_majorityRow 48 = .ok (.iinc 3 1, 3) := by decide +kernel
theorem dX3_majorityRow_51 : decode cX3_majorityRow 51 = .ok (.goto (-43), 3) := by decide +kernel
theorem dX3_majorityRow_54 : decode cX3_majorityRow 54 = .ok (.aconst_null, 1) := by decide +kernel
theorem dX3_majorityRow_55 : decode cX3_majorityRow 55 = .ok (.areturn, 1) := by decide +kernel
theorem dX3_countingWith_0 : decode cX3_countingWith 0 = .ok (.iconst 0, 1) := by decide +kernel
theorem dX3_countingWith_1 : decode cX3_countingWith 1 = .ok (.istore_n 3, 1) := by decide +kernel
theorem dX3_countingWith_2 : decode cX3_countingWith 2 = .ok (.iconst 0, 1) := by decide +kernel
theorem dX3_countingWith_3 : decode cX3_countingWith 3 = .ok (.istore 4, 2) := by decide +kernel
theorem dX3_countingWith_5 : decode cX3_countingWith 5 = .ok (.iload 4, 2) := by decide +kernel
theorem dX3_countingWith_7 : decode cX3_countingWith 7 = .ok (.aload_n 0, 1) := by decide +kernel
theorem dX3_countingWith_8 : decode cX3_countingWith 8 = .ok (.getfield 15, 3) := by decide +kernel
theorem dX3_countingWith_11 : decode cX3_countingWith 11 = .ok (.if_icmp .ge 35, 3) := by decide +kernel
theorem dX3_countingWith_14 : decode cX3_countingWith 14 = .ok (.aload_n 0, 1) := by decide +kernel
theorem dX3_countingWith_15 : decode cX3_countingWith 15 = .ok (.aload_n 1, 1) := by decide +kernel
theorem dX3_countingWith_16 : decode cX3_countingWith 16 = .ok (.iload 4, 2) := by decide +kernel
theorem dX3_countingWith_18 : decode cX3_countingWith 18 = .ok (.invokevirtual 202, 3) := by decide +kernel
theorem dX3_countingWith_21 : decode cX3_countingWith 21 = .ok (.astore 5, 2) := by decide +kernel
theorem dX3_countingWith_23 : decode cX3_countingWith 23 = .ok (.aload 5, 2) := by decide +kernel
theorem dX3_countingWith_25 : decode cX3_countingWith 25 = .ok (.ifnull 15, 3) := by decide +kernel
theorem dX3_countingWith_28 : decode cX3_countingWith 28 = .ok (.aload 5, 2) := by decide +kernel
theorem dX3_countingWith_30 : decode cX3_countingWith 30 = .ok (.invokevirtual 143, 3) := by decide +kernel
theorem dX3_countingWith_33 : decode cX3_countingWith 33 = .ok (.iload_n 2, 1) := by decide +kernel
theorem dX3_countingWith_34 : decode cX3_countingWith 34 = .ok (.if_icmp .ne 6, 3) := by decide +kernel
theorem dX3_countingWith_37 : decode cX3_countingWith 37 = .ok (.iinc 3 1, 3) := by decide +kernel
theorem dX3_countingWith_40 : decode cX3_countingWith 40 = .ok (.iinc 4 1, 3) := by decide +kernel
theorem dX3_countingWith_43 : decode cX3_countingWith 43 = .ok (.goto (-38), 3) := by decide +kernel
theorem dX3_countingWith_46 : decode cX3_countingWith 46 = .ok (.iload_n 3, 1) := by decide +kernel
theorem dX3_countingWith_47 : decode cX3_countingWith 47 = .ok (.ireturn, 1) := by decide +kernel
theorem dX3_mendItem_0 : decode cX3_mendItem 0 = .ok (.aload_n 0, 1) := by decide +kernel
theorem dX3_mendItem_1 : decode cX3_mendItem 1 = .ok (.aload_n 1, 1) := by decide +kernel
theorem dX3_mendItem_2 : decode cX3_mendItem 2 = .ok (.invokevirtual 139, 3) := by decide +kernel
theorem dX3_mendItem_5 : decode cX3_mendItem 5 = .ok (.astore_n 2, 1) := by decide +kernel
theorem dX3_mendItem_6 : decode cX3_mendItem 6 = .ok (.aload_n 2, 1) := by decide +kernel
theorem dX3_mendItem_7 : decode cX3_mendItem 7 = .ok (.ifnonnull 5, 3) := by decide +kernel
theorem dX3_mendItem_10 : decode cX3_mendItem 10 = .ok (.iconst 0, 1) := by decide +kernel
theorem dX3_mendItem_11 : decode cX3_mendItem 11 = .ok (.ireturn, 1) := by decide +kernel
theorem dX3_mendItem_12 : decode cX3_mendItem 12 = .ok (.aload_n 2, 1) := by decide +kernel
theorem dX3_mendItem_13 : decode cX3_mendItem 13 = .ok (.invokevirtual 143, 3) := by decide +kernel
theorem dX3_mendItem_16 : decode cX3_mendItem 16 = .ok (.istore_n 3, 1) := by decide +kernel
theorem dX3_mendItem_17 : decode cX3_mendItem 17 = .ok (.iconst 0, 1) := by decide +kernel
theorem dX3_mendItem_18 : decode cX3_mendItem 18 = .ok (.istore 4, 2) := by decide +kernel
theorem dX3_mendItem_20 : decode cX3_mendItem 20 = .ok (.iconst 0, 1) := by decide +kernel
theorem dX3_mendItem_21 : decode cX3_mendItem 21 = .ok (.istore 5, 2) := by decide +kernel
theorem dX3_mendItem_23 : decode cX3_mendItem 23 = .ok (.iload 5, 2) := by decide +kernel
theorem dX3_mendItem_25 : decode cX3_mendItem 25 = .ok (.aload_n 0, 1) := by decide +kernel
theorem dX3_mendItem_26 : decode cX3_mendItem 26 = .ok (.getfield 15, 3) := by decide +kernel
theorem dX3_mendItem_29 : decode cX3_mendItem 29 = .ok (.if_icmp .ge 41, 3) := by decide +kernel
theorem dX3_mendItem_32 : decode cX3_mendItem 32 = .ok (.aload_n 0, 1) := by decide +kernel
theorem dX3_mendItem_33 : decode cX3_mendItem 33 = .ok (.aload_n 1, 1) := by decide +kernel
theorem dX3_mendItem_34 : decode cX3_mendItem 34 = .ok (.iload 5, 2) := by decide +kernel
theorem dX3_mendItem_36 : decode cX3_mendItem 36 = .ok (.invokevirtual 202, 3) := by decide +kernel
theorem dX3_mendItem_39 : decode cX3_mendItem 39 = .ok (.astore 6, 2) := by decide +kernel
theorem dX3_mendItem_41 : decode cX3_mendItem 41 = .ok (.aload 6, 2) := by decide +kernel
theorem dX3_mendItem_43 : decode cX3_mendItem 43 = .ok (.ifnull 21, 3) := by decide +kernel
theorem dX3_mendItem_46 : decode cX3_mendItem 46 = .ok (.aload 6, 2) := by decide +kernel
theorem dX3_mendItem_48 : decode cX3_mendItem 48 = .ok (.invokevirtual 143, 3) := by decide +kernel
theorem dX3_mendItem_51 : decode cX3_mendItem 51 = .ok (.iload_n 3, 1) := by decide +kernel
theorem dX3_mendItem_52 : decode cX3_mendItem 52 = .ok (.if_icmp .eq 12, 3) := by decide +kernel
theorem dX3_mendItem_55 : decode cX3_mendItem 55 = .ok (.aload 6, 2) := by decide +kernel
theorem dX3_mendItem_57 : decode cX3_mendItem 57 = .ok (.aload_n 2, 1) := by decide +kernel
theorem dX3_mendItem_58 : decode cX3_mendItem 58 = .ok (.invokevirtual 214, 3) := by decide +kernel
theorem dX3_mendItem_61 : decode cX3_mendItem 61 = .ok (.iinc 4 1, 3) := by decide +kernel
theorem dX3_mendItem_64 : decode cX3_mendItem 64 = .ok (.iinc 5 1, 3) := by decide +kernel
theorem dX3_mendItem_67 : decode cX3_mendItem 67 = .ok (.goto (-44), 3) := by decide +kernel
theorem dX3_mendItem_70 : decode cX3_mendItem 70 = .ok (.aload_n 1, 1) := by decide +kernel
theorem dX3_mendItem_71 : decode cX3_mendItem 71 = .ok (.dup, 1) := by decide +kernel
theorem dX3_mendItem_72 : decode cX3_mendItem 72 = .ok (.getfield 188, 3) := by decide +kernel
theorem dX3_mendItem_75 : decode cX3_mendItem 75 = .ok (.iload 4, 2) := by decide +kernel
theorem dX3_mendItem_77 : decode cX3_mendItem 77 = .ok (.iadd, 1) := by decide +kernel
theorem dX3_mendItem_78 : decode cX3_mendItem 78 = .ok (.putfield 188, 3) := by decide +kernel
theorem dX3_mendItem_81 : decode cX3_mendItem 81 = .ok (.iload 4, 2) := by decide +kernel
theorem dX3_mendItem_83 : decode cX3_mendItem 83 = .ok (.ireturn, 1) := by decide +kernel
theorem dX3_fillItem_0 : decode cX3_fillItem 0 = .ok (.aload_n 0, 1) := by decide +kernel
theorem dX3_fillItem_1 : decode cX3_fillItem 1 = .ok (.iload_n 2, 1) := by decide +kernel
theorem dX3_fillItem_2 : decode cX3_fillItem 2 = .ok (.invokevirtual 91, 3) := by decide +kernel
theorem dX3_fillItem_5 : decode cX3_fillItem 5 = .ok (.ifnull 23, 3) := by decide +kernel
theorem dX3_fillItem_8 : decode cX3_fillItem 8 = .ok (.aload_n 1, 1) := by decide +kernel
theorem dX3_fillItem_9 : decode cX3_fillItem 9 = .ok (.getfield 113, 3) := by decide +kernel
theorem dX3_fillItem_12 : decode cX3_fillItem 12 = .ok (.iload_n 2, 1) := by decide +kernel
theorem dX3_fillItem_13 : decode cX3_fillItem 13 = .ok (.aaload, 1) := by decide +kernel
theorem dX3_fillItem_14 : decode cX3_fillItem 14 = .ok (.ifnonnull 14, 3) := by decide +kernel
theorem dX3_fillItem_17 : decode cX3_fillItem 17 = .ok (.aload_n 1, 1) := by decide +kernel
theorem dX3_fillItem_18 : decode cX3_fillItem 18 = .ok (.invokevirtual 182, 3) := by decide +kernel
theorem dX3_fillItem_21 : decode cX3_fillItem 21 = .ok (.aload_n 0, 1) := by decide +kernel
theorem dX3_fillItem_22 : decode cX3_fillItem 22 = .ok (.getfield 63, 3) := by decide +kernel
theorem dX3_fillItem_25 : decode cX3_fillItem 25 = .ok (.if_icmp .lt 5, 3) := by decide +kernel
theorem dX3_fillItem_28 : decode cX3_fillItem 28 = .ok (.iconst 0, 1) := by decide +kernel
theorem dX3_fillItem_29 : decode cX3_fillItem 29 = .ok (.ireturn, 1) := by decide +kernel
theorem dX3_fillItem_30 : decode cX3_fillItem 30 = .ok (.aload_n 0, 1) := by decide +kernel
theorem dX3_fillItem_31 : decode cX3_fillItem 31 = .ok (.aload_n 1, 1) := by decide +kernel
theorem dX3_fillItem_32 : decode cX3_fillItem 32 = .ok (.invokevirtual 139, 3) := by decide +kernel
theorem dX3_fillItem_35 : decode cX3_fillItem 35 = .ok (.astore_n 3, 1) := by decide +kernel
theorem dX3_fillItem_36 : decode cX3_fillItem 36 = .ok (.aload_n 3, 1) := by decide +kernel
theorem dX3_fillItem_37 : decode cX3_fillItem 37 = .ok (.ifnonnull 5, 3) := by decide +kernel
theorem dX3_fillItem_40 : decode cX3_fillItem 40 = .ok (.iconst 0, 1) := by decide +kernel
theorem dX3_fillItem_41 : decode cX3_fillItem 41 = .ok (.ireturn, 1) := by decide +kernel
theorem dX3_fillItem_42 : decode cX3_fillItem 42 = .ok (.aload_n 1, 1) := by decide +kernel
theorem dX3_fillItem_43 : decode cX3_fillItem 43 = .ok (.getfield 113, 3) := by decide +kernel
theorem dX3_fillItem_46 : decode cX3_fillItem 46 = .ok (.iload_n 2, 1) := by decide +kernel
theorem dX3_fillItem_47 : decode cX3_fillItem 47 = .ok (.aload_n 3, 1) := by decide +kernel
theorem dX3_fillItem_48 : decode cX3_fillItem 48 = .ok (.invokevirtual 198, 3) := by decide +kernel
theorem dX3_fillItem_51 : decode cX3_fillItem 51 = .ok (.aastore, 1) := by decide +kernel
theorem dX3_fillItem_52 : decode cX3_fillItem 52 = .ok (.aload_n 1, 1) := by decide +kernel
theorem dX3_fillItem_53 : decode cX3_fillItem 53 = .ok (.dup, 1) := by decide +kernel
theorem dX3_fillItem_54 : decode cX3_fillItem 54 = .ok (.getfield 188, 3) := by decide +kernel
theorem dX3_fillItem_57 : decode cX3_fillItem 57 = .ok (.iconst 1, 1) := by decide +kernel
theorem dX3_fillItem_58 : decode cX3_fillItem 58 = .ok (.iadd, 1) := by decide +kernel
theorem dX3_fillItem_59 : decode cX3_fillItem 59 = .ok (.putfield 188, 3) := by decide +kernel
theorem dX3_fillItem_62 : decode cX3_fillItem 62 = .ok (.iconst 1, 1) := by decide +kernel
theorem dX3_fillItem_63 : decode cX3_fillItem 63 = .ok (.ireturn, 1) := by decide +kernel
theorem dX3_bearsOdds_0 : decode cX3_bearsOdds 0 = .ok (.aload_n 0, 1) := by decide +kernel
theorem dX3_bearsOdds_1 : decode cX3_bearsOdds 1 = .ok (.aload_n 1, 1) := by decide +kernel
theorem dX3_bearsOdds_2 : decode cX3_bearsOdds 2 = .ok (.iload_n 2, 1) := by decide +kernel
theorem dX3_bearsOdds_3 : decode cX3_bearsOdds 3 = .ok (.invokevirtual 202, 3) := by decide +kernel
theorem dX3_bearsOdds_6 : decode cX3_bearsOdds 6 = .ok (.astore 4, 2) := by decide +kernel
theorem dX3_bearsOdds_8 : decode cX3_bearsOdds 8 = .ok (.aload 4, 2) := by decide +kernel
theorem dX3_bearsOdds_10 : decode cX3_bearsOdds 10 = .ok (.ifnull 23, 3) := by decide +kernel
theorem dX3_bearsOdds_13 : decode cX3_bearsOdds 13 = .ok (.aload_n 3, 1) := by decide +kernel
theorem dX3_bearsOdds_14 : decode cX3_bearsOdds 14 = .ok (.ifnull 15, 3) := by decide +kernel
theorem dX3_bearsOdds_17 : decode cX3_bearsOdds 17 = .ok (.aload_n 3, 1) := by decide +kernel
theorem dX3_bearsOdds_18 : decode cX3_bearsOdds 18 = .ok (.invokevirtual 143, 3) := by decide +kernel
theorem dX3_bearsOdds_21 : decode cX3_bearsOdds 21 = .ok (.aload 4, 2) := by decide +kernel
theorem dX3_bearsOdds_23 : decode cX3_bearsOdds 23 = .ok (.invokevirtual 143, 3) := by decide +kernel
theorem dX3_bearsOdds_26 : decode cX3_bearsOdds 26 = .ok (.if_icmp .ne 7, 3) := by decide +kernel
theorem dX3_bearsOdds_29 : decode cX3_bearsOdds 29 = .ok (.iconst 1, 1) := by decide +kernel
theorem dX3_bearsOdds_30 : decode cX3_bearsOdds 30 = .ok (.goto 4, 3) := by decide +kernel
theorem dX3_bearsOdds_33 : decode cX3_bearsOdds 33 = .ok (.iconst 0, 1) := by decide +kernel
theorem dX3_bearsOdds_34 : decode cX3_bearsOdds 34 = .ok (.ireturn, 1) := by decide +kernel
theorem dX3_commonDivisor_0 : decode cX3_commonDivisor 0 = .ok (.lload_n 0, 1) := by decide +kernel
theorem dX3_commonDivisor_1 : decode cX3_commonDivisor 1 = .ok (.lstore 4, 2) := by decide +kernel
theorem dX3_commonDivisor_3 : decode cX3_commonDivisor 3 = .ok (.lload_n 2, 1) := by decide +kernel
theorem dX3_commonDivisor_4 : decode cX3_commonDivisor 4 = .ok (.lstore 6, 2) := by decide +kernel
theorem dX3_commonDivisor_6 : decode cX3_commonDivisor 6 = .ok (.iconst 0, 1) := by decide +kernel
theorem dX3_commonDivisor_7 : decode cX3_commonDivisor 7 = .ok (.istore 8, 2) := by decide +kernel
theorem dX3_commonDivisor_9 : decode cX3_commonDivisor 9 = .ok (.iload 8, 2) := by decide +kernel
theorem dX3_commonDivisor_11 : decode cX3_commonDivisor 11 = .ok (.sipush 1000, 3) := by decide +kernel
theorem dX3_commonDivisor_14 : decode cX3_commonDivisor 14 = .ok (.if_icmp .ge 31, 3) := by decide +kernel
theorem dX3_commonDivisor_17 : decode cX3_commonDivisor 17 = .ok (.lload 6, 2) := by decide +kernel
theorem dX3_commonDivisor_19 : decode cX3_commonDivisor 19 = .ok (.lconst 0, 1) := by decide +kernel
theorem dX3_commonDivisor_20 : decode cX3_commonDivisor 20 = .ok (.lcmp, 1) := by decide +kernel
theorem dX3_commonDivisor_21 : decode cX3_commonDivisor 21 = .ok (.ifCond .eq 24, 3) := by decide +kernel
theorem dX3_commonDivisor_24 : decode cX3_commonDivisor 24 = .ok (.lload 4, 2) := by decide +kernel
theorem dX3_commonDivisor_26 : decode cX3_commonDivisor 26 = .ok (.lload 6, 2) := by decide +kernel
theorem dX3_commonDivisor_28 : decode cX3_commonDivisor 28 = .ok (.lrem, 1) := by decide +kernel
theorem dX3_commonDivisor_29 : decode cX3_commonDivisor 29 = .ok (.lstore 9, 2) := by decide +kernel
theorem dX3_commonDivisor_31 : decode cX3_commonDivisor 31 = .ok (.lload 6, 2) := by decide +kernel
theorem dX3_commonDivisor_33 : decode cX3_commonDivisor 33 = .ok (.lstore 4, 2) := by decide +kernel
theorem dX3_commonDivisor_35 : decode cX3_commonDivisor 35 = .ok (.lload 9, 2) := by decide +kernel
theorem dX3_commonDivisor_37 : decode cX3_commonDivisor 37 = .ok (.lstore 6, 2) := by decide +kernel
theorem dX3_commonDivisor_39 : decode cX3_commonDivisor 39 = .ok (.iinc 8 1, 3) := by decide +kernel
theorem dX3_commonDivisor_42 : decode cX3_commonDivisor 42 = .ok (.goto (-33), 3) := by decide +kernel
theorem dX3_commonDivisor_45 : decode cX3_commonDivisor 45 = .ok (.lload 4, 2) := by decide +kernel
theorem dX3_commonDivisor_47 : decode cX3_commonDivisor 47 = .ok (.lreturn, 1) := by decide +kernel
end
section
theorem dX4_init_0 : decode cX4_init 0 = .ok (.aload_n 0, 1) := by decide +kernel
theorem dX4_init_1 : decode cX4_init 1 = .ok (.invokespecial 1, 3) := by decide +kernel
theorem dX4_init_4 : decode cX4_init 4 = .ok (.aload_n 0, 1) := by decide +kernel
theorem dX4_init_5 : decode cX4_init 5 = .ok (.bipush 10, 2) := by decide +kernel
theorem dX4_init_7 : decode cX4_init 7 = .ok (.newarray .int, 2) := by decide +kernel
theorem dX4_init_9 : decode cX4_init 9 = .ok (.putfield 7, 3) := by decide +kernel
theorem dX4_init_12 : decode cX4_init 12 = .ok (.aload_n 0, 1) := by decide +kernel
theorem dX4_init_13 : decode cX4_init 13 = .ok (.bipush 10, 2) := by decide +kernel
theorem dX4_init_15 : decode cX4_init 15 = .ok (.newarray .boolean, 2) := by decide +kernel
theorem dX4_init_17 : decode cX4_init 17 = .ok (.putfield 13, 3) := by decide +kernel
theorem dX4_init_20 : decode cX4_init 20 = .ok (.aload_n 0, 1) := by decide +kernel
theorem dX4_init_21 : decode cX4_init 21 = .ok (.bipush 10, 2) := by decide +kernel
theorem dX4_init_23 : decode cX4_init 23 = .ok (.newarray .int, 2) := by decide +kernel
theorem dX4_init_25 : decode cX4_init 25 = .ok (.putfield 17, 3) := by decide +kernel
theorem dX4_init_28 : decode cX4_init 28 = .ok (.aload_n 0, 1) := by decide +kernel
theorem dX4_init_29 : decode cX4_init 29 = .ok (.bipush 10, 2) := by decide +kernel
theorem dX4_init_31 : decode cX4_init 31 = .ok (.newarray .int, 2) := by decide +kernel
theorem dX4_init_33 : decode cX4_init 33 = .ok (.putfield 20, 3) := by decide +kernel
theorem dX4_init_36 : decode cX4_init 36 = .ok (.aload_n 0, 1) := by decide +kernel
theorem dX4_init_37 : decode cX4_init 37 = .ok (.bipush 16, 2) := by decide +kernel
theorem dX4_init_39 : decode cX4_init 39 = .ok (.newarray .byte, 2) := by decide +kernel
theorem dX4_init_41 : decode cX4_init 41 = .ok (.putfield 23, 3) := by decide +kernel
theorem dX4_init_44 : decode cX4_init 44 = .ok (.aload_n 0, 1) := by decide +kernel
theorem dX4_init_45 : decode cX4_init 45 = .ok (.bipush 40, 2) := by decide +kernel
theorem dX4_init_47 : decode cX4_init 47 = .ok (.newarray .int, 2) := by decide +kernel
theorem dX4_init_49 : decode cX4_init 49 = .ok (.putfield 27, 3) := by decide +kernel
theorem dX4_init_52 : decode cX4_init 52 = .ok (.aload_n 0, 1) := by decide +kernel
theorem dX4_init_53 : decode cX4_init 53 = .ok (.bipush 40, 2) := by decide +kernel
theorem dX4_init_55 : decode cX4_init 55 = .ok (.newarray .int, 2) := by decide +kernel
theorem dX4_init_57 : decode cX4_init 57 = .ok (.putfield 30, 3) := by decide +kernel
theorem dX4_init_60 : decode cX4_init 60 = .ok (.aload_n 0, 1) := by decide +kernel
theorem dX4_init_61 : decode cX4_init 61 = .ok (.sipush 400, 3) := by decide +kernel
theorem dX4_init_64 : decode cX4_init 64 = .ok (.newarray .int, 2) := by decide +kernel
theorem dX4_init_66 : decode cX4_init 66 = .ok (.putfield 33, 3) := by decide +kernel
theorem dX4_init_69 : decode cX4_init 69 = .ok (.aload_n 0, 1) := by decide +kernel
theorem dX4_init_70 : decode cX4_init 70 = .ok (.sipush 6400, 3) := by decide +kernel
theorem dX4_init_73 : decode cX4_init 73 = .ok (.newarray .byte, 2) := by decide +kernel
theorem dX4_init_75 : decode cX4_init 75 = .ok (.putfield 36, 3) := by decide +kernel
theorem dX4_init_78 : decode cX4_init 78 = .ok (.aload_n 0, 1) := by decide +kernel
theorem dX4_init_79 : decode cX4_init 79 = .ok (.bipush 120, 2) := by decide +kernel
theorem dX4_init_81 : decode cX4_init 81 = .ok (.newarray .int, 2) := by decide +kernel
theorem dX4_init_83 : decode cX4_init 83 = .ok (.putfield 39, 3) := by decide +kernel
theorem dX4_init_86 : decode cX4_init 86 = .ok (.aload_n 0, 1) := by decide +kernel
theorem dX4_init_87 : decode cX4_init 87 = .ok (.bipush 120, 2) := by decide +kernel
theorem dX4_init_89 : decode cX4_init 89 = .ok (.newarray .int, 2) := by decide +kernel
theorem dX4_init_91 : decode cX4_init 91 = .ok (.putfield 42, 3) := by decide +kernel
theorem dX4_init_94 : decode cX4_init 94 = .ok (.aload_n 0, 1) := by decide +kernel
theorem dX4_init_95 : decode cX4_init 95 = .ok (.bipush 120, 2) := by decide +kernel
theorem dX4_init_97 : decode cX4_init 97 = .ok (.newarray .int, 2) := by decide +kernel
theorem dX4_init_99 : decode cX4_init 99 = .ok (.putfield 45, 3) := by decide +kernel
theorem dX4_init_102 : decode cX4_init 102 = .ok (.aload_n 0, 1) := by decide +kernel
theorem dX4_init_103 : decode cX4_init 103 = .ok (.bipush 10, 2) := by decide +kernel
theorem dX4_init_105 : decode cX4_init 105 = .ok (.newarray .int, 2) := by decide +kernel
theorem dX4_init_107 : decode cX4_init 107 = .ok (.putfield 48, 3) := by decide +kernel
theorem dX4_init_110 : decode cX4_init 110 = .ok (.aload_n 0, 1) := by decide +kernel
theorem dX4_init_111 : decode cX4_init 111 = .ok (.iload_n 1, 1) := by decide +kernel
theorem dX4_init_112 : decode cX4_init 112 = .ok (.iconst 1, 1) := by decide +kernel
theorem dX4_init_113 : decode cX4_init 113 = .ok (.if_icmp .ge 7, 3) := by decide +kernel
theorem dX4_init_116 : decode cX4_init 116 = .ok (.iconst 1, 1) := by decide +kernel
theorem dX4_init_117 : decode cX4_init 117 = .ok (.goto 13, 3) := by decide +kernel
theorem dX4_init_120 : decode cX4_init 120 = .ok (.iload_n 1, 1) := by decide +kernel
theorem dX4_init_121 : decode cX4_init 121 = .ok (.iconst 5, 1) := by decide +kernel
theorem dX4_init_122 : decode cX4_init 122 = .ok (.if_icmp .le 7, 3) := by decide +kernel
theorem dX4_init_125 : decode cX4_init 125 = .ok (.iconst 5, 1) := by decide +kernel
theorem dX4_init_126 : decode cX4_init 126 = .ok (.goto 4, 3) := by decide +kernel
theorem dX4_init_129 : decode cX4_init 129 = .ok (.iload_n 1, 1) := by decide +kernel
theorem dX4_init_130 : decode cX4_init 130 = .ok (.putfield 51, 3) := by decide +kernel
theorem dX4_init_133 : decode cX4_init 133 = .ok (.iconst 0, 1) := by decide +kernel
theorem dX4_init_134 : decode cX4_init 134 = .ok (.istore_n 2, 1) := by decide +kernel
theorem dX4_init_135 : decode cX4_init 135 = .ok (.iload_n 2, 1) := by decide +kernel
theorem dX4_init_136 : decode cX4_init 136 = .ok (.sipush 400, 3) := by decide +kernel
theorem dX4_init_139 : decode cX4_init 139 = .ok (.if_icmp .ge 16, 3) := by decide +kernel
theorem dX4_init_142 : decode cX4_init 142 = .ok (.aload_n 0, 1) := by decide +kernel
theorem dX4_init_143 : decode cX4_init 143 = .ok (.getfield 33, 3) := by decide +kernel
theorem dX4_init_146 : decode cX4_init 146 = .ok (.iload_n 2, 1) := by decide +kernel
theorem dX4_init_147 : decode cX4_init 147 = .ok (.iconst (-1), 1) := by decide +kernel
theorem dX4_init_148 : decode cX4_init 148 = .ok (.iastore, 1) := by decide +kernel
theorem dX4_init_149 : decode cX4_init 149 = .ok (.iinc 2 1, 3) := by decide +kernel
theorem dX4_init_152 : decode cX4_init 152 = .ok (.goto (-17), 3) := by decide +kernel
theorem dX4_init_155 : decode cX4_init 155 = .ok (.return_, 1) := by decide +kernel
theorem dX4_thrown_0 : decode cX4_thrown 0 = .ok (.aload_n 0, 1) := by decide +kernel
theorem dX4_thrown_1 : decode cX4_thrown 1 = .ok (.getfield 55, 3) := by decide +kernel
theorem dX4_thrown_4 : decode cX4_thrown 4 = .ok (.ireturn, 1) := by decide +kernel
theorem dX4_in_0 : decode cX4_in 0 = .ok (.iload_n 0, 1) := by decide +kernel
theorem dX4_in_1 : decode cX4_in 1 = .ok (.iload_n 1, 1) := by decide +kernel
theorem dX4_in_2 : decode cX4_in 2 = .ok (.if_icmp .lt 12, 3) := by decide +kernel
theorem dX4_in_5 : decode cX4_in 5 = .ok (.iload_n 0, 1) := by decide +kernel
theorem dX4_in_6 : decode cX4_in 6 = .ok (.iload_n 2, 1) := by decide +kernel
theorem dX4_in_7 : decode cX4_in 7 = .ok (.if_icmp .gt 7, 3) := by decide +kernel
theorem dX4_in_10 : decode cX4_in 10 = .ok (.iconst 1, 1) := by decide +kernel
theorem dX4_in_11 : decode cX4_in 11 = .ok (.goto 4, 3) := by decide +kernel
theorem dX4_in_14 : decode cX4_in 14 = .ok (.iconst 0, 1) := by decide +kernel
theorem dX4_in_15 : decode cX4_in 15 = .ok (.ireturn, 1) := by decide +kernel
theorem dX4_isStore_0 : decode cX4_isStore 0 = .ok (.iload_n 1, 1) := by decide +kernel
theorem dX4_isStore_1 : decode cX4_isStore 1 = .ok (.iconst 0, 1) := by decide +kernel
theorem dX4_isStore_2 : decode cX4_isStore 2 = .ok (.aload_n 0, 1) := by decide +kernel
theorem dX4_isStore_3 : decode cX4_isStore 3 = .ok (.getfield 58, 3) := by decide +kernel
theorem dX4_isStore_6 : decode cX4_isStore 6 = .ok (.iconst 1, 1) := by decide +kernel
theorem dX4_isStore_7 : decode cX4_isStore 7 = .ok (.isub, 1) := by decide +kernel
theorem dX4_isStore_8 : decode cX4_isStore 8 = .ok (.invokestatic 61, 3) := by decide +kernel
theorem dX4_isStore_11 : decode cX4_isStore 11 = .ok (.ireturn, 1) := by decide +kernel
theorem dX4_isFile_0 : decode cX4_isFile 0 = .ok (.iload_n 1, 1) := by decide +kernel
theorem dX4_isFile_1 : decode cX4_isFile 1 = .ok (.iconst 0, 1) := by decide +kernel
theorem dX4_isFile_2 : decode cX4_isFile 2 = .ok (.aload_n 0, 1) := by decide +kernel
theorem dX4_isFile_3 : decode cX4_isFile 3 = .ok (.getfield 65, 3) := by decide +kernel
theorem dX4_isFile_6 : decode cX4_isFile 6 = .ok (.iconst 1, 1) := by decide +kernel
theorem dX4_isFile_7 : decode cX4_isFile 7 = .ok (.isub, 1) := by decide +kernel
theorem dX4_isFile_8 : decode cX4_isFile 8 = .ok (.invokestatic 61, 3) := by decide +kernel
theorem dX4_isFile_11 : decode cX4_isFile 11 = .ok (.ireturn, 1) := by decide +kernel
theorem dX4_has_0 : decode cX4_has 0 = .ok (.aload_n 0, 1) := by decide +kernel
theorem dX4_has_1 : decode cX4_has 1 = .ok (.iload_n 1, 1) := by decide +kernel
theorem dX4_has_2 : decode cX4_has 2 = .ok (.invokevirtual 68, 3) := by decide +kernel
theorem dX4_has_5 : decode cX4_has 5 = .ok (.ifCond .eq 29, 3) := by decide +kernel
theorem dX4_has_8 : decode cX4_has 8 = .ok (.aload_n 0, 1) := by decide +kernel
theorem dX4_has_9 : decode cX4_has 9 = .ok (.iload_n 2, 1) := by decide +kernel
theorem dX4_has_10 : decode cX4_has 10 = .ok (.invokevirtual 72, 3) := by decide +kernel
theorem dX4_has_13 : decode cX4_has 13 = .ok (.ifCond .eq 21, 3) := by decide +kernel
theorem dX4_has_16 : decode cX4_has 16 = .ok (.aload_n 0, 1) := by decide +kernel
theorem dX4_has_17 : decode cX4_has 17 = .ok (.getfield 33, 3) := by decide +kernel
theorem dX4_has_20 : decode cX4_has 20 = .ok (.bipush 40, 2) := by decide +kernel
theorem dX4_has_22 : decode cX4_has 22 = .ok (.iload_n 1, 1) := by decide +kernel
theorem dX4_has_23 : decode cX4_has 23 = .ok (.imul, 1) := by decide +kernel
theorem dX4_has_24 : decode cX4_has 24 = .ok (.iload_n 2, 1) := by decide +kernel
theorem dX4_has_25 : decode cX4_has 25 = .ok (.iadd, 1) := by decide +kernel
theorem dX4_has_26 : decode cX4_has 26 = .ok (.iaload, 1) := by decide +kernel
theorem dX4_has_27 : decode cX4_has 27 = .ok (.ifCond .lt 7, 3) := by decide +kernel
theorem dX4_has_30 : decode cX4_has 30 = .ok (.iconst 1, 1) := by decide +kernel
theorem dX4_has_31 : decode cX4_has 31 = .ok (.goto 4, 3) := by decide +kernel
theorem dX4_has_34 : decode cX4_has 34 = .ok (.iconst 0, 1) := by decide +kernel
theorem dX4_has_35 : decode cX4_has 35 = .ok (.ireturn, 1) := by decide +kernel
theorem dX4_counts_0 : decode cX4_counts 0 = .ok (.aload_n 0, 1) := by decide +kernel
theorem dX4_counts_1 : decode cX4_counts 1 = .ok (.iload_n 1, 1) := by decide +kernel
theorem dX4_counts_2 : decode cX4_counts 2 = .ok (.iload_n 2, 1) := by decide +kernel
theorem dX4_counts_3 : decode cX4_counts 3 = .ok (.invokevirtual 75, 3) := by decide +kernel
theorem dX4_counts_6 : decode cX4_counts 6 = .ok (.ifCond .eq 16, 3) := by decide +kernel
theorem dX4_counts_9 : decode cX4_counts 9 = .ok (.aload_n 0, 1) := by decide +kernel
theorem dX4_counts_10 : decode cX4_counts 10 = .ok (.getfield 13, 3) := by decide +kernel
theorem dX4_counts_13 : decode cX4_counts 13 = .ok (.iload_n 1, 1) := by decide +kernel
theorem dX4_counts_14 : decode cX4_counts 14 = .ok (.baload, 1) := by decide +kernel
theorem dX4_counts_15 : decode cX4_counts 15 = .ok (.ifCond .ne 7, 3) := by decide +kernel
theorem dX4_counts_18 : decode cX4_counts 18 = .ok (.iconst 1, 1) := by decide +kernel
theorem dX4_counts_19 : decode cX4_counts 19 = .ok (.goto 4, 3) := by decide +kernel
theorem dX4_counts_22 : decode cX4_counts 22 = .ok (.iconst 0, 1) := by decide +kernel
theorem dX4_counts_23 : decode cX4_counts 23 = .ok (.ireturn, 1) := by decide +kernel
theorem dX4_store_0 : decode cX4_store 0 = .ok (.aload_n 0, 1) := by decide +kernel
theorem dX4_store_1 : decode cX4_store 1 = .ok (.iconst 0, 1) := by decide +kernel
theorem dX4_store_2 : decode cX4_store 2 = .ok (.putfield 55, 3) := by decide +kernel
theorem dX4_store_5 : decode cX4_store 5 = .ok (.iload_n 1, 1) := by decide +kernel
theorem dX4_store_6 : decode cX4_store 6 = .ok (.iconst 0, 1) := by decide +kernel
theorem dX4_store_7 : decode cX4_store 7 = .ok (.bipush 9, 2) := by decide +kernel
theorem dX4_store_9 : decode cX4_store 9 = .ok (.invokestatic 61, 3) := by decide +kernel
theorem dX4_store_12 : decode cX4_store 12 = .ok (.ifCond .ne 6, 3) := by decide +kernel
theorem dX4_store_15 : decode cX4_store 15 = .ok (.bipush (-2), 2) := by decide +kernel
theorem dX4_store_17 : decode cX4_store 17 = .ok (.ireturn, 1) := by decide +kernel
theorem dX4_store_18 : decode cX4_store 18 = .ok (.iconst 0, 1) := by decide +kernel
theorem dX4_store_19 : decode cX4_store 19 = .ok (.istore_n 2, 1) := by decide +kernel
theorem dX4_store_20 : decode cX4_store 20 = .ok (.iload_n 2, 1) := by decide +kernel
theorem dX4_store_21 : decode cX4_store 21 = .ok (.aload_n 0, 1) := by decide +kernel
theorem dX4_store_22 : decode cX4_store 22 = .ok (.getfield 58, 3) := by decide +kernel
theorem dX4_store_25 : decode cX4_store 25 = .ok (.if_icmp .ge 22, 3) := by decide +kernel
theorem dX4_store_28 : decode cX4_store 28 = .ok (.aload_n 0, 1) := by decide +kernel
theorem dX4_store_29 : decode cX4_store 29 = .ok (.getfield 7, 3) := by decide +kernel
theorem dX4_store_32 : decode cX4_store 32 = .ok (.iload_n 2, 1) := by decide +kernel
theorem dX4_store_33 : decode cX4_store 33 = .ok (.iaload, 1) := by decide +kernel
theorem dX4_store_34 : decode cX4_store 34 = .ok (.iload_n 1, 1) := by decide +kernel
theorem dX4_store_35 : decode cX4_store 35 = .ok (.if_icmp .ne 6, 3) := by decide +kernel
theorem dX4_store_38 : decode cX4_store 38 = .ok (.bipush (-3), 2) := by decide +kernel
theorem dX4_store_40 : decode cX4_store 40 = .ok (.ireturn, 1) := by decide +kernel
theorem dX4_store_41 : decode cX4_store 41 = .ok (.iinc 2 1, 3) := by decide +kernel
theorem dX4_store_44 : decode cX4_store 44 = .ok (.goto (-24), 3) := by decide +kernel
theorem dX4_store_47 : decode cX4_store 47 = .ok (.aload_n 0, 1) := by decide +kernel
theorem dX4_store_48 : decode cX4_store 48 = .ok (.getfield 58, 3) := by decide +kernel
theorem dX4_store_51 : decode cX4_store 51 = .ok (.bipush 10, 2) := by decide +kernel
theorem dX4_store_53 : decode cX4_store 53 = .ok (.if_icmp .ne 6, 3) := by decide +kernel
theorem dX4_store_56 : decode cX4_store 56 = .ok (.bipush (-4), 2) := by decide +kernel
theorem dX4_store_58 : decode cX4_store 58 = .ok (.ireturn, 1) := by decide +kernel
theorem dX4_store_59 : decode cX4_store 59 = .ok (.aload_n 0, 1) := by decide +kernel
theorem dX4_store_60 : decode cX4_store 60 = .ok (.getfield 7, 3) := by decide +kernel
theorem dX4_store_63 : decode cX4_store 63 = .ok (.aload_n 0, 1) := by decide +kernel
theorem dX4_store_64 : decode cX4_store 64 = .ok (.getfield 58, 3) := by decide +kernel
theorem dX4_store_67 : decode cX4_store 67 = .ok (.iload_n 1, 1) := by decide +kernel
theorem dX4_store_68 : decode cX4_store 68 = .ok (.iastore, 1) := by decide +kernel
theorem dX4_store_69 : decode cX4_store 69 = .ok (.aload_n 0, 1) := by decide +kernel
theorem dX4_store_70 : decode cX4_store 70 = .ok (.dup, 1) := by decide +kernel
theorem dX4_store_71 : decode cX4_store 71 = .ok (.getfield 58, 3) := by decide +kernel
theorem dX4_store_74 : decode cX4_store 74 = .ok (.iconst 1, 1) := by decide +kernel
theorem dX4_store_75 : decode cX4_store 75 = .ok (.iadd, 1) := by decide +kernel
theorem dX4_store_76 : decode cX4_store 76 = .ok (.putfield 58, 3) := by decide +kernel
theorem dX4_store_79 : decode cX4_store 79 = .ok (.aload_n 0, 1) := by decide +kernel
theorem dX4_store_80 : decode cX4_store 80 = .ok (.getfield 58, 3) := by decide +kernel
theorem dX4_store_83 : decode cX4_store 83 = .ok (.iconst 1, 1) := by decide +kernel
theorem dX4_store_84 : decode cX4_store 84 = .ok (.isub, 1) := by decide +kernel
theorem dX4_store_85 : decode cX4_store 85 = .ok (.ireturn, 1) := by decide +kernel
theorem dX4_octet_0 : decode cX4_octet 0 = .ok (.aload_n 0, 1) := by decide +kernel
theorem dX4_octet_1 : decode cX4_octet 1 = .ok (.iconst 0, 1) := by decide +kernel
theorem dX4_octet_2 : decode cX4_octet 2 = .ok (.putfield 55, 3) := by decide +kernel
theorem dX4_octet_5 : decode cX4_octet 5 = .ok (.aload_n 0, 1) := by decide +kernel
theorem dX4_octet_6 : decode cX4_octet 6 = .ok (.getfield 79, 3) := by decide +kernel
theorem dX4_octet_9 : decode cX4_octet 9 = .ok (.bipush 16, 2) := by decide +kernel
theorem dX4_octet_11 : decode cX4_octet 11 = .ok (.if_icmp .ne 4, 3) := by decide +kernel
theorem dX4_octet_14 : decode cX4_octet 14 = .ok (.return_, 1) := by decide +kernel
theorem dX4_octet_15 : decode cX4_octet 15 = .ok (.aload_n 0, 1) := by decide +kernel
theorem dX4_octet_16 : decode cX4_octet 16 = .ok (.getfield 23, 3) := by decide +kernel
theorem dX4_octet_19 : decode cX4_octet 19 = .ok (.aload_n 0, 1) := by decide +kernel
theorem dX4_octet_20 : decode cX4_octet 20 = .ok (.getfield 79, 3) := by decide +kernel
theorem dX4_octet_23 : decode cX4_octet 23 = .ok (.iload_n 1, 1) := by decide +kernel
theorem dX4_octet_24 : decode cX4_octet 24 = .ok (.i2b, 1) := by decide +kernel
theorem dX4_octet_25 : decode cX4_octet 25 = .ok (.bastore, 1) := by decide +kernel
theorem dX4_octet_26 : decode cX4_octet 26 = .ok (.aload_n 0, 1) := by decide +kernel
theorem dX4_octet_27 : decode cX4_octet 27 = .ok (.dup, 1) := by decide +kernel
theorem dX4_octet_28 : decode cX4_octet 28 = .ok (.getfield 79, 3) := by decide +kernel
theorem dX4_octet_31 : decode cX4_octet 31 = .ok (.iconst 1, 1) := by decide +kernel
theorem dX4_octet_32 : decode cX4_octet 32 = .ok (.iadd, 1) := by decide +kernel
theorem dX4_octet_33 : decode cX4_octet 33 = .ok (.putfield 79, 3) := by decide +kernel
theorem dX4_octet_36 : decode cX4_octet 36 = .ok (.return_, 1) := by decide +kernel
theorem dX4_loadOf_0 : decode cX4_loadOf 0 = .ok (.iconst 0, 1) := by decide +kernel
theorem dX4_loadOf_1 : decode cX4_loadOf 1 = .ok (.istore_n 2, 1) := by decide +kernel
theorem dX4_loadOf_2 : decode cX4_loadOf 2 = .ok (.iconst 0, 1) := by decide +kernel
theorem dX4_loadOf_3 : decode cX4_loadOf 3 = .ok (.istore_n 3, 1) := by decide +kernel
theorem dX4_loadOf_4 : decode cX4_loadOf 4 = .ok (.iload_n 3, 1) := by decide +kernel
theorem dX4_loadOf_5 : decode cX4_loadOf 5 = .ok (.aload_n 0, 1) := by decide +kernel
theorem dX4_loadOf_6 : decode cX4_loadOf 6 = .ok (.getfield 65, 3) := by decide +kernel
theorem dX4_loadOf_9 : decode cX4_loadOf 9 = .ok (.if_icmp .ge 31, 3) := by decide +kernel
theorem dX4_loadOf_12 : decode cX4_loadOf 12 = .ok (.iload_n 2, 1) := by decide +kernel
theorem dX4_loadOf_13 : decode cX4_loadOf 13 = .ok (.aload_n 0, 1) := by decide +kernel
theorem dX4_loadOf_14 : decode cX4_loadOf 14 = .ok (.getfield 33, 3) := by decide +kernel
theorem dX4_loadOf_17 : decode cX4_loadOf 17 = .ok (.bipush 40, 2) := by decide +kernel
theorem dX4_loadOf_19 : decode cX4_loadOf 19 = .ok (.iload_n 1, 1) := by decide +kernel
theorem dX4_loadOf_20 : decode cX4_loadOf 20 = .ok (.imul, 1) := by decide +kernel
theorem dX4_loadOf_21 : decode cX4_loadOf 21 = .ok (.iload_n 3, 1) := by decide +kernel
theorem dX4_loadOf_22 : decode cX4_loadOf 22 = .ok (.iadd, 1) := by decide +kernel
theorem dX4_loadOf_23 : decode cX4_loadOf 23 = .ok (.iaload, 1) := by decide +kernel
theorem dX4_loadOf_24 : decode cX4_loadOf 24 = .ok (.ifCond .lt 7, 3) := by decide +kernel
theorem dX4_loadOf_27 : decode cX4_loadOf 27 = .ok (.iconst 1, 1) := by decide +kernel
theorem dX4_loadOf_28 : decode cX4_loadOf 28 = .ok (.goto 4, 3) := by decide +kernel
theorem dX4_loadOf_31 : decode cX4_loadOf 31 = .ok (.iconst 0, 1) := by decide +kernel
theorem dX4_loadOf_32 : decode cX4_loadOf 32 = .ok (.iadd, 1) := by decide +kernel
theorem dX4_loadOf_33 : decode cX4_loadOf 33 = .ok (.istore_n 2, 1) := by decide +kernel
theorem dX4_loadOf_34 : decode cX4_loadOf 34 = .ok (.iinc 3 1, 3) := by decide +kernel
theorem dX4_loadOf_37 : decode cX4_loadOf 37 = .ok (.goto (-33), 3) := by decide +kernel
theorem dX4_loadOf_40 : decode cX4_loadOf 40 = .ok (.iload_n 2, 1) := by decide +kernel
theorem dX4_loadOf_41 : decode cX4_loadOf 41 = .ok (.ireturn, 1) := by decide +kernel
theorem dX4_ahead_0 : decode cX4_ahead 0 = .ok (.iconst 0, 1) := by decide +kernel
theorem dX4_ahead_1 : decode cX4_ahead 1 = .ok (.istore_n 2, 1) := by decide +kernel
theorem dX4_ahead_2 : decode cX4_ahead 2 = .ok (.iconst 0, 1) := by decide +kernel
theorem dX4_ahead_3 : decode cX4_ahead 3 = .ok (.istore_n 3, 1) := by decide +kernel
theorem dX4_ahead_4 : decode cX4_ahead 4 = .ok (.iload_n 3, 1) := by decide +kernel
theorem dX4_ahead_5 : decode cX4_ahead 5 = .ok (.aload_n 0, 1) := by decide +kernel
theorem dX4_ahead_6 : decode cX4_ahead 6 = .ok (.getfield 58, 3) := by decide +kernel
theorem dX4_ahead_9 : decode cX4_ahead 9 = .ok (.if_icmp .ge 57, 3) := by decide +kernel
theorem dX4_ahead_12 : decode cX4_ahead 12 = .ok (.iload_n 2, 1) := by decide +kernel
theorem dX4_ahead_13 : decode cX4_ahead 13 = .ok (.aload_n 0, 1) := by decide +kernel
theorem dX4_ahead_14 : decode cX4_ahead 14 = .ok (.getfield 13, 3) := by decide +kernel
theorem dX4_ahead_17 : decode cX4_ahead 17 = .ok (.iload_n 3, 1) := by decide +kernel
theorem dX4_ahead_18 : decode cX4_ahead 18 = .ok (.baload, 1) := by decide +kernel
theorem dX4_ahead_19 : decode cX4_ahead 19 = .ok (.ifCond .ne 38, 3) := by decide +kernel
theorem dX4_ahead_22 : decode cX4_ahead 22 = .ok (.aload_n 0, 1) := by decide +kernel
theorem dX4_ahead_23 : decode cX4_ahead 23 = .ok (.iload_n 3, 1) := by decide +kernel
theorem dX4_ahead_24 : decode cX4_ahead 24 = .ok (.invokevirtual 82, 3) := by decide +kernel
theorem dX4_ahead_27 : decode cX4_ahead 27 = .ok (.aload_n 0, 1) := by decide +kernel
theorem dX4_ahead_28 : decode cX4_ahead 28 = .ok (.iload_n 1, 1) := by decide +kernel
theorem dX4_ahead_29 : decode cX4_ahead 29 = .ok (.invokevirtual 82, 3) := by decide +kernel
theorem dX4_ahead_32 : decode cX4_ahead 32 = .ok (.if_icmp .lt 21, 3) := by decide +kernel
theorem dX4_ahead_35 : decode cX4_ahead 35 = .ok (.aload_n 0, 1) := by decide +kernel
theorem dX4_ahead_36 : decode cX4_ahead 36 = .ok (.iload_n 3, 1) := by decide +kernel
theorem dX4_ahead_37 : decode cX4_ahead 37 = .ok (.invokevirtual 82, 3) := by decide +kernel
theorem dX4_ahead_40 : decode cX4_ahead 40 = .ok (.aload_n 0, 1) := by decide +kernel
theorem dX4_ahead_41 : decode cX4_ahead 41 = .ok (.iload_n 1, 1) := by decide +kernel
theorem dX4_ahead_42 : decode cX4_ahead 42 = .ok (.invokevirtual 82, 3) := by decide +kernel
theorem dX4_ahead_45 : decode cX4_ahead 45 = .ok (.if_icmp .ne 12, 3) := by decide +kernel
theorem dX4_ahead_48 : decode cX4_ahead 48 = .ok (.iload_n 3, 1) := by decide +kernel
theorem dX4_ahead_49 : decode cX4_ahead 49 = .ok (.iload_n 1, 1) := by decide +kernel
theorem dX4_ahead_50 : decode cX4_ahead 50 = .ok (.if_icmp .ge 7, 3) := by decide +kernel
theorem dX4_ahead_53 : decode cX4_ahead 53 = .ok (.iconst 1, 1) := by decide +kernel
theorem dX4_ahead_54 : decode cX4_ahead 54 = .ok (.goto 4, 3) := by decide +kernel
theorem dX4_ahead_57 : decode cX4_ahead 57 = .ok (.iconst 0, 1) := by decide +kernel
theorem dX4_ahead_58 : decode cX4_ahead 58 = .ok (.iadd, 1) := by decide +kernel
theorem dX4_ahead_59 : decode cX4_ahead 59 = .ok (.istore_n 2, 1) := by decide +kernel
theorem dX4_ahead_60 : decode cX4_ahead 60 = .ok (.iinc 3 1, 3) := by decide +kernel
theorem dX4_ahead_63 : decode cX4_ahead 63 = .ok (.goto (-59), 3) := by decide +kernel
theorem dX4_ahead_66 : decode cX4_ahead 66 = .ok (.iload_n 2, 1) := by decide +kernel
theorem dX4_ahead_67 : decode cX4_ahead 67 = .ok (.ireturn, 1) := by decide +kernel
theorem dX4_put_0 : decode cX4_put 0 = .ok (.aload_n 0, 1) := by decide +kernel
theorem dX4_put_1 : decode cX4_put 1 = .ok (.iconst 0, 1) := by decide +kernel
theorem dX4_put_2 : decode cX4_put 2 = .ok (.putfield 55, 3) := by decide +kernel
theorem dX4_put_5 : decode cX4_put 5 = .ok (.iload_n 1, 1) := by decide +kernel
theorem dX4_put_6 : decode cX4_put 6 = .ok (.iconst 0, 1) := by decide +kernel
theorem dX4_put_7 : decode cX4_put 7 = .ok (.bipush 9, 2) := by decide +kernel
theorem dX4_put_9 : decode cX4_put 9 = .ok (.invokestatic 61, 3) := by decide +kernel
theorem dX4_put_12 : decode cX4_put 12 = .ok (.ifCond .eq 10, 3) := by decide +kernel
theorem dX4_put_15 : decode cX4_put 15 = .ok (.aload_n 0, 1) := by decide +kernel
theorem dX4_put_16 : decode cX4_put 16 = .ok (.getfield 79, 3) := by decide +kernel
theorem dX4_put_19 : decode cX4_put 19 = .ok (.ifCond .ne 6, 3) := by decide +kernel
theorem dX4_put_22 : decode cX4_put 22 = .ok (.bipush (-2), 2) := by decide +kernel
theorem dX4_put_24 : decode cX4_put 24 = .ok (.ireturn, 1) := by decide +kernel
theorem dX4_put_25 : decode cX4_put 25 = .ok (.iconst 0, 1) := by decide +kernel
theorem dX4_put_26 : decode cX4_put 26 = .ok (.istore_n 2, 1) := by decide +kernel
theorem dX4_put_27 : decode cX4_put 27 = .ok (.iconst 0, 1) := by decide +kernel
theorem dX4_put_28 : decode cX4_put 28 = .ok (.istore_n 3, 1) := by decide +kernel
theorem dX4_put_29 : decode cX4_put 29 = .ok (.iload_n 3, 1) := by decide +kernel
theorem dX4_put_30 : decode cX4_put 30 = .ok (.aload_n 0, 1) := by decide +kernel
theorem dX4_put_31 : decode cX4_put 31 = .ok (.getfield 58, 3) := by decide +kernel
theorem dX4_put_34 : decode cX4_put 34 = .ok (.if_icmp .ge 26, 3) := by decide +kernel
theorem dX4_put_37 : decode cX4_put 37 = .ok (.iload_n 2, 1) := by decide +kernel
theorem dX4_put_38 : decode cX4_put 38 = .ok (.aload_n 0, 1) := by decide +kernel
theorem dX4_put_39 : decode cX4_put 39 = .ok (.getfield 13, 3) := by decide +kernel
theorem dX4_put_42 : decode cX4_put 42 = .ok (.iload_n 3, 1) := by decide +kernel
theorem dX4_put_43 : decode cX4_put 43 = .ok (.baload, 1) := by decide +kernel
theorem dX4_put_44 : decode cX4_put 44 = .ok (.ifCond .eq 7, 3) := by decide +kernel
theorem dX4_put_47 : decode cX4_put 47 = .ok (.iconst 0, 1) := by decide +kernel
theorem dX4_put_48 : decode cX4_put 48 = .ok (.goto 4, 3) := by decide +kernel
theorem dX4_put_51 : decode cX4_put 51 = .ok (.iconst 1, 1) := by decide +kernel
theorem dX4_put_52 : decode cX4_put 52 = .ok (.iadd, 1) := by decide +kernel
theorem dX4_put_53 : decode cX4_put 53 = .ok (.istore_n 2, 1) := by decide +kernel
theorem dX4_put_54 : decode cX4_put 54 = .ok (.iinc 3 1, 3) := by decide +kernel
theorem dX4_put_57 : decode cX4_put 57 = .ok (.goto (-28), 3) := by decide +kernel
theorem dX4_put_60 : decode cX4_put 60 = .ok (.iload_n 2, 1) := by decide +kernel
theorem dX4_put_61 : decode cX4_put 61 = .ok (.aload_n 0, 1) := by decide +kernel
theorem dX4_put_62 : decode cX4_put 62 = .ok (.getfield 51, 3) := by decide +kernel
theorem dX4_put_65 : decode cX4_put 65 = .ok (.if_icmp .ge 6, 3) := by decide +kernel
theorem dX4_put_68 : decode cX4_put 68 = .ok (.bipush (-3), 2) := by decide +kernel
theorem dX4_put_70 : decode cX4_put 70 = .ok (.ireturn, 1) := by decide +kernel
theorem dX4_put_71 : decode cX4_put 71 = .ok (.aload_n 0, 1) := by decide +kernel
theorem dX4_put_72 : decode cX4_put 72 = .ok (.getfield 65, 3) := by decide +kernel
theorem dX4_put_75 : decode cX4_put 75 = .ok (.bipush 40, 2) := by decide +kernel
theorem dX4_put_77 : decode cX4_put 77 = .ok (.if_icmp .ne 6, 3) := by decide +kernel
theorem dX4_put_80 : decode cX4_put 80 = .ok (.bipush (-4), 2) := by decide +kernel
theorem dX4_put_82 : decode cX4_put 82 = .ok (.ireturn, 1) := by decide +kernel
theorem dX4_put_83 : decode cX4_put 83 = .ok (.iconst 0, 1) := by decide +kernel
theorem dX4_put_84 : decode cX4_put 84 = .ok (.istore_n 3, 1) := by decide +kernel
theorem dX4_put_85 : decode cX4_put 85 = .ok (.iload_n 3, 1) := by decide +kernel
theorem dX4_put_86 : decode cX4_put 86 = .ok (.aload_n 0, 1) := by decide +kernel
theorem dX4_put_87 : decode cX4_put 87 = .ok (.getfield 58, 3) := by decide +kernel
theorem dX4_put_90 : decode cX4_put 90 = .ok (.if_icmp .ge 34, 3) := by decide +kernel
theorem dX4_put_93 : decode cX4_put 93 = .ok (.aload_n 0, 1) := by decide +kernel
theorem dX4_put_94 : decode cX4_put 94 = .ok (.getfield 48, 3) := by decide +kernel
theorem dX4_put_97 : decode cX4_put 97 = .ok (.iload_n 3, 1) := by decide +kernel
theorem dX4_put_98 : decode cX4_put 98 = .ok (.aload_n 0, 1) := by decide +kernel
theorem dX4_put_99 : decode cX4_put 99 = .ok (.getfield 13, 3) := by decide +kernel
theorem dX4_put_102 : decode cX4_put 102 = .ok (.iload_n 3, 1) := by decide +kernel
theorem dX4_put_103 : decode cX4_put 103 = .ok (.baload, 1) := by decide +kernel
theorem dX4_put_104 : decode cX4_put 104 = .ok (.ifCond .eq 8, 3) := by decide +kernel
theorem dX4_put_107 : decode cX4_put 107 = .ok (.bipush 100, 2) := by decide +kernel
theorem dX4_put_109 : decode cX4_put 109 = .ok (.goto 8, 3) := by decide +kernel
theorem dX4_put_112 : decode cX4_put 112 = .ok (.aload_n 0, 1) := by decide +kernel
theorem dX4_put_113 : decode cX4_put 113 = .ok (.iload_n 3, 1) := by decide +kernel
theorem dX4_put_114 : decode cX4_put 114 = .ok (.invokevirtual 86, 3) := by decide +kernel
theorem dX4_put_117 : decode cX4_put 117 = .ok (.iastore, 1) := by decide +kernel
theorem dX4_put_118 : decode cX4_put 118 = .ok (.iinc 3 1, 3) := by decide +kernel
theorem dX4_put_121 : decode cX4_put 121 = .ok (.goto (-36), 3) := by decide +kernel
theorem dX4_put_124 : decode cX4_put 124 = .ok (.aload_n 0, 1) := by decide +kernel
theorem dX4_put_125 : decode cX4_put 125 = .ok (.getfield 65, 3) := by decide +kernel
theorem dX4_put_128 : decode cX4_put 128 = .ok (.istore_n 3, 1) := by decide +kernel
theorem dX4_put_129 : decode cX4_put 129 = .ok (.aload_n 0, 1) := by decide +kernel
theorem dX4_put_130 : decode cX4_put 130 = .ok (.dup, 1) := by decide +kernel
theorem dX4_put_131 : decode cX4_put 131 = .ok (.getfield 65, 3) := by decide +kernel
theorem dX4_put_134 : decode cX4_put 134 = .ok (.iconst 1, 1) := by decide +kernel
theorem dX4_put_135 : decode cX4_put 135 = .ok (.iadd, 1) := by decide +kernel
theorem dX4_put_136 : decode cX4_put 136 = .ok (.putfield 65, 3) := by decide +kernel
theorem dX4_put_139 : decode cX4_put 139 = .ok (.aload_n 0, 1) := by decide +kernel
theorem dX4_put_140 : decode cX4_put 140 = .ok (.getfield 27, 3) := by decide +kernel
theorem dX4_put_143 : decode cX4_put 143 = .ok (.iload_n 3, 1) := by decide +kernel
theorem dX4_put_144 : decode cX4_put 144 = .ok (.iload_n 1, 1) := by decide +kernel
theorem dX4_put_145 : decode cX4_put 145 = .ok (.iastore, 1) := by decide +kernel
theorem dX4_put_146 : decode cX4_put 146 = .ok (.iconst 0, 1) := by decide +kernel
theorem dX4_put_147 : decode cX4_put 147 = .ok (.istore 4, 2) := by decide +kernel
theorem dX4_put_149 : decode cX4_put 149 = .ok (.iload 4, 2) := by decide +kernel
theorem dX4_put_151 : decode cX4_put 151 = .ok (.aload_n 0, 1) := by decide +kernel
theorem dX4_put_152 : decode cX4_put 152 = .ok (.getfield 58, 3) := by decide +kernel
theorem dX4_put_155 : decode cX4_put 155 = .ok (.if_icmp .ge 85, 3) := by decide +kernel
theorem dX4_put_158 : decode cX4_put 158 = .ok (.aload_n 0, 1) := by decide +kernel
theorem dX4_put_159 : decode cX4_put 159 = .ok (.getfield 48, 3) := by decide +kernel
theorem dX4_put_162 : decode cX4_put 162 = .ok (.iload 4, 2) := by decide +kernel
theorem dX4_put_164 : decode cX4_put 164 = .ok (.iaload, 1) := by decide +kernel
theorem dX4_put_165 : decode cX4_put 165 = .ok (.aload_n 0, 1) := by decide +kernel
theorem dX4_put_166 : decode cX4_put 166 = .ok (.getfield 51, 3) := by decide +kernel
theorem dX4_put_169 : decode cX4_put 169 = .ok (.if_icmp .lt 6, 3) := by decide +kernel
theorem dX4_put_172 : decode cX4_put 172 = .ok (.goto 62, 3) := by decide +kernel
theorem dX4_put_175 : decode cX4_put 175 = .ok (.aload_n 0, 1) := by decide +kernel
theorem dX4_put_176 : decode cX4_put 176 = .ok (.getfield 33, 3) := by decide +kernel
theorem dX4_put_179 : decode cX4_put 179 = .ok (.bipush 40, 2) := by decide +kernel
theorem dX4_put_181 : decode cX4_put 181 = .ok (.iload 4, 2) := by decide +kernel
theorem dX4_put_183 : decode cX4_put 183 = .ok (.imul, 1) := by decide +kernel
theorem dX4_put_184 : decode cX4_put 184 = .ok (.iload_n 3, 1) := by decide +kernel
theorem dX4_put_185 : decode cX4_put 185 = .ok (.iadd, 1) := by decide +kernel
theorem dX4_put_186 : decode cX4_put 186 = .ok (.aload_n 0, 1) := by decide +kernel
theorem dX4_put_187 : decode cX4_put 187 = .ok (.getfield 79, 3) := by decide +kernel
theorem dX4_put_190 : decode cX4_put 190 = .ok (.iastore, 1) := by decide +kernel
theorem dX4_put_191 : decode cX4_put 191 = .ok (.iconst 0, 1) := by decide +kernel
theorem dX4_put_192 : decode cX4_put 192 = .ok (.istore 5, 2) := by decide +kernel
theorem dX4_put_194 : decode cX4_put 194 = .ok (.iload 5, 2) := by decide +kernel
theorem dX4_put_196 : decode cX4_put 196 = .ok (.aload_n 0, 1) := by decide +kernel
theorem dX4_put_197 : decode cX4_put 197 = .ok (.getfield 79, 3) := by decide +kernel
theorem dX4_put_200 : decode cX4_put 200 = .ok (.if_icmp .ge 34, 3) := by decide +kernel
theorem dX4_put_203 : decode cX4_put 203 = .ok (.aload_n 0, 1) := by decide +kernel
theorem dX4_put_204 : decode cX4_put 204 = .ok (.getfield 36, 3) := by decide +kernel
theorem dX4_put_207 : decode cX4_put 207 = .ok (.bipush 16, 2) := by decide +kernel
theorem dX4_put_209 : decode cX4_put 209 = .ok (.bipush 40, 2) := by decide +kernel
theorem dX4_put_211 : decode cX4_put 211 = .ok (.iload 4, 2) := by decide +kernel
theorem dX4_put_213 : decode cX4_put 213 = .ok (.imul, 1) := by decide +kernel
theorem dX4_put_214 : decode cX4_put 214 = .ok (.iload_n 3, 1) := by decide +kernel
theorem dX4_put_215 : decode cX4_put 215 = .ok (.iadd, 1) := by decide +kernel
theorem dX4_put_216 : decode cX4_put 216 = .ok (.imul, 1) := by decide +kernel
theorem dX4_put_217 : decode cX4_put 217 = .ok (.iload 5, 2) := by decide +kernel
theorem dX4_put_219 : decode cX4_put 219 = .ok (.iadd, 1) := by decide +kernel
theorem dX4_put_220 : decode cX4_put 220 = .ok (.aload_n 0, 1) := by decide +kernel
theorem dX4_put_221 : decode cX4_put 221 = .ok (.getfield 23, 3) := by decide +kernel
theorem dX4_put_224 : decode cX4_put 224 = .ok (.iload 5, 2) := by decide +kernel
theorem dX4_put_226 : decode cX4_put 226 = .ok (.baload, 1) := by decide +kernel
theorem dX4_put_227 : decode cX4_put 227 = .ok (.bastore, 1) := by decide +kernel
theorem dX4_put_228 : decode cX4_put 228 = .ok (.iinc 5 1, 3) := by decide +kernel
theorem dX4_put_231 : decode cX4_put 231 = .ok (.goto (-37), 3) := by decide +kernel
theorem dX4_put_234 : decode cX4_put 234 = .ok (.iinc 4 1, 3) := by decide +kernel
theorem dX4_put_237 : decode cX4_put 237 = .ok (.goto (-88), 3) := by decide +kernel
theorem dX4_put_240 : decode cX4_put 240 = .ok (.aload_n 0, 1) := by decide +kernel
theorem dX4_put_241 : decode cX4_put 241 = .ok (.iconst 0, 1) := by decide +kernel
theorem dX4_put_242 : decode cX4_put 242 = .ok (.putfield 79, 3) := by decide +kernel
theorem dX4_put_245 : decode cX4_put 245 = .ok (.iload_n 3, 1) := by decide +kernel
theorem dX4_put_246 : decode cX4_put 246 = .ok (.ireturn, 1) := by decide +kernel
theorem dX4_answers_0 : decode cX4_answers 0 = .ok (.aload_n 0, 1) := by decide +kernel
theorem dX4_answers_1 : decode cX4_answers 1 = .ok (.iconst 0, 1) := by decide +kernel
theorem dX4_answers_2 : decode cX4_answers 2 = .ok (.putfield 55, 3) := by decide +kernel
theorem dX4_answers_5 : decode cX4_answers 5 = .ok (.aload_n 0, 1) := by decide +kernel
theorem dX4_answers_6 : decode cX4_answers 6 = .ok (.iload_n 1, 1) := by decide +kernel
theorem dX4_answers_7 : decode cX4_answers 7 = .ok (.invokevirtual 68, 3) := by decide +kernel
theorem dX4_answers_10 : decode cX4_answers 10 = .ok (.ifCond .ne 5, 3) := by decide +kernel
theorem dX4_answers_13 : decode cX4_answers 13 = .ok (.iconst (-1), 1) := by decide +kernel
theorem dX4_answers_14 : decode cX4_answers 14 = .ok (.ireturn, 1) := by decide +kernel
theorem dX4_answers_15 : decode cX4_answers 15 = .ok (.aload_n 0, 1) := by decide +kernel
theorem dX4_answers_16 : decode cX4_answers 16 = .ok (.getfield 13, 3) := by decide +kernel
theorem dX4_answers_19 : decode cX4_answers 19 = .ok (.iload_n 1, 1) := by decide +kernel
theorem dX4_answers_20 : decode cX4_answers 20 = .ok (.iload_n 2, 1) := by decide +kernel
theorem dX4_answers_21 : decode cX4_answers 21 = .ok (.ifCond .ne 7, 3) := by decide +kernel
theorem dX4_answers_24 : decode cX4_answers 24 = .ok (.iconst 1, 1) := by decide +kernel
theorem dX4_answers_25 : decode cX4_answers 25 = .ok (.goto 4, 3) := by decide +kernel
theorem dX4_answers_28 : decode cX4_answers 28 = .ok (.iconst 0, 1) := by decide +kernel
theorem dX4_answers_29 : decode cX4_answers 29 = .ok (.bastore, 1) := by decide +kernel
theorem dX4_answers_30 : decode cX4_answers 30 = .ok (.iconst 1, 1) := by decide +kernel
theorem dX4_answers_31 : decode cX4_answers 31 = .ok (.ireturn, 1) := by decide +kernel
theorem dX4_alter_0 : decode cX4_alter 0 = .ok (.aload_n 0, 1) := by decide +kernel
theorem dX4_alter_1 : decode cX4_alter 1 = .ok (.iconst 0, 1) := by decide +kernel
theorem dX4_alter_2 : decode cX4_alter 2 = .ok (.putfield 55, 3) := by decide +kernel
theorem dX4_alter_5 : decode cX4_alter 5 = .ok (.aload_n 0, 1) := by decide +kernel
theorem dX4_alter_6 : decode cX4_alter 6 = .ok (.iload_n 1, 1) := by decide +kernel
theorem dX4_alter_7 : decode cX4_alter 7 = .ok (.iload_n 2, 1) := by decide +kernel
theorem dX4_alter_8 : decode cX4_alter 8 = .ok (.invokevirtual 75, 3) := by decide +kernel
theorem dX4_alter_11 : decode cX4_alter 11 = .ok (.ifCond .eq 24, 3) := by decide +kernel
theorem dX4_alter_14 : decode cX4_alter 14 = .ok (.iload_n 3, 1) := by decide +kernel
theorem dX4_alter_15 : decode cX4_alter 15 = .ok (.iconst 0, 1) := by decide +kernel
theorem dX4_alter_16 : decode cX4_alter 16 = .ok (.aload_n 0, 1) := by decide +kernel
theorem dX4_alter_17 : decode cX4_alter 17 = .ok (.getfield 33, 3) := by decide +kernel
theorem dX4_alter_20 : decode cX4_alter 20 = .ok (.bipush 40, 2) := by decide +kernel
theorem dX4_alter_22 : decode cX4_alter 22 = .ok (.iload_n 1, 1) := by decide +kernel
theorem dX4_alter_23 : decode cX4_alter 23 = .ok (.imul, 1) := by decide +kernel
theorem dX4_alter_24 : decode cX4_alter 24 = .ok (.iload_n 2, 1) := by decide +kernel
theorem dX4_alter_25 : decode cX4_alter 25 = .ok (.iadd, 1) := by decide +kernel
theorem dX4_alter_26 : decode cX4_alter 26 = .ok (.iaload, 1) := by decide +kernel
theorem dX4_alter_27 : decode cX4_alter 27 = .ok (.iconst 1, 1) := by decide +kernel
theorem dX4_alter_28 : decode cX4_alter 28 = .ok (.isub, 1) := by decide +kernel
theorem dX4_alter_29 : decode cX4_alter 29 = .ok (.invokestatic 61, 3) := by decide +kernel
theorem dX4_alter_32 : decode cX4_alter 32 = .ok (.ifCond .ne 5, 3) := by decide +kernel
theorem dX4_alter_35 : decode cX4_alter 35 = .ok (.iconst (-1), 1) := by decide +kernel
theorem dX4_alter_36 : decode cX4_alter 36 = .ok (.ireturn, 1) := by decide +kernel
theorem dX4_alter_37 : decode cX4_alter 37 = .ok (.bipush 16, 2) := by decide +kernel
theorem dX4_alter_39 : decode cX4_alter 39 = .ok (.bipush 40, 2) := by decide +kernel
theorem dX4_alter_41 : decode cX4_alter 41 = .ok (.iload_n 1, 1) := by decide +kernel
theorem dX4_alter_42 : decode cX4_alter 42 = .ok (.imul, 1) := by decide +kernel
theorem dX4_alter_43 : decode cX4_alter 43 = .ok (.iload_n 2, 1) := by decide +kernel
theorem dX4_alter_44 : decode cX4_alter 44 = .ok (.iadd, 1) := by decide +kernel
theorem dX4_alter_45 : decode cX4_alter 45 = .ok (.imul, 1) := by decide +kernel
theorem dX4_alter_46 : decode cX4_alter 46 = .ok (.iload_n 3, 1) := by decide +kernel
theorem dX4_alter_47 : decode cX4_alter 47 = .ok (.iadd, 1) := by decide +kernel
theorem dX4_alter_48 : decode cX4_alter 48 = .ok (.istore 5, 2) := by decide +kernel
theorem dX4_alter_50 : decode cX4_alter 50 = .ok (.aload_n 0, 1) := by decide +kernel
theorem dX4_alter_51 : decode cX4_alter 51 = .ok (.getfield 36, 3) := by decide +kernel
theorem dX4_alter_54 : decode cX4_alter 54 = .ok (.iload 5, 2) := by decide +kernel
theorem dX4_alter_56 : decode cX4_alter 56 = .ok (.baload, 1) := by decide +kernel
theorem dX4_alter_57 : decode cX4_alter 57 = .ok (.sipush 255, 3) := by decide +kernel
theorem dX4_alter_60 : decode cX4_alter 60 = .ok (.iand, 1) := by decide +kernel
theorem dX4_alter_61 : decode cX4_alter 61 = .ok (.istore 6, 2) := by decide +kernel
theorem dX4_alter_63 : decode cX4_alter 63 = .ok (.aload_n 0, 1) := by decide +kernel
theorem dX4_alter_64 : decode cX4_alter 64 = .ok (.getfield 36, 3) := by decide +kernel
theorem dX4_alter_67 : decode cX4_alter 67 = .ok (.iload 5, 2) := by decide +kernel
theorem dX4_alter_69 : decode cX4_alter 69 = .ok (.iload 4, 2) := by decide +kernel
theorem dX4_alter_71 : decode cX4_alter 71 = .ok (.i2b, 1) := by decide +kernel
theorem dX4_alter_72 : decode cX4_alter 72 = .ok (.bastore, 1) := by decide +kernel
theorem dX4_alter_73 : decode cX4_alter 73 = .ok (.iload 6, 2) := by decide +kernel
theorem dX4_alter_75 : decode cX4_alter 75 = .ok (.ireturn, 1) := by decide +kernel
theorem dX4_cut_0 : decode cX4_cut 0 = .ok (.aload_n 0, 1) := by decide +kernel
theorem dX4_cut_1 : decode cX4_cut 1 = .ok (.iconst 0, 1) := by decide +kernel
theorem dX4_cut_2 : decode cX4_cut 2 = .ok (.putfield 55, 3) := by decide +kernel
theorem dX4_cut_5 : decode cX4_cut 5 = .ok (.aload_n 0, 1) := by decide +kernel
theorem dX4_cut_6 : decode cX4_cut 6 = .ok (.iload_n 1, 1) := by decide +kernel
theorem dX4_cut_7 : decode cX4_cut 7 = .ok (.iload_n 2, 1) := by decide +kernel
theorem dX4_cut_8 : decode cX4_cut 8 = .ok (.invokevirtual 75, 3) := by decide +kernel
theorem dX4_cut_11 : decode cX4_cut 11 = .ok (.ifCond .ne 5, 3) := by decide +kernel
theorem dX4_cut_14 : decode cX4_cut 14 = .ok (.iconst (-1), 1) := by decide +kernel
theorem dX4_cut_15 : decode cX4_cut 15 = .ok (.ireturn, 1) := by decide +kernel
theorem dX4_cut_16 : decode cX4_cut 16 = .ok (.aload_n 0, 1) := by decide +kernel
theorem dX4_cut_17 : decode cX4_cut 17 = .ok (.getfield 33, 3) := by decide +kernel
theorem dX4_cut_20 : decode cX4_cut 20 = .ok (.bipush 40, 2) := by decide +kernel
theorem dX4_cut_22 : decode cX4_cut 22 = .ok (.iload_n 1, 1) := by decide +kernel
theorem dX4_cut_23 : decode cX4_cut 23 = .ok (.imul, 1) := by decide +kernel
theorem dX4_cut_24 : decode cX4_cut 24 = .ok (.iload_n 2, 1) := by decide +kernel
theorem dX4_cut_25 : decode cX4_cut 25 = .ok (.iadd, 1) := by decide +kernel
theorem dX4_cut_26 : decode cX4_cut 26 = .ok (.iaload, 1) := by decide +kernel
theorem dX4_cut_27 : decode cX4_cut 27 = .ok (.istore 4, 2) := by decide +kernel
theorem dX4_cut_29 : decode cX4_cut 29 = .ok (.iload_n 3, 1) := by decide +kernel
theorem dX4_cut_30 : decode cX4_cut 30 = .ok (.iconst 0, 1) := by decide +kernel
theorem dX4_cut_31 : decode cX4_cut 31 = .ok (.iload 4, 2) := by decide +kernel
theorem dX4_cut_33 : decode cX4_cut 33 = .ok (.invokestatic 61, 3) := by decide +kernel
theorem dX4_cut_36 : decode cX4_cut 36 = .ok (.ifCond .ne 6, 3) := by decide +kernel
theorem dX4_cut_39 : decode cX4_cut 39 = .ok (.bipush (-2), 2) := by decide +kernel
theorem dX4_cut_41 : decode cX4_cut 41 = .ok (.ireturn, 1) := by decide +kernel
theorem dX4_cut_42 : decode cX4_cut 42 = .ok (.aload_n 0, 1) := by decide +kernel
theorem dX4_cut_43 : decode cX4_cut 43 = .ok (.getfield 33, 3) := by decide +kernel
theorem dX4_cut_46 : decode cX4_cut 46 = .ok (.bipush 40, 2) := by decide +kernel
theorem dX4_cut_48 : decode cX4_cut 48 = .ok (.iload_n 1, 1) := by decide +kernel
theorem dX4_cut_49 : decode cX4_cut 49 = .ok (.imul, 1) := by decide +kernel
theorem dX4_cut_50 : decode cX4_cut 50 = .ok (.iload_n 2, 1) := by decide +kernel
theorem dX4_cut_51 : decode cX4_cut 51 = .ok (.iadd, 1) := by decide +kernel
theorem dX4_cut_52 : decode cX4_cut 52 = .ok (.iload_n 3, 1) := by decide +kernel
theorem dX4_cut_53 : decode cX4_cut 53 = .ok (.iastore, 1) := by decide +kernel
theorem dX4_cut_54 : decode cX4_cut 54 = .ok (.iload 4, 2) := by decide +kernel
theorem dX4_cut_56 : decode cX4_cut 56 = .ok (.iload_n 3, 1) := by decide +kernel
theorem dX4_cut_57 : decode cX4_cut 57 = .ok (.isub, 1) := by decide +kernel
theorem dX4_cut_58 : decode cX4_cut 58 = .ok (.ireturn, 1) := by decide +kernel
theorem dX4_lose_0 : decode cX4_lose 0 = .ok (.aload_n 0, 1) := by decide +kernel
theorem dX4_lose_1 : decode cX4_lose 1 = .ok (.iconst 0, 1) := by decide +kernel
theorem dX4_lose_2 : decode cX4_lose 2 = .ok (.putfield 55, 3) := by decide +kernel
theorem dX4_lose_5 : decode cX4_lose 5 = .ok (.aload_n 0, 1) := by decide +kernel
theorem dX4_lose_6 : decode cX4_lose 6 = .ok (.iload_n 1, 1) := by decide +kernel
theorem dX4_lose_7 : decode cX4_lose 7 = .ok (.iload_n 2, 1) := by decide +kernel
theorem dX4_lose_8 : decode cX4_lose 8 = .ok (.invokevirtual 75, 3) := by decide +kernel
theorem dX4_lose_11 : decode cX4_lose 11 = .ok (.ifCond .ne 5, 3) := by decide +kernel
theorem dX4_lose_14 : decode cX4_lose 14 = .ok (.iconst (-1), 1) := by decide +kernel
theorem dX4_lose_15 : decode cX4_lose 15 = .ok (.ireturn, 1) := by decide +kernel
theorem dX4_lose_16 : decode cX4_lose 16 = .ok (.aload_n 0, 1) := by decide +kernel
theorem dX4_lose_17 : decode cX4_lose 17 = .ok (.getfield 33, 3) := by decide +kernel
theorem dX4_lose_20 : decode cX4_lose 20 = .ok (.bipush 40, 2) := by decide +kernel
theorem dX4_lose_22 : decode cX4_lose 22 = .ok (.iload_n 1, 1) := by decide +kernel
theorem dX4_lose_23 : decode cX4_lose 23 = .ok (.imul, 1) := by decide +kernel
theorem dX4_lose_24 : decode cX4_lose 24 = .ok (.iload_n 2, 1) := by decide +kernel
theorem dX4_lose_25 : decode cX4_lose 25 = .ok (.iadd, 1) := by decide +kernel
theorem dX4_lose_26 : decode cX4_lose 26 = .ok (.iconst (-1), 1) := by decide +kernel
theorem dX4_lose_27 : decode cX4_lose 27 = .ok (.iastore, 1) := by decide +kernel
theorem dX4_lose_28 : decode cX4_lose 28 = .ok (.iconst 1, 1) := by decide +kernel
theorem dX4_lose_29 : decode cX4_lose 29 = .ok (.ireturn, 1) := by decide +kernel
theorem dX4_digestOf_0 : decode cX4_digestOf 0 = .ok (.aload_n 0, 1) := by decide +kernel
theorem dX4_digestOf_1 : decode cX4_digestOf 1 = .ok (.getfield 33, 3) := by decide +kernel
theorem dX4_digestOf_4 : decode cX4_digestOf 4 = .ok (.bipush 40, 2) := by decide +kernel
theorem dX4_digestOf_6 : decode cX4_digestOf 6 = .ok (.iload_n 1, 1) := by decide +kernel
theorem dX4_digestOf_7 : decode cX4_digestOf 7 = .ok (.imul, 1) := by decide +kernel
theorem dX4_digestOf_8 : decode cX4_digestOf 8 = .ok (.iload_n 2, 1) := by decide +kernel
theorem dX4_digestOf_9 : decode cX4_digestOf 9 = .ok (.iadd, 1) := by decide +kernel
theorem dX4_digestOf_10 : decode cX4_digestOf 10 = .ok (.iaload, 1) := by decide +kernel
theorem dX4_digestOf_11 : decode cX4_digestOf 11 = .ok (.istore_n 3, 1) := by decide +kernel
theorem dX4_digestOf_12 : decode cX4_digestOf 12 = .ok (.bipush 7, 2) := by decide +kernel
theorem dX4_digestOf_14 : decode cX4_digestOf 14 = .ok (.istore 4, 2) := by decide +kernel
theorem dX4_digestOf_16 : decode cX4_digestOf 16 = .ok (.iconst 0, 1) := by decide +kernel
theorem dX4_digestOf_17 : decode cX4_digestOf 17 = .ok (.istore 5, 2) := by decide +kernel
theorem dX4_digestOf_19 : decode cX4_digestOf 19 = .ok (.iload 5, 2) := by decide +kernel
theorem dX4_digestOf_21 : decode cX4_digestOf 21 = .ok (.iload_n 3, 1) := by decide +kernel
theorem dX4_digestOf_22 : decode cX4_digestOf 22 = .ok (.if_icmp .ge 38, 3) := by decide +kernel
theorem dX4_digestOf_25 : decode cX4_digestOf 25 = .ok (.bipush 31, 2) := by decide +kernel
theorem dX4_digestOf_27 : decode cX4_digestOf 27 = .ok (.iload 4, 2) := by decide +kernel
theorem dX4_digestOf_29 : decode cX4_digestOf 29 = .ok (.imul, 1) := by decide +kernel
theorem dX4_digestOf_30 : decode cX4_digestOf 30 = .ok (.aload_n 0, 1) := by decide +kernel
theorem dX4_digestOf_31 : decode cX4_digestOf 31 = .ok (.getfield 36, 3) := by decide +kernel
theorem dX4_digestOf_34 : decode cX4_digestOf 34 = .ok (.bipush 16, 2) := by decide +kernel
theorem dX4_digestOf_36 : decode cX4_digestOf 36 = .ok (.bipush 40, 2) := by decide +kernel
theorem dX4_digestOf_38 : decode cX4_digestOf 38 = .ok (.iload_n 1, 1) := by decide +kernel
theorem dX4_digestOf_39 : decode cX4_digestOf 39 = .ok (.imul, 1) := by decide +kernel
theorem dX4_digestOf_40 : decode cX4_digestOf 40 = .ok (.iload_n 2, 1) := by decide +kernel
theorem dX4_digestOf_41 : decode cX4_digestOf 41 = .ok (.iadd, 1) := by decide +kernel
theorem dX4_digestOf_42 : decode cX4_digestOf 42 = .ok (.imul, 1) := by decide +kernel
theorem dX4_digestOf_43 : decode cX4_digestOf 43 = .ok (.iload 5, 2) := by decide +kernel
theorem dX4_digestOf_45 : decode cX4_digestOf 45 = .ok (.iadd, 1) := by decide +kernel
theorem dX4_digestOf_46 : decode cX4_digestOf 46 = .ok (.baload, 1) := by decide +kernel
theorem dX4_digestOf_47 : decode cX4_digestOf 47 = .ok (.sipush 255, 3) := by decide +kernel
theorem dX4_digestOf_50 : decode cX4_digestOf 50 = .ok (.iand, 1) := by decide +kernel
theorem dX4_digestOf_51 : decode cX4_digestOf 51 = .ok (.iadd, 1) := by decide +kernel
theorem dX4_digestOf_52 : decode cX4_digestOf 52 = .ok (.istore 4, 2) := by decide +kernel
theorem dX4_digestOf_54 : decode cX4_digestOf 54 = .ok (.iinc 5 1, 3) := by decide +kernel
theorem dX4_digestOf_57 : decode cX4_digestOf 57 = .ok (.goto (-38), 3) := by decide +kernel
theorem dX4_digestOf_60 : decode cX4_digestOf 60 = .ok (.iload 4, 2) := by decide +kernel
theorem dX4_digestOf_62 : decode cX4_digestOf 62 = .ok (.iload_n 3, 1) := by decide +kernel
theorem dX4_digestOf_63 : decode cX4_digestOf 63 = .ok (.ixor, 1) := by decide +kernel
theorem dX4_digestOf_64 : decode cX4_digestOf 64 = .ok (.ireturn, 1) := by decide +kernel
theorem dX4_leader_0 : decode cX4_leader 0 = .ok (.iconst 0, 1) := by decide +kernel
theorem dX4_leader_1 : decode cX4_leader 1 = .ok (.istore_n 2, 1) := by decide +kernel
theorem dX4_leader_2 : decode cX4_leader 2 = .ok (.iconst 0, 1) := by decide +kernel
theorem dX4_leader_3 : decode cX4_leader 3 = .ok (.istore_n 3, 1) := by decide +kernel
theorem dX4_leader_4 : decode cX4_leader 4 = .ok (.iload_n 3, 1) := by decide +kernel
theorem dX4_leader_5 : decode cX4_leader 5 = .ok (.aload_n 0, 1) := by decide +kernel
theorem dX4_leader_6 : decode cX4_leader 6 = .ok (.getfield 58, 3) := by decide +kernel
theorem dX4_leader_9 : decode cX4_leader 9 = .ok (.if_icmp .ge 26, 3) := by decide +kernel
theorem dX4_leader_12 : decode cX4_leader 12 = .ok (.iload_n 2, 1) := by decide +kernel
theorem dX4_leader_13 : decode cX4_leader 13 = .ok (.aload_n 0, 1) := by decide +kernel
theorem dX4_leader_14 : decode cX4_leader 14 = .ok (.iload_n 3, 1) := by decide +kernel
theorem dX4_leader_15 : decode cX4_leader 15 = .ok (.iload_n 1, 1) := by decide +kernel
theorem dX4_leader_16 : decode cX4_leader 16 = .ok (.invokevirtual 89, 3) := by decide +kernel
theorem dX4_leader_19 : decode cX4_leader 19 = .ok (.ifCond .eq 7, 3) := by decide +kernel
theorem dX4_leader_22 : decode cX4_leader 22 = .ok (.iconst 1, 1) := by decide +kernel
theorem dX4_leader_23 : decode cX4_leader 23 = .ok (.goto 4, 3) := by decide +kernel
theorem dX4_leader_26 : decode cX4_leader 26 = .ok (.iconst 0, 1) := by decide +kernel
theorem dX4_leader_27 : decode cX4_leader 27 = .ok (.iadd, 1) := by decide +kernel
theorem dX4_leader_28 : decode cX4_leader 28 = .ok (.istore_n 2, 1) := by decide +kernel
theorem dX4_leader_29 : decode cX4_leader 29 = .ok (.iinc 3 1, 3) := by decide +kernel
theorem dX4_leader_32 : decode cX4_leader 32 = .ok (.goto (-28), 3) := by decide +kernel
theorem dX4_leader_35 : decode cX4_leader 35 = .ok (.iconst 0, 1) := by decide +kernel
theorem dX4_leader_36 : decode cX4_leader 36 = .ok (.istore_n 3, 1) := by decide +kernel
theorem dX4_leader_37 : decode cX4_leader 37 = .ok (.iload_n 3, 1) := by decide +kernel
theorem dX4_leader_38 : decode cX4_leader 38 = .ok (.aload_n 0, 1) := by decide +kernel
theorem dX4_leader_39 : decode cX4_leader 39 = .ok (.getfield 58, 3) := by decide +kernel
theorem dX4_leader_42 : decode cX4_leader 42 = .ok (.if_icmp .ge 88, 3) := by decide +kernel
theorem dX4_leader_45 : decode cX4_leader 45 = .ok (.aload_n 0, 1) := by decide +kernel
theorem dX4_leader_46 : decode cX4_leader 46 = .ok (.iload_n 3, 1) := by decide +kernel
theorem dX4_leader_47 : decode cX4_leader 47 = .ok (.iload_n 1, 1) := by decide +kernel
theorem dX4_leader_48 : decode cX4_leader 48 = .ok (.invokevirtual 89, 3) := by decide +kernel
theorem dX4_leader_51 : decode cX4_leader 51 = .ok (.ifCond .ne 6, 3) := by decide +kernel
theorem dX4_leader_54 : decode cX4_leader 54 = .ok (.goto 70, 3) := by decide +kernel
theorem dX4_leader_57 : decode cX4_leader 57 = .ok (.iconst 0, 1) := by decide +kernel
theorem dX4_leader_58 : decode cX4_leader 58 = .ok (.istore 4, 2) := by decide +kernel
theorem dX4_leader_60 : decode cX4_leader 60 = .ok (.iconst 0, 1) := by decide +kernel
theorem dX4_leader_61 : decode cX4_leader 61 = .ok (.istore 5, 2) := by decide +kernel
theorem dX4_leader_63 : decode cX4_leader 63 = .ok (.iload 5, 2) := by decide +kernel
theorem dX4_leader_65 : decode cX4_leader 65 = .ok (.aload_n 0, 1) := by decide +kernel
theorem dX4_leader_66 : decode cX4_leader 66 = .ok (.getfield 58, 3) := by decide +kernel
theorem dX4_leader_69 : decode cX4_leader 69 = .ok (.if_icmp .ge 45, 3) := by decide +kernel
theorem dX4_leader_72 : decode cX4_leader 72 = .ok (.iload 4, 2) := by decide +kernel
theorem dX4_leader_74 : decode cX4_leader 74 = .ok (.aload_n 0, 1) := by decide +kernel
theorem dX4_leader_75 : decode cX4_leader 75 = .ok (.iload 5, 2) := by decide +kernel
theorem dX4_leader_77 : decode cX4_leader 77 = .ok (.iload_n 1, 1) := by decide +kernel
theorem dX4_leader_78 : decode cX4_leader 78 = .ok (.invokevirtual 89, 3) := by decide +kernel
theorem dX4_leader_81 : decode cX4_leader 81 = .ok (.ifCond .eq 23, 3) := by decide +kernel
theorem dX4_leader_84 : decode cX4_leader 84 = .ok (.aload_n 0, 1) := by decide +kernel
theorem dX4_leader_85 : decode cX4_leader 85 = .ok (.iload 5, 2) := by decide +kernel
theorem dX4_leader_87 : decode cX4_leader 87 = .ok (.iload_n 1, 1) := by decide +kernel
theorem dX4_leader_88 : decode cX4_leader 88 = .ok (.invokevirtual 92, 3) := by decide +kernel
theorem dX4_leader_91 : decode cX4_leader 91 = .ok (.aload_n 0, 1) := by decide +kernel
theorem dX4_leader_92 : decode cX4_leader 92 = .ok (.iload_n 3, 1) := by decide +kernel
theorem dX4_leader_93 : decode cX4_leader 93 = .ok (.iload_n 1, 1) := by decide +kernel
theorem dX4_leader_94 : decode cX4_leader 94 = .ok (.invokevirtual 92, 3) := by decide +kernel
theorem dX4_leader_97 : decode cX4_leader 97 = .ok (.if_icmp .ne 7, 3) := by decide +kernel
theorem dX4_leader_100 : decode cX4_leader 100 = .ok (.iconst 1, 1) := by decide +kernel
theorem dX4_leader_101 : decode cX4_leader 101 = .ok (.goto 4, 3) := by decide +kernel
theorem dX4_leader_104 : decode cX4_leader 104 = .ok (.iconst 0, 1) := by decide +kernel
theorem dX4_leader_105 : decode cX4_leader 105 = .ok (.iadd, 1) := by decide +kernel
theorem dX4_leader_106 : decode cX4_leader 106 = .ok (.istore 4, 2) := by decide +kernel
theorem dX4_leader_108 : decode cX4_leader 108 = .ok (.iinc 5 1, 3) := by decide +kernel
theorem dX4_leader_111 : decode cX4_leader 111 = .ok (.goto (-48), 3) := by decide +kernel
theorem dX4_leader_114 : decode cX4_leader 114 = .ok (.iconst 2, 1) := by decide +kernel
theorem dX4_leader_115 : decode cX4_leader 115 = .ok (.iload 4, 2) := by decide +kernel
theorem dX4_leader_117 : decode cX4_leader 117 = .ok (.imul, 1) := by decide +kernel
theorem dX4_leader_118 : decode cX4_leader 118 = .ok (.iload_n 2, 1) := by decide +kernel
theorem dX4_leader_119 : decode cX4_leader 119 = .ok (.if_icmp .le 5, 3) := by decide +kernel
theorem dX4_leader_122 : decode cX4_leader 122 = .ok (.iload_n 3, 1) := by decide +kernel
theorem dX4_leader_123 : decode cX4_leader 123 = .ok (.ireturn, 1) := by decide +kernel
theorem dX4_leader_124 : decode cX4_leader 124 = .ok (.iinc 3 1, 3) := by decide +kernel
theorem dX4_leader_127 : decode cX4_leader 127 = .ok (.goto (-90), 3) := by decide +kernel
theorem dX4_leader_130 : decode cX4_leader 130 = .ok (.iconst (-1), 1) := by decide +kernel
theorem dX4_leader_131 : decode cX4_leader 131 = .ok (.ireturn, 1) := by decide +kernel
theorem dX4_poll_0 : decode cX4_poll 0 = .ok (.aload_n 0, 1) := by decide +kernel
theorem dX4_poll_1 : decode cX4_poll 1 = .ok (.iconst 0, 1) := by decide +kernel
theorem dX4_poll_2 : decode cX4_poll 2 = .ok (.putfield 55, 3) := by decide +kernel
theorem dX4_poll_5 : decode cX4_poll 5 = .ok (.iload_n 1, 1) := by decide +kernel
theorem dX4_poll_6 : decode cX4_poll 6 = .ok (.iconst 0, 1) := by decide +kernel
theorem dX4_poll_7 : decode cX4_poll 7 = .ok (.bipush 9, 2) := by decide +kernel
theorem dX4_poll_9 : decode cX4_poll 9 = .ok (.invokestatic 61, 3) := by decide +kernel
theorem dX4_poll_12 : decode cX4_poll 12 = .ok (.ifCond .ne 6, 3) := by decide +kernel
theorem dX4_poll_15 : decode cX4_poll 15 = .ok (.bipush (-2), 2) := by decide +kernel
theorem dX4_poll_17 : decode cX4_poll 17 = .ok (.ireturn, 1) := by decide +kernel
theorem dX4_poll_18 : decode cX4_poll 18 = .ok (.aload_n 0, 1) := by decide +kernel
theorem dX4_poll_19 : decode cX4_poll 19 = .ok (.iconst 0, 1) := by decide +kernel
theorem dX4_poll_20 : decode cX4_poll 20 = .ok (.putfield 96, 3) := by decide +kernel
theorem dX4_poll_23 : decode cX4_poll 23 = .ok (.lload_n 2, 1) := by decide +kernel
theorem dX4_poll_24 : decode cX4_poll 24 = .ok (.lstore 4, 2) := by decide +kernel
theorem dX4_poll_26 : decode cX4_poll 26 = .ok (.iconst 0, 1) := by decide +kernel
theorem dX4_poll_27 : decode cX4_poll 27 = .ok (.istore 6, 2) := by decide +kernel
theorem dX4_poll_29 : decode cX4_poll 29 = .ok (.iload 6, 2) := by decide +kernel
theorem dX4_poll_31 : decode cX4_poll 31 = .ok (.aload_n 0, 1) := by decide +kernel
theorem dX4_poll_32 : decode cX4_poll 32 = .ok (.getfield 65, 3) := by decide +kernel
theorem dX4_poll_35 : decode cX4_poll 35 = .ok (.if_icmp .ge 226, 3) := by decide +kernel
theorem dX4_poll_38 : decode cX4_poll 38 = .ok (.aload_n 0, 1) := by decide +kernel
theorem dX4_poll_39 : decode cX4_poll 39 = .ok (.getfield 27, 3) := by decide +kernel
theorem dX4_poll_42 : decode cX4_poll 42 = .ok (.iload 6, 2) := by decide +kernel
theorem dX4_poll_44 : decode cX4_poll 44 = .ok (.iaload, 1) := by decide +kernel
theorem dX4_poll_45 : decode cX4_poll 45 = .ok (.iload_n 1, 1) := by decide +kernel
theorem dX4_poll_46 : decode cX4_poll 46 = .ok (.if_icmp .eq 6, 3) := by decide +kernel
theorem dX4_poll_49 : decode cX4_poll 49 = .ok (.goto 206, 3) := by decide +kernel
theorem dX4_poll_52 : decode cX4_poll 52 = .ok (.iconst 0, 1) := by decide +kernel
theorem dX4_poll_53 : decode cX4_poll 53 = .ok (.istore 7, 2) := by decide +kernel
theorem dX4_poll_55 : decode cX4_poll 55 = .ok (.iconst 0, 1) := by decide +kernel
theorem dX4_poll_56 : decode cX4_poll 56 = .ok (.istore 8, 2) := by decide +kernel
theorem dX4_poll_58 : decode cX4_poll 58 = .ok (.iload 8, 2) := by decide +kernel
theorem dX4_poll_60 : decode cX4_poll 60 = .ok (.aload_n 0, 1) := by decide +kernel
theorem dX4_poll_61 : decode cX4_poll 61 = .ok (.getfield 58, 3) := by decide +kernel
theorem dX4_poll_64 : decode cX4_poll 64 = .ok (.if_icmp .ge 35, 3) := by decide +kernel
theorem dX4_poll_67 : decode cX4_poll 67 = .ok (.aload_n 0, 1) := by decide +kernel
theorem dX4_poll_68 : decode cX4_poll 68 = .ok (.iload 8, 2) := by decide +kernel
theorem dX4_poll_70 : decode cX4_poll 70 = .ok (.iload 6, 2) := by decide +kernel
theorem dX4_poll_72 : decode cX4_poll 72 = .ok (.invokevirtual 89, 3) := by decide +kernel
theorem dX4_poll_75 : decode cX4_poll 75 = .ok (.ifCond .ne 6, 3) := by decide +kernel
theorem dX4_poll_78 : decode cX4_poll 78 = .ok (.goto 15, 3) := by decide +kernel
theorem dX4_poll_81 : decode cX4_poll 81 = .ok (.aload_n 0, 1) := by decide +kernel
theorem dX4_poll_82 : decode cX4_poll 82 = .ok (.getfield 48, 3) := by decide +kernel
theorem dX4_poll_85 : decode cX4_poll 85 = .ok (.iload 7, 2) := by decide +kernel
theorem dX4_poll_87 : decode cX4_poll 87 = .ok (.iload 8, 2) := by decide +kernel
theorem dX4_poll_89 : decode cX4_poll 89 = .ok (.iastore, 1) := by decide +kernel
theorem dX4_poll_90 : decode cX4_poll 90 = .ok (.iinc 7 1, 3) := by decide +kernel
theorem dX4_poll_93 : decode cX4_poll 93 = .ok (.iinc 8 1, 3) := by decide +kernel
theorem dX4_poll_96 : decode cX4_poll 96 = .ok (.goto (-38), 3) := by decide +kernel
theorem dX4_poll_99 : decode cX4_poll 99 = .ok (.iload 7, 2) := by decide +kernel
theorem dX4_poll_101 : decode cX4_poll 101 = .ok (.iconst 1, 1) := by decide +kernel
theorem dX4_poll_102 : decode cX4_poll 102 = .ok (.isub, 1) := by decide +kernel
theorem dX4_poll_103 : decode cX4_poll 103 = .ok (.istore 8, 2) := by decide +kernel
theorem dX4_poll_105 : decode cX4_poll 105 = .ok (.iload 8, 2) := by decide +kernel
theorem dX4_poll_107 : decode cX4_poll 107 = .ok (.ifCond .le 67, 3) := by decide +kernel
theorem dX4_poll_110 : decode cX4_poll 110 = .ok (.lload 4, 2) := by decide +kernel
theorem dX4_poll_112 : decode cX4_poll 112 = .ok (.ldc2_w 99, 3) := by decide +kernel
theorem dX4_poll_115 : decode cX4_poll 115 = .ok (.lmul, 1) := by decide +kernel
theorem dX4_poll_116 : decode cX4_poll 116 = .ok (.ldc2_w 101, 3) := by decide +kernel
theorem dX4_poll_119 : decode cX4_poll 119 = .ok (.ladd, 1) := by decide +kernel
theorem dX4_poll_120 : decode cX4_poll 120 = .ok (.lstore 4, 2) := by decide +kernel
theorem dX4_poll_122 : decode cX4_poll 122 = .ok (.lload 4, 2) := by decide +kernel
theorem dX4_poll_124 : decode cX4_poll 124 = .ok (.bipush 33, 2) := by decide +kernel
theorem dX4_poll_126 : decode cX4_poll 126 = .ok (.lushr, 1) := by decide +kernel
theorem dX4_poll_127 : decode cX4_poll 127 = .ok (.iload 8, 2) := by decide +kernel
theorem dX4_poll_129 : decode cX4_poll 129 = .ok (.iconst 1, 1) := by decide +kernel
theorem dX4_poll_130 : decode cX4_poll 130 = .ok (.iadd, 1) := by decide +kernel
theorem dX4_poll_131 : decode cX4_poll 131 = .ok (.i2l, 1) := by decide +kernel
theorem dX4_poll_132 : decode cX4_poll 132 = .ok (.lrem, 1) := by decide +kernel
theorem dX4_poll_133 : decode cX4_poll 133 = .ok (.l2i, 1) := by decide +kernel
theorem dX4_poll_134 : decode cX4_poll 134 = .ok (.istore 9, 2) := by decide +kernel
theorem dX4_poll_136 : decode cX4_poll 136 = .ok (.aload_n 0, 1) := by decide +kernel
theorem dX4_poll_137 : decode cX4_poll 137 = .ok (.getfield 48, 3) := by decide +kernel
theorem dX4_poll_140 : decode cX4_poll 140 = .ok (.iload 8, 2) := by decide +kernel
theorem dX4_poll_142 : decode cX4_poll 142 = .ok (.iaload, 1) := by decide +kernel
theorem dX4_poll_143 : decode cX4_poll 143 = .ok (.istore 10, 2) := by decide +kernel
theorem dX4_poll_145 : decode cX4_poll 145 = .ok (.aload_n 0, 1) := by decide +kernel
theorem dX4_poll_146 : decode cX4_poll 146 = .ok (.getfield 48, 3) := by decide +kernel
theorem dX4_poll_149 : decode cX4_poll 149 = .ok (.iload 8, 2) := by decide +kernel
theorem dX4_poll_151 : decode cX4_poll 151 = .ok (.aload_n 0, 1) := by decide +kernel
theorem dX4_poll_152 : decode cX4_poll 152 = .ok (.getfield 48, 3) := by decide +kernel
theorem dX4_poll_155 : decode cX4_poll 155 = .ok (.iload 9, 2) := by decide +kernel
theorem dX4_poll_157 : decode cX4_poll 157 = .ok (.iaload, 1) := by decide +kernel
theorem dX4_poll_158 : decode cX4_poll 158 = .ok (.iastore, 1) := by decide +kernel
theorem dX4_poll_159 : decode cX4_poll 159 = .ok (.aload_n 0, 1) := by decide +kernel
theorem dX4_poll_160 : decode cX4_poll 160 = .ok (.getfield 48, 3) := by decide +kernel
theorem dX4_poll_163 : decode cX4_poll 163 = .ok (.iload 9, 2) := by decide +kernel
theorem dX4_poll_165 : decode cX4_poll 165 = .ok (.iload 10, 2) := by decide +kernel
theorem dX4_poll_167 : decode cX4_poll 167 = .ok (.iastore, 1) := by decide +kernel
theorem dX4_poll_168 : decode cX4_poll 168 = .ok (.iinc 8 (-1), 3) := by decide +kernel
theorem dX4_poll_171 : decode cX4_poll 171 = .ok (.goto (-66), 3) := by decide +kernel
theorem dX4_poll_174 : decode cX4_poll 174 = .ok (.iconst 0, 1) := by decide +kernel
theorem dX4_poll_175 : decode cX4_poll 175 = .ok (.istore 8, 2) := by decide +kernel
theorem dX4_poll_177 : decode cX4_poll 177 = .ok (.iload 8, 2) := by decide +kernel
theorem dX4_poll_179 : decode cX4_poll 179 = .ok (.iload 7, 2) := by decide +kernel
theorem dX4_poll_181 : decode cX4_poll 181 = .ok (.if_icmp .ge 74, 3) := by decide +kernel
theorem dX4_poll_184 : decode cX4_poll 184 = .ok (.iload 8, 2) := by decide +kernel
theorem dX4_poll_186 : decode cX4_poll 186 = .ok (.iconst 3, 1) := by decide +kernel
theorem dX4_poll_187 : decode cX4_poll 187 = .ok (.if_icmp .ge 68, 3) := by decide +kernel
theorem dX4_poll_190 : decode cX4_poll 190 = .ok (.aload_n 0, 1) := by decide +kernel
theorem dX4_poll_191 : decode cX4_poll 191 = .ok (.getfield 39, 3) := by decide +kernel
theorem dX4_poll_194 : decode cX4_poll 194 = .ok (.aload_n 0, 1) := by decide +kernel
theorem dX4_poll_195 : decode cX4_poll 195 = .ok (.getfield 96, 3) := by decide +kernel
theorem dX4_poll_198 : decode cX4_poll 198 = .ok (.iload 6, 2) := by decide +kernel
theorem dX4_poll_200 : decode cX4_poll 200 = .ok (.iastore, 1) := by decide +kernel
theorem dX4_poll_201 : decode cX4_poll 201 = .ok (.aload_n 0, 1) := by decide +kernel
theorem dX4_poll_202 : decode cX4_poll 202 = .ok (.getfield 42, 3) := by decide +kernel
theorem dX4_poll_205 : decode cX4_poll 205 = .ok (.aload_n 0, 1) := by decide +kernel
theorem dX4_poll_206 : decode cX4_poll 206 = .ok (.getfield 96, 3) := by decide +kernel
theorem dX4_poll_209 : decode cX4_poll 209 = .ok (.aload_n 0, 1) := by decide +kernel
theorem dX4_poll_210 : decode cX4_poll 210 = .ok (.getfield 48, 3) := by decide +kernel
theorem dX4_poll_213 : decode cX4_poll 213 = .ok (.iload 8, 2) := by decide +kernel
theorem dX4_poll_215 : decode cX4_poll 215 = .ok (.iaload, 1) := by decide +kernel
theorem dX4_poll_216 : decode cX4_poll 216 = .ok (.iastore, 1) := by decide +kernel
theorem dX4_poll_217 : decode cX4_poll 217 = .ok (.aload_n 0, 1) := by decide +kernel
theorem dX4_poll_218 : decode cX4_poll 218 = .ok (.getfield 45, 3) := by decide +kernel
theorem dX4_poll_221 : decode cX4_poll 221 = .ok (.aload_n 0, 1) := by decide +kernel
theorem dX4_poll_222 : decode cX4_poll 222 = .ok (.getfield 96, 3) := by decide +kernel
theorem dX4_poll_225 : decode cX4_poll 225 = .ok (.aload_n 0, 1) := by decide +kernel
theorem dX4_poll_226 : decode cX4_poll 226 = .ok (.aload_n 0, 1) := by decide +kernel
theorem dX4_poll_227 : decode cX4_poll 227 = .ok (.getfield 48, 3) := by decide +kernel
theorem dX4_poll_230 : decode cX4_poll 230 = .ok (.iload 8, 2) := by decide +kernel
theorem dX4_poll_232 : decode cX4_poll 232 = .ok (.iaload, 1) := by decide +kernel
theorem dX4_poll_233 : decode cX4_poll 233 = .ok (.iload 6, 2) := by decide +kernel
theorem dX4_poll_235 : decode cX4_poll 235 = .ok (.invokevirtual 92, 3) := by decide +kernel
theorem dX4_poll_238 : decode cX4_poll 238 = .ok (.iastore, 1) := by decide +kernel
theorem dX4_poll_239 : decode cX4_poll 239 = .ok (.aload_n 0, 1) := by decide +kernel
theorem dX4_poll_240 : decode cX4_poll 240 = .ok (.dup, 1) := by decide +kernel
theorem dX4_poll_241 : decode cX4_poll 241 = .ok (.getfield 96, 3) := by decide +kernel
theorem dX4_poll_244 : decode cX4_poll 244 = .ok (.iconst 1, 1) := by decide +kernel
theorem dX4_poll_245 : decode cX4_poll 245 = .ok (.iadd, 1) := by decide +kernel
theorem dX4_poll_246 : decode cX4_poll 246 = .ok (.putfield 96, 3) := by decide +kernel
theorem dX4_poll_249 : decode cX4_poll 249 = .ok (.iinc 8 1, 3) := by decide +kernel
theorem dX4_poll_252 : decode cX4_poll 252 = .ok (.goto (-75), 3) := by decide +kernel
theorem dX4_poll_255 : decode cX4_poll 255 = .ok (.iinc 6 1, 3) := by decide +kernel
theorem dX4_poll_258 : decode cX4_poll 258 = .ok (.goto (-229), 3) := by decide +kernel
theorem dX4_poll_261 : decode cX4_poll 261 = .ok (.aload_n 0, 1) := by decide +kernel
theorem dX4_poll_262 : decode cX4_poll 262 = .ok (.getfield 96, 3) := by decide +kernel
theorem dX4_poll_265 : decode cX4_poll 265 = .ok (.ireturn, 1) := by decide +kernel
theorem dX4_polled_0 : decode cX4_polled 0 = .ok (.aload_n 0, 1) := by decide +kernel
theorem dX4_polled_1 : decode cX4_polled 1 = .ok (.iload_n 1, 1) := by decide +kernel
theorem dX4_polled_2 : decode cX4_polled 2 = .ok (.iconst 0, 1) := by decide +kernel
theorem dX4_polled_3 : decode cX4_polled 3 = .ok (.aload_n 0, 1) := by decide +kernel
theorem dX4_polled_4 : decode cX4_polled 4 = .ok (.getfield 96, 3) := by decide +kernel
theorem dX4_polled_7 : decode cX4_polled 7 = .ok (.iconst 1, 1) := by decide +kernel
theorem dX4_polled_8 : decode cX4_polled 8 = .ok (.isub, 1) := by decide +kernel
theorem dX4_polled_9 : decode cX4_polled 9 = .ok (.invokestatic 61, 3) := by decide +kernel
theorem dX4_polled_12 : decode cX4_polled 12 = .ok (.ifCond .eq 7, 3) := by decide +kernel
theorem dX4_polled_15 : decode cX4_polled 15 = .ok (.iconst 0, 1) := by decide +kernel
theorem dX4_polled_16 : decode cX4_polled 16 = .ok (.goto 4, 3) := by decide +kernel
theorem dX4_polled_19 : decode cX4_polled 19 = .ok (.iconst 1, 1) := by decide +kernel
theorem dX4_polled_20 : decode cX4_polled 20 = .ok (.putfield 55, 3) := by decide +kernel
theorem dX4_polled_23 : decode cX4_polled 23 = .ok (.aload_n 0, 1) := by decide +kernel
theorem dX4_polled_24 : decode cX4_polled 24 = .ok (.getfield 55, 3) := by decide +kernel
theorem dX4_polled_27 : decode cX4_polled 27 = .ok (.ifCond .le 5, 3) := by decide +kernel
theorem dX4_polled_30 : decode cX4_polled 30 = .ok (.iconst 0, 1) := by decide +kernel
theorem dX4_polled_31 : decode cX4_polled 31 = .ok (.ireturn, 1) := by decide +kernel
theorem dX4_polled_32 : decode cX4_polled 32 = .ok (.iload_n 2, 1) := by decide +kernel
theorem dX4_polled_33 : decode cX4_polled 33 = .ok (.ifCond .ne 12, 3) := by decide +kernel
theorem dX4_polled_36 : decode cX4_polled 36 = .ok (.aload_n 0, 1) := by decide +kernel
theorem dX4_polled_37 : decode cX4_polled 37 = .ok (.getfield 39, 3) := by decide +kernel
theorem dX4_polled_40 : decode cX4_polled 40 = .ok (.iload_n 1, 1) := by decide +kernel
theorem dX4_polled_41 : decode cX4_polled 41 = .ok (.iaload, 1) := by decide +kernel
theorem dX4_polled_42 : decode cX4_polled 42 = .ok (.goto 32, 3) := by decide +kernel
theorem dX4_polled_45 : decode cX4_polled 45 = .ok (.iload_n 2, 1) := by decide +kernel
theorem dX4_polled_46 : decode cX4_polled 46 = .ok (.iconst 1, 1) := by decide +kernel
theorem dX4_polled_47 : decode cX4_polled 47 = .ok (.if_icmp .ne 12, 3) := by decide +kernel
theorem dX4_polled_50 : decode cX4_polled 50 = .ok (.aload_n 0, 1) := by decide +kernel
theorem dX4_polled_51 : decode cX4_polled 51 = .ok (.getfield 42, 3) := by decide +kernel
theorem dX4_polled_54 : decode cX4_polled 54 = .ok (.iload_n 1, 1) := by decide +kernel
theorem dX4_polled_55 : decode cX4_polled 55 = .ok (.iaload, 1) := by decide +kernel
theorem dX4_polled_56 : decode cX4_polled 56 = .ok (.goto 18, 3) := by decide +kernel
theorem dX4_polled_59 : decode cX4_polled 59 = .ok (.iload_n 2, 1) := by decide +kernel
theorem dX4_polled_60 : decode cX4_polled 60 = .ok (.iconst 2, 1) := by decide +kernel
theorem dX4_polled_61 : decode cX4_polled 61 = .ok (.if_icmp .ne 12, 3) := by decide +kernel
theorem dX4_polled_64 : decode cX4_polled 64 = .ok (.aload_n 0, 1) := by decide +kernel
theorem dX4_polled_65 : decode cX4_polled 65 = .ok (.getfield 45, 3) := by decide +kernel
theorem dX4_polled_68 : decode cX4_polled 68 = .ok (.iload_n 1, 1) := by decide +kernel
theorem dX4_polled_69 : decode cX4_polled 69 = .ok (.iaload, 1) := by decide +kernel
theorem dX4_polled_70 : decode cX4_polled 70 = .ok (.goto 4, 3) := by decide +kernel
theorem dX4_polled_73 : decode cX4_polled 73 = .ok (.iconst (-1), 1) := by decide +kernel
theorem dX4_polled_74 : decode cX4_polled 74 = .ok (.ireturn, 1) := by decide +kernel
theorem dX4_majority_0 : decode cX4_majority 0 = .ok (.aload_n 0, 1) := by decide +kernel
theorem dX4_majority_1 : decode cX4_majority 1 = .ok (.iconst 0, 1) := by decide +kernel
theorem dX4_majority_2 : decode cX4_majority 2 = .ok (.putfield 55, 3) := by decide +kernel
theorem dX4_majority_5 : decode cX4_majority 5 = .ok (.aload_n 0, 1) := by decide +kernel
theorem dX4_majority_6 : decode cX4_majority 6 = .ok (.iload_n 1, 1) := by decide +kernel
theorem dX4_majority_7 : decode cX4_majority 7 = .ok (.invokevirtual 72, 3) := by decide +kernel
theorem dX4_majority_10 : decode cX4_majority 10 = .ok (.ifCond .ne 5, 3) := by decide +kernel
theorem dX4_majority_13 : decode cX4_majority 13 = .ok (.iconst (-1), 1) := by decide +kernel
theorem dX4_majority_14 : decode cX4_majority 14 = .ok (.ireturn, 1) := by decide +kernel
theorem dX4_majority_15 : decode cX4_majority 15 = .ok (.aload_n 0, 1) := by decide +kernel
theorem dX4_majority_16 : decode cX4_majority 16 = .ok (.iload_n 1, 1) := by decide +kernel
theorem dX4_majority_17 : decode cX4_majority 17 = .ok (.invokevirtual 103, 3) := by decide +kernel
theorem dX4_majority_20 : decode cX4_majority 20 = .ok (.istore_n 2, 1) := by decide +kernel
theorem dX4_majority_21 : decode cX4_majority 21 = .ok (.aload_n 0, 1) := by decide +kernel
theorem dX4_majority_22 : decode cX4_majority 22 = .ok (.iload_n 2, 1) := by decide +kernel
theorem dX4_majority_23 : decode cX4_majority 23 = .ok (.ifCond .ge 7, 3) := by decide +kernel
theorem dX4_majority_26 : decode cX4_majority 26 = .ok (.iconst 0, 1) := by decide +kernel
theorem dX4_majority_27 : decode cX4_majority 27 = .ok (.goto 9, 3) := by decide +kernel
theorem dX4_majority_30 : decode cX4_majority 30 = .ok (.aload_n 0, 1) := by decide +kernel
theorem dX4_majority_31 : decode cX4_majority 31 = .ok (.iload_n 2, 1) := by decide +kernel
theorem dX4_majority_32 : decode cX4_majority 32 = .ok (.iload_n 1, 1) := by decide +kernel
theorem dX4_majority_33 : decode cX4_majority 33 = .ok (.invokevirtual 92, 3) := by decide +kernel
theorem dX4_majority_36 : decode cX4_majority 36 = .ok (.putfield 106, 3) := by decide +kernel
theorem dX4_majority_39 : decode cX4_majority 39 = .ok (.iload_n 2, 1) := by decide +kernel
theorem dX4_majority_40 : decode cX4_majority 40 = .ok (.ifCond .ge 7, 3) := by decide +kernel
theorem dX4_majority_43 : decode cX4_majority 43 = .ok (.iconst 0, 1) := by decide +kernel
theorem dX4_majority_44 : decode cX4_majority 44 = .ok (.goto 4, 3) := by decide +kernel
theorem dX4_majority_47 : decode cX4_majority 47 = .ok (.iconst 1, 1) := by decide +kernel
theorem dX4_majority_48 : decode cX4_majority 48 = .ok (.ireturn, 1) := by decide +kernel
theorem dX4_digest_0 : decode cX4_digest 0 = .ok (.aload_n 0, 1) := by decide +kernel
theorem dX4_digest_1 : decode cX4_digest 1 = .ok (.iconst 0, 1) := by decide +kernel
theorem dX4_digest_2 : decode cX4_digest 2 = .ok (.putfield 55, 3) := by decide +kernel
theorem dX4_digest_5 : decode cX4_digest 5 = .ok (.aload_n 0, 1) := by decide +kernel
theorem dX4_digest_6 : decode cX4_digest 6 = .ok (.getfield 106, 3) := by decide +kernel
theorem dX4_digest_9 : decode cX4_digest 9 = .ok (.ireturn, 1) := by decide +kernel
theorem dX4_copy_0 : decode cX4_copy 0 = .ok (.aload_n 0, 1) := by decide +kernel
theorem dX4_copy_1 : decode cX4_copy 1 = .ok (.getfield 33, 3) := by decide +kernel
theorem dX4_copy_4 : decode cX4_copy 4 = .ok (.bipush 40, 2) := by decide +kernel
theorem dX4_copy_6 : decode cX4_copy 6 = .ok (.iload_n 3, 1) := by decide +kernel
theorem dX4_copy_7 : decode cX4_copy 7 = .ok (.imul, 1) := by decide +kernel
theorem dX4_copy_8 : decode cX4_copy 8 = .ok (.iload_n 1, 1) := by decide +kernel
theorem dX4_copy_9 : decode cX4_copy 9 = .ok (.iadd, 1) := by decide +kernel
theorem dX4_copy_10 : decode cX4_copy 10 = .ok (.aload_n 0, 1) := by decide +kernel
theorem dX4_copy_11 : decode cX4_copy 11 = .ok (.getfield 33, 3) := by decide +kernel
theorem dX4_copy_14 : decode cX4_copy 14 = .ok (.bipush 40, 2) := by decide +kernel
theorem dX4_copy_16 : decode cX4_copy 16 = .ok (.iload_n 2, 1) := by decide +kernel
theorem dX4_copy_17 : decode cX4_copy 17 = .ok (.imul, 1) := by decide +kernel
theorem dX4_copy_18 : decode cX4_copy 18 = .ok (.iload_n 1, 1) := by decide +kernel
theorem dX4_copy_19 : decode cX4_copy 19 = .ok (.iadd, 1) := by decide +kernel
theorem dX4_copy_20 : decode cX4_copy 20 = .ok (.iaload, 1) := by decide +kernel
theorem dX4_copy_21 : decode cX4_copy 21 = .ok (.iastore, 1) := by decide +kernel
theorem dX4_copy_22 : decode cX4_copy 22 = .ok (.iconst 0, 1) := by decide +kernel
theorem dX4_copy_23 : decode cX4_copy 23 = .ok (.istore 4, 2) := by decide +kernel
theorem dX4_copy_25 : decode cX4_copy 25 = .ok (.iload 4, 2) := by decide +kernel
theorem dX4_copy_27 : decode cX4_copy 27 = .ok (.bipush 16, 2) := by decide +kernel
theorem dX4_copy_29 : decode cX4_copy 29 = .ok (.if_icmp .ge 43, 3) := by decide +kernel
theorem dX4_copy_32 : decode cX4_copy 32 = .ok (.aload_n 0, 1) := by decide +kernel
theorem dX4_copy_33 : decode cX4_copy 33 = .ok (.getfield 36, 3) := by decide +kernel
theorem dX4_copy_36 : decode cX4_copy 36 = .ok (.bipush 16, 2) := by decide +kernel
theorem dX4_copy_38 : decode cX4_copy 38 = .ok (.bipush 40, 2) := by decide +kernel
theorem dX4_copy_40 : decode cX4_copy 40 = .ok (.iload_n 3, 1) := by decide +kernel
theorem dX4_copy_41 : decode cX4_copy 41 = .ok (.imul, 1) := by decide +kernel
theorem dX4_copy_42 : decode cX4_copy 42 = .ok (.iload_n 1, 1) := by decide +kernel
theorem dX4_copy_43 : decode cX4_copy 43 = .ok (.iadd, 1) := by decide +kernel
theorem dX4_copy_44 : decode cX4_copy 44 = .ok (.imul, 1) := by decide +kernel
theorem dX4_copy_45 : decode cX4_copy 45 = .ok (.iload 4, 2) := by decide +kernel
theorem dX4_copy_47 : decode cX4_copy 47 = .ok (.iadd, 1) := by decide +kernel
theorem dX4_copy_48 : decode cX4_copy 48 = .ok (.aload_n 0, 1) := by decide +kernel
theorem dX4_copy_49 : decode cX4_copy 49 = .ok (.getfield 36, 3) := by decide +kernel
theorem dX4_copy_52 : decode cX4_copy 52 = .ok (.bipush 16, 2) := by decide +kernel
theorem dX4_copy_54 : decode cX4_copy 54 = .ok (.bipush 40, 2) := by decide +kernel
theorem dX4_copy_56 : decode cX4_copy 56 = .ok (.iload_n 2, 1) := by decide +kernel
theorem dX4_copy_57 : decode cX4_copy 57 = .ok (.imul, 1) := by decide +kernel
theorem dX4_copy_58 : decode cX4_copy 58 = .ok (.iload_n 1, 1) := by decide +kernel
theorem dX4_copy_59 : decode cX4_copy 59 = .ok (.iadd, 1) := by decide +kernel
theorem dX4_copy_60 : decode cX4_copy 60 = .ok (.imul, 1) := by decide +kernel
theorem dX4_copy_61 : decode cX4_copy 61 = .ok (.iload 4, 2) := by decide +kernel
theorem dX4_copy_63 : decode cX4_copy 63 = .ok (.iadd, 1) := by decide +kernel
theorem dX4_copy_64 : decode cX4_copy 64 = .ok (.baload, 1) := by decide +kernel
theorem dX4_copy_65 : decode cX4_copy 65 = .ok (.bastore, 1) := by decide +kernel
theorem dX4_copy_66 : decode cX4_copy 66 = .ok (.iinc 4 1, 3) := by decide +kernel
theorem dX4_copy_69 : decode cX4_copy 69 = .ok (.goto (-44), 3) := by decide +kernel
theorem dX4_copy_72 : decode cX4_copy 72 = .ok (.return_, 1) := by decide +kernel
theorem dX4_mend_0 : decode cX4_mend 0 = .ok (.aload_n 0, 1) := by decide +kernel
theorem dX4_mend_1 : decode cX4_mend 1 = .ok (.iconst 0, 1) := by decide +kernel
theorem dX4_mend_2 : decode cX4_mend 2 = .ok (.putfield 55, 3) := by decide +kernel
theorem dX4_mend_5 : decode cX4_mend 5 = .ok (.iload_n 1, 1) := by decide +kernel
theorem dX4_mend_6 : decode cX4_mend 6 = .ok (.iconst 0, 1) := by decide +kernel
theorem dX4_mend_7 : decode cX4_mend 7 = .ok (.bipush 9, 2) := by decide +kernel
theorem dX4_mend_9 : decode cX4_mend 9 = .ok (.invokestatic 61, 3) := by decide +kernel
theorem dX4_mend_12 : decode cX4_mend 12 = .ok (.ifCond .ne 6, 3) := by decide +kernel
theorem dX4_mend_15 : decode cX4_mend 15 = .ok (.bipush (-2), 2) := by decide +kernel
theorem dX4_mend_17 : decode cX4_mend 17 = .ok (.ireturn, 1) := by decide +kernel
theorem dX4_mend_18 : decode cX4_mend 18 = .ok (.iconst 0, 1) := by decide +kernel
theorem dX4_mend_19 : decode cX4_mend 19 = .ok (.istore_n 2, 1) := by decide +kernel
theorem dX4_mend_20 : decode cX4_mend 20 = .ok (.iconst 0, 1) := by decide +kernel
theorem dX4_mend_21 : decode cX4_mend 21 = .ok (.istore_n 3, 1) := by decide +kernel
theorem dX4_mend_22 : decode cX4_mend 22 = .ok (.iload_n 3, 1) := by decide +kernel
theorem dX4_mend_23 : decode cX4_mend 23 = .ok (.aload_n 0, 1) := by decide +kernel
theorem dX4_mend_24 : decode cX4_mend 24 = .ok (.getfield 65, 3) := by decide +kernel
theorem dX4_mend_27 : decode cX4_mend 27 = .ok (.if_icmp .ge 105, 3) := by decide +kernel
theorem dX4_mend_30 : decode cX4_mend 30 = .ok (.aload_n 0, 1) := by decide +kernel
theorem dX4_mend_31 : decode cX4_mend 31 = .ok (.getfield 27, 3) := by decide +kernel
theorem dX4_mend_34 : decode cX4_mend 34 = .ok (.iload_n 3, 1) := by decide +kernel
theorem dX4_mend_35 : decode cX4_mend 35 = .ok (.iaload, 1) := by decide +kernel
theorem dX4_mend_36 : decode cX4_mend 36 = .ok (.iload_n 1, 1) := by decide +kernel
theorem dX4_mend_37 : decode cX4_mend 37 = .ok (.if_icmp .ne 11, 3) := by decide +kernel
theorem dX4_mend_40 : decode cX4_mend 40 = .ok (.aload_n 0, 1) := by decide +kernel
theorem dX4_mend_41 : decode cX4_mend 41 = .ok (.iload_n 3, 1) := by decide +kernel
theorem dX4_mend_42 : decode cX4_mend 42 = .ok (.invokevirtual 103, 3) := by decide +kernel
theorem dX4_mend_45 : decode cX4_mend 45 = .ok (.goto 4, 3) := by decide +kernel
theorem dX4_mend_48 : decode cX4_mend 48 = .ok (.iconst (-1), 1) := by decide +kernel
theorem dX4_mend_49 : decode cX4_mend 49 = .ok (.istore 4, 2) := by decide +kernel
theorem dX4_mend_51 : decode cX4_mend 51 = .ok (.iconst 0, 1) := by decide +kernel
theorem dX4_mend_52 : decode cX4_mend 52 = .ok (.istore 5, 2) := by decide +kernel
theorem dX4_mend_54 : decode cX4_mend 54 = .ok (.iload 5, 2) := by decide +kernel
theorem dX4_mend_56 : decode cX4_mend 56 = .ok (.aload_n 0, 1) := by decide +kernel
theorem dX4_mend_57 : decode cX4_mend 57 = .ok (.getfield 58, 3) := by decide +kernel
theorem dX4_mend_60 : decode cX4_mend 60 = .ok (.if_icmp .ge 66, 3) := by decide +kernel
theorem dX4_mend_63 : decode cX4_mend 63 = .ok (.iload 4, 2) := by decide +kernel
theorem dX4_mend_65 : decode cX4_mend 65 = .ok (.ifCond .lt 61, 3) := by decide +kernel
theorem dX4_mend_68 : decode cX4_mend 68 = .ok (.aload_n 0, 1) := by decide +kernel
theorem dX4_mend_69 : decode cX4_mend 69 = .ok (.iload 5, 2) := by decide +kernel
theorem dX4_mend_71 : decode cX4_mend 71 = .ok (.iload_n 3, 1) := by decide +kernel
theorem dX4_mend_72 : decode cX4_mend 72 = .ok (.invokevirtual 89, 3) := by decide +kernel
theorem dX4_mend_75 : decode cX4_mend 75 = .ok (.ifCond .eq 45, 3) := by decide +kernel
theorem dX4_mend_78 : decode cX4_mend 78 = .ok (.aload_n 0, 1) := by decide +kernel
theorem dX4_mend_79 : decode cX4_mend 79 = .ok (.iload 5, 2) := by decide +kernel
theorem dX4_mend_81 : decode cX4_mend 81 = .ok (.iload_n 3, 1) := by decide +kernel
theorem dX4_mend_82 : decode cX4_mend 82 = .ok (.invokevirtual 92, 3) := by decide +kernel
theorem dX4_mend_85 : decode cX4_mend 85 = .ok (.aload_n 0, 1) := by decide +kernel
theorem dX4_mend_86 : decode cX4_mend 86 = .ok (.iload 4, 2) := by decide +kernel
theorem dX4_mend_88 : decode cX4_mend 88 = .ok (.iload_n 3, 1) := by decide +kernel
theorem dX4_mend_89 : decode cX4_mend 89 = .ok (.invokevirtual 92, 3) := by decide +kernel
theorem dX4_mend_92 : decode cX4_mend 92 = .ok (.if_icmp .ne 6, 3) := by decide +kernel
theorem dX4_mend_95 : decode cX4_mend 95 = .ok (.goto 25, 3) := by decide +kernel
theorem dX4_mend_98 : decode cX4_mend 98 = .ok (.aload_n 0, 1) := by decide +kernel
theorem dX4_mend_99 : decode cX4_mend 99 = .ok (.iload_n 3, 1) := by decide +kernel
theorem dX4_mend_100 : decode cX4_mend 100 = .ok (.iload 4, 2) := by decide +kernel
theorem dX4_mend_102 : decode cX4_mend 102 = .ok (.iload 5, 2) := by decide +kernel
theorem dX4_mend_104 : decode cX4_mend 104 = .ok (.invokevirtual 109, 3) := by decide +kernel
theorem dX4_mend_107 : decode cX4_mend 107 = .ok (.aload_n 0, 1) := by decide +kernel
theorem dX4_mend_108 : decode cX4_mend 108 = .ok (.getfield 30, 3) := by decide +kernel
theorem dX4_mend_111 : decode cX4_mend 111 = .ok (.iload_n 3, 1) := by decide +kernel
theorem dX4_mend_112 : decode cX4_mend 112 = .ok (.dup2, 1) := by decide +kernel
theorem dX4_mend_113 : decode cX4_mend 113 = .ok (.iaload, 1) := by decide +kernel
theorem dX4_mend_114 : decode cX4_mend 114 = .ok (.iconst 1, 1) := by decide +kernel
theorem dX4_mend_115 : decode cX4_mend 115 = .ok (.iadd, 1) := by decide +kernel
theorem dX4_mend_116 : decode cX4_mend 116 = .ok (.iastore, 1) := by decide +kernel
theorem dX4_mend_117 : decode cX4_mend 117 = .ok (.iinc 2 1, 3) := by decide +kernel
theorem dX4_mend_120 : decode cX4_mend 120 = .ok (.iinc 5 1, 3) := by decide +kernel
theorem dX4_mend_123 : decode cX4_mend 123 = .ok (.goto (-69), 3) := by decide +kernel
theorem dX4_mend_126 : decode cX4_mend 126 = .ok (.iinc 3 1, 3) := by decide +kernel
theorem dX4_mend_129 : decode cX4_mend 129 = .ok (.goto (-107), 3) := by decide +kernel
theorem dX4_mend_132 : decode cX4_mend 132 = .ok (.iload_n 2, 1) := by decide +kernel
theorem dX4_mend_133 : decode cX4_mend 133 = .ok (.ireturn, 1) := by decide +kernel
theorem dX4_stale_0 : decode cX4_stale 0 = .ok (.aload_n 0, 1) := by decide +kernel
theorem dX4_stale_1 : decode cX4_stale 1 = .ok (.iconst 0, 1) := by decide +kernel
theorem dX4_stale_2 : decode cX4_stale 2 = .ok (.putfield 55, 3) := by decide +kernel
theorem dX4_stale_5 : decode cX4_stale 5 = .ok (.aload_n 0, 1) := by decide +kernel
theorem dX4_stale_6 : decode cX4_stale 6 = .ok (.iload_n 1, 1) := by decide +kernel
theorem dX4_stale_7 : decode cX4_stale 7 = .ok (.iload_n 2, 1) := by decide +kernel
theorem dX4_stale_8 : decode cX4_stale 8 = .ok (.invokevirtual 75, 3) := by decide +kernel
theorem dX4_stale_11 : decode cX4_stale 11 = .ok (.ifCond .ne 5, 3) := by decide +kernel
theorem dX4_stale_14 : decode cX4_stale 14 = .ok (.iconst (-1), 1) := by decide +kernel
theorem dX4_stale_15 : decode cX4_stale 15 = .ok (.ireturn, 1) := by decide +kernel
theorem dX4_stale_16 : decode cX4_stale 16 = .ok (.aload_n 0, 1) := by decide +kernel
theorem dX4_stale_17 : decode cX4_stale 17 = .ok (.iload_n 2, 1) := by decide +kernel
theorem dX4_stale_18 : decode cX4_stale 18 = .ok (.invokevirtual 103, 3) := by decide +kernel
theorem dX4_stale_21 : decode cX4_stale 21 = .ok (.istore_n 3, 1) := by decide +kernel
theorem dX4_stale_22 : decode cX4_stale 22 = .ok (.iload_n 3, 1) := by decide +kernel
theorem dX4_stale_23 : decode cX4_stale 23 = .ok (.ifCond .lt 22, 3) := by decide +kernel
theorem dX4_stale_26 : decode cX4_stale 26 = .ok (.aload_n 0, 1) := by decide +kernel
theorem dX4_stale_27 : decode cX4_stale 27 = .ok (.iload_n 3, 1) := by decide +kernel
theorem dX4_stale_28 : decode cX4_stale 28 = .ok (.iload_n 2, 1) := by decide +kernel
theorem dX4_stale_29 : decode cX4_stale 29 = .ok (.invokevirtual 92, 3) := by decide +kernel
theorem dX4_stale_32 : decode cX4_stale 32 = .ok (.aload_n 0, 1) := by decide +kernel
theorem dX4_stale_33 : decode cX4_stale 33 = .ok (.iload_n 1, 1) := by decide +kernel
theorem dX4_stale_34 : decode cX4_stale 34 = .ok (.iload_n 2, 1) := by decide +kernel
theorem dX4_stale_35 : decode cX4_stale 35 = .ok (.invokevirtual 92, 3) := by decide +kernel
theorem dX4_stale_38 : decode cX4_stale 38 = .ok (.if_icmp .eq 7, 3) := by decide +kernel
theorem dX4_stale_41 : decode cX4_stale 41 = .ok (.iconst 1, 1) := by decide +kernel
theorem dX4_stale_42 : decode cX4_stale 42 = .ok (.goto 4, 3) := by decide +kernel
theorem dX4_stale_45 : decode cX4_stale 45 = .ok (.iconst 0, 1) := by decide +kernel
theorem dX4_stale_46 : decode cX4_stale 46 = .ok (.ireturn, 1) := by decide +kernel
theorem dX4_copiesOf_0 : decode cX4_copiesOf 0 = .ok (.iconst 0, 1) := by decide +kernel
theorem dX4_copiesOf_1 : decode cX4_copiesOf 1 = .ok (.istore_n 3, 1) := by decide +kernel
theorem dX4_copiesOf_2 : decode cX4_copiesOf 2 = .ok (.iconst 0, 1) := by decide +kernel
theorem dX4_copiesOf_3 : decode cX4_copiesOf 3 = .ok (.istore 4, 2) := by decide +kernel
theorem dX4_copiesOf_5 : decode cX4_copiesOf 5 = .ok (.iload 4, 2) := by decide +kernel
theorem dX4_copiesOf_7 : decode cX4_copiesOf 7 = .ok (.aload_n 0, 1) := by decide +kernel
theorem dX4_copiesOf_8 : decode cX4_copiesOf 8 = .ok (.getfield 58, 3) := by decide +kernel
theorem dX4_copiesOf_11 : decode cX4_copiesOf 11 = .ok (.if_icmp .ge 41, 3) := by decide +kernel
theorem dX4_copiesOf_14 : decode cX4_copiesOf 14 = .ok (.iload_n 3, 1) := by decide +kernel
theorem dX4_copiesOf_15 : decode cX4_copiesOf 15 = .ok (.aload_n 0, 1) := by decide +kernel
theorem dX4_copiesOf_16 : decode cX4_copiesOf 16 = .ok (.iload 4, 2) := by decide +kernel
theorem dX4_copiesOf_18 : decode cX4_copiesOf 18 = .ok (.iload_n 1, 1) := by decide +kernel
theorem dX4_copiesOf_19 : decode cX4_copiesOf 19 = .ok (.invokevirtual 75, 3) := by decide +kernel
theorem dX4_copiesOf_22 : decode cX4_copiesOf 22 = .ok (.ifCond .eq 21, 3) := by decide +kernel
theorem dX4_copiesOf_25 : decode cX4_copiesOf 25 = .ok (.iload_n 2, 1) := by decide +kernel
theorem dX4_copiesOf_26 : decode cX4_copiesOf 26 = .ok (.ifCond .ne 13, 3) := by decide +kernel
theorem dX4_copiesOf_29 : decode cX4_copiesOf 29 = .ok (.aload_n 0, 1) := by decide +kernel
theorem dX4_copiesOf_30 : decode cX4_copiesOf 30 = .ok (.getfield 13, 3) := by decide +kernel
theorem dX4_copiesOf_33 : decode cX4_copiesOf 33 = .ok (.iload 4, 2) := by decide +kernel
theorem dX4_copiesOf_35 : decode cX4_copiesOf 35 = .ok (.baload, 1) := by decide +kernel
theorem dX4_copiesOf_36 : decode cX4_copiesOf 36 = .ok (.ifCond .ne 7, 3) := by decide +kernel
theorem dX4_copiesOf_39 : decode cX4_copiesOf 39 = .ok (.iconst 1, 1) := by decide +kernel
theorem dX4_copiesOf_40 : decode cX4_copiesOf 40 = .ok (.goto 4, 3) := by decide +kernel
theorem dX4_copiesOf_43 : decode cX4_copiesOf 43 = .ok (.iconst 0, 1) := by decide +kernel
theorem dX4_copiesOf_44 : decode cX4_copiesOf 44 = .ok (.iadd, 1) := by decide +kernel
theorem dX4_copiesOf_45 : decode cX4_copiesOf 45 = .ok (.istore_n 3, 1) := by decide +kernel
theorem dX4_copiesOf_46 : decode cX4_copiesOf 46 = .ok (.iinc 4 1, 3) := by decide +kernel
theorem dX4_copiesOf_49 : decode cX4_copiesOf 49 = .ok (.goto (-44), 3) := by decide +kernel
theorem dX4_copiesOf_52 : decode cX4_copiesOf 52 = .ok (.iload_n 3, 1) := by decide +kernel
theorem dX4_copiesOf_53 : decode cX4_copiesOf 53 = .ok (.ireturn, 1) := by decide +kernel
theorem dX4_fill_0 : decode cX4_fill 0 = .ok (.aload_n 0, 1) := by decide +kernel
theorem dX4_fill_1 : decode cX4_fill 1 = .ok (.iconst 0, 1) := by decide +kernel
theorem dX4_fill_2 : decode cX4_fill 2 = .ok (.putfield 55, 3) := by decide +kernel
theorem dX4_fill_5 : decode cX4_fill 5 = .ok (.aload_n 0, 1) := by decide +kernel
theorem dX4_fill_6 : decode cX4_fill 6 = .ok (.iload_n 1, 1) := by decide +kernel
theorem dX4_fill_7 : decode cX4_fill 7 = .ok (.invokevirtual 68, 3) := by decide +kernel
theorem dX4_fill_10 : decode cX4_fill 10 = .ok (.ifCond .ne 5, 3) := by decide +kernel
theorem dX4_fill_13 : decode cX4_fill 13 = .ok (.iconst (-1), 1) := by decide +kernel
theorem dX4_fill_14 : decode cX4_fill 14 = .ok (.ireturn, 1) := by decide +kernel
theorem dX4_fill_15 : decode cX4_fill 15 = .ok (.aload_n 0, 1) := by decide +kernel
theorem dX4_fill_16 : decode cX4_fill 16 = .ok (.getfield 13, 3) := by decide +kernel
theorem dX4_fill_19 : decode cX4_fill 19 = .ok (.iload_n 1, 1) := by decide +kernel
theorem dX4_fill_20 : decode cX4_fill 20 = .ok (.baload, 1) := by decide +kernel
theorem dX4_fill_21 : decode cX4_fill 21 = .ok (.ifCond .eq 6, 3) := by decide +kernel
theorem dX4_fill_24 : decode cX4_fill 24 = .ok (.bipush (-3), 2) := by decide +kernel
theorem dX4_fill_26 : decode cX4_fill 26 = .ok (.ireturn, 1) := by decide +kernel
theorem dX4_fill_27 : decode cX4_fill 27 = .ok (.iconst 0, 1) := by decide +kernel
theorem dX4_fill_28 : decode cX4_fill 28 = .ok (.istore_n 2, 1) := by decide +kernel
theorem dX4_fill_29 : decode cX4_fill 29 = .ok (.iconst 0, 1) := by decide +kernel
theorem dX4_fill_30 : decode cX4_fill 30 = .ok (.istore_n 3, 1) := by decide +kernel
theorem dX4_fill_31 : decode cX4_fill 31 = .ok (.iload_n 3, 1) := by decide +kernel
theorem dX4_fill_32 : decode cX4_fill 32 = .ok (.aload_n 0, 1) := by decide +kernel
theorem dX4_fill_33 : decode cX4_fill 33 = .ok (.getfield 65, 3) := by decide +kernel
theorem dX4_fill_36 : decode cX4_fill 36 = .ok (.if_icmp .ge 67, 3) := by decide +kernel
theorem dX4_fill_39 : decode cX4_fill 39 = .ok (.aload_n 0, 1) := by decide +kernel
theorem dX4_fill_40 : decode cX4_fill 40 = .ok (.iload_n 3, 1) := by decide +kernel
theorem dX4_fill_41 : decode cX4_fill 41 = .ok (.invokevirtual 103, 3) := by decide +kernel
theorem dX4_fill_44 : decode cX4_fill 44 = .ok (.istore 4, 2) := by decide +kernel
theorem dX4_fill_46 : decode cX4_fill 46 = .ok (.iload 4, 2) := by decide +kernel
theorem dX4_fill_48 : decode cX4_fill 48 = .ok (.ifCond .lt 49, 3) := by decide +kernel
theorem dX4_fill_51 : decode cX4_fill 51 = .ok (.aload_n 0, 1) := by decide +kernel
theorem dX4_fill_52 : decode cX4_fill 52 = .ok (.iload_n 1, 1) := by decide +kernel
theorem dX4_fill_53 : decode cX4_fill 53 = .ok (.iload_n 3, 1) := by decide +kernel
theorem dX4_fill_54 : decode cX4_fill 54 = .ok (.invokevirtual 75, 3) := by decide +kernel
theorem dX4_fill_57 : decode cX4_fill 57 = .ok (.ifCond .ne 40, 3) := by decide +kernel
theorem dX4_fill_60 : decode cX4_fill 60 = .ok (.aload_n 0, 1) := by decide +kernel
theorem dX4_fill_61 : decode cX4_fill 61 = .ok (.iload_n 3, 1) := by decide +kernel
theorem dX4_fill_62 : decode cX4_fill 62 = .ok (.iconst 1, 1) := by decide +kernel
theorem dX4_fill_63 : decode cX4_fill 63 = .ok (.invokevirtual 113, 3) := by decide +kernel
theorem dX4_fill_66 : decode cX4_fill 66 = .ok (.aload_n 0, 1) := by decide +kernel
theorem dX4_fill_67 : decode cX4_fill 67 = .ok (.getfield 51, 3) := by decide +kernel
theorem dX4_fill_70 : decode cX4_fill 70 = .ok (.if_icmp .lt 6, 3) := by decide +kernel
theorem dX4_fill_73 : decode cX4_fill 73 = .ok (.goto 24, 3) := by decide +kernel
theorem dX4_fill_76 : decode cX4_fill 76 = .ok (.aload_n 0, 1) := by decide +kernel
theorem dX4_fill_77 : decode cX4_fill 77 = .ok (.iload_n 3, 1) := by decide +kernel
theorem dX4_fill_78 : decode cX4_fill 78 = .ok (.iload 4, 2) := by decide +kernel
theorem dX4_fill_80 : decode cX4_fill 80 = .ok (.iload_n 1, 1) := by decide +kernel
theorem dX4_fill_81 : decode cX4_fill 81 = .ok (.invokevirtual 109, 3) := by decide +kernel
theorem dX4_fill_84 : decode cX4_fill 84 = .ok (.aload_n 0, 1) := by decide +kernel
theorem dX4_fill_85 : decode cX4_fill 85 = .ok (.getfield 30, 3) := by decide +kernel
theorem dX4_fill_88 : decode cX4_fill 88 = .ok (.iload_n 3, 1) := by decide +kernel
theorem dX4_fill_89 : decode cX4_fill 89 = .ok (.dup2, 1) := by decide +kernel
theorem dX4_fill_90 : decode cX4_fill 90 = .ok (.iaload, 1) := by decide +kernel
theorem dX4_fill_91 : decode cX4_fill 91 = .ok (.iconst 1, 1) := by decide +kernel
theorem dX4_fill_92 : decode cX4_fill 92 = .ok (.iadd, 1) := by decide +kernel
theorem dX4_fill_93 : decode cX4_fill 93 = .ok (.iastore, 1) := by decide +kernel
theorem dX4_fill_94 : decode cX4_fill 94 = .ok (.iinc 2 1, 3) := by decide +kernel
theorem dX4_fill_97 : decode cX4_fill 97 = .ok (.iinc 3 1, 3) := by decide +kernel
theorem dX4_fill_100 : decode cX4_fill 100 = .ok (.goto (-69), 3) := by decide +kernel
theorem dX4_fill_103 : decode cX4_fill 103 = .ok (.iload_n 2, 1) := by decide +kernel
theorem dX4_fill_104 : decode cX4_fill 104 = .ok (.ireturn, 1) := by decide +kernel
theorem dX4_move_0 : decode cX4_move 0 = .ok (.aload_n 0, 1) := by decide +kernel
theorem dX4_move_1 : decode cX4_move 1 = .ok (.iconst 0, 1) := by decide +kernel
theorem dX4_move_2 : decode cX4_move 2 = .ok (.putfield 55, 3) := by decide +kernel
theorem dX4_move_5 : decode cX4_move 5 = .ok (.aload_n 0, 1) := by decide +kernel
theorem dX4_move_6 : decode cX4_move 6 = .ok (.iload_n 2, 1) := by decide +kernel
theorem dX4_move_7 : decode cX4_move 7 = .ok (.iload_n 1, 1) := by decide +kernel
theorem dX4_move_8 : decode cX4_move 8 = .ok (.invokevirtual 75, 3) := by decide +kernel
theorem dX4_move_11 : decode cX4_move 11 = .ok (.ifCond .eq 11, 3) := by decide +kernel
theorem dX4_move_14 : decode cX4_move 14 = .ok (.aload_n 0, 1) := by decide +kernel
theorem dX4_move_15 : decode cX4_move 15 = .ok (.iload_n 3, 1) := by decide +kernel
theorem dX4_move_16 : decode cX4_move 16 = .ok (.invokevirtual 68, 3) := by decide +kernel
theorem dX4_move_19 : decode cX4_move 19 = .ok (.ifCond .ne 5, 3) := by decide +kernel
theorem dX4_move_22 : decode cX4_move 22 = .ok (.iconst (-1), 1) := by decide +kernel
theorem dX4_move_23 : decode cX4_move 23 = .ok (.ireturn, 1) := by decide +kernel
theorem dX4_move_24 : decode cX4_move 24 = .ok (.iload_n 2, 1) := by decide +kernel
theorem dX4_move_25 : decode cX4_move 25 = .ok (.iload_n 3, 1) := by decide +kernel
theorem dX4_move_26 : decode cX4_move 26 = .ok (.if_icmp .eq 30, 3) := by decide +kernel
theorem dX4_move_29 : decode cX4_move 29 = .ok (.aload_n 0, 1) := by decide +kernel
theorem dX4_move_30 : decode cX4_move 30 = .ok (.getfield 13, 3) := by decide +kernel
theorem dX4_move_33 : decode cX4_move 33 = .ok (.iload_n 2, 1) := by decide +kernel
theorem dX4_move_34 : decode cX4_move 34 = .ok (.baload, 1) := by decide +kernel
theorem dX4_move_35 : decode cX4_move 35 = .ok (.ifCond .ne 21, 3) := by decide +kernel
theorem dX4_move_38 : decode cX4_move 38 = .ok (.aload_n 0, 1) := by decide +kernel
theorem dX4_move_39 : decode cX4_move 39 = .ok (.getfield 13, 3) := by decide +kernel
theorem dX4_move_42 : decode cX4_move 42 = .ok (.iload_n 3, 1) := by decide +kernel
theorem dX4_move_43 : decode cX4_move 43 = .ok (.baload, 1) := by decide +kernel
theorem dX4_move_44 : decode cX4_move 44 = .ok (.ifCond .ne 12, 3) := by decide +kernel
theorem dX4_move_47 : decode cX4_move 47 = .ok (.aload_n 0, 1) := by decide +kernel
theorem dX4_move_48 : decode cX4_move 48 = .ok (.iload_n 3, 1) := by decide +kernel
theorem dX4_move_49 : decode cX4_move 49 = .ok (.iload_n 1, 1) := by decide +kernel
theorem dX4_move_50 : decode cX4_move 50 = .ok (.invokevirtual 75, 3) := by decide +kernel
theorem dX4_move_53 : decode cX4_move 53 = .ok (.ifCond .eq 6, 3) := by decide +kernel
theorem dX4_move_56 : decode cX4_move 56 = .ok (.bipush (-3), 2) := by decide +kernel
theorem dX4_move_58 : decode cX4_move 58 = .ok (.ireturn, 1) := by decide +kernel
theorem dX4_move_59 : decode cX4_move 59 = .ok (.aload_n 0, 1) := by decide +kernel
theorem dX4_move_60 : decode cX4_move 60 = .ok (.iload_n 1, 1) := by decide +kernel
theorem dX4_move_61 : decode cX4_move 61 = .ok (.iload_n 2, 1) := by decide +kernel
theorem dX4_move_62 : decode cX4_move 62 = .ok (.iload_n 3, 1) := by decide +kernel
theorem dX4_move_63 : decode cX4_move 63 = .ok (.invokevirtual 109, 3) := by decide +kernel
theorem dX4_move_66 : decode cX4_move 66 = .ok (.aload_n 0, 1) := by decide +kernel
theorem dX4_move_67 : decode cX4_move 67 = .ok (.getfield 33, 3) := by decide +kernel
theorem dX4_move_70 : decode cX4_move 70 = .ok (.bipush 40, 2) := by decide +kernel
theorem dX4_move_72 : decode cX4_move 72 = .ok (.iload_n 2, 1) := by decide +kernel
theorem dX4_move_73 : decode cX4_move 73 = .ok (.imul, 1) := by decide +kernel
theorem dX4_move_74 : decode cX4_move 74 = .ok (.iload_n 1, 1) := by decide +kernel
theorem dX4_move_75 : decode cX4_move 75 = .ok (.iadd, 1) := by decide +kernel
theorem dX4_move_76 : decode cX4_move 76 = .ok (.iconst (-1), 1) := by decide +kernel
theorem dX4_move_77 : decode cX4_move 77 = .ok (.iastore, 1) := by decide +kernel
theorem dX4_move_78 : decode cX4_move 78 = .ok (.iconst 1, 1) := by decide +kernel
theorem dX4_move_79 : decode cX4_move 79 = .ok (.ireturn, 1) := by decide +kernel
theorem dX4_rate_0 : decode cX4_rate 0 = .ok (.aload_n 0, 1) := by decide +kernel
theorem dX4_rate_1 : decode cX4_rate 1 = .ok (.iconst 0, 1) := by decide +kernel
theorem dX4_rate_2 : decode cX4_rate 2 = .ok (.putfield 55, 3) := by decide +kernel
theorem dX4_rate_5 : decode cX4_rate 5 = .ok (.aload_n 0, 1) := by decide +kernel
theorem dX4_rate_6 : decode cX4_rate 6 = .ok (.iload_n 1, 1) := by decide +kernel
theorem dX4_rate_7 : decode cX4_rate 7 = .ok (.invokevirtual 68, 3) := by decide +kernel
theorem dX4_rate_10 : decode cX4_rate 10 = .ok (.ifCond .ne 5, 3) := by decide +kernel
theorem dX4_rate_13 : decode cX4_rate 13 = .ok (.iconst (-1), 1) := by decide +kernel
theorem dX4_rate_14 : decode cX4_rate 14 = .ok (.ireturn, 1) := by decide +kernel
theorem dX4_rate_15 : decode cX4_rate 15 = .ok (.iload_n 3, 1) := by decide +kernel
theorem dX4_rate_16 : decode cX4_rate 16 = .ok (.iconst 1, 1) := by decide +kernel
theorem dX4_rate_17 : decode cX4_rate 17 = .ok (.sipush 1000, 3) := by decide +kernel
theorem dX4_rate_20 : decode cX4_rate 20 = .ok (.invokestatic 61, 3) := by decide +kernel
theorem dX4_rate_23 : decode cX4_rate 23 = .ok (.ifCond .eq 12, 3) := by decide +kernel
theorem dX4_rate_26 : decode cX4_rate 26 = .ok (.iload_n 2, 1) := by decide +kernel
theorem dX4_rate_27 : decode cX4_rate 27 = .ok (.iconst 0, 1) := by decide +kernel
theorem dX4_rate_28 : decode cX4_rate 28 = .ok (.iload_n 3, 1) := by decide +kernel
theorem dX4_rate_29 : decode cX4_rate 29 = .ok (.invokestatic 61, 3) := by decide +kernel
theorem dX4_rate_32 : decode cX4_rate 32 = .ok (.ifCond .ne 6, 3) := by decide +kernel
theorem dX4_rate_35 : decode cX4_rate 35 = .ok (.bipush (-2), 2) := by decide +kernel
theorem dX4_rate_37 : decode cX4_rate 37 = .ok (.ireturn, 1) := by decide +kernel
theorem dX4_rate_38 : decode cX4_rate 38 = .ok (.aload_n 0, 1) := by decide +kernel
theorem dX4_rate_39 : decode cX4_rate 39 = .ok (.getfield 17, 3) := by decide +kernel
theorem dX4_rate_42 : decode cX4_rate 42 = .ok (.iload_n 1, 1) := by decide +kernel
theorem dX4_rate_43 : decode cX4_rate 43 = .ok (.iload_n 2, 1) := by decide +kernel
theorem dX4_rate_44 : decode cX4_rate 44 = .ok (.iastore, 1) := by decide +kernel
theorem dX4_rate_45 : decode cX4_rate 45 = .ok (.aload_n 0, 1) := by decide +kernel
theorem dX4_rate_46 : decode cX4_rate 46 = .ok (.getfield 20, 3) := by decide +kernel
theorem dX4_rate_49 : decode cX4_rate 49 = .ok (.iload_n 1, 1) := by decide +kernel
theorem dX4_rate_50 : decode cX4_rate 50 = .ok (.iload_n 3, 1) := by decide +kernel
theorem dX4_rate_51 : decode cX4_rate 51 = .ok (.iastore, 1) := by decide +kernel
theorem dX4_rate_52 : decode cX4_rate 52 = .ok (.iconst 1, 1) := by decide +kernel
theorem dX4_rate_53 : decode cX4_rate 53 = .ok (.ireturn, 1) := by decide +kernel
theorem dX4_odds_0 : decode cX4_odds 0 = .ok (.aload_n 0, 1) := by decide +kernel
theorem dX4_odds_1 : decode cX4_odds 1 = .ok (.iconst 0, 1) := by decide +kernel
theorem dX4_odds_2 : decode cX4_odds 2 = .ok (.putfield 55, 3) := by decide +kernel
theorem dX4_odds_5 : decode cX4_odds 5 = .ok (.aload_n 0, 1) := by decide +kernel
theorem dX4_odds_6 : decode cX4_odds 6 = .ok (.iload_n 1, 1) := by decide +kernel
theorem dX4_odds_7 : decode cX4_odds 7 = .ok (.invokevirtual 72, 3) := by decide +kernel
theorem dX4_odds_10 : decode cX4_odds 10 = .ok (.ifCond .ne 7, 3) := by decide +kernel
theorem dX4_odds_13 : decode cX4_odds 13 = .ok (.ldc2_w 117, 3) := by decide +kernel
theorem dX4_odds_16 : decode cX4_odds 16 = .ok (.lreturn, 1) := by decide +kernel
theorem dX4_odds_17 : decode cX4_odds 17 = .ok (.aload_n 0, 1) := by decide +kernel
theorem dX4_odds_18 : decode cX4_odds 18 = .ok (.iload_n 1, 1) := by decide +kernel
theorem dX4_odds_19 : decode cX4_odds 19 = .ok (.invokevirtual 103, 3) := by decide +kernel
theorem dX4_odds_22 : decode cX4_odds 22 = .ok (.istore_n 3, 1) := by decide +kernel
theorem dX4_odds_23 : decode cX4_odds 23 = .ok (.lconst 1, 1) := by decide +kernel
theorem dX4_odds_24 : decode cX4_odds 24 = .ok (.lstore 4, 2) := by decide +kernel
theorem dX4_odds_26 : decode cX4_odds 26 = .ok (.lconst 1, 1) := by decide +kernel
theorem dX4_odds_27 : decode cX4_odds 27 = .ok (.lstore 6, 2) := by decide +kernel
theorem dX4_odds_29 : decode cX4_odds 29 = .ok (.iconst 0, 1) := by decide +kernel
theorem dX4_odds_30 : decode cX4_odds 30 = .ok (.istore 8, 2) := by decide +kernel
theorem dX4_odds_32 : decode cX4_odds 32 = .ok (.iload 8, 2) := by decide +kernel
theorem dX4_odds_34 : decode cX4_odds 34 = .ok (.aload_n 0, 1) := by decide +kernel
theorem dX4_odds_35 : decode cX4_odds 35 = .ok (.getfield 58, 3) := by decide +kernel
theorem dX4_odds_38 : decode cX4_odds 38 = .ok (.if_icmp .ge 85, 3) := by decide +kernel
theorem dX4_odds_41 : decode cX4_odds 41 = .ok (.aload_n 0, 1) := by decide +kernel
theorem dX4_odds_42 : decode cX4_odds 42 = .ok (.iload 8, 2) := by decide +kernel
theorem dX4_odds_44 : decode cX4_odds 44 = .ok (.iload_n 1, 1) := by decide +kernel
theorem dX4_odds_45 : decode cX4_odds 45 = .ok (.invokevirtual 89, 3) := by decide +kernel
theorem dX4_odds_48 : decode cX4_odds 48 = .ok (.ifCond .eq 69, 3) := by decide +kernel
theorem dX4_odds_51 : decode cX4_odds 51 = .ok (.iload_n 3, 1) := by decide +kernel
theorem dX4_odds_52 : decode cX4_odds 52 = .ok (.ifCond .lt 22, 3) := by decide +kernel
theorem dX4_odds_55 : decode cX4_odds 55 = .ok (.aload_n 0, 1) := by decide +kernel
theorem dX4_odds_56 : decode cX4_odds 56 = .ok (.iload 8, 2) := by decide +kernel
theorem dX4_odds_58 : decode cX4_odds 58 = .ok (.iload_n 1, 1) := by decide +kernel
theorem dX4_odds_59 : decode cX4_odds 59 = .ok (.invokevirtual 92, 3) := by decide +kernel
theorem dX4_odds_62 : decode cX4_odds 62 = .ok (.aload_n 0, 1) := by decide +kernel
theorem dX4_odds_63 : decode cX4_odds 63 = .ok (.iload_n 3, 1) := by decide +kernel
theorem dX4_odds_64 : decode cX4_odds 64 = .ok (.iload_n 1, 1) := by decide +kernel
theorem dX4_odds_65 : decode cX4_odds 65 = .ok (.invokevirtual 92, 3) := by decide +kernel
theorem dX4_odds_68 : decode cX4_odds 68 = .ok (.if_icmp .eq 6, 3) := by decide +kernel
theorem dX4_odds_71 : decode cX4_odds 71 = .ok (.goto 46, 3) := by decide +kernel
theorem dX4_odds_74 : decode cX4_odds 74 = .ok (.aload_n 0, 1) := by decide +kernel
theorem dX4_odds_75 : decode cX4_odds 75 = .ok (.getfield 20, 3) := by decide +kernel
theorem dX4_odds_78 : decode cX4_odds 78 = .ok (.iload 8, 2) := by decide +kernel
theorem dX4_odds_80 : decode cX4_odds 80 = .ok (.iaload, 1) := by decide +kernel
theorem dX4_odds_81 : decode cX4_odds 81 = .ok (.ifCond .ne 10, 3) := by decide +kernel
theorem dX4_odds_84 : decode cX4_odds 84 = .ok (.aload_n 0, 1) := by decide +kernel
theorem dX4_odds_85 : decode cX4_odds 85 = .ok (.iconst 1, 1) := by decide +kernel
theorem dX4_odds_86 : decode cX4_odds 86 = .ok (.putfield 55, 3) := by decide +kernel
theorem dX4_odds_89 : decode cX4_odds 89 = .ok (.lconst 0, 1) := by decide +kernel
theorem dX4_odds_90 : decode cX4_odds 90 = .ok (.lreturn, 1) := by decide +kernel
theorem dX4_odds_91 : decode cX4_odds 91 = .ok (.lload 4, 2) := by decide +kernel
theorem dX4_odds_93 : decode cX4_odds 93 = .ok (.aload_n 0, 1) := by decide +kernel
theorem dX4_odds_94 : decode cX4_odds 94 = .ok (.getfield 17, 3) := by decide +kernel
theorem dX4_odds_97 : decode cX4_odds 97 = .ok (.iload 8, 2) := by decide +kernel
theorem dX4_odds_99 : decode cX4_odds 99 = .ok (.iaload, 1) := by decide +kernel
theorem dX4_odds_100 : decode cX4_odds 100 = .ok (.i2l, 1) := by decide +kernel
theorem dX4_odds_101 : decode cX4_odds 101 = .ok (.lmul, 1) := by decide +kernel
theorem dX4_odds_102 : decode cX4_odds 102 = .ok (.lstore 4, 2) := by decide +kernel
theorem dX4_odds_104 : decode cX4_odds 104 = .ok (.lload 6, 2) := by decide +kernel
theorem dX4_odds_106 : decode cX4_odds 106 = .ok (.aload_n 0, 1) := by decide +kernel
theorem dX4_odds_107 : decode cX4_odds 107 = .ok (.getfield 20, 3) := by decide +kernel
theorem dX4_odds_110 : decode cX4_odds 110 = .ok (.iload 8, 2) := by decide +kernel
theorem dX4_odds_112 : decode cX4_odds 112 = .ok (.iaload, 1) := by decide +kernel
theorem dX4_odds_113 : decode cX4_odds 113 = .ok (.i2l, 1) := by decide +kernel
theorem dX4_odds_114 : decode cX4_odds 114 = .ok (.lmul, 1) := by decide +kernel
theorem dX4_odds_115 : decode cX4_odds 115 = .ok (.lstore 6, 2) := by decide +kernel
theorem dX4_odds_117 : decode cX4_odds 117 = .ok (.iinc 8 1, 3) := by decide +kernel
theorem dX4_odds_120 : decode cX4_odds 120 = .ok (.goto (-88), 3) := by decide +kernel
theorem dX4_odds_123 : decode cX4_odds 123 = .ok (.lload 4, 2) := by decide +kernel
theorem dX4_odds_125 : decode cX4_odds 125 = .ok (.lstore 8, 2) := by decide +kernel
theorem dX4_odds_127 : decode cX4_odds 127 = .ok (.lload 6, 2) := by decide +kernel
theorem dX4_odds_129 : decode cX4_odds 129 = .ok (.lstore 10, 2) := by decide +kernel
theorem dX4_odds_131 : decode cX4_odds 131 = .ok (.lload 10, 2) := by decide +kernel
theorem dX4_odds_133 : decode cX4_odds 133 = .ok (.lconst 0, 1) := by decide +kernel
theorem dX4_odds_134 : decode cX4_odds 134 = .ok (.lcmp, 1) := by decide +kernel
theorem dX4_odds_135 : decode cX4_odds 135 = .ok (.ifCond .le 21, 3) := by decide +kernel
theorem dX4_odds_138 : decode cX4_odds 138 = .ok (.lload 8, 2) := by decide +kernel
theorem dX4_odds_140 : decode cX4_odds 140 = .ok (.lload 10, 2) := by decide +kernel
theorem dX4_odds_142 : decode cX4_odds 142 = .ok (.lrem, 1) := by decide +kernel
theorem dX4_odds_143 : decode cX4_odds 143 = .ok (.lstore 12, 2) := by decide +kernel
theorem dX4_odds_145 : decode cX4_odds 145 = .ok (.lload 10, 2) := by decide +kernel
theorem dX4_odds_147 : decode cX4_odds 147 = .ok (.lstore 8, 2) := by decide +kernel
theorem dX4_odds_149 : decode cX4_odds 149 = .ok (.lload 12, 2) := by decide +kernel
theorem dX4_odds_151 : decode cX4_odds 151 = .ok (.lstore 10, 2) := by decide +kernel
theorem dX4_odds_153 : decode cX4_odds 153 = .ok (.goto (-22), 3) := by decide +kernel
theorem dX4_odds_156 : decode cX4_odds 156 = .ok (.iload_n 2, 1) := by decide +kernel
theorem dX4_odds_157 : decode cX4_odds 157 = .ok (.ifCond .ne 11, 3) := by decide +kernel
theorem dX4_odds_160 : decode cX4_odds 160 = .ok (.lload 4, 2) := by decide +kernel
theorem dX4_odds_162 : decode cX4_odds 162 = .ok (.lload 8, 2) := by decide +kernel
theorem dX4_odds_164 : decode cX4_odds 164 = .ok (.ldiv, 1) := by decide +kernel
theorem dX4_odds_165 : decode cX4_odds 165 = .ok (.goto 8, 3) := by decide +kernel
theorem dX4_odds_168 : decode cX4_odds 168 = .ok (.lload 6, 2) := by decide +kernel
theorem dX4_odds_170 : decode cX4_odds 170 = .ok (.lload 8, 2) := by decide +kernel
theorem dX4_odds_172 : decode cX4_odds 172 = .ok (.ldiv, 1) := by decide +kernel
theorem dX4_odds_173 : decode cX4_odds 173 = .ok (.lreturn, 1) := by decide +kernel
theorem dX4_at_0 : decode cX4_at 0 = .ok (.aload_n 0, 1) := by decide +kernel
theorem dX4_at_1 : decode cX4_at 1 = .ok (.iconst 0, 1) := by decide +kernel
theorem dX4_at_2 : decode cX4_at 2 = .ok (.putfield 55, 3) := by decide +kernel
theorem dX4_at_5 : decode cX4_at 5 = .ok (.aload_n 0, 1) := by decide +kernel
theorem dX4_at_6 : decode cX4_at 6 = .ok (.iload_n 1, 1) := by decide +kernel
theorem dX4_at_7 : decode cX4_at 7 = .ok (.iload_n 2, 1) := by decide +kernel
theorem dX4_at_8 : decode cX4_at 8 = .ok (.invokevirtual 75, 3) := by decide +kernel
theorem dX4_at_11 : decode cX4_at 11 = .ok (.ifCond .ne 5, 3) := by decide +kernel
theorem dX4_at_14 : decode cX4_at 14 = .ok (.iconst (-1), 1) := by decide +kernel
theorem dX4_at_15 : decode cX4_at 15 = .ok (.ireturn, 1) := by decide +kernel
theorem dX4_at_16 : decode cX4_at 16 = .ok (.aload_n 0, 1) := by decide +kernel
theorem dX4_at_17 : decode cX4_at 17 = .ok (.iload_n 3, 1) := by decide +kernel
theorem dX4_at_18 : decode cX4_at 18 = .ok (.iconst 0, 1) := by decide +kernel
theorem dX4_at_19 : decode cX4_at 19 = .ok (.aload_n 0, 1) := by decide +kernel
theorem dX4_at_20 : decode cX4_at 20 = .ok (.getfield 33, 3) := by decide +kernel
theorem dX4_at_23 : decode cX4_at 23 = .ok (.bipush 40, 2) := by decide +kernel
theorem dX4_at_25 : decode cX4_at 25 = .ok (.iload_n 1, 1) := by decide +kernel
theorem dX4_at_26 : decode cX4_at 26 = .ok (.imul, 1) := by decide +kernel
theorem dX4_at_27 : decode cX4_at 27 = .ok (.iload_n 2, 1) := by decide +kernel
theorem dX4_at_28 : decode cX4_at 28 = .ok (.iadd, 1) := by decide +kernel
theorem dX4_at_29 : decode cX4_at 29 = .ok (.iaload, 1) := by decide +kernel
theorem dX4_at_30 : decode cX4_at 30 = .ok (.iconst 1, 1) := by decide +kernel
theorem dX4_at_31 : decode cX4_at 31 = .ok (.isub, 1) := by decide +kernel
theorem dX4_at_32 : decode cX4_at 32 = .ok (.invokestatic 61, 3) := by decide +kernel
theorem dX4_at_35 : decode cX4_at 35 = .ok (.ifCond .eq 7, 3) := by decide +kernel
theorem dX4_at_38 : decode cX4_at 38 = .ok (.iconst 0, 1) := by decide +kernel
theorem dX4_at_39 : decode cX4_at 39 = .ok (.goto 4, 3) := by decide +kernel
theorem dX4_at_42 : decode cX4_at 42 = .ok (.iconst 1, 1) := by decide +kernel
theorem dX4_at_43 : decode cX4_at 43 = .ok (.putfield 55, 3) := by decide +kernel
theorem dX4_at_46 : decode cX4_at 46 = .ok (.aload_n 0, 1) := by decide +kernel
theorem dX4_at_47 : decode cX4_at 47 = .ok (.getfield 55, 3) := by decide +kernel
theorem dX4_at_50 : decode cX4_at 50 = .ok (.ifCond .le 7, 3) := by decide +kernel
theorem dX4_at_53 : decode cX4_at 53 = .ok (.iconst 0, 1) := by decide +kernel
theorem dX4_at_54 : decode cX4_at 54 = .ok (.goto 23, 3) := by decide +kernel
theorem dX4_at_57 : decode cX4_at 57 = .ok (.aload_n 0, 1) := by decide +kernel
theorem dX4_at_58 : decode cX4_at 58 = .ok (.getfield 36, 3) := by decide +kernel
theorem dX4_at_61 : decode cX4_at 61 = .ok (.bipush 16, 2) := by decide +kernel
theorem dX4_at_63 : decode cX4_at 63 = .ok (.bipush 40, 2) := by decide +kernel
theorem dX4_at_65 : decode cX4_at 65 = .ok (.iload_n 1, 1) := by decide +kernel
theorem dX4_at_66 : decode cX4_at 66 = .ok (.imul, 1) := by decide +kernel
theorem dX4_at_67 : decode cX4_at 67 = .ok (.iload_n 2, 1) := by decide +kernel
theorem dX4_at_68 : decode cX4_at 68 = .ok (.iadd, 1) := by decide +kernel
theorem dX4_at_69 : decode cX4_at 69 = .ok (.imul, 1) := by decide +kernel
theorem dX4_at_70 : decode cX4_at 70 = .ok (.iload_n 3, 1) := by decide +kernel
theorem dX4_at_71 : decode cX4_at 71 = .ok (.iadd, 1) := by decide +kernel
theorem dX4_at_72 : decode cX4_at 72 = .ok (.baload, 1) := by decide +kernel
theorem dX4_at_73 : decode cX4_at 73 = .ok (.sipush 255, 3) := by decide +kernel
theorem dX4_at_76 : decode cX4_at 76 = .ok (.iand, 1) := by decide +kernel
theorem dX4_at_77 : decode cX4_at 77 = .ok (.ireturn, 1) := by decide +kernel
theorem dX4_about_0 : decode cX4_about 0 = .ok (.aload_n 0, 1) := by decide +kernel
theorem dX4_about_1 : decode cX4_about 1 = .ok (.iconst 0, 1) := by decide +kernel
theorem dX4_about_2 : decode cX4_about 2 = .ok (.putfield 55, 3) := by decide +kernel
theorem dX4_about_5 : decode cX4_about 5 = .ok (.aload_n 0, 1) := by decide +kernel
theorem dX4_about_6 : decode cX4_about 6 = .ok (.iload_n 1, 1) := by decide +kernel
theorem dX4_about_7 : decode cX4_about 7 = .ok (.invokevirtual 72, 3) := by decide +kernel
theorem dX4_about_10 : decode cX4_about 10 = .ok (.ifCond .ne 5, 3) := by decide +kernel
theorem dX4_about_13 : decode cX4_about 13 = .ok (.iconst (-1), 1) := by decide +kernel
theorem dX4_about_14 : decode cX4_about 14 = .ok (.ireturn, 1) := by decide +kernel
theorem dX4_about_15 : decode cX4_about 15 = .ok (.iload_n 2, 1) := by decide +kernel
theorem dX4_about_16 : decode cX4_about 16 = .ok (.tableswitch 60 0 3 #[32, 39, 46, 53], 32) := by decide +kernel
theorem dX4_about_48 : decode cX4_about 48 = .ok (.aload_n 0, 1) := by decide +kernel
theorem dX4_about_49 : decode cX4_about 49 = .ok (.getfield 27, 3) := by decide +kernel
theorem dX4_about_52 : decode cX4_about 52 = .ok (.iload_n 1, 1) := by decide +kernel
theorem dX4_about_53 : decode cX4_about 53 = .ok (.iaload, 1) := by decide +kernel
theorem dX4_about_54 : decode cX4_about 54 = .ok (.ireturn, 1) := by decide +kernel
theorem dX4_about_55 : decode cX4_about 55 = .ok (.aload_n 0, 1) := by decide +kernel
theorem dX4_about_56 : decode cX4_about 56 = .ok (.iload_n 1, 1) := by decide +kernel
theorem dX4_about_57 : decode cX4_about 57 = .ok (.iconst 1, 1) := by decide +kernel
theorem dX4_about_58 : decode cX4_about 58 = .ok (.invokevirtual 113, 3) := by decide +kernel
theorem dX4_about_61 : decode cX4_about 61 = .ok (.ireturn, 1) := by decide +kernel
theorem dX4_about_62 : decode cX4_about 62 = .ok (.aload_n 0, 1) := by decide +kernel
theorem dX4_about_63 : decode cX4_about 63 = .ok (.iload_n 1, 1) := by decide +kernel
theorem dX4_about_64 : decode cX4_about 64 = .ok (.iconst 0, 1) := by decide +kernel
theorem dX4_about_65 : decode cX4_about 65 = .ok (.invokevirtual 113, 3) := by decide +kernel
theorem dX4_about_68 : decode cX4_about 68 = .ok (.ireturn, 1) := by decide +kernel
theorem dX4_about_69 : decode cX4_about 69 = .ok (.aload_n 0, 1) := by decide +kernel
theorem dX4_about_70 : decode cX4_about 70 = .ok (.getfield 30, 3) := by decide +kernel
theorem dX4_about_73 : decode cX4_about 73 = .ok (.iload_n 1, 1) := by decide +kernel
theorem dX4_about_74 : decode cX4_about 74 = .ok (.iaload, 1) := by decide +kernel
theorem dX4_about_75 : decode cX4_about 75 = .ok (.ireturn, 1) := by decide +kernel
theorem dX4_about_76 : decode cX4_about 76 = .ok (.iconst (-1), 1) := by decide +kernel
theorem dX4_about_77 : decode cX4_about 77 = .ok (.ireturn, 1) := by decide +kernel
theorem dX4_load_0 : decode cX4_load 0 = .ok (.aload_n 0, 1) := by decide +kernel
theorem dX4_load_1 : decode cX4_load 1 = .ok (.iconst 0, 1) := by decide +kernel
theorem dX4_load_2 : decode cX4_load 2 = .ok (.putfield 55, 3) := by decide +kernel
theorem dX4_load_5 : decode cX4_load 5 = .ok (.aload_n 0, 1) := by decide +kernel
theorem dX4_load_6 : decode cX4_load 6 = .ok (.iload_n 1, 1) := by decide +kernel
theorem dX4_load_7 : decode cX4_load 7 = .ok (.invokevirtual 68, 3) := by decide +kernel
theorem dX4_load_10 : decode cX4_load 10 = .ok (.ifCond .eq 11, 3) := by decide +kernel
theorem dX4_load_13 : decode cX4_load 13 = .ok (.aload_n 0, 1) := by decide +kernel
theorem dX4_load_14 : decode cX4_load 14 = .ok (.iload_n 1, 1) := by decide +kernel
theorem dX4_load_15 : decode cX4_load 15 = .ok (.invokevirtual 82, 3) := by decide +kernel
theorem dX4_load_18 : decode cX4_load 18 = .ok (.goto 4, 3) := by decide +kernel
theorem dX4_load_21 : decode cX4_load 21 = .ok (.iconst (-1), 1) := by decide +kernel
theorem dX4_load_22 : decode cX4_load 22 = .ok (.ireturn, 1) := by decide +kernel
end
section
theorem dL_cell_0 : decode cL_cell 0 = .ok (.iload_n 1, 1) := by decide +kernel
theorem dL_cell_1 : decode cL_cell 1 = .ok (.aload_n 0, 1) := by decide +kernel
theorem dL_cell_2 : decode cL_cell 2 = .ok (.arraylength, 1) := by decide +kernel
theorem dL_cell_3 : decode cL_cell 3 = .ok (.if_icmp .ge 9, 3) := by decide +kernel
theorem dL_cell_6 : decode cL_cell 6 = .ok (.aload_n 0, 1) := by decide +kernel
theorem dL_cell_7 : decode cL_cell 7 = .ok (.iload_n 1, 1) := by decide +kernel
theorem dL_cell_8 : decode cL_cell 8 = .ok (.iaload, 1) := by decide +kernel
theorem dL_cell_9 : decode cL_cell 9 = .ok (.goto 4, 3) := by decide +kernel
theorem dL_cell_12 : decode cL_cell 12 = .ok (.iconst 0, 1) := by decide +kernel
theorem dL_cell_13 : decode cL_cell 13 = .ok (.ireturn, 1) := by decide +kernel
theorem dL_polled_0 : decode cL_polled 0 = .ok (.aload_n 3, 1) := by decide +kernel
theorem dL_polled_1 : decode cL_polled 1 = .ok (.iconst 0, 1) := by decide +kernel
theorem dL_polled_2 : decode cL_polled 2 = .ok (.aload_n 0, 1) := by decide +kernel
theorem dL_polled_3 : decode cL_polled 3 = .ok (.iload_n 1, 1) := by decide +kernel
theorem dL_polled_4 : decode cL_polled 4 = .ok (.iload_n 2, 1) := by decide +kernel
theorem dL_polled_5 : decode cL_polled 5 = .ok (.invokevirtual 7, 3) := by decide +kernel
theorem dL_polled_8 : decode cL_polled 8 = .ok (.i2l, 1) := by decide +kernel
theorem dL_polled_9 : decode cL_polled 9 = .ok (.lastore, 1) := by decide +kernel
theorem dL_polled_10 : decode cL_polled 10 = .ok (.goto 7, 3) := by decide +kernel
theorem dL_polled_13 : decode cL_polled 13 = .ok (.astore 4, 2) := by decide +kernel
theorem dL_polled_15 : decode cL_polled 15 = .ok (.iconst 1, 1) := by decide +kernel
theorem dL_polled_16 : decode cL_polled 16 = .ok (.ireturn, 1) := by decide +kernel
theorem dL_polled_17 : decode cL_polled 17 = .ok (.iconst 0, 1) := by decide +kernel
theorem dL_polled_18 : decode cL_polled 18 = .ok (.ireturn, 1) := by decide +kernel
theorem dL_odds_0 : decode cL_odds 0 = .ok (.aload_n 3, 1) := by decide +kernel
theorem dL_odds_1 : decode cL_odds 1 = .ok (.iconst 0, 1) := by decide +kernel
theorem dL_odds_2 : decode cL_odds 2 = .ok (.aload_n 0, 1) := by decide +kernel
theorem dL_odds_3 : decode cL_odds 3 = .ok (.iload_n 1, 1) := by decide +kernel
theorem dL_odds_4 : decode cL_odds 4 = .ok (.iload_n 2, 1) := by decide +kernel
theorem dL_odds_5 : decode cL_odds 5 = .ok (.invokevirtual 15, 3) := by decide +kernel
theorem dL_odds_8 : decode cL_odds 8 = .ok (.lastore, 1) := by decide +kernel
theorem dL_odds_9 : decode cL_odds 9 = .ok (.goto 7, 3) := by decide +kernel
theorem dL_odds_12 : decode cL_odds 12 = .ok (.astore 4, 2) := by decide +kernel
theorem dL_odds_14 : decode cL_odds 14 = .ok (.iconst 1, 1) := by decide +kernel
theorem dL_odds_15 : decode cL_odds 15 = .ok (.ireturn, 1) := by decide +kernel
theorem dL_odds_16 : decode cL_odds 16 = .ok (.iconst 0, 1) := by decide +kernel
theorem dL_odds_17 : decode cL_odds 17 = .ok (.ireturn, 1) := by decide +kernel
theorem dL_at_0 : decode cL_at 0 = .ok (.aload 4, 2) := by decide +kernel
theorem dL_at_2 : decode cL_at 2 = .ok (.iconst 0, 1) := by decide +kernel
theorem dL_at_3 : decode cL_at 3 = .ok (.aload_n 0, 1) := by decide +kernel
theorem dL_at_4 : decode cL_at 4 = .ok (.iload_n 1, 1) := by decide +kernel
theorem dL_at_5 : decode cL_at 5 = .ok (.iload_n 2, 1) := by decide +kernel
theorem dL_at_6 : decode cL_at 6 = .ok (.iload_n 3, 1) := by decide +kernel
theorem dL_at_7 : decode cL_at 7 = .ok (.invokevirtual 21, 3) := by decide +kernel
theorem dL_at_10 : decode cL_at 10 = .ok (.i2l, 1) := by decide +kernel
theorem dL_at_11 : decode cL_at 11 = .ok (.lastore, 1) := by decide +kernel
theorem dL_at_12 : decode cL_at 12 = .ok (.goto 7, 3) := by decide +kernel
theorem dL_at_15 : decode cL_at 15 = .ok (.astore 5, 2) := by decide +kernel
theorem dL_at_17 : decode cL_at 17 = .ok (.iconst 1, 1) := by decide +kernel
theorem dL_at_18 : decode cL_at 18 = .ok (.ireturn, 1) := by decide +kernel
theorem dL_at_19 : decode cL_at 19 = .ok (.iconst 0, 1) := by decide +kernel
theorem dL_at_20 : decode cL_at 20 = .ok (.ireturn, 1) := by decide +kernel
theorem dL_law_0 : decode cL_law 0 = .ok (.new 8, 3) := by decide +kernel
theorem dL_law_3 : decode cL_law 3 = .ok (.dup, 1) := by decide +kernel
theorem dL_law_4 : decode cL_law 4 = .ok (.aload_n 0, 1) := by decide +kernel
theorem dL_law_5 : decode cL_law 5 = .ok (.iconst 0, 1) := by decide +kernel
theorem dL_law_6 : decode cL_law 6 = .ok (.invokestatic 27, 3) := by decide +kernel
theorem dL_law_9 : decode cL_law 9 = .ok (.invokespecial 33, 3) := by decide +kernel
theorem dL_law_12 : decode cL_law 12 = .ok (.astore_n 1, 1) := by decide +kernel
theorem dL_law_13 : decode cL_law 13 = .ok (.new 36, 3) := by decide +kernel
theorem dL_law_16 : decode cL_law 16 = .ok (.dup, 1) := by decide +kernel
theorem dL_law_17 : decode cL_law 17 = .ok (.aload_n 0, 1) := by decide +kernel
theorem dL_law_18 : decode cL_law 18 = .ok (.iconst 0, 1) := by decide +kernel
theorem dL_law_19 : decode cL_law 19 = .ok (.invokestatic 27, 3) := by decide +kernel
theorem dL_law_22 : decode cL_law 22 = .ok (.invokespecial 38, 3) := by decide +kernel
theorem dL_law_25 : decode cL_law 25 = .ok (.astore_n 2, 1) := by decide +kernel
theorem dL_law_26 : decode cL_law 26 = .ok (.iconst 1, 1) := by decide +kernel
theorem dL_law_27 : decode cL_law 27 = .ok (.newarray .long, 2) := by decide +kernel
theorem dL_law_29 : decode cL_law 29 = .ok (.astore_n 3, 1) := by decide +kernel
theorem dL_law_30 : decode cL_law 30 = .ok (.iconst 1, 1) := by decide +kernel
theorem dL_law_31 : decode cL_law 31 = .ok (.istore 4, 2) := by decide +kernel
theorem dL_law_33 : decode cL_law 33 = .ok (.iload 4, 2) := by decide +kernel
theorem dL_law_35 : decode cL_law 35 = .ok (.aload_n 0, 1) := by decide +kernel
theorem dL_law_36 : decode cL_law 36 = .ok (.arraylength, 1) := by decide +kernel
theorem dL_law_37 : decode cL_law 37 = .ok (.iconst 5, 1) := by decide +kernel
theorem dL_law_38 : decode cL_law 38 = .ok (.isub, 1) := by decide +kernel
theorem dL_law_39 : decode cL_law 39 = .ok (.if_icmp .gt 953, 3) := by decide +kernel
theorem dL_law_42 : decode cL_law 42 = .ok (.aload_n 0, 1) := by decide +kernel
theorem dL_law_43 : decode cL_law 43 = .ok (.iload 4, 2) := by decide +kernel
theorem dL_law_45 : decode cL_law 45 = .ok (.iaload, 1) := by decide +kernel
theorem dL_law_46 : decode cL_law 46 = .ok (.bipush 31, 2) := by decide +kernel
theorem dL_law_48 : decode cL_law 48 = .ok (.iand, 1) := by decide +kernel
theorem dL_law_49 : decode cL_law 49 = .ok (.tableswitch 937 0 19 #[95, 120, 143, 168, 221, 282, 331, 368, 437, 505, 530, 543, 568, 605, 630, 679, 728, 795, 875, 912], 95) := by decide +kernel
theorem dL_law_144 : decode cL_law 144 = .ok (.aload_n 1, 1) := by decide +kernel
theorem dL_law_145 : decode cL_law 145 = .ok (.aload_n 0, 1) := by decide +kernel
theorem dL_law_146 : decode cL_law 146 = .ok (.iload 4, 2) := by decide +kernel
theorem dL_law_148 : decode cL_law 148 = .ok (.iconst 1, 1) := by decide +kernel
theorem dL_law_149 : decode cL_law 149 = .ok (.iadd, 1) := by decide +kernel
theorem dL_law_150 : decode cL_law 150 = .ok (.iaload, 1) := by decide +kernel
theorem dL_law_151 : decode cL_law 151 = .ok (.invokevirtual 39, 3) := by decide +kernel
theorem dL_law_154 : decode cL_law 154 = .ok (.aload_n 2, 1) := by decide +kernel
theorem dL_law_155 : decode cL_law 155 = .ok (.aload_n 0, 1) := by decide +kernel
theorem dL_law_156 : decode cL_law 156 = .ok (.iload 4, 2) := by decide +kernel
theorem dL_law_158 : decode cL_law 158 = .ok (.iconst 1, 1) := by decide +kernel
theorem dL_law_159 : decode cL_law 159 = .ok (.iadd, 1) := by decide +kernel
theorem dL_law_160 : decode cL_law 160 = .ok (.iaload, 1) := by decide +kernel
theorem dL_law_161 : decode cL_law 161 = .ok (.invokevirtual 43, 3) := by decide +kernel
theorem dL_law_164 : decode cL_law 164 = .ok (.if_icmp .eq 822, 3) := by decide +kernel
theorem dL_law_167 : decode cL_law 167 = .ok (.iconst 0, 1) := by decide +kernel
theorem dL_law_168 : decode cL_law 168 = .ok (.ireturn, 1) := by decide +kernel
theorem dL_law_169 : decode cL_law 169 = .ok (.aload_n 1, 1) := by decide +kernel
theorem dL_law_170 : decode cL_law 170 = .ok (.aload_n 0, 1) := by decide +kernel
theorem dL_law_171 : decode cL_law 171 = .ok (.iload 4, 2) := by decide +kernel
theorem dL_law_173 : decode cL_law 173 = .ok (.iconst 1, 1) := by decide +kernel
theorem dL_law_174 : decode cL_law 174 = .ok (.iadd, 1) := by decide +kernel
theorem dL_law_175 : decode cL_law 175 = .ok (.iaload, 1) := by decide +kernel
theorem dL_law_176 : decode cL_law 176 = .ok (.invokevirtual 44, 3) := by decide +kernel
theorem dL_law_179 : decode cL_law 179 = .ok (.aload_n 2, 1) := by decide +kernel
theorem dL_law_180 : decode cL_law 180 = .ok (.aload_n 0, 1) := by decide +kernel
theorem dL_law_181 : decode cL_law 181 = .ok (.iload 4, 2) := by decide +kernel
theorem dL_law_183 : decode cL_law 183 = .ok (.iconst 1, 1) := by decide +kernel
theorem dL_law_184 : decode cL_law 184 = .ok (.iadd, 1) := by decide +kernel
theorem dL_law_185 : decode cL_law 185 = .ok (.iaload, 1) := by decide +kernel
theorem dL_law_186 : decode cL_law 186 = .ok (.invokevirtual 47, 3) := by decide +kernel
theorem dL_law_189 : decode cL_law 189 = .ok (.goto 797, 3) := by decide +kernel
theorem dL_law_192 : decode cL_law 192 = .ok (.aload_n 1, 1) := by decide +kernel
theorem dL_law_193 : decode cL_law 193 = .ok (.aload_n 0, 1) := by decide +kernel
theorem dL_law_194 : decode cL_law 194 = .ok (.iload 4, 2) := by decide +kernel
theorem dL_law_196 : decode cL_law 196 = .ok (.iconst 1, 1) := by decide +kernel
theorem dL_law_197 : decode cL_law 197 = .ok (.iadd, 1) := by decide +kernel
theorem dL_law_198 : decode cL_law 198 = .ok (.iaload, 1) := by decide +kernel
theorem dL_law_199 : decode cL_law 199 = .ok (.invokevirtual 48, 3) := by decide +kernel
theorem dL_law_202 : decode cL_law 202 = .ok (.aload_n 2, 1) := by decide +kernel
theorem dL_law_203 : decode cL_law 203 = .ok (.aload_n 0, 1) := by decide +kernel
theorem dL_law_204 : decode cL_law 204 = .ok (.iload 4, 2) := by decide +kernel
theorem dL_law_206 : decode cL_law 206 = .ok (.iconst 1, 1) := by decide +kernel
theorem dL_law_207 : decode cL_law 207 = .ok (.iadd, 1) := by decide +kernel
theorem dL_law_208 : decode cL_law 208 = .ok (.iaload, 1) := by decide +kernel
theorem dL_law_209 : decode cL_law 209 = .ok (.invokevirtual 51, 3) := by decide +kernel
theorem dL_law_212 : decode cL_law 212 = .ok (.if_icmp .eq 774, 3) := by decide +kernel
theorem dL_law_215 : decode cL_law 215 = .ok (.iconst 0, 1) := by decide +kernel
theorem dL_law_216 : decode cL_law 216 = .ok (.ireturn, 1) := by decide +kernel
theorem dL_law_217 : decode cL_law 217 = .ok (.aload_n 1, 1) := by decide +kernel
theorem dL_law_218 : decode cL_law 218 = .ok (.aload_n 0, 1) := by decide +kernel
theorem dL_law_219 : decode cL_law 219 = .ok (.iload 4, 2) := by decide +kernel
theorem dL_law_221 : decode cL_law 221 = .ok (.iconst 1, 1) := by decide +kernel
theorem dL_law_222 : decode cL_law 222 = .ok (.iadd, 1) := by decide +kernel
theorem dL_law_223 : decode cL_law 223 = .ok (.iaload, 1) := by decide +kernel
theorem dL_law_224 : decode cL_law 224 = .ok (.aload_n 0, 1) := by decide +kernel
theorem dL_law_225 : decode cL_law 225 = .ok (.iload 4, 2) := by decide +kernel
theorem dL_law_227 : decode cL_law 227 = .ok (.iconst 2, 1) := by decide +kernel
theorem dL_law_228 : decode cL_law 228 = .ok (.iadd, 1) := by decide +kernel
theorem dL_law_229 : decode cL_law 229 = .ok (.iaload, 1) := by decide +kernel
theorem dL_law_230 : decode cL_law 230 = .ok (.ifCond .eq 7, 3) := by decide +kernel
theorem dL_law_233 : decode cL_law 233 = .ok (.iconst 1, 1) := by decide +kernel
theorem dL_law_234 : decode cL_law 234 = .ok (.goto 4, 3) := by decide +kernel
theorem dL_law_237 : decode cL_law 237 = .ok (.iconst 0, 1) := by decide +kernel
theorem dL_law_238 : decode cL_law 238 = .ok (.invokevirtual 52, 3) := by decide +kernel
theorem dL_law_241 : decode cL_law 241 = .ok (.aload_n 2, 1) := by decide +kernel
theorem dL_law_242 : decode cL_law 242 = .ok (.aload_n 0, 1) := by decide +kernel
theorem dL_law_243 : decode cL_law 243 = .ok (.iload 4, 2) := by decide +kernel
theorem dL_law_245 : decode cL_law 245 = .ok (.iconst 1, 1) := by decide +kernel
theorem dL_law_246 : decode cL_law 246 = .ok (.iadd, 1) := by decide +kernel
theorem dL_law_247 : decode cL_law 247 = .ok (.iaload, 1) := by decide +kernel
theorem dL_law_248 : decode cL_law 248 = .ok (.aload_n 0, 1) := by decide +kernel
theorem dL_law_249 : decode cL_law 249 = .ok (.iload 4, 2) := by decide +kernel
theorem dL_law_251 : decode cL_law 251 = .ok (.iconst 2, 1) := by decide +kernel
theorem dL_law_252 : decode cL_law 252 = .ok (.iadd, 1) := by decide +kernel
theorem dL_law_253 : decode cL_law 253 = .ok (.iaload, 1) := by decide +kernel
theorem dL_law_254 : decode cL_law 254 = .ok (.ifCond .eq 7, 3) := by decide +kernel
theorem dL_law_257 : decode cL_law 257 = .ok (.iconst 1, 1) := by decide +kernel
theorem dL_law_258 : decode cL_law 258 = .ok (.goto 4, 3) := by decide +kernel
theorem dL_law_261 : decode cL_law 261 = .ok (.iconst 0, 1) := by decide +kernel
theorem dL_law_262 : decode cL_law 262 = .ok (.invokevirtual 56, 3) := by decide +kernel
theorem dL_law_265 : decode cL_law 265 = .ok (.if_icmp .eq 721, 3) := by decide +kernel
theorem dL_law_268 : decode cL_law 268 = .ok (.iconst 0, 1) := by decide +kernel
theorem dL_law_269 : decode cL_law 269 = .ok (.ireturn, 1) := by decide +kernel
theorem dL_law_270 : decode cL_law 270 = .ok (.aload_n 1, 1) := by decide +kernel
theorem dL_law_271 : decode cL_law 271 = .ok (.aload_n 0, 1) := by decide +kernel
theorem dL_law_272 : decode cL_law 272 = .ok (.iload 4, 2) := by decide +kernel
theorem dL_law_274 : decode cL_law 274 = .ok (.iconst 1, 1) := by decide +kernel
theorem dL_law_275 : decode cL_law 275 = .ok (.iadd, 1) := by decide +kernel
theorem dL_law_276 : decode cL_law 276 = .ok (.iaload, 1) := by decide +kernel
theorem dL_law_277 : decode cL_law 277 = .ok (.aload_n 0, 1) := by decide +kernel
theorem dL_law_278 : decode cL_law 278 = .ok (.iload 4, 2) := by decide +kernel
theorem dL_law_280 : decode cL_law 280 = .ok (.iconst 2, 1) := by decide +kernel
theorem dL_law_281 : decode cL_law 281 = .ok (.iadd, 1) := by decide +kernel
theorem dL_law_282 : decode cL_law 282 = .ok (.iaload, 1) := by decide +kernel
theorem dL_law_283 : decode cL_law 283 = .ok (.aload_n 0, 1) := by decide +kernel
theorem dL_law_284 : decode cL_law 284 = .ok (.iload 4, 2) := by decide +kernel
theorem dL_law_286 : decode cL_law 286 = .ok (.iconst 3, 1) := by decide +kernel
theorem dL_law_287 : decode cL_law 287 = .ok (.iadd, 1) := by decide +kernel
theorem dL_law_288 : decode cL_law 288 = .ok (.iaload, 1) := by decide +kernel
theorem dL_law_289 : decode cL_law 289 = .ok (.aload_n 0, 1) := by decide +kernel
theorem dL_law_290 : decode cL_law 290 = .ok (.iload 4, 2) := by decide +kernel
theorem dL_law_292 : decode cL_law 292 = .ok (.iconst 4, 1) := by decide +kernel
theorem dL_law_293 : decode cL_law 293 = .ok (.iadd, 1) := by decide +kernel
theorem dL_law_294 : decode cL_law 294 = .ok (.iaload, 1) := by decide +kernel
theorem dL_law_295 : decode cL_law 295 = .ok (.invokevirtual 57, 3) := by decide +kernel
theorem dL_law_298 : decode cL_law 298 = .ok (.aload_n 2, 1) := by decide +kernel
theorem dL_law_299 : decode cL_law 299 = .ok (.aload_n 0, 1) := by decide +kernel
theorem dL_law_300 : decode cL_law 300 = .ok (.iload 4, 2) := by decide +kernel
theorem dL_law_302 : decode cL_law 302 = .ok (.iconst 1, 1) := by decide +kernel
theorem dL_law_303 : decode cL_law 303 = .ok (.iadd, 1) := by decide +kernel
theorem dL_law_304 : decode cL_law 304 = .ok (.iaload, 1) := by decide +kernel
theorem dL_law_305 : decode cL_law 305 = .ok (.aload_n 0, 1) := by decide +kernel
theorem dL_law_306 : decode cL_law 306 = .ok (.iload 4, 2) := by decide +kernel
theorem dL_law_308 : decode cL_law 308 = .ok (.iconst 2, 1) := by decide +kernel
theorem dL_law_309 : decode cL_law 309 = .ok (.iadd, 1) := by decide +kernel
theorem dL_law_310 : decode cL_law 310 = .ok (.iaload, 1) := by decide +kernel
theorem dL_law_311 : decode cL_law 311 = .ok (.aload_n 0, 1) := by decide +kernel
theorem dL_law_312 : decode cL_law 312 = .ok (.iload 4, 2) := by decide +kernel
theorem dL_law_314 : decode cL_law 314 = .ok (.iconst 3, 1) := by decide +kernel
theorem dL_law_315 : decode cL_law 315 = .ok (.iadd, 1) := by decide +kernel
theorem dL_law_316 : decode cL_law 316 = .ok (.iaload, 1) := by decide +kernel
theorem dL_law_317 : decode cL_law 317 = .ok (.aload_n 0, 1) := by decide +kernel
theorem dL_law_318 : decode cL_law 318 = .ok (.iload 4, 2) := by decide +kernel
theorem dL_law_320 : decode cL_law 320 = .ok (.iconst 4, 1) := by decide +kernel
theorem dL_law_321 : decode cL_law 321 = .ok (.iadd, 1) := by decide +kernel
theorem dL_law_322 : decode cL_law 322 = .ok (.iaload, 1) := by decide +kernel
theorem dL_law_323 : decode cL_law 323 = .ok (.invokevirtual 61, 3) := by decide +kernel
theorem dL_law_326 : decode cL_law 326 = .ok (.if_icmp .eq 660, 3) := by decide +kernel
theorem dL_law_329 : decode cL_law 329 = .ok (.iconst 0, 1) := by decide +kernel
theorem dL_law_330 : decode cL_law 330 = .ok (.ireturn, 1) := by decide +kernel
theorem dL_law_331 : decode cL_law 331 = .ok (.aload_n 1, 1) := by decide +kernel
theorem dL_law_332 : decode cL_law 332 = .ok (.aload_n 0, 1) := by decide +kernel
theorem dL_law_333 : decode cL_law 333 = .ok (.iload 4, 2) := by decide +kernel
theorem dL_law_335 : decode cL_law 335 = .ok (.iconst 1, 1) := by decide +kernel
theorem dL_law_336 : decode cL_law 336 = .ok (.iadd, 1) := by decide +kernel
theorem dL_law_337 : decode cL_law 337 = .ok (.iaload, 1) := by decide +kernel
theorem dL_law_338 : decode cL_law 338 = .ok (.aload_n 0, 1) := by decide +kernel
theorem dL_law_339 : decode cL_law 339 = .ok (.iload 4, 2) := by decide +kernel
theorem dL_law_341 : decode cL_law 341 = .ok (.iconst 2, 1) := by decide +kernel
theorem dL_law_342 : decode cL_law 342 = .ok (.iadd, 1) := by decide +kernel
theorem dL_law_343 : decode cL_law 343 = .ok (.iaload, 1) := by decide +kernel
theorem dL_law_344 : decode cL_law 344 = .ok (.aload_n 0, 1) := by decide +kernel
theorem dL_law_345 : decode cL_law 345 = .ok (.iload 4, 2) := by decide +kernel
theorem dL_law_347 : decode cL_law 347 = .ok (.iconst 3, 1) := by decide +kernel
theorem dL_law_348 : decode cL_law 348 = .ok (.iadd, 1) := by decide +kernel
theorem dL_law_349 : decode cL_law 349 = .ok (.iaload, 1) := by decide +kernel
theorem dL_law_350 : decode cL_law 350 = .ok (.invokevirtual 62, 3) := by decide +kernel
theorem dL_law_353 : decode cL_law 353 = .ok (.aload_n 2, 1) := by decide +kernel
theorem dL_law_354 : decode cL_law 354 = .ok (.aload_n 0, 1) := by decide +kernel
theorem dL_law_355 : decode cL_law 355 = .ok (.iload 4, 2) := by decide +kernel
theorem dL_law_357 : decode cL_law 357 = .ok (.iconst 1, 1) := by decide +kernel
theorem dL_law_358 : decode cL_law 358 = .ok (.iadd, 1) := by decide +kernel
theorem dL_law_359 : decode cL_law 359 = .ok (.iaload, 1) := by decide +kernel
theorem dL_law_360 : decode cL_law 360 = .ok (.aload_n 0, 1) := by decide +kernel
theorem dL_law_361 : decode cL_law 361 = .ok (.iload 4, 2) := by decide +kernel
theorem dL_law_363 : decode cL_law 363 = .ok (.iconst 2, 1) := by decide +kernel
theorem dL_law_364 : decode cL_law 364 = .ok (.iadd, 1) := by decide +kernel
theorem dL_law_365 : decode cL_law 365 = .ok (.iaload, 1) := by decide +kernel
theorem dL_law_366 : decode cL_law 366 = .ok (.aload_n 0, 1) := by decide +kernel
theorem dL_law_367 : decode cL_law 367 = .ok (.iload 4, 2) := by decide +kernel
theorem dL_law_369 : decode cL_law 369 = .ok (.iconst 3, 1) := by decide +kernel
theorem dL_law_370 : decode cL_law 370 = .ok (.iadd, 1) := by decide +kernel
theorem dL_law_371 : decode cL_law 371 = .ok (.iaload, 1) := by decide +kernel
theorem dL_law_372 : decode cL_law 372 = .ok (.invokevirtual 65, 3) := by decide +kernel
theorem dL_law_375 : decode cL_law 375 = .ok (.if_icmp .eq 611, 3) := by decide +kernel
theorem dL_law_378 : decode cL_law 378 = .ok (.iconst 0, 1) := by decide +kernel
theorem dL_law_379 : decode cL_law 379 = .ok (.ireturn, 1) := by decide +kernel
theorem dL_law_380 : decode cL_law 380 = .ok (.aload_n 1, 1) := by decide +kernel
theorem dL_law_381 : decode cL_law 381 = .ok (.aload_n 0, 1) := by decide +kernel
theorem dL_law_382 : decode cL_law 382 = .ok (.iload 4, 2) := by decide +kernel
theorem dL_law_384 : decode cL_law 384 = .ok (.iconst 1, 1) := by decide +kernel
theorem dL_law_385 : decode cL_law 385 = .ok (.iadd, 1) := by decide +kernel
theorem dL_law_386 : decode cL_law 386 = .ok (.iaload, 1) := by decide +kernel
theorem dL_law_387 : decode cL_law 387 = .ok (.aload_n 0, 1) := by decide +kernel
theorem dL_law_388 : decode cL_law 388 = .ok (.iload 4, 2) := by decide +kernel
theorem dL_law_390 : decode cL_law 390 = .ok (.iconst 2, 1) := by decide +kernel
theorem dL_law_391 : decode cL_law 391 = .ok (.iadd, 1) := by decide +kernel
theorem dL_law_392 : decode cL_law 392 = .ok (.iaload, 1) := by decide +kernel
theorem dL_law_393 : decode cL_law 393 = .ok (.invokevirtual 66, 3) := by decide +kernel
theorem dL_law_396 : decode cL_law 396 = .ok (.aload_n 2, 1) := by decide +kernel
theorem dL_law_397 : decode cL_law 397 = .ok (.aload_n 0, 1) := by decide +kernel
theorem dL_law_398 : decode cL_law 398 = .ok (.iload 4, 2) := by decide +kernel
theorem dL_law_400 : decode cL_law 400 = .ok (.iconst 1, 1) := by decide +kernel
theorem dL_law_401 : decode cL_law 401 = .ok (.iadd, 1) := by decide +kernel
theorem dL_law_402 : decode cL_law 402 = .ok (.iaload, 1) := by decide +kernel
theorem dL_law_403 : decode cL_law 403 = .ok (.aload_n 0, 1) := by decide +kernel
theorem dL_law_404 : decode cL_law 404 = .ok (.iload 4, 2) := by decide +kernel
theorem dL_law_406 : decode cL_law 406 = .ok (.iconst 2, 1) := by decide +kernel
theorem dL_law_407 : decode cL_law 407 = .ok (.iadd, 1) := by decide +kernel
theorem dL_law_408 : decode cL_law 408 = .ok (.iaload, 1) := by decide +kernel
theorem dL_law_409 : decode cL_law 409 = .ok (.invokevirtual 69, 3) := by decide +kernel
theorem dL_law_412 : decode cL_law 412 = .ok (.if_icmp .eq 574, 3) := by decide +kernel
theorem dL_law_415 : decode cL_law 415 = .ok (.iconst 0, 1) := by decide +kernel
theorem dL_law_416 : decode cL_law 416 = .ok (.ireturn, 1) := by decide +kernel
theorem dL_law_417 : decode cL_law 417 = .ok (.aload_n 1, 1) := by decide +kernel
theorem dL_law_418 : decode cL_law 418 = .ok (.aload_n 0, 1) := by decide +kernel
theorem dL_law_419 : decode cL_law 419 = .ok (.iload 4, 2) := by decide +kernel
theorem dL_law_421 : decode cL_law 421 = .ok (.iconst 1, 1) := by decide +kernel
theorem dL_law_422 : decode cL_law 422 = .ok (.iadd, 1) := by decide +kernel
theorem dL_law_423 : decode cL_law 423 = .ok (.iaload, 1) := by decide +kernel
theorem dL_law_424 : decode cL_law 424 = .ok (.aload_n 0, 1) := by decide +kernel
theorem dL_law_425 : decode cL_law 425 = .ok (.iload 4, 2) := by decide +kernel
theorem dL_law_427 : decode cL_law 427 = .ok (.iconst 2, 1) := by decide +kernel
theorem dL_law_428 : decode cL_law 428 = .ok (.iadd, 1) := by decide +kernel
theorem dL_law_429 : decode cL_law 429 = .ok (.iaload, 1) := by decide +kernel
theorem dL_law_430 : decode cL_law 430 = .ok (.i2l, 1) := by decide +kernel
theorem dL_law_431 : decode cL_law 431 = .ok (.bipush 32, 2) := by decide +kernel
theorem dL_law_433 : decode cL_law 433 = .ok (.lshl, 1) := by decide +kernel
theorem dL_law_434 : decode cL_law 434 = .ok (.aload_n 0, 1) := by decide +kernel
theorem dL_law_435 : decode cL_law 435 = .ok (.iload 4, 2) := by decide +kernel
theorem dL_law_437 : decode cL_law 437 = .ok (.iconst 3, 1) := by decide +kernel
theorem dL_law_438 : decode cL_law 438 = .ok (.iadd, 1) := by decide +kernel
theorem dL_law_439 : decode cL_law 439 = .ok (.iaload, 1) := by decide +kernel
theorem dL_law_440 : decode cL_law 440 = .ok (.i2l, 1) := by decide +kernel
theorem dL_law_441 : decode cL_law 441 = .ok (.ldc2_w 70, 3) := by decide +kernel
theorem dL_law_444 : decode cL_law 444 = .ok (.land, 1) := by decide +kernel
theorem dL_law_445 : decode cL_law 445 = .ok (.lor, 1) := by decide +kernel
theorem dL_law_446 : decode cL_law 446 = .ok (.invokevirtual 72, 3) := by decide +kernel
theorem dL_law_449 : decode cL_law 449 = .ok (.aload_n 2, 1) := by decide +kernel
theorem dL_law_450 : decode cL_law 450 = .ok (.aload_n 0, 1) := by decide +kernel
theorem dL_law_451 : decode cL_law 451 = .ok (.iload 4, 2) := by decide +kernel
theorem dL_law_453 : decode cL_law 453 = .ok (.iconst 1, 1) := by decide +kernel
theorem dL_law_454 : decode cL_law 454 = .ok (.iadd, 1) := by decide +kernel
theorem dL_law_455 : decode cL_law 455 = .ok (.iaload, 1) := by decide +kernel
theorem dL_law_456 : decode cL_law 456 = .ok (.aload_n 0, 1) := by decide +kernel
theorem dL_law_457 : decode cL_law 457 = .ok (.iload 4, 2) := by decide +kernel
theorem dL_law_459 : decode cL_law 459 = .ok (.iconst 2, 1) := by decide +kernel
theorem dL_law_460 : decode cL_law 460 = .ok (.iadd, 1) := by decide +kernel
theorem dL_law_461 : decode cL_law 461 = .ok (.iaload, 1) := by decide +kernel
theorem dL_law_462 : decode cL_law 462 = .ok (.i2l, 1) := by decide +kernel
theorem dL_law_463 : decode cL_law 463 = .ok (.bipush 32, 2) := by decide +kernel
theorem dL_law_465 : decode cL_law 465 = .ok (.lshl, 1) := by decide +kernel
theorem dL_law_466 : decode cL_law 466 = .ok (.aload_n 0, 1) := by decide +kernel
theorem dL_law_467 : decode cL_law 467 = .ok (.iload 4, 2) := by decide +kernel
theorem dL_law_469 : decode cL_law 469 = .ok (.iconst 3, 1) := by decide +kernel
theorem dL_law_470 : decode cL_law 470 = .ok (.iadd, 1) := by decide +kernel
theorem dL_law_471 : decode cL_law 471 = .ok (.iaload, 1) := by decide +kernel
theorem dL_law_472 : decode cL_law 472 = .ok (.i2l, 1) := by decide +kernel
theorem dL_law_473 : decode cL_law 473 = .ok (.ldc2_w 70, 3) := by decide +kernel
theorem dL_law_476 : decode cL_law 476 = .ok (.land, 1) := by decide +kernel
theorem dL_law_477 : decode cL_law 477 = .ok (.lor, 1) := by decide +kernel
theorem dL_law_478 : decode cL_law 478 = .ok (.invokevirtual 76, 3) := by decide +kernel
theorem dL_law_481 : decode cL_law 481 = .ok (.if_icmp .eq 505, 3) := by decide +kernel
theorem dL_law_484 : decode cL_law 484 = .ok (.iconst 0, 1) := by decide +kernel
theorem dL_law_485 : decode cL_law 485 = .ok (.ireturn, 1) := by decide +kernel
theorem dL_law_486 : decode cL_law 486 = .ok (.aload_n 1, 1) := by decide +kernel
theorem dL_law_487 : decode cL_law 487 = .ok (.aload_n 0, 1) := by decide +kernel
theorem dL_law_488 : decode cL_law 488 = .ok (.iload 4, 2) := by decide +kernel
theorem dL_law_490 : decode cL_law 490 = .ok (.iconst 1, 1) := by decide +kernel
theorem dL_law_491 : decode cL_law 491 = .ok (.iadd, 1) := by decide +kernel
theorem dL_law_492 : decode cL_law 492 = .ok (.iaload, 1) := by decide +kernel
theorem dL_law_493 : decode cL_law 493 = .ok (.aload_n 0, 1) := by decide +kernel
theorem dL_law_494 : decode cL_law 494 = .ok (.iload 4, 2) := by decide +kernel
theorem dL_law_496 : decode cL_law 496 = .ok (.iconst 2, 1) := by decide +kernel
theorem dL_law_497 : decode cL_law 497 = .ok (.iadd, 1) := by decide +kernel
theorem dL_law_498 : decode cL_law 498 = .ok (.iaload, 1) := by decide +kernel
theorem dL_law_499 : decode cL_law 499 = .ok (.aload_n 3, 1) := by decide +kernel
theorem dL_law_500 : decode cL_law 500 = .ok (.invokestatic 77, 3) := by decide +kernel
theorem dL_law_503 : decode cL_law 503 = .ok (.istore 5, 2) := by decide +kernel
theorem dL_law_505 : decode cL_law 505 = .ok (.aload_n 2, 1) := by decide +kernel
theorem dL_law_506 : decode cL_law 506 = .ok (.aload_n 0, 1) := by decide +kernel
theorem dL_law_507 : decode cL_law 507 = .ok (.iload 4, 2) := by decide +kernel
theorem dL_law_509 : decode cL_law 509 = .ok (.iconst 1, 1) := by decide +kernel
theorem dL_law_510 : decode cL_law 510 = .ok (.iadd, 1) := by decide +kernel
theorem dL_law_511 : decode cL_law 511 = .ok (.iaload, 1) := by decide +kernel
theorem dL_law_512 : decode cL_law 512 = .ok (.aload_n 0, 1) := by decide +kernel
theorem dL_law_513 : decode cL_law 513 = .ok (.iload 4, 2) := by decide +kernel
theorem dL_law_515 : decode cL_law 515 = .ok (.iconst 2, 1) := by decide +kernel
theorem dL_law_516 : decode cL_law 516 = .ok (.iadd, 1) := by decide +kernel
theorem dL_law_517 : decode cL_law 517 = .ok (.iaload, 1) := by decide +kernel
theorem dL_law_518 : decode cL_law 518 = .ok (.invokevirtual 80, 3) := by decide +kernel
theorem dL_law_521 : decode cL_law 521 = .ok (.istore 6, 2) := by decide +kernel
theorem dL_law_523 : decode cL_law 523 = .ok (.aload_n 2, 1) := by decide +kernel
theorem dL_law_524 : decode cL_law 524 = .ok (.invokevirtual 81, 3) := by decide +kernel
theorem dL_law_527 : decode cL_law 527 = .ok (.iload 5, 2) := by decide +kernel
theorem dL_law_529 : decode cL_law 529 = .ok (.if_icmp .eq 5, 3) := by decide +kernel
theorem dL_law_532 : decode cL_law 532 = .ok (.iconst 0, 1) := by decide +kernel
theorem dL_law_533 : decode cL_law 533 = .ok (.ireturn, 1) := by decide +kernel
theorem dL_law_534 : decode cL_law 534 = .ok (.iload 5, 2) := by decide +kernel
theorem dL_law_536 : decode cL_law 536 = .ok (.ifCond .ne 15, 3) := by decide +kernel
theorem dL_law_539 : decode cL_law 539 = .ok (.aload_n 3, 1) := by decide +kernel
theorem dL_law_540 : decode cL_law 540 = .ok (.iconst 0, 1) := by decide +kernel
theorem dL_law_541 : decode cL_law 541 = .ok (.laload, 1) := by decide +kernel
theorem dL_law_542 : decode cL_law 542 = .ok (.iload 6, 2) := by decide +kernel
theorem dL_law_544 : decode cL_law 544 = .ok (.i2l, 1) := by decide +kernel
theorem dL_law_545 : decode cL_law 545 = .ok (.lcmp, 1) := by decide +kernel
theorem dL_law_546 : decode cL_law 546 = .ok (.ifCond .eq 5, 3) := by decide +kernel
theorem dL_law_549 : decode cL_law 549 = .ok (.iconst 0, 1) := by decide +kernel
theorem dL_law_550 : decode cL_law 550 = .ok (.ireturn, 1) := by decide +kernel
theorem dL_law_551 : decode cL_law 551 = .ok (.goto 435, 3) := by decide +kernel
theorem dL_law_554 : decode cL_law 554 = .ok (.aload_n 1, 1) := by decide +kernel
theorem dL_law_555 : decode cL_law 555 = .ok (.aload_n 0, 1) := by decide +kernel
theorem dL_law_556 : decode cL_law 556 = .ok (.iload 4, 2) := by decide +kernel
theorem dL_law_558 : decode cL_law 558 = .ok (.iconst 1, 1) := by decide +kernel
theorem dL_law_559 : decode cL_law 559 = .ok (.iadd, 1) := by decide +kernel
theorem dL_law_560 : decode cL_law 560 = .ok (.iaload, 1) := by decide +kernel
theorem dL_law_561 : decode cL_law 561 = .ok (.invokevirtual 85, 3) := by decide +kernel
theorem dL_law_564 : decode cL_law 564 = .ok (.aload_n 2, 1) := by decide +kernel
theorem dL_law_565 : decode cL_law 565 = .ok (.aload_n 0, 1) := by decide +kernel
theorem dL_law_566 : decode cL_law 566 = .ok (.iload 4, 2) := by decide +kernel
theorem dL_law_568 : decode cL_law 568 = .ok (.iconst 1, 1) := by decide +kernel
theorem dL_law_569 : decode cL_law 569 = .ok (.iadd, 1) := by decide +kernel
theorem dL_law_570 : decode cL_law 570 = .ok (.iaload, 1) := by decide +kernel
theorem dL_law_571 : decode cL_law 571 = .ok (.invokevirtual 88, 3) := by decide +kernel
theorem dL_law_574 : decode cL_law 574 = .ok (.if_icmp .eq 412, 3) := by decide +kernel
theorem dL_law_577 : decode cL_law 577 = .ok (.iconst 0, 1) := by decide +kernel
theorem dL_law_578 : decode cL_law 578 = .ok (.ireturn, 1) := by decide +kernel
theorem dL_law_579 : decode cL_law 579 = .ok (.aload_n 1, 1) := by decide +kernel
theorem dL_law_580 : decode cL_law 580 = .ok (.invokevirtual 89, 3) := by decide +kernel
theorem dL_law_583 : decode cL_law 583 = .ok (.aload_n 2, 1) := by decide +kernel
theorem dL_law_584 : decode cL_law 584 = .ok (.invokevirtual 92, 3) := by decide +kernel
theorem dL_law_587 : decode cL_law 587 = .ok (.if_icmp .eq 399, 3) := by decide +kernel
theorem dL_law_590 : decode cL_law 590 = .ok (.iconst 0, 1) := by decide +kernel
theorem dL_law_591 : decode cL_law 591 = .ok (.ireturn, 1) := by decide +kernel
theorem dL_law_592 : decode cL_law 592 = .ok (.aload_n 1, 1) := by decide +kernel
theorem dL_law_593 : decode cL_law 593 = .ok (.aload_n 0, 1) := by decide +kernel
theorem dL_law_594 : decode cL_law 594 = .ok (.iload 4, 2) := by decide +kernel
theorem dL_law_596 : decode cL_law 596 = .ok (.iconst 1, 1) := by decide +kernel
theorem dL_law_597 : decode cL_law 597 = .ok (.iadd, 1) := by decide +kernel
theorem dL_law_598 : decode cL_law 598 = .ok (.iaload, 1) := by decide +kernel
theorem dL_law_599 : decode cL_law 599 = .ok (.invokevirtual 93, 3) := by decide +kernel
theorem dL_law_602 : decode cL_law 602 = .ok (.aload_n 2, 1) := by decide +kernel
theorem dL_law_603 : decode cL_law 603 = .ok (.aload_n 0, 1) := by decide +kernel
theorem dL_law_604 : decode cL_law 604 = .ok (.iload 4, 2) := by decide +kernel
theorem dL_law_606 : decode cL_law 606 = .ok (.iconst 1, 1) := by decide +kernel
theorem dL_law_607 : decode cL_law 607 = .ok (.iadd, 1) := by decide +kernel
theorem dL_law_608 : decode cL_law 608 = .ok (.iaload, 1) := by decide +kernel
theorem dL_law_609 : decode cL_law 609 = .ok (.invokevirtual 96, 3) := by decide +kernel
theorem dL_law_612 : decode cL_law 612 = .ok (.if_icmp .eq 374, 3) := by decide +kernel
theorem dL_law_615 : decode cL_law 615 = .ok (.iconst 0, 1) := by decide +kernel
theorem dL_law_616 : decode cL_law 616 = .ok (.ireturn, 1) := by decide +kernel
theorem dL_law_617 : decode cL_law 617 = .ok (.aload_n 1, 1) := by decide +kernel
theorem dL_law_618 : decode cL_law 618 = .ok (.aload_n 0, 1) := by decide +kernel
theorem dL_law_619 : decode cL_law 619 = .ok (.iload 4, 2) := by decide +kernel
theorem dL_law_621 : decode cL_law 621 = .ok (.iconst 1, 1) := by decide +kernel
theorem dL_law_622 : decode cL_law 622 = .ok (.iadd, 1) := by decide +kernel
theorem dL_law_623 : decode cL_law 623 = .ok (.iaload, 1) := by decide +kernel
theorem dL_law_624 : decode cL_law 624 = .ok (.aload_n 0, 1) := by decide +kernel
theorem dL_law_625 : decode cL_law 625 = .ok (.iload 4, 2) := by decide +kernel
theorem dL_law_627 : decode cL_law 627 = .ok (.iconst 2, 1) := by decide +kernel
theorem dL_law_628 : decode cL_law 628 = .ok (.iadd, 1) := by decide +kernel
theorem dL_law_629 : decode cL_law 629 = .ok (.iaload, 1) := by decide +kernel
theorem dL_law_630 : decode cL_law 630 = .ok (.invokevirtual 97, 3) := by decide +kernel
theorem dL_law_633 : decode cL_law 633 = .ok (.aload_n 2, 1) := by decide +kernel
theorem dL_law_634 : decode cL_law 634 = .ok (.aload_n 0, 1) := by decide +kernel
theorem dL_law_635 : decode cL_law 635 = .ok (.iload 4, 2) := by decide +kernel
theorem dL_law_637 : decode cL_law 637 = .ok (.iconst 1, 1) := by decide +kernel
theorem dL_law_638 : decode cL_law 638 = .ok (.iadd, 1) := by decide +kernel
theorem dL_law_639 : decode cL_law 639 = .ok (.iaload, 1) := by decide +kernel
theorem dL_law_640 : decode cL_law 640 = .ok (.aload_n 0, 1) := by decide +kernel
theorem dL_law_641 : decode cL_law 641 = .ok (.iload 4, 2) := by decide +kernel
theorem dL_law_643 : decode cL_law 643 = .ok (.iconst 2, 1) := by decide +kernel
theorem dL_law_644 : decode cL_law 644 = .ok (.iadd, 1) := by decide +kernel
theorem dL_law_645 : decode cL_law 645 = .ok (.iaload, 1) := by decide +kernel
theorem dL_law_646 : decode cL_law 646 = .ok (.invokevirtual 100, 3) := by decide +kernel
theorem dL_law_649 : decode cL_law 649 = .ok (.if_icmp .eq 337, 3) := by decide +kernel
theorem dL_law_652 : decode cL_law 652 = .ok (.iconst 0, 1) := by decide +kernel
theorem dL_law_653 : decode cL_law 653 = .ok (.ireturn, 1) := by decide +kernel
theorem dL_law_654 : decode cL_law 654 = .ok (.aload_n 1, 1) := by decide +kernel
theorem dL_law_655 : decode cL_law 655 = .ok (.aload_n 0, 1) := by decide +kernel
theorem dL_law_656 : decode cL_law 656 = .ok (.iload 4, 2) := by decide +kernel
theorem dL_law_658 : decode cL_law 658 = .ok (.iconst 1, 1) := by decide +kernel
theorem dL_law_659 : decode cL_law 659 = .ok (.iadd, 1) := by decide +kernel
theorem dL_law_660 : decode cL_law 660 = .ok (.iaload, 1) := by decide +kernel
theorem dL_law_661 : decode cL_law 661 = .ok (.invokevirtual 101, 3) := by decide +kernel
theorem dL_law_664 : decode cL_law 664 = .ok (.aload_n 2, 1) := by decide +kernel
theorem dL_law_665 : decode cL_law 665 = .ok (.aload_n 0, 1) := by decide +kernel
theorem dL_law_666 : decode cL_law 666 = .ok (.iload 4, 2) := by decide +kernel
theorem dL_law_668 : decode cL_law 668 = .ok (.iconst 1, 1) := by decide +kernel
theorem dL_law_669 : decode cL_law 669 = .ok (.iadd, 1) := by decide +kernel
theorem dL_law_670 : decode cL_law 670 = .ok (.iaload, 1) := by decide +kernel
theorem dL_law_671 : decode cL_law 671 = .ok (.invokevirtual 104, 3) := by decide +kernel
theorem dL_law_674 : decode cL_law 674 = .ok (.if_icmp .eq 312, 3) := by decide +kernel
theorem dL_law_677 : decode cL_law 677 = .ok (.iconst 0, 1) := by decide +kernel
theorem dL_law_678 : decode cL_law 678 = .ok (.ireturn, 1) := by decide +kernel
theorem dL_law_679 : decode cL_law 679 = .ok (.aload_n 1, 1) := by decide +kernel
theorem dL_law_680 : decode cL_law 680 = .ok (.aload_n 0, 1) := by decide +kernel
theorem dL_law_681 : decode cL_law 681 = .ok (.iload 4, 2) := by decide +kernel
theorem dL_law_683 : decode cL_law 683 = .ok (.iconst 1, 1) := by decide +kernel
theorem dL_law_684 : decode cL_law 684 = .ok (.iadd, 1) := by decide +kernel
theorem dL_law_685 : decode cL_law 685 = .ok (.iaload, 1) := by decide +kernel
theorem dL_law_686 : decode cL_law 686 = .ok (.aload_n 0, 1) := by decide +kernel
theorem dL_law_687 : decode cL_law 687 = .ok (.iload 4, 2) := by decide +kernel
theorem dL_law_689 : decode cL_law 689 = .ok (.iconst 2, 1) := by decide +kernel
theorem dL_law_690 : decode cL_law 690 = .ok (.iadd, 1) := by decide +kernel
theorem dL_law_691 : decode cL_law 691 = .ok (.iaload, 1) := by decide +kernel
theorem dL_law_692 : decode cL_law 692 = .ok (.aload_n 0, 1) := by decide +kernel
theorem dL_law_693 : decode cL_law 693 = .ok (.iload 4, 2) := by decide +kernel
theorem dL_law_695 : decode cL_law 695 = .ok (.iconst 3, 1) := by decide +kernel
theorem dL_law_696 : decode cL_law 696 = .ok (.iadd, 1) := by decide +kernel
theorem dL_law_697 : decode cL_law 697 = .ok (.iaload, 1) := by decide +kernel
theorem dL_law_698 : decode cL_law 698 = .ok (.invokevirtual 105, 3) := by decide +kernel
theorem dL_law_701 : decode cL_law 701 = .ok (.aload_n 2, 1) := by decide +kernel
theorem dL_law_702 : decode cL_law 702 = .ok (.aload_n 0, 1) := by decide +kernel
theorem dL_law_703 : decode cL_law 703 = .ok (.iload 4, 2) := by decide +kernel
theorem dL_law_705 : decode cL_law 705 = .ok (.iconst 1, 1) := by decide +kernel
theorem dL_law_706 : decode cL_law 706 = .ok (.iadd, 1) := by decide +kernel
theorem dL_law_707 : decode cL_law 707 = .ok (.iaload, 1) := by decide +kernel
theorem dL_law_708 : decode cL_law 708 = .ok (.aload_n 0, 1) := by decide +kernel
theorem dL_law_709 : decode cL_law 709 = .ok (.iload 4, 2) := by decide +kernel
theorem dL_law_711 : decode cL_law 711 = .ok (.iconst 2, 1) := by decide +kernel
theorem dL_law_712 : decode cL_law 712 = .ok (.iadd, 1) := by decide +kernel
theorem dL_law_713 : decode cL_law 713 = .ok (.iaload, 1) := by decide +kernel
theorem dL_law_714 : decode cL_law 714 = .ok (.aload_n 0, 1) := by decide +kernel
theorem dL_law_715 : decode cL_law 715 = .ok (.iload 4, 2) := by decide +kernel
theorem dL_law_717 : decode cL_law 717 = .ok (.iconst 3, 1) := by decide +kernel
theorem dL_law_718 : decode cL_law 718 = .ok (.iadd, 1) := by decide +kernel
theorem dL_law_719 : decode cL_law 719 = .ok (.iaload, 1) := by decide +kernel
theorem dL_law_720 : decode cL_law 720 = .ok (.invokevirtual 108, 3) := by decide +kernel
theorem dL_law_723 : decode cL_law 723 = .ok (.if_icmp .eq 263, 3) := by decide +kernel
theorem dL_law_726 : decode cL_law 726 = .ok (.iconst 0, 1) := by decide +kernel
theorem dL_law_727 : decode cL_law 727 = .ok (.ireturn, 1) := by decide +kernel
theorem dL_law_728 : decode cL_law 728 = .ok (.aload_n 1, 1) := by decide +kernel
theorem dL_law_729 : decode cL_law 729 = .ok (.aload_n 0, 1) := by decide +kernel
theorem dL_law_730 : decode cL_law 730 = .ok (.iload 4, 2) := by decide +kernel
theorem dL_law_732 : decode cL_law 732 = .ok (.iconst 1, 1) := by decide +kernel
theorem dL_law_733 : decode cL_law 733 = .ok (.iadd, 1) := by decide +kernel
theorem dL_law_734 : decode cL_law 734 = .ok (.iaload, 1) := by decide +kernel
theorem dL_law_735 : decode cL_law 735 = .ok (.aload_n 0, 1) := by decide +kernel
theorem dL_law_736 : decode cL_law 736 = .ok (.iload 4, 2) := by decide +kernel
theorem dL_law_738 : decode cL_law 738 = .ok (.iconst 2, 1) := by decide +kernel
theorem dL_law_739 : decode cL_law 739 = .ok (.iadd, 1) := by decide +kernel
theorem dL_law_740 : decode cL_law 740 = .ok (.iaload, 1) := by decide +kernel
theorem dL_law_741 : decode cL_law 741 = .ok (.aload_n 0, 1) := by decide +kernel
theorem dL_law_742 : decode cL_law 742 = .ok (.iload 4, 2) := by decide +kernel
theorem dL_law_744 : decode cL_law 744 = .ok (.iconst 3, 1) := by decide +kernel
theorem dL_law_745 : decode cL_law 745 = .ok (.iadd, 1) := by decide +kernel
theorem dL_law_746 : decode cL_law 746 = .ok (.iaload, 1) := by decide +kernel
theorem dL_law_747 : decode cL_law 747 = .ok (.invokevirtual 109, 3) := by decide +kernel
theorem dL_law_750 : decode cL_law 750 = .ok (.aload_n 2, 1) := by decide +kernel
theorem dL_law_751 : decode cL_law 751 = .ok (.aload_n 0, 1) := by decide +kernel
theorem dL_law_752 : decode cL_law 752 = .ok (.iload 4, 2) := by decide +kernel
theorem dL_law_754 : decode cL_law 754 = .ok (.iconst 1, 1) := by decide +kernel
theorem dL_law_755 : decode cL_law 755 = .ok (.iadd, 1) := by decide +kernel
theorem dL_law_756 : decode cL_law 756 = .ok (.iaload, 1) := by decide +kernel
theorem dL_law_757 : decode cL_law 757 = .ok (.aload_n 0, 1) := by decide +kernel
theorem dL_law_758 : decode cL_law 758 = .ok (.iload 4, 2) := by decide +kernel
theorem dL_law_760 : decode cL_law 760 = .ok (.iconst 2, 1) := by decide +kernel
theorem dL_law_761 : decode cL_law 761 = .ok (.iadd, 1) := by decide +kernel
theorem dL_law_762 : decode cL_law 762 = .ok (.iaload, 1) := by decide +kernel
theorem dL_law_763 : decode cL_law 763 = .ok (.aload_n 0, 1) := by decide +kernel
theorem dL_law_764 : decode cL_law 764 = .ok (.iload 4, 2) := by decide +kernel
theorem dL_law_766 : decode cL_law 766 = .ok (.iconst 3, 1) := by decide +kernel
theorem dL_law_767 : decode cL_law 767 = .ok (.iadd, 1) := by decide +kernel
theorem dL_law_768 : decode cL_law 768 = .ok (.iaload, 1) := by decide +kernel
theorem dL_law_769 : decode cL_law 769 = .ok (.invokevirtual 112, 3) := by decide +kernel
theorem dL_law_772 : decode cL_law 772 = .ok (.if_icmp .eq 214, 3) := by decide +kernel
theorem dL_law_775 : decode cL_law 775 = .ok (.iconst 0, 1) := by decide +kernel
theorem dL_law_776 : decode cL_law 776 = .ok (.ireturn, 1) := by decide +kernel
theorem dL_law_777 : decode cL_law 777 = .ok (.aload_n 1, 1) := by decide +kernel
theorem dL_law_778 : decode cL_law 778 = .ok (.aload_n 0, 1) := by decide +kernel
theorem dL_law_779 : decode cL_law 779 = .ok (.iload 4, 2) := by decide +kernel
theorem dL_law_781 : decode cL_law 781 = .ok (.iconst 1, 1) := by decide +kernel
theorem dL_law_782 : decode cL_law 782 = .ok (.iadd, 1) := by decide +kernel
theorem dL_law_783 : decode cL_law 783 = .ok (.iaload, 1) := by decide +kernel
theorem dL_law_784 : decode cL_law 784 = .ok (.aload_n 0, 1) := by decide +kernel
theorem dL_law_785 : decode cL_law 785 = .ok (.iload 4, 2) := by decide +kernel
theorem dL_law_787 : decode cL_law 787 = .ok (.iconst 2, 1) := by decide +kernel
theorem dL_law_788 : decode cL_law 788 = .ok (.iadd, 1) := by decide +kernel
theorem dL_law_789 : decode cL_law 789 = .ok (.iaload, 1) := by decide +kernel
theorem dL_law_790 : decode cL_law 790 = .ok (.aload_n 3, 1) := by decide +kernel
theorem dL_law_791 : decode cL_law 791 = .ok (.invokestatic 113, 3) := by decide +kernel
theorem dL_law_794 : decode cL_law 794 = .ok (.istore 5, 2) := by decide +kernel
theorem dL_law_796 : decode cL_law 796 = .ok (.aload_n 2, 1) := by decide +kernel
theorem dL_law_797 : decode cL_law 797 = .ok (.aload_n 0, 1) := by decide +kernel
theorem dL_law_798 : decode cL_law 798 = .ok (.iload 4, 2) := by decide +kernel
theorem dL_law_800 : decode cL_law 800 = .ok (.iconst 1, 1) := by decide +kernel
theorem dL_law_801 : decode cL_law 801 = .ok (.iadd, 1) := by decide +kernel
theorem dL_law_802 : decode cL_law 802 = .ok (.iaload, 1) := by decide +kernel
theorem dL_law_803 : decode cL_law 803 = .ok (.aload_n 0, 1) := by decide +kernel
theorem dL_law_804 : decode cL_law 804 = .ok (.iload 4, 2) := by decide +kernel
theorem dL_law_806 : decode cL_law 806 = .ok (.iconst 2, 1) := by decide +kernel
theorem dL_law_807 : decode cL_law 807 = .ok (.iadd, 1) := by decide +kernel
theorem dL_law_808 : decode cL_law 808 = .ok (.iaload, 1) := by decide +kernel
theorem dL_law_809 : decode cL_law 809 = .ok (.invokevirtual 115, 3) := by decide +kernel
theorem dL_law_812 : decode cL_law 812 = .ok (.lstore 6, 2) := by decide +kernel
theorem dL_law_814 : decode cL_law 814 = .ok (.aload_n 2, 1) := by decide +kernel
theorem dL_law_815 : decode cL_law 815 = .ok (.invokevirtual 81, 3) := by decide +kernel
theorem dL_law_818 : decode cL_law 818 = .ok (.iload 5, 2) := by decide +kernel
theorem dL_law_820 : decode cL_law 820 = .ok (.if_icmp .eq 5, 3) := by decide +kernel
theorem dL_law_823 : decode cL_law 823 = .ok (.iconst 0, 1) := by decide +kernel
theorem dL_law_824 : decode cL_law 824 = .ok (.ireturn, 1) := by decide +kernel
theorem dL_law_825 : decode cL_law 825 = .ok (.iload 5, 2) := by decide +kernel
theorem dL_law_827 : decode cL_law 827 = .ok (.ifCond .ne 14, 3) := by decide +kernel
theorem dL_law_830 : decode cL_law 830 = .ok (.aload_n 3, 1) := by decide +kernel
theorem dL_law_831 : decode cL_law 831 = .ok (.iconst 0, 1) := by decide +kernel
theorem dL_law_832 : decode cL_law 832 = .ok (.laload, 1) := by decide +kernel
theorem dL_law_833 : decode cL_law 833 = .ok (.lload 6, 2) := by decide +kernel
theorem dL_law_835 : decode cL_law 835 = .ok (.lcmp, 1) := by decide +kernel
theorem dL_law_836 : decode cL_law 836 = .ok (.ifCond .eq 5, 3) := by decide +kernel
theorem dL_law_839 : decode cL_law 839 = .ok (.iconst 0, 1) := by decide +kernel
theorem dL_law_840 : decode cL_law 840 = .ok (.ireturn, 1) := by decide +kernel
theorem dL_law_841 : decode cL_law 841 = .ok (.goto 145, 3) := by decide +kernel
theorem dL_law_844 : decode cL_law 844 = .ok (.aload_n 1, 1) := by decide +kernel
theorem dL_law_845 : decode cL_law 845 = .ok (.aload_n 0, 1) := by decide +kernel
theorem dL_law_846 : decode cL_law 846 = .ok (.iload 4, 2) := by decide +kernel
theorem dL_law_848 : decode cL_law 848 = .ok (.iconst 1, 1) := by decide +kernel
theorem dL_law_849 : decode cL_law 849 = .ok (.iadd, 1) := by decide +kernel
theorem dL_law_850 : decode cL_law 850 = .ok (.iaload, 1) := by decide +kernel
theorem dL_law_851 : decode cL_law 851 = .ok (.aload_n 0, 1) := by decide +kernel
theorem dL_law_852 : decode cL_law 852 = .ok (.iload 4, 2) := by decide +kernel
theorem dL_law_854 : decode cL_law 854 = .ok (.iconst 2, 1) := by decide +kernel
theorem dL_law_855 : decode cL_law 855 = .ok (.iadd, 1) := by decide +kernel
theorem dL_law_856 : decode cL_law 856 = .ok (.iaload, 1) := by decide +kernel
theorem dL_law_857 : decode cL_law 857 = .ok (.aload_n 0, 1) := by decide +kernel
theorem dL_law_858 : decode cL_law 858 = .ok (.iload 4, 2) := by decide +kernel
theorem dL_law_860 : decode cL_law 860 = .ok (.iconst 3, 1) := by decide +kernel
theorem dL_law_861 : decode cL_law 861 = .ok (.iadd, 1) := by decide +kernel
theorem dL_law_862 : decode cL_law 862 = .ok (.iaload, 1) := by decide +kernel
theorem dL_law_863 : decode cL_law 863 = .ok (.aload_n 3, 1) := by decide +kernel
theorem dL_law_864 : decode cL_law 864 = .ok (.invokestatic 116, 3) := by decide +kernel
theorem dL_law_867 : decode cL_law 867 = .ok (.istore 5, 2) := by decide +kernel
theorem dL_law_869 : decode cL_law 869 = .ok (.aload_n 2, 1) := by decide +kernel
theorem dL_law_870 : decode cL_law 870 = .ok (.aload_n 0, 1) := by decide +kernel
theorem dL_law_871 : decode cL_law 871 = .ok (.iload 4, 2) := by decide +kernel
theorem dL_law_873 : decode cL_law 873 = .ok (.iconst 1, 1) := by decide +kernel
theorem dL_law_874 : decode cL_law 874 = .ok (.iadd, 1) := by decide +kernel
theorem dL_law_875 : decode cL_law 875 = .ok (.iaload, 1) := by decide +kernel
theorem dL_law_876 : decode cL_law 876 = .ok (.aload_n 0, 1) := by decide +kernel
theorem dL_law_877 : decode cL_law 877 = .ok (.iload 4, 2) := by decide +kernel
theorem dL_law_879 : decode cL_law 879 = .ok (.iconst 2, 1) := by decide +kernel
theorem dL_law_880 : decode cL_law 880 = .ok (.iadd, 1) := by decide +kernel
theorem dL_law_881 : decode cL_law 881 = .ok (.iaload, 1) := by decide +kernel
theorem dL_law_882 : decode cL_law 882 = .ok (.aload_n 0, 1) := by decide +kernel
theorem dL_law_883 : decode cL_law 883 = .ok (.iload 4, 2) := by decide +kernel
theorem dL_law_885 : decode cL_law 885 = .ok (.iconst 3, 1) := by decide +kernel
theorem dL_law_886 : decode cL_law 886 = .ok (.iadd, 1) := by decide +kernel
theorem dL_law_887 : decode cL_law 887 = .ok (.iaload, 1) := by decide +kernel
theorem dL_law_888 : decode cL_law 888 = .ok (.invokevirtual 119, 3) := by decide +kernel
theorem dL_law_891 : decode cL_law 891 = .ok (.istore 6, 2) := by decide +kernel
theorem dL_law_893 : decode cL_law 893 = .ok (.aload_n 2, 1) := by decide +kernel
theorem dL_law_894 : decode cL_law 894 = .ok (.invokevirtual 81, 3) := by decide +kernel
theorem dL_law_897 : decode cL_law 897 = .ok (.iload 5, 2) := by decide +kernel
theorem dL_law_899 : decode cL_law 899 = .ok (.if_icmp .eq 5, 3) := by decide +kernel
theorem dL_law_902 : decode cL_law 902 = .ok (.iconst 0, 1) := by decide +kernel
theorem dL_law_903 : decode cL_law 903 = .ok (.ireturn, 1) := by decide +kernel
theorem dL_law_904 : decode cL_law 904 = .ok (.iload 5, 2) := by decide +kernel
theorem dL_law_906 : decode cL_law 906 = .ok (.ifCond .ne 15, 3) := by decide +kernel
theorem dL_law_909 : decode cL_law 909 = .ok (.aload_n 3, 1) := by decide +kernel
theorem dL_law_910 : decode cL_law 910 = .ok (.iconst 0, 1) := by decide +kernel
theorem dL_law_911 : decode cL_law 911 = .ok (.laload, 1) := by decide +kernel
theorem dL_law_912 : decode cL_law 912 = .ok (.iload 6, 2) := by decide +kernel
theorem dL_law_914 : decode cL_law 914 = .ok (.i2l, 1) := by decide +kernel
theorem dL_law_915 : decode cL_law 915 = .ok (.lcmp, 1) := by decide +kernel
theorem dL_law_916 : decode cL_law 916 = .ok (.ifCond .eq 5, 3) := by decide +kernel
theorem dL_law_919 : decode cL_law 919 = .ok (.iconst 0, 1) := by decide +kernel
theorem dL_law_920 : decode cL_law 920 = .ok (.ireturn, 1) := by decide +kernel
theorem dL_law_921 : decode cL_law 921 = .ok (.goto 65, 3) := by decide +kernel
theorem dL_law_924 : decode cL_law 924 = .ok (.aload_n 1, 1) := by decide +kernel
theorem dL_law_925 : decode cL_law 925 = .ok (.aload_n 0, 1) := by decide +kernel
theorem dL_law_926 : decode cL_law 926 = .ok (.iload 4, 2) := by decide +kernel
theorem dL_law_928 : decode cL_law 928 = .ok (.iconst 1, 1) := by decide +kernel
theorem dL_law_929 : decode cL_law 929 = .ok (.iadd, 1) := by decide +kernel
theorem dL_law_930 : decode cL_law 930 = .ok (.iaload, 1) := by decide +kernel
theorem dL_law_931 : decode cL_law 931 = .ok (.aload_n 0, 1) := by decide +kernel
theorem dL_law_932 : decode cL_law 932 = .ok (.iload 4, 2) := by decide +kernel
theorem dL_law_934 : decode cL_law 934 = .ok (.iconst 2, 1) := by decide +kernel
theorem dL_law_935 : decode cL_law 935 = .ok (.iadd, 1) := by decide +kernel
theorem dL_law_936 : decode cL_law 936 = .ok (.iaload, 1) := by decide +kernel
theorem dL_law_937 : decode cL_law 937 = .ok (.invokevirtual 120, 3) := by decide +kernel
theorem dL_law_940 : decode cL_law 940 = .ok (.aload_n 2, 1) := by decide +kernel
theorem dL_law_941 : decode cL_law 941 = .ok (.aload_n 0, 1) := by decide +kernel
theorem dL_law_942 : decode cL_law 942 = .ok (.iload 4, 2) := by decide +kernel
theorem dL_law_944 : decode cL_law 944 = .ok (.iconst 1, 1) := by decide +kernel
theorem dL_law_945 : decode cL_law 945 = .ok (.iadd, 1) := by decide +kernel
theorem dL_law_946 : decode cL_law 946 = .ok (.iaload, 1) := by decide +kernel
theorem dL_law_947 : decode cL_law 947 = .ok (.aload_n 0, 1) := by decide +kernel
theorem dL_law_948 : decode cL_law 948 = .ok (.iload 4, 2) := by decide +kernel
theorem dL_law_950 : decode cL_law 950 = .ok (.iconst 2, 1) := by decide +kernel
theorem dL_law_951 : decode cL_law 951 = .ok (.iadd, 1) := by decide +kernel
theorem dL_law_952 : decode cL_law 952 = .ok (.iaload, 1) := by decide +kernel
theorem dL_law_953 : decode cL_law 953 = .ok (.invokevirtual 123, 3) := by decide +kernel
theorem dL_law_956 : decode cL_law 956 = .ok (.if_icmp .eq 30, 3) := by decide +kernel
theorem dL_law_959 : decode cL_law 959 = .ok (.iconst 0, 1) := by decide +kernel
theorem dL_law_960 : decode cL_law 960 = .ok (.ireturn, 1) := by decide +kernel
theorem dL_law_961 : decode cL_law 961 = .ok (.aload_n 1, 1) := by decide +kernel
theorem dL_law_962 : decode cL_law 962 = .ok (.aload_n 0, 1) := by decide +kernel
theorem dL_law_963 : decode cL_law 963 = .ok (.iload 4, 2) := by decide +kernel
theorem dL_law_965 : decode cL_law 965 = .ok (.iconst 1, 1) := by decide +kernel
theorem dL_law_966 : decode cL_law 966 = .ok (.iadd, 1) := by decide +kernel
theorem dL_law_967 : decode cL_law 967 = .ok (.iaload, 1) := by decide +kernel
theorem dL_law_968 : decode cL_law 968 = .ok (.invokevirtual 124, 3) := by decide +kernel
theorem dL_law_971 : decode cL_law 971 = .ok (.aload_n 2, 1) := by decide +kernel
theorem dL_law_972 : decode cL_law 972 = .ok (.aload_n 0, 1) := by decide +kernel
theorem dL_law_973 : decode cL_law 973 = .ok (.iload 4, 2) := by decide +kernel
theorem dL_law_975 : decode cL_law 975 = .ok (.iconst 1, 1) := by decide +kernel
theorem dL_law_976 : decode cL_law 976 = .ok (.iadd, 1) := by decide +kernel
theorem dL_law_977 : decode cL_law 977 = .ok (.iaload, 1) := by decide +kernel
theorem dL_law_978 : decode cL_law 978 = .ok (.invokevirtual 127, 3) := by decide +kernel
theorem dL_law_981 : decode cL_law 981 = .ok (.if_icmp .eq 5, 3) := by decide +kernel
theorem dL_law_984 : decode cL_law 984 = .ok (.iconst 0, 1) := by decide +kernel
theorem dL_law_985 : decode cL_law 985 = .ok (.ireturn, 1) := by decide +kernel
theorem dL_law_986 : decode cL_law 986 = .ok (.iinc 4 5, 3) := by decide +kernel
theorem dL_law_989 : decode cL_law 989 = .ok (.goto (-956), 3) := by decide +kernel
theorem dL_law_992 : decode cL_law 992 = .ok (.iconst 1, 1) := by decide +kernel
theorem dL_law_993 : decode cL_law 993 = .ok (.ireturn, 1) := by decide +kernel
end
section
/-! ===== BEGIN words of one list among another's, by their places ===== -/
theorem goodIn_r {big : List Cond} (ws : List Cond) (ps : List Nat) (hp : ws = ps.filterMap (fun i => big[i]?)) (h : ws.all goodWord = true) : GoodIn big ws := by
  intro w hw
  have h1 := List.all_eq_true.mp h w hw
  rw [hp] at hw
  obtain ⟨i, -, hi⟩ := List.mem_filterMap.mp hw
  have hm : w ∈ big := by first | exact List.mem_of_getElem? hi | exact List.getElem?_mem hi
  exact ⟨hm, good_of_word h1⟩
theorem goodIn_app {big a b : List Cond} (ha : GoodIn big a) (hb : GoodIn big b) : GoodIn big (a ++ b) := fun w h => (List.mem_append.mp h).elim (ha w) (hb w)
theorem goodIn_ca {big a b : List Cond} {c : Cond} (ha : GoodIn big (c :: a)) (hb : GoodIn big b) : GoodIn big (c :: (a ++ b)) := fun w h => (List.mem_cons.mp h).elim (fun e => ha w (List.mem_cons.mpr (Or.inl e))) (fun h => (List.mem_append.mp h).elim (fun h => ha w (List.mem_cons.mpr (Or.inr h))) (hb w))
theorem goodIn_sub {big ws : List Cond} (hm : ∀ w ∈ ws, w ∈ big) (h : ws.all goodWord = true) : GoodIn big ws := fun w hw => ⟨hm w hw, good_of_word (List.all_eq_true.mp h w hw)⟩
/-! ===== END ===== -/
/-! ===== the heap as a map of cells: addresses to what lies there ===== -/
abbrev h_M : Type := Nat → Option va_E
def h_up (M : h_M) (a : Nat) (e : va_E) : h_M := fun q => if q = a then some e else M q
theorem h_us (M : h_M) (a : Nat) (e : va_E) : h_up M a e a = some e := if_pos rfl
theorem h_un (M : h_M) {a q : Nat} (e : va_E) (h : q ≠ a) : h_up M a e q = M q := if_neg h
def h_P (D : va_G) (cl : List vw_C) (M : h_M) (H : Heap) : Prop := ∀ (a : Nat) (e : va_E), M a = some e → va_at D cl (a, e) H
/-- the map's cells below n as a list -/
def h_l (M : h_M) (n : Nat) : va_W := (List.range n).filterMap (fun a => (M a).map (fun e => (a, e)))
theorem h_l_mem {M : h_M} {n a : Nat} {e : va_E} : (a, e) ∈ h_l M n ↔ a < n ∧ M a = some e := by
  unfold h_l
  rw [List.mem_filterMap]
  constructor
  · rintro ⟨b, hb, h⟩
    cases hM : M b with
    | none => rw [hM] at h; cases h
    | some x =>
      rw [hM] at h
      cases h
      exact ⟨List.mem_range.mp hb, hM⟩
  · rintro ⟨h1, h2⟩
    exact ⟨a, List.mem_range.mpr h1, by rw [h2]; rfl⟩
theorem h_l_at {M : h_M} {n a : Nat} {e : va_E} (h : M a = some e) (hn : a < n) : ∃ k : Nat, (h_l M n)[k]? = some (a, e) := List.getElem?_of_mem (h_l_mem.mpr ⟨hn, h⟩)
theorem h_l_nd (M : h_M) (n : Nat) : (h_l M n).Pairwise (fun x y => x.1 ≠ y.1) := by
  unfold h_l
  rw [List.pairwise_filterMap]
  refine List.Pairwise.imp ?_ List.nodup_range
  intro a b hab x hx y hy
  cases hA : M a with
  | none => rw [hA] at hx; cases hx
  | some u =>
    cases hB : M b with
    | none => rw [hB] at hy; cases hy
    | some v =>
      rw [hA] at hx
      rw [hB] at hy
      cases hx
      cases hy
      exact hab
theorem h_l_inj {M : h_M} {n i j : Nat} {x y : Nat × va_E} (hx : (h_l M n)[i]? = some x) (hy : (h_l M n)[j]? = some y) (h : x.1 = y.1) : i = j := by
  have hp := h_l_nd M n
  rw [List.pairwise_iff_getElem] at hp
  obtain ⟨hi, ei⟩ := List.getElem?_eq_some_iff.mp hx
  obtain ⟨hj, ej⟩ := List.getElem?_eq_some_iff.mp hy
  rcases Nat.lt_trichotomy i j with q | q | q
  · exact absurd (by rw [ei, ej]; exact h) (hp i j hi hj q)
  · exact q
  · exact absurd (by rw [ei, ej]; exact h.symm) (hp j i hj hi q)
theorem h_P.lt {D : va_G} {cl : List vw_C} {M : h_M} {H : Heap} (h : h_P D cl M H) {a : Nat} {e : va_E} (he : M a = some e) : a < H.size := (h a e he).lt
theorem h_P.ws {D : va_G} {cl : List vw_C} {M : h_M} {H : Heap} (h : h_P D cl M H) (n : Nat) : va_P D cl (h_l M n) H := fun k q hk => h q.1 q.2 (h_l_mem.mp (List.mem_of_getElem? hk)).2
theorem h_P.kept {D : va_G} {cl : List vw_C} {M : h_M} {H H1 : Heap} (h : h_P D cl M H) (hq : ∀ (a : Nat) (e : va_E), M a = some e → H1[a]? = H[a]?) : h_P D cl M H1 := fun a e he => (h a e he).kept (hq a e he)
/-- what a method's walk has in hand: the cells, what it may change, what has stayed -/
def h_V (D : va_G) (cl : List vw_C) (A : Nat → Prop) (H0 : Heap) (M : h_M) (H : Heap) (locs : List Loc) : Prop := h_P D cl M H ∧ (∀ a : Nat, M a ≠ none → A a) ∧ (∀ q : Nat, H0.size ≤ q → A q) ∧ va_S A H0 H locs
theorem h_V.D {D : va_G} {cl : List vw_C} {A : Nat → Prop} {H0 : Heap} {M : h_M} {H : Heap} {locs : List Loc} (h : h_V D cl A H0 M H locs) (n : Nat) : va_D A (h_l M n) :=
  ⟨fun _ _ _ _ hp hq he => h_l_inj hp hq he, fun k q hk => h.2.1 q.1 (by rw [(h_l_mem.mp (List.mem_of_getElem? hk)).2]; exact fun z => by cases z)⟩
theorem h_V.S {D : va_G} {cl : List vw_C} {A : Nat → Prop} {H0 : Heap} {M : h_M} {H : Heap} {locs : List Loc} (h : h_V D cl A H0 M H locs) : va_S A H0 H locs := h.2.2.2
theorem h_V.set {D : va_G} {cl : List vw_C} {A : Nat → Prop} {H0 : Heap} {M : h_M} {H H1 : Heap} {locs locs1 : List Loc} (h : h_V D cl A H0 M H locs) {k a : Nat} {e0 e : va_E} (hk : (h_l M H.size)[k]? = some (a, e0)) (hP : va_P D cl ((h_l M H.size).set k (a, e)) H1) (hS : va_S A H0 H1 locs1) : h_V D cl A H0 (h_up M a e) H1 locs1 := by
  have hlt : k < (h_l M H.size).length := (List.getElem?_eq_some_iff.mp hk).1
  refine ⟨fun b eb hb => ?_, fun b hb => ?_, h.2.2.1, hS⟩
  · by_cases hba : b = a
    · subst hba
      rw [h_us] at hb
      cases hb
      exact hP k _ (by rw [List.getElem?_set_self hlt])
    · rw [h_un M e hba] at hb
      obtain ⟨j, hj⟩ := h_l_at hb (h.1.lt hb)
      exact hP j _ (by
        rw [List.getElem?_set_ne]
        · exact hj
        · intro hjk
          subst hjk
          rw [hk] at hj
          cases hj
          exact hba rfl)
  · by_cases hba : b = a
    · subst hba
      exact h.2.1 b (by rw [(h_l_mem.mp (List.mem_of_getElem? hk)).2]; exact fun z => by cases z)
    · rw [h_un M e hba] at hb
      exact h.2.1 b hb
theorem h_V.push {D : va_G} {cl : List vw_C} {A : Nat → Prop} {H0 : Heap} {M : h_M} {H H1 : Heap} {locs locs1 : List Loc} (h : h_V D cl A H0 M H locs) {q : Nat} {e : va_E} (hP : va_P D cl (h_l M H.size ++ [(q, e)]) H1) (hD : va_D A (h_l M H.size ++ [(q, e)])) (hS : va_S A H0 H1 locs1) : h_V D cl A H0 (h_up M q e) H1 locs1 ∧ M q = none := by
  have hlast : (h_l M H.size ++ [(q, e)])[(h_l M H.size).length]? = some (q, e) := by simp
  refine ⟨⟨fun b eb hb => ?_, fun b hb => ?_, h.2.2.1, hS⟩, ?_⟩
  · by_cases hba : b = q
    · subst hba
      rw [h_us] at hb
      cases hb
      exact hP _ _ hlast
    · rw [h_un M e hba] at hb
      obtain ⟨j, hj⟩ := h_l_at hb (h.1.lt hb)
      exact hP j _ (by rw [List.getElem?_append_left (List.getElem?_eq_some_iff.mp hj).1]; exact hj)
  · by_cases hba : b = q
    · subst hba
      exact hD.2 _ _ hlast
    · rw [h_un M e hba] at hb
      exact h.2.1 b hb
  · cases hq : M q with
    | none => rfl
    | some x =>
      obtain ⟨j, hj⟩ := h_l_at hq (h.1.lt hq)
      have hl := (List.getElem?_eq_some_iff.mp hj).1
      have := hD.1 j _ (q, x) (q, e) (by rw [List.getElem?_append_left hl]; exact hj) hlast rfl
      omega
/-! ===== cells by names: a name (tag) is a kind and two numbers; ad: where it lies, c: what it holds ===== -/
abbrev h_T : Type := Nat × Nat × Nat
abbrev h_C : Type := h_T → Option va_E
def h_cu (c : h_C) (t : h_T) (e : Option va_E) : h_C := fun q => if q = t then e else c q
def h_au (ad : h_T → Nat) (t : h_T) (a : Nat) : h_T → Nat := fun q => if q = t then a else ad q
theorem h_cs (c : h_C) (t : h_T) (e : Option va_E) : h_cu c t e t = e := if_pos rfl
theorem h_cn (c : h_C) {t q : h_T} (e : Option va_E) (h : q ≠ t) : h_cu c t e q = c q := if_neg h
theorem h_as (ad : h_T → Nat) (t : h_T) (a : Nat) : h_au ad t a t = a := if_pos rfl
theorem h_an (ad : h_T → Nat) {t q : h_T} (a : Nat) (h : q ≠ t) : h_au ad t a q = ad q := if_neg h
theorem h_cuu (c : h_C) (t : h_T) (e e' : Option va_E) : h_cu (h_cu c t e) t e' = h_cu c t e' := by
  funext q
  by_cases h : q = t
  · rw [h, h_cs, h_cs]
  · rw [h_cn _ _ h, h_cn _ _ h, h_cn _ _ h]
/-- the cells lie in the heap as told, and different names lie at different places -/
def h_H (D : va_G) (cl : List vw_C) (ad : h_T → Nat) (c : h_C) (H : Heap) : Prop := (∀ (t : h_T) (e : va_E), c t = some e → va_at D cl (ad t, e) H) ∧ ∀ t t' : h_T, c t ≠ none → c t' ≠ none → ad t = ad t' → t = t'
def h_A (ad : h_T → Nat) (c : h_C) (sz : Nat) : Nat → Prop := fun q => (∃ t : h_T, c t ≠ none ∧ ad t = q) ∨ sz ≤ q
def h_W (D : va_G) (cl : List vw_C) (A : Nat → Prop) (H0 : Heap) (ad : h_T → Nat) (c : h_C) (H : Heap) (locs : List Loc) : Prop :=
  ∃ M : h_M, h_V D cl A H0 M H locs ∧ (∀ (t : h_T) (e : va_E), c t = some e → M (ad t) = some e) ∧ ∀ t t' : h_T, c t ≠ none → c t' ≠ none → ad t = ad t' → t = t'
theorem h_W.H {D : va_G} {cl : List vw_C} {A : Nat → Prop} {H0 : Heap} {ad : h_T → Nat} {c : h_C} {H : Heap} {locs : List Loc} (h : h_W D cl A H0 ad c H locs) : h_H D cl ad c H := by
  obtain ⟨M, hv, hm, hi⟩ := h
  exact ⟨fun t e ht => hv.1 _ _ (hm t e ht), hi⟩
theorem h_W.S {D : va_G} {cl : List vw_C} {A : Nat → Prop} {H0 : Heap} {ad : h_T → Nat} {c : h_C} {H : Heap} {locs : List Loc} (h : h_W D cl A H0 ad c H locs) : va_S A H0 H locs := by
  obtain ⟨M, hv, -, -⟩ := h
  exact hv.2.2.2
theorem h_W.A {D : va_G} {cl : List vw_C} {A : Nat → Prop} {H0 : Heap} {ad : h_T → Nat} {c : h_C} {H : Heap} {locs : List Loc} (h : h_W D cl A H0 ad c H locs) : ∀ t : h_T, c t ≠ none → A (ad t) := by
  obtain ⟨M, hv, hm, -⟩ := h
  intro t ht
  cases hc : c t with
  | none => exact absurd hc ht
  | some e => exact hv.2.1 _ (by rw [hm t e hc]; exact fun z => by cases z)
theorem h_W.new {D : va_G} {cl : List vw_C} {A : Nat → Prop} {H0 : Heap} {ad : h_T → Nat} {c : h_C} {H : Heap} {locs : List Loc} (h : h_W D cl A H0 ad c H locs) : ∀ q : Nat, H0.size ≤ q → A q := by
  obtain ⟨M, hv, -, -⟩ := h
  exact hv.2.2.1
/-- a world out of its parts -/
theorem h_W.mk {D : va_G} {cl : List vw_C} {A : Nat → Prop} {H0 : Heap} {ad : h_T → Nat} {c : h_C} {H : Heap} {locs : List Loc} (hH : h_H D cl ad c H) (hA : ∀ t : h_T, c t ≠ none → A (ad t)) (hn : ∀ q : Nat, H0.size ≤ q → A q) (hS : va_S A H0 H locs) : h_W D cl A H0 ad c H locs := by
  classical
  have key : ∀ a : Nat, ∃ o : Option va_E, (∀ t e, c t = some e → ad t = a → o = some e) ∧ (o ≠ none → ∃ t, c t = o ∧ ad t = a) := by
    intro a
    by_cases h : ∃ t : h_T, c t ≠ none ∧ ad t = a
    · obtain ⟨t, h1, h2⟩ := h
      refine ⟨c t, fun t' e h3 h4 => ?_, fun _ => ⟨t, rfl, h2⟩⟩
      have := hH.2 t t' h1 (by rw [h3]; exact fun z => by cases z) (h2.trans h4.symm)
      rw [this, h3]
    · exact ⟨none, fun t e h3 h4 => absurd ⟨t, (by rw [h3]; exact Option.some_ne_none _), h4⟩ h, fun z => absurd rfl z⟩
  refine ⟨fun a => (key a).choose, ⟨fun a e he => ?_, fun a ha => ?_, hn, hS⟩, fun t e ht => (key (ad t)).choose_spec.1 t e ht rfl, hH.2⟩
  · have he : (key a).choose = some e := he
    obtain ⟨t, h1, h2⟩ := (key a).choose_spec.2 (by rw [he]; exact fun z => by cases z)
    rw [he] at h1
    have := hH.1 t e h1
    rw [h2] at this
    exact this
  · have ha : (key a).choose ≠ none := ha
    obtain ⟨t, h1, h2⟩ := (key a).choose_spec.2 ha
    rw [← h2]
    exact hA t (by rw [h1]; exact ha)
theorem h_W.start {D : va_G} {cl : List vw_C} {ad : h_T → Nat} {c : h_C} {H : Heap} (h : h_H D cl ad c H) : h_W D cl (h_A ad c H.size) H ad c H [] := h_W.mk h (fun t ht => Or.inl ⟨t, ht, rfl⟩) (fun _ hq => Or.inr hq) va_S.rf
theorem h_H.lt {D : va_G} {cl : List vw_C} {ad : h_T → Nat} {c : h_C} {H : Heap} (h : h_H D cl ad c H) {t : h_T} (ht : c t ≠ none) : ad t < H.size := by
  cases hc : c t with
  | none => exact absurd hc ht
  | some e => exact (h.1 t e hc).lt
/-- another name for a cell, or none: the heap stays -/
theorem h_W.drop {D : va_G} {cl : List vw_C} {A : Nat → Prop} {H0 : Heap} {ad : h_T → Nat} {c : h_C} {H : Heap} {locs : List Loc} (h : h_W D cl A H0 ad c H locs) (t : h_T) : h_W D cl A H0 ad (h_cu c t none) H locs := by
  obtain ⟨M, hv, hm, hi⟩ := h
  have live : ∀ q e, h_cu c t none q = some e → c q = some e := by
    intro q e hq
    by_cases hqt : q = t
    · rw [hqt, h_cs] at hq; cases hq
    · rwa [h_cn _ _ hqt] at hq
  have live' : ∀ q, h_cu c t none q ≠ none → c q ≠ none := by
    intro q hq
    by_cases hqt : q = t
    · rw [hqt, h_cs] at hq; exact absurd rfl hq
    · rwa [h_cn _ _ hqt] at hq
  exact ⟨M, hv, fun q e hq => hm q e (live q e hq), fun q q' h1 h2 h3 => hi q q' (live' q h1) (live' q' h2) h3⟩
theorem h_W.retag {D : va_G} {cl : List vw_C} {A : Nat → Prop} {H0 : Heap} {ad : h_T → Nat} {c : h_C} {H : Heap} {locs : List Loc} (h : h_W D cl A H0 ad c H locs) {t u : h_T} (hne : t ≠ u) (hu : c u = none) : h_W D cl A H0 (h_au ad u (ad t)) (h_cu (h_cu c u (c t)) t none) H locs := by
  obtain ⟨M, hv, hm, hi⟩ := h
  have live : ∀ q, h_cu (h_cu c u (c t)) t none q ≠ none → q ≠ t ∧ (q = u → c t ≠ none) ∧ (q ≠ u → c q ≠ none) := by
    intro q hq
    by_cases hqt : q = t
    · rw [hqt, h_cs] at hq; exact absurd rfl hq
    · rw [h_cn _ _ hqt] at hq
      refine ⟨hqt, fun e => ?_, fun e => ?_⟩
      · rwa [e, h_cs] at hq
      · rwa [h_cn _ _ e] at hq
  refine ⟨M, hv, fun q e hq => ?_, fun q q' h1 h2 h3 => ?_⟩
  · by_cases hqt : q = t
    · rw [hqt, h_cs] at hq; cases hq
    · rw [h_cn _ _ hqt] at hq
      by_cases hqu : q = u
      · rw [hqu, h_cs] at hq
        rw [hqu, h_as]
        exact hm t e hq
      · rw [h_cn _ _ hqu] at hq
        rw [h_an _ _ hqu]
        exact hm q e hq
  · obtain ⟨a1, a2, a3⟩ := live q h1
    obtain ⟨b1, b2, b3⟩ := live q' h2
    by_cases hqu : q = u
    · by_cases hqu' : q' = u
      · rw [hqu, hqu']
      · rw [hqu, h_as, h_an _ _ hqu'] at h3
        exact absurd (hi t q' (a2 hqu) (b3 hqu') h3) (Ne.symm b1)
    · by_cases hqu' : q' = u
      · rw [hqu', h_as, h_an _ _ hqu] at h3
        exact absurd (hi q t (a3 hqu) (b2 hqu') h3) a1
      · rw [h_an _ _ hqu, h_an _ _ hqu'] at h3
        exact hi q q' (a3 hqu) (b3 hqu') h3
/-- a cell written -/
theorem h_W.set {D : va_G} {cl : List vw_C} {A : Nat → Prop} {H0 : Heap} {ad : h_T → Nat} {c : h_C} {H : Heap} {locs : List Loc} (h : h_W D cl A H0 ad c H locs) {t : h_T} {e0 : va_E} (ht : c t = some e0) : ∃ (ws : va_W) (k : Nat), ws[k]? = some (ad t, e0) ∧ va_P D cl ws H ∧ va_D A ws ∧ va_S A H0 H locs ∧ (∀ (u : h_T) (e : va_E), c u = some e → ∃ j : Nat, ws[j]? = some (ad u, e)) ∧
    (∀ (e : va_E) (H1 : Heap) (locs1 : List Loc), va_P D cl (ws.set k (ad t, e)) H1 → va_S A H0 H1 locs1 → h_W D cl A H0 ad (h_cu c t (some e)) H1 locs1) := by
  obtain ⟨M, hv, hm, hi⟩ := h
  obtain ⟨k, hk⟩ := h_l_at (hm t e0 ht) (hv.1.lt (hm t e0 ht))
  refine ⟨h_l M H.size, k, hk, hv.1.ws H.size, hv.D H.size, hv.2.2.2, fun u e hu => h_l_at (hm u e hu) (hv.1.lt (hm u e hu)), fun e H1 locs1 hP hS => ?_⟩
  have live : ∀ q, h_cu c t (some e) q ≠ none → c q ≠ none := by
    intro q hq
    by_cases hqt : q = t
    · rw [hqt, ht]; exact fun z => by cases z
    · rwa [h_cn _ _ hqt] at hq
  refine ⟨h_up M (ad t) e, hv.set hk hP hS, fun q e' hq => ?_, fun q q' h1 h2 h3 => hi q q' (live q h1) (live q' h2) h3⟩
  by_cases hqt : q = t
  · rw [hqt, h_cs] at hq
    cases hq
    rw [hqt, h_us]
  · rw [h_cn _ _ hqt] at hq
    rw [h_un]
    · exact hm q e' hq
    · intro hz
      exact hqt (hi q t (by rw [hq]; exact fun z => by cases z) (by rw [ht]; exact fun z => by cases z) hz)
/-- a cell more -/
theorem h_W.push {D : va_G} {cl : List vw_C} {A : Nat → Prop} {H0 : Heap} {ad : h_T → Nat} {c : h_C} {H : Heap} {locs : List Loc} (h : h_W D cl A H0 ad c H locs) {t : h_T} (ht : c t = none) : ∃ ws : va_W, va_P D cl ws H ∧ va_D A ws ∧ va_S A H0 H locs ∧
    (∀ (q : Nat) (e : va_E) (H1 : Heap) (locs1 : List Loc), va_P D cl (ws ++ [(q, e)]) H1 → va_D A (ws ++ [(q, e)]) → va_S A H0 H1 locs1 → h_W D cl A H0 (h_au ad t q) (h_cu c t (some e)) H1 locs1) := by
  obtain ⟨M, hv, hm, hi⟩ := h
  refine ⟨h_l M H.size, hv.1.ws H.size, hv.D H.size, hv.2.2.2, fun q e H1 locs1 hP hD hS => ?_⟩
  obtain ⟨hv1, hq⟩ := hv.push hP hD hS
  have ne : ∀ u : h_T, c u ≠ none → ad u ≠ q := by
    intro u hu
    cases hc : c u with
    | none => exact absurd hc hu
    | some e' =>
      intro z
      have := hm u e' hc
      rw [z, hq] at this
      cases this
  refine ⟨h_up M q e, hv1, fun u e' hu => ?_, fun u u' h1 h2 h3 => ?_⟩
  · by_cases hut : u = t
    · rw [hut, h_cs] at hu
      cases hu
      rw [hut, h_as, h_us]
    · rw [h_cn _ _ hut] at hu
      rw [h_an _ _ hut, h_un]
      · exact hm u e' hu
      · exact ne u (by rw [hu]; exact fun z => by cases z)
  · by_cases hut : u = t
    · by_cases hut' : u' = t
      · rw [hut, hut']
      · rw [h_cn _ _ hut'] at h2
        rw [hut, h_as, h_an _ _ hut'] at h3
        exact absurd h3.symm (ne u' h2)
    · rw [h_cn _ _ hut] at h1
      by_cases hut' : u' = t
      · rw [hut', h_as, h_an _ _ hut] at h3
        exact absurd h3 (ne u h1)
      · rw [h_cn _ _ hut'] at h2
        rw [h_an _ _ hut, h_an _ _ hut'] at h3
        exact hi u u' h1 h2 h3
end
section
/-! ===== what a method's walk stands on: the machine, the code, the words, the classes ===== -/
abbrev h_cl : List vw_C := [(RX0, TX0, 3), (RX1, TX1, 2), (RX2, TX2, 4), (RX3, TX3, 12), (RX4, TX4, 20)]
abbrev h_G : Type := va_G × (Nat → ClassId)
abbrev h_ty (G : h_G) : List (ClassId × FieldType) := [(G.2 0, .int), (G.2 1, .long), (G.2 2, .boolean), (G.2 3, .byte), (G.2 4, .object RX0), (G.2 5, .object RX1), (G.2 6, .object RX2)]
def h_nw : List Cond := [.methodLinkNest RX3 30 yX1_init RX3, .fieldLinkNest RX3 106 RX1 "bytes" "[I" RX3, .fieldLinkNest RX3 79 RX1 "size" "I" RX3, .fieldLinkNest RX3 195 RX2 "place" "I" RX3, .fieldLinkNest RX3 95 RX2 "answering" "Z" RX3, .fieldLinkNest RX3 156 RX2 "up" "I" RX3, .fieldLinkNest RX3 159 RX2 "down" "I" RX3, .fieldLinkNest RX3 117 RX0 "pack" "I" RX3, .fieldLinkNest RX3 113 RX0 "rows" "[LCopyPolls$Row;" RX3, .fieldLinkNest RX3 188 RX0 "renewed" "I" RX3]
def h_K (G : h_G) (U : State) : Prop := va_K G.1 h_cl (h_ty G) U ∧ (∀ w ∈ h_nw, va_Nw w U) ∧ va_AO RX0 U ∧ va_AO RX1 U ∧ va_AO RX2 U
theorem h_nw_warm {s U : State} (hW : s.WarmedH U.vm) (h : ∀ w ∈ h_nw, va_Nw w s) : ∀ w ∈ h_nw, va_Nw w U := by
  intro w hw
  have h0 := h w hw
  simp only [h_nw, List.mem_cons, List.not_mem_nil, or_false] at hw
  rcases hw with rfl | rfl | rfl | rfl | rfl | rfl | rfl | rfl | rfl | rfl
  · exact va_Nw.warmM hW h0
  all_goals exact va_Nw.warmF hW h0
theorem h_nw_tab : ∀ w ∈ h_nw, w.onTables = true := by
  intro w hw
  simp only [h_nw, List.mem_cons, List.not_mem_nil, or_false] at hw
  rcases hw with rfl | rfl | rfl | rfl | rfl | rfl | rfl | rfl | rfl | rfl <;> rfl
theorem h_K.warm {G : h_G} {s U : State} (hW : s.WarmedH U.vm) (h : h_K G s) : h_K G U := ⟨va_K.moved hW.alike h.1, h_nw_warm hW h.2.1, va_AO.moved hW.alike h.2.2.1, va_AO.moved hW.alike h.2.2.2.1, va_AO.moved hW.alike h.2.2.2.2⟩
theorem h_K.calling {G : h_G} {U : State} {g : JFrame} {mk : MethodId} {a : Array Value} (h : h_K G U) : h_K G (U.calling g mk a) :=
  ⟨va_K.moved (u := U) (U := U.calling g mk a) (Vm.Alike.refl U.vm) h.1, fun w hw => va_Nw.same (u := U) (U := U.calling g mk a) (h_nw_tab w hw) rfl (h.2.1 w hw), va_AO.moved (u := U) (U := U.calling g mk a) (Vm.Alike.refl U.vm) h.2.2.1, va_AO.moved (u := U) (U := U.calling g mk a) (Vm.Alike.refl U.vm) h.2.2.2.1, va_AO.moved (u := U) (U := U.calling g mk a) (Vm.Alike.refl U.vm) h.2.2.2.2⟩
/-- the tables' good words -/
def h_tb : List Cond := lw_tbl.filter goodWord
theorem h_tb_in {w : Cond} (h : w ∈ lw_tbl) (hg : goodWord w = true) : w ∈ h_tb := List.mem_filter.mpr ⟨h, hg⟩
theorem h_tb_good : GoodIn h_tb h_tb := goodIn_sub (fun _ h => h) (by
  rw [List.all_eq_true]
  intro w hw
  exact (List.mem_filter.mp hw).2)
def h_ws (y : MethodName) (b : ByteArray) (mL : Nat) (ret : Option FieldType) : List Cond := .code y b mL ret :: h_tb
theorem h_ws_good {y : MethodName} {b : ByteArray} {mL : Nat} {ret : Option FieldType} (h : Cond.code y b mL ret ∈ h_tb) : GoodIn h_tb (h_ws y b mL ret) := fun w hw => by
  rcases List.mem_cons.mp hw with rfl | hw
  · exact h_tb_good _ h
  · exact h_tb_good _ hw
def h_X (p : Program) (s : State) (m : MethodId) (args : Array Value) (c : Code) (cc : ByteArray) (nL : Nat) (own : String) (G : h_G) : Prop :=
  p.tables.exec = Jvm.exec ∧ c.code = cc ∧ c.maxLocals = nL ∧ s.vm.findClass own = some m.cls ∧ (∀ w ∈ h_tb, w.before args s = true) ∧ h_K G s
section HROWS
variable {p : Program} {l : Launch} {e : Env} {R : Room} {s : State} {m : MethodId} {args : Array Value} {below : List Frame} {meth : Method} {c : Code} {H : Heap} {locs : List Loc} {cells slots : Nat} {Q : State → Prop}
variable {cc : ByteArray} {nL : Nat} {own : String} {G : h_G} {pc : Nat} {ls : Array Slot} {rest : List Value} {A : Nat → Prop} {H0 : Heap} {ad : h_T → Nat} {k : h_C} {t : h_T}
theorem h_get (X : h_X p s m args c cc nL own G) (hw : h_W G.1 h_cl A H0 ad k H locs) {C : String} {T : u_T} {N ci index : Nat} {fs : List Value} (he : k t = some (.inr (ci, fs))) (hc : h_cl[ci]? = some (C, T, N)) (hin : ∀ w ∈ u_ws C T N, w ∈ h_tb) (i : Nat) (hi : i < N) (hlink : Cond.fieldLink own index (T i).1 (T i).2.1 (T i).2.2.1 ∈ h_tb) {v : Value} (hv : fs[i]? = some v) (hdg : decode cc pc = .ok (.getfield index, 3))
    (kk : W p l e R s m args below meth c H locs cells slots Q (F0 m (pc + 3) ls (v :: rest))) : W p l e R s m args below meth c H locs cells slots Q (F0 m pc ls (.ref (ad t) :: rest)) := by
  obtain ⟨ws, q0, hq, hP, -, -, -, -⟩ := hw.set he
  exact va_get X.1 X.2.1 X.2.2.2.2.1 hin X.2.2.2.1 X.2.2.2.2.2.1 hP q0 hq hc i hi (X.2.2.2.2.1 _ hlink) (fun x hx => hx) hv hdg kk
theorem h_getN (X : h_X p s m args c cc nL own G) (hw : h_W G.1 h_cl A H0 ad k H locs) {C host : String} {T : u_T} {N ci index : Nat} {fs : List Value} (he : k t = some (.inr (ci, fs))) (hc : h_cl[ci]? = some (C, T, N)) (hin : ∀ w ∈ u_ws C T N, w ∈ h_tb) (i : Nat) (hi : i < N) (hlink : Cond.fieldLinkNest own index (T i).1 (T i).2.1 (T i).2.2.1 host ∈ h_nw) {v : Value} (hv : fs[i]? = some v) (hdg : decode cc pc = .ok (.getfield index, 3))
    (kk : W p l e R s m args below meth c H locs cells slots Q (F0 m (pc + 3) ls (v :: rest))) : W p l e R s m args below meth c H locs cells slots Q (F0 m pc ls (.ref (ad t) :: rest)) := by
  obtain ⟨ws, q0, hq, hP, -, -, -, -⟩ := hw.set he
  exact va_getN X.1 X.2.1 X.2.2.2.2.1 hin X.2.2.2.1 X.2.2.2.2.2.1 hP q0 hq hc i hi (va_Nw.use (h_nw_tab _ hlink) (X.2.2.2.2.2.2.1 _ hlink)) (fun x hx => hx) hv hdg kk
theorem h_put (X : h_X p s m args c cc nL own G) (hw : h_W G.1 h_cl A H0 ad k H locs) {C : String} {T : u_T} {N ci index : Nat} {fs : List Value} (he : k t = some (.inr (ci, fs))) (hc : h_cl[ci]? = some (C, T, N)) (hin : ∀ w ∈ u_ws C T N, w ∈ h_tb) (ty : Nat → FieldType) (hty : ∀ k, k < N → parseFieldDescriptor (T k).2.2.1 = some (ty k)) (hnm : ∀ a, a < N → ∀ b, b < N → a ≠ b → (T a).2.1 ≠ (T b).2.1) (i : Nat) (hi : i < N) (hlink : Cond.fieldLink own index (T i).1 (T i).2.1 (T i).2.2.1 ∈ h_tb) (hfin : (T i).2.2.2 = false) {v : Value} (hn : narrow (ty i) v = v) (hfit : fits (ty i) v = true) (hl : i < fs.length) (hdg : decode cc pc = .ok (.putfield index, 3))
    (kk : ∀ (H1 : Heap) (locs1 : List Loc), h_W G.1 h_cl A H0 ad (h_cu k t (some (.inr (ci, fs.set i v)))) H1 locs1 → W p l e R s m args below meth c H1 locs1 cells slots Q (F0 m (pc + 3) ls rest)) : W p l e R s m args below meth c H locs cells slots Q (F0 m pc ls (v :: .ref (ad t) :: rest)) := by
  obtain ⟨ws, q0, hq, hP, hD, hS, -, fin⟩ := hw.set he
  exact va_put X.1 X.2.1 X.2.2.2.2.1 hin ty hty hnm X.2.2.2.1 X.2.2.2.2.2.1 hP hD hS q0 hq hc i hi (X.2.2.2.2.1 _ hlink) (fun x hx => hx) hfin (hty i hi) hn hfit hl hdg (fun H1 locs1 h1 _ h3 => kk H1 locs1 (fin _ H1 locs1 h1 h3))
theorem h_putN (X : h_X p s m args c cc nL own G) (hw : h_W G.1 h_cl A H0 ad k H locs) {C host : String} {T : u_T} {N ci index : Nat} {fs : List Value} (he : k t = some (.inr (ci, fs))) (hc : h_cl[ci]? = some (C, T, N)) (hin : ∀ w ∈ u_ws C T N, w ∈ h_tb) (ty : Nat → FieldType) (hty : ∀ k, k < N → parseFieldDescriptor (T k).2.2.1 = some (ty k)) (hnm : ∀ a, a < N → ∀ b, b < N → a ≠ b → (T a).2.1 ≠ (T b).2.1) (i : Nat) (hi : i < N) (hlink : Cond.fieldLinkNest own index (T i).1 (T i).2.1 (T i).2.2.1 host ∈ h_nw) (hfin : (T i).2.2.2 = false) {v : Value} (hn : narrow (ty i) v = v) (hfit : fits (ty i) v = true) (hl : i < fs.length) (hdg : decode cc pc = .ok (.putfield index, 3))
    (kk : ∀ (H1 : Heap) (locs1 : List Loc), h_W G.1 h_cl A H0 ad (h_cu k t (some (.inr (ci, fs.set i v)))) H1 locs1 → W p l e R s m args below meth c H1 locs1 cells slots Q (F0 m (pc + 3) ls rest)) : W p l e R s m args below meth c H locs cells slots Q (F0 m pc ls (v :: .ref (ad t) :: rest)) := by
  obtain ⟨ws, q0, hq, hP, hD, hS, -, fin⟩ := hw.set he
  exact va_putN X.1 X.2.1 X.2.2.2.2.1 hin ty hty hnm X.2.2.2.1 X.2.2.2.2.2.1 hP hD hS q0 hq hc i hi (va_Nw.use (h_nw_tab _ hlink) (X.2.2.2.2.2.2.1 _ hlink)) (fun x hx => hx) hfin (hty i hi) hn hfit hl hdg (fun H1 locs1 h1 _ h3 => kk H1 locs1 (fin _ H1 locs1 h1 h3))
theorem h_putF (X : h_X p s m args c cc nL own G) (hw : h_W G.1 h_cl A H0 ad k H locs) {C : String} {T : u_T} {N ci index : Nat} {fs : List Value} (he : k t = some (.inr (ci, fs))) (hc : h_cl[ci]? = some (C, T, N)) (hin : ∀ w ∈ u_ws C T N, w ∈ h_tb) (ty : Nat → FieldType) (hty : ∀ k, k < N → parseFieldDescriptor (T k).2.2.1 = some (ty k)) (hnm : ∀ a, a < N → ∀ b, b < N → a ≠ b → (T a).2.1 ≠ (T b).2.1) (i : Nat) (hi : i < N) (hlink : Cond.fieldLink own index (T i).1 (T i).2.1 (T i).2.2.1 ∈ h_tb) (hfin : (T i).2.2.2 = true) (hdecl : (T i).1 = own) (hin2 : meth.name = "<init>") {v : Value} (hn : narrow (ty i) v = v) (hfit : fits (ty i) v = true) (hl : i < fs.length) (hdg : decode cc pc = .ok (.putfield index, 3))
    (kk : ∀ (H1 : Heap) (locs1 : List Loc), h_W G.1 h_cl A H0 ad (h_cu k t (some (.inr (ci, fs.set i v)))) H1 locs1 → W p l e R s m args below meth c H1 locs1 cells slots Q (F0 m (pc + 3) ls rest)) : W p l e R s m args below meth c H locs cells slots Q (F0 m pc ls (v :: .ref (ad t) :: rest)) := by
  obtain ⟨ws, q0, hq, hP, hD, hS, -, fin⟩ := hw.set he
  exact va_putF X.1 X.2.1 X.2.2.2.2.1 hin ty hty hnm X.2.2.2.1 X.2.2.2.2.2.1 hP hD hS q0 hq hc i hi (X.2.2.2.2.1 _ hlink) (fun x hx => hx) hfin hin2 hdecl (hty i hi) hn hfit hl hdg (fun H1 locs1 h1 _ h3 => kk H1 locs1 (fin _ H1 locs1 h1 h3))
theorem h_iald (X : h_X p s m args c cc nL own G) (hw : h_W G.1 h_cl A H0 ad k H locs) {n : Nat} {f : Nat → Int32} (ha : k t = some (.inl (G.2 0, n, .inl f))) {i : Int32} (hin : vp_in i n) (hdg : decode cc pc = .ok (.iaload, 1))
    (kk : W p l e R s m args below meth c H locs cells slots Q (F0 m (pc + 1) ls (.int (f i.toNatClampNeg) :: rest))) : W p l e R s m args below meth c H locs cells slots Q (F0 m pc ls (.int i :: .ref (ad t) :: rest)) := by
  obtain ⟨ws, q0, hq, hP, -, -, -, -⟩ := hw.set ha
  exact va_iald X.1 X.2.1 X.2.2.2.2.2.1 hP q0 0 hq rfl hin hdg kk
theorem h_iast (X : h_X p s m args c cc nL own G) (hw : h_W G.1 h_cl A H0 ad k H locs) {n : Nat} {f : Nat → Int32} (ha : k t = some (.inl (G.2 0, n, .inl f))) {i x : Int32} (hin : vp_in i n) (hdg : decode cc pc = .ok (.iastore, 1))
    (kk : ∀ (H1 : Heap) (locs1 : List Loc), h_W G.1 h_cl A H0 ad (h_cu k t (some (.inl (G.2 0, n, .inl (upd f i.toNatClampNeg x))))) H1 locs1 → W p l e R s m args below meth c H1 locs1 cells slots Q (F0 m (pc + 1) ls rest)) : W p l e R s m args below meth c H locs cells slots Q (F0 m pc ls (.int x :: .int i :: .ref (ad t) :: rest)) := by
  obtain ⟨ws, q0, hq, hP, hD, hS, -, fin⟩ := hw.set ha
  exact va_iast X.1 X.2.1 X.2.2.2.2.2.1 hP hD hS q0 0 hq rfl hin hdg (fun H1 locs1 h1 _ h3 => kk H1 locs1 (fin _ H1 locs1 h1 h3))
theorem h_lald (X : h_X p s m args c cc nL own G) (hw : h_W G.1 h_cl A H0 ad k H locs) {n : Nat} {f : Nat → Int64} (ha : k t = some (.inl (G.2 1, n, .inr (.inl f)))) {i : Int32} (hin : vp_in i n) (hdg : decode cc pc = .ok (.laload, 1))
    (kk : W p l e R s m args below meth c H locs cells slots Q (F0 m (pc + 1) ls (.long (f i.toNatClampNeg) :: rest))) : W p l e R s m args below meth c H locs cells slots Q (F0 m pc ls (.int i :: .ref (ad t) :: rest)) := by
  obtain ⟨ws, q0, hq, hP, -, -, -, -⟩ := hw.set ha
  exact va_lald X.1 X.2.1 X.2.2.2.2.2.1 hP q0 1 hq rfl hin hdg kk
theorem h_last (X : h_X p s m args c cc nL own G) (hw : h_W G.1 h_cl A H0 ad k H locs) {n : Nat} {f : Nat → Int64} (ha : k t = some (.inl (G.2 1, n, .inr (.inl f)))) {i : Int32} {x : Int64} (hin : vp_in i n) (hdg : decode cc pc = .ok (.lastore, 1))
    (kk : ∀ (H1 : Heap) (locs1 : List Loc), h_W G.1 h_cl A H0 ad (h_cu k t (some (.inl (G.2 1, n, .inr (.inl (vp_updL f i.toNatClampNeg x)))))) H1 locs1 → W p l e R s m args below meth c H1 locs1 cells slots Q (F0 m (pc + 1) ls rest)) : W p l e R s m args below meth c H locs cells slots Q (F0 m pc ls (.long x :: .int i :: .ref (ad t) :: rest)) := by
  obtain ⟨ws, q0, hq, hP, hD, hS, -, fin⟩ := hw.set ha
  exact va_last X.1 X.2.1 X.2.2.2.2.2.1 hP hD hS q0 1 hq rfl hin hdg (fun H1 locs1 h1 _ h3 => kk H1 locs1 (fin _ H1 locs1 h1 h3))
theorem h_zald (X : h_X p s m args c cc nL own G) (hw : h_W G.1 h_cl A H0 ad k H locs) {n : Nat} {f : Nat → Int32} (ha : k t = some (.inl (G.2 2, n, .inl f))) {i : Int32} (hin : vp_in i n) (hdg : decode cc pc = .ok (.baload, 1))
    (kk : W p l e R s m args below meth c H locs cells slots Q (F0 m (pc + 1) ls (.int (f i.toNatClampNeg) :: rest))) : W p l e R s m args below meth c H locs cells slots Q (F0 m pc ls (.int i :: .ref (ad t) :: rest)) := by
  obtain ⟨ws, q0, hq, hP, -, -, -, -⟩ := hw.set ha
  exact va_zald X.1 X.2.1 X.2.2.2.2.2.1 hP q0 2 hq rfl hin hdg kk
theorem h_zast (X : h_X p s m args c cc nL own G) (hw : h_W G.1 h_cl A H0 ad k H locs) {n : Nat} {f : Nat → Int32} (ha : k t = some (.inl (G.2 2, n, .inl f))) {i x : Int32} (hin : vp_in i n) (hdg : decode cc pc = .ok (.bastore, 1))
    (kk : ∀ (H1 : Heap) (locs1 : List Loc), h_W G.1 h_cl A H0 ad (h_cu k t (some (.inl (G.2 2, n, .inl (upd f i.toNatClampNeg (vp_nar .boolean x)))))) H1 locs1 → W p l e R s m args below meth c H1 locs1 cells slots Q (F0 m (pc + 1) ls rest)) : W p l e R s m args below meth c H locs cells slots Q (F0 m pc ls (.int x :: .int i :: .ref (ad t) :: rest)) := by
  obtain ⟨ws, q0, hq, hP, hD, hS, -, fin⟩ := hw.set ha
  exact va_zast X.1 X.2.1 X.2.2.2.2.2.1 hP hD hS q0 2 hq rfl hin hdg (fun H1 locs1 h1 _ h3 => kk H1 locs1 (fin _ H1 locs1 h1 h3))
theorem h_bald (X : h_X p s m args c cc nL own G) (hw : h_W G.1 h_cl A H0 ad k H locs) {n : Nat} {f : Nat → Int32} (ha : k t = some (.inl (G.2 3, n, .inl f))) {i : Int32} (hin : vp_in i n) (hdg : decode cc pc = .ok (.baload, 1))
    (kk : W p l e R s m args below meth c H locs cells slots Q (F0 m (pc + 1) ls (.int (f i.toNatClampNeg) :: rest))) : W p l e R s m args below meth c H locs cells slots Q (F0 m pc ls (.int i :: .ref (ad t) :: rest)) := by
  obtain ⟨ws, q0, hq, hP, -, -, -, -⟩ := hw.set ha
  exact va_bald X.1 X.2.1 X.2.2.2.2.2.1 hP q0 3 hq rfl hin hdg kk
theorem h_bast (X : h_X p s m args c cc nL own G) (hw : h_W G.1 h_cl A H0 ad k H locs) {n : Nat} {f : Nat → Int32} (ha : k t = some (.inl (G.2 3, n, .inl f))) {i x : Int32} (hin : vp_in i n) (hdg : decode cc pc = .ok (.bastore, 1))
    (kk : ∀ (H1 : Heap) (locs1 : List Loc), h_W G.1 h_cl A H0 ad (h_cu k t (some (.inl (G.2 3, n, .inl (upd f i.toNatClampNeg (vp_nar .byte x)))))) H1 locs1 → W p l e R s m args below meth c H1 locs1 cells slots Q (F0 m (pc + 1) ls rest)) : W p l e R s m args below meth c H locs cells slots Q (F0 m pc ls (.int x :: .int i :: .ref (ad t) :: rest)) := by
  obtain ⟨ws, q0, hq, hP, hD, hS, -, fin⟩ := hw.set ha
  exact va_bast X.1 X.2.1 X.2.2.2.2.2.1 hP hD hS q0 3 hq rfl hin hdg (fun H1 locs1 h1 _ h3 => kk H1 locs1 (fin _ H1 locs1 h1 h3))
theorem h_aald (X : h_X p s m args c cc nL own G) (hw : h_W G.1 h_cl A H0 ad k H locs) (ti : Nat) {cA : ClassId} {C : String} (hti : (h_ty G)[ti]? = some (cA, .object C)) {n : Nat} {f : Nat → Option Nat} (ha : k t = some (.inl (cA, n, .inr (.inr (.inr (.inr f)))))) {i : Int32} (hin : vp_in i n) (hdg : decode cc pc = .ok (.aaload, 1))
    (kk : W p l e R s m args below meth c H locs cells slots Q (F0 m (pc + 1) ls (va_rf (f i.toNatClampNeg) :: rest))) : W p l e R s m args below meth c H locs cells slots Q (F0 m pc ls (.int i :: .ref (ad t) :: rest)) := by
  obtain ⟨ws, q0, hq, hP, -, -, -, -⟩ := hw.set ha
  exact va_aldq X.1 X.2.1 X.2.2.2.2.2.1 hP q0 ti hq hti hin hdg kk
theorem h_aast (X : h_X p s m args c cc nL own G) (hw : h_W G.1 h_cl A H0 ad k H locs) (ti ci : Nat) {cA : ClassId} {r : vw_C} (hti : (h_ty G)[ti]? = some (cA, .object r.1)) {n : Nat} {u : h_T} {vs : List Value} {f : Nat → Option Nat} (ha : k t = some (.inl (cA, n, .inr (.inr (.inr (.inr f)))))) (hv : k u = some (.inr (ci, vs))) (hc : h_cl[ci]? = some r) {i : Int32} (hin : vp_in i n) (hdg : decode cc pc = .ok (.aastore, 1))
    (kk : ∀ (H1 : Heap) (locs1 : List Loc), h_W G.1 h_cl A H0 ad (h_cu k t (some (.inl (cA, n, .inr (.inr (.inr (.inr (va_up f i.toNatClampNeg (some (ad u)))))))))) H1 locs1 → W p l e R s m args below meth c H1 locs1 cells slots Q (F0 m (pc + 1) ls rest)) : W p l e R s m args below meth c H locs cells slots Q (F0 m pc ls (.ref (ad u) :: .int i :: .ref (ad t) :: rest)) := by
  obtain ⟨ws, q0, hq, hP, hD, hS, hal, fin⟩ := hw.set ha
  obtain ⟨qk, hqk⟩ := hal u _ hv
  exact va_astq X.1 X.2.1 X.2.2.2.2.2.1 hP hD hS q0 ti qk ci hq hti hqk hc hin hdg (fun H1 locs1 h1 _ h3 => kk H1 locs1 (fin _ H1 locs1 h1 h3))
theorem h_aastN (X : h_X p s m args c cc nL own G) (hw : h_W G.1 h_cl A H0 ad k H locs) (ti : Nat) {cA : ClassId} {C : String} (hti : (h_ty G)[ti]? = some (cA, .object C)) {n : Nat} {f : Nat → Option Nat} (ha : k t = some (.inl (cA, n, .inr (.inr (.inr (.inr f)))))) {i : Int32} (hin : vp_in i n) (hdg : decode cc pc = .ok (.aastore, 1))
    (kk : ∀ (H1 : Heap) (locs1 : List Loc), h_W G.1 h_cl A H0 ad (h_cu k t (some (.inl (cA, n, .inr (.inr (.inr (.inr (va_up f i.toNatClampNeg none)))))))) H1 locs1 → W p l e R s m args below meth c H1 locs1 cells slots Q (F0 m (pc + 1) ls rest)) : W p l e R s m args below meth c H locs cells slots Q (F0 m pc ls (.null :: .int i :: .ref (ad t) :: rest)) := by
  obtain ⟨ws, q0, hq, hP, hD, hS, -, fin⟩ := hw.set ha
  exact va_astqN X.1 X.2.1 X.2.2.2.2.2.1 hP hD hS q0 ti hq hti hin hdg (fun H1 locs1 h1 _ h3 => kk H1 locs1 (fin _ H1 locs1 h1 h3))
theorem h_alen (X : h_X p s m args c cc nL own G) (hw : h_W G.1 h_cl A H0 ad k H locs) (ti : Nat) {cA : ClassId} {ty : FieldType} (hti : (h_ty G)[ti]? = some (cA, ty)) {x : vp_A} (ha : k t = some (.inl (cA, x))) {v : Int32} (hv : Int32.ofNat x.1 = v) (hdg : decode cc pc = .ok (.arraylength, 1))
    (kk : W p l e R s m args below meth c H locs cells slots Q (F0 m (pc + 1) ls (.int v :: rest))) : W p l e R s m args below meth c H locs cells slots Q (F0 m pc ls (.ref (ad t) :: rest)) := by
  obtain ⟨ws, q0, hq, hP, -, -, -, -⟩ := hw.set ha
  exact va_alen X.1 X.2.1 X.2.2.2.2.2.1 hP q0 ti hq hti hv hdg kk
theorem h_new (X : h_X p s m args c cc nL own G) (hw : h_W G.1 h_cl A H0 ad k H locs) {C : String} {T : u_T} {N ci index : Nat} (t : h_T) (ht : k t = none) (hc : h_cl[ci]? = some (C, T, N)) (hin : ∀ w ∈ u_ws C T N, w ∈ h_tb) (ty : Nat → FieldType) (hty : ∀ k, k < N → parseFieldDescriptor (T k).2.2.1 = some (ty k)) (hcl : Cond.classLink own index C ∈ h_tb) (hinst : Cond.instantiable C N ∈ h_tb) (hini : Cond.initialized C ∈ h_tb)
    {fs : List Value} (hfs : ∀ j, j < N → defaultValue (ty j) = vp_V fs j) (hcells : cells + 1 ≤ R.cells) (hslots : slots + N ≤ R.slots) (hdg : decode cc pc = .ok (.new index, 3))
    (kk : ∀ (q : Nat) (H1 : Heap), h_W G.1 h_cl A H0 (h_au ad t q) (h_cu k t (some (.inr (ci, fs)))) H1 locs →
      W p l e R s m args below meth c H1 locs (cells + 1) (slots + N) Q (F0 m (pc + 3) ls (.ref q :: rest))) : W p l e R s m args below meth c H locs cells slots Q (F0 m pc ls rest) := by
  obtain ⟨ws, hP, hD, hS, fin⟩ := hw.push ht
  exact va_new X.1 X.2.1 X.2.2.2.2.1 hin ty hty X.2.2.2.1 (X.2.2.2.2.1 _ hcl) (X.2.2.2.2.1 _ hinst) (X.2.2.2.2.1 _ hini) X.2.2.2.2.2.1 hP hD hS hw.new hc hfs hcells hslots hdg (fun q H1 h1 h2 h3 => kk q H1 (fin q _ H1 locs h1 h2 h3))
/-- a new array of numbers; its class is the one that is known -/
theorem h_newa (X : h_X p s m args c cc nL own G) (hw : h_W G.1 h_cl A H0 ad k H locs) (t : h_T) (ht : k t = none) {atype : ArrayType} {ty : FieldType} (hty : newarray.typeOf atype = ty) (harr : Cond.arrayClass ty ∈ h_tb) (ti : Nat) {cA : ClassId} (hti : (h_ty G)[ti]? = some (cA, ty))
    {n : Int32} {N' : Nat} {a0 : vp_A} (ha : ∀ cA : ClassId, vp_cell cA a0 = arrV cA N' (fun _ => defaultValue ty)) (hn : ¬ n < 0) (hN : n.toNatClampNeg = N') (hbytes : N' * componentBytes ty ≤ 536870912) (hcells : cells + 1 ≤ R.cells) (hslots : slots + N' ≤ R.slots) (hdg : decode cc pc = .ok (.newarray atype, 2))
    (kk : ∀ (q : Nat) (H1 : Heap), h_W G.1 h_cl A H0 (h_au ad t q) (h_cu k t (some (.inl (cA, a0)))) H1 locs →
      W p l e R s m args below meth c H1 locs (cells + 1) (slots + N') Q (F0 m (pc + 2) ls (.ref q :: rest))) : W p l e R s m args below meth c H locs cells slots Q (F0 m pc ls (.int n :: rest)) := by
  obtain ⟨ws, hP, hD, hS, fin⟩ := hw.push ht
  refine va_newa X.1 X.2.1 (by rw [hty]; exact X.2.2.2.2.1 _ harr) hty X.2.2.2.2.2.1 hP hD hS hw.new ha hn hN hbytes hcells hslots hdg (fun q cB H1 hK1 h1 h2 h3 => ?_)
  have e1 := (hK1.2 (h_ty G).length (cB, ty) (by simp)).2
  have e2 := (X.2.2.2.2.2.1.2 ti _ hti).2
  have hcc : cB = cA := by
    subst hty
    cases atype <;> exact Option.some.inj (e1.symm.trans e2)
  subst hcc
  exact kk q H1 (fin q _ H1 locs h1 h2 h3)
theorem h_newq (X : h_X p s m args c cc nL own G) (hw : h_W G.1 h_cl A H0 ad k H locs) (t : h_T) (ht : k t = none) {C : String} {index : Nat} (hcl : Cond.classLink own index C ∈ h_tb) (hover : va_AO C s) (ti : Nat) {cA : ClassId} (hti : (h_ty G)[ti]? = some (cA, .object C))
    {n : Int32} {N' : Nat} (hn : ¬ n < 0) (hN : n.toNatClampNeg = N') (hbytes : N' * 4 ≤ 536870912) (hcells : cells + 1 ≤ R.cells) (hslots : slots + N' ≤ R.slots) (hdg : decode cc pc = .ok (.anewarray index, 3))
    (kk : ∀ (q : Nat) (H1 : Heap), h_W G.1 h_cl A H0 (h_au ad t q) (h_cu k t (some (.inl (cA, N', .inr (.inr (.inr (.inr (fun _ => none)))))))) H1 locs →
      W p l e R s m args below meth c H1 locs (cells + 1) (slots + N') Q (F0 m (pc + 3) ls (.ref q :: rest))) : W p l e R s m args below meth c H locs cells slots Q (F0 m pc ls (.int n :: rest)) := by
  obtain ⟨ws, hP, hD, hS, fin⟩ := hw.push ht
  refine va_newq X.1 X.2.1 X.2.2.2.1 (X.2.2.2.2.1 _ hcl) hover X.2.2.2.2.2.1 hP hD hS hw.new hn hN hbytes hcells hslots hdg (fun q cB H1 hK1 h1 h2 h3 => ?_)
  obtain ⟨_, _, _, _, _, e1⟩ := (hK1.2 (h_ty G).length (cB, .object C) (by simp)).2
  obtain ⟨_, _, _, _, _, e2⟩ := (X.2.2.2.2.2.1.2 ti _ hti).2
  have hcc : cB = cA := Option.some.inj (e1.symm.trans e2)
  subst hcc
  exact kk q H1 (fin q _ H1 locs h1 h2 h3)
/-! locals and tests of a reference or null -/
theorem h_aload_n (X : h_X p s m args c cc nL own G) {j : Fin 4} {i : Nat} {o : Option Nat} (hdg : decode cc pc = .ok (.aload_n j, 1)) (hi : (j : Nat) = i) (hl : ls[i]? = some (.val (va_rf o)))
    (kk : W p l e R s m args below meth c H locs cells slots Q (F0 m (pc + 1) ls (va_rf o :: rest))) : W p l e R s m args below meth c H locs cells slots Q (F0 m pc ls rest) := by
  cases o with
  | none => exact lv_aload_nN X.1 X.2.1 hdg hi hl kk
  | some x => exact lv_aload_n X.1 X.2.1 hdg hi hl kk
theorem h_aload (X : h_X p s m args c cc nL own G) {i : Nat} {o : Option Nat} (hdg : decode cc pc = .ok (.aload i, 2)) (hl : ls[i]? = some (.val (va_rf o)))
    (kk : W p l e R s m args below meth c H locs cells slots Q (F0 m (pc + 2) ls (va_rf o :: rest))) : W p l e R s m args below meth c H locs cells slots Q (F0 m pc ls rest) := by
  cases o with
  | none => exact lv_aloadN X.1 X.2.1 hdg hl kk
  | some x => exact lv_aload X.1 X.2.1 hdg hl kk
theorem h_cat (o : Option Nat) : (va_rf o).category = 1 := by cases o <;> rfl
theorem h_astore_n (X : h_X p s m args c cc nL own G) {j : Fin 4} {i : Nat} {o : Option Nat} {lv lv' : List (Nat × Value)} (hdg : decode cc pc = .ok (.astore_n j, 1)) (hi : (j : Nat) = i) (h : lv_has ls nL lv) (hn : i < nL) (hl : (i, va_rf o) :: lv.filter (fun q => !(q.1 == i) && !(q.1 + 1 == i && q.2.category == 2)) = lv')
    (kk : ∀ ls' : Array Slot, lv_has ls' nL lv' → W p l e R s m args below meth c H locs cells slots Q (F0 m (pc + 1) ls' rest)) : W p l e R s m args below meth c H locs cells slots Q (F0 m pc ls (va_rf o :: rest)) := by
  cases o with
  | none => exact lv_astore_nN X.1 X.2.1 hdg hi h hn hl kk
  | some x => exact lv_astore_n X.1 X.2.1 hdg hi h hn hl kk
theorem h_astore (X : h_X p s m args c cc nL own G) {i : Nat} {o : Option Nat} {lv lv' : List (Nat × Value)} (hdg : decode cc pc = .ok (.astore i, 2)) (h : lv_has ls nL lv) (hn : i < nL) (hl : (i, va_rf o) :: lv.filter (fun q => !(q.1 == i) && !(q.1 + 1 == i && q.2.category == 2)) = lv')
    (kk : ∀ ls' : Array Slot, lv_has ls' nL lv' → W p l e R s m args below meth c H locs cells slots Q (F0 m (pc + 2) ls' rest)) : W p l e R s m args below meth c H locs cells slots Q (F0 m pc ls (va_rf o :: rest)) := by
  cases o with
  | none => exact lv_astoreN X.1 X.2.1 hdg h hn hl kk
  | some x => exact lv_astore X.1 X.2.1 hdg h hn hl kk
theorem h_ifnull (X : h_X p s m args c cc nL own G) {o : Option Nat} {off : Int} {tgt : Nat} (hdg : decode cc pc = .ok (.ifnull off, 3)) (ht : (pc : Int) + off = (tgt : Int))
    (k1 : o = none → W p l e R s m args below meth c H locs cells slots Q (F0 m tgt ls rest)) (k2 : ∀ x : Nat, o = some x → W p l e R s m args below meth c H locs cells slots Q (F0 m (pc + 3) ls rest)) : W p l e R s m args below meth c H locs cells slots Q (F0 m pc ls (va_rf o :: rest)) := by
  cases o with
  | none => exact lv_ifnullN X.1 X.2.1 hdg ht (k1 rfl)
  | some x => exact lv_ifnull X.1 X.2.1 hdg (k2 x rfl)
theorem h_ifnonnull (X : h_X p s m args c cc nL own G) {o : Option Nat} {off : Int} {tgt : Nat} (hdg : decode cc pc = .ok (.ifnonnull off, 3)) (ht : (pc : Int) + off = (tgt : Int))
    (k1 : ∀ x : Nat, o = some x → W p l e R s m args below meth c H locs cells slots Q (F0 m tgt ls rest)) (k2 : o = none → W p l e R s m args below meth c H locs cells slots Q (F0 m (pc + 3) ls rest)) : W p l e R s m args below meth c H locs cells slots Q (F0 m pc ls (va_rf o :: rest)) := by
  cases o with
  | none => exact lv_ifnonnullN X.1 X.2.1 hdg (k2 rfl)
  | some x => exact lv_ifnonnull X.1 X.2.1 hdg ht (k1 x rfl)
end HROWS
end
section
/-! ===== contracts: of methods that read, of methods that write ===== -/
def h_rm (fr lo mc ms : Nat) : Room := { frames := fr, cells := mc, slots := ms, locals := lo }
def h_Pr (G : h_G) (ad : h_T → Nat) (k : h_C) (av : List Value) : Array Value → State → Prop := fun v U => v = av.toArray ∧ h_K G U ∧ h_H G.1 h_cl ad k U.heap
def h_Qr (r : Option Value) : Array Value → State → Outcome → State → Prop := fun _ st o t => o = .returned r ∧ t.heap = st.heap
def h_Pw (G : h_G) (ad : h_T → Nat) (k : h_C) (sz : Nat) (av : List Value) : Array Value → State → Prop := fun v U => v = av.toArray ∧ U.heap.size = sz ∧ h_K G U ∧ h_H G.1 h_cl ad k U.heap
abbrev h_Ps : Type := Option Value → (h_T → Nat) → h_C → Prop
def h_Qw (G : h_G) (ad : h_T → Nat) (k : h_C) (sz : Nat) (post : h_Ps) : Array Value → State → Outcome → State → Prop := fun _ st o t => (∃ (r : Option Value) (ad' : h_T → Nat) (k' : h_C), o = .returned r ∧ post r ad' k' ∧ h_H G.1 h_cl ad' k' t.heap ∧ ∀ u : h_T, k' u ≠ none → h_A ad k sz (ad' u)) ∧ va_F (h_A ad k sz) st t
/-- y reads: its answer is r -/
def h_Rd (l : Launch) (y : MethodName) (b : ByteArray) (mL : Nat) (ret : Option FieldType) (fr lo : Nat) (G : h_G) (ad : h_T → Nat) (k : h_C) (av : List Value) (r : Option Value) : Prop :=
  Met l y (h_ws y b mL ret) (h_rm fr lo 0 0) (h_Pr G ad k av) (h_Qr r) 0 0 (fun _ => False)
/-- y writes: behind it post holds of the answer and of the cells -/
def h_Wr (l : Launch) (y : MethodName) (b : ByteArray) (mL : Nat) (ret : Option FieldType) (fr lo mc ms : Nat) (G : h_G) (ad : h_T → Nat) (k : h_C) (av : List Value) (post : h_Ps) : Prop :=
  ∀ sz : Nat, Met l y (h_ws y b mL ret) (h_rm fr lo mc ms) (h_Pw G ad k sz av) (h_Qw G ad k sz post) mc ms (h_A ad k sz)
def h_Y (meth : Method) (ret : Option FieldType) (nm : String) : Prop := meth.sig.returnType = ret ∧ meth.locks = false ∧ meth.name = nm
theorem h_rd {l : Launch} {y : MethodName} {b : ByteArray} {mL : Nat} {ret : Option FieldType} {fr lo : Nat} {G : h_G} {ad : h_T → Nat} {k : h_C} {av : List Value} {r : Option Value} (hy : plainName y.cls = true) (hlen : (lg_sl av).length ≤ mL)
    (body : ∀ (p : Program) (e : Env) (s : State) (m : MethodId) (args : Array Value) (below : List Frame) (meth : Method) (c : Code), h_X p s m args c b mL y.cls G → h_Y meth ret y.name → h_W G.1 h_cl (h_A ad k s.heap.size) s.heap ad k s.heap [] → ∀ ls : Array Slot, lv_has ls mL (lv_args 0 av) →
      W p l e (h_rm fr lo 0 0) s m args below meth c s.heap [] 0 0 (MQ below (h_Qr r) args s 0 0 (fun _ => False)) (F0 m 0 ls [])) : h_Rd l y b mL ret fr lo G ad k av r := by
  refine Met.ofW (cc := b) (maxL := mL) (ret := ret) hy rfl ?_
  intro p e s m args below meth c s₁ B hml hv
  obtain ⟨rfl, hK, hH⟩ := hv
  have hts := atoms_spec (ws := h_ws y b mL ret) B.pre
  have hl := lv_entry av (n := mL) hlen
  rw [lg_entry_eq]
  exact body p e s m _ below meth c ⟨B.exec, B.bytes, hml, findClass_of_methodNamed B.named, fun w hw => hts w (List.mem_cons_of_mem _ hw), hK⟩ ⟨B.returns, B.notSynchronized, (name_of_methodNamed B.named B.method).1⟩ (h_W.start hH) _ hl
theorem h_wr {l : Launch} {y : MethodName} {b : ByteArray} {mL : Nat} {ret : Option FieldType} {fr lo mc ms : Nat} {G : h_G} {ad : h_T → Nat} {k : h_C} {av : List Value} {post : h_Ps} (hy : plainName y.cls = true) (hlen : (lg_sl av).length ≤ mL)
    (body : ∀ (p : Program) (e : Env) (s : State) (m : MethodId) (args : Array Value) (below : List Frame) (meth : Method) (c : Code), h_X p s m args c b mL y.cls G → h_Y meth ret y.name → h_W G.1 h_cl (h_A ad k s.heap.size) s.heap ad k s.heap [] → ∀ ls : Array Slot, lv_has ls mL (lv_args 0 av) →
      W p l e (h_rm fr lo mc ms) s m args below meth c s.heap [] 0 0 (MQ below (h_Qw G ad k s.heap.size post) args s mc ms (h_A ad k s.heap.size)) (F0 m 0 ls [])) : h_Wr l y b mL ret fr lo mc ms G ad k av post := by
  intro sz
  refine Met.ofW (cc := b) (maxL := mL) (ret := ret) hy rfl ?_
  intro p e s m args below meth c s₁ B hml hv
  obtain ⟨rfl, rfl, hK, hH⟩ := hv
  have hts := atoms_spec (ws := h_ws y b mL ret) B.pre
  have hl := lv_entry av (n := mL) hlen
  rw [lg_entry_eq]
  exact body p e s m _ below meth c ⟨B.exec, B.bytes, hml, findClass_of_methodNamed B.named, fun w hw => hts w (List.mem_cons_of_mem _ hw), hK⟩ ⟨B.returns, B.notSynchronized, (name_of_methodNamed B.named B.method).1⟩ (h_W.start hH) _ hl
/-! where a call stands: the words of the callee -/
def h_sV (own C : String) (index : Nat) (y : MethodName) (b : ByteArray) (mL : Nat) (ret : Option FieldType) (n : Nat) : Prop := GoodIn h_tb (wsV own index C y (h_ws y b mL ret)) ∧ (y.cls = C ∧ y.cls ≠ "java/lang/invoke/MethodHandle" ∧ y.cls ≠ "java/lang/invoke/VarHandle" ∧ (parseMethodDescriptor y.desc).map (fun d => d.parameters.length) = some n)
def h_sS (own : String) (index : Nat) (y : MethodName) (b : ByteArray) (mL : Nat) (ret : Option FieldType) (n : Nat) : Prop := GoodIn h_tb (va_wsS own index y (h_ws y b mL ret)) ∧ (y.cls ≠ "java/lang/invoke/MethodHandle" ∧ y.cls ≠ "java/lang/invoke/VarHandle" ∧ (parseMethodDescriptor y.desc).map (fun d => d.parameters.length) = some n)
def h_sI (own : String) (index : Nat) (y : MethodName) (b : ByteArray) (mL : Nat) (n : Nat) : Prop := GoodIn h_tb (h_ws y b mL none) ∧ Cond.initialized y.cls ∈ h_tb ∧ Cond.methodLink own index y ∈ h_tb ∧ Cond.instanceMethod y ∈ h_tb ∧ y.name = "<init>" ∧ (y.cls ≠ "java/lang/invoke/MethodHandle" ∧ y.cls ≠ "java/lang/invoke/VarHandle" ∧ (parseMethodDescriptor y.desc).map (fun d => d.parameters.length) = some n)
def h_sJ (own : String) (index : Nat) (y : MethodName) (b : ByteArray) (mL : Nat) (n : Nat) : Prop := GoodIn h_tb (h_ws y b mL none) ∧ Cond.initialized y.cls ∈ h_tb ∧ Cond.methodLinkNest own index y RX3 ∈ h_nw ∧ Cond.instanceMethod y ∈ h_tb ∧ y.name = "<init>" ∧ (y.cls ≠ "java/lang/invoke/MethodHandle" ∧ y.cls ≠ "java/lang/invoke/VarHandle" ∧ (parseMethodDescriptor y.desc).map (fun d => d.parameters.length) = some n)
theorem h_good5 {y : MethodName} {b : ByteArray} {mL : Nat} {ret : Option FieldType} {ws : List Cond} (hc : Cond.code y b mL ret ∈ h_tb) (h : ∀ w ∈ ws, w ∈ h_tb) : GoodIn h_tb (ws ++ h_ws y b mL ret) := fun w hw => by
  rcases List.mem_append.mp hw with hw | hw
  · exact h_tb_good _ (h w hw)
  · exact h_ws_good hc w hw
section HCALLS
variable {p : Program} {l : Launch} {e : Env} {R : Room} {s : State} {m : MethodId} {args : Array Value} {below : List Frame} {meth : Method} {c : Code} {H : Heap} {locs : List Loc} {cells slots : Nat} {Q : State → Prop}
variable {cc : ByteArray} {nL : Nat} {own : String} {G : h_G} {pc : Nat} {ls : Array Slot} {rest st0 : List Value} {A : Nat → Prop} {H0 : Heap} {ad : h_T → Nat} {k : h_C} {t : h_T}
variable {C : String} {index : Nat} {y : MethodName} {b : ByteArray} {mL n fr lo mc ms : Nat} {ret : Option FieldType} {As : List Value} {r : Option Value} {post : h_Ps}
theorem h_preR {av : List Value} (X : h_X p s m args c cc nL own G) (hw : h_W G.1 h_cl A H0 ad k H locs) : PreS s H (h_Pr G ad k av) av :=
  ⟨fun a U g mk q => ⟨q.1, h_K.calling q.2.1, q.2.2⟩, fun U hU hW => ⟨rfl, h_K.warm hW X.2.2.2.2.2, by rw [hU]; exact hw.H⟩⟩
theorem h_preW {av : List Value} (X : h_X p s m args c cc nL own G) (hw : h_W G.1 h_cl A H0 ad k H locs) : PreS s H (h_Pw G ad k H.size av) av :=
  ⟨fun a U g mk q => ⟨q.1, q.2.1, h_K.calling q.2.2.1, q.2.2.2⟩, fun U hU hW => ⟨rfl, by rw [hU], h_K.warm hW X.2.2.2.2.2, by rw [hU]; exact hw.H⟩⟩
theorem h_recv (X : h_X p s m args c cc nL own G) (hw : h_W G.1 h_cl A H0 ad k H locs) {ci : Nat} {fs : List Value} {T : u_T} {N : Nat} (he : k t = some (.inr (ci, fs))) (hc : h_cl[ci]? = some (C, T, N)) : ∃ cellB : Cell, H[ad t]? = some cellB ∧ cellB.vm.isStatics = false ∧ s.vm.findClass C = some cellB.cls := by
  obtain ⟨ws, q0, hq, hP, -, -, -, -⟩ := hw.set he
  exact va_recv X.2.2.2.2.2.1 hP hc hq
/-- behind a call of a reader -/
theorem h_afterR {a : Array Value} {v : Value} (hr : va_Run p l e R s m args below meth c H locs cells slots 0 0 (F0 m pc ls st0) rest (h_Qr (some v) a) (fun _ => False))
    (kk : W p l e R s m args below meth c H locs cells slots Q (F0 m (pc + 3) ls (v :: rest))) : W p l e R s m args below meth c H locs cells slots Q (F0 m pc ls st0) := by
  intro T hT X
  obtain ⟨v', st₀, t, T', L, h0, X', hL, e1, e2, ⟨hv, hh⟩, st⟩ := hr T hT X
  cases hv
  obtain ⟨t2, a1, b1⟩ := kk T' (by rw [e1, hh, h0]) (Stand.forget X' (fun q h => (hL q h).elim))
  exact ⟨t2, st t2 a1, b1⟩
/-- behind a call of a writer -/
theorem h_afterW {a : Array Value} (hw : h_W G.1 h_cl A H0 ad k H locs) (hr : va_Run p l e R s m args below meth c H locs cells slots mc ms (F0 m pc ls st0) rest (h_Qw G ad k H.size post a) (h_A ad k H.size))
    (kk : ∀ (r : Option Value) (ad' : h_T → Nat) (k' : h_C) (H1 : Heap) (locs1 : List Loc), post r ad' k' → h_W G.1 h_cl A H0 ad' k' H1 locs1 → W p l e R s m args below meth c H1 locs1 (cells + mc) (slots + ms) Q (F0 m (pc + 3) ls (r.toList ++ rest))) : W p l e R s m args below meth c H locs cells slots Q (F0 m pc ls st0) := by
  intro T hT X
  obtain ⟨v, st₀, t, T', L, h0, X', hL, e1, e2, ⟨⟨r, ad', k', hv, hp, hh, hd⟩, hz, hk⟩, st⟩ := hr T hT X
  cases hv
  have hAA : ∀ q : Nat, h_A ad k H.size q → A q := by
    intro q hq
    rcases hq with ⟨u, h1, h2⟩ | h1
    · rw [← h2]; exact hw.A u h1
    · exact hw.new q (Nat.le_trans hw.S.1 h1)
  rw [h0] at hz hk
  have hS := hw.S
  have hS1 : va_S A H0 T'.heap (locs ++ L) := ⟨Nat.le_trans hS.1 (by rw [e1]; exact hz), fun q h1 h2 => by
      rw [e1, hk q (Nat.lt_of_lt_of_le h1 hS.1) (fun z => h2 (hAA q z))]
      exact hS.2.1 q h1 h2, fun q hq => by
      rcases List.mem_append.mp hq with h | h
      · exact hS.2.2 q h
      · exact hAA _ (hL q h)⟩
  obtain ⟨t2, a1, b1⟩ := kk _ ad' k' T'.heap (locs ++ L) hp (h_W.mk (by rw [e1]; exact hh) (fun u hu => hAA _ (hd u hu)) hw.new hS1) T' rfl X'
  exact ⟨t2, st t2 a1, b1⟩
theorem h_callRV {v : Value} (X : h_X p s m args c cc nL own G) (hw : h_W G.1 h_cl A H0 ad k H locs) (cs : h_sV own C index y b mL ret n) (hM : h_Rd l y b mL ret fr lo G ad k (.ref (ad t) :: As) (some v)) {ci : Nat} {fs : List Value} {T : u_T} {N : Nat} (he : k t = some (.inr (ci, fs))) (hc : h_cl[ci]? = some (C, T, N)) (hn : As.length = n) (hsize : ls.size = nL) (hst : st0 = As.reverse ++ .ref (ad t) :: rest) (hrest : (rest.map fun v => v.category).sum ≤ 8) (hR : fr + 1 ≤ R.frames ∧ 8 + (mL + 11) + lo ≤ R.locals) (hf : cells ≤ R.cells ∧ slots ≤ R.slots) (hdg : decode cc pc = .ok (.invokevirtual index, 3))
    (kk : W p l e R s m args below meth c H locs cells slots Q (F0 m (pc + 3) ls (v :: rest))) : W p l e R s m args below meth c H locs cells slots Q (F0 m pc ls st0) := by
  subst hst
  exact h_afterR (va_runV (As := As) (rest := rest) ⟨X.1, X.2.1, X.2.2.1, X.2.2.2.1, X.2.2.2.2.1⟩ hM (cwV n X.2.2.2.2.1 cs.1 rfl rfl rfl cs.2 hR) ⟨(h_preR (av := .ref (ad t) :: As) X hw).1, h_recv X hw he hc, (h_preR X hw).2⟩ rfl hn hsize rfl (lv_room hrest) hdg hf) kk
theorem h_callWV (X : h_X p s m args c cc nL own G) (hw : h_W G.1 h_cl A H0 ad k H locs) (cs : h_sV own C index y b mL ret n) (hM : h_Wr l y b mL ret fr lo mc ms G ad k (.ref (ad t) :: As) post) {ci : Nat} {fs : List Value} {T : u_T} {N : Nat} (he : k t = some (.inr (ci, fs))) (hc : h_cl[ci]? = some (C, T, N)) (hn : As.length = n) (hsize : ls.size = nL) (hst : st0 = As.reverse ++ .ref (ad t) :: rest) (hrest : (rest.map fun v => v.category).sum ≤ 8) (hR : fr + 1 ≤ R.frames ∧ 8 + (mL + 11) + lo ≤ R.locals) (hf : cells + mc ≤ R.cells ∧ slots + ms ≤ R.slots) (hdg : decode cc pc = .ok (.invokevirtual index, 3))
    (kk : ∀ (r : Option Value) (ad' : h_T → Nat) (k' : h_C) (H1 : Heap) (locs1 : List Loc), post r ad' k' → h_W G.1 h_cl A H0 ad' k' H1 locs1 → W p l e R s m args below meth c H1 locs1 (cells + mc) (slots + ms) Q (F0 m (pc + 3) ls (r.toList ++ rest))) : W p l e R s m args below meth c H locs cells slots Q (F0 m pc ls st0) := by
  subst hst
  exact h_afterW hw (va_runV (As := As) (rest := rest) ⟨X.1, X.2.1, X.2.2.1, X.2.2.2.1, X.2.2.2.2.1⟩ (hM H.size) (cwV n X.2.2.2.2.1 cs.1 rfl rfl rfl cs.2 hR) ⟨(h_preW (av := .ref (ad t) :: As) X hw).1, h_recv X hw he hc, (h_preW X hw).2⟩ rfl hn hsize rfl (lv_room hrest) hdg hf) kk
theorem h_callRS {v : Value} (X : h_X p s m args c cc nL own G) (hw : h_W G.1 h_cl A H0 ad k H locs) (cs : h_sS own index y b mL ret n) (hM : h_Rd l y b mL ret fr lo G ad k As (some v)) (hn : As.length = n) (hsize : ls.size = nL) (hst : st0 = As.reverse ++ rest) (hrest : (rest.map fun v => v.category).sum ≤ 8) (hR : fr + 1 ≤ R.frames ∧ 8 + (mL + 11) + lo ≤ R.locals) (hf : cells ≤ R.cells ∧ slots ≤ R.slots) (hdg : decode cc pc = .ok (.invokestatic index, 3))
    (kk : W p l e R s m args below meth c H locs cells slots Q (F0 m (pc + 3) ls (v :: rest))) : W p l e R s m args below meth c H locs cells slots Q (F0 m pc ls st0) := by
  subst hst
  exact h_afterR (va_runS (As := As) (rest := rest) ⟨X.1, X.2.1, X.2.2.1, X.2.2.2.1, X.2.2.2.2.1⟩ hM (va_cwS n X.2.2.2.2.1 cs.1 rfl rfl rfl cs.2 hR) (h_preR X hw) rfl hn hsize rfl (lv_room hrest) hdg hf) kk
theorem h_callWI (X : h_X p s m args c cc nL own G) (hw : h_W G.1 h_cl A H0 ad k H locs) (cs : h_sI own index y b mL n) (hM : h_Wr l y b mL none fr lo mc ms G ad k (.ref (ad t) :: As) post) (hn : As.length = n) (hsize : ls.size = nL) (hst : st0 = As.reverse ++ .ref (ad t) :: rest) (hrest : (rest.map fun v => v.category).sum ≤ 8) (hR : fr + 1 ≤ R.frames ∧ 8 + (mL + 11) + lo ≤ R.locals) (hf : cells + mc ≤ R.cells ∧ slots + ms ≤ R.slots) (hdg : decode cc pc = .ok (.invokespecial index, 3))
    (kk : ∀ (r : Option Value) (ad' : h_T → Nat) (k' : h_C) (H1 : Heap) (locs1 : List Loc), post r ad' k' → h_W G.1 h_cl A H0 ad' k' H1 locs1 → W p l e R s m args below meth c H1 locs1 (cells + mc) (slots + ms) Q (F0 m (pc + 3) ls (r.toList ++ rest))) : W p l e R s m args below meth c H locs cells slots Q (F0 m pc ls st0) := by
  subst hst
  exact h_afterW hw (va_runI (As := As) (rest := rest) ⟨X.1, X.2.1, X.2.2.1, X.2.2.2.1, X.2.2.2.2.1⟩ (hM H.size) (cwI n X.2.2.2.2.1 cs.1 rfl rfl rfl (X.2.2.2.2.1 _ cs.2.1) (X.2.2.2.2.1 _ cs.2.2.1) (X.2.2.2.2.1 _ cs.2.2.2.1) cs.2.2.2.2.1 cs.2.2.2.2.2 hR) (h_preW (av := .ref (ad t) :: As) X hw) rfl hn hsize rfl (lv_room hrest) hdg hf) kk
theorem h_callWJ (X : h_X p s m args c cc nL own G) (hw : h_W G.1 h_cl A H0 ad k H locs) (cs : h_sJ own index y b mL n) (hM : h_Wr l y b mL none fr lo mc ms G ad k (.ref (ad t) :: As) post) (hn : As.length = n) (hsize : ls.size = nL) (hst : st0 = As.reverse ++ .ref (ad t) :: rest) (hrest : (rest.map fun v => v.category).sum ≤ 8) (hR : fr + 1 ≤ R.frames ∧ 8 + (mL + 11) + lo ≤ R.locals) (hf : cells + mc ≤ R.cells ∧ slots + ms ≤ R.slots) (hdg : decode cc pc = .ok (.invokespecial index, 3))
    (kk : ∀ (r : Option Value) (ad' : h_T → Nat) (k' : h_C) (H1 : Heap) (locs1 : List Loc), post r ad' k' → h_W G.1 h_cl A H0 ad' k' H1 locs1 → W p l e R s m args below meth c H1 locs1 (cells + mc) (slots + ms) Q (F0 m (pc + 3) ls (r.toList ++ rest))) : W p l e R s m args below meth c H locs cells slots Q (F0 m pc ls st0) := by
  subst hst
  exact h_afterW hw (va_runIN (As := As) (rest := rest) ⟨X.1, X.2.1, X.2.2.1, X.2.2.2.1, X.2.2.2.2.1⟩ (hM H.size) ⟨va_cnB n X.2.2.2.2.1 cs.1 rfl rfl rfl (X.2.2.2.2.2.2.1 _ cs.2.2.1) (X.2.2.2.2.1 _ cs.2.1) cs.2.2.2.2.2 hR, cs.2.2.2.2.1, X.2.2.2.2.1 _ cs.2.2.2.1⟩ (h_preW (av := .ref (ad t) :: As) X hw) rfl hn hsize rfl (lv_room hrest) hdg hf) kk
/-! the ends of a reader -/
theorem h_iret {nm : String} {v : Int32} (X : h_X p s m args c cc nL own G) (Y : h_Y meth (some .int) nm) (hdg : decode cc pc = .ok (.ireturn, 1)) : W p l e R s m args below meth c s.heap [] 0 0 (MQ below (h_Qr (some (.int v))) args s 0 0 (fun _ => False)) (F0 m pc ls [.int v]) :=
  W.iret X.1 X.2.1 Y.1 (fun t ht hW => ⟨rfl, ht⟩) (fun q hq => by cases hq) hdg Y.2.1
theorem h_zret {nm : String} {v : Int32} (X : h_X p s m args c cc nL own G) (Y : h_Y meth (some .boolean) nm) (hv : narrow .boolean (.int v) = .int v) (hdg : decode cc pc = .ok (.ireturn, 1)) : W p l e R s m args below meth c s.heap [] 0 0 (MQ below (h_Qr (some (.int v))) args s 0 0 (fun _ => False)) (F0 m pc ls [.int v]) :=
  W.zret X.1 X.2.1 Y.1 hv (fun t ht hW => ⟨rfl, ht⟩) (fun q hq => by cases hq) hdg Y.2.1
theorem h_lret {nm : String} {v : Int64} (X : h_X p s m args c cc nL own G) (Y : h_Y meth (some .long) nm) (hdg : decode cc pc = .ok (.lreturn, 1)) : W p l e R s m args below meth c s.heap [] 0 0 (MQ below (h_Qr (some (.long v))) args s 0 0 (fun _ => False)) (F0 m pc ls [.long v]) :=
  W.lret X.1 X.2.1 Y.1 (fun t ht hW => ⟨rfl, ht⟩) (fun q hq => by cases hq) hdg Y.2.1
theorem h_aret {nm cn : String} {o : Option Nat} (X : h_X p s m args c cc nL own G) (Y : h_Y meth (some (.object cn)) nm) (hdg : decode cc pc = .ok (.areturn, 1)) : W p l e R s m args below meth c s.heap [] 0 0 (MQ below (h_Qr (some (va_rf o))) args s 0 0 (fun _ => False)) (F0 m pc ls [va_rf o]) :=
  W.aret X.1 X.2.1 Y.1 (Or.inl ⟨cn, rfl⟩) (va_rf_or o) (fun t ht hW => ⟨rfl, ht⟩) (fun q hq => by cases hq) hdg Y.2.1
/-! the ends of a writer -/
theorem h_endW {sz : Nat} {adE : h_T → Nat} {kE : h_C} {r : Option Value} {t : State} (hw : h_W G.1 h_cl (h_A ad k s.heap.size) s.heap adE kE H locs) (hp : post r adE kE) (ht : t.heap = H) : h_Qw G ad k s.heap.size post args s (.returned r) t :=
  ⟨⟨r, adE, kE, rfl, hp, by rw [ht]; exact hw.H, fun u hu => hw.A u hu⟩, hw.S.F ht⟩
theorem h_iretW {nm : String} {v : Int32} {adE : h_T → Nat} {kE : h_C} (X : h_X p s m args c cc nL own G) (Y : h_Y meth (some .int) nm) (hw : h_W G.1 h_cl (h_A ad k s.heap.size) s.heap adE kE H locs) (hp : post (some (.int v)) adE kE) (h1 : cells ≤ mc) (h2 : slots ≤ ms) (hdg : decode cc pc = .ok (.ireturn, 1)) : W p l e R s m args below meth c H locs cells slots (MQ below (h_Qw G ad k s.heap.size post) args s mc ms (h_A ad k s.heap.size)) (F0 m pc ls [.int v]) :=
  W.widen h1 h2 (W.iret X.1 X.2.1 Y.1 (fun t ht hW => h_endW (sz := 0) hw hp ht) hw.S.2.2 hdg Y.2.1)
theorem h_zretW {nm : String} {v : Int32} {adE : h_T → Nat} {kE : h_C} (X : h_X p s m args c cc nL own G) (Y : h_Y meth (some .boolean) nm) (hv : narrow .boolean (.int v) = .int v) (hw : h_W G.1 h_cl (h_A ad k s.heap.size) s.heap adE kE H locs) (hp : post (some (.int v)) adE kE) (h1 : cells ≤ mc) (h2 : slots ≤ ms) (hdg : decode cc pc = .ok (.ireturn, 1)) : W p l e R s m args below meth c H locs cells slots (MQ below (h_Qw G ad k s.heap.size post) args s mc ms (h_A ad k s.heap.size)) (F0 m pc ls [.int v]) :=
  W.widen h1 h2 (W.zret X.1 X.2.1 Y.1 hv (fun t ht hW => h_endW (sz := 0) hw hp ht) hw.S.2.2 hdg Y.2.1)
theorem h_lretW {nm : String} {v : Int64} {adE : h_T → Nat} {kE : h_C} (X : h_X p s m args c cc nL own G) (Y : h_Y meth (some .long) nm) (hw : h_W G.1 h_cl (h_A ad k s.heap.size) s.heap adE kE H locs) (hp : post (some (.long v)) adE kE) (h1 : cells ≤ mc) (h2 : slots ≤ ms) (hdg : decode cc pc = .ok (.lreturn, 1)) : W p l e R s m args below meth c H locs cells slots (MQ below (h_Qw G ad k s.heap.size post) args s mc ms (h_A ad k s.heap.size)) (F0 m pc ls [.long v]) :=
  W.widen h1 h2 (W.lret X.1 X.2.1 Y.1 (fun t ht hW => h_endW (sz := 0) hw hp ht) hw.S.2.2 hdg Y.2.1)
theorem h_aretW {nm cn : String} {o : Option Nat} {adE : h_T → Nat} {kE : h_C} (X : h_X p s m args c cc nL own G) (Y : h_Y meth (some (.object cn)) nm) (hw : h_W G.1 h_cl (h_A ad k s.heap.size) s.heap adE kE H locs) (hp : post (some (va_rf o)) adE kE) (h1 : cells ≤ mc) (h2 : slots ≤ ms) (hdg : decode cc pc = .ok (.areturn, 1)) : W p l e R s m args below meth c H locs cells slots (MQ below (h_Qw G ad k s.heap.size post) args s mc ms (h_A ad k s.heap.size)) (F0 m pc ls [va_rf o]) :=
  W.widen h1 h2 (W.aret X.1 X.2.1 Y.1 (Or.inl ⟨cn, rfl⟩) (va_rf_or o) (fun t ht hW => h_endW (sz := 0) hw hp ht) hw.S.2.2 hdg Y.2.1)
theorem h_vretW {nm : String} {adE : h_T → Nat} {kE : h_C} (X : h_X p s m args c cc nL own G) (Y : h_Y meth none nm) (hw : h_W G.1 h_cl (h_A ad k s.heap.size) s.heap adE kE H locs) (hp : post none adE kE) (h1 : cells ≤ mc) (h2 : slots ≤ ms) (hdg : decode cc pc = .ok (.return_, 1)) : W p l e R s m args below meth c H locs cells slots (MQ below (h_Qw G ad k s.heap.size post) args s mc ms (h_A ad k s.heap.size)) (F0 m pc ls []) :=
  W.widen h1 h2 (W.vret X.1 X.2.1 Y.1 (fun t ht hW => h_endW (sz := 0) hw hp ht) hw.S.2.2 hdg Y.2.1)
end HCALLS
end
section
theorem h_at (i : Nat) {w : Cond} (h : lw_tbl[i]? = some w) (hg : goodWord w = true) : w ∈ h_tb := h_tb_in (List.mem_of_getElem? h) hg
theorem ly_X0_0 : Cond.laysFinal RX0 "CopyPolls$Item" "pack" "I" ∈ h_tb := h_at 183 (by decide +kernel) (by decide +kernel)
theorem ly_X0_1 : Cond.laysFinal RX0 "CopyPolls$Item" "rows" "[LCopyPolls$Row;" ∈ h_tb := h_at 185 (by decide +kernel) (by decide +kernel)
theorem ly_X0_2 : Cond.lays RX0 "CopyPolls$Item" "renewed" "I" ∈ h_tb := h_at 187 (by decide +kernel) (by decide +kernel)
theorem in_X0 : ∀ w ∈ u_ws RX0 TX0 3, w ∈ h_tb := by
  intro w hw
  obtain ⟨j, hj, rfl⟩ := List.mem_map.mp hw
  rw [List.mem_range] at hj
  rcases (show j = 0 ∨ j = 1 ∨ j = 2 by omega) with rfl | rfl | rfl
  · exact ly_X0_0
  · exact ly_X0_1
  · exact ly_X0_2
theorem ly_X1_0 : Cond.laysFinal RX1 "CopyPolls$Row" "bytes" "[I" ∈ h_tb := h_at 64 (by decide +kernel) (by decide +kernel)
theorem ly_X1_1 : Cond.lays RX1 "CopyPolls$Row" "size" "I" ∈ h_tb := h_at 66 (by decide +kernel) (by decide +kernel)
theorem in_X1 : ∀ w ∈ u_ws RX1 TX1 2, w ∈ h_tb := by
  intro w hw
  obtain ⟨j, hj, rfl⟩ := List.mem_map.mp hw
  rw [List.mem_range] at hj
  rcases (show j = 0 ∨ j = 1 by omega) with rfl | rfl
  · exact ly_X1_0
  · exact ly_X1_1
theorem ly_X2_0 : Cond.laysFinal RX2 "CopyPolls$Store" "place" "I" ∈ h_tb := h_at 134 (by decide +kernel) (by decide +kernel)
theorem ly_X2_1 : Cond.lays RX2 "CopyPolls$Store" "answering" "Z" ∈ h_tb := h_at 136 (by decide +kernel) (by decide +kernel)
theorem ly_X2_2 : Cond.lays RX2 "CopyPolls$Store" "up" "I" ∈ h_tb := h_at 138 (by decide +kernel) (by decide +kernel)
theorem ly_X2_3 : Cond.lays RX2 "CopyPolls$Store" "down" "I" ∈ h_tb := h_at 140 (by decide +kernel) (by decide +kernel)
theorem in_X2 : ∀ w ∈ u_ws RX2 TX2 4, w ∈ h_tb := by
  intro w hw
  obtain ⟨j, hj, rfl⟩ := List.mem_map.mp hw
  rw [List.mem_range] at hj
  rcases (show j = 0 ∨ j = 1 ∨ j = 2 ∨ j = 3 by omega) with rfl | rfl | rfl | rfl
  · exact ly_X2_0
  · exact ly_X2_1
  · exact ly_X2_2
  · exact ly_X2_3
theorem ly_X3_0 : Cond.laysFinal RX3 "CopyPolls" "copies" "I" ∈ h_tb := h_at 88 (by decide +kernel) (by decide +kernel)
theorem ly_X3_1 : Cond.laysFinal RX3 "CopyPolls" "stores" "[LCopyPolls$Store;" ∈ h_tb := h_at 90 (by decide +kernel) (by decide +kernel)
theorem ly_X3_2 : Cond.lays RX3 "CopyPolls" "storeCount" "I" ∈ h_tb := h_at 92 (by decide +kernel) (by decide +kernel)
theorem ly_X3_3 : Cond.laysFinal RX3 "CopyPolls" "items" "[LCopyPolls$Item;" ∈ h_tb := h_at 94 (by decide +kernel) (by decide +kernel)
theorem ly_X3_4 : Cond.lays RX3 "CopyPolls" "itemCount" "I" ∈ h_tb := h_at 96 (by decide +kernel) (by decide +kernel)
theorem ly_X3_5 : Cond.laysFinal RX3 "CopyPolls" "collected" "LCopyPolls$Row;" ∈ h_tb := h_at 98 (by decide +kernel) (by decide +kernel)
theorem ly_X3_6 : Cond.laysFinal RX3 "CopyPolls" "mixed" "[I" ∈ h_tb := h_at 100 (by decide +kernel) (by decide +kernel)
theorem ly_X3_7 : Cond.laysFinal RX3 "CopyPolls" "askedFiles" "[I" ∈ h_tb := h_at 102 (by decide +kernel) (by decide +kernel)
theorem ly_X3_8 : Cond.laysFinal RX3 "CopyPolls" "askedStores" "[I" ∈ h_tb := h_at 104 (by decide +kernel) (by decide +kernel)
theorem ly_X3_9 : Cond.laysFinal RX3 "CopyPolls" "askedDigests" "[I" ∈ h_tb := h_at 106 (by decide +kernel) (by decide +kernel)
theorem ly_X3_10 : Cond.lays RX3 "CopyPolls" "askedCount" "I" ∈ h_tb := h_at 108 (by decide +kernel) (by decide +kernel)
theorem ly_X3_11 : Cond.lays RX3 "CopyPolls" "foundDigest" "I" ∈ h_tb := h_at 110 (by decide +kernel) (by decide +kernel)
theorem in_X3 : ∀ w ∈ u_ws RX3 TX3 12, w ∈ h_tb := by
  intro w hw
  obtain ⟨j, hj, rfl⟩ := List.mem_map.mp hw
  rw [List.mem_range] at hj
  rcases (show j = 0 ∨ j = 1 ∨ j = 2 ∨ j = 3 ∨ j = 4 ∨ j = 5 ∨ j = 6 ∨ j = 7 ∨ j = 8 ∨ j = 9 ∨ j = 10 ∨ j = 11 by omega) with rfl | rfl | rfl | rfl | rfl | rfl | rfl | rfl | rfl | rfl | rfl | rfl
  · exact ly_X3_0
  · exact ly_X3_1
  · exact ly_X3_2
  · exact ly_X3_3
  · exact ly_X3_4
  · exact ly_X3_5
  · exact ly_X3_6
  · exact ly_X3_7
  · exact ly_X3_8
  · exact ly_X3_9
  · exact ly_X3_10
  · exact ly_X3_11
theorem ly_X4_0 : Cond.lays RX4 "CopyPollsModel" "thrown" "I" ∈ h_tb := h_at 486 (by decide +kernel) (by decide +kernel)
theorem ly_X4_1 : Cond.laysFinal RX4 "CopyPollsModel" "copies" "I" ∈ h_tb := h_at 488 (by decide +kernel) (by decide +kernel)
theorem ly_X4_2 : Cond.lays RX4 "CopyPollsModel" "stores" "I" ∈ h_tb := h_at 490 (by decide +kernel) (by decide +kernel)
theorem ly_X4_3 : Cond.laysFinal RX4 "CopyPollsModel" "place" "[I" ∈ h_tb := h_at 492 (by decide +kernel) (by decide +kernel)
theorem ly_X4_4 : Cond.laysFinal RX4 "CopyPollsModel" "silent" "[Z" ∈ h_tb := h_at 494 (by decide +kernel) (by decide +kernel)
theorem ly_X4_5 : Cond.laysFinal RX4 "CopyPollsModel" "up" "[I" ∈ h_tb := h_at 496 (by decide +kernel) (by decide +kernel)
theorem ly_X4_6 : Cond.laysFinal RX4 "CopyPollsModel" "down" "[I" ∈ h_tb := h_at 498 (by decide +kernel) (by decide +kernel)
theorem ly_X4_7 : Cond.lays RX4 "CopyPollsModel" "collected" "I" ∈ h_tb := h_at 500 (by decide +kernel) (by decide +kernel)
theorem ly_X4_8 : Cond.laysFinal RX4 "CopyPollsModel" "said" "[B" ∈ h_tb := h_at 502 (by decide +kernel) (by decide +kernel)
theorem ly_X4_9 : Cond.lays RX4 "CopyPollsModel" "files" "I" ∈ h_tb := h_at 504 (by decide +kernel) (by decide +kernel)
theorem ly_X4_10 : Cond.laysFinal RX4 "CopyPollsModel" "packages" "[I" ∈ h_tb := h_at 506 (by decide +kernel) (by decide +kernel)
theorem ly_X4_11 : Cond.laysFinal RX4 "CopyPollsModel" "mended" "[I" ∈ h_tb := h_at 508 (by decide +kernel) (by decide +kernel)
theorem ly_X4_12 : Cond.laysFinal RX4 "CopyPollsModel" "size" "[I" ∈ h_tb := h_at 510 (by decide +kernel) (by decide +kernel)
theorem ly_X4_13 : Cond.laysFinal RX4 "CopyPollsModel" "bytes" "[B" ∈ h_tb := h_at 512 (by decide +kernel) (by decide +kernel)
theorem ly_X4_14 : Cond.lays RX4 "CopyPollsModel" "polls" "I" ∈ h_tb := h_at 514 (by decide +kernel) (by decide +kernel)
theorem ly_X4_15 : Cond.laysFinal RX4 "CopyPollsModel" "pollFile" "[I" ∈ h_tb := h_at 516 (by decide +kernel) (by decide +kernel)
theorem ly_X4_16 : Cond.laysFinal RX4 "CopyPollsModel" "pollStore" "[I" ∈ h_tb := h_at 518 (by decide +kernel) (by decide +kernel)
theorem ly_X4_17 : Cond.laysFinal RX4 "CopyPollsModel" "pollDigest" "[I" ∈ h_tb := h_at 520 (by decide +kernel) (by decide +kernel)
theorem ly_X4_18 : Cond.laysFinal RX4 "CopyPollsModel" "mixed" "[I" ∈ h_tb := h_at 522 (by decide +kernel) (by decide +kernel)
theorem ly_X4_19 : Cond.lays RX4 "CopyPollsModel" "found" "I" ∈ h_tb := h_at 524 (by decide +kernel) (by decide +kernel)
theorem in_X4 : ∀ w ∈ u_ws RX4 TX4 20, w ∈ h_tb := by
  intro w hw
  obtain ⟨j, hj, rfl⟩ := List.mem_map.mp hw
  rw [List.mem_range] at hj
  rcases (show j = 0 ∨ j = 1 ∨ j = 2 ∨ j = 3 ∨ j = 4 ∨ j = 5 ∨ j = 6 ∨ j = 7 ∨ j = 8 ∨ j = 9 ∨ j = 10 ∨ j = 11 ∨ j = 12 ∨ j = 13 ∨ j = 14 ∨ j = 15 ∨ j = 16 ∨ j = 17 ∨ j = 18 ∨ j = 19 by omega) with rfl | rfl | rfl | rfl | rfl | rfl | rfl | rfl | rfl | rfl | rfl | rfl | rfl | rfl | rfl | rfl | rfl | rfl | rfl | rfl
  · exact ly_X4_0
  · exact ly_X4_1
  · exact ly_X4_2
  · exact ly_X4_3
  · exact ly_X4_4
  · exact ly_X4_5
  · exact ly_X4_6
  · exact ly_X4_7
  · exact ly_X4_8
  · exact ly_X4_9
  · exact ly_X4_10
  · exact ly_X4_11
  · exact ly_X4_12
  · exact ly_X4_13
  · exact ly_X4_14
  · exact ly_X4_15
  · exact ly_X4_16
  · exact ly_X4_17
  · exact ly_X4_18
  · exact ly_X4_19
theorem fl_X1_9 : Cond.fieldLink RX1 9 "CopyPolls$Row" "bytes" "[I" ∈ h_tb := h_at 60 (by decide +kernel) (by decide +kernel)
theorem fl_X3_106 : Cond.fieldLinkNest RX3 106 "CopyPolls$Row" "bytes" "[I" RX3 ∈ h_nw := by decide +kernel
theorem fl_X1_15 : Cond.fieldLink RX1 15 "CopyPolls$Row" "size" "I" ∈ h_tb := h_at 62 (by decide +kernel) (by decide +kernel)
theorem fl_X3_79 : Cond.fieldLinkNest RX3 79 "CopyPolls$Row" "size" "I" RX3 ∈ h_nw := by decide +kernel
theorem fl_X3_63 : Cond.fieldLink RX3 63 "CopyPolls" "copies" "I" ∈ h_tb := h_at 76 (by decide +kernel) (by decide +kernel)
theorem fl_X3_11 : Cond.fieldLink RX3 11 "CopyPolls" "stores" "[LCopyPolls$Store;" ∈ h_tb := h_at 77 (by decide +kernel) (by decide +kernel)
theorem fl_X3_15 : Cond.fieldLink RX3 15 "CopyPolls" "storeCount" "I" ∈ h_tb := h_at 78 (by decide +kernel) (by decide +kernel)
theorem fl_X3_21 : Cond.fieldLink RX3 21 "CopyPolls" "items" "[LCopyPolls$Item;" ∈ h_tb := h_at 79 (by decide +kernel) (by decide +kernel)
theorem fl_X3_25 : Cond.fieldLink RX3 25 "CopyPolls" "itemCount" "I" ∈ h_tb := h_at 80 (by decide +kernel) (by decide +kernel)
theorem fl_X3_31 : Cond.fieldLink RX3 31 "CopyPolls" "collected" "LCopyPolls$Row;" ∈ h_tb := h_at 81 (by decide +kernel) (by decide +kernel)
theorem fl_X3_35 : Cond.fieldLink RX3 35 "CopyPolls" "mixed" "[I" ∈ h_tb := h_at 82 (by decide +kernel) (by decide +kernel)
theorem fl_X3_39 : Cond.fieldLink RX3 39 "CopyPolls" "askedFiles" "[I" ∈ h_tb := h_at 83 (by decide +kernel) (by decide +kernel)
theorem fl_X3_42 : Cond.fieldLink RX3 42 "CopyPolls" "askedStores" "[I" ∈ h_tb := h_at 84 (by decide +kernel) (by decide +kernel)
theorem fl_X3_45 : Cond.fieldLink RX3 45 "CopyPolls" "askedDigests" "[I" ∈ h_tb := h_at 85 (by decide +kernel) (by decide +kernel)
theorem fl_X3_48 : Cond.fieldLink RX3 48 "CopyPolls" "askedCount" "I" ∈ h_tb := h_at 86 (by decide +kernel) (by decide +kernel)
theorem fl_X3_51 : Cond.fieldLink RX3 51 "CopyPolls" "foundDigest" "I" ∈ h_tb := h_at 87 (by decide +kernel) (by decide +kernel)
theorem fl_X2_20 : Cond.fieldLink RX2 20 "CopyPolls$Store" "place" "I" ∈ h_tb := h_at 126 (by decide +kernel) (by decide +kernel)
theorem fl_X3_195 : Cond.fieldLinkNest RX3 195 "CopyPolls$Store" "place" "I" RX3 ∈ h_nw := by decide +kernel
theorem fl_X2_7 : Cond.fieldLink RX2 7 "CopyPolls$Store" "answering" "Z" ∈ h_tb := h_at 128 (by decide +kernel) (by decide +kernel)
theorem fl_X3_95 : Cond.fieldLinkNest RX3 95 "CopyPolls$Store" "answering" "Z" RX3 ∈ h_nw := by decide +kernel
theorem fl_X2_13 : Cond.fieldLink RX2 13 "CopyPolls$Store" "up" "I" ∈ h_tb := h_at 130 (by decide +kernel) (by decide +kernel)
theorem fl_X3_156 : Cond.fieldLinkNest RX3 156 "CopyPolls$Store" "up" "I" RX3 ∈ h_nw := by decide +kernel
theorem fl_X2_17 : Cond.fieldLink RX2 17 "CopyPolls$Store" "down" "I" ∈ h_tb := h_at 132 (by decide +kernel) (by decide +kernel)
theorem fl_X3_159 : Cond.fieldLinkNest RX3 159 "CopyPolls$Store" "down" "I" RX3 ∈ h_nw := by decide +kernel
theorem fl_X0_21 : Cond.fieldLink RX0 21 "CopyPolls$Item" "pack" "I" ∈ h_tb := h_at 177 (by decide +kernel) (by decide +kernel)
theorem fl_X3_117 : Cond.fieldLinkNest RX3 117 "CopyPolls$Item" "pack" "I" RX3 ∈ h_nw := by decide +kernel
theorem fl_X0_11 : Cond.fieldLink RX0 11 "CopyPolls$Item" "rows" "[LCopyPolls$Row;" ∈ h_tb := h_at 179 (by decide +kernel) (by decide +kernel)
theorem fl_X3_113 : Cond.fieldLinkNest RX3 113 "CopyPolls$Item" "rows" "[LCopyPolls$Row;" RX3 ∈ h_nw := by decide +kernel
theorem fl_X0_17 : Cond.fieldLink RX0 17 "CopyPolls$Item" "renewed" "I" ∈ h_tb := h_at 181 (by decide +kernel) (by decide +kernel)
theorem fl_X3_188 : Cond.fieldLinkNest RX3 188 "CopyPolls$Item" "renewed" "I" RX3 ∈ h_nw := by decide +kernel
theorem fl_X4_55 : Cond.fieldLink RX4 55 "CopyPollsModel" "thrown" "I" ∈ h_tb := h_at 466 (by decide +kernel) (by decide +kernel)
theorem fl_X4_51 : Cond.fieldLink RX4 51 "CopyPollsModel" "copies" "I" ∈ h_tb := h_at 467 (by decide +kernel) (by decide +kernel)
theorem fl_X4_58 : Cond.fieldLink RX4 58 "CopyPollsModel" "stores" "I" ∈ h_tb := h_at 468 (by decide +kernel) (by decide +kernel)
theorem fl_X4_7 : Cond.fieldLink RX4 7 "CopyPollsModel" "place" "[I" ∈ h_tb := h_at 469 (by decide +kernel) (by decide +kernel)
theorem fl_X4_13 : Cond.fieldLink RX4 13 "CopyPollsModel" "silent" "[Z" ∈ h_tb := h_at 470 (by decide +kernel) (by decide +kernel)
theorem fl_X4_17 : Cond.fieldLink RX4 17 "CopyPollsModel" "up" "[I" ∈ h_tb := h_at 471 (by decide +kernel) (by decide +kernel)
theorem fl_X4_20 : Cond.fieldLink RX4 20 "CopyPollsModel" "down" "[I" ∈ h_tb := h_at 472 (by decide +kernel) (by decide +kernel)
theorem fl_X4_79 : Cond.fieldLink RX4 79 "CopyPollsModel" "collected" "I" ∈ h_tb := h_at 473 (by decide +kernel) (by decide +kernel)
theorem fl_X4_23 : Cond.fieldLink RX4 23 "CopyPollsModel" "said" "[B" ∈ h_tb := h_at 474 (by decide +kernel) (by decide +kernel)
theorem fl_X4_65 : Cond.fieldLink RX4 65 "CopyPollsModel" "files" "I" ∈ h_tb := h_at 475 (by decide +kernel) (by decide +kernel)
theorem fl_X4_27 : Cond.fieldLink RX4 27 "CopyPollsModel" "packages" "[I" ∈ h_tb := h_at 476 (by decide +kernel) (by decide +kernel)
theorem fl_X4_30 : Cond.fieldLink RX4 30 "CopyPollsModel" "mended" "[I" ∈ h_tb := h_at 477 (by decide +kernel) (by decide +kernel)
theorem fl_X4_33 : Cond.fieldLink RX4 33 "CopyPollsModel" "size" "[I" ∈ h_tb := h_at 478 (by decide +kernel) (by decide +kernel)
theorem fl_X4_36 : Cond.fieldLink RX4 36 "CopyPollsModel" "bytes" "[B" ∈ h_tb := h_at 479 (by decide +kernel) (by decide +kernel)
theorem fl_X4_96 : Cond.fieldLink RX4 96 "CopyPollsModel" "polls" "I" ∈ h_tb := h_at 480 (by decide +kernel) (by decide +kernel)
theorem fl_X4_39 : Cond.fieldLink RX4 39 "CopyPollsModel" "pollFile" "[I" ∈ h_tb := h_at 481 (by decide +kernel) (by decide +kernel)
theorem fl_X4_42 : Cond.fieldLink RX4 42 "CopyPollsModel" "pollStore" "[I" ∈ h_tb := h_at 482 (by decide +kernel) (by decide +kernel)
theorem fl_X4_45 : Cond.fieldLink RX4 45 "CopyPollsModel" "pollDigest" "[I" ∈ h_tb := h_at 483 (by decide +kernel) (by decide +kernel)
theorem fl_X4_48 : Cond.fieldLink RX4 48 "CopyPollsModel" "mixed" "[I" ∈ h_tb := h_at 484 (by decide +kernel) (by decide +kernel)
theorem fl_X4_106 : Cond.fieldLink RX4 106 "CopyPollsModel" "found" "I" ∈ h_tb := h_at 485 (by decide +kernel) (by decide +kernel)
theorem wn_L : Cond.initialized RL ∈ h_tb := h_at 29 (by decide +kernel) (by decide +kernel)
theorem wn_X3 : Cond.initialized RX3 ∈ h_tb := h_at 30 (by decide +kernel) (by decide +kernel)
theorem wn_X1 : Cond.initialized RX1 ∈ h_tb := h_at 31 (by decide +kernel) (by decide +kernel)
theorem wn_java_lang_Math : Cond.initialized "java/lang/Math" ∈ h_tb := h_at 32 (by decide +kernel) (by decide +kernel)
theorem wn_X4 : Cond.initialized RX4 ∈ h_tb := h_at 33 (by decide +kernel) (by decide +kernel)
theorem wn_X2 : Cond.initialized RX2 ∈ h_tb := h_at 34 (by decide +kernel) (by decide +kernel)
theorem wn_X0 : Cond.initialized RX0 ∈ h_tb := h_at 35 (by decide +kernel) (by decide +kernel)
theorem wn_java_lang_Throwable : Cond.initialized "java/lang/Throwable" ∈ h_tb := h_at 36 (by decide +kernel) (by decide +kernel)
theorem wn_java_lang_Exception : Cond.initialized "java/lang/Exception" ∈ h_tb := h_at 37 (by decide +kernel) (by decide +kernel)
theorem wn_java_lang_RuntimeException : Cond.initialized "java/lang/RuntimeException" ∈ h_tb := h_at 38 (by decide +kernel) (by decide +kernel)
theorem wn_java_lang_IndexOutOfBoundsException : Cond.initialized "java/lang/IndexOutOfBoundsException" ∈ h_tb := h_at 39 (by decide +kernel) (by decide +kernel)
theorem wn_java_lang_ArithmeticException : Cond.initialized "java/lang/ArithmeticException" ∈ h_tb := h_at 40 (by decide +kernel) (by decide +kernel)
theorem wn_java_lang_ArrayIndexOutOfBoundsException : Cond.initialized "java/lang/ArrayIndexOutOfBoundsException" ∈ h_tb := h_at 41 (by decide +kernel) (by decide +kernel)
theorem wk_L_8 : Cond.classLink RL 8 RX3 ∈ h_tb := h_at 42 (by decide +kernel) (by decide +kernel)
theorem wa_X3 : Cond.instantiable RX3 12 ∈ h_tb := h_at 43 (by decide +kernel) (by decide +kernel)
theorem wi_X3_init : Cond.instanceMethod yX3_init ∈ h_tb := h_at 45 (by decide +kernel) (by decide +kernel)
theorem wc_X3_init : Cond.code yX3_init cX3_init 2 none ∈ h_tb := h_at 46 (by decide +kernel) (by decide +kernel)
theorem wk_X3_9 : Cond.classLink RX3 9 RX2 ∈ h_tb := h_at 50 (by decide +kernel) (by decide +kernel)
theorem wk_X3_19 : Cond.classLink RX3 19 RX0 ∈ h_tb := h_at 52 (by decide +kernel) (by decide +kernel)
theorem wk_X3_28 : Cond.classLink RX3 28 RX1 ∈ h_tb := h_at 54 (by decide +kernel) (by decide +kernel)
theorem wa_X1 : Cond.instantiable RX1 2 ∈ h_tb := h_at 55 (by decide +kernel) (by decide +kernel)
theorem wi_X1_init : Cond.instanceMethod yX1_init ∈ h_tb := h_at 57 (by decide +kernel) (by decide +kernel)
theorem wc_X1_init : Cond.code yX1_init cX1_init 1 none ∈ h_tb := h_at 58 (by decide +kernel) (by decide +kernel)
theorem wr_int : Cond.arrayClass .int ∈ h_tb := h_at 69 (by decide +kernel) (by decide +kernel)
theorem wi_X3_store : Cond.instanceMethod yX3_store ∈ h_tb := h_at 114 (by decide +kernel) (by decide +kernel)
theorem wl_X3_store : Cond.selects RX3 yX3_store yX3_store ∈ h_tb := h_at 115 (by decide +kernel) (by decide +kernel)
theorem wc_X3_store : Cond.code yX3_store cX3_store 2 (some .int) ∈ h_tb := h_at 116 (by decide +kernel) (by decide +kernel)
theorem wi_X3_isTaken : Cond.instanceMethod yX3_isTaken ∈ h_tb := h_at 119 (by decide +kernel) (by decide +kernel)
theorem wc_X3_isTaken : Cond.code yX3_isTaken cX3_isTaken 4 (some .boolean) ∈ h_tb := h_at 120 (by decide +kernel) (by decide +kernel)
theorem wa_X2 : Cond.instantiable RX2 4 ∈ h_tb := h_at 121 (by decide +kernel) (by decide +kernel)
theorem wi_X2_init : Cond.instanceMethod yX2_init ∈ h_tb := h_at 123 (by decide +kernel) (by decide +kernel)
theorem wc_X2_init : Cond.code yX2_init cX2_init 2 none ∈ h_tb := h_at 124 (by decide +kernel) (by decide +kernel)
theorem wi_X3_octet : Cond.instanceMethod yX3_octet ∈ h_tb := h_at 144 (by decide +kernel) (by decide +kernel)
theorem wl_X3_octet : Cond.selects RX3 yX3_octet yX3_octet ∈ h_tb := h_at 145 (by decide +kernel) (by decide +kernel)
theorem wc_X3_octet : Cond.code yX3_octet cX3_octet 2 none ∈ h_tb := h_at 146 (by decide +kernel) (by decide +kernel)
theorem wi_X1_append : Cond.instanceMethod yX1_append ∈ h_tb := h_at 148 (by decide +kernel) (by decide +kernel)
theorem wl_X1_append : Cond.selects RX1 yX1_append yX1_append ∈ h_tb := h_at 149 (by decide +kernel) (by decide +kernel)
theorem wc_X1_append : Cond.code yX1_append cX1_append 2 none ∈ h_tb := h_at 150 (by decide +kernel) (by decide +kernel)
theorem wi_X3_put : Cond.instanceMethod yX3_put ∈ h_tb := h_at 152 (by decide +kernel) (by decide +kernel)
theorem wl_X3_put : Cond.selects RX3 yX3_put yX3_put ∈ h_tb := h_at 153 (by decide +kernel) (by decide +kernel)
theorem wc_X3_put : Cond.code yX3_put cX3_put 4 (some .int) ∈ h_tb := h_at 154 (by decide +kernel) (by decide +kernel)
theorem wt_X3_isPackage : Cond.static yX3_isPackage ∈ h_tb := h_at 156 (by decide +kernel) (by decide +kernel)
theorem wc_X3_isPackage : Cond.code yX3_isPackage cX3_isPackage 1 (some .boolean) ∈ h_tb := h_at 157 (by decide +kernel) (by decide +kernel)
theorem wi_X3_answeringStores : Cond.instanceMethod yX3_answeringStores ∈ h_tb := h_at 160 (by decide +kernel) (by decide +kernel)
theorem wc_X3_answeringStores : Cond.code yX3_answeringStores cX3_answeringStores 3 (some .int) ∈ h_tb := h_at 161 (by decide +kernel) (by decide +kernel)
theorem wi_X3_isAnswering : Cond.instanceMethod yX3_isAnswering ∈ h_tb := h_at 164 (by decide +kernel) (by decide +kernel)
theorem wc_X3_isAnswering : Cond.code yX3_isAnswering cX3_isAnswering 3 (some .boolean) ∈ h_tb := h_at 165 (by decide +kernel) (by decide +kernel)
theorem wi_X3_storeOf : Cond.instanceMethod yX3_storeOf ∈ h_tb := h_at 168 (by decide +kernel) (by decide +kernel)
theorem wc_X3_storeOf : Cond.code yX3_storeOf cX3_storeOf 2 (some (.object "CopyPolls$Store")) ∈ h_tb := h_at 169 (by decide +kernel) (by decide +kernel)
theorem wa_X0 : Cond.instantiable RX0 3 ∈ h_tb := h_at 170 (by decide +kernel) (by decide +kernel)
theorem wi_X0_init : Cond.instanceMethod yX0_init ∈ h_tb := h_at 172 (by decide +kernel) (by decide +kernel)
theorem wc_X0_init : Cond.code yX0_init cX0_init 2 none ∈ h_tb := h_at 173 (by decide +kernel) (by decide +kernel)
theorem wk_X0_9 : Cond.classLink RX0 9 RX1 ∈ h_tb := h_at 175 (by decide +kernel) (by decide +kernel)
theorem wi_X3_placeCollected : Cond.instanceMethod yX3_placeCollected ∈ h_tb := h_at 192 (by decide +kernel) (by decide +kernel)
theorem wc_X3_placeCollected : Cond.code yX3_placeCollected cX3_placeCollected 6 none ∈ h_tb := h_at 193 (by decide +kernel) (by decide +kernel)
theorem wi_X3_copiesOn : Cond.instanceMethod yX3_copiesOn ∈ h_tb := h_at 196 (by decide +kernel) (by decide +kernel)
theorem wc_X3_copiesOn : Cond.code yX3_copiesOn cX3_copiesOn 4 (some .int) ∈ h_tb := h_at 197 (by decide +kernel) (by decide +kernel)
theorem wi_X3_copyOf : Cond.instanceMethod yX3_copyOf ∈ h_tb := h_at 200 (by decide +kernel) (by decide +kernel)
theorem wc_X3_copyOf : Cond.code yX3_copyOf cX3_copyOf 4 (some (.object "CopyPolls$Row")) ∈ h_tb := h_at 201 (by decide +kernel) (by decide +kernel)
theorem wi_X3_itemOf : Cond.instanceMethod yX3_itemOf ∈ h_tb := h_at 204 (by decide +kernel) (by decide +kernel)
theorem wc_X3_itemOf : Cond.code yX3_itemOf cX3_itemOf 2 (some (.object "CopyPolls$Item")) ∈ h_tb := h_at 205 (by decide +kernel) (by decide +kernel)
theorem wi_X1_twin : Cond.instanceMethod yX1_twin ∈ h_tb := h_at 207 (by decide +kernel) (by decide +kernel)
theorem wl_X1_twin : Cond.selects RX1 yX1_twin yX1_twin ∈ h_tb := h_at 208 (by decide +kernel) (by decide +kernel)
theorem wc_X1_twin : Cond.code yX1_twin cX1_twin 2 (some (.object "CopyPolls$Row")) ∈ h_tb := h_at 209 (by decide +kernel) (by decide +kernel)
theorem wk_X1_10 : Cond.classLink RX1 10 RX1 ∈ h_tb := h_at 210 (by decide +kernel) (by decide +kernel)
theorem wi_X1_become : Cond.instanceMethod yX1_become ∈ h_tb := h_at 213 (by decide +kernel) (by decide +kernel)
theorem wl_X1_become : Cond.selects RX1 yX1_become yX1_become ∈ h_tb := h_at 214 (by decide +kernel) (by decide +kernel)
theorem wc_X1_become : Cond.code yX1_become cX1_become 3 none ∈ h_tb := h_at 215 (by decide +kernel) (by decide +kernel)
theorem wi_X3_answers : Cond.instanceMethod yX3_answers ∈ h_tb := h_at 217 (by decide +kernel) (by decide +kernel)
theorem wl_X3_answers : Cond.selects RX3 yX3_answers yX3_answers ∈ h_tb := h_at 218 (by decide +kernel) (by decide +kernel)
theorem wc_X3_answers : Cond.code yX3_answers cX3_answers 4 (some .int) ∈ h_tb := h_at 219 (by decide +kernel) (by decide +kernel)
theorem wi_X3_alter : Cond.instanceMethod yX3_alter ∈ h_tb := h_at 221 (by decide +kernel) (by decide +kernel)
theorem wl_X3_alter : Cond.selects RX3 yX3_alter yX3_alter ∈ h_tb := h_at 222 (by decide +kernel) (by decide +kernel)
theorem wc_X3_alter : Cond.code yX3_alter cX3_alter 7 (some .int) ∈ h_tb := h_at 223 (by decide +kernel) (by decide +kernel)
theorem wi_X1_has : Cond.instanceMethod yX1_has ∈ h_tb := h_at 225 (by decide +kernel) (by decide +kernel)
theorem wl_X1_has : Cond.selects RX1 yX1_has yX1_has ∈ h_tb := h_at 226 (by decide +kernel) (by decide +kernel)
theorem wc_X1_has : Cond.code yX1_has cX1_has 2 (some .boolean) ∈ h_tb := h_at 227 (by decide +kernel) (by decide +kernel)
theorem wi_X3_cut : Cond.instanceMethod yX3_cut ∈ h_tb := h_at 229 (by decide +kernel) (by decide +kernel)
theorem wl_X3_cut : Cond.selects RX3 yX3_cut yX3_cut ∈ h_tb := h_at 230 (by decide +kernel) (by decide +kernel)
theorem wc_X3_cut : Cond.code yX3_cut cX3_cut 6 (some .int) ∈ h_tb := h_at 231 (by decide +kernel) (by decide +kernel)
theorem wi_X3_lose : Cond.instanceMethod yX3_lose ∈ h_tb := h_at 233 (by decide +kernel) (by decide +kernel)
theorem wl_X3_lose : Cond.selects RX3 yX3_lose yX3_lose ∈ h_tb := h_at 234 (by decide +kernel) (by decide +kernel)
theorem wc_X3_lose : Cond.code yX3_lose cX3_lose 4 (some .int) ∈ h_tb := h_at 235 (by decide +kernel) (by decide +kernel)
theorem wi_X3_poll : Cond.instanceMethod yX3_poll ∈ h_tb := h_at 237 (by decide +kernel) (by decide +kernel)
theorem wl_X3_poll : Cond.selects RX3 yX3_poll yX3_poll ∈ h_tb := h_at 238 (by decide +kernel) (by decide +kernel)
theorem wc_X3_poll : Cond.code yX3_poll cX3_poll 9 (some .int) ∈ h_tb := h_at 239 (by decide +kernel) (by decide +kernel)
theorem wi_X3_listCounting : Cond.instanceMethod yX3_listCounting ∈ h_tb := h_at 242 (by decide +kernel) (by decide +kernel)
theorem wc_X3_listCounting : Cond.code yX3_listCounting cX3_listCounting 4 (some .int) ∈ h_tb := h_at 243 (by decide +kernel) (by decide +kernel)
theorem wi_X3_countingRow : Cond.instanceMethod yX3_countingRow ∈ h_tb := h_at 246 (by decide +kernel) (by decide +kernel)
theorem wc_X3_countingRow : Cond.code yX3_countingRow cX3_countingRow 3 (some (.object "CopyPolls$Row")) ∈ h_tb := h_at 247 (by decide +kernel) (by decide +kernel)
theorem wi_X3_mix : Cond.instanceMethod yX3_mix ∈ h_tb := h_at 250 (by decide +kernel) (by decide +kernel)
theorem wc_X3_mix : Cond.code yX3_mix cX3_mix 9 (some .long) ∈ h_tb := h_at 251 (by decide +kernel) (by decide +kernel)
theorem wj_X3_206 : Cond.constantLong RX3 206 (6364136223846793005) ∈ h_tb := h_at 252 (by decide +kernel) (by decide +kernel)
theorem wj_X3_208 : Cond.constantLong RX3 208 (1442695040888963407) ∈ h_tb := h_at 253 (by decide +kernel) (by decide +kernel)
theorem wi_X3_ask : Cond.instanceMethod yX3_ask ∈ h_tb := h_at 256 (by decide +kernel) (by decide +kernel)
theorem wc_X3_ask : Cond.code yX3_ask cX3_ask 6 none ∈ h_tb := h_at 257 (by decide +kernel) (by decide +kernel)
theorem wi_X1_sum : Cond.instanceMethod yX1_sum ∈ h_tb := h_at 259 (by decide +kernel) (by decide +kernel)
theorem wl_X1_sum : Cond.selects RX1 yX1_sum yX1_sum ∈ h_tb := h_at 260 (by decide +kernel) (by decide +kernel)
theorem wc_X1_sum : Cond.code yX1_sum cX1_sum 3 (some .int) ∈ h_tb := h_at 261 (by decide +kernel) (by decide +kernel)
theorem wi_X3_majority : Cond.instanceMethod yX3_majority ∈ h_tb := h_at 263 (by decide +kernel) (by decide +kernel)
theorem wl_X3_majority : Cond.selects RX3 yX3_majority yX3_majority ∈ h_tb := h_at 264 (by decide +kernel) (by decide +kernel)
theorem wc_X3_majority : Cond.code yX3_majority cX3_majority 4 (some .int) ∈ h_tb := h_at 265 (by decide +kernel) (by decide +kernel)
theorem wi_X3_majorityRow : Cond.instanceMethod yX3_majorityRow ∈ h_tb := h_at 268 (by decide +kernel) (by decide +kernel)
theorem wc_X3_majorityRow : Cond.code yX3_majorityRow cX3_majorityRow 5 (some (.object "CopyPolls$Row")) ∈ h_tb := h_at 269 (by decide +kernel) (by decide +kernel)
theorem wi_X3_countingCopies : Cond.instanceMethod yX3_countingCopies ∈ h_tb := h_at 272 (by decide +kernel) (by decide +kernel)
theorem wc_X3_countingCopies : Cond.code yX3_countingCopies cX3_countingCopies 4 (some .int) ∈ h_tb := h_at 273 (by decide +kernel) (by decide +kernel)
theorem wi_X3_countingWith : Cond.instanceMethod yX3_countingWith ∈ h_tb := h_at 276 (by decide +kernel) (by decide +kernel)
theorem wc_X3_countingWith : Cond.code yX3_countingWith cX3_countingWith 6 (some .int) ∈ h_tb := h_at 277 (by decide +kernel) (by decide +kernel)
theorem wi_X3_digest : Cond.instanceMethod yX3_digest ∈ h_tb := h_at 279 (by decide +kernel) (by decide +kernel)
theorem wl_X3_digest : Cond.selects RX3 yX3_digest yX3_digest ∈ h_tb := h_at 280 (by decide +kernel) (by decide +kernel)
theorem wc_X3_digest : Cond.code yX3_digest cX3_digest 1 (some .int) ∈ h_tb := h_at 281 (by decide +kernel) (by decide +kernel)
theorem wi_X3_mend : Cond.instanceMethod yX3_mend ∈ h_tb := h_at 283 (by decide +kernel) (by decide +kernel)
theorem wl_X3_mend : Cond.selects RX3 yX3_mend yX3_mend ∈ h_tb := h_at 284 (by decide +kernel) (by decide +kernel)
theorem wc_X3_mend : Cond.code yX3_mend cX3_mend 5 (some .int) ∈ h_tb := h_at 285 (by decide +kernel) (by decide +kernel)
theorem wi_X3_mendItem : Cond.instanceMethod yX3_mendItem ∈ h_tb := h_at 288 (by decide +kernel) (by decide +kernel)
theorem wc_X3_mendItem : Cond.code yX3_mendItem cX3_mendItem 7 (some .int) ∈ h_tb := h_at 289 (by decide +kernel) (by decide +kernel)
theorem wi_X3_stale : Cond.instanceMethod yX3_stale ∈ h_tb := h_at 292 (by decide +kernel) (by decide +kernel)
theorem wl_X3_stale : Cond.selects RX3 yX3_stale yX3_stale ∈ h_tb := h_at 293 (by decide +kernel) (by decide +kernel)
theorem wc_X3_stale : Cond.code yX3_stale cX3_stale 6 (some .int) ∈ h_tb := h_at 294 (by decide +kernel) (by decide +kernel)
theorem wi_X3_fill : Cond.instanceMethod yX3_fill ∈ h_tb := h_at 296 (by decide +kernel) (by decide +kernel)
theorem wl_X3_fill : Cond.selects RX3 yX3_fill yX3_fill ∈ h_tb := h_at 297 (by decide +kernel) (by decide +kernel)
theorem wc_X3_fill : Cond.code yX3_fill cX3_fill 6 (some .int) ∈ h_tb := h_at 298 (by decide +kernel) (by decide +kernel)
theorem wi_X3_fillItem : Cond.instanceMethod yX3_fillItem ∈ h_tb := h_at 301 (by decide +kernel) (by decide +kernel)
theorem wc_X3_fillItem : Cond.code yX3_fillItem cX3_fillItem 4 (some .boolean) ∈ h_tb := h_at 302 (by decide +kernel) (by decide +kernel)
theorem wi_X0_copyCount : Cond.instanceMethod yX0_copyCount ∈ h_tb := h_at 304 (by decide +kernel) (by decide +kernel)
theorem wl_X0_copyCount : Cond.selects RX0 yX0_copyCount yX0_copyCount ∈ h_tb := h_at 305 (by decide +kernel) (by decide +kernel)
theorem wc_X0_copyCount : Cond.code yX0_copyCount cX0_copyCount 6 (some .int) ∈ h_tb := h_at 306 (by decide +kernel) (by decide +kernel)
theorem wi_X3_move : Cond.instanceMethod yX3_move ∈ h_tb := h_at 308 (by decide +kernel) (by decide +kernel)
theorem wl_X3_move : Cond.selects RX3 yX3_move yX3_move ∈ h_tb := h_at 309 (by decide +kernel) (by decide +kernel)
theorem wc_X3_move : Cond.code yX3_move cX3_move 6 (some .int) ∈ h_tb := h_at 310 (by decide +kernel) (by decide +kernel)
theorem wi_X3_rate : Cond.instanceMethod yX3_rate ∈ h_tb := h_at 312 (by decide +kernel) (by decide +kernel)
theorem wl_X3_rate : Cond.selects RX3 yX3_rate yX3_rate ∈ h_tb := h_at 313 (by decide +kernel) (by decide +kernel)
theorem wc_X3_rate : Cond.code yX3_rate cX3_rate 5 (some .int) ∈ h_tb := h_at 314 (by decide +kernel) (by decide +kernel)
theorem wi_X3_about : Cond.instanceMethod yX3_about ∈ h_tb := h_at 316 (by decide +kernel) (by decide +kernel)
theorem wl_X3_about : Cond.selects RX3 yX3_about yX3_about ∈ h_tb := h_at 317 (by decide +kernel) (by decide +kernel)
theorem wc_X3_about : Cond.code yX3_about cX3_about 4 (some .int) ∈ h_tb := h_at 318 (by decide +kernel) (by decide +kernel)
theorem wi_X3_load : Cond.instanceMethod yX3_load ∈ h_tb := h_at 320 (by decide +kernel) (by decide +kernel)
theorem wl_X3_load : Cond.selects RX3 yX3_load yX3_load ∈ h_tb := h_at 321 (by decide +kernel) (by decide +kernel)
theorem wc_X3_load : Cond.code yX3_load cX3_load 2 (some .int) ∈ h_tb := h_at 322 (by decide +kernel) (by decide +kernel)
theorem wt_L_cell : Cond.static yL_cell ∈ h_tb := h_at 324 (by decide +kernel) (by decide +kernel)
theorem wc_L_cell : Cond.code yL_cell cL_cell 2 (some .int) ∈ h_tb := h_at 325 (by decide +kernel) (by decide +kernel)
theorem wt_L_polled : Cond.static yL_polled ∈ h_tb := h_at 327 (by decide +kernel) (by decide +kernel)
theorem wk_L_13 : Cond.classLink RL 13 "java/lang/IndexOutOfBoundsException" ∈ h_tb := h_at 329 (by decide +kernel) (by decide +kernel)
theorem wi_X3_polled : Cond.instanceMethod yX3_polled ∈ h_tb := h_at 331 (by decide +kernel) (by decide +kernel)
theorem wl_X3_polled : Cond.selects RX3 yX3_polled yX3_polled ∈ h_tb := h_at 332 (by decide +kernel) (by decide +kernel)
theorem wc_X3_polled : Cond.code yX3_polled cX3_polled 3 (some .int) ∈ h_tb := h_at 333 (by decide +kernel) (by decide +kernel)
theorem wk_X3_132 : Cond.classLink RX3 132 "java/lang/IndexOutOfBoundsException" ∈ h_tb := h_at 334 (by decide +kernel) (by decide +kernel)
theorem wr_byte : Cond.arrayClass .byte ∈ h_tb := h_at 401 (by decide +kernel) (by decide +kernel)
theorem wt_L_odds : Cond.static yL_odds ∈ h_tb := h_at 403 (by decide +kernel) (by decide +kernel)
theorem wk_L_19 : Cond.classLink RL 19 "java/lang/ArithmeticException" ∈ h_tb := h_at 405 (by decide +kernel) (by decide +kernel)
theorem wi_X3_odds : Cond.instanceMethod yX3_odds ∈ h_tb := h_at 407 (by decide +kernel) (by decide +kernel)
theorem wl_X3_odds : Cond.selects RX3 yX3_odds yX3_odds ∈ h_tb := h_at 408 (by decide +kernel) (by decide +kernel)
theorem wc_X3_odds : Cond.code yX3_odds cX3_odds 13 (some .long) ∈ h_tb := h_at 409 (by decide +kernel) (by decide +kernel)
theorem wj_X3_162 : Cond.constantLong RX3 162 (-1) ∈ h_tb := h_at 410 (by decide +kernel) (by decide +kernel)
theorem wi_X3_bearsOdds : Cond.instanceMethod yX3_bearsOdds ∈ h_tb := h_at 413 (by decide +kernel) (by decide +kernel)
theorem wc_X3_bearsOdds : Cond.code yX3_bearsOdds cX3_bearsOdds 5 (some .boolean) ∈ h_tb := h_at 414 (by decide +kernel) (by decide +kernel)
theorem wk_X3_168 : Cond.classLink RX3 168 "java/lang/ArithmeticException" ∈ h_tb := h_at 415 (by decide +kernel) (by decide +kernel)
theorem wt_X3_commonDivisor : Cond.static yX3_commonDivisor ∈ h_tb := h_at 432 (by decide +kernel) (by decide +kernel)
theorem wc_X3_commonDivisor : Cond.code yX3_commonDivisor cX3_commonDivisor 11 (some .long) ∈ h_tb := h_at 433 (by decide +kernel) (by decide +kernel)
theorem wt_L_at : Cond.static yL_at ∈ h_tb := h_at 435 (by decide +kernel) (by decide +kernel)
theorem wk_L_25 : Cond.classLink RL 25 "java/lang/ArrayIndexOutOfBoundsException" ∈ h_tb := h_at 437 (by decide +kernel) (by decide +kernel)
theorem wi_X3_at : Cond.instanceMethod yX3_at ∈ h_tb := h_at 439 (by decide +kernel) (by decide +kernel)
theorem wl_X3_at : Cond.selects RX3 yX3_at yX3_at ∈ h_tb := h_at 440 (by decide +kernel) (by decide +kernel)
theorem wc_X3_at : Cond.code yX3_at cX3_at 5 (some .int) ∈ h_tb := h_at 441 (by decide +kernel) (by decide +kernel)
theorem wk_X3_177 : Cond.classLink RX3 177 "java/lang/ArrayIndexOutOfBoundsException" ∈ h_tb := h_at 442 (by decide +kernel) (by decide +kernel)
theorem wk_L_36 : Cond.classLink RL 36 RX4 ∈ h_tb := h_at 460 (by decide +kernel) (by decide +kernel)
theorem wa_X4 : Cond.instantiable RX4 20 ∈ h_tb := h_at 461 (by decide +kernel) (by decide +kernel)
theorem wi_X4_init : Cond.instanceMethod yX4_init ∈ h_tb := h_at 463 (by decide +kernel) (by decide +kernel)
theorem wc_X4_init : Cond.code yX4_init cX4_init 3 none ∈ h_tb := h_at 464 (by decide +kernel) (by decide +kernel)
theorem wr_boolean : Cond.arrayClass .boolean ∈ h_tb := h_at 527 (by decide +kernel) (by decide +kernel)
theorem wi_X4_thrown : Cond.instanceMethod yX4_thrown ∈ h_tb := h_at 529 (by decide +kernel) (by decide +kernel)
theorem wl_X4_thrown : Cond.selects RX4 yX4_thrown yX4_thrown ∈ h_tb := h_at 530 (by decide +kernel) (by decide +kernel)
theorem wc_X4_thrown : Cond.code yX4_thrown cX4_thrown 1 (some .int) ∈ h_tb := h_at 531 (by decide +kernel) (by decide +kernel)
theorem wi_X4_store : Cond.instanceMethod yX4_store ∈ h_tb := h_at 533 (by decide +kernel) (by decide +kernel)
theorem wl_X4_store : Cond.selects RX4 yX4_store yX4_store ∈ h_tb := h_at 534 (by decide +kernel) (by decide +kernel)
theorem wc_X4_store : Cond.code yX4_store cX4_store 3 (some .int) ∈ h_tb := h_at 535 (by decide +kernel) (by decide +kernel)
theorem wt_X4_in : Cond.static yX4_in ∈ h_tb := h_at 537 (by decide +kernel) (by decide +kernel)
theorem wc_X4_in : Cond.code yX4_in cX4_in 3 (some .boolean) ∈ h_tb := h_at 538 (by decide +kernel) (by decide +kernel)
theorem wi_X4_octet : Cond.instanceMethod yX4_octet ∈ h_tb := h_at 540 (by decide +kernel) (by decide +kernel)
theorem wl_X4_octet : Cond.selects RX4 yX4_octet yX4_octet ∈ h_tb := h_at 541 (by decide +kernel) (by decide +kernel)
theorem wc_X4_octet : Cond.code yX4_octet cX4_octet 2 none ∈ h_tb := h_at 542 (by decide +kernel) (by decide +kernel)
theorem wi_X4_put : Cond.instanceMethod yX4_put ∈ h_tb := h_at 544 (by decide +kernel) (by decide +kernel)
theorem wl_X4_put : Cond.selects RX4 yX4_put yX4_put ∈ h_tb := h_at 545 (by decide +kernel) (by decide +kernel)
theorem wc_X4_put : Cond.code yX4_put cX4_put 6 (some .int) ∈ h_tb := h_at 546 (by decide +kernel) (by decide +kernel)
theorem wi_X4_ahead : Cond.instanceMethod yX4_ahead ∈ h_tb := h_at 549 (by decide +kernel) (by decide +kernel)
theorem wc_X4_ahead : Cond.code yX4_ahead cX4_ahead 4 (some .int) ∈ h_tb := h_at 550 (by decide +kernel) (by decide +kernel)
theorem wi_X4_loadOf : Cond.instanceMethod yX4_loadOf ∈ h_tb := h_at 553 (by decide +kernel) (by decide +kernel)
theorem wc_X4_loadOf : Cond.code yX4_loadOf cX4_loadOf 4 (some .int) ∈ h_tb := h_at 554 (by decide +kernel) (by decide +kernel)
theorem wi_X4_answers : Cond.instanceMethod yX4_answers ∈ h_tb := h_at 556 (by decide +kernel) (by decide +kernel)
theorem wl_X4_answers : Cond.selects RX4 yX4_answers yX4_answers ∈ h_tb := h_at 557 (by decide +kernel) (by decide +kernel)
theorem wc_X4_answers : Cond.code yX4_answers cX4_answers 3 (some .int) ∈ h_tb := h_at 558 (by decide +kernel) (by decide +kernel)
theorem wi_X4_isStore : Cond.instanceMethod yX4_isStore ∈ h_tb := h_at 561 (by decide +kernel) (by decide +kernel)
theorem wc_X4_isStore : Cond.code yX4_isStore cX4_isStore 2 (some .boolean) ∈ h_tb := h_at 562 (by decide +kernel) (by decide +kernel)
theorem wi_X4_alter : Cond.instanceMethod yX4_alter ∈ h_tb := h_at 564 (by decide +kernel) (by decide +kernel)
theorem wl_X4_alter : Cond.selects RX4 yX4_alter yX4_alter ∈ h_tb := h_at 565 (by decide +kernel) (by decide +kernel)
theorem wc_X4_alter : Cond.code yX4_alter cX4_alter 7 (some .int) ∈ h_tb := h_at 566 (by decide +kernel) (by decide +kernel)
theorem wi_X4_has : Cond.instanceMethod yX4_has ∈ h_tb := h_at 569 (by decide +kernel) (by decide +kernel)
theorem wc_X4_has : Cond.code yX4_has cX4_has 3 (some .boolean) ∈ h_tb := h_at 570 (by decide +kernel) (by decide +kernel)
theorem wi_X4_isFile : Cond.instanceMethod yX4_isFile ∈ h_tb := h_at 573 (by decide +kernel) (by decide +kernel)
theorem wc_X4_isFile : Cond.code yX4_isFile cX4_isFile 2 (some .boolean) ∈ h_tb := h_at 574 (by decide +kernel) (by decide +kernel)
theorem wi_X4_cut : Cond.instanceMethod yX4_cut ∈ h_tb := h_at 576 (by decide +kernel) (by decide +kernel)
theorem wl_X4_cut : Cond.selects RX4 yX4_cut yX4_cut ∈ h_tb := h_at 577 (by decide +kernel) (by decide +kernel)
theorem wc_X4_cut : Cond.code yX4_cut cX4_cut 5 (some .int) ∈ h_tb := h_at 578 (by decide +kernel) (by decide +kernel)
theorem wi_X4_lose : Cond.instanceMethod yX4_lose ∈ h_tb := h_at 580 (by decide +kernel) (by decide +kernel)
theorem wl_X4_lose : Cond.selects RX4 yX4_lose yX4_lose ∈ h_tb := h_at 581 (by decide +kernel) (by decide +kernel)
theorem wc_X4_lose : Cond.code yX4_lose cX4_lose 3 (some .int) ∈ h_tb := h_at 582 (by decide +kernel) (by decide +kernel)
theorem wi_X4_poll : Cond.instanceMethod yX4_poll ∈ h_tb := h_at 584 (by decide +kernel) (by decide +kernel)
theorem wl_X4_poll : Cond.selects RX4 yX4_poll yX4_poll ∈ h_tb := h_at 585 (by decide +kernel) (by decide +kernel)
theorem wc_X4_poll : Cond.code yX4_poll cX4_poll 11 (some .int) ∈ h_tb := h_at 586 (by decide +kernel) (by decide +kernel)
theorem wi_X4_counts : Cond.instanceMethod yX4_counts ∈ h_tb := h_at 589 (by decide +kernel) (by decide +kernel)
theorem wc_X4_counts : Cond.code yX4_counts cX4_counts 3 (some .boolean) ∈ h_tb := h_at 590 (by decide +kernel) (by decide +kernel)
theorem wj_X4_99 : Cond.constantLong RX4 99 (6364136223846793005) ∈ h_tb := h_at 591 (by decide +kernel) (by decide +kernel)
theorem wj_X4_101 : Cond.constantLong RX4 101 (1442695040888963407) ∈ h_tb := h_at 592 (by decide +kernel) (by decide +kernel)
theorem wi_X4_digestOf : Cond.instanceMethod yX4_digestOf ∈ h_tb := h_at 595 (by decide +kernel) (by decide +kernel)
theorem wc_X4_digestOf : Cond.code yX4_digestOf cX4_digestOf 6 (some .int) ∈ h_tb := h_at 596 (by decide +kernel) (by decide +kernel)
theorem wi_X4_polled : Cond.instanceMethod yX4_polled ∈ h_tb := h_at 598 (by decide +kernel) (by decide +kernel)
theorem wl_X4_polled : Cond.selects RX4 yX4_polled yX4_polled ∈ h_tb := h_at 599 (by decide +kernel) (by decide +kernel)
theorem wc_X4_polled : Cond.code yX4_polled cX4_polled 3 (some .int) ∈ h_tb := h_at 600 (by decide +kernel) (by decide +kernel)
theorem wi_X4_majority : Cond.instanceMethod yX4_majority ∈ h_tb := h_at 602 (by decide +kernel) (by decide +kernel)
theorem wl_X4_majority : Cond.selects RX4 yX4_majority yX4_majority ∈ h_tb := h_at 603 (by decide +kernel) (by decide +kernel)
theorem wc_X4_majority : Cond.code yX4_majority cX4_majority 3 (some .int) ∈ h_tb := h_at 604 (by decide +kernel) (by decide +kernel)
theorem wi_X4_leader : Cond.instanceMethod yX4_leader ∈ h_tb := h_at 607 (by decide +kernel) (by decide +kernel)
theorem wc_X4_leader : Cond.code yX4_leader cX4_leader 6 (some .int) ∈ h_tb := h_at 608 (by decide +kernel) (by decide +kernel)
theorem wi_X4_digest : Cond.instanceMethod yX4_digest ∈ h_tb := h_at 610 (by decide +kernel) (by decide +kernel)
theorem wl_X4_digest : Cond.selects RX4 yX4_digest yX4_digest ∈ h_tb := h_at 611 (by decide +kernel) (by decide +kernel)
theorem wc_X4_digest : Cond.code yX4_digest cX4_digest 1 (some .int) ∈ h_tb := h_at 612 (by decide +kernel) (by decide +kernel)
theorem wi_X4_mend : Cond.instanceMethod yX4_mend ∈ h_tb := h_at 614 (by decide +kernel) (by decide +kernel)
theorem wl_X4_mend : Cond.selects RX4 yX4_mend yX4_mend ∈ h_tb := h_at 615 (by decide +kernel) (by decide +kernel)
theorem wc_X4_mend : Cond.code yX4_mend cX4_mend 6 (some .int) ∈ h_tb := h_at 616 (by decide +kernel) (by decide +kernel)
theorem wi_X4_copy : Cond.instanceMethod yX4_copy ∈ h_tb := h_at 619 (by decide +kernel) (by decide +kernel)
theorem wc_X4_copy : Cond.code yX4_copy cX4_copy 5 none ∈ h_tb := h_at 620 (by decide +kernel) (by decide +kernel)
theorem wi_X4_stale : Cond.instanceMethod yX4_stale ∈ h_tb := h_at 622 (by decide +kernel) (by decide +kernel)
theorem wl_X4_stale : Cond.selects RX4 yX4_stale yX4_stale ∈ h_tb := h_at 623 (by decide +kernel) (by decide +kernel)
theorem wc_X4_stale : Cond.code yX4_stale cX4_stale 4 (some .int) ∈ h_tb := h_at 624 (by decide +kernel) (by decide +kernel)
theorem wi_X4_fill : Cond.instanceMethod yX4_fill ∈ h_tb := h_at 626 (by decide +kernel) (by decide +kernel)
theorem wl_X4_fill : Cond.selects RX4 yX4_fill yX4_fill ∈ h_tb := h_at 627 (by decide +kernel) (by decide +kernel)
theorem wc_X4_fill : Cond.code yX4_fill cX4_fill 5 (some .int) ∈ h_tb := h_at 628 (by decide +kernel) (by decide +kernel)
theorem wi_X4_copiesOf : Cond.instanceMethod yX4_copiesOf ∈ h_tb := h_at 631 (by decide +kernel) (by decide +kernel)
theorem wc_X4_copiesOf : Cond.code yX4_copiesOf cX4_copiesOf 5 (some .int) ∈ h_tb := h_at 632 (by decide +kernel) (by decide +kernel)
theorem wi_X4_move : Cond.instanceMethod yX4_move ∈ h_tb := h_at 634 (by decide +kernel) (by decide +kernel)
theorem wl_X4_move : Cond.selects RX4 yX4_move yX4_move ∈ h_tb := h_at 635 (by decide +kernel) (by decide +kernel)
theorem wc_X4_move : Cond.code yX4_move cX4_move 4 (some .int) ∈ h_tb := h_at 636 (by decide +kernel) (by decide +kernel)
theorem wi_X4_rate : Cond.instanceMethod yX4_rate ∈ h_tb := h_at 638 (by decide +kernel) (by decide +kernel)
theorem wl_X4_rate : Cond.selects RX4 yX4_rate yX4_rate ∈ h_tb := h_at 639 (by decide +kernel) (by decide +kernel)
theorem wc_X4_rate : Cond.code yX4_rate cX4_rate 4 (some .int) ∈ h_tb := h_at 640 (by decide +kernel) (by decide +kernel)
theorem wi_X4_odds : Cond.instanceMethod yX4_odds ∈ h_tb := h_at 642 (by decide +kernel) (by decide +kernel)
theorem wl_X4_odds : Cond.selects RX4 yX4_odds yX4_odds ∈ h_tb := h_at 643 (by decide +kernel) (by decide +kernel)
theorem wc_X4_odds : Cond.code yX4_odds cX4_odds 14 (some .long) ∈ h_tb := h_at 644 (by decide +kernel) (by decide +kernel)
theorem wj_X4_117 : Cond.constantLong RX4 117 (-1) ∈ h_tb := h_at 645 (by decide +kernel) (by decide +kernel)
theorem wi_X4_at : Cond.instanceMethod yX4_at ∈ h_tb := h_at 647 (by decide +kernel) (by decide +kernel)
theorem wl_X4_at : Cond.selects RX4 yX4_at yX4_at ∈ h_tb := h_at 648 (by decide +kernel) (by decide +kernel)
theorem wc_X4_at : Cond.code yX4_at cX4_at 4 (some .int) ∈ h_tb := h_at 649 (by decide +kernel) (by decide +kernel)
theorem wi_X4_about : Cond.instanceMethod yX4_about ∈ h_tb := h_at 651 (by decide +kernel) (by decide +kernel)
theorem wl_X4_about : Cond.selects RX4 yX4_about yX4_about ∈ h_tb := h_at 652 (by decide +kernel) (by decide +kernel)
theorem wc_X4_about : Cond.code yX4_about cX4_about 3 (some .int) ∈ h_tb := h_at 653 (by decide +kernel) (by decide +kernel)
theorem wi_X4_load : Cond.instanceMethod yX4_load ∈ h_tb := h_at 655 (by decide +kernel) (by decide +kernel)
theorem wl_X4_load : Cond.selects RX4 yX4_load yX4_load ∈ h_tb := h_at 656 (by decide +kernel) (by decide +kernel)
theorem wc_X4_load : Cond.code yX4_load cX4_load 2 (some .int) ∈ h_tb := h_at 657 (by decide +kernel) (by decide +kernel)
theorem wj_L_70 : Cond.constantLong RL 70 (4294967295) ∈ h_tb := h_at 658 (by decide +kernel) (by decide +kernel)
theorem wr_long : Cond.arrayClass .long ∈ h_tb := h_at 659 (by decide +kernel) (by decide +kernel)
theorem wl_X3_isTaken : Cond.selects RX3 yX3_isTaken yX3_isTaken ∈ h_tb := h_at 0 (by decide +kernel) (by decide +kernel)
theorem wl_X3_answeringStores : Cond.selects RX3 yX3_answeringStores yX3_answeringStores ∈ h_tb := h_at 1 (by decide +kernel) (by decide +kernel)
theorem wl_X3_isAnswering : Cond.selects RX3 yX3_isAnswering yX3_isAnswering ∈ h_tb := h_at 2 (by decide +kernel) (by decide +kernel)
theorem wl_X3_storeOf : Cond.selects RX3 yX3_storeOf yX3_storeOf ∈ h_tb := h_at 3 (by decide +kernel) (by decide +kernel)
theorem wl_X3_placeCollected : Cond.selects RX3 yX3_placeCollected yX3_placeCollected ∈ h_tb := h_at 4 (by decide +kernel) (by decide +kernel)
theorem wl_X3_copiesOn : Cond.selects RX3 yX3_copiesOn yX3_copiesOn ∈ h_tb := h_at 5 (by decide +kernel) (by decide +kernel)
theorem wl_X3_copyOf : Cond.selects RX3 yX3_copyOf yX3_copyOf ∈ h_tb := h_at 6 (by decide +kernel) (by decide +kernel)
theorem wl_X3_itemOf : Cond.selects RX3 yX3_itemOf yX3_itemOf ∈ h_tb := h_at 7 (by decide +kernel) (by decide +kernel)
theorem wl_X3_listCounting : Cond.selects RX3 yX3_listCounting yX3_listCounting ∈ h_tb := h_at 8 (by decide +kernel) (by decide +kernel)
theorem wl_X3_countingRow : Cond.selects RX3 yX3_countingRow yX3_countingRow ∈ h_tb := h_at 9 (by decide +kernel) (by decide +kernel)
theorem wl_X3_mix : Cond.selects RX3 yX3_mix yX3_mix ∈ h_tb := h_at 10 (by decide +kernel) (by decide +kernel)
theorem wl_X3_ask : Cond.selects RX3 yX3_ask yX3_ask ∈ h_tb := h_at 11 (by decide +kernel) (by decide +kernel)
theorem wl_X3_majorityRow : Cond.selects RX3 yX3_majorityRow yX3_majorityRow ∈ h_tb := h_at 12 (by decide +kernel) (by decide +kernel)
theorem wl_X3_countingCopies : Cond.selects RX3 yX3_countingCopies yX3_countingCopies ∈ h_tb := h_at 13 (by decide +kernel) (by decide +kernel)
theorem wl_X3_countingWith : Cond.selects RX3 yX3_countingWith yX3_countingWith ∈ h_tb := h_at 14 (by decide +kernel) (by decide +kernel)
theorem wl_X3_mendItem : Cond.selects RX3 yX3_mendItem yX3_mendItem ∈ h_tb := h_at 15 (by decide +kernel) (by decide +kernel)
theorem wl_X3_fillItem : Cond.selects RX3 yX3_fillItem yX3_fillItem ∈ h_tb := h_at 16 (by decide +kernel) (by decide +kernel)
theorem wl_X3_bearsOdds : Cond.selects RX3 yX3_bearsOdds yX3_bearsOdds ∈ h_tb := h_at 18 (by decide +kernel) (by decide +kernel)
theorem wl_X4_ahead : Cond.selects RX4 yX4_ahead yX4_ahead ∈ h_tb := h_at 19 (by decide +kernel) (by decide +kernel)
theorem wl_X4_loadOf : Cond.selects RX4 yX4_loadOf yX4_loadOf ∈ h_tb := h_at 20 (by decide +kernel) (by decide +kernel)
theorem wl_X4_isStore : Cond.selects RX4 yX4_isStore yX4_isStore ∈ h_tb := h_at 21 (by decide +kernel) (by decide +kernel)
theorem wl_X4_has : Cond.selects RX4 yX4_has yX4_has ∈ h_tb := h_at 22 (by decide +kernel) (by decide +kernel)
theorem wl_X4_isFile : Cond.selects RX4 yX4_isFile yX4_isFile ∈ h_tb := h_at 23 (by decide +kernel) (by decide +kernel)
theorem wl_X4_counts : Cond.selects RX4 yX4_counts yX4_counts ∈ h_tb := h_at 24 (by decide +kernel) (by decide +kernel)
theorem wl_X4_digestOf : Cond.selects RX4 yX4_digestOf yX4_digestOf ∈ h_tb := h_at 25 (by decide +kernel) (by decide +kernel)
theorem wl_X4_leader : Cond.selects RX4 yX4_leader yX4_leader ∈ h_tb := h_at 26 (by decide +kernel) (by decide +kernel)
theorem wl_X4_copy : Cond.selects RX4 yX4_copy yX4_copy ∈ h_tb := h_at 27 (by decide +kernel) (by decide +kernel)
theorem wl_X4_copiesOf : Cond.selects RX4 yX4_copiesOf yX4_copiesOf ∈ h_tb := h_at 28 (by decide +kernel) (by decide +kernel)
theorem ml_L_33 : Cond.methodLink RL 33 yX3_init ∈ h_tb := h_at 44 (by decide +kernel) (by decide +kernel)
theorem cs_L_33 : h_sI RL 33 yX3_init cX3_init 2 1 := ⟨h_ws_good wc_X3_init, wn_X3, ml_L_33, wi_X3_init, rfl, by decide +kernel⟩
-- no name: CopyPolls 1 ('java/lang/Object', '<init>', '()V')
theorem cs_X3_30 : h_sJ RX3 30 yX1_init cX1_init 1 0 := ⟨h_ws_good wc_X1_init, wn_X1, by decide +kernel, wi_X1_init, rfl, by decide +kernel⟩
-- no name: CopyPolls$Row 3 ('java/lang/Object', '<init>', '()V')
-- no name: CopyPolls 54 ('java/lang/Math', 'min', '(II)I')
-- no name: CopyPolls 60 ('java/lang/Math', 'max', '(II)I')
theorem ml_L_39 : Cond.methodLink RL 39 yX3_store ∈ h_tb := h_at 113 (by decide +kernel) (by decide +kernel)
theorem cs_L_39 : h_sV RL RX3 39 yX3_store cX3_store 2 (some .int) 1 := ⟨h_good5 wc_X3_store (fun w hw => by
  rcases List.mem_cons.mp hw with rfl | hw
  · exact ml_L_39
  rcases List.mem_cons.mp hw with rfl | hw
  · exact wi_X3_store
  rcases List.mem_cons.mp hw with rfl | hw
  · exact wl_X3_store
  rcases List.mem_cons.mp hw with rfl | hw
  · exact wn_X3
  · cases hw), by decide +kernel⟩
theorem ml_X3_66 : Cond.methodLink RX3 66 yX3_isTaken ∈ h_tb := h_at 117 (by decide +kernel) (by decide +kernel)
theorem cs_X3_66 : h_sV RX3 RX3 66 yX3_isTaken cX3_isTaken 4 (some .boolean) 1 := ⟨h_good5 wc_X3_isTaken (fun w hw => by
  rcases List.mem_cons.mp hw with rfl | hw
  · exact ml_X3_66
  rcases List.mem_cons.mp hw with rfl | hw
  · exact wi_X3_isTaken
  rcases List.mem_cons.mp hw with rfl | hw
  · exact wl_X3_isTaken
  rcases List.mem_cons.mp hw with rfl | hw
  · exact wn_X3
  · cases hw), by decide +kernel⟩
theorem ml_X3_70 : Cond.methodLink RX3 70 yX2_init ∈ h_tb := h_at 122 (by decide +kernel) (by decide +kernel)
theorem cs_X3_70 : h_sI RX3 70 yX2_init cX2_init 2 1 := ⟨h_ws_good wc_X2_init, wn_X2, ml_X3_70, wi_X2_init, rfl, by decide +kernel⟩
-- no name: CopyPolls$Store 1 ('java/lang/Object', '<init>', '()V')
theorem ml_L_44 : Cond.methodLink RL 44 yX3_octet ∈ h_tb := h_at 143 (by decide +kernel) (by decide +kernel)
theorem cs_L_44 : h_sV RL RX3 44 yX3_octet cX3_octet 2 none 1 := ⟨h_good5 wc_X3_octet (fun w hw => by
  rcases List.mem_cons.mp hw with rfl | hw
  · exact ml_L_44
  rcases List.mem_cons.mp hw with rfl | hw
  · exact wi_X3_octet
  rcases List.mem_cons.mp hw with rfl | hw
  · exact wl_X3_octet
  rcases List.mem_cons.mp hw with rfl | hw
  · exact wn_X3
  · cases hw), by decide +kernel⟩
theorem ml_X3_73 : Cond.methodLink RX3 73 yX1_append ∈ h_tb := h_at 147 (by decide +kernel) (by decide +kernel)
theorem cs_X3_73 : h_sV RX3 RX1 73 yX1_append cX1_append 2 none 1 := ⟨h_good5 wc_X1_append (fun w hw => by
  rcases List.mem_cons.mp hw with rfl | hw
  · exact ml_X3_73
  rcases List.mem_cons.mp hw with rfl | hw
  · exact wi_X1_append
  rcases List.mem_cons.mp hw with rfl | hw
  · exact wl_X1_append
  rcases List.mem_cons.mp hw with rfl | hw
  · exact wn_X1
  · cases hw), by decide +kernel⟩
theorem ml_L_48 : Cond.methodLink RL 48 yX3_put ∈ h_tb := h_at 151 (by decide +kernel) (by decide +kernel)
theorem cs_L_48 : h_sV RL RX3 48 yX3_put cX3_put 4 (some .int) 1 := ⟨h_good5 wc_X3_put (fun w hw => by
  rcases List.mem_cons.mp hw with rfl | hw
  · exact ml_L_48
  rcases List.mem_cons.mp hw with rfl | hw
  · exact wi_X3_put
  rcases List.mem_cons.mp hw with rfl | hw
  · exact wl_X3_put
  rcases List.mem_cons.mp hw with rfl | hw
  · exact wn_X3
  · cases hw), by decide +kernel⟩
theorem ml_X3_76 : Cond.methodLink RX3 76 yX3_isPackage ∈ h_tb := h_at 155 (by decide +kernel) (by decide +kernel)
theorem cs_X3_76 : h_sS RX3 76 yX3_isPackage cX3_isPackage 1 (some .boolean) 1 := ⟨h_good5 wc_X3_isPackage (fun w hw => by
  rcases List.mem_cons.mp hw with rfl | hw
  · exact ml_X3_76
  rcases List.mem_cons.mp hw with rfl | hw
  · exact wt_X3_isPackage
  rcases List.mem_cons.mp hw with rfl | hw
  · exact wn_X3
  · cases hw), by decide +kernel⟩
theorem ml_X3_82 : Cond.methodLink RX3 82 yX3_answeringStores ∈ h_tb := h_at 158 (by decide +kernel) (by decide +kernel)
theorem cs_X3_82 : h_sV RX3 RX3 82 yX3_answeringStores cX3_answeringStores 3 (some .int) 0 := ⟨h_good5 wc_X3_answeringStores (fun w hw => by
  rcases List.mem_cons.mp hw with rfl | hw
  · exact ml_X3_82
  rcases List.mem_cons.mp hw with rfl | hw
  · exact wi_X3_answeringStores
  rcases List.mem_cons.mp hw with rfl | hw
  · exact wl_X3_answeringStores
  rcases List.mem_cons.mp hw with rfl | hw
  · exact wn_X3
  · cases hw), by decide +kernel⟩
theorem ml_X3_153 : Cond.methodLink RX3 153 yX3_isAnswering ∈ h_tb := h_at 162 (by decide +kernel) (by decide +kernel)
theorem cs_X3_153 : h_sV RX3 RX3 153 yX3_isAnswering cX3_isAnswering 3 (some .boolean) 1 := ⟨h_good5 wc_X3_isAnswering (fun w hw => by
  rcases List.mem_cons.mp hw with rfl | hw
  · exact ml_X3_153
  rcases List.mem_cons.mp hw with rfl | hw
  · exact wi_X3_isAnswering
  rcases List.mem_cons.mp hw with rfl | hw
  · exact wl_X3_isAnswering
  rcases List.mem_cons.mp hw with rfl | hw
  · exact wn_X3
  · cases hw), by decide +kernel⟩
theorem ml_X3_91 : Cond.methodLink RX3 91 yX3_storeOf ∈ h_tb := h_at 166 (by decide +kernel) (by decide +kernel)
theorem cs_X3_91 : h_sV RX3 RX3 91 yX3_storeOf cX3_storeOf 2 (some (.object "CopyPolls$Store")) 1 := ⟨h_good5 wc_X3_storeOf (fun w hw => by
  rcases List.mem_cons.mp hw with rfl | hw
  · exact ml_X3_91
  rcases List.mem_cons.mp hw with rfl | hw
  · exact wi_X3_storeOf
  rcases List.mem_cons.mp hw with rfl | hw
  · exact wl_X3_storeOf
  rcases List.mem_cons.mp hw with rfl | hw
  · exact wn_X3
  · cases hw), by decide +kernel⟩
theorem ml_X3_86 : Cond.methodLink RX3 86 yX0_init ∈ h_tb := h_at 171 (by decide +kernel) (by decide +kernel)
theorem cs_X3_86 : h_sI RX3 86 yX0_init cX0_init 2 1 := ⟨h_ws_good wc_X0_init, wn_X0, ml_X3_86, wi_X0_init, rfl, by decide +kernel⟩
-- no name: CopyPolls$Item 3 ('java/lang/Object', '<init>', '()V')
theorem ml_X3_87 : Cond.methodLink RX3 87 yX3_placeCollected ∈ h_tb := h_at 190 (by decide +kernel) (by decide +kernel)
theorem cs_X3_87 : h_sV RX3 RX3 87 yX3_placeCollected cX3_placeCollected 6 none 1 := ⟨h_good5 wc_X3_placeCollected (fun w hw => by
  rcases List.mem_cons.mp hw with rfl | hw
  · exact ml_X3_87
  rcases List.mem_cons.mp hw with rfl | hw
  · exact wi_X3_placeCollected
  rcases List.mem_cons.mp hw with rfl | hw
  · exact wl_X3_placeCollected
  rcases List.mem_cons.mp hw with rfl | hw
  · exact wn_X3
  · cases hw), by decide +kernel⟩
theorem ml_X3_191 : Cond.methodLink RX3 191 yX3_copiesOn ∈ h_tb := h_at 194 (by decide +kernel) (by decide +kernel)
theorem cs_X3_191 : h_sV RX3 RX3 191 yX3_copiesOn cX3_copiesOn 4 (some .int) 1 := ⟨h_good5 wc_X3_copiesOn (fun w hw => by
  rcases List.mem_cons.mp hw with rfl | hw
  · exact ml_X3_191
  rcases List.mem_cons.mp hw with rfl | hw
  · exact wi_X3_copiesOn
  rcases List.mem_cons.mp hw with rfl | hw
  · exact wl_X3_copiesOn
  rcases List.mem_cons.mp hw with rfl | hw
  · exact wn_X3
  · cases hw), by decide +kernel⟩
theorem ml_X3_99 : Cond.methodLink RX3 99 yX3_copyOf ∈ h_tb := h_at 198 (by decide +kernel) (by decide +kernel)
theorem cs_X3_99 : h_sV RX3 RX3 99 yX3_copyOf cX3_copyOf 4 (some (.object "CopyPolls$Row")) 2 := ⟨h_good5 wc_X3_copyOf (fun w hw => by
  rcases List.mem_cons.mp hw with rfl | hw
  · exact ml_X3_99
  rcases List.mem_cons.mp hw with rfl | hw
  · exact wi_X3_copyOf
  rcases List.mem_cons.mp hw with rfl | hw
  · exact wl_X3_copyOf
  rcases List.mem_cons.mp hw with rfl | hw
  · exact wn_X3
  · cases hw), by decide +kernel⟩
theorem ml_X3_109 : Cond.methodLink RX3 109 yX3_itemOf ∈ h_tb := h_at 202 (by decide +kernel) (by decide +kernel)
theorem cs_X3_109 : h_sV RX3 RX3 109 yX3_itemOf cX3_itemOf 2 (some (.object "CopyPolls$Item")) 1 := ⟨h_good5 wc_X3_itemOf (fun w hw => by
  rcases List.mem_cons.mp hw with rfl | hw
  · exact ml_X3_109
  rcases List.mem_cons.mp hw with rfl | hw
  · exact wi_X3_itemOf
  rcases List.mem_cons.mp hw with rfl | hw
  · exact wl_X3_itemOf
  rcases List.mem_cons.mp hw with rfl | hw
  · exact wn_X3
  · cases hw), by decide +kernel⟩
theorem ml_X3_198 : Cond.methodLink RX3 198 yX1_twin ∈ h_tb := h_at 206 (by decide +kernel) (by decide +kernel)
theorem cs_X3_198 : h_sV RX3 RX1 198 yX1_twin cX1_twin 2 (some (.object "CopyPolls$Row")) 0 := ⟨h_good5 wc_X1_twin (fun w hw => by
  rcases List.mem_cons.mp hw with rfl | hw
  · exact ml_X3_198
  rcases List.mem_cons.mp hw with rfl | hw
  · exact wi_X1_twin
  rcases List.mem_cons.mp hw with rfl | hw
  · exact wl_X1_twin
  rcases List.mem_cons.mp hw with rfl | hw
  · exact wn_X1
  · cases hw), by decide +kernel⟩
theorem ml_X1_19 : Cond.methodLink RX1 19 yX1_init ∈ h_tb := h_at 211 (by decide +kernel) (by decide +kernel)
theorem cs_X1_19 : h_sI RX1 19 yX1_init cX1_init 1 0 := ⟨h_ws_good wc_X1_init, wn_X1, ml_X1_19, wi_X1_init, rfl, by decide +kernel⟩
theorem ml_X1_20 : Cond.methodLink RX1 20 yX1_become ∈ h_tb := h_at 212 (by decide +kernel) (by decide +kernel)
theorem cs_X1_20 : h_sV RX1 RX1 20 yX1_become cX1_become 3 none 1 := ⟨h_good5 wc_X1_become (fun w hw => by
  rcases List.mem_cons.mp hw with rfl | hw
  · exact ml_X1_20
  rcases List.mem_cons.mp hw with rfl | hw
  · exact wi_X1_become
  rcases List.mem_cons.mp hw with rfl | hw
  · exact wl_X1_become
  rcases List.mem_cons.mp hw with rfl | hw
  · exact wn_X1
  · cases hw), by decide +kernel⟩
theorem ml_L_52 : Cond.methodLink RL 52 yX3_answers ∈ h_tb := h_at 216 (by decide +kernel) (by decide +kernel)
theorem cs_L_52 : h_sV RL RX3 52 yX3_answers cX3_answers 4 (some .int) 2 := ⟨h_good5 wc_X3_answers (fun w hw => by
  rcases List.mem_cons.mp hw with rfl | hw
  · exact ml_L_52
  rcases List.mem_cons.mp hw with rfl | hw
  · exact wi_X3_answers
  rcases List.mem_cons.mp hw with rfl | hw
  · exact wl_X3_answers
  rcases List.mem_cons.mp hw with rfl | hw
  · exact wn_X3
  · cases hw), by decide +kernel⟩
theorem ml_L_57 : Cond.methodLink RL 57 yX3_alter ∈ h_tb := h_at 220 (by decide +kernel) (by decide +kernel)
theorem cs_L_57 : h_sV RL RX3 57 yX3_alter cX3_alter 7 (some .int) 4 := ⟨h_good5 wc_X3_alter (fun w hw => by
  rcases List.mem_cons.mp hw with rfl | hw
  · exact ml_L_57
  rcases List.mem_cons.mp hw with rfl | hw
  · exact wi_X3_alter
  rcases List.mem_cons.mp hw with rfl | hw
  · exact wl_X3_alter
  rcases List.mem_cons.mp hw with rfl | hw
  · exact wn_X3
  · cases hw), by decide +kernel⟩
theorem ml_X3_103 : Cond.methodLink RX3 103 yX1_has ∈ h_tb := h_at 224 (by decide +kernel) (by decide +kernel)
theorem cs_X3_103 : h_sV RX3 RX1 103 yX1_has cX1_has 2 (some .boolean) 1 := ⟨h_good5 wc_X1_has (fun w hw => by
  rcases List.mem_cons.mp hw with rfl | hw
  · exact ml_X3_103
  rcases List.mem_cons.mp hw with rfl | hw
  · exact wi_X1_has
  rcases List.mem_cons.mp hw with rfl | hw
  · exact wl_X1_has
  rcases List.mem_cons.mp hw with rfl | hw
  · exact wn_X1
  · cases hw), by decide +kernel⟩
theorem ml_L_62 : Cond.methodLink RL 62 yX3_cut ∈ h_tb := h_at 228 (by decide +kernel) (by decide +kernel)
theorem cs_L_62 : h_sV RL RX3 62 yX3_cut cX3_cut 6 (some .int) 3 := ⟨h_good5 wc_X3_cut (fun w hw => by
  rcases List.mem_cons.mp hw with rfl | hw
  · exact ml_L_62
  rcases List.mem_cons.mp hw with rfl | hw
  · exact wi_X3_cut
  rcases List.mem_cons.mp hw with rfl | hw
  · exact wl_X3_cut
  rcases List.mem_cons.mp hw with rfl | hw
  · exact wn_X3
  · cases hw), by decide +kernel⟩
theorem ml_L_66 : Cond.methodLink RL 66 yX3_lose ∈ h_tb := h_at 232 (by decide +kernel) (by decide +kernel)
theorem cs_L_66 : h_sV RL RX3 66 yX3_lose cX3_lose 4 (some .int) 2 := ⟨h_good5 wc_X3_lose (fun w hw => by
  rcases List.mem_cons.mp hw with rfl | hw
  · exact ml_L_66
  rcases List.mem_cons.mp hw with rfl | hw
  · exact wi_X3_lose
  rcases List.mem_cons.mp hw with rfl | hw
  · exact wl_X3_lose
  rcases List.mem_cons.mp hw with rfl | hw
  · exact wn_X3
  · cases hw), by decide +kernel⟩
theorem ml_L_72 : Cond.methodLink RL 72 yX3_poll ∈ h_tb := h_at 236 (by decide +kernel) (by decide +kernel)
theorem cs_L_72 : h_sV RL RX3 72 yX3_poll cX3_poll 9 (some .int) 2 := ⟨h_good5 wc_X3_poll (fun w hw => by
  rcases List.mem_cons.mp hw with rfl | hw
  · exact ml_L_72
  rcases List.mem_cons.mp hw with rfl | hw
  · exact wi_X3_poll
  rcases List.mem_cons.mp hw with rfl | hw
  · exact wl_X3_poll
  rcases List.mem_cons.mp hw with rfl | hw
  · exact wn_X3
  · cases hw), by decide +kernel⟩
theorem ml_X3_120 : Cond.methodLink RX3 120 yX3_listCounting ∈ h_tb := h_at 240 (by decide +kernel) (by decide +kernel)
theorem cs_X3_120 : h_sV RX3 RX3 120 yX3_listCounting cX3_listCounting 4 (some .int) 1 := ⟨h_good5 wc_X3_listCounting (fun w hw => by
  rcases List.mem_cons.mp hw with rfl | hw
  · exact ml_X3_120
  rcases List.mem_cons.mp hw with rfl | hw
  · exact wi_X3_listCounting
  rcases List.mem_cons.mp hw with rfl | hw
  · exact wl_X3_listCounting
  rcases List.mem_cons.mp hw with rfl | hw
  · exact wn_X3
  · cases hw), by decide +kernel⟩
theorem ml_X3_202 : Cond.methodLink RX3 202 yX3_countingRow ∈ h_tb := h_at 244 (by decide +kernel) (by decide +kernel)
theorem cs_X3_202 : h_sV RX3 RX3 202 yX3_countingRow cX3_countingRow 3 (some (.object "CopyPolls$Row")) 2 := ⟨h_good5 wc_X3_countingRow (fun w hw => by
  rcases List.mem_cons.mp hw with rfl | hw
  · exact ml_X3_202
  rcases List.mem_cons.mp hw with rfl | hw
  · exact wi_X3_countingRow
  rcases List.mem_cons.mp hw with rfl | hw
  · exact wl_X3_countingRow
  rcases List.mem_cons.mp hw with rfl | hw
  · exact wn_X3
  · cases hw), by decide +kernel⟩
theorem ml_X3_124 : Cond.methodLink RX3 124 yX3_mix ∈ h_tb := h_at 248 (by decide +kernel) (by decide +kernel)
theorem cs_X3_124 : h_sV RX3 RX3 124 yX3_mix cX3_mix 9 (some .long) 2 := ⟨h_good5 wc_X3_mix (fun w hw => by
  rcases List.mem_cons.mp hw with rfl | hw
  · exact ml_X3_124
  rcases List.mem_cons.mp hw with rfl | hw
  · exact wi_X3_mix
  rcases List.mem_cons.mp hw with rfl | hw
  · exact wl_X3_mix
  rcases List.mem_cons.mp hw with rfl | hw
  · exact wn_X3
  · cases hw), by decide +kernel⟩
theorem ml_X3_128 : Cond.methodLink RX3 128 yX3_ask ∈ h_tb := h_at 254 (by decide +kernel) (by decide +kernel)
theorem cs_X3_128 : h_sV RX3 RX3 128 yX3_ask cX3_ask 6 none 3 := ⟨h_good5 wc_X3_ask (fun w hw => by
  rcases List.mem_cons.mp hw with rfl | hw
  · exact ml_X3_128
  rcases List.mem_cons.mp hw with rfl | hw
  · exact wi_X3_ask
  rcases List.mem_cons.mp hw with rfl | hw
  · exact wl_X3_ask
  rcases List.mem_cons.mp hw with rfl | hw
  · exact wn_X3
  · cases hw), by decide +kernel⟩
theorem ml_X3_143 : Cond.methodLink RX3 143 yX1_sum ∈ h_tb := h_at 258 (by decide +kernel) (by decide +kernel)
theorem cs_X3_143 : h_sV RX3 RX1 143 yX1_sum cX1_sum 3 (some .int) 0 := ⟨h_good5 wc_X1_sum (fun w hw => by
  rcases List.mem_cons.mp hw with rfl | hw
  · exact ml_X3_143
  rcases List.mem_cons.mp hw with rfl | hw
  · exact wi_X1_sum
  rcases List.mem_cons.mp hw with rfl | hw
  · exact wl_X1_sum
  rcases List.mem_cons.mp hw with rfl | hw
  · exact wn_X1
  · cases hw), by decide +kernel⟩
theorem ml_L_85 : Cond.methodLink RL 85 yX3_majority ∈ h_tb := h_at 262 (by decide +kernel) (by decide +kernel)
theorem cs_L_85 : h_sV RL RX3 85 yX3_majority cX3_majority 4 (some .int) 1 := ⟨h_good5 wc_X3_majority (fun w hw => by
  rcases List.mem_cons.mp hw with rfl | hw
  · exact ml_L_85
  rcases List.mem_cons.mp hw with rfl | hw
  · exact wi_X3_majority
  rcases List.mem_cons.mp hw with rfl | hw
  · exact wl_X3_majority
  rcases List.mem_cons.mp hw with rfl | hw
  · exact wn_X3
  · cases hw), by decide +kernel⟩
theorem ml_X3_139 : Cond.methodLink RX3 139 yX3_majorityRow ∈ h_tb := h_at 266 (by decide +kernel) (by decide +kernel)
theorem cs_X3_139 : h_sV RX3 RX3 139 yX3_majorityRow cX3_majorityRow 5 (some (.object "CopyPolls$Row")) 1 := ⟨h_good5 wc_X3_majorityRow (fun w hw => by
  rcases List.mem_cons.mp hw with rfl | hw
  · exact ml_X3_139
  rcases List.mem_cons.mp hw with rfl | hw
  · exact wi_X3_majorityRow
  rcases List.mem_cons.mp hw with rfl | hw
  · exact wl_X3_majorityRow
  rcases List.mem_cons.mp hw with rfl | hw
  · exact wn_X3
  · cases hw), by decide +kernel⟩
theorem ml_X3_185 : Cond.methodLink RX3 185 yX3_countingCopies ∈ h_tb := h_at 270 (by decide +kernel) (by decide +kernel)
theorem cs_X3_185 : h_sV RX3 RX3 185 yX3_countingCopies cX3_countingCopies 4 (some .int) 1 := ⟨h_good5 wc_X3_countingCopies (fun w hw => by
  rcases List.mem_cons.mp hw with rfl | hw
  · exact ml_X3_185
  rcases List.mem_cons.mp hw with rfl | hw
  · exact wi_X3_countingCopies
  rcases List.mem_cons.mp hw with rfl | hw
  · exact wl_X3_countingCopies
  rcases List.mem_cons.mp hw with rfl | hw
  · exact wn_X3
  · cases hw), by decide +kernel⟩
theorem ml_X3_210 : Cond.methodLink RX3 210 yX3_countingWith ∈ h_tb := h_at 274 (by decide +kernel) (by decide +kernel)
theorem cs_X3_210 : h_sV RX3 RX3 210 yX3_countingWith cX3_countingWith 6 (some .int) 2 := ⟨h_good5 wc_X3_countingWith (fun w hw => by
  rcases List.mem_cons.mp hw with rfl | hw
  · exact ml_X3_210
  rcases List.mem_cons.mp hw with rfl | hw
  · exact wi_X3_countingWith
  rcases List.mem_cons.mp hw with rfl | hw
  · exact wl_X3_countingWith
  rcases List.mem_cons.mp hw with rfl | hw
  · exact wn_X3
  · cases hw), by decide +kernel⟩
theorem ml_L_89 : Cond.methodLink RL 89 yX3_digest ∈ h_tb := h_at 278 (by decide +kernel) (by decide +kernel)
theorem cs_L_89 : h_sV RL RX3 89 yX3_digest cX3_digest 1 (some .int) 0 := ⟨h_good5 wc_X3_digest (fun w hw => by
  rcases List.mem_cons.mp hw with rfl | hw
  · exact ml_L_89
  rcases List.mem_cons.mp hw with rfl | hw
  · exact wi_X3_digest
  rcases List.mem_cons.mp hw with rfl | hw
  · exact wl_X3_digest
  rcases List.mem_cons.mp hw with rfl | hw
  · exact wn_X3
  · cases hw), by decide +kernel⟩
theorem ml_L_93 : Cond.methodLink RL 93 yX3_mend ∈ h_tb := h_at 282 (by decide +kernel) (by decide +kernel)
theorem cs_L_93 : h_sV RL RX3 93 yX3_mend cX3_mend 5 (some .int) 1 := ⟨h_good5 wc_X3_mend (fun w hw => by
  rcases List.mem_cons.mp hw with rfl | hw
  · exact ml_L_93
  rcases List.mem_cons.mp hw with rfl | hw
  · exact wi_X3_mend
  rcases List.mem_cons.mp hw with rfl | hw
  · exact wl_X3_mend
  rcases List.mem_cons.mp hw with rfl | hw
  · exact wn_X3
  · cases hw), by decide +kernel⟩
theorem ml_X3_146 : Cond.methodLink RX3 146 yX3_mendItem ∈ h_tb := h_at 286 (by decide +kernel) (by decide +kernel)
theorem cs_X3_146 : h_sV RX3 RX3 146 yX3_mendItem cX3_mendItem 7 (some .int) 1 := ⟨h_good5 wc_X3_mendItem (fun w hw => by
  rcases List.mem_cons.mp hw with rfl | hw
  · exact ml_X3_146
  rcases List.mem_cons.mp hw with rfl | hw
  · exact wi_X3_mendItem
  rcases List.mem_cons.mp hw with rfl | hw
  · exact wl_X3_mendItem
  rcases List.mem_cons.mp hw with rfl | hw
  · exact wn_X3
  · cases hw), by decide +kernel⟩
theorem ml_X3_214 : Cond.methodLink RX3 214 yX1_become ∈ h_tb := h_at 290 (by decide +kernel) (by decide +kernel)
theorem cs_X3_214 : h_sV RX3 RX1 214 yX1_become cX1_become 3 none 1 := ⟨h_good5 wc_X1_become (fun w hw => by
  rcases List.mem_cons.mp hw with rfl | hw
  · exact ml_X3_214
  rcases List.mem_cons.mp hw with rfl | hw
  · exact wi_X1_become
  rcases List.mem_cons.mp hw with rfl | hw
  · exact wl_X1_become
  rcases List.mem_cons.mp hw with rfl | hw
  · exact wn_X1
  · cases hw), by decide +kernel⟩
theorem ml_L_97 : Cond.methodLink RL 97 yX3_stale ∈ h_tb := h_at 291 (by decide +kernel) (by decide +kernel)
theorem cs_L_97 : h_sV RL RX3 97 yX3_stale cX3_stale 6 (some .int) 2 := ⟨h_good5 wc_X3_stale (fun w hw => by
  rcases List.mem_cons.mp hw with rfl | hw
  · exact ml_L_97
  rcases List.mem_cons.mp hw with rfl | hw
  · exact wi_X3_stale
  rcases List.mem_cons.mp hw with rfl | hw
  · exact wl_X3_stale
  rcases List.mem_cons.mp hw with rfl | hw
  · exact wn_X3
  · cases hw), by decide +kernel⟩
theorem ml_L_101 : Cond.methodLink RL 101 yX3_fill ∈ h_tb := h_at 295 (by decide +kernel) (by decide +kernel)
theorem cs_L_101 : h_sV RL RX3 101 yX3_fill cX3_fill 6 (some .int) 1 := ⟨h_good5 wc_X3_fill (fun w hw => by
  rcases List.mem_cons.mp hw with rfl | hw
  · exact ml_L_101
  rcases List.mem_cons.mp hw with rfl | hw
  · exact wi_X3_fill
  rcases List.mem_cons.mp hw with rfl | hw
  · exact wl_X3_fill
  rcases List.mem_cons.mp hw with rfl | hw
  · exact wn_X3
  · cases hw), by decide +kernel⟩
theorem ml_X3_149 : Cond.methodLink RX3 149 yX3_fillItem ∈ h_tb := h_at 299 (by decide +kernel) (by decide +kernel)
theorem cs_X3_149 : h_sV RX3 RX3 149 yX3_fillItem cX3_fillItem 4 (some .boolean) 2 := ⟨h_good5 wc_X3_fillItem (fun w hw => by
  rcases List.mem_cons.mp hw with rfl | hw
  · exact ml_X3_149
  rcases List.mem_cons.mp hw with rfl | hw
  · exact wi_X3_fillItem
  rcases List.mem_cons.mp hw with rfl | hw
  · exact wl_X3_fillItem
  rcases List.mem_cons.mp hw with rfl | hw
  · exact wn_X3
  · cases hw), by decide +kernel⟩
theorem ml_X3_182 : Cond.methodLink RX3 182 yX0_copyCount ∈ h_tb := h_at 303 (by decide +kernel) (by decide +kernel)
theorem cs_X3_182 : h_sV RX3 RX0 182 yX0_copyCount cX0_copyCount 6 (some .int) 0 := ⟨h_good5 wc_X0_copyCount (fun w hw => by
  rcases List.mem_cons.mp hw with rfl | hw
  · exact ml_X3_182
  rcases List.mem_cons.mp hw with rfl | hw
  · exact wi_X0_copyCount
  rcases List.mem_cons.mp hw with rfl | hw
  · exact wl_X0_copyCount
  rcases List.mem_cons.mp hw with rfl | hw
  · exact wn_X0
  · cases hw), by decide +kernel⟩
theorem ml_L_105 : Cond.methodLink RL 105 yX3_move ∈ h_tb := h_at 307 (by decide +kernel) (by decide +kernel)
theorem cs_L_105 : h_sV RL RX3 105 yX3_move cX3_move 6 (some .int) 3 := ⟨h_good5 wc_X3_move (fun w hw => by
  rcases List.mem_cons.mp hw with rfl | hw
  · exact ml_L_105
  rcases List.mem_cons.mp hw with rfl | hw
  · exact wi_X3_move
  rcases List.mem_cons.mp hw with rfl | hw
  · exact wl_X3_move
  rcases List.mem_cons.mp hw with rfl | hw
  · exact wn_X3
  · cases hw), by decide +kernel⟩
theorem ml_L_109 : Cond.methodLink RL 109 yX3_rate ∈ h_tb := h_at 311 (by decide +kernel) (by decide +kernel)
theorem cs_L_109 : h_sV RL RX3 109 yX3_rate cX3_rate 5 (some .int) 3 := ⟨h_good5 wc_X3_rate (fun w hw => by
  rcases List.mem_cons.mp hw with rfl | hw
  · exact ml_L_109
  rcases List.mem_cons.mp hw with rfl | hw
  · exact wi_X3_rate
  rcases List.mem_cons.mp hw with rfl | hw
  · exact wl_X3_rate
  rcases List.mem_cons.mp hw with rfl | hw
  · exact wn_X3
  · cases hw), by decide +kernel⟩
theorem ml_L_120 : Cond.methodLink RL 120 yX3_about ∈ h_tb := h_at 315 (by decide +kernel) (by decide +kernel)
theorem cs_L_120 : h_sV RL RX3 120 yX3_about cX3_about 4 (some .int) 2 := ⟨h_good5 wc_X3_about (fun w hw => by
  rcases List.mem_cons.mp hw with rfl | hw
  · exact ml_L_120
  rcases List.mem_cons.mp hw with rfl | hw
  · exact wi_X3_about
  rcases List.mem_cons.mp hw with rfl | hw
  · exact wl_X3_about
  rcases List.mem_cons.mp hw with rfl | hw
  · exact wn_X3
  · cases hw), by decide +kernel⟩
theorem ml_L_124 : Cond.methodLink RL 124 yX3_load ∈ h_tb := h_at 319 (by decide +kernel) (by decide +kernel)
theorem cs_L_124 : h_sV RL RX3 124 yX3_load cX3_load 2 (some .int) 1 := ⟨h_good5 wc_X3_load (fun w hw => by
  rcases List.mem_cons.mp hw with rfl | hw
  · exact ml_L_124
  rcases List.mem_cons.mp hw with rfl | hw
  · exact wi_X3_load
  rcases List.mem_cons.mp hw with rfl | hw
  · exact wl_X3_load
  rcases List.mem_cons.mp hw with rfl | hw
  · exact wn_X3
  · cases hw), by decide +kernel⟩
theorem ml_L_27 : Cond.methodLink RL 27 yL_cell ∈ h_tb := h_at 323 (by decide +kernel) (by decide +kernel)
theorem cs_L_27 : h_sS RL 27 yL_cell cL_cell 2 (some .int) 2 := ⟨h_good5 wc_L_cell (fun w hw => by
  rcases List.mem_cons.mp hw with rfl | hw
  · exact ml_L_27
  rcases List.mem_cons.mp hw with rfl | hw
  · exact wt_L_cell
  rcases List.mem_cons.mp hw with rfl | hw
  · exact wn_L
  · cases hw), by decide +kernel⟩
-- no code: CopyPollsLaw 77 ('CopyPollsLaw', 'polled', '(LCopyPolls;II[J)I')
theorem ml_L_7 : Cond.methodLink RL 7 yX3_polled ∈ h_tb := h_at 330 (by decide +kernel) (by decide +kernel)
theorem cs_L_7 : h_sV RL RX3 7 yX3_polled cX3_polled 3 (some .int) 2 := ⟨h_good5 wc_X3_polled (fun w hw => by
  rcases List.mem_cons.mp hw with rfl | hw
  · exact ml_L_7
  rcases List.mem_cons.mp hw with rfl | hw
  · exact wi_X3_polled
  rcases List.mem_cons.mp hw with rfl | hw
  · exact wl_X3_polled
  rcases List.mem_cons.mp hw with rfl | hw
  · exact wn_X3
  · cases hw), by decide +kernel⟩
-- no name: CopyPolls 136 ('java/lang/IndexOutOfBoundsException', '<init>', '(Ljava/lang/String;)V')
-- no code: CopyPollsLaw 113 ('CopyPollsLaw', 'odds', '(LCopyPolls;II[J)I')
theorem ml_L_15 : Cond.methodLink RL 15 yX3_odds ∈ h_tb := h_at 406 (by decide +kernel) (by decide +kernel)
theorem cs_L_15 : h_sV RL RX3 15 yX3_odds cX3_odds 13 (some .long) 2 := ⟨h_good5 wc_X3_odds (fun w hw => by
  rcases List.mem_cons.mp hw with rfl | hw
  · exact ml_L_15
  rcases List.mem_cons.mp hw with rfl | hw
  · exact wi_X3_odds
  rcases List.mem_cons.mp hw with rfl | hw
  · exact wl_X3_odds
  rcases List.mem_cons.mp hw with rfl | hw
  · exact wn_X3
  · cases hw), by decide +kernel⟩
theorem ml_X3_164 : Cond.methodLink RX3 164 yX3_bearsOdds ∈ h_tb := h_at 411 (by decide +kernel) (by decide +kernel)
theorem cs_X3_164 : h_sV RX3 RX3 164 yX3_bearsOdds cX3_bearsOdds 5 (some .boolean) 3 := ⟨h_good5 wc_X3_bearsOdds (fun w hw => by
  rcases List.mem_cons.mp hw with rfl | hw
  · exact ml_X3_164
  rcases List.mem_cons.mp hw with rfl | hw
  · exact wi_X3_bearsOdds
  rcases List.mem_cons.mp hw with rfl | hw
  · exact wl_X3_bearsOdds
  rcases List.mem_cons.mp hw with rfl | hw
  · exact wn_X3
  · cases hw), by decide +kernel⟩
-- no name: CopyPolls 172 ('java/lang/ArithmeticException', '<init>', '(Ljava/lang/String;)V')
theorem ml_X3_173 : Cond.methodLink RX3 173 yX3_commonDivisor ∈ h_tb := h_at 431 (by decide +kernel) (by decide +kernel)
theorem cs_X3_173 : h_sS RX3 173 yX3_commonDivisor cX3_commonDivisor 11 (some .long) 2 := ⟨h_good5 wc_X3_commonDivisor (fun w hw => by
  rcases List.mem_cons.mp hw with rfl | hw
  · exact ml_X3_173
  rcases List.mem_cons.mp hw with rfl | hw
  · exact wt_X3_commonDivisor
  rcases List.mem_cons.mp hw with rfl | hw
  · exact wn_X3
  · cases hw), by decide +kernel⟩
-- no code: CopyPollsLaw 116 ('CopyPollsLaw', 'at', '(LCopyPolls;III[J)I')
theorem ml_L_21 : Cond.methodLink RL 21 yX3_at ∈ h_tb := h_at 438 (by decide +kernel) (by decide +kernel)
theorem cs_L_21 : h_sV RL RX3 21 yX3_at cX3_at 5 (some .int) 3 := ⟨h_good5 wc_X3_at (fun w hw => by
  rcases List.mem_cons.mp hw with rfl | hw
  · exact ml_L_21
  rcases List.mem_cons.mp hw with rfl | hw
  · exact wi_X3_at
  rcases List.mem_cons.mp hw with rfl | hw
  · exact wl_X3_at
  rcases List.mem_cons.mp hw with rfl | hw
  · exact wn_X3
  · cases hw), by decide +kernel⟩
-- no name: CopyPolls 181 ('java/lang/ArrayIndexOutOfBoundsException', '<init>', '(Ljava/lang/String;)V')
theorem ml_L_38 : Cond.methodLink RL 38 yX4_init ∈ h_tb := h_at 462 (by decide +kernel) (by decide +kernel)
theorem cs_L_38 : h_sI RL 38 yX4_init cX4_init 3 1 := ⟨h_ws_good wc_X4_init, wn_X4, ml_L_38, wi_X4_init, rfl, by decide +kernel⟩
-- no name: CopyPollsModel 1 ('java/lang/Object', '<init>', '()V')
theorem ml_L_81 : Cond.methodLink RL 81 yX4_thrown ∈ h_tb := h_at 528 (by decide +kernel) (by decide +kernel)
theorem cs_L_81 : h_sV RL RX4 81 yX4_thrown cX4_thrown 1 (some .int) 0 := ⟨h_good5 wc_X4_thrown (fun w hw => by
  rcases List.mem_cons.mp hw with rfl | hw
  · exact ml_L_81
  rcases List.mem_cons.mp hw with rfl | hw
  · exact wi_X4_thrown
  rcases List.mem_cons.mp hw with rfl | hw
  · exact wl_X4_thrown
  rcases List.mem_cons.mp hw with rfl | hw
  · exact wn_X4
  · cases hw), by decide +kernel⟩
theorem ml_L_43 : Cond.methodLink RL 43 yX4_store ∈ h_tb := h_at 532 (by decide +kernel) (by decide +kernel)
theorem cs_L_43 : h_sV RL RX4 43 yX4_store cX4_store 3 (some .int) 1 := ⟨h_good5 wc_X4_store (fun w hw => by
  rcases List.mem_cons.mp hw with rfl | hw
  · exact ml_L_43
  rcases List.mem_cons.mp hw with rfl | hw
  · exact wi_X4_store
  rcases List.mem_cons.mp hw with rfl | hw
  · exact wl_X4_store
  rcases List.mem_cons.mp hw with rfl | hw
  · exact wn_X4
  · cases hw), by decide +kernel⟩
theorem ml_X4_61 : Cond.methodLink RX4 61 yX4_in ∈ h_tb := h_at 536 (by decide +kernel) (by decide +kernel)
theorem cs_X4_61 : h_sS RX4 61 yX4_in cX4_in 3 (some .boolean) 3 := ⟨h_good5 wc_X4_in (fun w hw => by
  rcases List.mem_cons.mp hw with rfl | hw
  · exact ml_X4_61
  rcases List.mem_cons.mp hw with rfl | hw
  · exact wt_X4_in
  rcases List.mem_cons.mp hw with rfl | hw
  · exact wn_X4
  · cases hw), by decide +kernel⟩
theorem ml_L_47 : Cond.methodLink RL 47 yX4_octet ∈ h_tb := h_at 539 (by decide +kernel) (by decide +kernel)
theorem cs_L_47 : h_sV RL RX4 47 yX4_octet cX4_octet 2 none 1 := ⟨h_good5 wc_X4_octet (fun w hw => by
  rcases List.mem_cons.mp hw with rfl | hw
  · exact ml_L_47
  rcases List.mem_cons.mp hw with rfl | hw
  · exact wi_X4_octet
  rcases List.mem_cons.mp hw with rfl | hw
  · exact wl_X4_octet
  rcases List.mem_cons.mp hw with rfl | hw
  · exact wn_X4
  · cases hw), by decide +kernel⟩
theorem ml_L_51 : Cond.methodLink RL 51 yX4_put ∈ h_tb := h_at 543 (by decide +kernel) (by decide +kernel)
theorem cs_L_51 : h_sV RL RX4 51 yX4_put cX4_put 6 (some .int) 1 := ⟨h_good5 wc_X4_put (fun w hw => by
  rcases List.mem_cons.mp hw with rfl | hw
  · exact ml_L_51
  rcases List.mem_cons.mp hw with rfl | hw
  · exact wi_X4_put
  rcases List.mem_cons.mp hw with rfl | hw
  · exact wl_X4_put
  rcases List.mem_cons.mp hw with rfl | hw
  · exact wn_X4
  · cases hw), by decide +kernel⟩
theorem ml_X4_86 : Cond.methodLink RX4 86 yX4_ahead ∈ h_tb := h_at 547 (by decide +kernel) (by decide +kernel)
theorem cs_X4_86 : h_sV RX4 RX4 86 yX4_ahead cX4_ahead 4 (some .int) 1 := ⟨h_good5 wc_X4_ahead (fun w hw => by
  rcases List.mem_cons.mp hw with rfl | hw
  · exact ml_X4_86
  rcases List.mem_cons.mp hw with rfl | hw
  · exact wi_X4_ahead
  rcases List.mem_cons.mp hw with rfl | hw
  · exact wl_X4_ahead
  rcases List.mem_cons.mp hw with rfl | hw
  · exact wn_X4
  · cases hw), by decide +kernel⟩
theorem ml_X4_82 : Cond.methodLink RX4 82 yX4_loadOf ∈ h_tb := h_at 551 (by decide +kernel) (by decide +kernel)
theorem cs_X4_82 : h_sV RX4 RX4 82 yX4_loadOf cX4_loadOf 4 (some .int) 1 := ⟨h_good5 wc_X4_loadOf (fun w hw => by
  rcases List.mem_cons.mp hw with rfl | hw
  · exact ml_X4_82
  rcases List.mem_cons.mp hw with rfl | hw
  · exact wi_X4_loadOf
  rcases List.mem_cons.mp hw with rfl | hw
  · exact wl_X4_loadOf
  rcases List.mem_cons.mp hw with rfl | hw
  · exact wn_X4
  · cases hw), by decide +kernel⟩
theorem ml_L_56 : Cond.methodLink RL 56 yX4_answers ∈ h_tb := h_at 555 (by decide +kernel) (by decide +kernel)
theorem cs_L_56 : h_sV RL RX4 56 yX4_answers cX4_answers 3 (some .int) 2 := ⟨h_good5 wc_X4_answers (fun w hw => by
  rcases List.mem_cons.mp hw with rfl | hw
  · exact ml_L_56
  rcases List.mem_cons.mp hw with rfl | hw
  · exact wi_X4_answers
  rcases List.mem_cons.mp hw with rfl | hw
  · exact wl_X4_answers
  rcases List.mem_cons.mp hw with rfl | hw
  · exact wn_X4
  · cases hw), by decide +kernel⟩
theorem ml_X4_68 : Cond.methodLink RX4 68 yX4_isStore ∈ h_tb := h_at 559 (by decide +kernel) (by decide +kernel)
theorem cs_X4_68 : h_sV RX4 RX4 68 yX4_isStore cX4_isStore 2 (some .boolean) 1 := ⟨h_good5 wc_X4_isStore (fun w hw => by
  rcases List.mem_cons.mp hw with rfl | hw
  · exact ml_X4_68
  rcases List.mem_cons.mp hw with rfl | hw
  · exact wi_X4_isStore
  rcases List.mem_cons.mp hw with rfl | hw
  · exact wl_X4_isStore
  rcases List.mem_cons.mp hw with rfl | hw
  · exact wn_X4
  · cases hw), by decide +kernel⟩
theorem ml_L_61 : Cond.methodLink RL 61 yX4_alter ∈ h_tb := h_at 563 (by decide +kernel) (by decide +kernel)
theorem cs_L_61 : h_sV RL RX4 61 yX4_alter cX4_alter 7 (some .int) 4 := ⟨h_good5 wc_X4_alter (fun w hw => by
  rcases List.mem_cons.mp hw with rfl | hw
  · exact ml_L_61
  rcases List.mem_cons.mp hw with rfl | hw
  · exact wi_X4_alter
  rcases List.mem_cons.mp hw with rfl | hw
  · exact wl_X4_alter
  rcases List.mem_cons.mp hw with rfl | hw
  · exact wn_X4
  · cases hw), by decide +kernel⟩
theorem ml_X4_75 : Cond.methodLink RX4 75 yX4_has ∈ h_tb := h_at 567 (by decide +kernel) (by decide +kernel)
theorem cs_X4_75 : h_sV RX4 RX4 75 yX4_has cX4_has 3 (some .boolean) 2 := ⟨h_good5 wc_X4_has (fun w hw => by
  rcases List.mem_cons.mp hw with rfl | hw
  · exact ml_X4_75
  rcases List.mem_cons.mp hw with rfl | hw
  · exact wi_X4_has
  rcases List.mem_cons.mp hw with rfl | hw
  · exact wl_X4_has
  rcases List.mem_cons.mp hw with rfl | hw
  · exact wn_X4
  · cases hw), by decide +kernel⟩
theorem ml_X4_72 : Cond.methodLink RX4 72 yX4_isFile ∈ h_tb := h_at 571 (by decide +kernel) (by decide +kernel)
theorem cs_X4_72 : h_sV RX4 RX4 72 yX4_isFile cX4_isFile 2 (some .boolean) 1 := ⟨h_good5 wc_X4_isFile (fun w hw => by
  rcases List.mem_cons.mp hw with rfl | hw
  · exact ml_X4_72
  rcases List.mem_cons.mp hw with rfl | hw
  · exact wi_X4_isFile
  rcases List.mem_cons.mp hw with rfl | hw
  · exact wl_X4_isFile
  rcases List.mem_cons.mp hw with rfl | hw
  · exact wn_X4
  · cases hw), by decide +kernel⟩
theorem ml_L_65 : Cond.methodLink RL 65 yX4_cut ∈ h_tb := h_at 575 (by decide +kernel) (by decide +kernel)
theorem cs_L_65 : h_sV RL RX4 65 yX4_cut cX4_cut 5 (some .int) 3 := ⟨h_good5 wc_X4_cut (fun w hw => by
  rcases List.mem_cons.mp hw with rfl | hw
  · exact ml_L_65
  rcases List.mem_cons.mp hw with rfl | hw
  · exact wi_X4_cut
  rcases List.mem_cons.mp hw with rfl | hw
  · exact wl_X4_cut
  rcases List.mem_cons.mp hw with rfl | hw
  · exact wn_X4
  · cases hw), by decide +kernel⟩
theorem ml_L_69 : Cond.methodLink RL 69 yX4_lose ∈ h_tb := h_at 579 (by decide +kernel) (by decide +kernel)
theorem cs_L_69 : h_sV RL RX4 69 yX4_lose cX4_lose 3 (some .int) 2 := ⟨h_good5 wc_X4_lose (fun w hw => by
  rcases List.mem_cons.mp hw with rfl | hw
  · exact ml_L_69
  rcases List.mem_cons.mp hw with rfl | hw
  · exact wi_X4_lose
  rcases List.mem_cons.mp hw with rfl | hw
  · exact wl_X4_lose
  rcases List.mem_cons.mp hw with rfl | hw
  · exact wn_X4
  · cases hw), by decide +kernel⟩
theorem ml_L_76 : Cond.methodLink RL 76 yX4_poll ∈ h_tb := h_at 583 (by decide +kernel) (by decide +kernel)
theorem cs_L_76 : h_sV RL RX4 76 yX4_poll cX4_poll 11 (some .int) 2 := ⟨h_good5 wc_X4_poll (fun w hw => by
  rcases List.mem_cons.mp hw with rfl | hw
  · exact ml_L_76
  rcases List.mem_cons.mp hw with rfl | hw
  · exact wi_X4_poll
  rcases List.mem_cons.mp hw with rfl | hw
  · exact wl_X4_poll
  rcases List.mem_cons.mp hw with rfl | hw
  · exact wn_X4
  · cases hw), by decide +kernel⟩
theorem ml_X4_89 : Cond.methodLink RX4 89 yX4_counts ∈ h_tb := h_at 587 (by decide +kernel) (by decide +kernel)
theorem cs_X4_89 : h_sV RX4 RX4 89 yX4_counts cX4_counts 3 (some .boolean) 2 := ⟨h_good5 wc_X4_counts (fun w hw => by
  rcases List.mem_cons.mp hw with rfl | hw
  · exact ml_X4_89
  rcases List.mem_cons.mp hw with rfl | hw
  · exact wi_X4_counts
  rcases List.mem_cons.mp hw with rfl | hw
  · exact wl_X4_counts
  rcases List.mem_cons.mp hw with rfl | hw
  · exact wn_X4
  · cases hw), by decide +kernel⟩
theorem ml_X4_92 : Cond.methodLink RX4 92 yX4_digestOf ∈ h_tb := h_at 593 (by decide +kernel) (by decide +kernel)
theorem cs_X4_92 : h_sV RX4 RX4 92 yX4_digestOf cX4_digestOf 6 (some .int) 2 := ⟨h_good5 wc_X4_digestOf (fun w hw => by
  rcases List.mem_cons.mp hw with rfl | hw
  · exact ml_X4_92
  rcases List.mem_cons.mp hw with rfl | hw
  · exact wi_X4_digestOf
  rcases List.mem_cons.mp hw with rfl | hw
  · exact wl_X4_digestOf
  rcases List.mem_cons.mp hw with rfl | hw
  · exact wn_X4
  · cases hw), by decide +kernel⟩
theorem ml_L_80 : Cond.methodLink RL 80 yX4_polled ∈ h_tb := h_at 597 (by decide +kernel) (by decide +kernel)
theorem cs_L_80 : h_sV RL RX4 80 yX4_polled cX4_polled 3 (some .int) 2 := ⟨h_good5 wc_X4_polled (fun w hw => by
  rcases List.mem_cons.mp hw with rfl | hw
  · exact ml_L_80
  rcases List.mem_cons.mp hw with rfl | hw
  · exact wi_X4_polled
  rcases List.mem_cons.mp hw with rfl | hw
  · exact wl_X4_polled
  rcases List.mem_cons.mp hw with rfl | hw
  · exact wn_X4
  · cases hw), by decide +kernel⟩
theorem ml_L_88 : Cond.methodLink RL 88 yX4_majority ∈ h_tb := h_at 601 (by decide +kernel) (by decide +kernel)
theorem cs_L_88 : h_sV RL RX4 88 yX4_majority cX4_majority 3 (some .int) 1 := ⟨h_good5 wc_X4_majority (fun w hw => by
  rcases List.mem_cons.mp hw with rfl | hw
  · exact ml_L_88
  rcases List.mem_cons.mp hw with rfl | hw
  · exact wi_X4_majority
  rcases List.mem_cons.mp hw with rfl | hw
  · exact wl_X4_majority
  rcases List.mem_cons.mp hw with rfl | hw
  · exact wn_X4
  · cases hw), by decide +kernel⟩
theorem ml_X4_103 : Cond.methodLink RX4 103 yX4_leader ∈ h_tb := h_at 605 (by decide +kernel) (by decide +kernel)
theorem cs_X4_103 : h_sV RX4 RX4 103 yX4_leader cX4_leader 6 (some .int) 1 := ⟨h_good5 wc_X4_leader (fun w hw => by
  rcases List.mem_cons.mp hw with rfl | hw
  · exact ml_X4_103
  rcases List.mem_cons.mp hw with rfl | hw
  · exact wi_X4_leader
  rcases List.mem_cons.mp hw with rfl | hw
  · exact wl_X4_leader
  rcases List.mem_cons.mp hw with rfl | hw
  · exact wn_X4
  · cases hw), by decide +kernel⟩
theorem ml_L_92 : Cond.methodLink RL 92 yX4_digest ∈ h_tb := h_at 609 (by decide +kernel) (by decide +kernel)
theorem cs_L_92 : h_sV RL RX4 92 yX4_digest cX4_digest 1 (some .int) 0 := ⟨h_good5 wc_X4_digest (fun w hw => by
  rcases List.mem_cons.mp hw with rfl | hw
  · exact ml_L_92
  rcases List.mem_cons.mp hw with rfl | hw
  · exact wi_X4_digest
  rcases List.mem_cons.mp hw with rfl | hw
  · exact wl_X4_digest
  rcases List.mem_cons.mp hw with rfl | hw
  · exact wn_X4
  · cases hw), by decide +kernel⟩
theorem ml_L_96 : Cond.methodLink RL 96 yX4_mend ∈ h_tb := h_at 613 (by decide +kernel) (by decide +kernel)
theorem cs_L_96 : h_sV RL RX4 96 yX4_mend cX4_mend 6 (some .int) 1 := ⟨h_good5 wc_X4_mend (fun w hw => by
  rcases List.mem_cons.mp hw with rfl | hw
  · exact ml_L_96
  rcases List.mem_cons.mp hw with rfl | hw
  · exact wi_X4_mend
  rcases List.mem_cons.mp hw with rfl | hw
  · exact wl_X4_mend
  rcases List.mem_cons.mp hw with rfl | hw
  · exact wn_X4
  · cases hw), by decide +kernel⟩
theorem ml_X4_109 : Cond.methodLink RX4 109 yX4_copy ∈ h_tb := h_at 617 (by decide +kernel) (by decide +kernel)
theorem cs_X4_109 : h_sV RX4 RX4 109 yX4_copy cX4_copy 5 none 3 := ⟨h_good5 wc_X4_copy (fun w hw => by
  rcases List.mem_cons.mp hw with rfl | hw
  · exact ml_X4_109
  rcases List.mem_cons.mp hw with rfl | hw
  · exact wi_X4_copy
  rcases List.mem_cons.mp hw with rfl | hw
  · exact wl_X4_copy
  rcases List.mem_cons.mp hw with rfl | hw
  · exact wn_X4
  · cases hw), by decide +kernel⟩
theorem ml_L_100 : Cond.methodLink RL 100 yX4_stale ∈ h_tb := h_at 621 (by decide +kernel) (by decide +kernel)
theorem cs_L_100 : h_sV RL RX4 100 yX4_stale cX4_stale 4 (some .int) 2 := ⟨h_good5 wc_X4_stale (fun w hw => by
  rcases List.mem_cons.mp hw with rfl | hw
  · exact ml_L_100
  rcases List.mem_cons.mp hw with rfl | hw
  · exact wi_X4_stale
  rcases List.mem_cons.mp hw with rfl | hw
  · exact wl_X4_stale
  rcases List.mem_cons.mp hw with rfl | hw
  · exact wn_X4
  · cases hw), by decide +kernel⟩
theorem ml_L_104 : Cond.methodLink RL 104 yX4_fill ∈ h_tb := h_at 625 (by decide +kernel) (by decide +kernel)
theorem cs_L_104 : h_sV RL RX4 104 yX4_fill cX4_fill 5 (some .int) 1 := ⟨h_good5 wc_X4_fill (fun w hw => by
  rcases List.mem_cons.mp hw with rfl | hw
  · exact ml_L_104
  rcases List.mem_cons.mp hw with rfl | hw
  · exact wi_X4_fill
  rcases List.mem_cons.mp hw with rfl | hw
  · exact wl_X4_fill
  rcases List.mem_cons.mp hw with rfl | hw
  · exact wn_X4
  · cases hw), by decide +kernel⟩
theorem ml_X4_113 : Cond.methodLink RX4 113 yX4_copiesOf ∈ h_tb := h_at 629 (by decide +kernel) (by decide +kernel)
theorem cs_X4_113 : h_sV RX4 RX4 113 yX4_copiesOf cX4_copiesOf 5 (some .int) 2 := ⟨h_good5 wc_X4_copiesOf (fun w hw => by
  rcases List.mem_cons.mp hw with rfl | hw
  · exact ml_X4_113
  rcases List.mem_cons.mp hw with rfl | hw
  · exact wi_X4_copiesOf
  rcases List.mem_cons.mp hw with rfl | hw
  · exact wl_X4_copiesOf
  rcases List.mem_cons.mp hw with rfl | hw
  · exact wn_X4
  · cases hw), by decide +kernel⟩
theorem ml_L_108 : Cond.methodLink RL 108 yX4_move ∈ h_tb := h_at 633 (by decide +kernel) (by decide +kernel)
theorem cs_L_108 : h_sV RL RX4 108 yX4_move cX4_move 4 (some .int) 3 := ⟨h_good5 wc_X4_move (fun w hw => by
  rcases List.mem_cons.mp hw with rfl | hw
  · exact ml_L_108
  rcases List.mem_cons.mp hw with rfl | hw
  · exact wi_X4_move
  rcases List.mem_cons.mp hw with rfl | hw
  · exact wl_X4_move
  rcases List.mem_cons.mp hw with rfl | hw
  · exact wn_X4
  · cases hw), by decide +kernel⟩
theorem ml_L_112 : Cond.methodLink RL 112 yX4_rate ∈ h_tb := h_at 637 (by decide +kernel) (by decide +kernel)
theorem cs_L_112 : h_sV RL RX4 112 yX4_rate cX4_rate 4 (some .int) 3 := ⟨h_good5 wc_X4_rate (fun w hw => by
  rcases List.mem_cons.mp hw with rfl | hw
  · exact ml_L_112
  rcases List.mem_cons.mp hw with rfl | hw
  · exact wi_X4_rate
  rcases List.mem_cons.mp hw with rfl | hw
  · exact wl_X4_rate
  rcases List.mem_cons.mp hw with rfl | hw
  · exact wn_X4
  · cases hw), by decide +kernel⟩
theorem ml_L_115 : Cond.methodLink RL 115 yX4_odds ∈ h_tb := h_at 641 (by decide +kernel) (by decide +kernel)
theorem cs_L_115 : h_sV RL RX4 115 yX4_odds cX4_odds 14 (some .long) 2 := ⟨h_good5 wc_X4_odds (fun w hw => by
  rcases List.mem_cons.mp hw with rfl | hw
  · exact ml_L_115
  rcases List.mem_cons.mp hw with rfl | hw
  · exact wi_X4_odds
  rcases List.mem_cons.mp hw with rfl | hw
  · exact wl_X4_odds
  rcases List.mem_cons.mp hw with rfl | hw
  · exact wn_X4
  · cases hw), by decide +kernel⟩
theorem ml_L_119 : Cond.methodLink RL 119 yX4_at ∈ h_tb := h_at 646 (by decide +kernel) (by decide +kernel)
theorem cs_L_119 : h_sV RL RX4 119 yX4_at cX4_at 4 (some .int) 3 := ⟨h_good5 wc_X4_at (fun w hw => by
  rcases List.mem_cons.mp hw with rfl | hw
  · exact ml_L_119
  rcases List.mem_cons.mp hw with rfl | hw
  · exact wi_X4_at
  rcases List.mem_cons.mp hw with rfl | hw
  · exact wl_X4_at
  rcases List.mem_cons.mp hw with rfl | hw
  · exact wn_X4
  · cases hw), by decide +kernel⟩
theorem ml_L_123 : Cond.methodLink RL 123 yX4_about ∈ h_tb := h_at 650 (by decide +kernel) (by decide +kernel)
theorem cs_L_123 : h_sV RL RX4 123 yX4_about cX4_about 3 (some .int) 2 := ⟨h_good5 wc_X4_about (fun w hw => by
  rcases List.mem_cons.mp hw with rfl | hw
  · exact ml_L_123
  rcases List.mem_cons.mp hw with rfl | hw
  · exact wi_X4_about
  rcases List.mem_cons.mp hw with rfl | hw
  · exact wl_X4_about
  rcases List.mem_cons.mp hw with rfl | hw
  · exact wn_X4
  · cases hw), by decide +kernel⟩
theorem ml_L_127 : Cond.methodLink RL 127 yX4_load ∈ h_tb := h_at 654 (by decide +kernel) (by decide +kernel)
theorem cs_L_127 : h_sV RL RX4 127 yX4_load cX4_load 2 (some .int) 1 := ⟨h_good5 wc_X4_load (fun w hw => by
  rcases List.mem_cons.mp hw with rfl | hw
  · exact ml_L_127
  rcases List.mem_cons.mp hw with rfl | hw
  · exact wi_X4_load
  rcases List.mem_cons.mp hw with rfl | hw
  · exact wl_X4_load
  rcases List.mem_cons.mp hw with rfl | hw
  · exact wn_X4
  · cases hw), by decide +kernel⟩
section WF
variable {p : Program} {l : Launch} {e : Env} {R : Room} {s : State} {m : MethodId} {args : Array Value} {below : List Frame} {meth : Method} {c : Code} {H : Heap} {locs : List Loc} {cells slots : Nat} {Q : State → Prop}
variable {cc : ByteArray} {nL : Nat} {G : h_G} {pc : Nat} {ls : Array Slot} {rest : List Value} {A : Nat → Prop} {H0 : Heap} {ad : h_T → Nat} {k : h_C} {t : h_T} {fs : List Value} {v : Value}
theorem gf_X1_9 (X : h_X p s m args c cc nL RX1 G) (hw : h_W G.1 h_cl A H0 ad k H locs) (he : k t = some (.inr (1, fs))) (hv : fs[0]? = some v) (hdg : decode cc pc = .ok (.getfield 9, 3)) (kk : W p l e R s m args below meth c H locs cells slots Q (F0 m (pc + 3) ls (v :: rest))) : W p l e R s m args below meth c H locs cells slots Q (F0 m pc ls (.ref (ad t) :: rest)) := h_get X hw he rfl in_X1 0 (by decide) fl_X1_9 hv hdg kk
theorem pf_X1_9 (X : h_X p s m args c cc nL RX1 G) (hw : h_W G.1 h_cl A H0 ad k H locs) (hin : meth.name = "<init>") (he : k t = some (.inr (1, fs))) (hn : narrow (tyX1 0) v = v) (hfit : fits (tyX1 0) v = true) (hl : 0 < fs.length) (hdg : decode cc pc = .ok (.putfield 9, 3)) (kk : ∀ (H1 : Heap) (locs1 : List Loc), h_W G.1 h_cl A H0 ad (h_cu k t (some (.inr (1, fs.set 0 v)))) H1 locs1 → W p l e R s m args below meth c H1 locs1 cells slots Q (F0 m (pc + 3) ls rest)) : W p l e R s m args below meth c H locs cells slots Q (F0 m pc ls (v :: .ref (ad t) :: rest)) := h_putF X hw he rfl in_X1 tyX1 tyX1_ok nmX1 0 (by decide) fl_X1_9 rfl rfl hin hn hfit hl hdg kk
theorem gf_X3_106 (X : h_X p s m args c cc nL RX3 G) (hw : h_W G.1 h_cl A H0 ad k H locs) (he : k t = some (.inr (1, fs))) (hv : fs[0]? = some v) (hdg : decode cc pc = .ok (.getfield 106, 3)) (kk : W p l e R s m args below meth c H locs cells slots Q (F0 m (pc + 3) ls (v :: rest))) : W p l e R s m args below meth c H locs cells slots Q (F0 m pc ls (.ref (ad t) :: rest)) := h_getN X hw he rfl in_X1 0 (by decide) fl_X3_106 hv hdg kk
theorem gf_X1_15 (X : h_X p s m args c cc nL RX1 G) (hw : h_W G.1 h_cl A H0 ad k H locs) (he : k t = some (.inr (1, fs))) (hv : fs[1]? = some v) (hdg : decode cc pc = .ok (.getfield 15, 3)) (kk : W p l e R s m args below meth c H locs cells slots Q (F0 m (pc + 3) ls (v :: rest))) : W p l e R s m args below meth c H locs cells slots Q (F0 m pc ls (.ref (ad t) :: rest)) := h_get X hw he rfl in_X1 1 (by decide) fl_X1_15 hv hdg kk
theorem pf_X1_15 (X : h_X p s m args c cc nL RX1 G) (hw : h_W G.1 h_cl A H0 ad k H locs) (he : k t = some (.inr (1, fs))) (hn : narrow (tyX1 1) v = v) (hfit : fits (tyX1 1) v = true) (hl : 1 < fs.length) (hdg : decode cc pc = .ok (.putfield 15, 3)) (kk : ∀ (H1 : Heap) (locs1 : List Loc), h_W G.1 h_cl A H0 ad (h_cu k t (some (.inr (1, fs.set 1 v)))) H1 locs1 → W p l e R s m args below meth c H1 locs1 cells slots Q (F0 m (pc + 3) ls rest)) : W p l e R s m args below meth c H locs cells slots Q (F0 m pc ls (v :: .ref (ad t) :: rest)) := h_put X hw he rfl in_X1 tyX1 tyX1_ok nmX1 1 (by decide) fl_X1_15 rfl hn hfit hl hdg kk
theorem gf_X3_79 (X : h_X p s m args c cc nL RX3 G) (hw : h_W G.1 h_cl A H0 ad k H locs) (he : k t = some (.inr (1, fs))) (hv : fs[1]? = some v) (hdg : decode cc pc = .ok (.getfield 79, 3)) (kk : W p l e R s m args below meth c H locs cells slots Q (F0 m (pc + 3) ls (v :: rest))) : W p l e R s m args below meth c H locs cells slots Q (F0 m pc ls (.ref (ad t) :: rest)) := h_getN X hw he rfl in_X1 1 (by decide) fl_X3_79 hv hdg kk
theorem pf_X3_79 (X : h_X p s m args c cc nL RX3 G) (hw : h_W G.1 h_cl A H0 ad k H locs) (he : k t = some (.inr (1, fs))) (hn : narrow (tyX1 1) v = v) (hfit : fits (tyX1 1) v = true) (hl : 1 < fs.length) (hdg : decode cc pc = .ok (.putfield 79, 3)) (kk : ∀ (H1 : Heap) (locs1 : List Loc), h_W G.1 h_cl A H0 ad (h_cu k t (some (.inr (1, fs.set 1 v)))) H1 locs1 → W p l e R s m args below meth c H1 locs1 cells slots Q (F0 m (pc + 3) ls rest)) : W p l e R s m args below meth c H locs cells slots Q (F0 m pc ls (v :: .ref (ad t) :: rest)) := h_putN X hw he rfl in_X1 tyX1 tyX1_ok nmX1 1 (by decide) fl_X3_79 rfl hn hfit hl hdg kk
theorem gf_X3_63 (X : h_X p s m args c cc nL RX3 G) (hw : h_W G.1 h_cl A H0 ad k H locs) (he : k t = some (.inr (3, fs))) (hv : fs[0]? = some v) (hdg : decode cc pc = .ok (.getfield 63, 3)) (kk : W p l e R s m args below meth c H locs cells slots Q (F0 m (pc + 3) ls (v :: rest))) : W p l e R s m args below meth c H locs cells slots Q (F0 m pc ls (.ref (ad t) :: rest)) := h_get X hw he rfl in_X3 0 (by decide) fl_X3_63 hv hdg kk
theorem pf_X3_63 (X : h_X p s m args c cc nL RX3 G) (hw : h_W G.1 h_cl A H0 ad k H locs) (hin : meth.name = "<init>") (he : k t = some (.inr (3, fs))) (hn : narrow (tyX3 0) v = v) (hfit : fits (tyX3 0) v = true) (hl : 0 < fs.length) (hdg : decode cc pc = .ok (.putfield 63, 3)) (kk : ∀ (H1 : Heap) (locs1 : List Loc), h_W G.1 h_cl A H0 ad (h_cu k t (some (.inr (3, fs.set 0 v)))) H1 locs1 → W p l e R s m args below meth c H1 locs1 cells slots Q (F0 m (pc + 3) ls rest)) : W p l e R s m args below meth c H locs cells slots Q (F0 m pc ls (v :: .ref (ad t) :: rest)) := h_putF X hw he rfl in_X3 tyX3 tyX3_ok nmX3 0 (by decide) fl_X3_63 rfl rfl hin hn hfit hl hdg kk
theorem gf_X3_11 (X : h_X p s m args c cc nL RX3 G) (hw : h_W G.1 h_cl A H0 ad k H locs) (he : k t = some (.inr (3, fs))) (hv : fs[1]? = some v) (hdg : decode cc pc = .ok (.getfield 11, 3)) (kk : W p l e R s m args below meth c H locs cells slots Q (F0 m (pc + 3) ls (v :: rest))) : W p l e R s m args below meth c H locs cells slots Q (F0 m pc ls (.ref (ad t) :: rest)) := h_get X hw he rfl in_X3 1 (by decide) fl_X3_11 hv hdg kk
theorem pf_X3_11 (X : h_X p s m args c cc nL RX3 G) (hw : h_W G.1 h_cl A H0 ad k H locs) (hin : meth.name = "<init>") (he : k t = some (.inr (3, fs))) (hn : narrow (tyX3 1) v = v) (hfit : fits (tyX3 1) v = true) (hl : 1 < fs.length) (hdg : decode cc pc = .ok (.putfield 11, 3)) (kk : ∀ (H1 : Heap) (locs1 : List Loc), h_W G.1 h_cl A H0 ad (h_cu k t (some (.inr (3, fs.set 1 v)))) H1 locs1 → W p l e R s m args below meth c H1 locs1 cells slots Q (F0 m (pc + 3) ls rest)) : W p l e R s m args below meth c H locs cells slots Q (F0 m pc ls (v :: .ref (ad t) :: rest)) := h_putF X hw he rfl in_X3 tyX3 tyX3_ok nmX3 1 (by decide) fl_X3_11 rfl rfl hin hn hfit hl hdg kk
theorem gf_X3_15 (X : h_X p s m args c cc nL RX3 G) (hw : h_W G.1 h_cl A H0 ad k H locs) (he : k t = some (.inr (3, fs))) (hv : fs[2]? = some v) (hdg : decode cc pc = .ok (.getfield 15, 3)) (kk : W p l e R s m args below meth c H locs cells slots Q (F0 m (pc + 3) ls (v :: rest))) : W p l e R s m args below meth c H locs cells slots Q (F0 m pc ls (.ref (ad t) :: rest)) := h_get X hw he rfl in_X3 2 (by decide) fl_X3_15 hv hdg kk
theorem pf_X3_15 (X : h_X p s m args c cc nL RX3 G) (hw : h_W G.1 h_cl A H0 ad k H locs) (he : k t = some (.inr (3, fs))) (hn : narrow (tyX3 2) v = v) (hfit : fits (tyX3 2) v = true) (hl : 2 < fs.length) (hdg : decode cc pc = .ok (.putfield 15, 3)) (kk : ∀ (H1 : Heap) (locs1 : List Loc), h_W G.1 h_cl A H0 ad (h_cu k t (some (.inr (3, fs.set 2 v)))) H1 locs1 → W p l e R s m args below meth c H1 locs1 cells slots Q (F0 m (pc + 3) ls rest)) : W p l e R s m args below meth c H locs cells slots Q (F0 m pc ls (v :: .ref (ad t) :: rest)) := h_put X hw he rfl in_X3 tyX3 tyX3_ok nmX3 2 (by decide) fl_X3_15 rfl hn hfit hl hdg kk
theorem gf_X3_21 (X : h_X p s m args c cc nL RX3 G) (hw : h_W G.1 h_cl A H0 ad k H locs) (he : k t = some (.inr (3, fs))) (hv : fs[3]? = some v) (hdg : decode cc pc = .ok (.getfield 21, 3)) (kk : W p l e R s m args below meth c H locs cells slots Q (F0 m (pc + 3) ls (v :: rest))) : W p l e R s m args below meth c H locs cells slots Q (F0 m pc ls (.ref (ad t) :: rest)) := h_get X hw he rfl in_X3 3 (by decide) fl_X3_21 hv hdg kk
theorem pf_X3_21 (X : h_X p s m args c cc nL RX3 G) (hw : h_W G.1 h_cl A H0 ad k H locs) (hin : meth.name = "<init>") (he : k t = some (.inr (3, fs))) (hn : narrow (tyX3 3) v = v) (hfit : fits (tyX3 3) v = true) (hl : 3 < fs.length) (hdg : decode cc pc = .ok (.putfield 21, 3)) (kk : ∀ (H1 : Heap) (locs1 : List Loc), h_W G.1 h_cl A H0 ad (h_cu k t (some (.inr (3, fs.set 3 v)))) H1 locs1 → W p l e R s m args below meth c H1 locs1 cells slots Q (F0 m (pc + 3) ls rest)) : W p l e R s m args below meth c H locs cells slots Q (F0 m pc ls (v :: .ref (ad t) :: rest)) := h_putF X hw he rfl in_X3 tyX3 tyX3_ok nmX3 3 (by decide) fl_X3_21 rfl rfl hin hn hfit hl hdg kk
theorem gf_X3_25 (X : h_X p s m args c cc nL RX3 G) (hw : h_W G.1 h_cl A H0 ad k H locs) (he : k t = some (.inr (3, fs))) (hv : fs[4]? = some v) (hdg : decode cc pc = .ok (.getfield 25, 3)) (kk : W p l e R s m args below meth c H locs cells slots Q (F0 m (pc + 3) ls (v :: rest))) : W p l e R s m args below meth c H locs cells slots Q (F0 m pc ls (.ref (ad t) :: rest)) := h_get X hw he rfl in_X3 4 (by decide) fl_X3_25 hv hdg kk
theorem pf_X3_25 (X : h_X p s m args c cc nL RX3 G) (hw : h_W G.1 h_cl A H0 ad k H locs) (he : k t = some (.inr (3, fs))) (hn : narrow (tyX3 4) v = v) (hfit : fits (tyX3 4) v = true) (hl : 4 < fs.length) (hdg : decode cc pc = .ok (.putfield 25, 3)) (kk : ∀ (H1 : Heap) (locs1 : List Loc), h_W G.1 h_cl A H0 ad (h_cu k t (some (.inr (3, fs.set 4 v)))) H1 locs1 → W p l e R s m args below meth c H1 locs1 cells slots Q (F0 m (pc + 3) ls rest)) : W p l e R s m args below meth c H locs cells slots Q (F0 m pc ls (v :: .ref (ad t) :: rest)) := h_put X hw he rfl in_X3 tyX3 tyX3_ok nmX3 4 (by decide) fl_X3_25 rfl hn hfit hl hdg kk
theorem gf_X3_31 (X : h_X p s m args c cc nL RX3 G) (hw : h_W G.1 h_cl A H0 ad k H locs) (he : k t = some (.inr (3, fs))) (hv : fs[5]? = some v) (hdg : decode cc pc = .ok (.getfield 31, 3)) (kk : W p l e R s m args below meth c H locs cells slots Q (F0 m (pc + 3) ls (v :: rest))) : W p l e R s m args below meth c H locs cells slots Q (F0 m pc ls (.ref (ad t) :: rest)) := h_get X hw he rfl in_X3 5 (by decide) fl_X3_31 hv hdg kk
theorem pf_X3_31 (X : h_X p s m args c cc nL RX3 G) (hw : h_W G.1 h_cl A H0 ad k H locs) (hin : meth.name = "<init>") (he : k t = some (.inr (3, fs))) (hn : narrow (tyX3 5) v = v) (hfit : fits (tyX3 5) v = true) (hl : 5 < fs.length) (hdg : decode cc pc = .ok (.putfield 31, 3)) (kk : ∀ (H1 : Heap) (locs1 : List Loc), h_W G.1 h_cl A H0 ad (h_cu k t (some (.inr (3, fs.set 5 v)))) H1 locs1 → W p l e R s m args below meth c H1 locs1 cells slots Q (F0 m (pc + 3) ls rest)) : W p l e R s m args below meth c H locs cells slots Q (F0 m pc ls (v :: .ref (ad t) :: rest)) := h_putF X hw he rfl in_X3 tyX3 tyX3_ok nmX3 5 (by decide) fl_X3_31 rfl rfl hin hn hfit hl hdg kk
theorem gf_X3_35 (X : h_X p s m args c cc nL RX3 G) (hw : h_W G.1 h_cl A H0 ad k H locs) (he : k t = some (.inr (3, fs))) (hv : fs[6]? = some v) (hdg : decode cc pc = .ok (.getfield 35, 3)) (kk : W p l e R s m args below meth c H locs cells slots Q (F0 m (pc + 3) ls (v :: rest))) : W p l e R s m args below meth c H locs cells slots Q (F0 m pc ls (.ref (ad t) :: rest)) := h_get X hw he rfl in_X3 6 (by decide) fl_X3_35 hv hdg kk
theorem pf_X3_35 (X : h_X p s m args c cc nL RX3 G) (hw : h_W G.1 h_cl A H0 ad k H locs) (hin : meth.name = "<init>") (he : k t = some (.inr (3, fs))) (hn : narrow (tyX3 6) v = v) (hfit : fits (tyX3 6) v = true) (hl : 6 < fs.length) (hdg : decode cc pc = .ok (.putfield 35, 3)) (kk : ∀ (H1 : Heap) (locs1 : List Loc), h_W G.1 h_cl A H0 ad (h_cu k t (some (.inr (3, fs.set 6 v)))) H1 locs1 → W p l e R s m args below meth c H1 locs1 cells slots Q (F0 m (pc + 3) ls rest)) : W p l e R s m args below meth c H locs cells slots Q (F0 m pc ls (v :: .ref (ad t) :: rest)) := h_putF X hw he rfl in_X3 tyX3 tyX3_ok nmX3 6 (by decide) fl_X3_35 rfl rfl hin hn hfit hl hdg kk
theorem gf_X3_39 (X : h_X p s m args c cc nL RX3 G) (hw : h_W G.1 h_cl A H0 ad k H locs) (he : k t = some (.inr (3, fs))) (hv : fs[7]? = some v) (hdg : decode cc pc = .ok (.getfield 39, 3)) (kk : W p l e R s m args below meth c H locs cells slots Q (F0 m (pc + 3) ls (v :: rest))) : W p l e R s m args below meth c H locs cells slots Q (F0 m pc ls (.ref (ad t) :: rest)) := h_get X hw he rfl in_X3 7 (by decide) fl_X3_39 hv hdg kk
theorem pf_X3_39 (X : h_X p s m args c cc nL RX3 G) (hw : h_W G.1 h_cl A H0 ad k H locs) (hin : meth.name = "<init>") (he : k t = some (.inr (3, fs))) (hn : narrow (tyX3 7) v = v) (hfit : fits (tyX3 7) v = true) (hl : 7 < fs.length) (hdg : decode cc pc = .ok (.putfield 39, 3)) (kk : ∀ (H1 : Heap) (locs1 : List Loc), h_W G.1 h_cl A H0 ad (h_cu k t (some (.inr (3, fs.set 7 v)))) H1 locs1 → W p l e R s m args below meth c H1 locs1 cells slots Q (F0 m (pc + 3) ls rest)) : W p l e R s m args below meth c H locs cells slots Q (F0 m pc ls (v :: .ref (ad t) :: rest)) := h_putF X hw he rfl in_X3 tyX3 tyX3_ok nmX3 7 (by decide) fl_X3_39 rfl rfl hin hn hfit hl hdg kk
theorem gf_X3_42 (X : h_X p s m args c cc nL RX3 G) (hw : h_W G.1 h_cl A H0 ad k H locs) (he : k t = some (.inr (3, fs))) (hv : fs[8]? = some v) (hdg : decode cc pc = .ok (.getfield 42, 3)) (kk : W p l e R s m args below meth c H locs cells slots Q (F0 m (pc + 3) ls (v :: rest))) : W p l e R s m args below meth c H locs cells slots Q (F0 m pc ls (.ref (ad t) :: rest)) := h_get X hw he rfl in_X3 8 (by decide) fl_X3_42 hv hdg kk
theorem pf_X3_42 (X : h_X p s m args c cc nL RX3 G) (hw : h_W G.1 h_cl A H0 ad k H locs) (hin : meth.name = "<init>") (he : k t = some (.inr (3, fs))) (hn : narrow (tyX3 8) v = v) (hfit : fits (tyX3 8) v = true) (hl : 8 < fs.length) (hdg : decode cc pc = .ok (.putfield 42, 3)) (kk : ∀ (H1 : Heap) (locs1 : List Loc), h_W G.1 h_cl A H0 ad (h_cu k t (some (.inr (3, fs.set 8 v)))) H1 locs1 → W p l e R s m args below meth c H1 locs1 cells slots Q (F0 m (pc + 3) ls rest)) : W p l e R s m args below meth c H locs cells slots Q (F0 m pc ls (v :: .ref (ad t) :: rest)) := h_putF X hw he rfl in_X3 tyX3 tyX3_ok nmX3 8 (by decide) fl_X3_42 rfl rfl hin hn hfit hl hdg kk
theorem gf_X3_45 (X : h_X p s m args c cc nL RX3 G) (hw : h_W G.1 h_cl A H0 ad k H locs) (he : k t = some (.inr (3, fs))) (hv : fs[9]? = some v) (hdg : decode cc pc = .ok (.getfield 45, 3)) (kk : W p l e R s m args below meth c H locs cells slots Q (F0 m (pc + 3) ls (v :: rest))) : W p l e R s m args below meth c H locs cells slots Q (F0 m pc ls (.ref (ad t) :: rest)) := h_get X hw he rfl in_X3 9 (by decide) fl_X3_45 hv hdg kk
theorem pf_X3_45 (X : h_X p s m args c cc nL RX3 G) (hw : h_W G.1 h_cl A H0 ad k H locs) (hin : meth.name = "<init>") (he : k t = some (.inr (3, fs))) (hn : narrow (tyX3 9) v = v) (hfit : fits (tyX3 9) v = true) (hl : 9 < fs.length) (hdg : decode cc pc = .ok (.putfield 45, 3)) (kk : ∀ (H1 : Heap) (locs1 : List Loc), h_W G.1 h_cl A H0 ad (h_cu k t (some (.inr (3, fs.set 9 v)))) H1 locs1 → W p l e R s m args below meth c H1 locs1 cells slots Q (F0 m (pc + 3) ls rest)) : W p l e R s m args below meth c H locs cells slots Q (F0 m pc ls (v :: .ref (ad t) :: rest)) := h_putF X hw he rfl in_X3 tyX3 tyX3_ok nmX3 9 (by decide) fl_X3_45 rfl rfl hin hn hfit hl hdg kk
theorem gf_X3_48 (X : h_X p s m args c cc nL RX3 G) (hw : h_W G.1 h_cl A H0 ad k H locs) (he : k t = some (.inr (3, fs))) (hv : fs[10]? = some v) (hdg : decode cc pc = .ok (.getfield 48, 3)) (kk : W p l e R s m args below meth c H locs cells slots Q (F0 m (pc + 3) ls (v :: rest))) : W p l e R s m args below meth c H locs cells slots Q (F0 m pc ls (.ref (ad t) :: rest)) := h_get X hw he rfl in_X3 10 (by decide) fl_X3_48 hv hdg kk
theorem pf_X3_48 (X : h_X p s m args c cc nL RX3 G) (hw : h_W G.1 h_cl A H0 ad k H locs) (he : k t = some (.inr (3, fs))) (hn : narrow (tyX3 10) v = v) (hfit : fits (tyX3 10) v = true) (hl : 10 < fs.length) (hdg : decode cc pc = .ok (.putfield 48, 3)) (kk : ∀ (H1 : Heap) (locs1 : List Loc), h_W G.1 h_cl A H0 ad (h_cu k t (some (.inr (3, fs.set 10 v)))) H1 locs1 → W p l e R s m args below meth c H1 locs1 cells slots Q (F0 m (pc + 3) ls rest)) : W p l e R s m args below meth c H locs cells slots Q (F0 m pc ls (v :: .ref (ad t) :: rest)) := h_put X hw he rfl in_X3 tyX3 tyX3_ok nmX3 10 (by decide) fl_X3_48 rfl hn hfit hl hdg kk
theorem gf_X3_51 (X : h_X p s m args c cc nL RX3 G) (hw : h_W G.1 h_cl A H0 ad k H locs) (he : k t = some (.inr (3, fs))) (hv : fs[11]? = some v) (hdg : decode cc pc = .ok (.getfield 51, 3)) (kk : W p l e R s m args below meth c H locs cells slots Q (F0 m (pc + 3) ls (v :: rest))) : W p l e R s m args below meth c H locs cells slots Q (F0 m pc ls (.ref (ad t) :: rest)) := h_get X hw he rfl in_X3 11 (by decide) fl_X3_51 hv hdg kk
theorem pf_X3_51 (X : h_X p s m args c cc nL RX3 G) (hw : h_W G.1 h_cl A H0 ad k H locs) (he : k t = some (.inr (3, fs))) (hn : narrow (tyX3 11) v = v) (hfit : fits (tyX3 11) v = true) (hl : 11 < fs.length) (hdg : decode cc pc = .ok (.putfield 51, 3)) (kk : ∀ (H1 : Heap) (locs1 : List Loc), h_W G.1 h_cl A H0 ad (h_cu k t (some (.inr (3, fs.set 11 v)))) H1 locs1 → W p l e R s m args below meth c H1 locs1 cells slots Q (F0 m (pc + 3) ls rest)) : W p l e R s m args below meth c H locs cells slots Q (F0 m pc ls (v :: .ref (ad t) :: rest)) := h_put X hw he rfl in_X3 tyX3 tyX3_ok nmX3 11 (by decide) fl_X3_51 rfl hn hfit hl hdg kk
theorem gf_X2_20 (X : h_X p s m args c cc nL RX2 G) (hw : h_W G.1 h_cl A H0 ad k H locs) (he : k t = some (.inr (2, fs))) (hv : fs[0]? = some v) (hdg : decode cc pc = .ok (.getfield 20, 3)) (kk : W p l e R s m args below meth c H locs cells slots Q (F0 m (pc + 3) ls (v :: rest))) : W p l e R s m args below meth c H locs cells slots Q (F0 m pc ls (.ref (ad t) :: rest)) := h_get X hw he rfl in_X2 0 (by decide) fl_X2_20 hv hdg kk
theorem pf_X2_20 (X : h_X p s m args c cc nL RX2 G) (hw : h_W G.1 h_cl A H0 ad k H locs) (hin : meth.name = "<init>") (he : k t = some (.inr (2, fs))) (hn : narrow (tyX2 0) v = v) (hfit : fits (tyX2 0) v = true) (hl : 0 < fs.length) (hdg : decode cc pc = .ok (.putfield 20, 3)) (kk : ∀ (H1 : Heap) (locs1 : List Loc), h_W G.1 h_cl A H0 ad (h_cu k t (some (.inr (2, fs.set 0 v)))) H1 locs1 → W p l e R s m args below meth c H1 locs1 cells slots Q (F0 m (pc + 3) ls rest)) : W p l e R s m args below meth c H locs cells slots Q (F0 m pc ls (v :: .ref (ad t) :: rest)) := h_putF X hw he rfl in_X2 tyX2 tyX2_ok nmX2 0 (by decide) fl_X2_20 rfl rfl hin hn hfit hl hdg kk
theorem gf_X3_195 (X : h_X p s m args c cc nL RX3 G) (hw : h_W G.1 h_cl A H0 ad k H locs) (he : k t = some (.inr (2, fs))) (hv : fs[0]? = some v) (hdg : decode cc pc = .ok (.getfield 195, 3)) (kk : W p l e R s m args below meth c H locs cells slots Q (F0 m (pc + 3) ls (v :: rest))) : W p l e R s m args below meth c H locs cells slots Q (F0 m pc ls (.ref (ad t) :: rest)) := h_getN X hw he rfl in_X2 0 (by decide) fl_X3_195 hv hdg kk
theorem gf_X2_7 (X : h_X p s m args c cc nL RX2 G) (hw : h_W G.1 h_cl A H0 ad k H locs) (he : k t = some (.inr (2, fs))) (hv : fs[1]? = some v) (hdg : decode cc pc = .ok (.getfield 7, 3)) (kk : W p l e R s m args below meth c H locs cells slots Q (F0 m (pc + 3) ls (v :: rest))) : W p l e R s m args below meth c H locs cells slots Q (F0 m pc ls (.ref (ad t) :: rest)) := h_get X hw he rfl in_X2 1 (by decide) fl_X2_7 hv hdg kk
theorem pf_X2_7 (X : h_X p s m args c cc nL RX2 G) (hw : h_W G.1 h_cl A H0 ad k H locs) (he : k t = some (.inr (2, fs))) (hn : narrow (tyX2 1) v = v) (hfit : fits (tyX2 1) v = true) (hl : 1 < fs.length) (hdg : decode cc pc = .ok (.putfield 7, 3)) (kk : ∀ (H1 : Heap) (locs1 : List Loc), h_W G.1 h_cl A H0 ad (h_cu k t (some (.inr (2, fs.set 1 v)))) H1 locs1 → W p l e R s m args below meth c H1 locs1 cells slots Q (F0 m (pc + 3) ls rest)) : W p l e R s m args below meth c H locs cells slots Q (F0 m pc ls (v :: .ref (ad t) :: rest)) := h_put X hw he rfl in_X2 tyX2 tyX2_ok nmX2 1 (by decide) fl_X2_7 rfl hn hfit hl hdg kk
theorem gf_X3_95 (X : h_X p s m args c cc nL RX3 G) (hw : h_W G.1 h_cl A H0 ad k H locs) (he : k t = some (.inr (2, fs))) (hv : fs[1]? = some v) (hdg : decode cc pc = .ok (.getfield 95, 3)) (kk : W p l e R s m args below meth c H locs cells slots Q (F0 m (pc + 3) ls (v :: rest))) : W p l e R s m args below meth c H locs cells slots Q (F0 m pc ls (.ref (ad t) :: rest)) := h_getN X hw he rfl in_X2 1 (by decide) fl_X3_95 hv hdg kk
theorem pf_X3_95 (X : h_X p s m args c cc nL RX3 G) (hw : h_W G.1 h_cl A H0 ad k H locs) (he : k t = some (.inr (2, fs))) (hn : narrow (tyX2 1) v = v) (hfit : fits (tyX2 1) v = true) (hl : 1 < fs.length) (hdg : decode cc pc = .ok (.putfield 95, 3)) (kk : ∀ (H1 : Heap) (locs1 : List Loc), h_W G.1 h_cl A H0 ad (h_cu k t (some (.inr (2, fs.set 1 v)))) H1 locs1 → W p l e R s m args below meth c H1 locs1 cells slots Q (F0 m (pc + 3) ls rest)) : W p l e R s m args below meth c H locs cells slots Q (F0 m pc ls (v :: .ref (ad t) :: rest)) := h_putN X hw he rfl in_X2 tyX2 tyX2_ok nmX2 1 (by decide) fl_X3_95 rfl hn hfit hl hdg kk
theorem gf_X2_13 (X : h_X p s m args c cc nL RX2 G) (hw : h_W G.1 h_cl A H0 ad k H locs) (he : k t = some (.inr (2, fs))) (hv : fs[2]? = some v) (hdg : decode cc pc = .ok (.getfield 13, 3)) (kk : W p l e R s m args below meth c H locs cells slots Q (F0 m (pc + 3) ls (v :: rest))) : W p l e R s m args below meth c H locs cells slots Q (F0 m pc ls (.ref (ad t) :: rest)) := h_get X hw he rfl in_X2 2 (by decide) fl_X2_13 hv hdg kk
theorem pf_X2_13 (X : h_X p s m args c cc nL RX2 G) (hw : h_W G.1 h_cl A H0 ad k H locs) (he : k t = some (.inr (2, fs))) (hn : narrow (tyX2 2) v = v) (hfit : fits (tyX2 2) v = true) (hl : 2 < fs.length) (hdg : decode cc pc = .ok (.putfield 13, 3)) (kk : ∀ (H1 : Heap) (locs1 : List Loc), h_W G.1 h_cl A H0 ad (h_cu k t (some (.inr (2, fs.set 2 v)))) H1 locs1 → W p l e R s m args below meth c H1 locs1 cells slots Q (F0 m (pc + 3) ls rest)) : W p l e R s m args below meth c H locs cells slots Q (F0 m pc ls (v :: .ref (ad t) :: rest)) := h_put X hw he rfl in_X2 tyX2 tyX2_ok nmX2 2 (by decide) fl_X2_13 rfl hn hfit hl hdg kk
theorem gf_X3_156 (X : h_X p s m args c cc nL RX3 G) (hw : h_W G.1 h_cl A H0 ad k H locs) (he : k t = some (.inr (2, fs))) (hv : fs[2]? = some v) (hdg : decode cc pc = .ok (.getfield 156, 3)) (kk : W p l e R s m args below meth c H locs cells slots Q (F0 m (pc + 3) ls (v :: rest))) : W p l e R s m args below meth c H locs cells slots Q (F0 m pc ls (.ref (ad t) :: rest)) := h_getN X hw he rfl in_X2 2 (by decide) fl_X3_156 hv hdg kk
theorem pf_X3_156 (X : h_X p s m args c cc nL RX3 G) (hw : h_W G.1 h_cl A H0 ad k H locs) (he : k t = some (.inr (2, fs))) (hn : narrow (tyX2 2) v = v) (hfit : fits (tyX2 2) v = true) (hl : 2 < fs.length) (hdg : decode cc pc = .ok (.putfield 156, 3)) (kk : ∀ (H1 : Heap) (locs1 : List Loc), h_W G.1 h_cl A H0 ad (h_cu k t (some (.inr (2, fs.set 2 v)))) H1 locs1 → W p l e R s m args below meth c H1 locs1 cells slots Q (F0 m (pc + 3) ls rest)) : W p l e R s m args below meth c H locs cells slots Q (F0 m pc ls (v :: .ref (ad t) :: rest)) := h_putN X hw he rfl in_X2 tyX2 tyX2_ok nmX2 2 (by decide) fl_X3_156 rfl hn hfit hl hdg kk
theorem gf_X2_17 (X : h_X p s m args c cc nL RX2 G) (hw : h_W G.1 h_cl A H0 ad k H locs) (he : k t = some (.inr (2, fs))) (hv : fs[3]? = some v) (hdg : decode cc pc = .ok (.getfield 17, 3)) (kk : W p l e R s m args below meth c H locs cells slots Q (F0 m (pc + 3) ls (v :: rest))) : W p l e R s m args below meth c H locs cells slots Q (F0 m pc ls (.ref (ad t) :: rest)) := h_get X hw he rfl in_X2 3 (by decide) fl_X2_17 hv hdg kk
theorem pf_X2_17 (X : h_X p s m args c cc nL RX2 G) (hw : h_W G.1 h_cl A H0 ad k H locs) (he : k t = some (.inr (2, fs))) (hn : narrow (tyX2 3) v = v) (hfit : fits (tyX2 3) v = true) (hl : 3 < fs.length) (hdg : decode cc pc = .ok (.putfield 17, 3)) (kk : ∀ (H1 : Heap) (locs1 : List Loc), h_W G.1 h_cl A H0 ad (h_cu k t (some (.inr (2, fs.set 3 v)))) H1 locs1 → W p l e R s m args below meth c H1 locs1 cells slots Q (F0 m (pc + 3) ls rest)) : W p l e R s m args below meth c H locs cells slots Q (F0 m pc ls (v :: .ref (ad t) :: rest)) := h_put X hw he rfl in_X2 tyX2 tyX2_ok nmX2 3 (by decide) fl_X2_17 rfl hn hfit hl hdg kk
theorem gf_X3_159 (X : h_X p s m args c cc nL RX3 G) (hw : h_W G.1 h_cl A H0 ad k H locs) (he : k t = some (.inr (2, fs))) (hv : fs[3]? = some v) (hdg : decode cc pc = .ok (.getfield 159, 3)) (kk : W p l e R s m args below meth c H locs cells slots Q (F0 m (pc + 3) ls (v :: rest))) : W p l e R s m args below meth c H locs cells slots Q (F0 m pc ls (.ref (ad t) :: rest)) := h_getN X hw he rfl in_X2 3 (by decide) fl_X3_159 hv hdg kk
theorem pf_X3_159 (X : h_X p s m args c cc nL RX3 G) (hw : h_W G.1 h_cl A H0 ad k H locs) (he : k t = some (.inr (2, fs))) (hn : narrow (tyX2 3) v = v) (hfit : fits (tyX2 3) v = true) (hl : 3 < fs.length) (hdg : decode cc pc = .ok (.putfield 159, 3)) (kk : ∀ (H1 : Heap) (locs1 : List Loc), h_W G.1 h_cl A H0 ad (h_cu k t (some (.inr (2, fs.set 3 v)))) H1 locs1 → W p l e R s m args below meth c H1 locs1 cells slots Q (F0 m (pc + 3) ls rest)) : W p l e R s m args below meth c H locs cells slots Q (F0 m pc ls (v :: .ref (ad t) :: rest)) := h_putN X hw he rfl in_X2 tyX2 tyX2_ok nmX2 3 (by decide) fl_X3_159 rfl hn hfit hl hdg kk
theorem gf_X0_21 (X : h_X p s m args c cc nL RX0 G) (hw : h_W G.1 h_cl A H0 ad k H locs) (he : k t = some (.inr (0, fs))) (hv : fs[0]? = some v) (hdg : decode cc pc = .ok (.getfield 21, 3)) (kk : W p l e R s m args below meth c H locs cells slots Q (F0 m (pc + 3) ls (v :: rest))) : W p l e R s m args below meth c H locs cells slots Q (F0 m pc ls (.ref (ad t) :: rest)) := h_get X hw he rfl in_X0 0 (by decide) fl_X0_21 hv hdg kk
theorem pf_X0_21 (X : h_X p s m args c cc nL RX0 G) (hw : h_W G.1 h_cl A H0 ad k H locs) (hin : meth.name = "<init>") (he : k t = some (.inr (0, fs))) (hn : narrow (tyX0 0) v = v) (hfit : fits (tyX0 0) v = true) (hl : 0 < fs.length) (hdg : decode cc pc = .ok (.putfield 21, 3)) (kk : ∀ (H1 : Heap) (locs1 : List Loc), h_W G.1 h_cl A H0 ad (h_cu k t (some (.inr (0, fs.set 0 v)))) H1 locs1 → W p l e R s m args below meth c H1 locs1 cells slots Q (F0 m (pc + 3) ls rest)) : W p l e R s m args below meth c H locs cells slots Q (F0 m pc ls (v :: .ref (ad t) :: rest)) := h_putF X hw he rfl in_X0 tyX0 tyX0_ok nmX0 0 (by decide) fl_X0_21 rfl rfl hin hn hfit hl hdg kk
theorem gf_X3_117 (X : h_X p s m args c cc nL RX3 G) (hw : h_W G.1 h_cl A H0 ad k H locs) (he : k t = some (.inr (0, fs))) (hv : fs[0]? = some v) (hdg : decode cc pc = .ok (.getfield 117, 3)) (kk : W p l e R s m args below meth c H locs cells slots Q (F0 m (pc + 3) ls (v :: rest))) : W p l e R s m args below meth c H locs cells slots Q (F0 m pc ls (.ref (ad t) :: rest)) := h_getN X hw he rfl in_X0 0 (by decide) fl_X3_117 hv hdg kk
theorem gf_X0_11 (X : h_X p s m args c cc nL RX0 G) (hw : h_W G.1 h_cl A H0 ad k H locs) (he : k t = some (.inr (0, fs))) (hv : fs[1]? = some v) (hdg : decode cc pc = .ok (.getfield 11, 3)) (kk : W p l e R s m args below meth c H locs cells slots Q (F0 m (pc + 3) ls (v :: rest))) : W p l e R s m args below meth c H locs cells slots Q (F0 m pc ls (.ref (ad t) :: rest)) := h_get X hw he rfl in_X0 1 (by decide) fl_X0_11 hv hdg kk
theorem pf_X0_11 (X : h_X p s m args c cc nL RX0 G) (hw : h_W G.1 h_cl A H0 ad k H locs) (hin : meth.name = "<init>") (he : k t = some (.inr (0, fs))) (hn : narrow (tyX0 1) v = v) (hfit : fits (tyX0 1) v = true) (hl : 1 < fs.length) (hdg : decode cc pc = .ok (.putfield 11, 3)) (kk : ∀ (H1 : Heap) (locs1 : List Loc), h_W G.1 h_cl A H0 ad (h_cu k t (some (.inr (0, fs.set 1 v)))) H1 locs1 → W p l e R s m args below meth c H1 locs1 cells slots Q (F0 m (pc + 3) ls rest)) : W p l e R s m args below meth c H locs cells slots Q (F0 m pc ls (v :: .ref (ad t) :: rest)) := h_putF X hw he rfl in_X0 tyX0 tyX0_ok nmX0 1 (by decide) fl_X0_11 rfl rfl hin hn hfit hl hdg kk
theorem gf_X3_113 (X : h_X p s m args c cc nL RX3 G) (hw : h_W G.1 h_cl A H0 ad k H locs) (he : k t = some (.inr (0, fs))) (hv : fs[1]? = some v) (hdg : decode cc pc = .ok (.getfield 113, 3)) (kk : W p l e R s m args below meth c H locs cells slots Q (F0 m (pc + 3) ls (v :: rest))) : W p l e R s m args below meth c H locs cells slots Q (F0 m pc ls (.ref (ad t) :: rest)) := h_getN X hw he rfl in_X0 1 (by decide) fl_X3_113 hv hdg kk
theorem gf_X0_17 (X : h_X p s m args c cc nL RX0 G) (hw : h_W G.1 h_cl A H0 ad k H locs) (he : k t = some (.inr (0, fs))) (hv : fs[2]? = some v) (hdg : decode cc pc = .ok (.getfield 17, 3)) (kk : W p l e R s m args below meth c H locs cells slots Q (F0 m (pc + 3) ls (v :: rest))) : W p l e R s m args below meth c H locs cells slots Q (F0 m pc ls (.ref (ad t) :: rest)) := h_get X hw he rfl in_X0 2 (by decide) fl_X0_17 hv hdg kk
theorem pf_X0_17 (X : h_X p s m args c cc nL RX0 G) (hw : h_W G.1 h_cl A H0 ad k H locs) (he : k t = some (.inr (0, fs))) (hn : narrow (tyX0 2) v = v) (hfit : fits (tyX0 2) v = true) (hl : 2 < fs.length) (hdg : decode cc pc = .ok (.putfield 17, 3)) (kk : ∀ (H1 : Heap) (locs1 : List Loc), h_W G.1 h_cl A H0 ad (h_cu k t (some (.inr (0, fs.set 2 v)))) H1 locs1 → W p l e R s m args below meth c H1 locs1 cells slots Q (F0 m (pc + 3) ls rest)) : W p l e R s m args below meth c H locs cells slots Q (F0 m pc ls (v :: .ref (ad t) :: rest)) := h_put X hw he rfl in_X0 tyX0 tyX0_ok nmX0 2 (by decide) fl_X0_17 rfl hn hfit hl hdg kk
theorem gf_X3_188 (X : h_X p s m args c cc nL RX3 G) (hw : h_W G.1 h_cl A H0 ad k H locs) (he : k t = some (.inr (0, fs))) (hv : fs[2]? = some v) (hdg : decode cc pc = .ok (.getfield 188, 3)) (kk : W p l e R s m args below meth c H locs cells slots Q (F0 m (pc + 3) ls (v :: rest))) : W p l e R s m args below meth c H locs cells slots Q (F0 m pc ls (.ref (ad t) :: rest)) := h_getN X hw he rfl in_X0 2 (by decide) fl_X3_188 hv hdg kk
theorem pf_X3_188 (X : h_X p s m args c cc nL RX3 G) (hw : h_W G.1 h_cl A H0 ad k H locs) (he : k t = some (.inr (0, fs))) (hn : narrow (tyX0 2) v = v) (hfit : fits (tyX0 2) v = true) (hl : 2 < fs.length) (hdg : decode cc pc = .ok (.putfield 188, 3)) (kk : ∀ (H1 : Heap) (locs1 : List Loc), h_W G.1 h_cl A H0 ad (h_cu k t (some (.inr (0, fs.set 2 v)))) H1 locs1 → W p l e R s m args below meth c H1 locs1 cells slots Q (F0 m (pc + 3) ls rest)) : W p l e R s m args below meth c H locs cells slots Q (F0 m pc ls (v :: .ref (ad t) :: rest)) := h_putN X hw he rfl in_X0 tyX0 tyX0_ok nmX0 2 (by decide) fl_X3_188 rfl hn hfit hl hdg kk
theorem gf_X4_55 (X : h_X p s m args c cc nL RX4 G) (hw : h_W G.1 h_cl A H0 ad k H locs) (he : k t = some (.inr (4, fs))) (hv : fs[0]? = some v) (hdg : decode cc pc = .ok (.getfield 55, 3)) (kk : W p l e R s m args below meth c H locs cells slots Q (F0 m (pc + 3) ls (v :: rest))) : W p l e R s m args below meth c H locs cells slots Q (F0 m pc ls (.ref (ad t) :: rest)) := h_get X hw he rfl in_X4 0 (by decide) fl_X4_55 hv hdg kk
theorem pf_X4_55 (X : h_X p s m args c cc nL RX4 G) (hw : h_W G.1 h_cl A H0 ad k H locs) (he : k t = some (.inr (4, fs))) (hn : narrow (tyX4 0) v = v) (hfit : fits (tyX4 0) v = true) (hl : 0 < fs.length) (hdg : decode cc pc = .ok (.putfield 55, 3)) (kk : ∀ (H1 : Heap) (locs1 : List Loc), h_W G.1 h_cl A H0 ad (h_cu k t (some (.inr (4, fs.set 0 v)))) H1 locs1 → W p l e R s m args below meth c H1 locs1 cells slots Q (F0 m (pc + 3) ls rest)) : W p l e R s m args below meth c H locs cells slots Q (F0 m pc ls (v :: .ref (ad t) :: rest)) := h_put X hw he rfl in_X4 tyX4 tyX4_ok nmX4 0 (by decide) fl_X4_55 rfl hn hfit hl hdg kk
theorem gf_X4_51 (X : h_X p s m args c cc nL RX4 G) (hw : h_W G.1 h_cl A H0 ad k H locs) (he : k t = some (.inr (4, fs))) (hv : fs[1]? = some v) (hdg : decode cc pc = .ok (.getfield 51, 3)) (kk : W p l e R s m args below meth c H locs cells slots Q (F0 m (pc + 3) ls (v :: rest))) : W p l e R s m args below meth c H locs cells slots Q (F0 m pc ls (.ref (ad t) :: rest)) := h_get X hw he rfl in_X4 1 (by decide) fl_X4_51 hv hdg kk
theorem pf_X4_51 (X : h_X p s m args c cc nL RX4 G) (hw : h_W G.1 h_cl A H0 ad k H locs) (hin : meth.name = "<init>") (he : k t = some (.inr (4, fs))) (hn : narrow (tyX4 1) v = v) (hfit : fits (tyX4 1) v = true) (hl : 1 < fs.length) (hdg : decode cc pc = .ok (.putfield 51, 3)) (kk : ∀ (H1 : Heap) (locs1 : List Loc), h_W G.1 h_cl A H0 ad (h_cu k t (some (.inr (4, fs.set 1 v)))) H1 locs1 → W p l e R s m args below meth c H1 locs1 cells slots Q (F0 m (pc + 3) ls rest)) : W p l e R s m args below meth c H locs cells slots Q (F0 m pc ls (v :: .ref (ad t) :: rest)) := h_putF X hw he rfl in_X4 tyX4 tyX4_ok nmX4 1 (by decide) fl_X4_51 rfl rfl hin hn hfit hl hdg kk
theorem gf_X4_58 (X : h_X p s m args c cc nL RX4 G) (hw : h_W G.1 h_cl A H0 ad k H locs) (he : k t = some (.inr (4, fs))) (hv : fs[2]? = some v) (hdg : decode cc pc = .ok (.getfield 58, 3)) (kk : W p l e R s m args below meth c H locs cells slots Q (F0 m (pc + 3) ls (v :: rest))) : W p l e R s m args below meth c H locs cells slots Q (F0 m pc ls (.ref (ad t) :: rest)) := h_get X hw he rfl in_X4 2 (by decide) fl_X4_58 hv hdg kk
theorem pf_X4_58 (X : h_X p s m args c cc nL RX4 G) (hw : h_W G.1 h_cl A H0 ad k H locs) (he : k t = some (.inr (4, fs))) (hn : narrow (tyX4 2) v = v) (hfit : fits (tyX4 2) v = true) (hl : 2 < fs.length) (hdg : decode cc pc = .ok (.putfield 58, 3)) (kk : ∀ (H1 : Heap) (locs1 : List Loc), h_W G.1 h_cl A H0 ad (h_cu k t (some (.inr (4, fs.set 2 v)))) H1 locs1 → W p l e R s m args below meth c H1 locs1 cells slots Q (F0 m (pc + 3) ls rest)) : W p l e R s m args below meth c H locs cells slots Q (F0 m pc ls (v :: .ref (ad t) :: rest)) := h_put X hw he rfl in_X4 tyX4 tyX4_ok nmX4 2 (by decide) fl_X4_58 rfl hn hfit hl hdg kk
theorem gf_X4_7 (X : h_X p s m args c cc nL RX4 G) (hw : h_W G.1 h_cl A H0 ad k H locs) (he : k t = some (.inr (4, fs))) (hv : fs[3]? = some v) (hdg : decode cc pc = .ok (.getfield 7, 3)) (kk : W p l e R s m args below meth c H locs cells slots Q (F0 m (pc + 3) ls (v :: rest))) : W p l e R s m args below meth c H locs cells slots Q (F0 m pc ls (.ref (ad t) :: rest)) := h_get X hw he rfl in_X4 3 (by decide) fl_X4_7 hv hdg kk
theorem pf_X4_7 (X : h_X p s m args c cc nL RX4 G) (hw : h_W G.1 h_cl A H0 ad k H locs) (hin : meth.name = "<init>") (he : k t = some (.inr (4, fs))) (hn : narrow (tyX4 3) v = v) (hfit : fits (tyX4 3) v = true) (hl : 3 < fs.length) (hdg : decode cc pc = .ok (.putfield 7, 3)) (kk : ∀ (H1 : Heap) (locs1 : List Loc), h_W G.1 h_cl A H0 ad (h_cu k t (some (.inr (4, fs.set 3 v)))) H1 locs1 → W p l e R s m args below meth c H1 locs1 cells slots Q (F0 m (pc + 3) ls rest)) : W p l e R s m args below meth c H locs cells slots Q (F0 m pc ls (v :: .ref (ad t) :: rest)) := h_putF X hw he rfl in_X4 tyX4 tyX4_ok nmX4 3 (by decide) fl_X4_7 rfl rfl hin hn hfit hl hdg kk
theorem gf_X4_13 (X : h_X p s m args c cc nL RX4 G) (hw : h_W G.1 h_cl A H0 ad k H locs) (he : k t = some (.inr (4, fs))) (hv : fs[4]? = some v) (hdg : decode cc pc = .ok (.getfield 13, 3)) (kk : W p l e R s m args below meth c H locs cells slots Q (F0 m (pc + 3) ls (v :: rest))) : W p l e R s m args below meth c H locs cells slots Q (F0 m pc ls (.ref (ad t) :: rest)) := h_get X hw he rfl in_X4 4 (by decide) fl_X4_13 hv hdg kk
theorem pf_X4_13 (X : h_X p s m args c cc nL RX4 G) (hw : h_W G.1 h_cl A H0 ad k H locs) (hin : meth.name = "<init>") (he : k t = some (.inr (4, fs))) (hn : narrow (tyX4 4) v = v) (hfit : fits (tyX4 4) v = true) (hl : 4 < fs.length) (hdg : decode cc pc = .ok (.putfield 13, 3)) (kk : ∀ (H1 : Heap) (locs1 : List Loc), h_W G.1 h_cl A H0 ad (h_cu k t (some (.inr (4, fs.set 4 v)))) H1 locs1 → W p l e R s m args below meth c H1 locs1 cells slots Q (F0 m (pc + 3) ls rest)) : W p l e R s m args below meth c H locs cells slots Q (F0 m pc ls (v :: .ref (ad t) :: rest)) := h_putF X hw he rfl in_X4 tyX4 tyX4_ok nmX4 4 (by decide) fl_X4_13 rfl rfl hin hn hfit hl hdg kk
theorem gf_X4_17 (X : h_X p s m args c cc nL RX4 G) (hw : h_W G.1 h_cl A H0 ad k H locs) (he : k t = some (.inr (4, fs))) (hv : fs[5]? = some v) (hdg : decode cc pc = .ok (.getfield 17, 3)) (kk : W p l e R s m args below meth c H locs cells slots Q (F0 m (pc + 3) ls (v :: rest))) : W p l e R s m args below meth c H locs cells slots Q (F0 m pc ls (.ref (ad t) :: rest)) := h_get X hw he rfl in_X4 5 (by decide) fl_X4_17 hv hdg kk
theorem pf_X4_17 (X : h_X p s m args c cc nL RX4 G) (hw : h_W G.1 h_cl A H0 ad k H locs) (hin : meth.name = "<init>") (he : k t = some (.inr (4, fs))) (hn : narrow (tyX4 5) v = v) (hfit : fits (tyX4 5) v = true) (hl : 5 < fs.length) (hdg : decode cc pc = .ok (.putfield 17, 3)) (kk : ∀ (H1 : Heap) (locs1 : List Loc), h_W G.1 h_cl A H0 ad (h_cu k t (some (.inr (4, fs.set 5 v)))) H1 locs1 → W p l e R s m args below meth c H1 locs1 cells slots Q (F0 m (pc + 3) ls rest)) : W p l e R s m args below meth c H locs cells slots Q (F0 m pc ls (v :: .ref (ad t) :: rest)) := h_putF X hw he rfl in_X4 tyX4 tyX4_ok nmX4 5 (by decide) fl_X4_17 rfl rfl hin hn hfit hl hdg kk
theorem gf_X4_20 (X : h_X p s m args c cc nL RX4 G) (hw : h_W G.1 h_cl A H0 ad k H locs) (he : k t = some (.inr (4, fs))) (hv : fs[6]? = some v) (hdg : decode cc pc = .ok (.getfield 20, 3)) (kk : W p l e R s m args below meth c H locs cells slots Q (F0 m (pc + 3) ls (v :: rest))) : W p l e R s m args below meth c H locs cells slots Q (F0 m pc ls (.ref (ad t) :: rest)) := h_get X hw he rfl in_X4 6 (by decide) fl_X4_20 hv hdg kk
theorem pf_X4_20 (X : h_X p s m args c cc nL RX4 G) (hw : h_W G.1 h_cl A H0 ad k H locs) (hin : meth.name = "<init>") (he : k t = some (.inr (4, fs))) (hn : narrow (tyX4 6) v = v) (hfit : fits (tyX4 6) v = true) (hl : 6 < fs.length) (hdg : decode cc pc = .ok (.putfield 20, 3)) (kk : ∀ (H1 : Heap) (locs1 : List Loc), h_W G.1 h_cl A H0 ad (h_cu k t (some (.inr (4, fs.set 6 v)))) H1 locs1 → W p l e R s m args below meth c H1 locs1 cells slots Q (F0 m (pc + 3) ls rest)) : W p l e R s m args below meth c H locs cells slots Q (F0 m pc ls (v :: .ref (ad t) :: rest)) := h_putF X hw he rfl in_X4 tyX4 tyX4_ok nmX4 6 (by decide) fl_X4_20 rfl rfl hin hn hfit hl hdg kk
theorem gf_X4_79 (X : h_X p s m args c cc nL RX4 G) (hw : h_W G.1 h_cl A H0 ad k H locs) (he : k t = some (.inr (4, fs))) (hv : fs[7]? = some v) (hdg : decode cc pc = .ok (.getfield 79, 3)) (kk : W p l e R s m args below meth c H locs cells slots Q (F0 m (pc + 3) ls (v :: rest))) : W p l e R s m args below meth c H locs cells slots Q (F0 m pc ls (.ref (ad t) :: rest)) := h_get X hw he rfl in_X4 7 (by decide) fl_X4_79 hv hdg kk
theorem pf_X4_79 (X : h_X p s m args c cc nL RX4 G) (hw : h_W G.1 h_cl A H0 ad k H locs) (he : k t = some (.inr (4, fs))) (hn : narrow (tyX4 7) v = v) (hfit : fits (tyX4 7) v = true) (hl : 7 < fs.length) (hdg : decode cc pc = .ok (.putfield 79, 3)) (kk : ∀ (H1 : Heap) (locs1 : List Loc), h_W G.1 h_cl A H0 ad (h_cu k t (some (.inr (4, fs.set 7 v)))) H1 locs1 → W p l e R s m args below meth c H1 locs1 cells slots Q (F0 m (pc + 3) ls rest)) : W p l e R s m args below meth c H locs cells slots Q (F0 m pc ls (v :: .ref (ad t) :: rest)) := h_put X hw he rfl in_X4 tyX4 tyX4_ok nmX4 7 (by decide) fl_X4_79 rfl hn hfit hl hdg kk
theorem gf_X4_23 (X : h_X p s m args c cc nL RX4 G) (hw : h_W G.1 h_cl A H0 ad k H locs) (he : k t = some (.inr (4, fs))) (hv : fs[8]? = some v) (hdg : decode cc pc = .ok (.getfield 23, 3)) (kk : W p l e R s m args below meth c H locs cells slots Q (F0 m (pc + 3) ls (v :: rest))) : W p l e R s m args below meth c H locs cells slots Q (F0 m pc ls (.ref (ad t) :: rest)) := h_get X hw he rfl in_X4 8 (by decide) fl_X4_23 hv hdg kk
theorem pf_X4_23 (X : h_X p s m args c cc nL RX4 G) (hw : h_W G.1 h_cl A H0 ad k H locs) (hin : meth.name = "<init>") (he : k t = some (.inr (4, fs))) (hn : narrow (tyX4 8) v = v) (hfit : fits (tyX4 8) v = true) (hl : 8 < fs.length) (hdg : decode cc pc = .ok (.putfield 23, 3)) (kk : ∀ (H1 : Heap) (locs1 : List Loc), h_W G.1 h_cl A H0 ad (h_cu k t (some (.inr (4, fs.set 8 v)))) H1 locs1 → W p l e R s m args below meth c H1 locs1 cells slots Q (F0 m (pc + 3) ls rest)) : W p l e R s m args below meth c H locs cells slots Q (F0 m pc ls (v :: .ref (ad t) :: rest)) := h_putF X hw he rfl in_X4 tyX4 tyX4_ok nmX4 8 (by decide) fl_X4_23 rfl rfl hin hn hfit hl hdg kk
theorem gf_X4_65 (X : h_X p s m args c cc nL RX4 G) (hw : h_W G.1 h_cl A H0 ad k H locs) (he : k t = some (.inr (4, fs))) (hv : fs[9]? = some v) (hdg : decode cc pc = .ok (.getfield 65, 3)) (kk : W p l e R s m args below meth c H locs cells slots Q (F0 m (pc + 3) ls (v :: rest))) : W p l e R s m args below meth c H locs cells slots Q (F0 m pc ls (.ref (ad t) :: rest)) := h_get X hw he rfl in_X4 9 (by decide) fl_X4_65 hv hdg kk
theorem pf_X4_65 (X : h_X p s m args c cc nL RX4 G) (hw : h_W G.1 h_cl A H0 ad k H locs) (he : k t = some (.inr (4, fs))) (hn : narrow (tyX4 9) v = v) (hfit : fits (tyX4 9) v = true) (hl : 9 < fs.length) (hdg : decode cc pc = .ok (.putfield 65, 3)) (kk : ∀ (H1 : Heap) (locs1 : List Loc), h_W G.1 h_cl A H0 ad (h_cu k t (some (.inr (4, fs.set 9 v)))) H1 locs1 → W p l e R s m args below meth c H1 locs1 cells slots Q (F0 m (pc + 3) ls rest)) : W p l e R s m args below meth c H locs cells slots Q (F0 m pc ls (v :: .ref (ad t) :: rest)) := h_put X hw he rfl in_X4 tyX4 tyX4_ok nmX4 9 (by decide) fl_X4_65 rfl hn hfit hl hdg kk
theorem gf_X4_27 (X : h_X p s m args c cc nL RX4 G) (hw : h_W G.1 h_cl A H0 ad k H locs) (he : k t = some (.inr (4, fs))) (hv : fs[10]? = some v) (hdg : decode cc pc = .ok (.getfield 27, 3)) (kk : W p l e R s m args below meth c H locs cells slots Q (F0 m (pc + 3) ls (v :: rest))) : W p l e R s m args below meth c H locs cells slots Q (F0 m pc ls (.ref (ad t) :: rest)) := h_get X hw he rfl in_X4 10 (by decide) fl_X4_27 hv hdg kk
theorem pf_X4_27 (X : h_X p s m args c cc nL RX4 G) (hw : h_W G.1 h_cl A H0 ad k H locs) (hin : meth.name = "<init>") (he : k t = some (.inr (4, fs))) (hn : narrow (tyX4 10) v = v) (hfit : fits (tyX4 10) v = true) (hl : 10 < fs.length) (hdg : decode cc pc = .ok (.putfield 27, 3)) (kk : ∀ (H1 : Heap) (locs1 : List Loc), h_W G.1 h_cl A H0 ad (h_cu k t (some (.inr (4, fs.set 10 v)))) H1 locs1 → W p l e R s m args below meth c H1 locs1 cells slots Q (F0 m (pc + 3) ls rest)) : W p l e R s m args below meth c H locs cells slots Q (F0 m pc ls (v :: .ref (ad t) :: rest)) := h_putF X hw he rfl in_X4 tyX4 tyX4_ok nmX4 10 (by decide) fl_X4_27 rfl rfl hin hn hfit hl hdg kk
theorem gf_X4_30 (X : h_X p s m args c cc nL RX4 G) (hw : h_W G.1 h_cl A H0 ad k H locs) (he : k t = some (.inr (4, fs))) (hv : fs[11]? = some v) (hdg : decode cc pc = .ok (.getfield 30, 3)) (kk : W p l e R s m args below meth c H locs cells slots Q (F0 m (pc + 3) ls (v :: rest))) : W p l e R s m args below meth c H locs cells slots Q (F0 m pc ls (.ref (ad t) :: rest)) := h_get X hw he rfl in_X4 11 (by decide) fl_X4_30 hv hdg kk
theorem pf_X4_30 (X : h_X p s m args c cc nL RX4 G) (hw : h_W G.1 h_cl A H0 ad k H locs) (hin : meth.name = "<init>") (he : k t = some (.inr (4, fs))) (hn : narrow (tyX4 11) v = v) (hfit : fits (tyX4 11) v = true) (hl : 11 < fs.length) (hdg : decode cc pc = .ok (.putfield 30, 3)) (kk : ∀ (H1 : Heap) (locs1 : List Loc), h_W G.1 h_cl A H0 ad (h_cu k t (some (.inr (4, fs.set 11 v)))) H1 locs1 → W p l e R s m args below meth c H1 locs1 cells slots Q (F0 m (pc + 3) ls rest)) : W p l e R s m args below meth c H locs cells slots Q (F0 m pc ls (v :: .ref (ad t) :: rest)) := h_putF X hw he rfl in_X4 tyX4 tyX4_ok nmX4 11 (by decide) fl_X4_30 rfl rfl hin hn hfit hl hdg kk
theorem gf_X4_33 (X : h_X p s m args c cc nL RX4 G) (hw : h_W G.1 h_cl A H0 ad k H locs) (he : k t = some (.inr (4, fs))) (hv : fs[12]? = some v) (hdg : decode cc pc = .ok (.getfield 33, 3)) (kk : W p l e R s m args below meth c H locs cells slots Q (F0 m (pc + 3) ls (v :: rest))) : W p l e R s m args below meth c H locs cells slots Q (F0 m pc ls (.ref (ad t) :: rest)) := h_get X hw he rfl in_X4 12 (by decide) fl_X4_33 hv hdg kk
theorem pf_X4_33 (X : h_X p s m args c cc nL RX4 G) (hw : h_W G.1 h_cl A H0 ad k H locs) (hin : meth.name = "<init>") (he : k t = some (.inr (4, fs))) (hn : narrow (tyX4 12) v = v) (hfit : fits (tyX4 12) v = true) (hl : 12 < fs.length) (hdg : decode cc pc = .ok (.putfield 33, 3)) (kk : ∀ (H1 : Heap) (locs1 : List Loc), h_W G.1 h_cl A H0 ad (h_cu k t (some (.inr (4, fs.set 12 v)))) H1 locs1 → W p l e R s m args below meth c H1 locs1 cells slots Q (F0 m (pc + 3) ls rest)) : W p l e R s m args below meth c H locs cells slots Q (F0 m pc ls (v :: .ref (ad t) :: rest)) := h_putF X hw he rfl in_X4 tyX4 tyX4_ok nmX4 12 (by decide) fl_X4_33 rfl rfl hin hn hfit hl hdg kk
theorem gf_X4_36 (X : h_X p s m args c cc nL RX4 G) (hw : h_W G.1 h_cl A H0 ad k H locs) (he : k t = some (.inr (4, fs))) (hv : fs[13]? = some v) (hdg : decode cc pc = .ok (.getfield 36, 3)) (kk : W p l e R s m args below meth c H locs cells slots Q (F0 m (pc + 3) ls (v :: rest))) : W p l e R s m args below meth c H locs cells slots Q (F0 m pc ls (.ref (ad t) :: rest)) := h_get X hw he rfl in_X4 13 (by decide) fl_X4_36 hv hdg kk
theorem pf_X4_36 (X : h_X p s m args c cc nL RX4 G) (hw : h_W G.1 h_cl A H0 ad k H locs) (hin : meth.name = "<init>") (he : k t = some (.inr (4, fs))) (hn : narrow (tyX4 13) v = v) (hfit : fits (tyX4 13) v = true) (hl : 13 < fs.length) (hdg : decode cc pc = .ok (.putfield 36, 3)) (kk : ∀ (H1 : Heap) (locs1 : List Loc), h_W G.1 h_cl A H0 ad (h_cu k t (some (.inr (4, fs.set 13 v)))) H1 locs1 → W p l e R s m args below meth c H1 locs1 cells slots Q (F0 m (pc + 3) ls rest)) : W p l e R s m args below meth c H locs cells slots Q (F0 m pc ls (v :: .ref (ad t) :: rest)) := h_putF X hw he rfl in_X4 tyX4 tyX4_ok nmX4 13 (by decide) fl_X4_36 rfl rfl hin hn hfit hl hdg kk
theorem gf_X4_96 (X : h_X p s m args c cc nL RX4 G) (hw : h_W G.1 h_cl A H0 ad k H locs) (he : k t = some (.inr (4, fs))) (hv : fs[14]? = some v) (hdg : decode cc pc = .ok (.getfield 96, 3)) (kk : W p l e R s m args below meth c H locs cells slots Q (F0 m (pc + 3) ls (v :: rest))) : W p l e R s m args below meth c H locs cells slots Q (F0 m pc ls (.ref (ad t) :: rest)) := h_get X hw he rfl in_X4 14 (by decide) fl_X4_96 hv hdg kk
theorem pf_X4_96 (X : h_X p s m args c cc nL RX4 G) (hw : h_W G.1 h_cl A H0 ad k H locs) (he : k t = some (.inr (4, fs))) (hn : narrow (tyX4 14) v = v) (hfit : fits (tyX4 14) v = true) (hl : 14 < fs.length) (hdg : decode cc pc = .ok (.putfield 96, 3)) (kk : ∀ (H1 : Heap) (locs1 : List Loc), h_W G.1 h_cl A H0 ad (h_cu k t (some (.inr (4, fs.set 14 v)))) H1 locs1 → W p l e R s m args below meth c H1 locs1 cells slots Q (F0 m (pc + 3) ls rest)) : W p l e R s m args below meth c H locs cells slots Q (F0 m pc ls (v :: .ref (ad t) :: rest)) := h_put X hw he rfl in_X4 tyX4 tyX4_ok nmX4 14 (by decide) fl_X4_96 rfl hn hfit hl hdg kk
theorem gf_X4_39 (X : h_X p s m args c cc nL RX4 G) (hw : h_W G.1 h_cl A H0 ad k H locs) (he : k t = some (.inr (4, fs))) (hv : fs[15]? = some v) (hdg : decode cc pc = .ok (.getfield 39, 3)) (kk : W p l e R s m args below meth c H locs cells slots Q (F0 m (pc + 3) ls (v :: rest))) : W p l e R s m args below meth c H locs cells slots Q (F0 m pc ls (.ref (ad t) :: rest)) := h_get X hw he rfl in_X4 15 (by decide) fl_X4_39 hv hdg kk
theorem pf_X4_39 (X : h_X p s m args c cc nL RX4 G) (hw : h_W G.1 h_cl A H0 ad k H locs) (hin : meth.name = "<init>") (he : k t = some (.inr (4, fs))) (hn : narrow (tyX4 15) v = v) (hfit : fits (tyX4 15) v = true) (hl : 15 < fs.length) (hdg : decode cc pc = .ok (.putfield 39, 3)) (kk : ∀ (H1 : Heap) (locs1 : List Loc), h_W G.1 h_cl A H0 ad (h_cu k t (some (.inr (4, fs.set 15 v)))) H1 locs1 → W p l e R s m args below meth c H1 locs1 cells slots Q (F0 m (pc + 3) ls rest)) : W p l e R s m args below meth c H locs cells slots Q (F0 m pc ls (v :: .ref (ad t) :: rest)) := h_putF X hw he rfl in_X4 tyX4 tyX4_ok nmX4 15 (by decide) fl_X4_39 rfl rfl hin hn hfit hl hdg kk
theorem gf_X4_42 (X : h_X p s m args c cc nL RX4 G) (hw : h_W G.1 h_cl A H0 ad k H locs) (he : k t = some (.inr (4, fs))) (hv : fs[16]? = some v) (hdg : decode cc pc = .ok (.getfield 42, 3)) (kk : W p l e R s m args below meth c H locs cells slots Q (F0 m (pc + 3) ls (v :: rest))) : W p l e R s m args below meth c H locs cells slots Q (F0 m pc ls (.ref (ad t) :: rest)) := h_get X hw he rfl in_X4 16 (by decide) fl_X4_42 hv hdg kk
theorem pf_X4_42 (X : h_X p s m args c cc nL RX4 G) (hw : h_W G.1 h_cl A H0 ad k H locs) (hin : meth.name = "<init>") (he : k t = some (.inr (4, fs))) (hn : narrow (tyX4 16) v = v) (hfit : fits (tyX4 16) v = true) (hl : 16 < fs.length) (hdg : decode cc pc = .ok (.putfield 42, 3)) (kk : ∀ (H1 : Heap) (locs1 : List Loc), h_W G.1 h_cl A H0 ad (h_cu k t (some (.inr (4, fs.set 16 v)))) H1 locs1 → W p l e R s m args below meth c H1 locs1 cells slots Q (F0 m (pc + 3) ls rest)) : W p l e R s m args below meth c H locs cells slots Q (F0 m pc ls (v :: .ref (ad t) :: rest)) := h_putF X hw he rfl in_X4 tyX4 tyX4_ok nmX4 16 (by decide) fl_X4_42 rfl rfl hin hn hfit hl hdg kk
theorem gf_X4_45 (X : h_X p s m args c cc nL RX4 G) (hw : h_W G.1 h_cl A H0 ad k H locs) (he : k t = some (.inr (4, fs))) (hv : fs[17]? = some v) (hdg : decode cc pc = .ok (.getfield 45, 3)) (kk : W p l e R s m args below meth c H locs cells slots Q (F0 m (pc + 3) ls (v :: rest))) : W p l e R s m args below meth c H locs cells slots Q (F0 m pc ls (.ref (ad t) :: rest)) := h_get X hw he rfl in_X4 17 (by decide) fl_X4_45 hv hdg kk
theorem pf_X4_45 (X : h_X p s m args c cc nL RX4 G) (hw : h_W G.1 h_cl A H0 ad k H locs) (hin : meth.name = "<init>") (he : k t = some (.inr (4, fs))) (hn : narrow (tyX4 17) v = v) (hfit : fits (tyX4 17) v = true) (hl : 17 < fs.length) (hdg : decode cc pc = .ok (.putfield 45, 3)) (kk : ∀ (H1 : Heap) (locs1 : List Loc), h_W G.1 h_cl A H0 ad (h_cu k t (some (.inr (4, fs.set 17 v)))) H1 locs1 → W p l e R s m args below meth c H1 locs1 cells slots Q (F0 m (pc + 3) ls rest)) : W p l e R s m args below meth c H locs cells slots Q (F0 m pc ls (v :: .ref (ad t) :: rest)) := h_putF X hw he rfl in_X4 tyX4 tyX4_ok nmX4 17 (by decide) fl_X4_45 rfl rfl hin hn hfit hl hdg kk
theorem gf_X4_48 (X : h_X p s m args c cc nL RX4 G) (hw : h_W G.1 h_cl A H0 ad k H locs) (he : k t = some (.inr (4, fs))) (hv : fs[18]? = some v) (hdg : decode cc pc = .ok (.getfield 48, 3)) (kk : W p l e R s m args below meth c H locs cells slots Q (F0 m (pc + 3) ls (v :: rest))) : W p l e R s m args below meth c H locs cells slots Q (F0 m pc ls (.ref (ad t) :: rest)) := h_get X hw he rfl in_X4 18 (by decide) fl_X4_48 hv hdg kk
theorem pf_X4_48 (X : h_X p s m args c cc nL RX4 G) (hw : h_W G.1 h_cl A H0 ad k H locs) (hin : meth.name = "<init>") (he : k t = some (.inr (4, fs))) (hn : narrow (tyX4 18) v = v) (hfit : fits (tyX4 18) v = true) (hl : 18 < fs.length) (hdg : decode cc pc = .ok (.putfield 48, 3)) (kk : ∀ (H1 : Heap) (locs1 : List Loc), h_W G.1 h_cl A H0 ad (h_cu k t (some (.inr (4, fs.set 18 v)))) H1 locs1 → W p l e R s m args below meth c H1 locs1 cells slots Q (F0 m (pc + 3) ls rest)) : W p l e R s m args below meth c H locs cells slots Q (F0 m pc ls (v :: .ref (ad t) :: rest)) := h_putF X hw he rfl in_X4 tyX4 tyX4_ok nmX4 18 (by decide) fl_X4_48 rfl rfl hin hn hfit hl hdg kk
theorem gf_X4_106 (X : h_X p s m args c cc nL RX4 G) (hw : h_W G.1 h_cl A H0 ad k H locs) (he : k t = some (.inr (4, fs))) (hv : fs[19]? = some v) (hdg : decode cc pc = .ok (.getfield 106, 3)) (kk : W p l e R s m args below meth c H locs cells slots Q (F0 m (pc + 3) ls (v :: rest))) : W p l e R s m args below meth c H locs cells slots Q (F0 m pc ls (.ref (ad t) :: rest)) := h_get X hw he rfl in_X4 19 (by decide) fl_X4_106 hv hdg kk
theorem pf_X4_106 (X : h_X p s m args c cc nL RX4 G) (hw : h_W G.1 h_cl A H0 ad k H locs) (he : k t = some (.inr (4, fs))) (hn : narrow (tyX4 19) v = v) (hfit : fits (tyX4 19) v = true) (hl : 19 < fs.length) (hdg : decode cc pc = .ok (.putfield 106, 3)) (kk : ∀ (H1 : Heap) (locs1 : List Loc), h_W G.1 h_cl A H0 ad (h_cu k t (some (.inr (4, fs.set 19 v)))) H1 locs1 → W p l e R s m args below meth c H1 locs1 cells slots Q (F0 m (pc + 3) ls rest)) : W p l e R s m args below meth c H locs cells slots Q (F0 m pc ls (v :: .ref (ad t) :: rest)) := h_put X hw he rfl in_X4 tyX4 tyX4_ok nmX4 19 (by decide) fl_X4_106 rfl hn hfit hl hdg kk
end WF
end
section
/-! ===== the state in mathematical words, and how the class holds it ===== -/
abbrev S_t : Type := (Nat × Nat × Nat) × ((Nat → Int32) × (Nat → Bool) × (Nat → Int32) × (Nat → Int32)) × ((Nat → Int32) × (Nat → Int32) × (Nat → Nat → Option (List Int32))) × (List Int32 × List (Int32 × Int32 × Int32) × Int32)
/-- copies wanted; stores; files -/
abbrev s_cop (σ : S_t) : Nat := σ.1.1
abbrev s_nS (σ : S_t) : Nat := σ.1.2.1
abbrev s_nF (σ : S_t) : Nat := σ.1.2.2
/-- of a store: its place, whether it is silent, its rate -/
abbrev s_pl (σ : S_t) : Nat → Int32 := σ.2.1.1
abbrev s_si (σ : S_t) : Nat → Bool := σ.2.1.2.1
abbrev s_up (σ : S_t) : Nat → Int32 := σ.2.1.2.2.1
abbrev s_dn (σ : S_t) : Nat → Int32 := σ.2.1.2.2.2
/-- of a file: its package, how often it was renewed; the copy on a store -/
abbrev s_pk (σ : S_t) : Nat → Int32 := σ.2.2.1.1
abbrev s_rn (σ : S_t) : Nat → Int32 := σ.2.2.1.2.1
abbrev s_cp (σ : S_t) : Nat → Nat → Option (List Int32) := σ.2.2.1.2.2
/-- what is collected; what was asked; the digest that was found -/
abbrev s_col (σ : S_t) : List Int32 := σ.2.2.2.1
abbrev s_as (σ : S_t) : List (Int32 × Int32 × Int32) := σ.2.2.2.2.1
abbrev s_dg (σ : S_t) : Int32 := σ.2.2.2.2.2
def bI (b : Bool) : Int32 := if b then 1 else 0
/-- what can be of the numbers -/
def s_ok (σ : S_t) : Prop := (1 ≤ s_cop σ ∧ s_cop σ ≤ 5) ∧ s_nS σ ≤ 10 ∧ s_nF σ ≤ 40 ∧ (s_col σ).length ≤ 16 ∧ (s_as σ).length ≤ 120 ∧
  (∀ s f, s_nS σ ≤ s ∨ s_nF σ ≤ f → s_cp σ s f = none) ∧ (∀ s f l, s_cp σ s f = some l → l.length ≤ 16) ∧
  (∀ s, s_nS σ ≤ s → s_si σ s = false ∧ s_up σ s = 0 ∧ s_dn σ s = 0) ∧ (∀ f, s_nF σ ≤ f → s_rn σ f = 0)
abbrev x_refs (f : Nat → Option Nat) : ((Nat → Int32) ⊕ (Nat → Int64) ⊕ (Nat → UInt32) ⊕ (Nat → UInt64) ⊕ (Nat → Option Nat)) := .inr (.inr (.inr (.inr f)))
/-- a Row that holds the bytes l -/
def x_row (G : h_G) (ad : h_T → Nat) (k : h_C) (t u : h_T) (l : List Int32) : Prop := k t = some (.inr (1, [.ref (ad u), .int (nI l.length)])) ∧ ∃ g : Nat → Int32, k u = some (.inl (G.2 0, 16, .inl g)) ∧ ∀ i, i < l.length → g i = l.getD i 0
def x_obj (ad : h_T → Nat) (σ : S_t) : List Value := [.int (nI (s_cop σ)), .ref (ad (1, 0, 0)), .int (nI (s_nS σ)), .ref (ad (2, 0, 0)), .int (nI (s_nF σ)), .ref (ad (3, 0, 0)), .ref (ad (4, 0, 0)), .ref (ad (5, 0, 0)), .ref (ad (5, 1, 0)), .ref (ad (5, 2, 0)), .int (nI (s_as σ).length), .int (s_dg σ)]
def x_sto (ad : h_T → Nat) (σ : S_t) : Nat → Option Nat := fun i => if i < s_nS σ then some (ad (6, i, 0)) else none
def x_ite (ad : h_T → Nat) (σ : S_t) : Nat → Option Nat := fun f => if f < s_nF σ then some (ad (7, f, 0)) else none
def x_rws (ad : h_T → Nat) (σ : S_t) (f : Nat) : Nat → Option Nat := fun s => (s_cp σ s f).map (fun _ => ad (9, s, f))
def x_st (k : h_C) (σ : S_t) (i : Nat) : Prop := k (6, i, 0) = some (.inr (2, [.int (s_pl σ i), .int (bI (!s_si σ i)), .int (s_up σ i), .int (s_dn σ i)]))
def x_it (G : h_G) (ad : h_T → Nat) (k : h_C) (σ : S_t) (f : Nat) : Prop := k (7, f, 0) = some (.inr (0, [.int (s_pk σ f), .ref (ad (8, f, 0)), .int (s_rn σ f)])) ∧ k (8, f, 0) = some (.inl (G.2 5, 10, x_refs (x_rws ad σ f)))
def x_ask (G : h_G) (k : h_C) (as : List (Int32 × Int32 × Int32)) : Prop := ∃ g0 g1 g2 : Nat → Int32, k (5, 0, 0) = some (.inl (G.2 0, 120, .inl g0)) ∧ k (5, 1, 0) = some (.inl (G.2 0, 120, .inl g1)) ∧ k (5, 2, 0) = some (.inl (G.2 0, 120, .inl g2)) ∧ ∀ i, i < as.length → (g0 i, g1 i, g2 i) = as.getD i (0, 0, 0)
/-- THE CLASS HOLDS THE STATE -/
def RX (G : h_G) (ad : h_T → Nat) (k : h_C) (σ : S_t) : Prop :=
  k (0, 0, 0) = some (.inr (3, x_obj ad σ)) ∧ k (1, 0, 0) = some (.inl (G.2 6, 10, x_refs (x_sto ad σ))) ∧ (∀ i, i < s_nS σ → x_st k σ i) ∧
  k (2, 0, 0) = some (.inl (G.2 4, 40, x_refs (x_ite ad σ))) ∧ (∀ f, f < s_nF σ → x_it G ad k σ f) ∧
  (∀ s f l, s_cp σ s f = some l → x_row G ad k (9, s, f) (10, s, f) l) ∧ x_row G ad k (3, 0, 0) (3, 1, 0) (s_col σ) ∧
  (∃ g : Nat → Int32, k (4, 0, 0) = some (.inl (G.2 0, 10, .inl g))) ∧ x_ask G k (s_as σ) ∧ s_ok σ
theorem RX.ok {G : h_G} {ad : h_T → Nat} {k : h_C} {σ : S_t} (h : RX G ad k σ) : s_ok σ := h.2.2.2.2.2.2.2.2.2
theorem x_row.congr {G : h_G} {ad ad' : h_T → Nat} {k k' : h_C} {t u : h_T} {l : List Int32} (h : x_row G ad k t u l) (ht : k' t = k t) (hu : k' u = k u) (ha : ad' u = ad u) : x_row G ad' k' t u l := by
  obtain ⟨h1, g, h2, h3⟩ := h
  exact ⟨by rw [ht, h1, ha], g, by rw [hu, h2], h3⟩
/-- the class's cells are as they were: it holds the same state -/
theorem RX.congr {G : h_G} {ad ad' : h_T → Nat} {k k' : h_C} {σ : S_t} (h : RX G ad k σ) (hk : ∀ t : h_T, t.1 < 20 → k t ≠ none → k' t = k t ∧ ad' t = ad t) : RX G ad' k' σ := by
  obtain ⟨h0, h1, h2, h3, h4, h5, h6, ⟨g, h7⟩, ⟨g0, g1, g2, h8, h9, h10, h11⟩, h12⟩ := h
  have e0 := hk (0, 0, 0) (by decide) (by rw [h0]; exact Option.some_ne_none _)
  have e1 := hk (1, 0, 0) (by decide) (by rw [h1]; exact Option.some_ne_none _)
  have e2 := hk (2, 0, 0) (by decide) (by rw [h3]; exact Option.some_ne_none _)
  have e3 := hk (3, 0, 0) (by decide) (by rw [h6.1]; exact Option.some_ne_none _)
  have e31 := hk (3, 1, 0) (by decide) (by obtain ⟨g', q, -⟩ := h6.2; rw [q]; exact Option.some_ne_none _)
  have e4 := hk (4, 0, 0) (by decide) (by rw [h7]; exact Option.some_ne_none _)
  have e5 := hk (5, 0, 0) (by decide) (by rw [h8]; exact Option.some_ne_none _)
  have e51 := hk (5, 1, 0) (by decide) (by rw [h9]; exact Option.some_ne_none _)
  have e52 := hk (5, 2, 0) (by decide) (by rw [h10]; exact Option.some_ne_none _)
  have eS : ∀ i, i < s_nS σ → k' (6, i, 0) = k (6, i, 0) ∧ ad' (6, i, 0) = ad (6, i, 0) := fun i hi => hk (6, i, 0) (by show 6 < 20; decide) (by rw [show k (6, i, 0) = _ from h2 i hi]; exact Option.some_ne_none _)
  have eI : ∀ f, f < s_nF σ → k' (7, f, 0) = k (7, f, 0) ∧ ad' (7, f, 0) = ad (7, f, 0) := fun f hf => hk (7, f, 0) (by show 7 < 20; decide) (by rw [(h4 f hf).1]; exact Option.some_ne_none _)
  have eR : ∀ f, f < s_nF σ → k' (8, f, 0) = k (8, f, 0) ∧ ad' (8, f, 0) = ad (8, f, 0) := fun f hf => hk (8, f, 0) (by show 8 < 20; decide) (by rw [(h4 f hf).2]; exact Option.some_ne_none _)
  have e9 : ∀ s f l, s_cp σ s f = some l → (k' (9, s, f) = k (9, s, f) ∧ ad' (9, s, f) = ad (9, s, f)) ∧ (k' (10, s, f) = k (10, s, f) ∧ ad' (10, s, f) = ad (10, s, f)) := fun s f l hl =>
    ⟨hk (9, s, f) (by show 9 < 20; decide) (by rw [(h5 s f l hl).1]; exact Option.some_ne_none _), hk (10, s, f) (by show 10 < 20; decide) (by obtain ⟨g', q, -⟩ := (h5 s f l hl).2; rw [q]; exact Option.some_ne_none _)⟩
  refine ⟨?_, ?_, fun i hi => ?_, ?_, fun f hf => ⟨?_, ?_⟩, fun s f l hl => (h5 s f l hl).congr (e9 s f l hl).1.1 (e9 s f l hl).2.1 (e9 s f l hl).2.2, h6.congr e3.1 e31.1 e31.2, ⟨g, by rw [e4.1, h7]⟩, ⟨g0, g1, g2, by rw [e5.1, h8], by rw [e51.1, h9], by rw [e52.1, h10], h11⟩, h12⟩
  · rw [e0.1, h0]; simp only [x_obj, e1.2, e2.2, e3.2, e4.2, e5.2, e51.2, e52.2]
  · rw [e1.1, h1]
    have : x_sto ad' σ = x_sto ad σ := by
      funext i
      unfold x_sto
      by_cases hi : i < s_nS σ
      · rw [if_pos hi, if_pos hi, (eS i hi).2]
      · rw [if_neg hi, if_neg hi]
    rw [this]
  · exact (eS i hi).1.trans (h2 i hi)
  · rw [e2.1, h3]
    have : x_ite ad' σ = x_ite ad σ := by
      funext i
      unfold x_ite
      by_cases hi : i < s_nF σ
      · rw [if_pos hi, if_pos hi, (eI i hi).2]
      · rw [if_neg hi, if_neg hi]
    rw [this]
  · rw [(eI f hf).1, (h4 f hf).1, (eR f hf).2]
  · rw [(eR f hf).1, (h4 f hf).2]
    have : x_rws ad' σ f = x_rws ad σ f := by
      funext s
      unfold x_rws
      cases hc : s_cp σ s f with
      | none => rfl
      | some l => simp only [Option.map_some, (e9 s f l hc).1.2]
    rw [this]
/-! numbers that name something -/
def ix (x : Int32) (n : Nat) : Option Nat := if 0 ≤ x.toInt ∧ x.toInt < n then some x.toInt.toNat else none
theorem ix_nI {j n : Nat} (h : j < n) (hn : n < 2 ^ 31) : ix (nI j) n = some j := by
  unfold ix
  rw [nI_toInt (by omega), if_pos (by omega)]
  simp
theorem ix_cases (x : Int32) {n : Nat} (hn : n < 2 ^ 31) : (ix x n = none ∧ x < 0) ∨ (ix x n = none ∧ ¬ x < 0 ∧ nI n ≤ x) ∨ ∃ j, j < n ∧ x = nI j ∧ ix x n = some j := by
  rcases pk_ix x hn with h | h | ⟨j, h1, h2⟩
  · left
    have : x.toInt < 0 := by simpa using Int32.lt_iff_toInt_lt.mp h
    exact ⟨by unfold ix; rw [if_neg (by omega)], h⟩
  · right; left
    have h3 := Int32.le_iff_toInt_le.mp h
    rw [nI_toInt hn] at h3
    refine ⟨by unfold ix; rw [if_neg (by omega)], fun q => ?_, h⟩
    have : x.toInt < 0 := by simpa using Int32.lt_iff_toInt_lt.mp q
    omega
  · right; right
    exact ⟨j, h1, h2, by rw [h2]; exact ix_nI h1 hn⟩
section TOPS
variable {p : Program} {l : Launch} {e : Env} {R : Room} {s : State} {m : MethodId} {args : Array Value} {below : List Frame} {meth : Method} {c : Code} {H : Heap} {locs : List Loc} {cells slots : Nat} {Q : State → Prop} {pc : Nat} {ls : Array Slot} {rest : List Value}
theorem h_tv {a b : Value} (h : a = b) (kk : W p l e R s m args below meth c H locs cells slots Q (F0 m pc ls (b :: rest))) : W p l e R s m args below meth c H locs cells slots Q (F0 m pc ls (a :: rest)) := h ▸ kk
theorem h_ti {a b : Int32} (h : a = b) (kk : W p l e R s m args below meth c H locs cells slots Q (F0 m pc ls (.int b :: rest))) : W p l e R s m args below meth c H locs cells slots Q (F0 m pc ls (.int a :: rest)) := h ▸ kk
theorem h_tl {a b : Int64} (h : a = b) (kk : W p l e R s m args below meth c H locs cells slots Q (F0 m pc ls (.long b :: rest))) : W p l e R s m args below meth c H locs cells slots Q (F0 m pc ls (.long a :: rest)) := h ▸ kk
end TOPS
end
section
/-! ===== counting, the first that fits, digests ===== -/
def cN (P : Nat → Bool) : Nat → Nat
  | 0 => 0
  | n + 1 => cN P n + (if P n then 1 else 0)
theorem cN_t {P : Nat → Bool} {n : Nat} (h : P n = true) : cN P (n + 1) = cN P n + 1 := by simp [cN, h]
theorem cN_f {P : Nat → Bool} {n : Nat} (h : P n = false) : cN P (n + 1) = cN P n := by simp [cN, h]
theorem cN_le (P : Nat → Bool) : ∀ n, cN P n ≤ n
  | 0 => Nat.le_refl _
  | n + 1 => by
    have := cN_le P n
    unfold cN
    split <;> omega
theorem cN_congr {P P' : Nat → Bool} : ∀ {n : Nat}, (∀ i, i < n → P i = P' i) → cN P n = cN P' n
  | 0, _ => rfl
  | n + 1, h => by
    unfold cN
    rw [cN_congr (fun i hi => h i (by omega)), h n (by omega)]
theorem cN_none {P : Nat → Bool} : ∀ {n : Nat}, (∀ i, i < n → P i = false) → cN P n = 0
  | 0, _ => rfl
  | n + 1, h => by rw [cN_f (h n (by omega)), cN_none (fun i hi => h i (by omega))]
theorem cN_more {P : Nat → Bool} {n : Nat} : ∀ {d : Nat}, (∀ i, n ≤ i → i < n + d → P i = false) → cN P (n + d) = cN P n
  | 0, _ => rfl
  | d + 1, h => by
    show cN P ((n + d) + 1) = _
    rw [cN_f (h (n + d) (by omega) (by omega)), cN_more (fun i h1 h2 => h i h1 (by omega))]
def ff (P : Nat → Bool) : Nat → Option Nat
  | 0 => none
  | n + 1 => match ff P n with
    | some j => some j
    | none => if P n then some n else none
theorem ff_miss {P : Nat → Bool} : ∀ {n : Nat}, (∀ i, i < n → P i = false) → ff P n = none
  | 0, _ => rfl
  | n + 1, h => by
    unfold ff
    rw [ff_miss (fun i hi => h i (by omega))]
    simp [h n (by omega)]
theorem ff_hit {P : Nat → Bool} {j : Nat} (h : ∀ i, i < j → P i = false) (hj : P j = true) : ∀ {n : Nat}, j < n → ff P n = some j
  | 0, hn => absurd hn (Nat.not_lt_zero _)
  | n + 1, hn => by
    unfold ff
    by_cases hjn : j = n
    · subst hjn
      rw [ff_miss h]
      simp [hj]
    · rw [ff_hit h hj (n := n) (by omega)]
theorem ff_spec {P : Nat → Bool} : ∀ {n j : Nat}, ff P n = some j → j < n ∧ P j = true ∧ ∀ i, i < j → P i = false
  | 0, j, h => by cases h
  | n + 1, j, h => by
    unfold ff at h
    cases hf : ff P n with
    | some i =>
      rw [hf] at h
      cases h
      obtain ⟨h1, h2, h3⟩ := ff_spec hf
      exact ⟨by omega, h2, h3⟩
    | none =>
      rw [hf] at h
      dsimp only at h
      split at h
      · rename_i hP
        cases h
        refine ⟨Nat.lt_succ_self _, hP, fun i hi => ?_⟩
        cases hi' : P i with
        | false => rfl
        | true =>
          exfalso
          obtain ⟨k, hk1, hk2⟩ := pk_least (fun k => P k = true) ⟨i, hi'⟩
          have hki : k ≤ i := Nat.le_of_not_lt (fun q => hk2 i q hi')
          have := ff_hit (P := P) (j := k) (fun a ha => by cases hz : P a with
            | false => rfl
            | true => exact absurd hz (hk2 a ha)) hk1 (n := n) (by omega)
          rw [hf] at this
          cases this
      · cases h
theorem ff_none {P : Nat → Bool} {n : Nat} (h : ff P n = none) : ∀ i, i < n → P i = false := by
  intro i hi
  cases hi' : P i with
  | false => rfl
  | true =>
    exfalso
    obtain ⟨k, hk1, hk2⟩ := pk_least (fun k => P k = true) ⟨i, hi'⟩
    have hki : k ≤ i := Nat.le_of_not_lt (fun q => hk2 i q hi')
    have := ff_hit (P := P) (j := k) (fun a ha => by cases hz : P a with
      | false => rfl
      | true => exact absurd hz (hk2 a ha)) hk1 (n := n) (by omega)
    rw [h] at this
    cases this
theorem ff_congr {P P' : Nat → Bool} : ∀ {n : Nat}, (∀ i, i < n → P i = P' i) → ff P n = ff P' n
  | 0, _ => rfl
  | n + 1, h => by
    unfold ff
    rw [ff_congr (fun i hi => h i (by omega)), h n (by omega)]
/-- the digest of the first n bytes, before the end -/
def dgP (l : List Int32) : Nat → Int32
  | 0 => 7
  | n + 1 => 31 * dgP l n + l.getD n 0
def dgL (l : List Int32) : Int32 := dgP l l.length ^^^ nI l.length
/-- the copy of file f on store s if it counts -/
def s_cnt (σ : S_t) (s f : Nat) : Option (List Int32) := if s_si σ s then none else s_cp σ s f
def s_isC (σ : S_t) (f : Nat) : Nat → Bool := fun s => (s_cnt σ s f).isSome
def s_isD (σ : S_t) (f : Nat) (d : Int32) : Nat → Bool := fun s => match s_cnt σ s f with
  | some l => decide (dgL l = d)
  | none => false
def s_maj (σ : S_t) (f : Nat) : Nat → Bool := fun s => match s_cnt σ s f with
  | some l => decide (cN (s_isC σ f) (s_nS σ) < 2 * cN (s_isD σ f (dgL l)) (s_nS σ))
  | none => false
def s_lead (σ : S_t) (f : Nat) : Option Nat := ff (s_maj σ f) (s_nS σ)
def s_has (σ : S_t) (s f : Nat) : Bool := (s_cp σ s f).isSome
theorem bI_t : bI true = 1 := rfl
theorem bI_f : bI false = 0 := rfl
theorem s_lead_spec {σ : S_t} {f s : Nat} (h : s_lead σ f = some s) : s < s_nS σ ∧ ∃ l, s_cnt σ s f = some l := by
  obtain ⟨h1, h2, -⟩ := ff_spec h
  refine ⟨h1, ?_⟩
  unfold s_maj at h2
  cases hc : s_cnt σ s f with
  | none => rw [hc] at h2; cases h2
  | some l => exact ⟨l, rfl⟩
theorem s_cnt_cp {σ : S_t} {s f : Nat} {l : List Int32} (h : s_cnt σ s f = some l) : s_cp σ s f = some l ∧ s_si σ s = false := by
  unfold s_cnt at h
  split at h
  · cases h
  · rename_i hs
    exact ⟨h, by simpa using hs⟩
end
section
set_option maxHeartbeats 4000000 in
set_option maxRecDepth 100000 in
/-- storeOf: the store of that number, or null -/
theorem c_X3_storeOf (l : Launch) (G : h_G) {ad : h_T → Nat} {k : h_C} {σ : S_t} (hR : RX G ad k σ) (x : Int32) : h_Rd l yX3_storeOf cX3_storeOf 2 (some (.object "CopyPolls$Store")) 0 0 G ad k [.ref (ad (0, 0, 0)), .int x] (some (va_rf ((ix x (s_nS σ)).map (fun i => ad (6, i, 0))))) := by
  refine h_rd (by decide +kernel) (Nat.le_of_ble_eq_true rfl) ?_
  intro p e s m args below meth c X Y hw ls hl
  have hl : lv_has ls 2 [(0, .ref (ad (0, 0, 0))), (1, .int x)] := hl
  have hok := hR.ok
  obtain ⟨hx, hs, hst, hi, hit, hcp, hcol, hmx, hask, -⟩ := id hR
  have hx : k (0, 0, 0) = some (.inr (3, [.int (nI (s_cop σ)), .ref (ad (1, 0, 0)), .int (nI (s_nS σ)), .ref (ad (2, 0, 0)), .int (nI (s_nF σ)), .ref (ad (3, 0, 0)), .ref (ad (4, 0, 0)), .ref (ad (5, 0, 0)), .ref (ad (5, 1, 0)), .ref (ad (5, 2, 0)), .int (nI (s_as σ).length), .int (s_dg σ)])) := hx
  have hnS : s_nS σ ≤ 10 := hok.2.1
  have hnF : s_nF σ ≤ 40 := hok.2.2.1
  rcases ix_cases x (n := s_nS σ) (by omega) with ⟨e0, h0⟩ | ⟨e0, h0, h1⟩ | ⟨j, hj, rfl, e0⟩
  · rw [e0]
    refine lv_iload_n X.1 X.2.1 dX3_storeOf_0 rfl (lv_at hl 1 rfl) ?_
    refine lv_if_lt (tgt := 21) X.1 X.2.1 dX3_storeOf_1 (by decide) (fun c1 => ?_) (fun c1 => ?_)
    · refine lv_null X.1 X.2.1 dX3_storeOf_21 ?_
      exact h_aret (o := none) X Y dX3_storeOf_22
    · exact absurd h0 c1
  · rw [e0]
    refine lv_iload_n X.1 X.2.1 dX3_storeOf_0 rfl (lv_at hl 1 rfl) ?_
    refine lv_if_lt (tgt := 21) X.1 X.2.1 dX3_storeOf_1 (by decide) (fun c1 => ?_) (fun c1 => ?_)
    · exact absurd c1 h0
    · refine lv_iload_n X.1 X.2.1 dX3_storeOf_4 rfl (lv_at hl 1 rfl) ?_
      refine lv_aload_n X.1 X.2.1 dX3_storeOf_5 rfl (lv_at hl 0 rfl) ?_
      refine gf_X3_15 X hw hx rfl dX3_storeOf_6 ?_
      refine lv_icmp_ge (tgt := 21) X.1 X.2.1 dX3_storeOf_9 (by decide) (fun c9 => ?_) (fun c9 => ?_)
      · refine lv_null X.1 X.2.1 dX3_storeOf_21 ?_
        exact h_aret (o := none) X Y dX3_storeOf_22
      · exact absurd h1 c9
  · rw [e0]
    refine lv_iload_n X.1 X.2.1 dX3_storeOf_0 rfl (lv_at hl 1 rfl) ?_
    refine lv_if_lt (tgt := 21) X.1 X.2.1 dX3_storeOf_1 (by decide) (fun c1 => ?_) (fun c1 => ?_)
    · exact absurd c1 (nI_pos (by omega))
    · refine lv_iload_n X.1 X.2.1 dX3_storeOf_4 rfl (lv_at hl 1 rfl) ?_
      refine lv_aload_n X.1 X.2.1 dX3_storeOf_5 rfl (lv_at hl 0 rfl) ?_
      refine gf_X3_15 X hw hx rfl dX3_storeOf_6 ?_
      refine lv_icmp_ge (tgt := 21) X.1 X.2.1 dX3_storeOf_9 (by decide) (fun c9 => ?_) (fun c9 => ?_)
      · exact absurd c9 (nI_ge hj (by omega))
      · refine lv_aload_n X.1 X.2.1 dX3_storeOf_12 rfl (lv_at hl 0 rfl) ?_
        refine gf_X3_11 X hw hx rfl dX3_storeOf_13 ?_
        refine lv_iload_n X.1 X.2.1 dX3_storeOf_16 rfl (lv_at hl 1 rfl) ?_
        refine h_aald X hw 6 rfl hs (vp_in_nI (by omega) (by decide)) dX3_storeOf_17 ?_
        refine h_tv (b := .ref (ad (6, j, 0))) (by rw [nI_clamp (by omega)]; simp only [x_sto, if_pos hj, va_rf]) ?_
        refine lv_goto (tgt := 22) X.1 X.2.1 dX3_storeOf_18 (by decide) ?_
        exact h_aret (o := some (ad (6, j, 0))) X Y dX3_storeOf_22
set_option maxHeartbeats 4000000 in
set_option maxRecDepth 100000 in
/-- itemOf: the file of that number, or null -/
theorem c_X3_itemOf (l : Launch) (G : h_G) {ad : h_T → Nat} {k : h_C} {σ : S_t} (hR : RX G ad k σ) (x : Int32) : h_Rd l yX3_itemOf cX3_itemOf 2 (some (.object "CopyPolls$Item")) 0 0 G ad k [.ref (ad (0, 0, 0)), .int x] (some (va_rf ((ix x (s_nF σ)).map (fun i => ad (7, i, 0))))) := by
  refine h_rd (by decide +kernel) (Nat.le_of_ble_eq_true rfl) ?_
  intro p e s m args below meth c X Y hw ls hl
  have hl : lv_has ls 2 [(0, .ref (ad (0, 0, 0))), (1, .int x)] := hl
  have hok := hR.ok
  obtain ⟨hx, hs, hst, hi, hit, hcp, hcol, hmx, hask, -⟩ := id hR
  have hx : k (0, 0, 0) = some (.inr (3, [.int (nI (s_cop σ)), .ref (ad (1, 0, 0)), .int (nI (s_nS σ)), .ref (ad (2, 0, 0)), .int (nI (s_nF σ)), .ref (ad (3, 0, 0)), .ref (ad (4, 0, 0)), .ref (ad (5, 0, 0)), .ref (ad (5, 1, 0)), .ref (ad (5, 2, 0)), .int (nI (s_as σ).length), .int (s_dg σ)])) := hx
  have hnS : s_nS σ ≤ 10 := hok.2.1
  have hnF : s_nF σ ≤ 40 := hok.2.2.1
  rcases ix_cases x (n := s_nF σ) (by omega) with ⟨e0, h0⟩ | ⟨e0, h0, h1⟩ | ⟨j, hj, rfl, e0⟩
  · rw [e0]
    refine lv_iload_n X.1 X.2.1 dX3_itemOf_0 rfl (lv_at hl 1 rfl) ?_
    refine lv_if_lt (tgt := 21) X.1 X.2.1 dX3_itemOf_1 (by decide) (fun c1 => ?_) (fun c1 => ?_)
    · refine lv_null X.1 X.2.1 dX3_itemOf_21 ?_
      exact h_aret (o := none) X Y dX3_itemOf_22
    · exact absurd h0 c1
  · rw [e0]
    refine lv_iload_n X.1 X.2.1 dX3_itemOf_0 rfl (lv_at hl 1 rfl) ?_
    refine lv_if_lt (tgt := 21) X.1 X.2.1 dX3_itemOf_1 (by decide) (fun c1 => ?_) (fun c1 => ?_)
    · exact absurd c1 h0
    · refine lv_iload_n X.1 X.2.1 dX3_itemOf_4 rfl (lv_at hl 1 rfl) ?_
      refine lv_aload_n X.1 X.2.1 dX3_itemOf_5 rfl (lv_at hl 0 rfl) ?_
      refine gf_X3_25 X hw hx rfl dX3_itemOf_6 ?_
      refine lv_icmp_ge (tgt := 21) X.1 X.2.1 dX3_itemOf_9 (by decide) (fun c9 => ?_) (fun c9 => ?_)
      · refine lv_null X.1 X.2.1 dX3_itemOf_21 ?_
        exact h_aret (o := none) X Y dX3_itemOf_22
      · exact absurd h1 c9
  · rw [e0]
    refine lv_iload_n X.1 X.2.1 dX3_itemOf_0 rfl (lv_at hl 1 rfl) ?_
    refine lv_if_lt (tgt := 21) X.1 X.2.1 dX3_itemOf_1 (by decide) (fun c1 => ?_) (fun c1 => ?_)
    · exact absurd c1 (nI_pos (by omega))
    · refine lv_iload_n X.1 X.2.1 dX3_itemOf_4 rfl (lv_at hl 1 rfl) ?_
      refine lv_aload_n X.1 X.2.1 dX3_itemOf_5 rfl (lv_at hl 0 rfl) ?_
      refine gf_X3_25 X hw hx rfl dX3_itemOf_6 ?_
      refine lv_icmp_ge (tgt := 21) X.1 X.2.1 dX3_itemOf_9 (by decide) (fun c9 => ?_) (fun c9 => ?_)
      · exact absurd c9 (nI_ge hj (by omega))
      · refine lv_aload_n X.1 X.2.1 dX3_itemOf_12 rfl (lv_at hl 0 rfl) ?_
        refine gf_X3_21 X hw hx rfl dX3_itemOf_13 ?_
        refine lv_iload_n X.1 X.2.1 dX3_itemOf_16 rfl (lv_at hl 1 rfl) ?_
        refine h_aald X hw 4 rfl hi (vp_in_nI (by omega) (by decide)) dX3_itemOf_17 ?_
        refine h_tv (b := .ref (ad (7, j, 0))) (by rw [nI_clamp (by omega)]; simp only [x_ite, if_pos hj, va_rf]) ?_
        refine lv_goto (tgt := 22) X.1 X.2.1 dX3_itemOf_18 (by decide) ?_
        exact h_aret (o := some (ad (7, j, 0))) X Y dX3_itemOf_22
end
section
theorem ix_lt {x : Int32} {n i : Nat} (h : ix x n = some i) : i < n := by
  unfold ix at h
  split at h
  · cases h; omega
  · cases h
set_option maxHeartbeats 4000000 in
set_option maxRecDepth 100000 in
/-- Row.sum: the digest -/
theorem c_X1_sum (l : Launch) (G : h_G) {ad : h_T → Nat} {k : h_C} {t u : h_T} {b : List Int32} (hb : x_row G ad k t u b) (hlen : b.length ≤ 16)  : h_Rd l yX1_sum cX1_sum 3 (some .int) 0 0 G ad k [.ref (ad t)] (some (.int (dgL b))) := by
  refine h_rd (by decide +kernel) (Nat.le_of_ble_eq_true rfl) ?_
  intro p e s m args below meth c X Y hw ls hl
  have hl : lv_has ls 3 [(0, .ref (ad t))] := hl
  obtain ⟨g, hg, hgi⟩ := hb.2
  have loop : ∀ (n i : Nat), i ≤ b.length → b.length + 1 ≤ i + n → ∀ (ls : Array Slot), lv_has ls 3 [(0, .ref (ad t)), (1, .int (dgP b i)), (2, .int (nI i))] → W p l e (h_rm 0 0 0 0) s m args below meth c s.heap [] 0 0 (MQ below (h_Qr (some (.int (dgL b)))) args s 0 0 (fun _ => False)) (F0 m 5 ls []) := by
    intro n
    induction n with
    | zero =>
      intro i h1 h2
      exact absurd h2 (by omega)
    | succ n ih =>
      intro i hii hni ls hl
      refine lv_iload_n X.1 X.2.1 dX1_sum_5 rfl (lv_at hl 2 rfl) ?_
      refine lv_aload_n X.1 X.2.1 dX1_sum_6 rfl (lv_at hl 0 rfl) ?_
      refine gf_X1_15 X hw hb.1 rfl dX1_sum_7 ?_
      refine lv_icmp_ge (tgt := 31) X.1 X.2.1 dX1_sum_10 (by decide) (fun c10 => ?_) (fun c10 => ?_)
      · obtain rfl : i = b.length := Nat.le_antisymm hii (Nat.le_of_not_lt (fun q => absurd c10 (nI_ge q (by omega))))
        refine lv_iload_n X.1 X.2.1 dX1_sum_31 rfl (lv_at hl 1 rfl) ?_
        refine lv_aload_n X.1 X.2.1 dX1_sum_32 rfl (lv_at hl 0 rfl) ?_
        refine gf_X1_15 X hw hb.1 rfl dX1_sum_33 ?_
        refine lv_ixor X.1 X.2.1 dX1_sum_36 ?_
        exact h_iret X Y dX1_sum_37
      · have hib : i < b.length := Nat.lt_of_not_le (fun q => c10 (nI_le q (by omega)))
        refine lv_bipush (v := 31) X.1 X.2.1 dX1_sum_13 (by decide) ?_
        refine lv_iload_n X.1 X.2.1 dX1_sum_15 rfl (lv_at hl 1 rfl) ?_
        refine lv_imul X.1 X.2.1 dX1_sum_16 ?_
        refine lv_aload_n X.1 X.2.1 dX1_sum_17 rfl (lv_at hl 0 rfl) ?_
        refine gf_X1_9 X hw hb.1 rfl dX1_sum_18 ?_
        refine lv_iload_n X.1 X.2.1 dX1_sum_21 rfl (lv_at hl 2 rfl) ?_
        refine h_iald X hw hg (vp_in_nI (by omega) (by decide)) dX1_sum_22 ?_
        refine h_tv (b := .int (b.getD i 0)) (by rw [nI_clamp (by omega), hgi i hib]) ?_
        refine lv_iadd X.1 X.2.1 dX1_sum_23 ?_
        refine lv_istore_n (lv' := [(1, .int ((31 * dgP b i) + b.getD i 0)), (0, .ref (ad t)), (2, .int (nI i))]) X.1 X.2.1 dX1_sum_24 rfl hl (by decide) rfl (fun ls hl => ?_)
        refine lv_iinc (v := nI (i + 1)) (lv' := [(2, .int (nI (i + 1))), (1, .int ((31 * dgP b i) + b.getD i 0)), (0, .ref (ad t))]) X.1 X.2.1 dX1_sum_25 hl (k := 2) rfl (nI_1 _) (by decide) rfl (fun ls hl => ?_)
        refine lv_goto (tgt := 5) X.1 X.2.1 dX1_sum_28 (by decide) ?_
        exact ih (i + 1) (by omega) (by omega) ls (lv_sub hl [2, 1, 0] rfl)
  refine lv_bipush (v := 7) X.1 X.2.1 dX1_sum_0 (by decide) ?_
  refine lv_istore_n (lv' := [(1, .int 7), (0, .ref (ad t))]) X.1 X.2.1 dX1_sum_2 rfl hl (by decide) rfl (fun ls hl => ?_)
  refine lv_iconst (v := 0) X.1 X.2.1 dX1_sum_3 (by decide) ?_
  refine lv_istore_n (lv' := [(2, .int 0), (1, .int 7), (0, .ref (ad t))]) X.1 X.2.1 dX1_sum_4 rfl hl (by decide) rfl (fun ls hl => ?_)
  exact loop (b.length + 1) 0 (by omega) (by omega) ls (lv_sub hl [2, 1, 0] rfl)
set_option maxHeartbeats 4000000 in
set_option maxRecDepth 100000 in
/-- Row.has -/
theorem c_X1_has (l : Launch) (G : h_G) {ad : h_T → Nat} {k : h_C} {t u : h_T} {b : List Int32} (hb : x_row G ad k t u b) (hlen : b.length ≤ 16) (x : Int32) : h_Rd l yX1_has cX1_has 2 (some .boolean) 0 0 G ad k [.ref (ad t), .int x] (some (.int (bI (ix x b.length).isSome))) := by
  refine h_rd (by decide +kernel) (Nat.le_of_ble_eq_true rfl) ?_
  intro p e s m args below meth c X Y hw ls hl
  have hl : lv_has ls 2 [(0, .ref (ad t)), (1, .int x)] := hl
  rcases ix_cases x (n := b.length) (by omega) with ⟨e0, h0⟩ | ⟨e0, h0, h1⟩ | ⟨j, hj, rfl, e0⟩
  · rw [e0]
    refine lv_iload_n X.1 X.2.1 dX1_has_0 rfl (lv_at hl 1 rfl) ?_
    refine lv_if_lt (tgt := 16) X.1 X.2.1 dX1_has_1 (by decide) (fun c1 => ?_) (fun c1 => ?_)
    · refine lv_iconst (v := 0) X.1 X.2.1 dX1_has_16 (by decide) ?_
      exact h_zret (v := 0) X Y (by decide) dX1_has_17
    · exact absurd h0 c1
  · rw [e0]
    refine lv_iload_n X.1 X.2.1 dX1_has_0 rfl (lv_at hl 1 rfl) ?_
    refine lv_if_lt (tgt := 16) X.1 X.2.1 dX1_has_1 (by decide) (fun c1 => ?_) (fun c1 => ?_)
    · exact absurd c1 h0
    · refine lv_iload_n X.1 X.2.1 dX1_has_4 rfl (lv_at hl 1 rfl) ?_
      refine lv_aload_n X.1 X.2.1 dX1_has_5 rfl (lv_at hl 0 rfl) ?_
      refine gf_X1_15 X hw hb.1 rfl dX1_has_6 ?_
      refine lv_icmp_ge (tgt := 16) X.1 X.2.1 dX1_has_9 (by decide) (fun c9 => ?_) (fun c9 => ?_)
      · refine lv_iconst (v := 0) X.1 X.2.1 dX1_has_16 (by decide) ?_
        exact h_zret (v := 0) X Y (by decide) dX1_has_17
      · exact absurd h1 c9
  · rw [e0]
    refine lv_iload_n X.1 X.2.1 dX1_has_0 rfl (lv_at hl 1 rfl) ?_
    refine lv_if_lt (tgt := 16) X.1 X.2.1 dX1_has_1 (by decide) (fun c1 => ?_) (fun c1 => ?_)
    · exact absurd c1 (nI_pos (by omega))
    · refine lv_iload_n X.1 X.2.1 dX1_has_4 rfl (lv_at hl 1 rfl) ?_
      refine lv_aload_n X.1 X.2.1 dX1_has_5 rfl (lv_at hl 0 rfl) ?_
      refine gf_X1_15 X hw hb.1 rfl dX1_has_6 ?_
      refine lv_icmp_ge (tgt := 16) X.1 X.2.1 dX1_has_9 (by decide) (fun c9 => ?_) (fun c9 => ?_)
      · exact absurd c9 (nI_ge hj (by omega))
      · refine lv_iconst (v := 1) X.1 X.2.1 dX1_has_12 (by decide) ?_
        refine lv_goto (tgt := 17) X.1 X.2.1 dX1_has_13 (by decide) ?_
        exact h_zret (v := 1) X Y (by decide) dX1_has_17
set_option maxHeartbeats 4000000 in
set_option maxRecDepth 100000 in
/-- isPackage -/
theorem c_X3_isPackage (l : Launch) (G : h_G) {ad : h_T → Nat} {k : h_C} (x : Int32) : h_Rd l yX3_isPackage cX3_isPackage 1 (some .boolean) 0 0 G ad k [.int x] (some (.int (bI (ix x 10).isSome))) := by
  refine h_rd (by decide +kernel) (Nat.le_of_ble_eq_true rfl) ?_
  intro p e s m args below meth c X Y hw ls hl
  have hl : lv_has ls 1 [(0, .int x)] := hl
  rcases ix_cases x (n := 10) (by omega) with ⟨e0, h0⟩ | ⟨e0, h0, h1⟩ | ⟨j, hj, rfl, e0⟩
  · rw [e0]
    refine lv_iload_n X.1 X.2.1 dX3_isPackage_0 rfl (lv_at hl 0 rfl) ?_
    refine lv_if_lt (tgt := 14) X.1 X.2.1 dX3_isPackage_1 (by decide) (fun c1 => ?_) (fun c1 => ?_)
    · refine lv_iconst (v := 0) X.1 X.2.1 dX3_isPackage_14 (by decide) ?_
      exact h_zret (v := 0) X Y (by decide) dX3_isPackage_15
    · exact absurd h0 c1
  · rw [e0]
    refine lv_iload_n X.1 X.2.1 dX3_isPackage_0 rfl (lv_at hl 0 rfl) ?_
    refine lv_if_lt (tgt := 14) X.1 X.2.1 dX3_isPackage_1 (by decide) (fun c1 => ?_) (fun c1 => ?_)
    · exact absurd c1 h0
    · refine lv_iload_n X.1 X.2.1 dX3_isPackage_4 rfl (lv_at hl 0 rfl) ?_
      refine lv_bipush (v := 10) X.1 X.2.1 dX3_isPackage_5 (by decide) ?_
      refine lv_icmp_ge (tgt := 14) X.1 X.2.1 dX3_isPackage_7 (by decide) (fun c7 => ?_) (fun c7 => ?_)
      · refine lv_iconst (v := 0) X.1 X.2.1 dX3_isPackage_14 (by decide) ?_
        exact h_zret (v := 0) X Y (by decide) dX3_isPackage_15
      · exact absurd h1 c7
  · rw [e0]
    refine lv_iload_n X.1 X.2.1 dX3_isPackage_0 rfl (lv_at hl 0 rfl) ?_
    refine lv_if_lt (tgt := 14) X.1 X.2.1 dX3_isPackage_1 (by decide) (fun c1 => ?_) (fun c1 => ?_)
    · exact absurd c1 (nI_pos (by omega))
    · refine lv_iload_n X.1 X.2.1 dX3_isPackage_4 rfl (lv_at hl 0 rfl) ?_
      refine lv_bipush (v := 10) X.1 X.2.1 dX3_isPackage_5 (by decide) ?_
      refine lv_icmp_ge (tgt := 14) X.1 X.2.1 dX3_isPackage_7 (by decide) (fun c7 => ?_) (fun c7 => ?_)
      · exact absurd c7 (nI_ge (b := 10) hj (by omega))
      · refine lv_iconst (v := 1) X.1 X.2.1 dX3_isPackage_10 (by decide) ?_
        refine lv_goto (tgt := 15) X.1 X.2.1 dX3_isPackage_11 (by decide) ?_
        exact h_zret (v := 1) X Y (by decide) dX3_isPackage_15
set_option maxHeartbeats 4000000 in
set_option maxRecDepth 100000 in
/-- isTaken: whether a store has that place -/
theorem c_X3_isTaken (l : Launch) (G : h_G) {ad : h_T → Nat} {k : h_C} {σ : S_t} (hR : RX G ad k σ) (x : Int32) : h_Rd l yX3_isTaken cX3_isTaken 4 (some .boolean) 0 0 G ad k [.ref (ad (0, 0, 0)), .int x] (some (.int (bI (ff (fun s => decide (s_pl σ s = x)) (s_nS σ)).isSome))) := by
  refine h_rd (by decide +kernel) (Nat.le_of_ble_eq_true rfl) ?_
  intro p e s m args below meth c X Y hw ls hl
  have hl : lv_has ls 4 [(0, .ref (ad (0, 0, 0))), (1, .int x)] := hl
  have hok := hR.ok
  obtain ⟨hx, hs, hst, hi, hit, hcp, hcol, hmx, hask, -⟩ := id hR
  have hx : k (0, 0, 0) = some (.inr (3, [.int (nI (s_cop σ)), .ref (ad (1, 0, 0)), .int (nI (s_nS σ)), .ref (ad (2, 0, 0)), .int (nI (s_nF σ)), .ref (ad (3, 0, 0)), .ref (ad (4, 0, 0)), .ref (ad (5, 0, 0)), .ref (ad (5, 1, 0)), .ref (ad (5, 2, 0)), .int (nI (s_as σ).length), .int (s_dg σ)])) := hx
  have hnS : s_nS σ ≤ 10 := hok.2.1
  have hnF : s_nF σ ≤ 40 := hok.2.2.1
  have loop : ∀ (n i : Nat), i ≤ s_nS σ → s_nS σ + 1 ≤ i + n → (∀ j, j < i → decide (s_pl σ j = x) = false) → ∀ (ls : Array Slot), lv_has ls 4 [(0, .ref (ad (0, 0, 0))), (1, .int x), (2, .int (nI i))] → W p l e (h_rm 0 0 0 0) s m args below meth c s.heap [] 0 0 (MQ below (h_Qr (some (.int (bI (ff (fun s => decide (s_pl σ s = x)) (s_nS σ)).isSome)))) args s 0 0 (fun _ => False)) (F0 m 2 ls []) := by
    intro n
    induction n with
    | zero =>
      intro i h1 h2
      exact absurd h2 (by omega)
    | succ n ih =>
      intro i hii hni hinv ls hl
      refine lv_iload_n X.1 X.2.1 dX3_isTaken_2 rfl (lv_at hl 2 rfl) ?_
      refine lv_aload_n X.1 X.2.1 dX3_isTaken_3 rfl (lv_at hl 0 rfl) ?_
      refine gf_X3_15 X hw hx rfl dX3_isTaken_4 ?_
      refine lv_icmp_ge (tgt := 37) X.1 X.2.1 dX3_isTaken_7 (by decide) (fun c7 => ?_) (fun c7 => ?_)
      · have hii2 : s_nS σ ≤ i := Nat.le_of_not_lt (fun q => absurd c7 (nI_ge q (by omega)))
        refine lv_iconst (v := 0) X.1 X.2.1 dX3_isTaken_37 (by decide) ?_
        rw [ff_miss (n := s_nS σ) (fun j hj => hinv j (by omega))]
        exact h_zret (v := 0) X Y (by decide) dX3_isTaken_38
      · have hib : i < s_nS σ := Nat.lt_of_not_le (fun q => c7 (nI_le q (by omega)))
        refine lv_aload_n X.1 X.2.1 dX3_isTaken_10 rfl (lv_at hl 0 rfl) ?_
        refine gf_X3_11 X hw hx rfl dX3_isTaken_11 ?_
        refine lv_iload_n X.1 X.2.1 dX3_isTaken_14 rfl (lv_at hl 2 rfl) ?_
        refine h_aald X hw 6 rfl hs (vp_in_nI (by omega) (by decide)) dX3_isTaken_15 ?_
        refine h_tv (b := .ref (ad (6, i, 0))) (by rw [nI_clamp (by omega)]; simp only [x_sto, if_pos hib, va_rf]) ?_
        refine lv_astore_n (lv' := [(3, .ref (ad (6, i, 0))), (0, .ref (ad (0, 0, 0))), (1, .int x), (2, .int (nI i))]) X.1 X.2.1 dX3_isTaken_16 rfl hl (by decide) rfl (fun ls hl => ?_)
        refine lv_aload_n X.1 X.2.1 dX3_isTaken_17 rfl (lv_at hl 0 rfl) ?_
        refine lv_ifnull X.1 X.2.1 dX3_isTaken_18 ?_
        refine lv_aload_n X.1 X.2.1 dX3_isTaken_21 rfl (lv_at hl 0 rfl) ?_
        refine gf_X3_195 X hw (hst i hib) rfl dX3_isTaken_22 ?_
        refine lv_iload_n X.1 X.2.1 dX3_isTaken_25 rfl (lv_at hl 2 rfl) ?_
        refine lv_icmp_ne (tgt := 31) X.1 X.2.1 dX3_isTaken_26 (by decide) (fun c26 => ?_) (fun c26 => ?_)
        · refine lv_iinc (v := nI (i + 1)) (lv' := [(2, .int (nI (i + 1))), (3, .ref (ad (6, i, 0))), (0, .ref (ad (0, 0, 0))), (1, .int x)]) X.1 X.2.1 dX3_isTaken_31 hl (k := 3) rfl (nI_1 _) (by decide) rfl (fun ls hl => ?_)
          refine lv_goto (tgt := 2) X.1 X.2.1 dX3_isTaken_34 (by decide) ?_
          exact ih (i + 1) (by omega) (by omega) (fun j hj => by
              rcases Nat.lt_succ_iff_lt_or_eq.mp hj with q | q
              · exact hinv j q
              · subst q; simpa using c26) ls (lv_sub hl [2, 3, 0] rfl)
        · refine lv_iconst (v := 1) X.1 X.2.1 dX3_isTaken_29 (by decide) ?_
          rw [ff_hit hinv (by simpa using c26) hib]
          exact h_zret (v := 1) X Y (by decide) dX3_isTaken_30
  refine lv_iconst (v := 0) X.1 X.2.1 dX3_isTaken_0 (by decide) ?_
  refine lv_istore_n (lv' := [(2, .int 0), (0, .ref (ad (0, 0, 0))), (1, .int x)]) X.1 X.2.1 dX3_isTaken_1 rfl hl (by decide) rfl (fun ls hl => ?_)
  exact loop (s_nS σ + 1) 0 (by omega) (by omega) (fun j hj => absurd hj (Nat.not_lt_zero j)) ls (lv_sub hl [1, 2, 0] rfl)
set_option maxHeartbeats 4000000 in
set_option maxRecDepth 100000 in
/-- isAnswering -/
theorem c_X3_isAnswering (l : Launch) (G : h_G) {ad : h_T → Nat} {k : h_C} {σ : S_t} (hR : RX G ad k σ) (x : Int32) : h_Rd l yX3_isAnswering cX3_isAnswering 3 (some .boolean) 1 21 G ad k [.ref (ad (0, 0, 0)), .int x] (some (.int (bI (match ix x (s_nS σ) with | some i => !s_si σ i | none => false)))) := by
  refine h_rd (by decide +kernel) (Nat.le_of_ble_eq_true rfl) ?_
  intro p e s m args below meth c X Y hw ls hl
  have hl : lv_has ls 3 [(0, .ref (ad (0, 0, 0))), (1, .int x)] := hl
  have hok := hR.ok
  obtain ⟨hx, hs, hst, hi, hit, hcp, hcol, hmx, hask, -⟩ := id hR
  have hx : k (0, 0, 0) = some (.inr (3, [.int (nI (s_cop σ)), .ref (ad (1, 0, 0)), .int (nI (s_nS σ)), .ref (ad (2, 0, 0)), .int (nI (s_nF σ)), .ref (ad (3, 0, 0)), .ref (ad (4, 0, 0)), .ref (ad (5, 0, 0)), .ref (ad (5, 1, 0)), .ref (ad (5, 2, 0)), .int (nI (s_as σ).length), .int (s_dg σ)])) := hx
  have hnS : s_nS σ ≤ 10 := hok.2.1
  have hnF : s_nF σ ≤ 40 := hok.2.2.1
  rcases hc : ix x (s_nS σ) with _ | i
  · refine lv_aload_n X.1 X.2.1 dX3_isAnswering_0 rfl (lv_at hl 0 rfl) ?_
    refine lv_iload_n X.1 X.2.1 dX3_isAnswering_1 rfl (lv_at hl 1 rfl) ?_
    refine h_callRV (t := (0, 0, 0)) (As := [.int x]) (rest := []) X hw cs_X3_91 (c_X3_storeOf l G hR x) hx rfl rfl hl.1 rfl (Nat.le_of_ble_eq_true rfl) ⟨by decide, by decide⟩ ⟨Nat.zero_le _, Nat.zero_le _⟩ dX3_isAnswering_2 ?_
    refine h_tv (b := .null) (by rw [hc]; rfl) ?_
    refine lv_astore_nN (lv' := [(2, .null), (0, .ref (ad (0, 0, 0))), (1, .int x)]) X.1 X.2.1 dX3_isAnswering_5 rfl hl (by decide) rfl (fun ls hl => ?_)
    refine lv_aload_nN X.1 X.2.1 dX3_isAnswering_6 rfl (lv_at hl 0 rfl) ?_
    refine lv_ifnullN (tgt := 21) X.1 X.2.1 dX3_isAnswering_7 (by decide) ?_
    refine lv_iconst (v := 0) X.1 X.2.1 dX3_isAnswering_21 (by decide) ?_
    exact h_zret (v := 0) X Y (by decide) dX3_isAnswering_22
  · have hib : i < s_nS σ := ix_lt hc
    rcases hsi : s_si σ i with _ | _
    · show W p l e _ s m args below meth c _ _ _ _ (MQ below (h_Qr (some (.int (bI (!s_si σ i))))) args s 0 0 (fun _ => False)) _
      rw [hsi]
      refine lv_aload_n X.1 X.2.1 dX3_isAnswering_0 rfl (lv_at hl 0 rfl) ?_
      refine lv_iload_n X.1 X.2.1 dX3_isAnswering_1 rfl (lv_at hl 1 rfl) ?_
      refine h_callRV (t := (0, 0, 0)) (As := [.int x]) (rest := []) X hw cs_X3_91 (c_X3_storeOf l G hR x) hx rfl rfl hl.1 rfl (Nat.le_of_ble_eq_true rfl) ⟨by decide, by decide⟩ ⟨Nat.zero_le _, Nat.zero_le _⟩ dX3_isAnswering_2 ?_
      refine h_tv (b := .ref (ad (6, i, 0))) (by rw [hc]; rfl) ?_
      refine lv_astore_n (lv' := [(2, .ref (ad (6, i, 0))), (0, .ref (ad (0, 0, 0))), (1, .int x)]) X.1 X.2.1 dX3_isAnswering_5 rfl hl (by decide) rfl (fun ls hl => ?_)
      refine lv_aload_n X.1 X.2.1 dX3_isAnswering_6 rfl (lv_at hl 0 rfl) ?_
      refine lv_ifnull X.1 X.2.1 dX3_isAnswering_7 ?_
      refine lv_aload_n X.1 X.2.1 dX3_isAnswering_10 rfl (lv_at hl 0 rfl) ?_
      refine gf_X3_95 X hw (hst i hib) rfl dX3_isAnswering_11 ?_
      refine lv_if_eq (tgt := 21) X.1 X.2.1 dX3_isAnswering_14 (by decide) (fun c14 => ?_) (fun c14 => ?_)
      · exact absurd c14 (by rw [hsi]; decide)
      · refine lv_iconst (v := 1) X.1 X.2.1 dX3_isAnswering_17 (by decide) ?_
        refine lv_goto (tgt := 22) X.1 X.2.1 dX3_isAnswering_18 (by decide) ?_
        exact h_zret (v := 1) X Y (by decide) dX3_isAnswering_22
    · show W p l e _ s m args below meth c _ _ _ _ (MQ below (h_Qr (some (.int (bI (!s_si σ i))))) args s 0 0 (fun _ => False)) _
      rw [hsi]
      refine lv_aload_n X.1 X.2.1 dX3_isAnswering_0 rfl (lv_at hl 0 rfl) ?_
      refine lv_iload_n X.1 X.2.1 dX3_isAnswering_1 rfl (lv_at hl 1 rfl) ?_
      refine h_callRV (t := (0, 0, 0)) (As := [.int x]) (rest := []) X hw cs_X3_91 (c_X3_storeOf l G hR x) hx rfl rfl hl.1 rfl (Nat.le_of_ble_eq_true rfl) ⟨by decide, by decide⟩ ⟨Nat.zero_le _, Nat.zero_le _⟩ dX3_isAnswering_2 ?_
      refine h_tv (b := .ref (ad (6, i, 0))) (by rw [hc]; rfl) ?_
      refine lv_astore_n (lv' := [(2, .ref (ad (6, i, 0))), (0, .ref (ad (0, 0, 0))), (1, .int x)]) X.1 X.2.1 dX3_isAnswering_5 rfl hl (by decide) rfl (fun ls hl => ?_)
      refine lv_aload_n X.1 X.2.1 dX3_isAnswering_6 rfl (lv_at hl 0 rfl) ?_
      refine lv_ifnull X.1 X.2.1 dX3_isAnswering_7 ?_
      refine lv_aload_n X.1 X.2.1 dX3_isAnswering_10 rfl (lv_at hl 0 rfl) ?_
      refine gf_X3_95 X hw (hst i hib) rfl dX3_isAnswering_11 ?_
      refine lv_if_eq (tgt := 21) X.1 X.2.1 dX3_isAnswering_14 (by decide) (fun c14 => ?_) (fun c14 => ?_)
      · refine lv_iconst (v := 0) X.1 X.2.1 dX3_isAnswering_21 (by decide) ?_
        exact h_zret (v := 0) X Y (by decide) dX3_isAnswering_22
      · exact absurd (by rw [hsi]; rfl) c14
end
section
theorem ix_eq {x : Int32} {n i : Nat} (h : ix x n = some i) : x = nI i := by
  unfold ix at h
  split at h
  · rename_i hx
    cases h
    have h1 := Int32.toInt_lt x
    apply Int32.toInt_inj.mp
    rw [nI_toInt (by omega)]
    omega
  · cases h
set_option maxHeartbeats 4000000 in
set_option maxRecDepth 100000 in
/-- answeringStores: how many stores answer -/
theorem c_X3_answeringStores (l : Launch) (G : h_G) {ad : h_T → Nat} {k : h_C} {σ : S_t} (hR : RX G ad k σ)  : h_Rd l yX3_answeringStores cX3_answeringStores 3 (some .int) 2 43 G ad k [.ref (ad (0, 0, 0))] (some (.int (nI (cN (fun s => !s_si σ s) (s_nS σ))))) := by
  refine h_rd (by decide +kernel) (Nat.le_of_ble_eq_true rfl) ?_
  intro p e s m args below meth c X Y hw ls hl
  have hl : lv_has ls 3 [(0, .ref (ad (0, 0, 0)))] := hl
  have hok := hR.ok
  obtain ⟨hx, hs, hst, hi, hit, hcp, hcol, hmx, hask, -⟩ := id hR
  have hx : k (0, 0, 0) = some (.inr (3, [.int (nI (s_cop σ)), .ref (ad (1, 0, 0)), .int (nI (s_nS σ)), .ref (ad (2, 0, 0)), .int (nI (s_nF σ)), .ref (ad (3, 0, 0)), .ref (ad (4, 0, 0)), .ref (ad (5, 0, 0)), .ref (ad (5, 1, 0)), .ref (ad (5, 2, 0)), .int (nI (s_as σ).length), .int (s_dg σ)])) := hx
  have hnS : s_nS σ ≤ 10 := hok.2.1
  have hnF : s_nF σ ≤ 40 := hok.2.2.1
  have loop : ∀ (n i : Nat), i ≤ s_nS σ → s_nS σ + 1 ≤ i + n → ∀ (ls : Array Slot), lv_has ls 3 [(0, .ref (ad (0, 0, 0))), (1, .int (nI (cN (fun s => !s_si σ s) i))), (2, .int (nI i))] → W p l e (h_rm 2 43 0 0) s m args below meth c s.heap [] 0 0 (MQ below (h_Qr (some (.int (nI (cN (fun s => !s_si σ s) (s_nS σ)))))) args s 0 0 (fun _ => False)) (F0 m 4 ls []) := by
    intro n
    induction n with
    | zero =>
      intro i h1 h2
      exact absurd h2 (by omega)
    | succ n ih =>
      intro i hii hni ls hl
      refine lv_iload_n X.1 X.2.1 dX3_answeringStores_4 rfl (lv_at hl 2 rfl) ?_
      refine lv_aload_n X.1 X.2.1 dX3_answeringStores_5 rfl (lv_at hl 0 rfl) ?_
      refine gf_X3_15 X hw hx rfl dX3_answeringStores_6 ?_
      refine lv_icmp_ge (tgt := 29) X.1 X.2.1 dX3_answeringStores_9 (by decide) (fun c9 => ?_) (fun c9 => ?_)
      · obtain rfl : i = s_nS σ := Nat.le_antisymm hii (Nat.le_of_not_lt (fun q => absurd c9 (nI_ge (b := s_nS σ) q (by omega))))
        refine lv_iload_n X.1 X.2.1 dX3_answeringStores_29 rfl (lv_at hl 1 rfl) ?_
        exact h_iret X Y dX3_answeringStores_30
      · have hib : i < s_nS σ := Nat.lt_of_not_le (fun q => c9 (nI_le (a := s_nS σ) q (by omega)))
        rcases hsi : s_si σ i with _ | _
        · refine lv_aload_n X.1 X.2.1 dX3_answeringStores_12 rfl (lv_at hl 0 rfl) ?_
          refine lv_iload_n X.1 X.2.1 dX3_answeringStores_13 rfl (lv_at hl 2 rfl) ?_
          refine h_callRV (t := (0, 0, 0)) (As := [.int (nI i)]) (rest := []) X hw cs_X3_153 (c_X3_isAnswering l G hR (nI i)) hx rfl rfl hl.1 rfl (Nat.le_of_ble_eq_true rfl) ⟨by decide, by decide⟩ ⟨Nat.zero_le _, Nat.zero_le _⟩ dX3_answeringStores_14 ?_
          refine h_tv (b := .int 1) (by rw [ix_nI hib (by omega)]; simp only [hsi]; rfl) ?_
          refine lv_if_eq (tgt := 23) X.1 X.2.1 dX3_answeringStores_17 (by decide) (fun c17 => ?_) (fun c17 => ?_)
          · exact absurd c17 (by decide)
          · refine lv_iinc (v := nI ((cN (fun s => !s_si σ s) i) + 1)) (lv' := [(1, .int (nI ((cN (fun s => !s_si σ s) i) + 1))), (0, .ref (ad (0, 0, 0))), (2, .int (nI i))]) X.1 X.2.1 dX3_answeringStores_20 hl (k := 1) rfl (nI_1 _) (by decide) rfl (fun ls hl => ?_)
            refine lv_iinc (v := nI (i + 1)) (lv' := [(2, .int (nI (i + 1))), (1, .int (nI ((cN (fun s => !s_si σ s) i) + 1))), (0, .ref (ad (0, 0, 0)))]) X.1 X.2.1 dX3_answeringStores_23 hl (k := 2) rfl (nI_1 _) (by decide) rfl (fun ls hl => ?_)
            refine lv_goto (tgt := 4) X.1 X.2.1 dX3_answeringStores_26 (by decide) ?_
            exact ih (i + 1) (by omega) (by omega) ls (by
              rw [cN_t (by rw [hsi]; rfl)]
              exact lv_sub hl [2, 1, 0] rfl)
        · refine lv_aload_n X.1 X.2.1 dX3_answeringStores_12 rfl (lv_at hl 0 rfl) ?_
          refine lv_iload_n X.1 X.2.1 dX3_answeringStores_13 rfl (lv_at hl 2 rfl) ?_
          refine h_callRV (t := (0, 0, 0)) (As := [.int (nI i)]) (rest := []) X hw cs_X3_153 (c_X3_isAnswering l G hR (nI i)) hx rfl rfl hl.1 rfl (Nat.le_of_ble_eq_true rfl) ⟨by decide, by decide⟩ ⟨Nat.zero_le _, Nat.zero_le _⟩ dX3_answeringStores_14 ?_
          refine h_tv (b := .int 0) (by rw [ix_nI hib (by omega)]; simp only [hsi]; rfl) ?_
          refine lv_if_eq (tgt := 23) X.1 X.2.1 dX3_answeringStores_17 (by decide) (fun c17 => ?_) (fun c17 => ?_)
          · refine lv_iinc (v := nI (i + 1)) (lv' := [(2, .int (nI (i + 1))), (0, .ref (ad (0, 0, 0))), (1, .int (nI (cN (fun s => !s_si σ s) i)))]) X.1 X.2.1 dX3_answeringStores_23 hl (k := 2) rfl (nI_1 _) (by decide) rfl (fun ls hl => ?_)
            refine lv_goto (tgt := 4) X.1 X.2.1 dX3_answeringStores_26 (by decide) ?_
            exact ih (i + 1) (by omega) (by omega) ls (by
              rw [cN_f (by rw [hsi]; rfl)]
              exact lv_sub hl [1, 2, 0] rfl)
          · exact absurd (by decide) c17
  refine lv_iconst (v := 0) X.1 X.2.1 dX3_answeringStores_0 (by decide) ?_
  refine lv_istore_n (lv' := [(1, .int 0), (0, .ref (ad (0, 0, 0)))]) X.1 X.2.1 dX3_answeringStores_1 rfl hl (by decide) rfl (fun ls hl => ?_)
  refine lv_iconst (v := 0) X.1 X.2.1 dX3_answeringStores_2 (by decide) ?_
  refine lv_istore_n (lv' := [(2, .int 0), (1, .int 0), (0, .ref (ad (0, 0, 0)))]) X.1 X.2.1 dX3_answeringStores_3 rfl hl (by decide) rfl (fun ls hl => ?_)
  exact loop (s_nS σ + 1) 0 (by omega) (by omega) ls (lv_sub hl [2, 1, 0] rfl)
/-- the copy of a file on a store, by numbers, as the class answers it -/
def x_copy (ad : h_T → Nat) (σ : S_t) (x y : Int32) : Option Nat := (ix y (s_nF σ)).bind fun f => (ix x (s_nS σ)).bind fun s => (s_cp σ s f).map fun _ => ad (9, s, f)
set_option maxHeartbeats 4000000 in
set_option maxRecDepth 100000 in
/-- copyOf: a copy, or null -/
theorem c_X3_copyOf (l : Launch) (G : h_G) {ad : h_T → Nat} {k : h_C} {σ : S_t} (hR : RX G ad k σ) (x y : Int32) : h_Rd l yX3_copyOf cX3_copyOf 4 (some (.object "CopyPolls$Row")) 1 21 G ad k [.ref (ad (0, 0, 0)), .int x, .int y] (some (va_rf (x_copy ad σ x y))) := by
  refine h_rd (by decide +kernel) (Nat.le_of_ble_eq_true rfl) ?_
  intro p e s m args below meth c X Y hw ls hl
  have hl : lv_has ls 4 [(0, .ref (ad (0, 0, 0))), (1, .int x), (2, .int y)] := hl
  have hok := hR.ok
  obtain ⟨hx, hs, hst, hi, hit, hcp, hcol, hmx, hask, -⟩ := id hR
  have hx : k (0, 0, 0) = some (.inr (3, [.int (nI (s_cop σ)), .ref (ad (1, 0, 0)), .int (nI (s_nS σ)), .ref (ad (2, 0, 0)), .int (nI (s_nF σ)), .ref (ad (3, 0, 0)), .ref (ad (4, 0, 0)), .ref (ad (5, 0, 0)), .ref (ad (5, 1, 0)), .ref (ad (5, 2, 0)), .int (nI (s_as σ).length), .int (s_dg σ)])) := hx
  have hnS : s_nS σ ≤ 10 := hok.2.1
  have hnF : s_nF σ ≤ 40 := hok.2.2.1
  unfold x_copy
  rcases hy : ix y (s_nF σ) with _ | f
  · refine lv_aload_n X.1 X.2.1 dX3_copyOf_0 rfl (lv_at hl 0 rfl) ?_
    refine lv_iload_n X.1 X.2.1 dX3_copyOf_1 rfl (lv_at hl 2 rfl) ?_
    refine h_callRV (t := (0, 0, 0)) (As := [.int y]) (rest := []) X hw cs_X3_109 (c_X3_itemOf l G hR y) hx rfl rfl hl.1 rfl (Nat.le_of_ble_eq_true rfl) ⟨by decide, by decide⟩ ⟨Nat.zero_le _, Nat.zero_le _⟩ dX3_copyOf_2 ?_
    refine h_tv (b := .null) (by rw [hy]; rfl) ?_
    refine lv_astore_nN (lv' := [(3, .null), (0, .ref (ad (0, 0, 0))), (1, .int x), (2, .int y)]) X.1 X.2.1 dX3_copyOf_5 rfl hl (by decide) rfl (fun ls hl => ?_)
    refine lv_aload_nN X.1 X.2.1 dX3_copyOf_6 rfl (lv_at hl 0 rfl) ?_
    refine lv_ifnullN (tgt := 18) X.1 X.2.1 dX3_copyOf_7 (by decide) ?_
    refine lv_null X.1 X.2.1 dX3_copyOf_18 ?_
    refine lv_goto (tgt := 28) X.1 X.2.1 dX3_copyOf_19 (by decide) ?_
    exact h_aret (o := none) X Y dX3_copyOf_28
  · have hf : f < s_nF σ := ix_lt hy
    rcases hx1 : ix x (s_nS σ) with _ | i
    · refine lv_aload_n X.1 X.2.1 dX3_copyOf_0 rfl (lv_at hl 0 rfl) ?_
      refine lv_iload_n X.1 X.2.1 dX3_copyOf_1 rfl (lv_at hl 2 rfl) ?_
      refine h_callRV (t := (0, 0, 0)) (As := [.int y]) (rest := []) X hw cs_X3_109 (c_X3_itemOf l G hR y) hx rfl rfl hl.1 rfl (Nat.le_of_ble_eq_true rfl) ⟨by decide, by decide⟩ ⟨Nat.zero_le _, Nat.zero_le _⟩ dX3_copyOf_2 ?_
      refine h_tv (b := .ref (ad (7, f, 0))) (by rw [hy]; rfl) ?_
      refine lv_astore_n (lv' := [(3, .ref (ad (7, f, 0))), (0, .ref (ad (0, 0, 0))), (1, .int x), (2, .int y)]) X.1 X.2.1 dX3_copyOf_5 rfl hl (by decide) rfl (fun ls hl => ?_)
      refine lv_aload_n X.1 X.2.1 dX3_copyOf_6 rfl (lv_at hl 0 rfl) ?_
      refine lv_ifnull X.1 X.2.1 dX3_copyOf_7 ?_
      refine lv_aload_n X.1 X.2.1 dX3_copyOf_10 rfl (lv_at hl 1 rfl) ?_
      refine lv_iload_n X.1 X.2.1 dX3_copyOf_11 rfl (lv_at hl 2 rfl) ?_
      refine h_callRV (t := (0, 0, 0)) (As := [.int x]) (rest := []) X hw cs_X3_91 (c_X3_storeOf l G hR x) hx rfl rfl hl.1 rfl (Nat.le_of_ble_eq_true rfl) ⟨by decide, by decide⟩ ⟨Nat.zero_le _, Nat.zero_le _⟩ dX3_copyOf_12 ?_
      refine h_tv (b := .null) (by rw [hx1]; rfl) ?_
      refine lv_ifnonnullN X.1 X.2.1 dX3_copyOf_15 ?_
      refine lv_null X.1 X.2.1 dX3_copyOf_18 ?_
      refine lv_goto (tgt := 28) X.1 X.2.1 dX3_copyOf_19 (by decide) ?_
      exact h_aret (o := none) X Y dX3_copyOf_28
    · have hib : i < s_nS σ := ix_lt hx1
      obtain rfl : x = nI i := ix_eq hx1
      refine lv_aload_n X.1 X.2.1 dX3_copyOf_0 rfl (lv_at hl 0 rfl) ?_
      refine lv_iload_n X.1 X.2.1 dX3_copyOf_1 rfl (lv_at hl 2 rfl) ?_
      refine h_callRV (t := (0, 0, 0)) (As := [.int y]) (rest := []) X hw cs_X3_109 (c_X3_itemOf l G hR y) hx rfl rfl hl.1 rfl (Nat.le_of_ble_eq_true rfl) ⟨by decide, by decide⟩ ⟨Nat.zero_le _, Nat.zero_le _⟩ dX3_copyOf_2 ?_
      refine h_tv (b := .ref (ad (7, f, 0))) (by rw [hy]; rfl) ?_
      refine lv_astore_n (lv' := [(3, .ref (ad (7, f, 0))), (0, .ref (ad (0, 0, 0))), (1, .int (nI i)), (2, .int y)]) X.1 X.2.1 dX3_copyOf_5 rfl hl (by decide) rfl (fun ls hl => ?_)
      refine lv_aload_n X.1 X.2.1 dX3_copyOf_6 rfl (lv_at hl 0 rfl) ?_
      refine lv_ifnull X.1 X.2.1 dX3_copyOf_7 ?_
      refine lv_aload_n X.1 X.2.1 dX3_copyOf_10 rfl (lv_at hl 1 rfl) ?_
      refine lv_iload_n X.1 X.2.1 dX3_copyOf_11 rfl (lv_at hl 2 rfl) ?_
      refine h_callRV (t := (0, 0, 0)) (As := [.int (nI i)]) (rest := []) X hw cs_X3_91 (c_X3_storeOf l G hR (nI i)) hx rfl rfl hl.1 rfl (Nat.le_of_ble_eq_true rfl) ⟨by decide, by decide⟩ ⟨Nat.zero_le _, Nat.zero_le _⟩ dX3_copyOf_12 ?_
      refine h_tv (b := .ref (ad (6, i, 0))) (by rw [hx1]; rfl) ?_
      refine lv_ifnonnull (tgt := 22) X.1 X.2.1 dX3_copyOf_15 (by decide) ?_
      refine lv_aload_n X.1 X.2.1 dX3_copyOf_22 rfl (lv_at hl 0 rfl) ?_
      refine gf_X3_113 X hw (hit f hf).1 rfl dX3_copyOf_23 ?_
      refine lv_iload_n X.1 X.2.1 dX3_copyOf_26 rfl (lv_at hl 2 rfl) ?_
      refine h_aald X hw 5 rfl (hit f hf).2 (vp_in_nI (by omega) (by decide)) dX3_copyOf_27 ?_
      refine h_tv (b := va_rf ((s_cp σ i f).map (fun _ => ad (9, i, f)))) (by rw [nI_clamp (by omega)]; rfl) ?_
      exact h_aret (o := (s_cp σ i f).map (fun _ => ad (9, i, f))) X Y dX3_copyOf_28
set_option maxHeartbeats 4000000 in
set_option maxRecDepth 100000 in
/-- copiesOn: how many copies a store has -/
theorem c_X3_copiesOn (l : Launch) (G : h_G) {ad : h_T → Nat} {k : h_C} {σ : S_t} (hR : RX G ad k σ) {j : Nat} (hj : j < s_nS σ) : h_Rd l yX3_copiesOn cX3_copiesOn 4 (some .int) 2 44 G ad k [.ref (ad (0, 0, 0)), .int (nI j)] (some (.int (nI (cN (fun f => s_has σ j f) (s_nF σ))))) := by
  refine h_rd (by decide +kernel) (Nat.le_of_ble_eq_true rfl) ?_
  intro p e s m args below meth c X Y hw ls hl
  have hl : lv_has ls 4 [(0, .ref (ad (0, 0, 0))), (1, .int (nI j))] := hl
  have hok := hR.ok
  obtain ⟨hx, hs, hst, hi, hit, hcp, hcol, hmx, hask, -⟩ := id hR
  have hx : k (0, 0, 0) = some (.inr (3, [.int (nI (s_cop σ)), .ref (ad (1, 0, 0)), .int (nI (s_nS σ)), .ref (ad (2, 0, 0)), .int (nI (s_nF σ)), .ref (ad (3, 0, 0)), .ref (ad (4, 0, 0)), .ref (ad (5, 0, 0)), .ref (ad (5, 1, 0)), .ref (ad (5, 2, 0)), .int (nI (s_as σ).length), .int (s_dg σ)])) := hx
  have hnS : s_nS σ ≤ 10 := hok.2.1
  have hnF : s_nF σ ≤ 40 := hok.2.2.1
  have loop : ∀ (n i : Nat), i ≤ s_nF σ → s_nF σ + 1 ≤ i + n → ∀ (ls : Array Slot), lv_has ls 4 [(0, .ref (ad (0, 0, 0))), (1, .int (nI j)), (2, .int (nI (cN (fun f => s_has σ j f) i))), (3, .int (nI i))] → W p l e (h_rm 2 44 0 0) s m args below meth c s.heap [] 0 0 (MQ below (h_Qr (some (.int (nI (cN (fun f => s_has σ j f) (s_nF σ)))))) args s 0 0 (fun _ => False)) (F0 m 4 ls []) := by
    intro n
    induction n with
    | zero =>
      intro i h1 h2
      exact absurd h2 (by omega)
    | succ n ih =>
      intro i hii hni ls hl
      refine lv_iload_n X.1 X.2.1 dX3_copiesOn_4 rfl (lv_at hl 3 rfl) ?_
      refine lv_aload_n X.1 X.2.1 dX3_copiesOn_5 rfl (lv_at hl 0 rfl) ?_
      refine gf_X3_25 X hw hx rfl dX3_copiesOn_6 ?_
      refine lv_icmp_ge (tgt := 30) X.1 X.2.1 dX3_copiesOn_9 (by decide) (fun c9 => ?_) (fun c9 => ?_)
      · obtain rfl : i = s_nF σ := Nat.le_antisymm hii (Nat.le_of_not_lt (fun q => absurd c9 (nI_ge (b := s_nF σ) q (by omega))))
        refine lv_iload_n X.1 X.2.1 dX3_copiesOn_30 rfl (lv_at hl 2 rfl) ?_
        exact h_iret X Y dX3_copiesOn_31
      · have hib : i < s_nF σ := Nat.lt_of_not_le (fun q => c9 (nI_le (a := s_nF σ) q (by omega)))
        rcases hc : s_cp σ j i with _ | b
        · refine lv_aload_n X.1 X.2.1 dX3_copiesOn_12 rfl (lv_at hl 0 rfl) ?_
          refine lv_iload_n X.1 X.2.1 dX3_copiesOn_13 rfl (lv_at hl 1 rfl) ?_
          refine lv_iload_n X.1 X.2.1 dX3_copiesOn_14 rfl (lv_at hl 3 rfl) ?_
          refine h_callRV (t := (0, 0, 0)) (As := [.int (nI j), .int (nI i)]) (rest := []) X hw cs_X3_99 (c_X3_copyOf l G hR (nI j) (nI i)) hx rfl rfl hl.1 rfl (Nat.le_of_ble_eq_true rfl) ⟨by decide, by decide⟩ ⟨Nat.zero_le _, Nat.zero_le _⟩ dX3_copiesOn_15 ?_
          refine h_tv (b := .null) (by unfold x_copy; rw [ix_nI hib (by omega), ix_nI hj (by omega)]; simp only [Option.bind_some, hc]; rfl) ?_
          refine lv_ifnullN (tgt := 24) X.1 X.2.1 dX3_copiesOn_18 (by decide) ?_
          refine lv_iinc (v := nI (i + 1)) (lv' := [(3, .int (nI (i + 1))), (0, .ref (ad (0, 0, 0))), (1, .int (nI j)), (2, .int (nI (cN (fun f => s_has σ j f) i)))]) X.1 X.2.1 dX3_copiesOn_24 hl (k := 3) rfl (nI_1 _) (by decide) rfl (fun ls hl => ?_)
          refine lv_goto (tgt := 4) X.1 X.2.1 dX3_copiesOn_27 (by decide) ?_
          exact ih (i + 1) (by omega) (by omega) ls (by
            rw [cN_f (by unfold s_has; rw [hc]; rfl)]
            exact lv_sub hl [1, 2, 3, 0] rfl)
        · refine lv_aload_n X.1 X.2.1 dX3_copiesOn_12 rfl (lv_at hl 0 rfl) ?_
          refine lv_iload_n X.1 X.2.1 dX3_copiesOn_13 rfl (lv_at hl 1 rfl) ?_
          refine lv_iload_n X.1 X.2.1 dX3_copiesOn_14 rfl (lv_at hl 3 rfl) ?_
          refine h_callRV (t := (0, 0, 0)) (As := [.int (nI j), .int (nI i)]) (rest := []) X hw cs_X3_99 (c_X3_copyOf l G hR (nI j) (nI i)) hx rfl rfl hl.1 rfl (Nat.le_of_ble_eq_true rfl) ⟨by decide, by decide⟩ ⟨Nat.zero_le _, Nat.zero_le _⟩ dX3_copiesOn_15 ?_
          refine h_tv (b := .ref (ad (9, j, i))) (by unfold x_copy; rw [ix_nI hib (by omega), ix_nI hj (by omega)]; simp only [Option.bind_some, hc]; rfl) ?_
          refine lv_ifnull X.1 X.2.1 dX3_copiesOn_18 ?_
          refine lv_iinc (v := nI ((cN (fun f => s_has σ j f) i) + 1)) (lv' := [(2, .int (nI ((cN (fun f => s_has σ j f) i) + 1))), (0, .ref (ad (0, 0, 0))), (1, .int (nI j)), (3, .int (nI i))]) X.1 X.2.1 dX3_copiesOn_21 hl (k := 2) rfl (nI_1 _) (by decide) rfl (fun ls hl => ?_)
          refine lv_iinc (v := nI (i + 1)) (lv' := [(3, .int (nI (i + 1))), (2, .int (nI ((cN (fun f => s_has σ j f) i) + 1))), (0, .ref (ad (0, 0, 0))), (1, .int (nI j))]) X.1 X.2.1 dX3_copiesOn_24 hl (k := 3) rfl (nI_1 _) (by decide) rfl (fun ls hl => ?_)
          refine lv_goto (tgt := 4) X.1 X.2.1 dX3_copiesOn_27 (by decide) ?_
          exact ih (i + 1) (by omega) (by omega) ls (by
            rw [cN_t (by unfold s_has; rw [hc]; rfl)]
            exact lv_sub hl [2, 3, 1, 0] rfl)
  refine lv_iconst (v := 0) X.1 X.2.1 dX3_copiesOn_0 (by decide) ?_
  refine lv_istore_n (lv' := [(2, .int 0), (0, .ref (ad (0, 0, 0))), (1, .int (nI j))]) X.1 X.2.1 dX3_copiesOn_1 rfl hl (by decide) rfl (fun ls hl => ?_)
  refine lv_iconst (v := 0) X.1 X.2.1 dX3_copiesOn_2 (by decide) ?_
  refine lv_istore_n (lv' := [(3, .int 0), (2, .int 0), (0, .ref (ad (0, 0, 0))), (1, .int (nI j))]) X.1 X.2.1 dX3_copiesOn_3 rfl hl (by decide) rfl (fun ls hl => ?_)
  exact loop (s_nF σ + 1) 0 (by omega) (by omega) ls (lv_sub hl [2, 3, 1, 0] rfl)
set_option maxHeartbeats 4000000 in
set_option maxRecDepth 100000 in
/-- countingRow: the copy if it counts -/
theorem c_X3_countingRow (l : Launch) (G : h_G) {ad : h_T → Nat} {k : h_C} {σ : S_t} (hR : RX G ad k σ) {f j : Nat} (hf : f < s_nF σ) (hj : j < s_nS σ) : h_Rd l yX3_countingRow cX3_countingRow 3 (some (.object "CopyPolls$Row")) 2 43 G ad k [.ref (ad (0, 0, 0)), .ref (ad (7, f, 0)), .int (nI j)] (some (va_rf ((s_cnt σ j f).map (fun _ => ad (9, j, f))))) := by
  refine h_rd (by decide +kernel) (Nat.le_of_ble_eq_true rfl) ?_
  intro p e s m args below meth c X Y hw ls hl
  have hl : lv_has ls 3 [(0, .ref (ad (0, 0, 0))), (1, .ref (ad (7, f, 0))), (2, .int (nI j))] := hl
  have hok := hR.ok
  obtain ⟨hx, hs, hst, hi, hit, hcp, hcol, hmx, hask, -⟩ := id hR
  have hx : k (0, 0, 0) = some (.inr (3, [.int (nI (s_cop σ)), .ref (ad (1, 0, 0)), .int (nI (s_nS σ)), .ref (ad (2, 0, 0)), .int (nI (s_nF σ)), .ref (ad (3, 0, 0)), .ref (ad (4, 0, 0)), .ref (ad (5, 0, 0)), .ref (ad (5, 1, 0)), .ref (ad (5, 2, 0)), .int (nI (s_as σ).length), .int (s_dg σ)])) := hx
  have hnS : s_nS σ ≤ 10 := hok.2.1
  have hnF : s_nF σ ≤ 40 := hok.2.2.1
  unfold s_cnt
  rcases hsi : s_si σ j with _ | _
  · refine lv_aload_n X.1 X.2.1 dX3_countingRow_0 rfl (lv_at hl 0 rfl) ?_
    refine lv_iload_n X.1 X.2.1 dX3_countingRow_1 rfl (lv_at hl 2 rfl) ?_
    refine h_callRV (t := (0, 0, 0)) (As := [.int (nI j)]) (rest := []) X hw cs_X3_153 (c_X3_isAnswering l G hR (nI j)) hx rfl rfl hl.1 rfl (Nat.le_of_ble_eq_true rfl) ⟨by decide, by decide⟩ ⟨Nat.zero_le _, Nat.zero_le _⟩ dX3_countingRow_2 ?_
    refine h_tv (b := .int 1) (by rw [ix_nI hj (by omega)]; simp only [hsi]; rfl) ?_
    refine lv_if_eq (tgt := 17) X.1 X.2.1 dX3_countingRow_5 (by decide) (fun c5 => ?_) (fun c5 => ?_)
    · exact absurd c5 (by decide)
    · refine lv_aload_n X.1 X.2.1 dX3_countingRow_8 rfl (lv_at hl 1 rfl) ?_
      refine gf_X3_113 X hw (hit f hf).1 rfl dX3_countingRow_9 ?_
      refine lv_iload_n X.1 X.2.1 dX3_countingRow_12 rfl (lv_at hl 2 rfl) ?_
      refine h_aald X hw 5 rfl (hit f hf).2 (vp_in_nI (by omega) (by decide)) dX3_countingRow_13 ?_
      refine h_tv (b := va_rf ((s_cp σ j f).map (fun _ => ad (9, j, f)))) (by rw [nI_clamp (by omega)]; rfl) ?_
      refine lv_goto (tgt := 18) X.1 X.2.1 dX3_countingRow_14 (by decide) ?_
      exact h_aret (o := (s_cp σ j f).map (fun _ => ad (9, j, f))) X Y dX3_countingRow_18
  · refine lv_aload_n X.1 X.2.1 dX3_countingRow_0 rfl (lv_at hl 0 rfl) ?_
    refine lv_iload_n X.1 X.2.1 dX3_countingRow_1 rfl (lv_at hl 2 rfl) ?_
    refine h_callRV (t := (0, 0, 0)) (As := [.int (nI j)]) (rest := []) X hw cs_X3_153 (c_X3_isAnswering l G hR (nI j)) hx rfl rfl hl.1 rfl (Nat.le_of_ble_eq_true rfl) ⟨by decide, by decide⟩ ⟨Nat.zero_le _, Nat.zero_le _⟩ dX3_countingRow_2 ?_
    refine h_tv (b := .int 0) (by rw [ix_nI hj (by omega)]; simp only [hsi]; rfl) ?_
    refine lv_if_eq (tgt := 17) X.1 X.2.1 dX3_countingRow_5 (by decide) (fun c5 => ?_) (fun c5 => ?_)
    · refine lv_null X.1 X.2.1 dX3_countingRow_17 ?_
      exact h_aret (o := none) X Y dX3_countingRow_18
    · exact absurd (by decide) c5
set_option maxHeartbeats 4000000 in
set_option maxRecDepth 100000 in
/-- countingCopies: how many copies count -/
theorem c_X3_countingCopies (l : Launch) (G : h_G) {ad : h_T → Nat} {k : h_C} {σ : S_t} (hR : RX G ad k σ) {f : Nat} (hf : f < s_nF σ) : h_Rd l yX3_countingCopies cX3_countingCopies 4 (some .int) 3 65 G ad k [.ref (ad (0, 0, 0)), .ref (ad (7, f, 0))] (some (.int (nI (cN (s_isC σ f) (s_nS σ))))) := by
  refine h_rd (by decide +kernel) (Nat.le_of_ble_eq_true rfl) ?_
  intro p e s m args below meth c X Y hw ls hl
  have hl : lv_has ls 4 [(0, .ref (ad (0, 0, 0))), (1, .ref (ad (7, f, 0)))] := hl
  have hok := hR.ok
  obtain ⟨hx, hs, hst, hi, hit, hcp, hcol, hmx, hask, -⟩ := id hR
  have hx : k (0, 0, 0) = some (.inr (3, [.int (nI (s_cop σ)), .ref (ad (1, 0, 0)), .int (nI (s_nS σ)), .ref (ad (2, 0, 0)), .int (nI (s_nF σ)), .ref (ad (3, 0, 0)), .ref (ad (4, 0, 0)), .ref (ad (5, 0, 0)), .ref (ad (5, 1, 0)), .ref (ad (5, 2, 0)), .int (nI (s_as σ).length), .int (s_dg σ)])) := hx
  have hnS : s_nS σ ≤ 10 := hok.2.1
  have hnF : s_nF σ ≤ 40 := hok.2.2.1
  have loop : ∀ (n i : Nat), i ≤ s_nS σ → s_nS σ + 1 ≤ i + n → ∀ (ls : Array Slot), lv_has ls 4 [(0, .ref (ad (0, 0, 0))), (1, .ref (ad (7, f, 0))), (2, .int (nI (cN (s_isC σ f) i))), (3, .int (nI i))] → W p l e (h_rm 3 65 0 0) s m args below meth c s.heap [] 0 0 (MQ below (h_Qr (some (.int (nI (cN (s_isC σ f) (s_nS σ)))))) args s 0 0 (fun _ => False)) (F0 m 4 ls []) := by
    intro n
    induction n with
    | zero =>
      intro i h1 h2
      exact absurd h2 (by omega)
    | succ n ih =>
      intro i hii hni ls hl
      refine lv_iload_n X.1 X.2.1 dX3_countingCopies_4 rfl (lv_at hl 3 rfl) ?_
      refine lv_aload_n X.1 X.2.1 dX3_countingCopies_5 rfl (lv_at hl 0 rfl) ?_
      refine gf_X3_15 X hw hx rfl dX3_countingCopies_6 ?_
      refine lv_icmp_ge (tgt := 30) X.1 X.2.1 dX3_countingCopies_9 (by decide) (fun c9 => ?_) (fun c9 => ?_)
      · obtain rfl : i = s_nS σ := Nat.le_antisymm hii (Nat.le_of_not_lt (fun q => absurd c9 (nI_ge (b := s_nS σ) q (by omega))))
        refine lv_iload_n X.1 X.2.1 dX3_countingCopies_30 rfl (lv_at hl 2 rfl) ?_
        exact h_iret X Y dX3_countingCopies_31
      · have hib : i < s_nS σ := Nat.lt_of_not_le (fun q => c9 (nI_le (a := s_nS σ) q (by omega)))
        rcases hc : s_cnt σ i f with _ | b
        · refine lv_aload_n X.1 X.2.1 dX3_countingCopies_12 rfl (lv_at hl 0 rfl) ?_
          refine lv_aload_n X.1 X.2.1 dX3_countingCopies_13 rfl (lv_at hl 1 rfl) ?_
          refine lv_iload_n X.1 X.2.1 dX3_countingCopies_14 rfl (lv_at hl 3 rfl) ?_
          refine h_callRV (t := (0, 0, 0)) (As := [.ref (ad (7, f, 0)), .int (nI i)]) (rest := []) X hw cs_X3_202 (c_X3_countingRow l G hR hf hib) hx rfl rfl hl.1 rfl (Nat.le_of_ble_eq_true rfl) ⟨by decide, by decide⟩ ⟨Nat.zero_le _, Nat.zero_le _⟩ dX3_countingCopies_15 ?_
          refine h_tv (b := .null) (by rw [hc]; rfl) ?_
          refine lv_ifnullN (tgt := 24) X.1 X.2.1 dX3_countingCopies_18 (by decide) ?_
          refine lv_iinc (v := nI (i + 1)) (lv' := [(3, .int (nI (i + 1))), (0, .ref (ad (0, 0, 0))), (1, .ref (ad (7, f, 0))), (2, .int (nI (cN (s_isC σ f) i)))]) X.1 X.2.1 dX3_countingCopies_24 hl (k := 3) rfl (nI_1 _) (by decide) rfl (fun ls hl => ?_)
          refine lv_goto (tgt := 4) X.1 X.2.1 dX3_countingCopies_27 (by decide) ?_
          exact ih (i + 1) (by omega) (by omega) ls (by
            rw [cN_f (by unfold s_isC; rw [hc]; rfl)]
            exact lv_sub hl [1, 2, 3, 0] rfl)
        · refine lv_aload_n X.1 X.2.1 dX3_countingCopies_12 rfl (lv_at hl 0 rfl) ?_
          refine lv_aload_n X.1 X.2.1 dX3_countingCopies_13 rfl (lv_at hl 1 rfl) ?_
          refine lv_iload_n X.1 X.2.1 dX3_countingCopies_14 rfl (lv_at hl 3 rfl) ?_
          refine h_callRV (t := (0, 0, 0)) (As := [.ref (ad (7, f, 0)), .int (nI i)]) (rest := []) X hw cs_X3_202 (c_X3_countingRow l G hR hf hib) hx rfl rfl hl.1 rfl (Nat.le_of_ble_eq_true rfl) ⟨by decide, by decide⟩ ⟨Nat.zero_le _, Nat.zero_le _⟩ dX3_countingCopies_15 ?_
          refine h_tv (b := .ref (ad (9, i, f))) (by rw [hc]; rfl) ?_
          refine lv_ifnull X.1 X.2.1 dX3_countingCopies_18 ?_
          refine lv_iinc (v := nI ((cN (s_isC σ f) i) + 1)) (lv' := [(2, .int (nI ((cN (s_isC σ f) i) + 1))), (0, .ref (ad (0, 0, 0))), (1, .ref (ad (7, f, 0))), (3, .int (nI i))]) X.1 X.2.1 dX3_countingCopies_21 hl (k := 2) rfl (nI_1 _) (by decide) rfl (fun ls hl => ?_)
          refine lv_iinc (v := nI (i + 1)) (lv' := [(3, .int (nI (i + 1))), (2, .int (nI ((cN (s_isC σ f) i) + 1))), (0, .ref (ad (0, 0, 0))), (1, .ref (ad (7, f, 0)))]) X.1 X.2.1 dX3_countingCopies_24 hl (k := 3) rfl (nI_1 _) (by decide) rfl (fun ls hl => ?_)
          refine lv_goto (tgt := 4) X.1 X.2.1 dX3_countingCopies_27 (by decide) ?_
          exact ih (i + 1) (by omega) (by omega) ls (by
            rw [cN_t (by unfold s_isC; rw [hc]; rfl)]
            exact lv_sub hl [2, 3, 1, 0] rfl)
  refine lv_iconst (v := 0) X.1 X.2.1 dX3_countingCopies_0 (by decide) ?_
  refine lv_istore_n (lv' := [(2, .int 0), (0, .ref (ad (0, 0, 0))), (1, .ref (ad (7, f, 0)))]) X.1 X.2.1 dX3_countingCopies_1 rfl hl (by decide) rfl (fun ls hl => ?_)
  refine lv_iconst (v := 0) X.1 X.2.1 dX3_countingCopies_2 (by decide) ?_
  refine lv_istore_n (lv' := [(3, .int 0), (2, .int 0), (0, .ref (ad (0, 0, 0))), (1, .ref (ad (7, f, 0)))]) X.1 X.2.1 dX3_countingCopies_3 rfl hl (by decide) rfl (fun ls hl => ?_)
  exact loop (s_nS σ + 1) 0 (by omega) (by omega) ls (lv_sub hl [2, 3, 1, 0] rfl)
set_option maxHeartbeats 4000000 in
set_option maxRecDepth 100000 in
/-- countingWith: how many that count have that digest -/
theorem c_X3_countingWith (l : Launch) (G : h_G) {ad : h_T → Nat} {k : h_C} {σ : S_t} (hR : RX G ad k σ) {f : Nat} (hf : f < s_nF σ) (d : Int32) : h_Rd l yX3_countingWith cX3_countingWith 6 (some .int) 3 65 G ad k [.ref (ad (0, 0, 0)), .ref (ad (7, f, 0)), .int d] (some (.int (nI (cN (s_isD σ f d) (s_nS σ))))) := by
  refine h_rd (by decide +kernel) (Nat.le_of_ble_eq_true rfl) ?_
  intro p e s m args below meth c X Y hw ls hl
  have hl : lv_has ls 6 [(0, .ref (ad (0, 0, 0))), (1, .ref (ad (7, f, 0))), (2, .int d)] := hl
  have hok := hR.ok
  obtain ⟨hx, hs, hst, hi, hit, hcp, hcol, hmx, hask, -⟩ := id hR
  have hx : k (0, 0, 0) = some (.inr (3, [.int (nI (s_cop σ)), .ref (ad (1, 0, 0)), .int (nI (s_nS σ)), .ref (ad (2, 0, 0)), .int (nI (s_nF σ)), .ref (ad (3, 0, 0)), .ref (ad (4, 0, 0)), .ref (ad (5, 0, 0)), .ref (ad (5, 1, 0)), .ref (ad (5, 2, 0)), .int (nI (s_as σ).length), .int (s_dg σ)])) := hx
  have hnS : s_nS σ ≤ 10 := hok.2.1
  have hnF : s_nF σ ≤ 40 := hok.2.2.1
  have loop : ∀ (n i : Nat), i ≤ s_nS σ → s_nS σ + 1 ≤ i + n → ∀ (ls : Array Slot), lv_has ls 6 [(0, .ref (ad (0, 0, 0))), (1, .ref (ad (7, f, 0))), (2, .int d), (3, .int (nI (cN (s_isD σ f d) i))), (4, .int (nI i))] → W p l e (h_rm 3 65 0 0) s m args below meth c s.heap [] 0 0 (MQ below (h_Qr (some (.int (nI (cN (s_isD σ f d) (s_nS σ)))))) args s 0 0 (fun _ => False)) (F0 m 5 ls []) := by
    intro n
    induction n with
    | zero =>
      intro i h1 h2
      exact absurd h2 (by omega)
    | succ n ih =>
      intro i hii hni ls hl
      refine lv_iload X.1 X.2.1 dX3_countingWith_5 (lv_at hl 4 rfl) ?_
      refine lv_aload_n X.1 X.2.1 dX3_countingWith_7 rfl (lv_at hl 0 rfl) ?_
      refine gf_X3_15 X hw hx rfl dX3_countingWith_8 ?_
      refine lv_icmp_ge (tgt := 46) X.1 X.2.1 dX3_countingWith_11 (by decide) (fun c11 => ?_) (fun c11 => ?_)
      · obtain rfl : i = s_nS σ := Nat.le_antisymm hii (Nat.le_of_not_lt (fun q => absurd c11 (nI_ge (b := s_nS σ) q (by omega))))
        refine lv_iload_n X.1 X.2.1 dX3_countingWith_46 rfl (lv_at hl 3 rfl) ?_
        exact h_iret X Y dX3_countingWith_47
      · have hib : i < s_nS σ := Nat.lt_of_not_le (fun q => c11 (nI_le (a := s_nS σ) q (by omega)))
        rcases hc : s_cnt σ i f with _ | b
        · refine lv_aload_n X.1 X.2.1 dX3_countingWith_14 rfl (lv_at hl 0 rfl) ?_
          refine lv_aload_n X.1 X.2.1 dX3_countingWith_15 rfl (lv_at hl 1 rfl) ?_
          refine lv_iload X.1 X.2.1 dX3_countingWith_16 (lv_at hl 4 rfl) ?_
          refine h_callRV (t := (0, 0, 0)) (As := [.ref (ad (7, f, 0)), .int (nI i)]) (rest := []) X hw cs_X3_202 (c_X3_countingRow l G hR hf hib) hx rfl rfl hl.1 rfl (Nat.le_of_ble_eq_true rfl) ⟨by decide, by decide⟩ ⟨Nat.zero_le _, Nat.zero_le _⟩ dX3_countingWith_18 ?_
          refine h_tv (b := .null) (by rw [hc]; rfl) ?_
          refine lv_astoreN (lv' := [(5, .null), (0, .ref (ad (0, 0, 0))), (1, .ref (ad (7, f, 0))), (2, .int d), (3, .int (nI (cN (s_isD σ f d) i))), (4, .int (nI i))]) X.1 X.2.1 dX3_countingWith_21 hl (by decide) rfl (fun ls hl => ?_)
          refine lv_aloadN X.1 X.2.1 dX3_countingWith_23 (lv_at hl 0 rfl) ?_
          refine lv_ifnullN (tgt := 40) X.1 X.2.1 dX3_countingWith_25 (by decide) ?_
          refine lv_iinc (v := nI (i + 1)) (lv' := [(4, .int (nI (i + 1))), (5, .null), (0, .ref (ad (0, 0, 0))), (1, .ref (ad (7, f, 0))), (2, .int d), (3, .int (nI (cN (s_isD σ f d) i)))]) X.1 X.2.1 dX3_countingWith_40 hl (k := 5) rfl (nI_1 _) (by decide) rfl (fun ls hl => ?_)
          refine lv_goto (tgt := 5) X.1 X.2.1 dX3_countingWith_43 (by decide) ?_
          exact ih (i + 1) (by omega) (by omega) ls (by
            rw [cN_f (by unfold s_isD; rw [hc])]
            exact lv_sub hl [2, 3, 4, 5, 0] rfl)
        · refine lv_aload_n X.1 X.2.1 dX3_countingWith_14 rfl (lv_at hl 0 rfl) ?_
          refine lv_aload_n X.1 X.2.1 dX3_countingWith_15 rfl (lv_at hl 1 rfl) ?_
          refine lv_iload X.1 X.2.1 dX3_countingWith_16 (lv_at hl 4 rfl) ?_
          refine h_callRV (t := (0, 0, 0)) (As := [.ref (ad (7, f, 0)), .int (nI i)]) (rest := []) X hw cs_X3_202 (c_X3_countingRow l G hR hf hib) hx rfl rfl hl.1 rfl (Nat.le_of_ble_eq_true rfl) ⟨by decide, by decide⟩ ⟨Nat.zero_le _, Nat.zero_le _⟩ dX3_countingWith_18 ?_
          refine h_tv (b := .ref (ad (9, i, f))) (by rw [hc]; rfl) ?_
          refine lv_astore (lv' := [(5, .ref (ad (9, i, f))), (0, .ref (ad (0, 0, 0))), (1, .ref (ad (7, f, 0))), (2, .int d), (3, .int (nI (cN (s_isD σ f d) i))), (4, .int (nI i))]) X.1 X.2.1 dX3_countingWith_21 hl (by decide) rfl (fun ls hl => ?_)
          refine lv_aload X.1 X.2.1 dX3_countingWith_23 (lv_at hl 0 rfl) ?_
          refine lv_ifnull X.1 X.2.1 dX3_countingWith_25 ?_
          refine lv_aload X.1 X.2.1 dX3_countingWith_28 (lv_at hl 0 rfl) ?_
          refine h_callRV (t := (9, i, f)) (As := []) (rest := []) X hw cs_X3_143 (c_X1_sum l G (hcp i f b (s_cnt_cp hc).1) (hok.2.2.2.2.2.2.1 i f b (s_cnt_cp hc).1)) (hcp i f b (s_cnt_cp hc).1).1 rfl rfl hl.1 rfl (Nat.le_of_ble_eq_true rfl) ⟨by decide, by decide⟩ ⟨Nat.zero_le _, Nat.zero_le _⟩ dX3_countingWith_30 ?_
          refine lv_iload_n X.1 X.2.1 dX3_countingWith_33 rfl (lv_at hl 3 rfl) ?_
          refine lv_icmp_ne (tgt := 40) X.1 X.2.1 dX3_countingWith_34 (by decide) (fun c34 => ?_) (fun c34 => ?_)
          · refine lv_iinc (v := nI (i + 1)) (lv' := [(4, .int (nI (i + 1))), (5, .ref (ad (9, i, f))), (0, .ref (ad (0, 0, 0))), (1, .ref (ad (7, f, 0))), (2, .int d), (3, .int (nI (cN (s_isD σ f d) i)))]) X.1 X.2.1 dX3_countingWith_40 hl (k := 5) rfl (nI_1 _) (by decide) rfl (fun ls hl => ?_)
            refine lv_goto (tgt := 5) X.1 X.2.1 dX3_countingWith_43 (by decide) ?_
            exact ih (i + 1) (by omega) (by omega) ls (by
              rw [cN_f (by unfold s_isD; rw [hc]; simpa using c34)]
              exact lv_sub hl [2, 3, 4, 5, 0] rfl)
          · refine lv_iinc (v := nI ((cN (s_isD σ f d) i) + 1)) (lv' := [(3, .int (nI ((cN (s_isD σ f d) i) + 1))), (5, .ref (ad (9, i, f))), (0, .ref (ad (0, 0, 0))), (1, .ref (ad (7, f, 0))), (2, .int d), (4, .int (nI i))]) X.1 X.2.1 dX3_countingWith_37 hl (k := 4) rfl (nI_1 _) (by decide) rfl (fun ls hl => ?_)
            refine lv_iinc (v := nI (i + 1)) (lv' := [(4, .int (nI (i + 1))), (3, .int (nI ((cN (s_isD σ f d) i) + 1))), (5, .ref (ad (9, i, f))), (0, .ref (ad (0, 0, 0))), (1, .ref (ad (7, f, 0))), (2, .int d)]) X.1 X.2.1 dX3_countingWith_40 hl (k := 5) rfl (nI_1 _) (by decide) rfl (fun ls hl => ?_)
            refine lv_goto (tgt := 5) X.1 X.2.1 dX3_countingWith_43 (by decide) ?_
            exact ih (i + 1) (by omega) (by omega) ls (by
              rw [cN_t (by unfold s_isD; rw [hc]; simpa using c34)]
              exact lv_sub hl [3, 4, 5, 1, 0] rfl)
  refine lv_iconst (v := 0) X.1 X.2.1 dX3_countingWith_0 (by decide) ?_
  refine lv_istore_n (lv' := [(3, .int 0), (0, .ref (ad (0, 0, 0))), (1, .ref (ad (7, f, 0))), (2, .int d)]) X.1 X.2.1 dX3_countingWith_1 rfl hl (by decide) rfl (fun ls hl => ?_)
  refine lv_iconst (v := 0) X.1 X.2.1 dX3_countingWith_2 (by decide) ?_
  refine lv_istore (lv' := [(4, .int 0), (3, .int 0), (0, .ref (ad (0, 0, 0))), (1, .ref (ad (7, f, 0))), (2, .int d)]) X.1 X.2.1 dX3_countingWith_3 hl (by decide) rfl (fun ls hl => ?_)
  exact loop (s_nS σ + 1) 0 (by omega) (by omega) ls (lv_sub hl [2, 3, 4, 1, 0] rfl)
end
section
set_option maxHeartbeats 4000000 in
set_option maxRecDepth 100000 in
/-- majorityRow: the leading copy, or null -/
theorem c_X3_majorityRow (l : Launch) (G : h_G) {ad : h_T → Nat} {k : h_C} {σ : S_t} (hR : RX G ad k σ) {f : Nat} (hf : f < s_nF σ) : h_Rd l yX3_majorityRow cX3_majorityRow 5 (some (.object "CopyPolls$Row")) 4 90 G ad k [.ref (ad (0, 0, 0)), .ref (ad (7, f, 0))] (some (va_rf ((s_lead σ f).map (fun s => ad (9, s, f))))) := by
  refine h_rd (by decide +kernel) (Nat.le_of_ble_eq_true rfl) ?_
  intro p e s m args below meth c X Y hw ls hl
  have hl : lv_has ls 5 [(0, .ref (ad (0, 0, 0))), (1, .ref (ad (7, f, 0)))] := hl
  have hok := hR.ok
  obtain ⟨hx, hs, hst, hi, hit, hcp, hcol, hmx, hask, -⟩ := id hR
  have hx : k (0, 0, 0) = some (.inr (3, [.int (nI (s_cop σ)), .ref (ad (1, 0, 0)), .int (nI (s_nS σ)), .ref (ad (2, 0, 0)), .int (nI (s_nF σ)), .ref (ad (3, 0, 0)), .ref (ad (4, 0, 0)), .ref (ad (5, 0, 0)), .ref (ad (5, 1, 0)), .ref (ad (5, 2, 0)), .int (nI (s_as σ).length), .int (s_dg σ)])) := hx
  have hnS : s_nS σ ≤ 10 := hok.2.1
  have hnF : s_nF σ ≤ 40 := hok.2.2.1
  have loop : ∀ (n i : Nat), i ≤ s_nS σ → s_nS σ + 1 ≤ i + n → (∀ j, j < i → s_maj σ f j = false) → ∀ (ls : Array Slot), lv_has ls 5 [(0, .ref (ad (0, 0, 0))), (1, .ref (ad (7, f, 0))), (2, .int (nI (cN (s_isC σ f) (s_nS σ)))), (3, .int (nI i))] → W p l e (h_rm 4 90 0 0) s m args below meth c s.heap [] 0 0 (MQ below (h_Qr (some (va_rf ((s_lead σ f).map (fun s => ad (9, s, f)))))) args s 0 0 (fun _ => False)) (F0 m 8 ls []) := by
    intro n
    induction n with
    | zero =>
      intro i h1 h2
      exact absurd h2 (by omega)
    | succ n ih =>
      intro i hii hni hinv ls hl
      refine lv_iload_n X.1 X.2.1 dX3_majorityRow_8 rfl (lv_at hl 3 rfl) ?_
      refine lv_aload_n X.1 X.2.1 dX3_majorityRow_9 rfl (lv_at hl 0 rfl) ?_
      refine gf_X3_15 X hw hx rfl dX3_majorityRow_10 ?_
      refine lv_icmp_ge (tgt := 54) X.1 X.2.1 dX3_majorityRow_13 (by decide) (fun c13 => ?_) (fun c13 => ?_)
      · have hii2 : s_nS σ ≤ i := Nat.le_of_not_lt (fun q => absurd c13 (nI_ge q (by omega)))
        refine lv_null X.1 X.2.1 dX3_majorityRow_54 ?_
        rw [show s_lead σ f = none from ff_miss (n := s_nS σ) (fun j hj => hinv j (by omega))]
        exact h_aret (o := none) X Y dX3_majorityRow_55
      · have hib : i < s_nS σ := Nat.lt_of_not_le (fun q => c13 (nI_le q (by omega)))
        rcases hc : s_cnt σ i f with _ | b
        · refine lv_aload_n X.1 X.2.1 dX3_majorityRow_16 rfl (lv_at hl 0 rfl) ?_
          refine lv_aload_n X.1 X.2.1 dX3_majorityRow_17 rfl (lv_at hl 1 rfl) ?_
          refine lv_iload_n X.1 X.2.1 dX3_majorityRow_18 rfl (lv_at hl 3 rfl) ?_
          refine h_callRV (t := (0, 0, 0)) (As := [.ref (ad (7, f, 0)), .int (nI i)]) (rest := []) X hw cs_X3_202 (c_X3_countingRow l G hR hf hib) hx rfl rfl hl.1 rfl (Nat.le_of_ble_eq_true rfl) ⟨by decide, by decide⟩ ⟨Nat.zero_le _, Nat.zero_le _⟩ dX3_majorityRow_19 ?_
          refine h_tv (b := .null) (by rw [hc]; rfl) ?_
          refine lv_astoreN (lv' := [(4, .null), (0, .ref (ad (0, 0, 0))), (1, .ref (ad (7, f, 0))), (2, .int (nI (cN (s_isC σ f) (s_nS σ)))), (3, .int (nI i))]) X.1 X.2.1 dX3_majorityRow_22 hl (by decide) rfl (fun ls hl => ?_)
          refine lv_aloadN X.1 X.2.1 dX3_majorityRow_24 (lv_at hl 0 rfl) ?_
          refine lv_ifnullN (tgt := 48) X.1 X.2.1 dX3_majorityRow_26 (by decide) ?_
          refine lv_iinc (v := nI (i + 1)) (lv' := [(3, .int (nI (i + 1))), (4, .null), (0, .ref (ad (0, 0, 0))), (1, .ref (ad (7, f, 0))), (2, .int (nI (cN (s_isC σ f) (s_nS σ))))]) X.1 X.2.1 dX3_majorityRow_48 hl (k := 4) rfl (nI_1 _) (by decide) rfl (fun ls hl => ?_)
          refine lv_goto (tgt := 8) X.1 X.2.1 dX3_majorityRow_51 (by decide) ?_
          exact ih (i + 1) (by omega) (by omega) (fun j hj => by
              rcases Nat.lt_succ_iff_lt_or_eq.mp hj with q | q
              · exact hinv j q
              · subst q
                unfold s_maj; rw [hc]) ls (lv_sub hl [2, 3, 4, 0] rfl)
        · refine lv_aload_n X.1 X.2.1 dX3_majorityRow_16 rfl (lv_at hl 0 rfl) ?_
          refine lv_aload_n X.1 X.2.1 dX3_majorityRow_17 rfl (lv_at hl 1 rfl) ?_
          refine lv_iload_n X.1 X.2.1 dX3_majorityRow_18 rfl (lv_at hl 3 rfl) ?_
          refine h_callRV (t := (0, 0, 0)) (As := [.ref (ad (7, f, 0)), .int (nI i)]) (rest := []) X hw cs_X3_202 (c_X3_countingRow l G hR hf hib) hx rfl rfl hl.1 rfl (Nat.le_of_ble_eq_true rfl) ⟨by decide, by decide⟩ ⟨Nat.zero_le _, Nat.zero_le _⟩ dX3_majorityRow_19 ?_
          refine h_tv (b := .ref (ad (9, i, f))) (by rw [hc]; rfl) ?_
          refine lv_astore (lv' := [(4, .ref (ad (9, i, f))), (0, .ref (ad (0, 0, 0))), (1, .ref (ad (7, f, 0))), (2, .int (nI (cN (s_isC σ f) (s_nS σ)))), (3, .int (nI i))]) X.1 X.2.1 dX3_majorityRow_22 hl (by decide) rfl (fun ls hl => ?_)
          refine lv_aload X.1 X.2.1 dX3_majorityRow_24 (lv_at hl 0 rfl) ?_
          refine lv_ifnull X.1 X.2.1 dX3_majorityRow_26 ?_
          refine lv_iconst (v := 2) X.1 X.2.1 dX3_majorityRow_29 (by decide) ?_
          refine lv_aload_n X.1 X.2.1 dX3_majorityRow_30 rfl (lv_at hl 1 rfl) ?_
          refine lv_aload_n X.1 X.2.1 dX3_majorityRow_31 rfl (lv_at hl 2 rfl) ?_
          refine lv_aload X.1 X.2.1 dX3_majorityRow_32 (lv_at hl 0 rfl) ?_
          refine h_callRV (t := (9, i, f)) (As := []) (rest := [.ref (ad (7, f, 0)), .ref (ad (0, 0, 0)), .int 2]) X hw cs_X3_143 (c_X1_sum l G (hcp i f b (s_cnt_cp hc).1) (hok.2.2.2.2.2.2.1 i f b (s_cnt_cp hc).1)) (hcp i f b (s_cnt_cp hc).1).1 rfl rfl hl.1 rfl (Nat.le_of_ble_eq_true rfl) ⟨by decide, by decide⟩ ⟨Nat.zero_le _, Nat.zero_le _⟩ dX3_majorityRow_34 ?_
          refine h_callRV (t := (0, 0, 0)) (As := [.ref (ad (7, f, 0)), .int (dgL b)]) (rest := [.int 2]) X hw cs_X3_210 (c_X3_countingWith l G hR hf (dgL b)) hx rfl rfl hl.1 rfl (Nat.le_of_ble_eq_true rfl) ⟨by decide, by decide⟩ ⟨Nat.zero_le _, Nat.zero_le _⟩ dX3_majorityRow_37 ?_
          refine lv_imul X.1 X.2.1 dX3_majorityRow_40 ?_
          refine h_ti (b := nI (2 * cN (s_isD σ f (dgL b)) (s_nS σ))) (pk_mul 2 _) ?_
          refine lv_iload_n X.1 X.2.1 dX3_majorityRow_41 rfl (lv_at hl 3 rfl) ?_
          refine lv_icmp_le (tgt := 48) X.1 X.2.1 dX3_majorityRow_42 (by decide) (fun c42 => ?_) (fun c42 => ?_)
          · have hb1 := cN_le (s_isC σ f) (s_nS σ)
            have hb2 := cN_le (s_isD σ f (dgL b)) (s_nS σ)
            refine lv_iinc (v := nI (i + 1)) (lv' := [(3, .int (nI (i + 1))), (4, .ref (ad (9, i, f))), (0, .ref (ad (0, 0, 0))), (1, .ref (ad (7, f, 0))), (2, .int (nI (cN (s_isC σ f) (s_nS σ))))]) X.1 X.2.1 dX3_majorityRow_48 hl (k := 4) rfl (nI_1 _) (by decide) rfl (fun ls hl => ?_)
            refine lv_goto (tgt := 8) X.1 X.2.1 dX3_majorityRow_51 (by decide) ?_
            exact ih (i + 1) (by omega) (by omega) (fun j hj => by
                rcases Nat.lt_succ_iff_lt_or_eq.mp hj with q | q
                · exact hinv j q
                · subst q
                  unfold s_maj; rw [hc]; simp only [decide_eq_false_iff_not, Nat.not_lt]
                  exact (nI_leI (by omega) (by omega)).mp c42) ls (lv_sub hl [2, 3, 4, 0] rfl)
          · have hb1 := cN_le (s_isC σ f) (s_nS σ)
            have hb2 := cN_le (s_isD σ f (dgL b)) (s_nS σ)
            refine lv_aload X.1 X.2.1 dX3_majorityRow_45 (lv_at hl 0 rfl) ?_
            rw [show s_lead σ f = some i from ff_hit hinv (by unfold s_maj; rw [hc]; simp only [decide_eq_true_eq]; exact Nat.lt_of_not_le (fun q => c42 ((nI_leI (by omega) (by omega)).mpr q))) hib]
            exact h_aret (o := some (ad (9, i, f))) X Y dX3_majorityRow_47
  refine lv_aload_n X.1 X.2.1 dX3_majorityRow_0 rfl (lv_at hl 0 rfl) ?_
  refine lv_aload_n X.1 X.2.1 dX3_majorityRow_1 rfl (lv_at hl 1 rfl) ?_
  refine h_callRV (t := (0, 0, 0)) (As := [.ref (ad (7, f, 0))]) (rest := []) X hw cs_X3_185 (c_X3_countingCopies l G hR hf) hx rfl rfl hl.1 rfl (Nat.le_of_ble_eq_true rfl) ⟨by decide, by decide⟩ ⟨Nat.zero_le _, Nat.zero_le _⟩ dX3_majorityRow_2 ?_
  refine lv_istore_n (lv' := [(2, .int (nI (cN (s_isC σ f) (s_nS σ)))), (0, .ref (ad (0, 0, 0))), (1, .ref (ad (7, f, 0)))]) X.1 X.2.1 dX3_majorityRow_5 rfl hl (by decide) rfl (fun ls hl => ?_)
  refine lv_iconst (v := 0) X.1 X.2.1 dX3_majorityRow_6 (by decide) ?_
  refine lv_istore_n (lv' := [(3, .int 0), (2, .int (nI (cN (s_isC σ f) (s_nS σ)))), (0, .ref (ad (0, 0, 0))), (1, .ref (ad (7, f, 0)))]) X.1 X.2.1 dX3_majorityRow_7 rfl hl (by decide) rfl (fun ls hl => ?_)
  exact loop (s_nS σ + 1) 0 (by omega) (by omega) (fun j hj => absurd hj (Nat.not_lt_zero j)) ls (lv_sub hl [2, 3, 1, 0] rfl)
/-- the digest of the majority -/
def s_ldg (σ : S_t) (f : Nat) : Option Int32 := (s_lead σ f).bind fun q => (s_cnt σ q f).map dgL
/-- whether the loss of the copy on store s is reckoned -/
def s_bears (σ : S_t) (f s : Nat) : Bool := match s_cnt σ s f with
  | some b => (match s_ldg σ f with
    | some d => decide (d = dgL b)
    | none => true)
  | none => false
theorem s_ldg_some {σ : S_t} {f q : Nat} {b : List Int32} (h : s_lead σ f = some q) (hb : s_cnt σ q f = some b) : s_ldg σ f = some (dgL b) := by
  unfold s_ldg
  rw [h, Option.bind_some, hb]
  rfl
theorem s_ldg_none {σ : S_t} {f : Nat} (h : s_lead σ f = none) : s_ldg σ f = none := by
  unfold s_ldg
  rw [h]
  rfl
set_option maxHeartbeats 4000000 in
set_option maxRecDepth 100000 in
/-- bearsOdds: whether its loss is reckoned -/
theorem c_X3_bearsOdds (l : Launch) (G : h_G) {ad : h_T → Nat} {k : h_C} {σ : S_t} (hR : RX G ad k σ) {f j : Nat} (hf : f < s_nF σ) (hj : j < s_nS σ) : h_Rd l yX3_bearsOdds cX3_bearsOdds 5 (some .boolean) 3 65 G ad k [.ref (ad (0, 0, 0)), .ref (ad (7, f, 0)), .int (nI j), va_rf ((s_lead σ f).map (fun s => ad (9, s, f)))] (some (.int (bI (s_bears σ f j)))) := by
  unfold s_bears
  rcases hq : s_lead σ f with _ | q
  · rw [s_ldg_none hq]
    refine h_rd (by decide +kernel) (Nat.le_of_ble_eq_true rfl) ?_
    intro p e s m args below meth c X Y hw ls hl
    have hl : lv_has ls 5 [(0, .ref (ad (0, 0, 0))), (1, .ref (ad (7, f, 0))), (2, .int (nI j)), (3, .null)] := hl
    have hok := hR.ok
    obtain ⟨hx, hs, hst, hi, hit, hcp, hcol, hmx, hask, -⟩ := id hR
    have hx : k (0, 0, 0) = some (.inr (3, [.int (nI (s_cop σ)), .ref (ad (1, 0, 0)), .int (nI (s_nS σ)), .ref (ad (2, 0, 0)), .int (nI (s_nF σ)), .ref (ad (3, 0, 0)), .ref (ad (4, 0, 0)), .ref (ad (5, 0, 0)), .ref (ad (5, 1, 0)), .ref (ad (5, 2, 0)), .int (nI (s_as σ).length), .int (s_dg σ)])) := hx
    have hnS : s_nS σ ≤ 10 := hok.2.1
    have hnF : s_nF σ ≤ 40 := hok.2.2.1
    rcases hc : s_cnt σ j f with _ | b
    · refine lv_aload_n X.1 X.2.1 dX3_bearsOdds_0 rfl (lv_at hl 0 rfl) ?_
      refine lv_aload_n X.1 X.2.1 dX3_bearsOdds_1 rfl (lv_at hl 1 rfl) ?_
      refine lv_iload_n X.1 X.2.1 dX3_bearsOdds_2 rfl (lv_at hl 2 rfl) ?_
      refine h_callRV (t := (0, 0, 0)) (As := [.ref (ad (7, f, 0)), .int (nI j)]) (rest := []) X hw cs_X3_202 (c_X3_countingRow l G hR hf hj) hx rfl rfl hl.1 rfl (Nat.le_of_ble_eq_true rfl) ⟨by decide, by decide⟩ ⟨Nat.zero_le _, Nat.zero_le _⟩ dX3_bearsOdds_3 ?_
      refine h_tv (b := .null) (by rw [hc]; rfl) ?_
      refine lv_astoreN (lv' := [(4, .null), (0, .ref (ad (0, 0, 0))), (1, .ref (ad (7, f, 0))), (2, .int (nI j)), (3, .null)]) X.1 X.2.1 dX3_bearsOdds_6 hl (by decide) rfl (fun ls hl => ?_)
      refine lv_aloadN X.1 X.2.1 dX3_bearsOdds_8 (lv_at hl 0 rfl) ?_
      refine lv_ifnullN (tgt := 33) X.1 X.2.1 dX3_bearsOdds_10 (by decide) ?_
      refine lv_iconst (v := 0) X.1 X.2.1 dX3_bearsOdds_33 (by decide) ?_
      exact h_zret (v := 0) X Y (by decide) dX3_bearsOdds_34
    · refine lv_aload_n X.1 X.2.1 dX3_bearsOdds_0 rfl (lv_at hl 0 rfl) ?_
      refine lv_aload_n X.1 X.2.1 dX3_bearsOdds_1 rfl (lv_at hl 1 rfl) ?_
      refine lv_iload_n X.1 X.2.1 dX3_bearsOdds_2 rfl (lv_at hl 2 rfl) ?_
      refine h_callRV (t := (0, 0, 0)) (As := [.ref (ad (7, f, 0)), .int (nI j)]) (rest := []) X hw cs_X3_202 (c_X3_countingRow l G hR hf hj) hx rfl rfl hl.1 rfl (Nat.le_of_ble_eq_true rfl) ⟨by decide, by decide⟩ ⟨Nat.zero_le _, Nat.zero_le _⟩ dX3_bearsOdds_3 ?_
      refine h_tv (b := .ref (ad (9, j, f))) (by rw [hc]; rfl) ?_
      refine lv_astore (lv' := [(4, .ref (ad (9, j, f))), (0, .ref (ad (0, 0, 0))), (1, .ref (ad (7, f, 0))), (2, .int (nI j)), (3, .null)]) X.1 X.2.1 dX3_bearsOdds_6 hl (by decide) rfl (fun ls hl => ?_)
      refine lv_aload X.1 X.2.1 dX3_bearsOdds_8 (lv_at hl 0 rfl) ?_
      refine lv_ifnull X.1 X.2.1 dX3_bearsOdds_10 ?_
      refine lv_aload_nN X.1 X.2.1 dX3_bearsOdds_13 rfl (lv_at hl 4 rfl) ?_
      refine lv_ifnullN (tgt := 29) X.1 X.2.1 dX3_bearsOdds_14 (by decide) ?_
      refine lv_iconst (v := 1) X.1 X.2.1 dX3_bearsOdds_29 (by decide) ?_
      refine lv_goto (tgt := 34) X.1 X.2.1 dX3_bearsOdds_30 (by decide) ?_
      exact h_zret (v := 1) X Y (by decide) dX3_bearsOdds_34
  · obtain ⟨hq1, b2, hb2⟩ := s_lead_spec hq
    rw [s_ldg_some hq hb2]
    refine h_rd (by decide +kernel) (Nat.le_of_ble_eq_true rfl) ?_
    intro p e s m args below meth c X Y hw ls hl
    have hl : lv_has ls 5 [(0, .ref (ad (0, 0, 0))), (1, .ref (ad (7, f, 0))), (2, .int (nI j)), (3, .ref (ad (9, q, f)))] := hl
    have hok := hR.ok
    obtain ⟨hx, hs, hst, hi, hit, hcp, hcol, hmx, hask, -⟩ := id hR
    have hx : k (0, 0, 0) = some (.inr (3, [.int (nI (s_cop σ)), .ref (ad (1, 0, 0)), .int (nI (s_nS σ)), .ref (ad (2, 0, 0)), .int (nI (s_nF σ)), .ref (ad (3, 0, 0)), .ref (ad (4, 0, 0)), .ref (ad (5, 0, 0)), .ref (ad (5, 1, 0)), .ref (ad (5, 2, 0)), .int (nI (s_as σ).length), .int (s_dg σ)])) := hx
    have hnS : s_nS σ ≤ 10 := hok.2.1
    have hnF : s_nF σ ≤ 40 := hok.2.2.1
    rcases hc : s_cnt σ j f with _ | b
    · refine lv_aload_n X.1 X.2.1 dX3_bearsOdds_0 rfl (lv_at hl 0 rfl) ?_
      refine lv_aload_n X.1 X.2.1 dX3_bearsOdds_1 rfl (lv_at hl 1 rfl) ?_
      refine lv_iload_n X.1 X.2.1 dX3_bearsOdds_2 rfl (lv_at hl 2 rfl) ?_
      refine h_callRV (t := (0, 0, 0)) (As := [.ref (ad (7, f, 0)), .int (nI j)]) (rest := []) X hw cs_X3_202 (c_X3_countingRow l G hR hf hj) hx rfl rfl hl.1 rfl (Nat.le_of_ble_eq_true rfl) ⟨by decide, by decide⟩ ⟨Nat.zero_le _, Nat.zero_le _⟩ dX3_bearsOdds_3 ?_
      refine h_tv (b := .null) (by rw [hc]; rfl) ?_
      refine lv_astoreN (lv' := [(4, .null), (0, .ref (ad (0, 0, 0))), (1, .ref (ad (7, f, 0))), (2, .int (nI j)), (3, .ref (ad (9, q, f)))]) X.1 X.2.1 dX3_bearsOdds_6 hl (by decide) rfl (fun ls hl => ?_)
      refine lv_aloadN X.1 X.2.1 dX3_bearsOdds_8 (lv_at hl 0 rfl) ?_
      refine lv_ifnullN (tgt := 33) X.1 X.2.1 dX3_bearsOdds_10 (by decide) ?_
      refine lv_iconst (v := 0) X.1 X.2.1 dX3_bearsOdds_33 (by decide) ?_
      exact h_zret (v := 0) X Y (by decide) dX3_bearsOdds_34
    · refine lv_aload_n X.1 X.2.1 dX3_bearsOdds_0 rfl (lv_at hl 0 rfl) ?_
      refine lv_aload_n X.1 X.2.1 dX3_bearsOdds_1 rfl (lv_at hl 1 rfl) ?_
      refine lv_iload_n X.1 X.2.1 dX3_bearsOdds_2 rfl (lv_at hl 2 rfl) ?_
      refine h_callRV (t := (0, 0, 0)) (As := [.ref (ad (7, f, 0)), .int (nI j)]) (rest := []) X hw cs_X3_202 (c_X3_countingRow l G hR hf hj) hx rfl rfl hl.1 rfl (Nat.le_of_ble_eq_true rfl) ⟨by decide, by decide⟩ ⟨Nat.zero_le _, Nat.zero_le _⟩ dX3_bearsOdds_3 ?_
      refine h_tv (b := .ref (ad (9, j, f))) (by rw [hc]; rfl) ?_
      refine lv_astore (lv' := [(4, .ref (ad (9, j, f))), (0, .ref (ad (0, 0, 0))), (1, .ref (ad (7, f, 0))), (2, .int (nI j)), (3, .ref (ad (9, q, f)))]) X.1 X.2.1 dX3_bearsOdds_6 hl (by decide) rfl (fun ls hl => ?_)
      refine lv_aload X.1 X.2.1 dX3_bearsOdds_8 (lv_at hl 0 rfl) ?_
      refine lv_ifnull X.1 X.2.1 dX3_bearsOdds_10 ?_
      refine lv_aload_n X.1 X.2.1 dX3_bearsOdds_13 rfl (lv_at hl 4 rfl) ?_
      refine lv_ifnull X.1 X.2.1 dX3_bearsOdds_14 ?_
      refine lv_aload_n X.1 X.2.1 dX3_bearsOdds_17 rfl (lv_at hl 4 rfl) ?_
      refine h_callRV (t := (9, q, f)) (As := []) (rest := []) X hw cs_X3_143 (c_X1_sum l G (hcp q f b2 (s_cnt_cp hb2).1) (hok.2.2.2.2.2.2.1 q f b2 (s_cnt_cp hb2).1)) (hcp q f b2 (s_cnt_cp hb2).1).1 rfl rfl hl.1 rfl (Nat.le_of_ble_eq_true rfl) ⟨by decide, by decide⟩ ⟨Nat.zero_le _, Nat.zero_le _⟩ dX3_bearsOdds_18 ?_
      refine lv_aload X.1 X.2.1 dX3_bearsOdds_21 (lv_at hl 0 rfl) ?_
      refine h_callRV (t := (9, j, f)) (As := []) (rest := [.int (dgL b2)]) X hw cs_X3_143 (c_X1_sum l G (hcp j f b (s_cnt_cp hc).1) (hok.2.2.2.2.2.2.1 j f b (s_cnt_cp hc).1)) (hcp j f b (s_cnt_cp hc).1).1 rfl rfl hl.1 rfl (Nat.le_of_ble_eq_true rfl) ⟨by decide, by decide⟩ ⟨Nat.zero_le _, Nat.zero_le _⟩ dX3_bearsOdds_23 ?_
      refine lv_icmp_ne (tgt := 33) X.1 X.2.1 dX3_bearsOdds_26 (by decide) (fun c26 => ?_) (fun c26 => ?_)
      · refine lv_iconst (v := 0) X.1 X.2.1 dX3_bearsOdds_33 (by decide) ?_
        show W p l e _ s m args below meth c _ _ _ _ (MQ below (h_Qr (some (.int (bI (decide (dgL b2 = dgL b)))))) args s 0 0 (fun _ => False)) _
        rw [show decide (dgL b2 = dgL b) = false by simpa using c26]
        exact h_zret (v := 0) X Y (by decide) dX3_bearsOdds_34
      · refine lv_iconst (v := 1) X.1 X.2.1 dX3_bearsOdds_29 (by decide) ?_
        refine lv_goto (tgt := 34) X.1 X.2.1 dX3_bearsOdds_30 (by decide) ?_
        show W p l e _ s m args below meth c _ _ _ _ (MQ below (h_Qr (some (.int (bI (decide (dgL b2 = dgL b)))))) args s 0 0 (fun _ => False)) _
        rw [show decide (dgL b2 = dgL b) = true by simpa using c26]
        exact h_zret (v := 1) X Y (by decide) dX3_bearsOdds_34
set_option maxHeartbeats 4000000 in
set_option maxRecDepth 100000 in
/-- Item.copyCount -/
theorem c_X0_copyCount (l : Launch) (G : h_G) {ad : h_T → Nat} {k : h_C} {σ : S_t} (hR : RX G ad k σ) {f : Nat} (hf : f < s_nF σ) : h_Rd l yX0_copyCount cX0_copyCount 6 (some .int) 0 0 G ad k [.ref (ad (7, f, 0))] (some (.int (nI (cN (fun s => s_has σ s f) 10)))) := by
  refine h_rd (by decide +kernel) (Nat.le_of_ble_eq_true rfl) ?_
  intro p e s m args below meth c X Y hw ls hl
  have hl : lv_has ls 6 [(0, .ref (ad (7, f, 0)))] := hl
  have hok := hR.ok
  obtain ⟨hx, hs, hst, hi, hit, hcp, hcol, hmx, hask, -⟩ := id hR
  have hx : k (0, 0, 0) = some (.inr (3, [.int (nI (s_cop σ)), .ref (ad (1, 0, 0)), .int (nI (s_nS σ)), .ref (ad (2, 0, 0)), .int (nI (s_nF σ)), .ref (ad (3, 0, 0)), .ref (ad (4, 0, 0)), .ref (ad (5, 0, 0)), .ref (ad (5, 1, 0)), .ref (ad (5, 2, 0)), .int (nI (s_as σ).length), .int (s_dg σ)])) := hx
  have hnS : s_nS σ ≤ 10 := hok.2.1
  have hnF : s_nF σ ≤ 40 := hok.2.2.1
  have loop : ∀ (n i : Nat), i ≤ 10 → 10 + 1 ≤ i + n → ∀ (ls : Array Slot), lv_has ls 6 [(0, .ref (ad (7, f, 0))), (1, .int (nI (cN (fun s => s_has σ s f) i))), (2, .ref (ad (8, f, 0))), (3, .int 10), (4, .int (nI i))] → W p l e (h_rm 0 0 0 0) s m args below meth c s.heap [] 0 0 (MQ below (h_Qr (some (.int (nI (cN (fun s => s_has σ s f) 10))))) args s 0 0 (fun _ => False)) (F0 m 13 ls []) := by
    intro n
    induction n with
    | zero =>
      intro i h1 h2
      exact absurd h2 (by omega)
    | succ n ih =>
      intro i hii hni ls hl
      refine lv_iload X.1 X.2.1 dX0_copyCount_13 (lv_at hl 4 rfl) ?_
      refine lv_iload_n X.1 X.2.1 dX0_copyCount_15 rfl (lv_at hl 3 rfl) ?_
      refine lv_icmp_ge (tgt := 39) X.1 X.2.1 dX0_copyCount_16 (by decide) (fun c16 => ?_) (fun c16 => ?_)
      · obtain rfl : i = 10 := Nat.le_antisymm hii (Nat.le_of_not_lt (fun q => absurd c16 (nI_ge (b := 10) q (by omega))))
        refine lv_iload_n X.1 X.2.1 dX0_copyCount_39 rfl (lv_at hl 1 rfl) ?_
        exact h_iret X Y dX0_copyCount_40
      · have hib : i < 10 := Nat.lt_of_not_le (fun q => c16 (nI_le (a := 10) q (by omega)))
        rcases hc : s_cp σ i f with _ | b
        · refine lv_aload_n X.1 X.2.1 dX0_copyCount_19 rfl (lv_at hl 2 rfl) ?_
          refine lv_iload X.1 X.2.1 dX0_copyCount_20 (lv_at hl 4 rfl) ?_
          refine h_aald X hw 5 rfl (hit f hf).2 (vp_in_nI hib (by decide)) dX0_copyCount_22 ?_
          refine h_tv (b := .null) (by rw [nI_clamp (by omega)]; simp only [x_rws, hc]; rfl) ?_
          refine lv_astoreN (lv' := [(5, .null), (0, .ref (ad (7, f, 0))), (1, .int (nI (cN (fun s => s_has σ s f) i))), (2, .ref (ad (8, f, 0))), (3, .int 10), (4, .int (nI i))]) X.1 X.2.1 dX0_copyCount_23 hl (by decide) rfl (fun ls hl => ?_)
          refine lv_aloadN X.1 X.2.1 dX0_copyCount_25 (lv_at hl 0 rfl) ?_
          refine lv_ifnullN (tgt := 33) X.1 X.2.1 dX0_copyCount_27 (by decide) ?_
          refine lv_iinc (v := nI (i + 1)) (lv' := [(4, .int (nI (i + 1))), (5, .null), (0, .ref (ad (7, f, 0))), (1, .int (nI (cN (fun s => s_has σ s f) i))), (2, .ref (ad (8, f, 0))), (3, .int 10)]) X.1 X.2.1 dX0_copyCount_33 hl (k := 5) rfl (nI_1 _) (by decide) rfl (fun ls hl => ?_)
          refine lv_goto (tgt := 13) X.1 X.2.1 dX0_copyCount_36 (by decide) ?_
          exact ih (i + 1) (by omega) (by omega) ls (by
            rw [cN_f (by unfold s_has; rw [hc]; rfl)]
            exact lv_sub hl [2, 3, 4, 5, 0] rfl)
        · refine lv_aload_n X.1 X.2.1 dX0_copyCount_19 rfl (lv_at hl 2 rfl) ?_
          refine lv_iload X.1 X.2.1 dX0_copyCount_20 (lv_at hl 4 rfl) ?_
          refine h_aald X hw 5 rfl (hit f hf).2 (vp_in_nI hib (by decide)) dX0_copyCount_22 ?_
          refine h_tv (b := .ref (ad (9, i, f))) (by rw [nI_clamp (by omega)]; simp only [x_rws, hc]; rfl) ?_
          refine lv_astore (lv' := [(5, .ref (ad (9, i, f))), (0, .ref (ad (7, f, 0))), (1, .int (nI (cN (fun s => s_has σ s f) i))), (2, .ref (ad (8, f, 0))), (3, .int 10), (4, .int (nI i))]) X.1 X.2.1 dX0_copyCount_23 hl (by decide) rfl (fun ls hl => ?_)
          refine lv_aload X.1 X.2.1 dX0_copyCount_25 (lv_at hl 0 rfl) ?_
          refine lv_ifnull X.1 X.2.1 dX0_copyCount_27 ?_
          refine lv_iinc (v := nI ((cN (fun s => s_has σ s f) i) + 1)) (lv' := [(1, .int (nI ((cN (fun s => s_has σ s f) i) + 1))), (5, .ref (ad (9, i, f))), (0, .ref (ad (7, f, 0))), (2, .ref (ad (8, f, 0))), (3, .int 10), (4, .int (nI i))]) X.1 X.2.1 dX0_copyCount_30 hl (k := 2) rfl (nI_1 _) (by decide) rfl (fun ls hl => ?_)
          refine lv_iinc (v := nI (i + 1)) (lv' := [(4, .int (nI (i + 1))), (1, .int (nI ((cN (fun s => s_has σ s f) i) + 1))), (5, .ref (ad (9, i, f))), (0, .ref (ad (7, f, 0))), (2, .ref (ad (8, f, 0))), (3, .int 10)]) X.1 X.2.1 dX0_copyCount_33 hl (k := 5) rfl (nI_1 _) (by decide) rfl (fun ls hl => ?_)
          refine lv_goto (tgt := 13) X.1 X.2.1 dX0_copyCount_36 (by decide) ?_
          exact ih (i + 1) (by omega) (by omega) ls (by
            rw [cN_t (by unfold s_has; rw [hc]; rfl)]
            exact lv_sub hl [3, 1, 4, 5, 0] rfl)
  refine lv_iconst (v := 0) X.1 X.2.1 dX0_copyCount_0 (by decide) ?_
  refine lv_istore_n (lv' := [(1, .int 0), (0, .ref (ad (7, f, 0)))]) X.1 X.2.1 dX0_copyCount_1 rfl hl (by decide) rfl (fun ls hl => ?_)
  refine lv_aload_n X.1 X.2.1 dX0_copyCount_2 rfl (lv_at hl 1 rfl) ?_
  refine gf_X0_11 X hw (hit f hf).1 rfl dX0_copyCount_3 ?_
  refine lv_astore_n (lv' := [(2, .ref (ad (8, f, 0))), (1, .int 0), (0, .ref (ad (7, f, 0)))]) X.1 X.2.1 dX0_copyCount_6 rfl hl (by decide) rfl (fun ls hl => ?_)
  refine lv_aload_n X.1 X.2.1 dX0_copyCount_7 rfl (lv_at hl 0 rfl) ?_
  refine h_alen X hw 5 rfl (hit f hf).2 (v := 10) rfl dX0_copyCount_8 ?_
  refine lv_istore_n (lv' := [(3, .int 10), (2, .ref (ad (8, f, 0))), (1, .int 0), (0, .ref (ad (7, f, 0)))]) X.1 X.2.1 dX0_copyCount_9 rfl hl (by decide) rfl (fun ls hl => ?_)
  refine lv_iconst (v := 0) X.1 X.2.1 dX0_copyCount_10 (by decide) ?_
  refine lv_istore (lv' := [(4, .int 0), (3, .int 10), (2, .ref (ad (8, f, 0))), (1, .int 0), (0, .ref (ad (7, f, 0)))]) X.1 X.2.1 dX0_copyCount_11 hl (by decide) rfl (fun ls hl => ?_)
  exact loop 11 0 (by omega) (by omega) ls (lv_sub hl [4, 3, 2, 1, 0] rfl)
end
section
/-! ===== what each call answers and does, in mathematical words ===== -/
def s_c2 (g : Nat → Nat → Option (List Int32)) (s f : Nat) (v : Option (List Int32)) : Nat → Nat → Option (List Int32) := fun a b => if a = s ∧ b = f then v else g a b
theorem s_c2_s {g : Nat → Nat → Option (List Int32)} {s f : Nat} {v : Option (List Int32)} : s_c2 g s f v s f = v := if_pos ⟨rfl, rfl⟩
theorem s_c2_n {g : Nat → Nat → Option (List Int32)} {s f a b : Nat} {v : Option (List Int32)} (h : ¬ (a = s ∧ b = f)) : s_c2 g s f v a b = g a b := if_neg h
def s_setCp (σ : S_t) (s f : Nat) (v : Option (List Int32)) : S_t := (σ.1, σ.2.1, (s_pk σ, s_rn σ, s_c2 (s_cp σ) s f v), σ.2.2.2)
def s_setRn (σ : S_t) (f : Nat) (v : Int32) : S_t := (σ.1, σ.2.1, (s_pk σ, upd (s_rn σ) f v, s_cp σ), σ.2.2.2)
def s_setSi (σ : S_t) (s : Nat) (v : Bool) : S_t := (σ.1, (s_pl σ, (fun a => if a = s then v else s_si σ a), s_up σ, s_dn σ), σ.2.2)
def s_setRate (σ : S_t) (s : Nat) (a b : Int32) : S_t := (σ.1, (s_pl σ, s_si σ, upd (s_up σ) s a, upd (s_dn σ) s b), σ.2.2)
def s_addS (σ : S_t) (x : Int32) : S_t := ((s_cop σ, s_nS σ + 1, s_nF σ), (upd (s_pl σ) (s_nS σ) x, s_si σ, s_up σ, s_dn σ), σ.2.2)
def s_setCol (σ : S_t) (l : List Int32) : S_t := (σ.1, σ.2.1, σ.2.2.1, (l, s_as σ, s_dg σ))
def s_setAs (σ : S_t) (l : List (Int32 × Int32 × Int32)) : S_t := (σ.1, σ.2.1, σ.2.2.1, (s_col σ, l, s_dg σ))
def s_setDg (σ : S_t) (d : Int32) : S_t := (σ.1, σ.2.1, σ.2.2.1, (s_col σ, s_as σ, d))
/-- a copy by the numbers of a call -/
def s_at (σ : S_t) (x y : Int32) : Option (Nat × Nat × List Int32) := (ix y (s_nF σ)).bind fun f => (ix x (s_nS σ)).bind fun s => (s_cp σ s f).map fun b => (s, f, b)
theorem x_copy_at (ad : h_T → Nat) (σ : S_t) (x y : Int32) : x_copy ad σ x y = (s_at σ x y).map (fun q => ad (9, q.1, q.2.1)) := by
  unfold x_copy s_at
  cases ix y (s_nF σ) with
  | none => rfl
  | some f =>
    simp only [Option.bind_some]
    cases ix x (s_nS σ) with
    | none => rfl
    | some s =>
      simp only [Option.bind_some]
      cases s_cp σ s f <;> rfl
theorem s_at_some {σ : S_t} {x y : Int32} {s f : Nat} {b : List Int32} (h : s_at σ x y = some (s, f, b)) : x = nI s ∧ y = nI f ∧ s < s_nS σ ∧ f < s_nF σ ∧ s_cp σ s f = some b ∧ ix x (s_nS σ) = some s ∧ ix y (s_nF σ) = some f := by
  unfold s_at at h
  cases hy : ix y (s_nF σ) with
  | none => rw [hy] at h; cases h
  | some f' =>
    rw [hy, Option.bind_some] at h
    cases hx : ix x (s_nS σ) with
    | none => rw [hx] at h; cases h
    | some s' =>
      rw [hx, Option.bind_some] at h
      cases hc : s_cp σ s' f' with
      | none => rw [hc] at h; cases h
      | some b' =>
        rw [hc] at h
        cases h
        exact ⟨ix_eq hx, ix_eq hy, ix_lt hx, ix_lt hy, hc, rfl, rfl⟩
def sp_store (σ : S_t) (x : Int32) : Int32 × S_t := if (ix x 10).isNone then (-2, σ) else if (ff (fun s => decide (s_pl σ s = x)) (s_nS σ)).isSome then (-3, σ) else if 10 ≤ s_nS σ then (-4, σ) else (nI (s_nS σ), s_addS σ x)
def sp_octet (σ : S_t) (x : Int32) : S_t := if (s_col σ).length < 16 then s_setCol σ (s_col σ ++ [x &&& 255]) else σ
def sp_answers (σ : S_t) (x : Int32) (on : Bool) : Int32 × S_t := match ix x (s_nS σ) with
  | none => (-1, σ)
  | some s => (1, s_setSi σ s (!on))
def sp_alter (σ : S_t) (x y i b : Int32) : Int32 × S_t := match s_at σ x y with
  | none => (-1, σ)
  | some (s, f, l) => match ix i l.length with
    | none => (-1, σ)
    | some j => (l.getD j 0, s_setCp σ s f (some (l.set j (b &&& 255))))
def sp_cut (σ : S_t) (x y n : Int32) : Int32 × S_t := match s_at σ x y with
  | none => (-1, σ)
  | some (s, f, l) => match ix n (l.length + 1) with
    | none => (-2, σ)
    | some j => (nI (l.length - j), s_setCp σ s f (some (l.take j)))
def sp_lose (σ : S_t) (x y : Int32) : Int32 × S_t := match s_at σ x y with
  | none => (-1, σ)
  | some (s, f, _) => (1, s_setCp σ s f none)
def sp_polled (σ : S_t) (x w : Int32) : Option Int32 := (ix x (s_as σ).length).map fun j => if w = 0 then ((s_as σ).getD j (0, 0, 0)).1 else if w = 1 then ((s_as σ).getD j (0, 0, 0)).2.1 else if w = 2 then ((s_as σ).getD j (0, 0, 0)).2.2 else -1
def sp_majority (σ : S_t) (y : Int32) : Int32 × S_t := match ix y (s_nF σ) with
  | none => (-1, σ)
  | some f => match s_ldg σ f with
    | none => (0, s_setDg σ 0)
    | some d => (1, s_setDg σ d)
def sp_stale (σ : S_t) (x y : Int32) : Int32 := match s_at σ x y with
  | none => -1
  | some (_, f, l) => match s_ldg σ f with
    | none => 0
    | some d => if d = dgL l then 0 else 1
def sp_move (σ : S_t) (y x z : Int32) : Int32 × S_t := match s_at σ x y with
  | none => (-1, σ)
  | some (s, f, l) => match ix z (s_nS σ) with
    | none => (-1, σ)
    | some u => if s = u ∨ s_si σ s = true ∨ s_si σ u = true ∨ s_has σ u f = true then (-3, σ) else (1, s_setCp (s_setCp σ u f (some l)) s f none)
def sp_rate (σ : S_t) (x a b : Int32) : Int32 × S_t := match ix x (s_nS σ) with
  | none => (-1, σ)
  | some s => if b < 1 ∨ 1000 < b ∨ a < 0 ∨ b < a then (-2, σ) else (1, s_setRate σ s a b)
def sp_at (σ : S_t) (x y i : Int32) : Option Int32 := match s_at σ x y with
  | none => some (-1)
  | some (_, _, l) => (ix i l.length).map fun j => l.getD j 0
def sp_about (σ : S_t) (y w : Int32) : Int32 := match ix y (s_nF σ) with
  | none => -1
  | some f => if w = 0 then s_pk σ f else if w = 1 then nI (cN (fun s => s_has σ s f) (s_nS σ)) else if w = 2 then nI (cN (s_isC σ f) (s_nS σ)) else if w = 3 then s_rn σ f else -1
def sp_load (σ : S_t) (x : Int32) : Int32 := match ix x (s_nS σ) with
  | none => -1
  | some s => nI (cN (fun f => s_has σ s f) (s_nF σ))
theorem cN_has10 {σ : S_t} (hok : s_ok σ) (f : Nat) : cN (fun s => s_has σ s f) 10 = cN (fun s => s_has σ s f) (s_nS σ) := by
  have h10 := hok.2.1
  have := cN_more (P := fun s => s_has σ s f) (n := s_nS σ) (d := 10 - s_nS σ) (fun i h1 _ => by
    show (s_cp σ i f).isSome = false
    rw [hok.2.2.2.2.2.1 i f (Or.inl h1)]
    rfl)
  rw [show s_nS σ + (10 - s_nS σ) = 10 by omega] at this
  exact this
/-- behind a call of the class: the answer, the state, and nothing of others -/
def XPost (G : h_G) (ad : h_T → Nat) (k : h_C) (v : Option Value) (τ : S_t) : h_Ps := fun r ad' k' => r = v ∧ RX G ad' k' τ ∧ (∀ t : h_T, 20 ≤ t.1 → k' t = k t ∧ ad' t = ad t) ∧ ad' (0, 0, 0) = ad (0, 0, 0)
end
section
set_option maxHeartbeats 4000000 in
set_option maxRecDepth 100000 in
/-- digest -/
theorem c_X3_digest (l : Launch) (G : h_G) {ad : h_T → Nat} {k : h_C} {σ : S_t} (hR : RX G ad k σ)  : h_Rd l yX3_digest cX3_digest 1 (some .int) 0 0 G ad k [.ref (ad (0, 0, 0))] (some (.int (s_dg σ))) := by
  refine h_rd (by decide +kernel) (Nat.le_of_ble_eq_true rfl) ?_
  intro p e s m args below meth c X Y hw ls hl
  have hl : lv_has ls 1 [(0, .ref (ad (0, 0, 0)))] := hl
  have hok := hR.ok
  obtain ⟨hx, hs, hst, hi, hit, hcp, hcol, hmx, hask, -⟩ := id hR
  have hx : k (0, 0, 0) = some (.inr (3, [.int (nI (s_cop σ)), .ref (ad (1, 0, 0)), .int (nI (s_nS σ)), .ref (ad (2, 0, 0)), .int (nI (s_nF σ)), .ref (ad (3, 0, 0)), .ref (ad (4, 0, 0)), .ref (ad (5, 0, 0)), .ref (ad (5, 1, 0)), .ref (ad (5, 2, 0)), .int (nI (s_as σ).length), .int (s_dg σ)])) := hx
  have hnS : s_nS σ ≤ 10 := hok.2.1
  have hnF : s_nF σ ≤ 40 := hok.2.2.1
  refine lv_aload_n X.1 X.2.1 dX3_digest_0 rfl (lv_at hl 0 rfl) ?_
  refine gf_X3_51 X hw hx rfl dX3_digest_1 ?_
  exact h_iret X Y dX3_digest_4
set_option maxHeartbeats 4000000 in
set_option maxRecDepth 100000 in
/-- load -/
theorem c_X3_load (l : Launch) (G : h_G) {ad : h_T → Nat} {k : h_C} {σ : S_t} (hR : RX G ad k σ) (x : Int32) : h_Rd l yX3_load cX3_load 2 (some .int) 3 67 G ad k [.ref (ad (0, 0, 0)), .int x] (some (.int (sp_load σ x))) := by
  refine h_rd (by decide +kernel) (Nat.le_of_ble_eq_true rfl) ?_
  intro p e s m args below meth c X Y hw ls hl
  have hl : lv_has ls 2 [(0, .ref (ad (0, 0, 0))), (1, .int x)] := hl
  have hok := hR.ok
  obtain ⟨hx, hs, hst, hi, hit, hcp, hcol, hmx, hask, -⟩ := id hR
  have hx : k (0, 0, 0) = some (.inr (3, [.int (nI (s_cop σ)), .ref (ad (1, 0, 0)), .int (nI (s_nS σ)), .ref (ad (2, 0, 0)), .int (nI (s_nF σ)), .ref (ad (3, 0, 0)), .ref (ad (4, 0, 0)), .ref (ad (5, 0, 0)), .ref (ad (5, 1, 0)), .ref (ad (5, 2, 0)), .int (nI (s_as σ).length), .int (s_dg σ)])) := hx
  have hnS : s_nS σ ≤ 10 := hok.2.1
  have hnF : s_nF σ ≤ 40 := hok.2.2.1
  unfold sp_load
  rcases hc : ix x (s_nS σ) with _ | j
  · refine lv_aload_n X.1 X.2.1 dX3_load_0 rfl (lv_at hl 0 rfl) ?_
    refine lv_iload_n X.1 X.2.1 dX3_load_1 rfl (lv_at hl 1 rfl) ?_
    refine h_callRV (t := (0, 0, 0)) (As := [.int x]) (rest := []) X hw cs_X3_91 (c_X3_storeOf l G hR x) hx rfl rfl hl.1 rfl (Nat.le_of_ble_eq_true rfl) ⟨by decide, by decide⟩ ⟨Nat.zero_le _, Nat.zero_le _⟩ dX3_load_2 ?_
    refine h_tv (b := .null) (by rw [hc]; rfl) ?_
    refine lv_ifnonnullN X.1 X.2.1 dX3_load_5 ?_
    refine lv_iconst (v := (-1)) X.1 X.2.1 dX3_load_8 (by decide) ?_
    refine lv_goto (tgt := 17) X.1 X.2.1 dX3_load_9 (by decide) ?_
    exact h_iret (v := -1) X Y dX3_load_17
  · have hj : j < s_nS σ := ix_lt hc
    obtain rfl : x = nI j := ix_eq hc
    refine lv_aload_n X.1 X.2.1 dX3_load_0 rfl (lv_at hl 0 rfl) ?_
    refine lv_iload_n X.1 X.2.1 dX3_load_1 rfl (lv_at hl 1 rfl) ?_
    refine h_callRV (t := (0, 0, 0)) (As := [.int (nI j)]) (rest := []) X hw cs_X3_91 (c_X3_storeOf l G hR (nI j)) hx rfl rfl hl.1 rfl (Nat.le_of_ble_eq_true rfl) ⟨by decide, by decide⟩ ⟨Nat.zero_le _, Nat.zero_le _⟩ dX3_load_2 ?_
    refine h_tv (b := .ref (ad (6, j, 0))) (by rw [hc]; rfl) ?_
    refine lv_ifnonnull (tgt := 12) X.1 X.2.1 dX3_load_5 (by decide) ?_
    refine lv_aload_n X.1 X.2.1 dX3_load_12 rfl (lv_at hl 0 rfl) ?_
    refine lv_iload_n X.1 X.2.1 dX3_load_13 rfl (lv_at hl 1 rfl) ?_
    refine h_callRV (t := (0, 0, 0)) (As := [.int (nI j)]) (rest := []) X hw cs_X3_191 (c_X3_copiesOn l G hR hj) hx rfl rfl hl.1 rfl (Nat.le_of_ble_eq_true rfl) ⟨by decide, by decide⟩ ⟨Nat.zero_le _, Nat.zero_le _⟩ dX3_load_14 ?_
    exact h_iret X Y dX3_load_17
set_option maxHeartbeats 4000000 in
set_option maxRecDepth 100000 in
/-- about -/
theorem c_X3_about (l : Launch) (G : h_G) {ad : h_T → Nat} {k : h_C} {σ : S_t} (hR : RX G ad k σ) (y w : Int32) : h_Rd l yX3_about cX3_about 4 (some .int) 4 88 G ad k [.ref (ad (0, 0, 0)), .int y, .int w] (some (.int (sp_about σ y w))) := by
  refine h_rd (by decide +kernel) (Nat.le_of_ble_eq_true rfl) ?_
  intro p e s m args below meth c X Y hw ls hl
  have hl : lv_has ls 4 [(0, .ref (ad (0, 0, 0))), (1, .int y), (2, .int w)] := hl
  have hok := hR.ok
  obtain ⟨hx, hs, hst, hi, hit, hcp, hcol, hmx, hask, -⟩ := id hR
  have hx : k (0, 0, 0) = some (.inr (3, [.int (nI (s_cop σ)), .ref (ad (1, 0, 0)), .int (nI (s_nS σ)), .ref (ad (2, 0, 0)), .int (nI (s_nF σ)), .ref (ad (3, 0, 0)), .ref (ad (4, 0, 0)), .ref (ad (5, 0, 0)), .ref (ad (5, 1, 0)), .ref (ad (5, 2, 0)), .int (nI (s_as σ).length), .int (s_dg σ)])) := hx
  have hnS : s_nS σ ≤ 10 := hok.2.1
  have hnF : s_nF σ ≤ 40 := hok.2.2.1
  unfold sp_about
  rcases hc : ix y (s_nF σ) with _ | f
  · refine lv_aload_n X.1 X.2.1 dX3_about_0 rfl (lv_at hl 0 rfl) ?_
    refine lv_iload_n X.1 X.2.1 dX3_about_1 rfl (lv_at hl 1 rfl) ?_
    refine h_callRV (t := (0, 0, 0)) (As := [.int y]) (rest := []) X hw cs_X3_109 (c_X3_itemOf l G hR y) hx rfl rfl hl.1 rfl (Nat.le_of_ble_eq_true rfl) ⟨by decide, by decide⟩ ⟨Nat.zero_le _, Nat.zero_le _⟩ dX3_about_2 ?_
    refine h_tv (b := .null) (by rw [hc]; rfl) ?_
    refine lv_astore_nN (lv' := [(3, .null), (0, .ref (ad (0, 0, 0))), (1, .int y), (2, .int w)]) X.1 X.2.1 dX3_about_5 rfl hl (by decide) rfl (fun ls hl => ?_)
    refine lv_aload_nN X.1 X.2.1 dX3_about_6 rfl (lv_at hl 0 rfl) ?_
    refine lv_ifnonnullN X.1 X.2.1 dX3_about_7 ?_
    refine lv_iconst (v := (-1)) X.1 X.2.1 dX3_about_10 (by decide) ?_
    exact h_iret (v := -1) X Y dX3_about_11
  · have hf : f < s_nF σ := ix_lt hc
    show W p l e _ s m args below meth c _ _ _ _ (MQ below (h_Qr (some (.int (if w = 0 then s_pk σ f else if w = 1 then nI (cN (fun s => s_has σ s f) (s_nS σ)) else if w = 2 then nI (cN (s_isC σ f) (s_nS σ)) else if w = 3 then s_rn σ f else -1)))) args s 0 0 (fun _ => False)) _
    by_cases w0 : w = 0
    · subst w0
      refine lv_aload_n X.1 X.2.1 dX3_about_0 rfl (lv_at hl 0 rfl) ?_
      refine lv_iload_n X.1 X.2.1 dX3_about_1 rfl (lv_at hl 1 rfl) ?_
      refine h_callRV (t := (0, 0, 0)) (As := [.int y]) (rest := []) X hw cs_X3_109 (c_X3_itemOf l G hR y) hx rfl rfl hl.1 rfl (Nat.le_of_ble_eq_true rfl) ⟨by decide, by decide⟩ ⟨Nat.zero_le _, Nat.zero_le _⟩ dX3_about_2 ?_
      refine h_tv (b := .ref (ad (7, f, 0))) (by rw [hc]; rfl) ?_
      refine lv_astore_n (lv' := [(3, .ref (ad (7, f, 0))), (0, .ref (ad (0, 0, 0))), (1, .int y), (2, .int 0)]) X.1 X.2.1 dX3_about_5 rfl hl (by decide) rfl (fun ls hl => ?_)
      refine lv_aload_n X.1 X.2.1 dX3_about_6 rfl (lv_at hl 0 rfl) ?_
      refine lv_ifnonnull (tgt := 12) X.1 X.2.1 dX3_about_7 (by decide) ?_
      refine lv_iload_n X.1 X.2.1 dX3_about_12 rfl (lv_at hl 3 rfl) ?_
      refine lv_tableIn (tgt := 44) X.1 X.2.1 dX3_about_13 (by decide) (by decide) (by rfl) (by decide) ?_
      refine lv_aload_n X.1 X.2.1 dX3_about_44 rfl (lv_at hl 0 rfl) ?_
      refine gf_X3_117 X hw (hit f hf).1 rfl dX3_about_45 ?_
      exact h_iret X Y dX3_about_48
    by_cases w1 : w = 1
    · subst w1
      refine lv_aload_n X.1 X.2.1 dX3_about_0 rfl (lv_at hl 0 rfl) ?_
      refine lv_iload_n X.1 X.2.1 dX3_about_1 rfl (lv_at hl 1 rfl) ?_
      refine h_callRV (t := (0, 0, 0)) (As := [.int y]) (rest := []) X hw cs_X3_109 (c_X3_itemOf l G hR y) hx rfl rfl hl.1 rfl (Nat.le_of_ble_eq_true rfl) ⟨by decide, by decide⟩ ⟨Nat.zero_le _, Nat.zero_le _⟩ dX3_about_2 ?_
      refine h_tv (b := .ref (ad (7, f, 0))) (by rw [hc]; rfl) ?_
      refine lv_astore_n (lv' := [(3, .ref (ad (7, f, 0))), (0, .ref (ad (0, 0, 0))), (1, .int y), (2, .int 1)]) X.1 X.2.1 dX3_about_5 rfl hl (by decide) rfl (fun ls hl => ?_)
      refine lv_aload_n X.1 X.2.1 dX3_about_6 rfl (lv_at hl 0 rfl) ?_
      refine lv_ifnonnull (tgt := 12) X.1 X.2.1 dX3_about_7 (by decide) ?_
      refine lv_iload_n X.1 X.2.1 dX3_about_12 rfl (lv_at hl 3 rfl) ?_
      refine lv_tableIn (tgt := 49) X.1 X.2.1 dX3_about_13 (by decide) (by decide) (by rfl) (by decide) ?_
      refine lv_aload_n X.1 X.2.1 dX3_about_49 rfl (lv_at hl 0 rfl) ?_
      refine h_callRV (t := (7, f, 0)) (As := []) (rest := []) X hw cs_X3_182 (c_X0_copyCount l G hR hf) (hit f hf).1 rfl rfl hl.1 rfl (Nat.le_of_ble_eq_true rfl) ⟨by decide, by decide⟩ ⟨Nat.zero_le _, Nat.zero_le _⟩ dX3_about_50 ?_
      refine h_tv (b := .int (nI (cN (fun s => s_has σ s f) (s_nS σ)))) (by rw [cN_has10 hok]) ?_
      exact h_iret X Y dX3_about_53
    by_cases w2 : w = 2
    · subst w2
      refine lv_aload_n X.1 X.2.1 dX3_about_0 rfl (lv_at hl 0 rfl) ?_
      refine lv_iload_n X.1 X.2.1 dX3_about_1 rfl (lv_at hl 1 rfl) ?_
      refine h_callRV (t := (0, 0, 0)) (As := [.int y]) (rest := []) X hw cs_X3_109 (c_X3_itemOf l G hR y) hx rfl rfl hl.1 rfl (Nat.le_of_ble_eq_true rfl) ⟨by decide, by decide⟩ ⟨Nat.zero_le _, Nat.zero_le _⟩ dX3_about_2 ?_
      refine h_tv (b := .ref (ad (7, f, 0))) (by rw [hc]; rfl) ?_
      refine lv_astore_n (lv' := [(3, .ref (ad (7, f, 0))), (0, .ref (ad (0, 0, 0))), (1, .int y), (2, .int 2)]) X.1 X.2.1 dX3_about_5 rfl hl (by decide) rfl (fun ls hl => ?_)
      refine lv_aload_n X.1 X.2.1 dX3_about_6 rfl (lv_at hl 0 rfl) ?_
      refine lv_ifnonnull (tgt := 12) X.1 X.2.1 dX3_about_7 (by decide) ?_
      refine lv_iload_n X.1 X.2.1 dX3_about_12 rfl (lv_at hl 3 rfl) ?_
      refine lv_tableIn (tgt := 54) X.1 X.2.1 dX3_about_13 (by decide) (by decide) (by rfl) (by decide) ?_
      refine lv_aload_n X.1 X.2.1 dX3_about_54 rfl (lv_at hl 1 rfl) ?_
      refine lv_aload_n X.1 X.2.1 dX3_about_55 rfl (lv_at hl 0 rfl) ?_
      refine h_callRV (t := (0, 0, 0)) (As := [.ref (ad (7, f, 0))]) (rest := []) X hw cs_X3_185 (c_X3_countingCopies l G hR hf) hx rfl rfl hl.1 rfl (Nat.le_of_ble_eq_true rfl) ⟨by decide, by decide⟩ ⟨Nat.zero_le _, Nat.zero_le _⟩ dX3_about_56 ?_
      exact h_iret X Y dX3_about_59
    by_cases w3 : w = 3
    · subst w3
      refine lv_aload_n X.1 X.2.1 dX3_about_0 rfl (lv_at hl 0 rfl) ?_
      refine lv_iload_n X.1 X.2.1 dX3_about_1 rfl (lv_at hl 1 rfl) ?_
      refine h_callRV (t := (0, 0, 0)) (As := [.int y]) (rest := []) X hw cs_X3_109 (c_X3_itemOf l G hR y) hx rfl rfl hl.1 rfl (Nat.le_of_ble_eq_true rfl) ⟨by decide, by decide⟩ ⟨Nat.zero_le _, Nat.zero_le _⟩ dX3_about_2 ?_
      refine h_tv (b := .ref (ad (7, f, 0))) (by rw [hc]; rfl) ?_
      refine lv_astore_n (lv' := [(3, .ref (ad (7, f, 0))), (0, .ref (ad (0, 0, 0))), (1, .int y), (2, .int 3)]) X.1 X.2.1 dX3_about_5 rfl hl (by decide) rfl (fun ls hl => ?_)
      refine lv_aload_n X.1 X.2.1 dX3_about_6 rfl (lv_at hl 0 rfl) ?_
      refine lv_ifnonnull (tgt := 12) X.1 X.2.1 dX3_about_7 (by decide) ?_
      refine lv_iload_n X.1 X.2.1 dX3_about_12 rfl (lv_at hl 3 rfl) ?_
      refine lv_tableIn (tgt := 60) X.1 X.2.1 dX3_about_13 (by decide) (by decide) (by rfl) (by decide) ?_
      refine lv_aload_n X.1 X.2.1 dX3_about_60 rfl (lv_at hl 0 rfl) ?_
      refine gf_X3_188 X hw (hit f hf).1 rfl dX3_about_61 ?_
      exact h_iret X Y dX3_about_64
    rw [if_neg w0, if_neg w1, if_neg w2, if_neg w3]
    refine lv_aload_n X.1 X.2.1 dX3_about_0 rfl (lv_at hl 0 rfl) ?_
    refine lv_iload_n X.1 X.2.1 dX3_about_1 rfl (lv_at hl 1 rfl) ?_
    refine h_callRV (t := (0, 0, 0)) (As := [.int y]) (rest := []) X hw cs_X3_109 (c_X3_itemOf l G hR y) hx rfl rfl hl.1 rfl (Nat.le_of_ble_eq_true rfl) ⟨by decide, by decide⟩ ⟨Nat.zero_le _, Nat.zero_le _⟩ dX3_about_2 ?_
    refine h_tv (b := .ref (ad (7, f, 0))) (by rw [hc]; rfl) ?_
    refine lv_astore_n (lv' := [(3, .ref (ad (7, f, 0))), (0, .ref (ad (0, 0, 0))), (1, .int y), (2, .int w)]) X.1 X.2.1 dX3_about_5 rfl hl (by decide) rfl (fun ls hl => ?_)
    refine lv_aload_n X.1 X.2.1 dX3_about_6 rfl (lv_at hl 0 rfl) ?_
    refine lv_ifnonnull (tgt := 12) X.1 X.2.1 dX3_about_7 (by decide) ?_
    refine lv_iload_n X.1 X.2.1 dX3_about_12 rfl (lv_at hl 3 rfl) ?_
    refine lv_tableOut (tgt := 65) X.1 X.2.1 dX3_about_13 (by
      rcases Int.lt_or_le w.toInt 0 with q | q
      · exact Or.inl q
      · rcases Int.lt_or_le 3 w.toInt with q2 | q2
        · exact Or.inr q2
        · exfalso
          rcases (show w.toInt = 0 ∨ w.toInt = 1 ∨ w.toInt = 2 ∨ w.toInt = 3 by omega) with z | z | z | z
          · exact w0 (Int32.toInt_inj.mp z)
          · exact w1 (Int32.toInt_inj.mp z)
          · exact w2 (Int32.toInt_inj.mp z)
          · exact w3 (Int32.toInt_inj.mp z)) (by decide) ?_
    refine lv_iconst (v := (-1)) X.1 X.2.1 dX3_about_65 (by decide) ?_
    exact h_iret (v := -1) X Y dX3_about_66
set_option maxHeartbeats 4000000 in
set_option maxRecDepth 100000 in
/-- stale -/
theorem c_X3_stale (l : Launch) (G : h_G) {ad : h_T → Nat} {k : h_C} {σ : S_t} (hR : RX G ad k σ) (x y : Int32) : h_Rd l yX3_stale cX3_stale 6 (some .int) 5 114 G ad k [.ref (ad (0, 0, 0)), .int x, .int y] (some (.int (sp_stale σ x y))) := by
  refine h_rd (by decide +kernel) (Nat.le_of_ble_eq_true rfl) ?_
  intro p e s m args below meth c X Y hw ls hl
  have hl : lv_has ls 6 [(0, .ref (ad (0, 0, 0))), (1, .int x), (2, .int y)] := hl
  have hok := hR.ok
  obtain ⟨hx, hs, hst, hi, hit, hcp, hcol, hmx, hask, -⟩ := id hR
  have hx : k (0, 0, 0) = some (.inr (3, [.int (nI (s_cop σ)), .ref (ad (1, 0, 0)), .int (nI (s_nS σ)), .ref (ad (2, 0, 0)), .int (nI (s_nF σ)), .ref (ad (3, 0, 0)), .ref (ad (4, 0, 0)), .ref (ad (5, 0, 0)), .ref (ad (5, 1, 0)), .ref (ad (5, 2, 0)), .int (nI (s_as σ).length), .int (s_dg σ)])) := hx
  have hnS : s_nS σ ≤ 10 := hok.2.1
  have hnF : s_nF σ ≤ 40 := hok.2.2.1
  unfold sp_stale
  rcases ha : s_at σ x y with _ | ⟨j, f, b⟩
  · rcases hy : ix y (s_nF σ) with _ | f
    · refine lv_aload_n X.1 X.2.1 dX3_stale_0 rfl (lv_at hl 0 rfl) ?_
      refine lv_iload_n X.1 X.2.1 dX3_stale_1 rfl (lv_at hl 2 rfl) ?_
      refine h_callRV (t := (0, 0, 0)) (As := [.int y]) (rest := []) X hw cs_X3_109 (c_X3_itemOf l G hR y) hx rfl rfl hl.1 rfl (Nat.le_of_ble_eq_true rfl) ⟨by decide, by decide⟩ ⟨Nat.zero_le _, Nat.zero_le _⟩ dX3_stale_2 ?_
      refine h_tv (b := .null) (by rw [hy]; rfl) ?_
      refine lv_astore_nN (lv' := [(3, .null), (0, .ref (ad (0, 0, 0))), (1, .int x), (2, .int y)]) X.1 X.2.1 dX3_stale_5 rfl hl (by decide) rfl (fun ls hl => ?_)
      refine lv_aload_n X.1 X.2.1 dX3_stale_6 rfl (lv_at hl 1 rfl) ?_
      refine lv_iload_n X.1 X.2.1 dX3_stale_7 rfl (lv_at hl 2 rfl) ?_
      refine lv_iload_n X.1 X.2.1 dX3_stale_8 rfl (lv_at hl 3 rfl) ?_
      refine h_callRV (t := (0, 0, 0)) (As := [.int x, .int y]) (rest := []) X hw cs_X3_99 (c_X3_copyOf l G hR x y) hx rfl rfl hl.1 rfl (Nat.le_of_ble_eq_true rfl) ⟨by decide, by decide⟩ ⟨Nat.zero_le _, Nat.zero_le _⟩ dX3_stale_9 ?_
      refine h_tv (b := .null) (by rw [x_copy_at, ha]; rfl) ?_
      refine lv_astoreN (lv' := [(4, .null), (3, .null), (0, .ref (ad (0, 0, 0))), (1, .int x), (2, .int y)]) X.1 X.2.1 dX3_stale_12 hl (by decide) rfl (fun ls hl => ?_)
      refine lv_aload_nN X.1 X.2.1 dX3_stale_14 rfl (lv_at hl 1 rfl) ?_
      refine lv_ifnullN (tgt := 23) X.1 X.2.1 dX3_stale_15 (by decide) ?_
      refine lv_iconst (v := (-1)) X.1 X.2.1 dX3_stale_23 (by decide) ?_
      exact h_iret (v := -1) X Y dX3_stale_24
    · refine lv_aload_n X.1 X.2.1 dX3_stale_0 rfl (lv_at hl 0 rfl) ?_
      refine lv_iload_n X.1 X.2.1 dX3_stale_1 rfl (lv_at hl 2 rfl) ?_
      refine h_callRV (t := (0, 0, 0)) (As := [.int y]) (rest := []) X hw cs_X3_109 (c_X3_itemOf l G hR y) hx rfl rfl hl.1 rfl (Nat.le_of_ble_eq_true rfl) ⟨by decide, by decide⟩ ⟨Nat.zero_le _, Nat.zero_le _⟩ dX3_stale_2 ?_
      refine h_tv (b := .ref (ad (7, f, 0))) (by rw [hy]; rfl) ?_
      refine lv_astore_n (lv' := [(3, .ref (ad (7, f, 0))), (0, .ref (ad (0, 0, 0))), (1, .int x), (2, .int y)]) X.1 X.2.1 dX3_stale_5 rfl hl (by decide) rfl (fun ls hl => ?_)
      refine lv_aload_n X.1 X.2.1 dX3_stale_6 rfl (lv_at hl 1 rfl) ?_
      refine lv_iload_n X.1 X.2.1 dX3_stale_7 rfl (lv_at hl 2 rfl) ?_
      refine lv_iload_n X.1 X.2.1 dX3_stale_8 rfl (lv_at hl 3 rfl) ?_
      refine h_callRV (t := (0, 0, 0)) (As := [.int x, .int y]) (rest := []) X hw cs_X3_99 (c_X3_copyOf l G hR x y) hx rfl rfl hl.1 rfl (Nat.le_of_ble_eq_true rfl) ⟨by decide, by decide⟩ ⟨Nat.zero_le _, Nat.zero_le _⟩ dX3_stale_9 ?_
      refine h_tv (b := .null) (by rw [x_copy_at, ha]; rfl) ?_
      refine lv_astoreN (lv' := [(4, .null), (3, .ref (ad (7, f, 0))), (0, .ref (ad (0, 0, 0))), (1, .int x), (2, .int y)]) X.1 X.2.1 dX3_stale_12 hl (by decide) rfl (fun ls hl => ?_)
      refine lv_aload_n X.1 X.2.1 dX3_stale_14 rfl (lv_at hl 1 rfl) ?_
      refine lv_ifnull X.1 X.2.1 dX3_stale_15 ?_
      refine lv_aloadN X.1 X.2.1 dX3_stale_18 (lv_at hl 0 rfl) ?_
      refine lv_ifnonnullN X.1 X.2.1 dX3_stale_20 ?_
      refine lv_iconst (v := (-1)) X.1 X.2.1 dX3_stale_23 (by decide) ?_
      exact h_iret (v := -1) X Y dX3_stale_24
  · obtain ⟨-, -, hj, hf, hb, -, hy⟩ := s_at_some ha
    rcases hq : s_lead σ f with _ | q
    · show W p l e _ s m args below meth c _ _ _ _ (MQ below (h_Qr (some (.int (match s_ldg σ f with | none => 0 | some d => if d = dgL b then 0 else 1)))) args s 0 0 (fun _ => False)) _
      rw [s_ldg_none hq]
      refine lv_aload_n X.1 X.2.1 dX3_stale_0 rfl (lv_at hl 0 rfl) ?_
      refine lv_iload_n X.1 X.2.1 dX3_stale_1 rfl (lv_at hl 2 rfl) ?_
      refine h_callRV (t := (0, 0, 0)) (As := [.int y]) (rest := []) X hw cs_X3_109 (c_X3_itemOf l G hR y) hx rfl rfl hl.1 rfl (Nat.le_of_ble_eq_true rfl) ⟨by decide, by decide⟩ ⟨Nat.zero_le _, Nat.zero_le _⟩ dX3_stale_2 ?_
      refine h_tv (b := .ref (ad (7, f, 0))) (by rw [hy]; rfl) ?_
      refine lv_astore_n (lv' := [(3, .ref (ad (7, f, 0))), (0, .ref (ad (0, 0, 0))), (1, .int x), (2, .int y)]) X.1 X.2.1 dX3_stale_5 rfl hl (by decide) rfl (fun ls hl => ?_)
      refine lv_aload_n X.1 X.2.1 dX3_stale_6 rfl (lv_at hl 1 rfl) ?_
      refine lv_iload_n X.1 X.2.1 dX3_stale_7 rfl (lv_at hl 2 rfl) ?_
      refine lv_iload_n X.1 X.2.1 dX3_stale_8 rfl (lv_at hl 3 rfl) ?_
      refine h_callRV (t := (0, 0, 0)) (As := [.int x, .int y]) (rest := []) X hw cs_X3_99 (c_X3_copyOf l G hR x y) hx rfl rfl hl.1 rfl (Nat.le_of_ble_eq_true rfl) ⟨by decide, by decide⟩ ⟨Nat.zero_le _, Nat.zero_le _⟩ dX3_stale_9 ?_
      refine h_tv (b := .ref (ad (9, j, f))) (by rw [x_copy_at, ha]; rfl) ?_
      refine lv_astore (lv' := [(4, .ref (ad (9, j, f))), (3, .ref (ad (7, f, 0))), (0, .ref (ad (0, 0, 0))), (1, .int x), (2, .int y)]) X.1 X.2.1 dX3_stale_12 hl (by decide) rfl (fun ls hl => ?_)
      refine lv_aload_n X.1 X.2.1 dX3_stale_14 rfl (lv_at hl 1 rfl) ?_
      refine lv_ifnull X.1 X.2.1 dX3_stale_15 ?_
      refine lv_aload X.1 X.2.1 dX3_stale_18 (lv_at hl 0 rfl) ?_
      refine lv_ifnonnull (tgt := 25) X.1 X.2.1 dX3_stale_20 (by decide) ?_
      refine lv_aload_n X.1 X.2.1 dX3_stale_25 rfl (lv_at hl 2 rfl) ?_
      refine lv_aload_n X.1 X.2.1 dX3_stale_26 rfl (lv_at hl 1 rfl) ?_
      refine h_callRV (t := (0, 0, 0)) (As := [.ref (ad (7, f, 0))]) (rest := []) X hw cs_X3_139 (c_X3_majorityRow l G hR hf) hx rfl rfl hl.1 rfl (Nat.le_of_ble_eq_true rfl) ⟨by decide, by decide⟩ ⟨Nat.zero_le _, Nat.zero_le _⟩ dX3_stale_27 ?_
      refine h_tv (b := .null) (by rw [hq]; rfl) ?_
      refine lv_astoreN (lv' := [(5, .null), (4, .ref (ad (9, j, f))), (3, .ref (ad (7, f, 0))), (0, .ref (ad (0, 0, 0))), (1, .int x), (2, .int y)]) X.1 X.2.1 dX3_stale_30 hl (by decide) rfl (fun ls hl => ?_)
      refine lv_aloadN X.1 X.2.1 dX3_stale_32 (lv_at hl 0 rfl) ?_
      refine lv_ifnullN (tgt := 54) X.1 X.2.1 dX3_stale_34 (by decide) ?_
      refine lv_iconst (v := 0) X.1 X.2.1 dX3_stale_54 (by decide) ?_
      exact h_iret (v := 0) X Y dX3_stale_55
    · obtain ⟨hq1, b2, hb2⟩ := s_lead_spec hq
      show W p l e _ s m args below meth c _ _ _ _ (MQ below (h_Qr (some (.int (match s_ldg σ f with | none => 0 | some d => if d = dgL b then 0 else 1)))) args s 0 0 (fun _ => False)) _
      rw [s_ldg_some hq hb2]
      show W p l e _ s m args below meth c _ _ _ _ (MQ below (h_Qr (some (.int (if dgL b2 = dgL b then 0 else 1)))) args s 0 0 (fun _ => False)) _
      refine lv_aload_n X.1 X.2.1 dX3_stale_0 rfl (lv_at hl 0 rfl) ?_
      refine lv_iload_n X.1 X.2.1 dX3_stale_1 rfl (lv_at hl 2 rfl) ?_
      refine h_callRV (t := (0, 0, 0)) (As := [.int y]) (rest := []) X hw cs_X3_109 (c_X3_itemOf l G hR y) hx rfl rfl hl.1 rfl (Nat.le_of_ble_eq_true rfl) ⟨by decide, by decide⟩ ⟨Nat.zero_le _, Nat.zero_le _⟩ dX3_stale_2 ?_
      refine h_tv (b := .ref (ad (7, f, 0))) (by rw [hy]; rfl) ?_
      refine lv_astore_n (lv' := [(3, .ref (ad (7, f, 0))), (0, .ref (ad (0, 0, 0))), (1, .int x), (2, .int y)]) X.1 X.2.1 dX3_stale_5 rfl hl (by decide) rfl (fun ls hl => ?_)
      refine lv_aload_n X.1 X.2.1 dX3_stale_6 rfl (lv_at hl 1 rfl) ?_
      refine lv_iload_n X.1 X.2.1 dX3_stale_7 rfl (lv_at hl 2 rfl) ?_
      refine lv_iload_n X.1 X.2.1 dX3_stale_8 rfl (lv_at hl 3 rfl) ?_
      refine h_callRV (t := (0, 0, 0)) (As := [.int x, .int y]) (rest := []) X hw cs_X3_99 (c_X3_copyOf l G hR x y) hx rfl rfl hl.1 rfl (Nat.le_of_ble_eq_true rfl) ⟨by decide, by decide⟩ ⟨Nat.zero_le _, Nat.zero_le _⟩ dX3_stale_9 ?_
      refine h_tv (b := .ref (ad (9, j, f))) (by rw [x_copy_at, ha]; rfl) ?_
      refine lv_astore (lv' := [(4, .ref (ad (9, j, f))), (3, .ref (ad (7, f, 0))), (0, .ref (ad (0, 0, 0))), (1, .int x), (2, .int y)]) X.1 X.2.1 dX3_stale_12 hl (by decide) rfl (fun ls hl => ?_)
      refine lv_aload_n X.1 X.2.1 dX3_stale_14 rfl (lv_at hl 1 rfl) ?_
      refine lv_ifnull X.1 X.2.1 dX3_stale_15 ?_
      refine lv_aload X.1 X.2.1 dX3_stale_18 (lv_at hl 0 rfl) ?_
      refine lv_ifnonnull (tgt := 25) X.1 X.2.1 dX3_stale_20 (by decide) ?_
      refine lv_aload_n X.1 X.2.1 dX3_stale_25 rfl (lv_at hl 2 rfl) ?_
      refine lv_aload_n X.1 X.2.1 dX3_stale_26 rfl (lv_at hl 1 rfl) ?_
      refine h_callRV (t := (0, 0, 0)) (As := [.ref (ad (7, f, 0))]) (rest := []) X hw cs_X3_139 (c_X3_majorityRow l G hR hf) hx rfl rfl hl.1 rfl (Nat.le_of_ble_eq_true rfl) ⟨by decide, by decide⟩ ⟨Nat.zero_le _, Nat.zero_le _⟩ dX3_stale_27 ?_
      refine h_tv (b := .ref (ad (9, q, f))) (by rw [hq]; rfl) ?_
      refine lv_astore (lv' := [(5, .ref (ad (9, q, f))), (4, .ref (ad (9, j, f))), (3, .ref (ad (7, f, 0))), (0, .ref (ad (0, 0, 0))), (1, .int x), (2, .int y)]) X.1 X.2.1 dX3_stale_30 hl (by decide) rfl (fun ls hl => ?_)
      refine lv_aload X.1 X.2.1 dX3_stale_32 (lv_at hl 0 rfl) ?_
      refine lv_ifnull X.1 X.2.1 dX3_stale_34 ?_
      refine lv_aload X.1 X.2.1 dX3_stale_37 (lv_at hl 0 rfl) ?_
      refine h_callRV (t := (9, q, f)) (As := []) (rest := []) X hw cs_X3_143 (c_X1_sum l G (hcp q f b2 (s_cnt_cp hb2).1) (hok.2.2.2.2.2.2.1 q f b2 (s_cnt_cp hb2).1)) (hcp q f b2 (s_cnt_cp hb2).1).1 rfl rfl hl.1 rfl (Nat.le_of_ble_eq_true rfl) ⟨by decide, by decide⟩ ⟨Nat.zero_le _, Nat.zero_le _⟩ dX3_stale_39 ?_
      refine lv_aload X.1 X.2.1 dX3_stale_42 (lv_at hl 1 rfl) ?_
      refine h_callRV (t := (9, j, f)) (As := []) (rest := [.int (dgL b2)]) X hw cs_X3_143 (c_X1_sum l G (hcp j f b hb) (hok.2.2.2.2.2.2.1 j f b hb)) (hcp j f b hb).1 rfl rfl hl.1 rfl (Nat.le_of_ble_eq_true rfl) ⟨by decide, by decide⟩ ⟨Nat.zero_le _, Nat.zero_le _⟩ dX3_stale_44 ?_
      refine lv_icmp_eq (tgt := 54) X.1 X.2.1 dX3_stale_47 (by decide) (fun c47 => ?_) (fun c47 => ?_)
      · refine lv_iconst (v := 0) X.1 X.2.1 dX3_stale_54 (by decide) ?_
        rw [if_pos c47]
        exact h_iret X Y dX3_stale_55
      · refine lv_iconst (v := 1) X.1 X.2.1 dX3_stale_50 (by decide) ?_
        refine lv_goto (tgt := 55) X.1 X.2.1 dX3_stale_51 (by decide) ?_
        rw [if_neg c47]
        exact h_iret X Y dX3_stale_55
end
section
theorem h_W.ren {D : va_G} {cl : List vw_C} {A : Nat → Prop} {H0 : Heap} {ad : h_T → Nat} {k k' : h_C} {H : Heap} {locs : List Loc} (h : h_W D cl A H0 ad k H locs) (e : k' = k) : h_W D cl A H0 ad k' H locs := by
  rw [e]
  exact h
theorem h_W.renA {D : va_G} {cl : List vw_C} {A : Nat → Prop} {H0 : Heap} {ad ad' : h_T → Nat} {k : h_C} {H : Heap} {locs : List Loc} (h : h_W D cl A H0 ad k H locs) (e : ad' = ad) : h_W D cl A H0 ad' k H locs := by
  rw [e]
  exact h
/-- a store's cell is another one -/
theorem RX.setStore {G : h_G} {ad : h_T → Nat} {k k' : h_C} {σ τ : S_t} (h : RX G ad k σ) {s : Nat} (hs : s < s_nS σ) (h1 : τ.1 = σ.1) (h2 : τ.2.2 = σ.2.2) (hpl : s_pl τ = s_pl σ) (hot : ∀ i, i ≠ s → s_si τ i = s_si σ i ∧ s_up τ i = s_up σ i ∧ s_dn τ i = s_dn σ i) (hk : k' (6, s, 0) = some (.inr (2, [.int (s_pl τ s), .int (bI (!s_si τ s)), .int (s_up τ s), .int (s_dn τ s)]))) (ho : ∀ t : h_T, t ≠ (6, s, 0) → k' t = k t) : RX G ad k' τ := by
  obtain ⟨⟨c0, n0, f0⟩, q, w⟩ := τ
  obtain ⟨⟨c1, n1, f1⟩, q1, w1⟩ := σ
  cases h1
  cases h2
  obtain ⟨g0, g1, g2, g3, g4, g5, g6, ⟨g, g7⟩, ⟨a0, a1, a2, b0, b1, b2, b3⟩, ok1, ok2, ok3, ok4, ok5, ok6, ok7, ok8, ok9⟩ := h
  refine ⟨(ho _ (by simp)).trans g0, (ho _ (by simp)).trans g1, fun i hi => ?_, (ho _ (by simp)).trans g3, fun f hf => ⟨(ho _ (by simp)).trans (g4 f hf).1, (ho _ (by simp)).trans (g4 f hf).2⟩, fun a f b hb => (g5 a f b hb).congr (ho _ (by simp)) (ho _ (by simp)) rfl, g6.congr (ho _ (by simp)) (ho _ (by simp)) rfl, ⟨g, (ho _ (by simp)).trans g7⟩, ⟨a0, a1, a2, (ho _ (by simp)).trans b0, (ho _ (by simp)).trans b1, (ho _ (by simp)).trans b2, b3⟩, ok1, ok2, ok3, ok4, ok5, ok6, ok7, fun i hi => ?_, ok9⟩
  · by_cases his : i = s
    · subst his
      exact hk
    · obtain ⟨e1, e2, e3⟩ := hot i his
      show k' (6, i, 0) = _
      rw [ho _ (by simp [his])]
      have := g2 i hi
      unfold x_st at this
      rw [this, ← e1, ← e2, ← e3, ← hpl]
  · have his : i ≠ s := by
      intro z
      subst z
      exact absurd hs (Nat.not_lt.mpr hi)
    obtain ⟨e1, e2, e3⟩ := hot i his
    exact ⟨e1.trans (ok8 i hi).1, e2.trans (ok8 i hi).2.1, e3.trans (ok8 i hi).2.2⟩
/-- the object's own fields that are numbers -/
theorem RX.setObj {G : h_G} {ad : h_T → Nat} {k k' : h_C} {σ τ : S_t} (h : RX G ad k σ) (h1 : τ.1 = σ.1) (h2 : τ.2.1 = σ.2.1) (h3 : τ.2.2.1 = σ.2.2.1) (h4 : s_col τ = s_col σ) (h5 : s_as τ = s_as σ) (hk : k' (0, 0, 0) = some (.inr (3, x_obj ad τ))) (ho : ∀ t : h_T, t ≠ (0, 0, 0) → k' t = k t) : RX G ad k' τ := by
  obtain ⟨c0, q, w, co, as, dg⟩ := τ
  obtain ⟨c1, q1, w1, co1, as1, dg1⟩ := σ
  cases h1
  cases h2
  cases h3
  cases h4
  cases h5
  obtain ⟨g0, g1, g2, g3, g4, g5, g6, ⟨g, g7⟩, ⟨a0, a1, a2, b0, b1, b2, b3⟩, ok⟩ := h
  exact ⟨hk, (ho _ (by simp)).trans g1, fun i hi => (ho _ (by simp)).trans (g2 i hi), (ho _ (by simp)).trans g3, fun f hf => ⟨(ho _ (by simp)).trans (g4 f hf).1, (ho _ (by simp)).trans (g4 f hf).2⟩, fun a f b hb => (g5 a f b hb).congr (ho _ (by simp)) (ho _ (by simp)) rfl, g6.congr (ho _ (by simp)) (ho _ (by simp)) rfl, ⟨g, (ho _ (by simp)).trans g7⟩, ⟨a0, a1, a2, (ho _ (by simp)).trans b0, (ho _ (by simp)).trans b1, (ho _ (by simp)).trans b2, b3⟩, ok⟩
/-- the bytes of a copy that is there are others -/
theorem RX.setRow {G : h_G} {ad : h_T → Nat} {k k' : h_C} {σ : S_t} (h : RX G ad k σ) {s f : Nat} {b b' : List Int32} (hb : s_cp σ s f = some b) (hl : b'.length ≤ 16) (hk : x_row G ad k' (9, s, f) (10, s, f) b') (ho : ∀ t : h_T, t ≠ (9, s, f) → t ≠ (10, s, f) → k' t = k t) : RX G ad k' (s_setCp σ s f (some b')) := by
  obtain ⟨g0, g1, g2, g3, g4, g5, g6, ⟨g, g7⟩, ⟨a0, a1, a2, b0, b1, b2, b3⟩, ok1, ok2, ok3, ok4, ok5, ok6, ok7, ok8, ok9⟩ := h
  refine ⟨(ho _ (by simp) (by simp)).trans g0, (ho _ (by simp) (by simp)).trans g1, fun i hi => (ho _ (by simp) (by simp)).trans (g2 i hi), (ho _ (by simp) (by simp)).trans g3, fun f' hf => ⟨(ho _ (by simp) (by simp)).trans (g4 f' hf).1, ((ho _ (by simp) (by simp)).trans (g4 f' hf).2).trans ?_⟩, fun a f' l hl' => ?_, g6.congr (ho _ (by simp) (by simp)) (ho _ (by simp) (by simp)) rfl, ⟨g, (ho _ (by simp) (by simp)).trans g7⟩, ⟨a0, a1, a2, (ho _ (by simp) (by simp)).trans b0, (ho _ (by simp) (by simp)).trans b1, (ho _ (by simp) (by simp)).trans b2, b3⟩, ok1, ok2, ok3, ok4, ok5, fun a f' hf => ?_, fun a f' l hl' => ?_, ok8, ok9⟩
  · have : x_rws ad (s_setCp σ s f (some b')) f' = x_rws ad σ f' := by
      funext a
      show (s_c2 (s_cp σ) s f (some b') a f').map _ = (s_cp σ a f').map _
      by_cases hz : a = s ∧ f' = f
      · obtain ⟨rfl, rfl⟩ := hz
        rw [s_c2_s, hb]
        rfl
      · rw [s_c2_n hz]
    rw [this]
  · have hl' : s_c2 (s_cp σ) s f (some b') a f' = some l := hl'
    by_cases hz : a = s ∧ f' = f
    · obtain ⟨rfl, rfl⟩ := hz
      rw [s_c2_s] at hl'
      cases hl'
      exact hk
    · rw [s_c2_n hz] at hl'
      exact (g5 a f' l hl').congr (ho _ (by simp; exact fun h1 h2 => hz ⟨h1, h2⟩) (by simp)) (ho _ (by simp) (by simp; exact fun h1 h2 => hz ⟨h1, h2⟩)) rfl
  · show s_c2 (s_cp σ) s f (some b') a f' = none
    have hn := ok6 a f' hf
    by_cases hz : a = s ∧ f' = f
    · obtain ⟨rfl, rfl⟩ := hz
      rw [hn] at hb
      cases hb
    · rw [s_c2_n hz]
      exact hn
  · have hl' : s_c2 (s_cp σ) s f (some b') a f' = some l := hl'
    by_cases hz : a = s ∧ f' = f
    · obtain ⟨rfl, rfl⟩ := hz
      rw [s_c2_s] at hl'
      cases hl'
      exact hl
    · rw [s_c2_n hz] at hl'
      exact ok7 a f' l hl'
/-- the names that the class uses for the state -/
def x_use (σ : S_t) (t : h_T) : Prop := t ∈ ([(0, 0, 0), (1, 0, 0), (2, 0, 0), (3, 0, 0), (3, 1, 0), (4, 0, 0), (5, 0, 0), (5, 1, 0), (5, 2, 0)] : List h_T) ∨ (∃ i, i < s_nS σ ∧ t = (6, i, 0)) ∨ (∃ f, f < s_nF σ ∧ (t = (7, f, 0) ∨ t = (8, f, 0))) ∨ ∃ s f, (s_cp σ s f).isSome = true ∧ (t = (9, s, f) ∨ t = (10, s, f))
theorem x_use.kind {σ : S_t} {t : h_T} (h : x_use σ t) : t.1 < 20 := by
  rcases h with h | ⟨i, -, rfl⟩ | ⟨f, -, rfl | rfl⟩ | ⟨s, f, -, rfl | rfl⟩
  · simp only [List.mem_cons, List.not_mem_nil, or_false] at h
    rcases h with rfl | rfl | rfl | rfl | rfl | rfl | rfl | rfl | rfl <;> decide
  all_goals (dsimp only; decide)
/-- one file's cells are others -/
theorem RX.file {G : h_G} {ad ad' : h_T → Nat} {k k' : h_C} {σ τ : S_t} (h : RX G ad k σ) {f : Nat} (h1 : τ.1 = σ.1) (h2 : τ.2.1 = σ.2.1) (h3 : s_pk τ = s_pk σ) (hrn : ∀ g, g ≠ f → s_rn τ g = s_rn σ g) (h4 : τ.2.2.2 = σ.2.2.2) (hcp : ∀ s g, g ≠ f → s_cp τ s g = s_cp σ s g) (hf : f < s_nF σ) (hcn : ∀ s, s_nS σ ≤ s → s_cp τ s f = none) (hlen : ∀ s b, s_cp τ s f = some b → b.length ≤ 16) (hit : x_it G ad' k' τ f) (hrow : ∀ s b, s_cp τ s f = some b → x_row G ad' k' (9, s, f) (10, s, f) b)
    (ha : ad' (7, f, 0) = ad (7, f, 0)) (ho : ∀ t : h_T, x_use σ t → t ≠ (7, f, 0) → t ≠ (8, f, 0) → (∀ s, t ≠ (9, s, f) ∧ t ≠ (10, s, f)) → k' t = k t ∧ ad' t = ad t) : RX G ad' k' τ := by
  obtain ⟨⟨c0, n0, f0⟩, q, ⟨pk, rn, cp⟩, w⟩ := τ
  obtain ⟨⟨c1, n1, f1⟩, q1, ⟨pk1, rn1, cp1⟩, w1⟩ := σ
  cases h1
  cases h2
  cases h3
  cases h4
  obtain ⟨g0, g1, g2, g3, g4, g5, g6, ⟨g, g7⟩, ⟨a0, a1, a2, b0, b1, b2, b3⟩, ok1, ok2, ok3, ok4, ok5, ok6, ok7, ok8, ok9⟩ := h
  have base : ∀ t : h_T, t ∈ ([(0, 0, 0), (1, 0, 0), (2, 0, 0), (3, 0, 0), (3, 1, 0), (4, 0, 0), (5, 0, 0), (5, 1, 0), (5, 2, 0)] : List h_T) → k' t = k t ∧ ad' t = ad t := by
    intro t ht
    have hu : x_use ((c0, n0, f0), q, (pk, rn1, cp1), w) t := Or.inl ht
    simp only [List.mem_cons, List.not_mem_nil, or_false] at ht
    rcases ht with rfl | rfl | rfl | rfl | rfl | rfl | rfl | rfl | rfl <;> exact ho _ hu (by simp) (by simp) (fun s => by simp)
  have e0 := base (0, 0, 0) (by simp)
  have e1 := base (1, 0, 0) (by simp)
  have e2 := base (2, 0, 0) (by simp)
  have e3 := base (3, 0, 0) (by simp)
  have e31 := base (3, 1, 0) (by simp)
  have e4 := base (4, 0, 0) (by simp)
  have e5 := base (5, 0, 0) (by simp)
  have e51 := base (5, 1, 0) (by simp)
  have e52 := base (5, 2, 0) (by simp)
  have eS : ∀ i, i < n0 → k' (6, i, 0) = k (6, i, 0) ∧ ad' (6, i, 0) = ad (6, i, 0) := fun i hi => ho _ (Or.inr (Or.inl ⟨i, hi, rfl⟩)) (by simp) (by simp) (fun s => by simp)
  have eI : ∀ g, g < f0 → g ≠ f → k' (7, g, 0) = k (7, g, 0) ∧ ad' (7, g, 0) = ad (7, g, 0) := fun g hg hgf => ho _ (Or.inr (Or.inr (Or.inl ⟨g, hg, Or.inl rfl⟩))) (by simp [hgf]) (by simp) (fun s => by simp)
  have eR : ∀ g, g < f0 → g ≠ f → k' (8, g, 0) = k (8, g, 0) ∧ ad' (8, g, 0) = ad (8, g, 0) := fun g hg hgf => ho _ (Or.inr (Or.inr (Or.inl ⟨g, hg, Or.inr rfl⟩))) (by simp) (by simp [hgf]) (fun s => by simp)
  have e9 : ∀ s g b, g ≠ f → cp1 s g = some b → (k' (9, s, g) = k (9, s, g) ∧ ad' (9, s, g) = ad (9, s, g)) ∧ (k' (10, s, g) = k (10, s, g) ∧ ad' (10, s, g) = ad (10, s, g)) := fun s g b hgf hb =>
    ⟨ho _ (Or.inr (Or.inr (Or.inr ⟨s, g, (by show (cp1 s g).isSome = true; rw [hb]; rfl), Or.inl rfl⟩))) (by simp) (by simp) (fun s' => by simp [hgf]), ho _ (Or.inr (Or.inr (Or.inr ⟨s, g, (by show (cp1 s g).isSome = true; rw [hb]; rfl), Or.inr rfl⟩))) (by simp) (by simp) (fun s' => by simp [hgf])⟩
  refine ⟨?_, ?_, fun i hi => (eS i hi).1.trans (g2 i hi), ?_, fun g hg => ?_, fun s g b hb => ?_, g6.congr e3.1 e31.1 e31.2, ⟨g, e4.1.trans g7⟩, ⟨a0, a1, a2, e5.1.trans b0, e51.1.trans b1, e52.1.trans b2, b3⟩, ok1, ok2, ok3, ok4, ok5, fun s g hg => ?_, fun s g b hb => ?_, ok8, fun g hg => ?_⟩
  · rw [e0.1, g0]
    simp only [x_obj, e1.2, e2.2, e3.2, e4.2, e5.2, e51.2, e52.2]
  · rw [e1.1, g1]
    have : x_sto ad' ((c0, n0, f0), q, (pk, rn, cp), w) = x_sto ad ((c0, n0, f0), q, (pk, rn1, cp1), w) := by
      funext i
      unfold x_sto
      by_cases hi : i < n0
      · rw [if_pos hi, if_pos hi, (eS i hi).2]
      · rw [if_neg hi, if_neg hi]
    rw [this]
  · rw [e2.1, g3]
    have : x_ite ad' ((c0, n0, f0), q, (pk, rn, cp), w) = x_ite ad ((c0, n0, f0), q, (pk, rn1, cp1), w) := by
      funext i
      unfold x_ite
      by_cases hi : i < f0
      · rw [if_pos hi, if_pos hi]
        by_cases hif : i = f
        · rw [hif, ha]
        · rw [(eI i hi hif).2]
      · rw [if_neg hi, if_neg hi]
    rw [this]
  · by_cases hgf : g = f
    · subst hgf
      exact hit
    · refine ⟨?_, ?_⟩
      · rw [(eI g hg hgf).1, (g4 g hg).1, (eR g hg hgf).2]
        show some (Sum.inr (0, [Value.int (pk g), Value.ref (ad (8, g, 0)), Value.int (rn1 g)])) = some (Sum.inr (0, [Value.int (pk g), Value.ref (ad (8, g, 0)), Value.int (rn g)]))
        rw [show rn g = rn1 g from hrn g hgf]
      · rw [(eR g hg hgf).1, (g4 g hg).2]
        have : x_rws ad' ((c0, n0, f0), q, (pk, rn, cp), w) g = x_rws ad ((c0, n0, f0), q, (pk, rn1, cp1), w) g := by
          funext s
          show (cp s g).map _ = (cp1 s g).map _
          rw [show cp s g = cp1 s g from hcp s g hgf]
          cases hc : cp1 s g with
          | none => rfl
          | some b => simp only [Option.map_some, (e9 s g b hgf hc).1.2]
        rw [this]
  · by_cases hgf : g = f
    · subst hgf
      exact hrow s b hb
    · have hb : cp1 s g = some b := (hcp s g hgf).symm.trans hb
      exact (g5 s g b hb).congr (e9 s g b hgf hb).1.1 (e9 s g b hgf hb).2.1 (e9 s g b hgf hb).2.2
  · by_cases hgf : g = f
    · subst hgf
      rcases hg with hg | hg
      · exact hcn s hg
      · exact absurd hf (Nat.not_lt.mpr hg)
    · exact (hcp s g hgf).trans (ok6 s g hg)
  · by_cases hgf : g = f
    · subst hgf
      exact hlen s b hb
    · exact ok7 s g b ((hcp s g hgf).symm.trans hb)
  · have hgf : g ≠ f := by
      intro z
      subst z
      exact absurd hf (Nat.not_lt.mpr hg)
    exact (hrn g hgf).trans (ok9 g hg)
theorem t20 {t u : h_T} (h : 20 ≤ t.1) (hu : u.1 < 20) : t ≠ u := fun e => by
  rw [e] at h
  omega
end
section
set_option maxHeartbeats 4000000 in
set_option maxRecDepth 100000 in
/-- answers -/
theorem c_X3_answers (l : Launch) (G : h_G) {ad : h_T → Nat} {k : h_C} {σ : S_t} (hR : RX G ad k σ) (x : Int32) (on : Bool) : h_Wr l yX3_answers cX3_answers 4 (some .int) 1 21 0 0 G ad k [.ref (ad (0, 0, 0)), .int x, .int (bI on)] (XPost G ad k (some (.int (sp_answers σ x on).1)) (sp_answers σ x on).2) := by
  refine h_wr (by decide +kernel) (Nat.le_of_ble_eq_true rfl) ?_
  intro p e s m args below meth c X Y hw ls hl
  have hl : lv_has ls 4 [(0, .ref (ad (0, 0, 0))), (1, .int x), (2, .int (bI on))] := hl
  have hok := hR.ok
  obtain ⟨hx, hs, hst, hi, hit, hcp, hcol, hmx, hask, -⟩ := id hR
  have hx : k (0, 0, 0) = some (.inr (3, [.int (nI (s_cop σ)), .ref (ad (1, 0, 0)), .int (nI (s_nS σ)), .ref (ad (2, 0, 0)), .int (nI (s_nF σ)), .ref (ad (3, 0, 0)), .ref (ad (4, 0, 0)), .ref (ad (5, 0, 0)), .ref (ad (5, 1, 0)), .ref (ad (5, 2, 0)), .int (nI (s_as σ).length), .int (s_dg σ)])) := hx
  have hnS : s_nS σ ≤ 10 := hok.2.1
  have hnF : s_nF σ ≤ 40 := hok.2.2.1
  unfold sp_answers
  rcases hc : ix x (s_nS σ) with _ | j
  · refine lv_aload_n X.1 X.2.1 dX3_answers_0 rfl (lv_at hl 0 rfl) ?_
    refine lv_iload_n X.1 X.2.1 dX3_answers_1 rfl (lv_at hl 1 rfl) ?_
    refine h_callRV (t := (0, 0, 0)) (As := [.int x]) (rest := []) X hw cs_X3_91 (c_X3_storeOf l G hR x) hx rfl rfl hl.1 rfl (Nat.le_of_ble_eq_true rfl) ⟨by decide, by decide⟩ ⟨Nat.zero_le _, Nat.zero_le _⟩ dX3_answers_2 ?_
    refine h_tv (b := .null) (by rw [hc]; rfl) ?_
    refine lv_astore_nN (lv' := [(3, .null), (0, .ref (ad (0, 0, 0))), (1, .int x), (2, .int (bI on))]) X.1 X.2.1 dX3_answers_5 rfl hl (by decide) rfl (fun ls hl => ?_)
    refine lv_aload_nN X.1 X.2.1 dX3_answers_6 rfl (lv_at hl 0 rfl) ?_
    refine lv_ifnonnullN X.1 X.2.1 dX3_answers_7 ?_
    refine lv_iconst (v := (-1)) X.1 X.2.1 dX3_answers_10 (by decide) ?_
    exact h_iretW (v := -1) X Y hw ⟨rfl, hR, fun _ _ => ⟨rfl, rfl⟩, rfl⟩ (Nat.zero_le _) (Nat.zero_le _) dX3_answers_11
  · have hj : j < s_nS σ := ix_lt hc
    have hsj := hst j hj
    unfold x_st at hsj
    refine lv_aload_n X.1 X.2.1 dX3_answers_0 rfl (lv_at hl 0 rfl) ?_
    refine lv_iload_n X.1 X.2.1 dX3_answers_1 rfl (lv_at hl 1 rfl) ?_
    refine h_callRV (t := (0, 0, 0)) (As := [.int x]) (rest := []) X hw cs_X3_91 (c_X3_storeOf l G hR x) hx rfl rfl hl.1 rfl (Nat.le_of_ble_eq_true rfl) ⟨by decide, by decide⟩ ⟨Nat.zero_le _, Nat.zero_le _⟩ dX3_answers_2 ?_
    refine h_tv (b := .ref (ad (6, j, 0))) (by rw [hc]; rfl) ?_
    refine lv_astore_n (lv' := [(3, .ref (ad (6, j, 0))), (0, .ref (ad (0, 0, 0))), (1, .int x), (2, .int (bI on))]) X.1 X.2.1 dX3_answers_5 rfl hl (by decide) rfl (fun ls hl => ?_)
    refine lv_aload_n X.1 X.2.1 dX3_answers_6 rfl (lv_at hl 0 rfl) ?_
    refine lv_ifnonnull (tgt := 12) X.1 X.2.1 dX3_answers_7 (by decide) ?_
    refine lv_aload_n X.1 X.2.1 dX3_answers_12 rfl (lv_at hl 0 rfl) ?_
    refine lv_iload_n X.1 X.2.1 dX3_answers_13 rfl (lv_at hl 3 rfl) ?_
    refine pf_X3_95 X hw hsj (by cases on <;> rfl) (by cases on <;> rfl) (Nat.le_of_ble_eq_true rfl) dX3_answers_14 (fun H locs hw => ?_)
    obtain ⟨k1, hk1⟩ : ∃ zz, zz = h_cu k (6, j, 0) (some (.inr (2, [.int (s_pl σ j), .int (bI on), .int (s_up σ j), .int (s_dn σ j)]))) := ⟨_, rfl⟩
    have hw := h_W.ren hw hk1
    have f1_0_0_0 : k1 (0, 0, 0) = some (.inr (3, [.int (nI (s_cop σ)), .ref (ad (1, 0, 0)), .int (nI (s_nS σ)), .ref (ad (2, 0, 0)), .int (nI (s_nF σ)), .ref (ad (3, 0, 0)), .ref (ad (4, 0, 0)), .ref (ad (5, 0, 0)), .ref (ad (5, 1, 0)), .ref (ad (5, 2, 0)), .int (nI (s_as σ).length), .int (s_dg σ)])) := by rw [hk1, h_cn _ _ (by simp)]; exact hx
    have f1_6_j_0 : k1 (6, j, 0) = some (.inr (2, [.int (s_pl σ j), .int (bI on), .int (s_up σ j), .int (s_dn σ j)])) := by rw [hk1]; exact h_cs _ _ _
    refine lv_iconst (v := 1) X.1 X.2.1 dX3_answers_17 (by decide) ?_
    exact h_iretW (v := 1) X Y hw ⟨rfl, hR.setStore (τ := s_setSi σ j (!on)) hj rfl rfl rfl (fun i hi => ⟨if_neg hi, rfl, rfl⟩) (by
      rw [hk1, h_cs]
      show _ = some (Sum.inr (2, [Value.int (s_pl σ j), Value.int (bI (!(if j = j then !on else s_si σ j))), Value.int (s_up σ j), Value.int (s_dn σ j)]))
      rw [if_pos rfl, Bool.not_not]) (fun t ht => by rw [hk1, h_cn _ _ ht]), fun t ht => ⟨by rw [hk1, h_cn _ _ (t20 ht (Nat.le_of_ble_eq_true rfl))], rfl⟩, rfl⟩ (Nat.zero_le _) (Nat.zero_le _) dX3_answers_18
set_option maxHeartbeats 4000000 in
set_option maxRecDepth 100000 in
/-- rate -/
theorem c_X3_rate (l : Launch) (G : h_G) {ad : h_T → Nat} {k : h_C} {σ : S_t} (hR : RX G ad k σ) (x a b : Int32) : h_Wr l yX3_rate cX3_rate 5 (some .int) 1 21 0 0 G ad k [.ref (ad (0, 0, 0)), .int x, .int a, .int b] (XPost G ad k (some (.int (sp_rate σ x a b).1)) (sp_rate σ x a b).2) := by
  refine h_wr (by decide +kernel) (Nat.le_of_ble_eq_true rfl) ?_
  intro p e s m args below meth c X Y hw ls hl
  have hl : lv_has ls 5 [(0, .ref (ad (0, 0, 0))), (1, .int x), (2, .int a), (3, .int b)] := hl
  have hok := hR.ok
  obtain ⟨hx, hs, hst, hi, hit, hcp, hcol, hmx, hask, -⟩ := id hR
  have hx : k (0, 0, 0) = some (.inr (3, [.int (nI (s_cop σ)), .ref (ad (1, 0, 0)), .int (nI (s_nS σ)), .ref (ad (2, 0, 0)), .int (nI (s_nF σ)), .ref (ad (3, 0, 0)), .ref (ad (4, 0, 0)), .ref (ad (5, 0, 0)), .ref (ad (5, 1, 0)), .ref (ad (5, 2, 0)), .int (nI (s_as σ).length), .int (s_dg σ)])) := hx
  have hnS : s_nS σ ≤ 10 := hok.2.1
  have hnF : s_nF σ ≤ 40 := hok.2.2.1
  unfold sp_rate
  rcases hc : ix x (s_nS σ) with _ | j
  · refine lv_aload_n X.1 X.2.1 dX3_rate_0 rfl (lv_at hl 0 rfl) ?_
    refine lv_iload_n X.1 X.2.1 dX3_rate_1 rfl (lv_at hl 1 rfl) ?_
    refine h_callRV (t := (0, 0, 0)) (As := [.int x]) (rest := []) X hw cs_X3_91 (c_X3_storeOf l G hR x) hx rfl rfl hl.1 rfl (Nat.le_of_ble_eq_true rfl) ⟨by decide, by decide⟩ ⟨Nat.zero_le _, Nat.zero_le _⟩ dX3_rate_2 ?_
    refine h_tv (b := .null) (by rw [hc]; rfl) ?_
    refine lv_astoreN (lv' := [(4, .null), (0, .ref (ad (0, 0, 0))), (1, .int x), (2, .int a), (3, .int b)]) X.1 X.2.1 dX3_rate_5 hl (by decide) rfl (fun ls hl => ?_)
    refine lv_aloadN X.1 X.2.1 dX3_rate_7 (lv_at hl 0 rfl) ?_
    refine lv_ifnonnullN X.1 X.2.1 dX3_rate_9 ?_
    refine lv_iconst (v := (-1)) X.1 X.2.1 dX3_rate_12 (by decide) ?_
    exact h_iretW (v := -1) X Y hw ⟨rfl, hR, fun _ _ => ⟨rfl, rfl⟩, rfl⟩ (Nat.zero_le _) (Nat.zero_le _) dX3_rate_13
  · have hj : j < s_nS σ := ix_lt hc
    have hsj := hst j hj
    unfold x_st at hsj
    show W p l e _ s m args below meth c _ _ _ _ (MQ below (h_Qw G ad k s.heap.size (XPost G ad k (some (.int ((if b < 1 ∨ 1000 < b ∨ a < 0 ∨ b < a then (-2, σ) else (1, s_setRate σ j a b) : Int32 × S_t)).1)) ((if b < 1 ∨ 1000 < b ∨ a < 0 ∨ b < a then (-2, σ) else (1, s_setRate σ j a b) : Int32 × S_t)).2)) args s 0 0 (h_A ad k s.heap.size)) _
    refine lv_aload_n X.1 X.2.1 dX3_rate_0 rfl (lv_at hl 0 rfl) ?_
    refine lv_iload_n X.1 X.2.1 dX3_rate_1 rfl (lv_at hl 1 rfl) ?_
    refine h_callRV (t := (0, 0, 0)) (As := [.int x]) (rest := []) X hw cs_X3_91 (c_X3_storeOf l G hR x) hx rfl rfl hl.1 rfl (Nat.le_of_ble_eq_true rfl) ⟨by decide, by decide⟩ ⟨Nat.zero_le _, Nat.zero_le _⟩ dX3_rate_2 ?_
    refine h_tv (b := .ref (ad (6, j, 0))) (by rw [hc]; rfl) ?_
    refine lv_astore (lv' := [(4, .ref (ad (6, j, 0))), (0, .ref (ad (0, 0, 0))), (1, .int x), (2, .int a), (3, .int b)]) X.1 X.2.1 dX3_rate_5 hl (by decide) rfl (fun ls hl => ?_)
    refine lv_aload X.1 X.2.1 dX3_rate_7 (lv_at hl 0 rfl) ?_
    refine lv_ifnonnull (tgt := 14) X.1 X.2.1 dX3_rate_9 (by decide) ?_
    refine lv_iload_n X.1 X.2.1 dX3_rate_14 rfl (lv_at hl 4 rfl) ?_
    refine lv_iconst (v := 1) X.1 X.2.1 dX3_rate_15 (by decide) ?_
    refine lv_icmp_lt (tgt := 35) X.1 X.2.1 dX3_rate_16 (by decide) (fun c16 => ?_) (fun c16 => ?_)
    · refine lv_bipush (v := (-2)) X.1 X.2.1 dX3_rate_35 (by decide) ?_
      rw [if_pos (Or.inl c16)]
      exact h_iretW (v := -2) X Y hw ⟨rfl, hR, fun _ _ => ⟨rfl, rfl⟩, rfl⟩ (Nat.zero_le _) (Nat.zero_le _) dX3_rate_37
    · refine lv_iload_n X.1 X.2.1 dX3_rate_19 rfl (lv_at hl 4 rfl) ?_
      refine lv_sipush (v := 1000) X.1 X.2.1 dX3_rate_20 (by decide) ?_
      refine lv_icmp_gt (tgt := 35) X.1 X.2.1 dX3_rate_23 (by decide) (fun c23 => ?_) (fun c23 => ?_)
      · refine lv_bipush (v := (-2)) X.1 X.2.1 dX3_rate_35 (by decide) ?_
        rw [if_pos (Or.inr (Or.inl c23))]
        exact h_iretW (v := -2) X Y hw ⟨rfl, hR, fun _ _ => ⟨rfl, rfl⟩, rfl⟩ (Nat.zero_le _) (Nat.zero_le _) dX3_rate_37
      · refine lv_iload_n X.1 X.2.1 dX3_rate_26 rfl (lv_at hl 3 rfl) ?_
        refine lv_if_lt (tgt := 35) X.1 X.2.1 dX3_rate_27 (by decide) (fun c27 => ?_) (fun c27 => ?_)
        · refine lv_bipush (v := (-2)) X.1 X.2.1 dX3_rate_35 (by decide) ?_
          rw [if_pos (Or.inr (Or.inr (Or.inl c27)))]
          exact h_iretW (v := -2) X Y hw ⟨rfl, hR, fun _ _ => ⟨rfl, rfl⟩, rfl⟩ (Nat.zero_le _) (Nat.zero_le _) dX3_rate_37
        · refine lv_iload_n X.1 X.2.1 dX3_rate_30 rfl (lv_at hl 3 rfl) ?_
          refine lv_iload_n X.1 X.2.1 dX3_rate_31 rfl (lv_at hl 4 rfl) ?_
          refine lv_icmp_le (tgt := 38) X.1 X.2.1 dX3_rate_32 (by decide) (fun c32 => ?_) (fun c32 => ?_)
          · refine lv_aload X.1 X.2.1 dX3_rate_38 (lv_at hl 0 rfl) ?_
            refine lv_iload_n X.1 X.2.1 dX3_rate_40 rfl (lv_at hl 3 rfl) ?_
            refine pf_X3_156 X hw hsj rfl rfl (Nat.le_of_ble_eq_true rfl) dX3_rate_41 (fun H locs hw => ?_)
            obtain ⟨k1, hk1⟩ : ∃ zz, zz = h_cu k (6, j, 0) (some (.inr (2, [.int (s_pl σ j), .int (bI (!s_si σ j)), .int a, .int (s_dn σ j)]))) := ⟨_, rfl⟩
            have hw := h_W.ren hw hk1
            have f1_0_0_0 : k1 (0, 0, 0) = some (.inr (3, [.int (nI (s_cop σ)), .ref (ad (1, 0, 0)), .int (nI (s_nS σ)), .ref (ad (2, 0, 0)), .int (nI (s_nF σ)), .ref (ad (3, 0, 0)), .ref (ad (4, 0, 0)), .ref (ad (5, 0, 0)), .ref (ad (5, 1, 0)), .ref (ad (5, 2, 0)), .int (nI (s_as σ).length), .int (s_dg σ)])) := by rw [hk1, h_cn _ _ (by simp)]; exact hx
            have f1_6_j_0 : k1 (6, j, 0) = some (.inr (2, [.int (s_pl σ j), .int (bI (!s_si σ j)), .int a, .int (s_dn σ j)])) := by rw [hk1]; exact h_cs _ _ _
            refine lv_aload X.1 X.2.1 dX3_rate_44 (lv_at hl 0 rfl) ?_
            refine lv_iload_n X.1 X.2.1 dX3_rate_46 rfl (lv_at hl 4 rfl) ?_
            refine pf_X3_159 X hw f1_6_j_0 rfl rfl (Nat.le_of_ble_eq_true rfl) dX3_rate_47 (fun H locs hw => ?_)
            obtain ⟨k2, hk2⟩ : ∃ zz, zz = h_cu k1 (6, j, 0) (some (.inr (2, [.int (s_pl σ j), .int (bI (!s_si σ j)), .int a, .int b]))) := ⟨_, rfl⟩
            have hw := h_W.ren hw hk2
            have f2_0_0_0 : k2 (0, 0, 0) = some (.inr (3, [.int (nI (s_cop σ)), .ref (ad (1, 0, 0)), .int (nI (s_nS σ)), .ref (ad (2, 0, 0)), .int (nI (s_nF σ)), .ref (ad (3, 0, 0)), .ref (ad (4, 0, 0)), .ref (ad (5, 0, 0)), .ref (ad (5, 1, 0)), .ref (ad (5, 2, 0)), .int (nI (s_as σ).length), .int (s_dg σ)])) := by rw [hk2, h_cn _ _ (by simp)]; exact f1_0_0_0
            have f2_6_j_0 : k2 (6, j, 0) = some (.inr (2, [.int (s_pl σ j), .int (bI (!s_si σ j)), .int a, .int b])) := by rw [hk2]; exact h_cs _ _ _
            refine lv_iconst (v := 1) X.1 X.2.1 dX3_rate_50 (by decide) ?_
            rw [if_neg (fun q => by
              rcases q with q | q | q | q
              · exact c16 q
              · exact c23 q
              · exact c27 q
              · exact Int32.not_le.mpr q c32)]
            exact h_iretW (v := 1) X Y hw ⟨rfl, hR.setStore (τ := s_setRate σ j a b) hj rfl rfl rfl (fun i hi => ⟨rfl, if_neg hi, if_neg hi⟩) (by
              rw [hk2, h_cs]
              show _ = some (Sum.inr (2, [Value.int (s_pl σ j), Value.int (bI (!s_si σ j)), Value.int (upd (s_up σ) j a j), Value.int (upd (s_dn σ) j b j)]))
              rw [pk_us, pk_us]) (fun t ht => by rw [hk2, h_cn _ _ ht, hk1, h_cn _ _ ht]), fun t ht => ⟨by rw [hk2, h_cn _ _ (t20 ht (Nat.le_of_ble_eq_true rfl)), hk1, h_cn _ _ (t20 ht (Nat.le_of_ble_eq_true rfl))], rfl⟩, rfl⟩ (Nat.zero_le _) (Nat.zero_le _) dX3_rate_51
          · refine lv_bipush (v := (-2)) X.1 X.2.1 dX3_rate_35 (by decide) ?_
            rw [if_pos (Or.inr (Or.inr (Or.inr (Int32.not_le.mp c32))))]
            exact h_iretW (v := -2) X Y hw ⟨rfl, hR, fun _ _ => ⟨rfl, rfl⟩, rfl⟩ (Nat.zero_le _) (Nat.zero_le _) dX3_rate_37
set_option maxHeartbeats 4000000 in
set_option maxRecDepth 100000 in
/-- majority -/
theorem c_X3_majority (l : Launch) (G : h_G) {ad : h_T → Nat} {k : h_C} {σ : S_t} (hR : RX G ad k σ) (y : Int32) : h_Wr l yX3_majority cX3_majority 4 (some .int) 5 114 0 0 G ad k [.ref (ad (0, 0, 0)), .int y] (XPost G ad k (some (.int (sp_majority σ y).1)) (sp_majority σ y).2) := by
  refine h_wr (by decide +kernel) (Nat.le_of_ble_eq_true rfl) ?_
  intro p e s m args below meth c X Y hw ls hl
  have hl : lv_has ls 4 [(0, .ref (ad (0, 0, 0))), (1, .int y)] := hl
  have hok := hR.ok
  obtain ⟨hx, hs, hst, hi, hit, hcp, hcol, hmx, hask, -⟩ := id hR
  have hx : k (0, 0, 0) = some (.inr (3, [.int (nI (s_cop σ)), .ref (ad (1, 0, 0)), .int (nI (s_nS σ)), .ref (ad (2, 0, 0)), .int (nI (s_nF σ)), .ref (ad (3, 0, 0)), .ref (ad (4, 0, 0)), .ref (ad (5, 0, 0)), .ref (ad (5, 1, 0)), .ref (ad (5, 2, 0)), .int (nI (s_as σ).length), .int (s_dg σ)])) := hx
  have hnS : s_nS σ ≤ 10 := hok.2.1
  have hnF : s_nF σ ≤ 40 := hok.2.2.1
  unfold sp_majority
  rcases hc : ix y (s_nF σ) with _ | f
  · refine lv_aload_n X.1 X.2.1 dX3_majority_0 rfl (lv_at hl 0 rfl) ?_
    refine lv_iload_n X.1 X.2.1 dX3_majority_1 rfl (lv_at hl 1 rfl) ?_
    refine h_callRV (t := (0, 0, 0)) (As := [.int y]) (rest := []) X hw cs_X3_109 (c_X3_itemOf l G hR y) hx rfl rfl hl.1 rfl (Nat.le_of_ble_eq_true rfl) ⟨by decide, by decide⟩ ⟨Nat.zero_le _, Nat.zero_le _⟩ dX3_majority_2 ?_
    refine h_tv (b := .null) (by rw [hc]; rfl) ?_
    refine lv_astore_nN (lv' := [(2, .null), (0, .ref (ad (0, 0, 0))), (1, .int y)]) X.1 X.2.1 dX3_majority_5 rfl hl (by decide) rfl (fun ls hl => ?_)
    refine lv_aload_nN X.1 X.2.1 dX3_majority_6 rfl (lv_at hl 0 rfl) ?_
    refine lv_ifnonnullN X.1 X.2.1 dX3_majority_7 ?_
    refine lv_iconst (v := (-1)) X.1 X.2.1 dX3_majority_10 (by decide) ?_
    exact h_iretW (v := -1) X Y hw ⟨rfl, hR, fun _ _ => ⟨rfl, rfl⟩, rfl⟩ (Nat.zero_le _) (Nat.zero_le _) dX3_majority_11
  · have hf : f < s_nF σ := ix_lt hc
    show W p l e _ s m args below meth c _ _ _ _ (MQ below (h_Qw G ad k s.heap.size (XPost G ad k (some (.int ((match s_ldg σ f with | none => (0, s_setDg σ 0) | some d => (1, s_setDg σ d) : Int32 × S_t)).1)) ((match s_ldg σ f with | none => (0, s_setDg σ 0) | some d => (1, s_setDg σ d) : Int32 × S_t)).2)) args s 0 0 (h_A ad k s.heap.size)) _
    rcases hq : s_lead σ f with _ | q
    · rw [s_ldg_none hq]
      refine lv_aload_n X.1 X.2.1 dX3_majority_0 rfl (lv_at hl 0 rfl) ?_
      refine lv_iload_n X.1 X.2.1 dX3_majority_1 rfl (lv_at hl 1 rfl) ?_
      refine h_callRV (t := (0, 0, 0)) (As := [.int y]) (rest := []) X hw cs_X3_109 (c_X3_itemOf l G hR y) hx rfl rfl hl.1 rfl (Nat.le_of_ble_eq_true rfl) ⟨by decide, by decide⟩ ⟨Nat.zero_le _, Nat.zero_le _⟩ dX3_majority_2 ?_
      refine h_tv (b := .ref (ad (7, f, 0))) (by rw [hc]; rfl) ?_
      refine lv_astore_n (lv' := [(2, .ref (ad (7, f, 0))), (0, .ref (ad (0, 0, 0))), (1, .int y)]) X.1 X.2.1 dX3_majority_5 rfl hl (by decide) rfl (fun ls hl => ?_)
      refine lv_aload_n X.1 X.2.1 dX3_majority_6 rfl (lv_at hl 0 rfl) ?_
      refine lv_ifnonnull (tgt := 12) X.1 X.2.1 dX3_majority_7 (by decide) ?_
      refine lv_aload_n X.1 X.2.1 dX3_majority_12 rfl (lv_at hl 1 rfl) ?_
      refine lv_aload_n X.1 X.2.1 dX3_majority_13 rfl (lv_at hl 0 rfl) ?_
      refine h_callRV (t := (0, 0, 0)) (As := [.ref (ad (7, f, 0))]) (rest := []) X hw cs_X3_139 (c_X3_majorityRow l G hR hf) hx rfl rfl hl.1 rfl (Nat.le_of_ble_eq_true rfl) ⟨by decide, by decide⟩ ⟨Nat.zero_le _, Nat.zero_le _⟩ dX3_majority_14 ?_
      refine h_tv (b := .null) (by rw [hq]; rfl) ?_
      refine lv_astore_nN (lv' := [(3, .null), (2, .ref (ad (7, f, 0))), (0, .ref (ad (0, 0, 0))), (1, .int y)]) X.1 X.2.1 dX3_majority_17 rfl hl (by decide) rfl (fun ls hl => ?_)
      refine lv_aload_n X.1 X.2.1 dX3_majority_18 rfl (lv_at hl 2 rfl) ?_
      refine lv_aload_nN X.1 X.2.1 dX3_majority_19 rfl (lv_at hl 0 rfl) ?_
      refine lv_ifnonnullN X.1 X.2.1 dX3_majority_20 ?_
      refine lv_iconst (v := 0) X.1 X.2.1 dX3_majority_23 (by decide) ?_
      refine lv_goto (tgt := 31) X.1 X.2.1 dX3_majority_24 (by decide) ?_
      refine pf_X3_51 X hw hx rfl rfl (Nat.le_of_ble_eq_true rfl) dX3_majority_31 (fun H locs hw => ?_)
      obtain ⟨k1, hk1⟩ : ∃ zz, zz = h_cu k (0, 0, 0) (some (.inr (3, [.int (nI (s_cop σ)), .ref (ad (1, 0, 0)), .int (nI (s_nS σ)), .ref (ad (2, 0, 0)), .int (nI (s_nF σ)), .ref (ad (3, 0, 0)), .ref (ad (4, 0, 0)), .ref (ad (5, 0, 0)), .ref (ad (5, 1, 0)), .ref (ad (5, 2, 0)), .int (nI (s_as σ).length), .int 0]))) := ⟨_, rfl⟩
      have hw := h_W.ren hw hk1
      have f1_0_0_0 : k1 (0, 0, 0) = some (.inr (3, [.int (nI (s_cop σ)), .ref (ad (1, 0, 0)), .int (nI (s_nS σ)), .ref (ad (2, 0, 0)), .int (nI (s_nF σ)), .ref (ad (3, 0, 0)), .ref (ad (4, 0, 0)), .ref (ad (5, 0, 0)), .ref (ad (5, 1, 0)), .ref (ad (5, 2, 0)), .int (nI (s_as σ).length), .int 0])) := by rw [hk1]; exact h_cs _ _ _
      refine lv_aload_nN X.1 X.2.1 dX3_majority_34 rfl (lv_at hl 0 rfl) ?_
      refine lv_ifnonnullN X.1 X.2.1 dX3_majority_35 ?_
      refine lv_iconst (v := 0) X.1 X.2.1 dX3_majority_38 (by decide) ?_
      refine lv_goto (tgt := 43) X.1 X.2.1 dX3_majority_39 (by decide) ?_
      exact h_iretW (v := 0) X Y hw ⟨rfl, hR.setObj (τ := s_setDg σ 0) rfl rfl rfl rfl rfl (by rw [hk1, h_cs]; rfl) (fun t ht => by rw [hk1, h_cn _ _ ht]), fun t ht => ⟨by rw [hk1, h_cn _ _ (t20 ht (Nat.le_of_ble_eq_true rfl))], rfl⟩, rfl⟩ (Nat.zero_le _) (Nat.zero_le _) dX3_majority_43
    · obtain ⟨hq1, b2, hb2⟩ := s_lead_spec hq
      rw [s_ldg_some hq hb2]
      refine lv_aload_n X.1 X.2.1 dX3_majority_0 rfl (lv_at hl 0 rfl) ?_
      refine lv_iload_n X.1 X.2.1 dX3_majority_1 rfl (lv_at hl 1 rfl) ?_
      refine h_callRV (t := (0, 0, 0)) (As := [.int y]) (rest := []) X hw cs_X3_109 (c_X3_itemOf l G hR y) hx rfl rfl hl.1 rfl (Nat.le_of_ble_eq_true rfl) ⟨by decide, by decide⟩ ⟨Nat.zero_le _, Nat.zero_le _⟩ dX3_majority_2 ?_
      refine h_tv (b := .ref (ad (7, f, 0))) (by rw [hc]; rfl) ?_
      refine lv_astore_n (lv' := [(2, .ref (ad (7, f, 0))), (0, .ref (ad (0, 0, 0))), (1, .int y)]) X.1 X.2.1 dX3_majority_5 rfl hl (by decide) rfl (fun ls hl => ?_)
      refine lv_aload_n X.1 X.2.1 dX3_majority_6 rfl (lv_at hl 0 rfl) ?_
      refine lv_ifnonnull (tgt := 12) X.1 X.2.1 dX3_majority_7 (by decide) ?_
      refine lv_aload_n X.1 X.2.1 dX3_majority_12 rfl (lv_at hl 1 rfl) ?_
      refine lv_aload_n X.1 X.2.1 dX3_majority_13 rfl (lv_at hl 0 rfl) ?_
      refine h_callRV (t := (0, 0, 0)) (As := [.ref (ad (7, f, 0))]) (rest := []) X hw cs_X3_139 (c_X3_majorityRow l G hR hf) hx rfl rfl hl.1 rfl (Nat.le_of_ble_eq_true rfl) ⟨by decide, by decide⟩ ⟨Nat.zero_le _, Nat.zero_le _⟩ dX3_majority_14 ?_
      refine h_tv (b := .ref (ad (9, q, f))) (by rw [hq]; rfl) ?_
      refine lv_astore_n (lv' := [(3, .ref (ad (9, q, f))), (2, .ref (ad (7, f, 0))), (0, .ref (ad (0, 0, 0))), (1, .int y)]) X.1 X.2.1 dX3_majority_17 rfl hl (by decide) rfl (fun ls hl => ?_)
      refine lv_aload_n X.1 X.2.1 dX3_majority_18 rfl (lv_at hl 2 rfl) ?_
      refine lv_aload_n X.1 X.2.1 dX3_majority_19 rfl (lv_at hl 0 rfl) ?_
      refine lv_ifnonnull (tgt := 27) X.1 X.2.1 dX3_majority_20 (by decide) ?_
      refine lv_aload_n X.1 X.2.1 dX3_majority_27 rfl (lv_at hl 0 rfl) ?_
      refine h_callRV (t := (9, q, f)) (As := []) (rest := [.ref (ad (0, 0, 0))]) X hw cs_X3_143 (c_X1_sum l G (hcp q f b2 (s_cnt_cp hb2).1) (hok.2.2.2.2.2.2.1 q f b2 (s_cnt_cp hb2).1)) (hcp q f b2 (s_cnt_cp hb2).1).1 rfl rfl hl.1 rfl (Nat.le_of_ble_eq_true rfl) ⟨by decide, by decide⟩ ⟨Nat.zero_le _, Nat.zero_le _⟩ dX3_majority_28 ?_
      refine pf_X3_51 X hw hx rfl rfl (Nat.le_of_ble_eq_true rfl) dX3_majority_31 (fun H locs hw => ?_)
      obtain ⟨k1, hk1⟩ : ∃ zz, zz = h_cu k (0, 0, 0) (some (.inr (3, [.int (nI (s_cop σ)), .ref (ad (1, 0, 0)), .int (nI (s_nS σ)), .ref (ad (2, 0, 0)), .int (nI (s_nF σ)), .ref (ad (3, 0, 0)), .ref (ad (4, 0, 0)), .ref (ad (5, 0, 0)), .ref (ad (5, 1, 0)), .ref (ad (5, 2, 0)), .int (nI (s_as σ).length), .int (dgL b2)]))) := ⟨_, rfl⟩
      have hw := h_W.ren hw hk1
      have f1_0_0_0 : k1 (0, 0, 0) = some (.inr (3, [.int (nI (s_cop σ)), .ref (ad (1, 0, 0)), .int (nI (s_nS σ)), .ref (ad (2, 0, 0)), .int (nI (s_nF σ)), .ref (ad (3, 0, 0)), .ref (ad (4, 0, 0)), .ref (ad (5, 0, 0)), .ref (ad (5, 1, 0)), .ref (ad (5, 2, 0)), .int (nI (s_as σ).length), .int (dgL b2)])) := by rw [hk1]; exact h_cs _ _ _
      refine lv_aload_n X.1 X.2.1 dX3_majority_34 rfl (lv_at hl 0 rfl) ?_
      refine lv_ifnonnull (tgt := 42) X.1 X.2.1 dX3_majority_35 (by decide) ?_
      refine lv_iconst (v := 1) X.1 X.2.1 dX3_majority_42 (by decide) ?_
      exact h_iretW (v := 1) X Y hw ⟨rfl, hR.setObj (τ := s_setDg σ (dgL b2)) rfl rfl rfl rfl rfl (by rw [hk1, h_cs]; rfl) (fun t ht => by rw [hk1, h_cn _ _ ht]), fun t ht => ⟨by rw [hk1, h_cn _ _ (t20 ht (Nat.le_of_ble_eq_true rfl))], rfl⟩, rfl⟩ (Nat.zero_le _) (Nat.zero_le _) dX3_majority_43
end
section
set_option maxHeartbeats 4000000 in
set_option maxRecDepth 100000 in
/-- alter -/
theorem c_X3_alter (l : Launch) (G : h_G) {ad : h_T → Nat} {k : h_C} {σ : S_t} (hR : RX G ad k σ) (x y i v : Int32) : h_Wr l yX3_alter cX3_alter 7 (some .int) 2 44 0 0 G ad k [.ref (ad (0, 0, 0)), .int x, .int y, .int i, .int v] (XPost G ad k (some (.int (sp_alter σ x y i v).1)) (sp_alter σ x y i v).2) := by
  refine h_wr (by decide +kernel) (Nat.le_of_ble_eq_true rfl) ?_
  intro p e s m args below meth c X Y hw ls hl
  have hl : lv_has ls 7 [(0, .ref (ad (0, 0, 0))), (1, .int x), (2, .int y), (3, .int i), (4, .int v)] := hl
  have hok := hR.ok
  obtain ⟨hx, hs, hst, hi, hit, hcp, hcol, hmx, hask, -⟩ := id hR
  have hx : k (0, 0, 0) = some (.inr (3, [.int (nI (s_cop σ)), .ref (ad (1, 0, 0)), .int (nI (s_nS σ)), .ref (ad (2, 0, 0)), .int (nI (s_nF σ)), .ref (ad (3, 0, 0)), .ref (ad (4, 0, 0)), .ref (ad (5, 0, 0)), .ref (ad (5, 1, 0)), .ref (ad (5, 2, 0)), .int (nI (s_as σ).length), .int (s_dg σ)])) := hx
  have hnS : s_nS σ ≤ 10 := hok.2.1
  have hnF : s_nF σ ≤ 40 := hok.2.2.1
  unfold sp_alter
  rcases ha : s_at σ x y with _ | ⟨j, f, b⟩
  · refine lv_aload_n X.1 X.2.1 dX3_alter_0 rfl (lv_at hl 0 rfl) ?_
    refine lv_iload_n X.1 X.2.1 dX3_alter_1 rfl (lv_at hl 1 rfl) ?_
    refine lv_iload_n X.1 X.2.1 dX3_alter_2 rfl (lv_at hl 2 rfl) ?_
    refine h_callRV (t := (0, 0, 0)) (As := [.int x, .int y]) (rest := []) X hw cs_X3_99 (c_X3_copyOf l G hR x y) hx rfl rfl hl.1 rfl (Nat.le_of_ble_eq_true rfl) ⟨by decide, by decide⟩ ⟨Nat.zero_le _, Nat.zero_le _⟩ dX3_alter_3 ?_
    refine h_tv (b := .null) (by rw [x_copy_at, ha]; rfl) ?_
    refine lv_astoreN (lv' := [(5, .null), (0, .ref (ad (0, 0, 0))), (1, .int x), (2, .int y), (3, .int i), (4, .int v)]) X.1 X.2.1 dX3_alter_6 hl (by decide) rfl (fun ls hl => ?_)
    refine lv_aloadN X.1 X.2.1 dX3_alter_8 (lv_at hl 0 rfl) ?_
    refine lv_ifnullN (tgt := 22) X.1 X.2.1 dX3_alter_10 (by decide) ?_
    refine lv_iconst (v := (-1)) X.1 X.2.1 dX3_alter_22 (by decide) ?_
    exact h_iretW (v := -1) X Y hw ⟨rfl, hR, fun _ _ => ⟨rfl, rfl⟩, rfl⟩ (Nat.zero_le _) (Nat.zero_le _) dX3_alter_23
  · obtain ⟨ex, ey, hj, hf, hb, hxj, hyf⟩ := s_at_some ha
    have hlb := hok.2.2.2.2.2.2.1 j f b hb
    have hrow := hcp j f b hb
    obtain ⟨hr1, g, hg, hgi⟩ := id hrow
    show W p l e _ s m args below meth c _ _ _ _ (MQ below (h_Qw G ad k s.heap.size (XPost G ad k (some (.int ((match ix i b.length with | none => (-1, σ) | some q => (b.getD q 0, s_setCp σ j f (some (b.set q (v &&& 255))))) : Int32 × S_t).1)) ((match ix i b.length with | none => (-1, σ) | some q => (b.getD q 0, s_setCp σ j f (some (b.set q (v &&& 255))))) : Int32 × S_t).2)) args s 0 0 (h_A ad k s.heap.size)) _
    rcases hi1 : ix i b.length with _ | q
    · refine lv_aload_n X.1 X.2.1 dX3_alter_0 rfl (lv_at hl 0 rfl) ?_
      refine lv_iload_n X.1 X.2.1 dX3_alter_1 rfl (lv_at hl 1 rfl) ?_
      refine lv_iload_n X.1 X.2.1 dX3_alter_2 rfl (lv_at hl 2 rfl) ?_
      refine h_callRV (t := (0, 0, 0)) (As := [.int x, .int y]) (rest := []) X hw cs_X3_99 (c_X3_copyOf l G hR x y) hx rfl rfl hl.1 rfl (Nat.le_of_ble_eq_true rfl) ⟨by decide, by decide⟩ ⟨Nat.zero_le _, Nat.zero_le _⟩ dX3_alter_3 ?_
      refine h_tv (b := .ref (ad (9, j, f))) (by rw [x_copy_at, ha]; rfl) ?_
      refine lv_astore (lv' := [(5, .ref (ad (9, j, f))), (0, .ref (ad (0, 0, 0))), (1, .int x), (2, .int y), (3, .int i), (4, .int v)]) X.1 X.2.1 dX3_alter_6 hl (by decide) rfl (fun ls hl => ?_)
      refine lv_aload X.1 X.2.1 dX3_alter_8 (lv_at hl 0 rfl) ?_
      refine lv_ifnull X.1 X.2.1 dX3_alter_10 ?_
      refine lv_aload X.1 X.2.1 dX3_alter_13 (lv_at hl 0 rfl) ?_
      refine lv_iload_n X.1 X.2.1 dX3_alter_15 rfl (lv_at hl 4 rfl) ?_
      refine h_callRV (t := (9, j, f)) (As := [.int i]) (rest := []) X hw cs_X3_103 (c_X1_has l G hrow hlb i) hr1 rfl rfl hl.1 rfl (Nat.le_of_ble_eq_true rfl) ⟨by decide, by decide⟩ ⟨Nat.zero_le _, Nat.zero_le _⟩ dX3_alter_16 ?_
      refine h_tv (b := .int 0) (by rw [hi1]; rfl) ?_
      refine lv_if_ne (tgt := 24) X.1 X.2.1 dX3_alter_19 (by decide) (fun c19 => ?_) (fun c19 => ?_)
      · exact absurd (by decide) c19
      · refine lv_iconst (v := (-1)) X.1 X.2.1 dX3_alter_22 (by decide) ?_
        exact h_iretW (v := -1) X Y hw ⟨rfl, hR, fun _ _ => ⟨rfl, rfl⟩, rfl⟩ (Nat.zero_le _) (Nat.zero_le _) dX3_alter_23
    · have hq : q < b.length := ix_lt hi1
      obtain rfl : i = nI q := ix_eq hi1
      refine lv_aload_n X.1 X.2.1 dX3_alter_0 rfl (lv_at hl 0 rfl) ?_
      refine lv_iload_n X.1 X.2.1 dX3_alter_1 rfl (lv_at hl 1 rfl) ?_
      refine lv_iload_n X.1 X.2.1 dX3_alter_2 rfl (lv_at hl 2 rfl) ?_
      refine h_callRV (t := (0, 0, 0)) (As := [.int x, .int y]) (rest := []) X hw cs_X3_99 (c_X3_copyOf l G hR x y) hx rfl rfl hl.1 rfl (Nat.le_of_ble_eq_true rfl) ⟨by decide, by decide⟩ ⟨Nat.zero_le _, Nat.zero_le _⟩ dX3_alter_3 ?_
      refine h_tv (b := .ref (ad (9, j, f))) (by rw [x_copy_at, ha]; rfl) ?_
      refine lv_astore (lv' := [(5, .ref (ad (9, j, f))), (0, .ref (ad (0, 0, 0))), (1, .int x), (2, .int y), (3, .int (nI q)), (4, .int v)]) X.1 X.2.1 dX3_alter_6 hl (by decide) rfl (fun ls hl => ?_)
      refine lv_aload X.1 X.2.1 dX3_alter_8 (lv_at hl 0 rfl) ?_
      refine lv_ifnull X.1 X.2.1 dX3_alter_10 ?_
      refine lv_aload X.1 X.2.1 dX3_alter_13 (lv_at hl 0 rfl) ?_
      refine lv_iload_n X.1 X.2.1 dX3_alter_15 rfl (lv_at hl 4 rfl) ?_
      refine h_callRV (t := (9, j, f)) (As := [.int (nI q)]) (rest := []) X hw cs_X3_103 (c_X1_has l G hrow hlb (nI q)) hr1 rfl rfl hl.1 rfl (Nat.le_of_ble_eq_true rfl) ⟨by decide, by decide⟩ ⟨Nat.zero_le _, Nat.zero_le _⟩ dX3_alter_16 ?_
      refine h_tv (b := .int 1) (by rw [hi1]; rfl) ?_
      refine lv_if_ne (tgt := 24) X.1 X.2.1 dX3_alter_19 (by decide) (fun c19 => ?_) (fun c19 => ?_)
      · refine lv_aload X.1 X.2.1 dX3_alter_24 (lv_at hl 0 rfl) ?_
        refine gf_X3_106 X hw hr1 rfl dX3_alter_26 ?_
        refine lv_iload_n X.1 X.2.1 dX3_alter_29 rfl (lv_at hl 4 rfl) ?_
        refine h_iald X hw hg (vp_in_nI (by omega) (by decide)) dX3_alter_30 ?_
        refine h_tv (b := .int (b.getD q 0)) (by rw [nI_clamp (by omega), hgi q hq]) ?_
        refine lv_istore (lv' := [(6, .int (b.getD q 0)), (5, .ref (ad (9, j, f))), (0, .ref (ad (0, 0, 0))), (1, .int x), (2, .int y), (3, .int (nI q)), (4, .int v)]) X.1 X.2.1 dX3_alter_31 hl (by decide) rfl (fun ls hl => ?_)
        refine lv_aload X.1 X.2.1 dX3_alter_33 (lv_at hl 1 rfl) ?_
        refine gf_X3_106 X hw hr1 rfl dX3_alter_35 ?_
        refine lv_iload_n X.1 X.2.1 dX3_alter_38 rfl (lv_at hl 5 rfl) ?_
        refine lv_iload X.1 X.2.1 dX3_alter_39 (lv_at hl 6 rfl) ?_
        refine lv_sipush (v := 255) X.1 X.2.1 dX3_alter_41 (by decide) ?_
        refine lv_iand X.1 X.2.1 dX3_alter_44 ?_
        refine h_iast X hw hg (vp_in_nI (by omega) (by decide)) dX3_alter_45 (fun H locs hw => ?_)
        obtain ⟨k1, hk1⟩ : ∃ zz, zz = h_cu k (10, j, f) (some (.inl (G.2 0, 16, .inl (upd g (nI q).toNatClampNeg (v &&& 255))))) := ⟨_, rfl⟩
        have hw := h_W.ren hw hk1
        have f1_0_0_0 : k1 (0, 0, 0) = some (.inr (3, [.int (nI (s_cop σ)), .ref (ad (1, 0, 0)), .int (nI (s_nS σ)), .ref (ad (2, 0, 0)), .int (nI (s_nF σ)), .ref (ad (3, 0, 0)), .ref (ad (4, 0, 0)), .ref (ad (5, 0, 0)), .ref (ad (5, 1, 0)), .ref (ad (5, 2, 0)), .int (nI (s_as σ).length), .int (s_dg σ)])) := by rw [hk1, h_cn _ _ (by simp)]; exact hx
        have f1_9_j_f : k1 (9, j, f) = some (.inr (1, [.ref (ad (10, j, f)), .int (nI b.length)])) := by rw [hk1, h_cn _ _ (by simp)]; exact hr1
        have f1_10_j_f : k1 (10, j, f) = some (.inl (G.2 0, 16, .inl (upd g (nI q).toNatClampNeg (v &&& 255)))) := by rw [hk1]; exact h_cs _ _ _
        refine lv_iload X.1 X.2.1 dX3_alter_46 (lv_at hl 0 rfl) ?_
        exact h_iretW (v := b.getD q 0) X Y hw ⟨rfl, hR.setRow hb (by rw [List.length_set]; exact hlb) ⟨by rw [hk1, h_cn _ _ (by simp), hr1, List.length_set], _, by rw [hk1, h_cs], fun a hal => by
          rw [List.length_set] at hal
          rw [nI_clamp (by omega)]
          by_cases haq : a = q
          · subst haq
            rw [pk_us, List.getD_eq_getElem?_getD, List.getElem?_set_self hq]
            rfl
          · rw [pk_un haq, hgi a hal, List.getD_eq_getElem?_getD, List.getD_eq_getElem?_getD, List.getElem?_set_ne (Ne.symm haq)]⟩ (fun t ht hu => by rw [hk1, h_cn _ _ hu]), fun t ht => ⟨by rw [hk1, h_cn _ _ (t20 ht (Nat.le_of_ble_eq_true rfl))], rfl⟩, rfl⟩ (Nat.zero_le _) (Nat.zero_le _) dX3_alter_48
      · exact absurd c19 (by decide)
set_option maxHeartbeats 4000000 in
set_option maxRecDepth 100000 in
/-- cut -/
theorem c_X3_cut (l : Launch) (G : h_G) {ad : h_T → Nat} {k : h_C} {σ : S_t} (hR : RX G ad k σ) (x y z : Int32) : h_Wr l yX3_cut cX3_cut 6 (some .int) 2 44 0 0 G ad k [.ref (ad (0, 0, 0)), .int x, .int y, .int z] (XPost G ad k (some (.int (sp_cut σ x y z).1)) (sp_cut σ x y z).2) := by
  refine h_wr (by decide +kernel) (Nat.le_of_ble_eq_true rfl) ?_
  intro p e s m args below meth c X Y hw ls hl
  have hl : lv_has ls 6 [(0, .ref (ad (0, 0, 0))), (1, .int x), (2, .int y), (3, .int z)] := hl
  have hok := hR.ok
  obtain ⟨hx, hs, hst, hi, hit, hcp, hcol, hmx, hask, -⟩ := id hR
  have hx : k (0, 0, 0) = some (.inr (3, [.int (nI (s_cop σ)), .ref (ad (1, 0, 0)), .int (nI (s_nS σ)), .ref (ad (2, 0, 0)), .int (nI (s_nF σ)), .ref (ad (3, 0, 0)), .ref (ad (4, 0, 0)), .ref (ad (5, 0, 0)), .ref (ad (5, 1, 0)), .ref (ad (5, 2, 0)), .int (nI (s_as σ).length), .int (s_dg σ)])) := hx
  have hnS : s_nS σ ≤ 10 := hok.2.1
  have hnF : s_nF σ ≤ 40 := hok.2.2.1
  unfold sp_cut
  rcases ha : s_at σ x y with _ | ⟨j, f, b⟩
  · refine lv_aload_n X.1 X.2.1 dX3_cut_0 rfl (lv_at hl 0 rfl) ?_
    refine lv_iload_n X.1 X.2.1 dX3_cut_1 rfl (lv_at hl 1 rfl) ?_
    refine lv_iload_n X.1 X.2.1 dX3_cut_2 rfl (lv_at hl 2 rfl) ?_
    refine h_callRV (t := (0, 0, 0)) (As := [.int x, .int y]) (rest := []) X hw cs_X3_99 (c_X3_copyOf l G hR x y) hx rfl rfl hl.1 rfl (Nat.le_of_ble_eq_true rfl) ⟨by decide, by decide⟩ ⟨Nat.zero_le _, Nat.zero_le _⟩ dX3_cut_3 ?_
    refine h_tv (b := .null) (by rw [x_copy_at, ha]; rfl) ?_
    refine lv_astoreN (lv' := [(4, .null), (0, .ref (ad (0, 0, 0))), (1, .int x), (2, .int y), (3, .int z)]) X.1 X.2.1 dX3_cut_6 hl (by decide) rfl (fun ls hl => ?_)
    refine lv_aloadN X.1 X.2.1 dX3_cut_8 (lv_at hl 0 rfl) ?_
    refine lv_ifnonnullN X.1 X.2.1 dX3_cut_10 ?_
    refine lv_iconst (v := (-1)) X.1 X.2.1 dX3_cut_13 (by decide) ?_
    exact h_iretW (v := -1) X Y hw ⟨rfl, hR, fun _ _ => ⟨rfl, rfl⟩, rfl⟩ (Nat.zero_le _) (Nat.zero_le _) dX3_cut_14
  · obtain ⟨ex, ey, hj, hf, hb, hxj, hyf⟩ := s_at_some ha
    have hlb := hok.2.2.2.2.2.2.1 j f b hb
    have hrow := hcp j f b hb
    obtain ⟨hr1, g, hg, hgi⟩ := id hrow
    show W p l e _ s m args below meth c _ _ _ _ (MQ below (h_Qw G ad k s.heap.size (XPost G ad k (some (.int ((match ix z (b.length + 1) with | none => (-2, σ) | some q => (nI (b.length - q), s_setCp σ j f (some (b.take q)))) : Int32 × S_t).1)) ((match ix z (b.length + 1) with | none => (-2, σ) | some q => (nI (b.length - q), s_setCp σ j f (some (b.take q)))) : Int32 × S_t).2)) args s 0 0 (h_A ad k s.heap.size)) _
    rcases ix_cases z (n := b.length + 1) (by omega) with ⟨e0, h0⟩ | ⟨e0, h0, h1⟩ | ⟨q, hq, rfl, e0⟩
    · rw [e0]
      refine lv_aload_n X.1 X.2.1 dX3_cut_0 rfl (lv_at hl 0 rfl) ?_
      refine lv_iload_n X.1 X.2.1 dX3_cut_1 rfl (lv_at hl 1 rfl) ?_
      refine lv_iload_n X.1 X.2.1 dX3_cut_2 rfl (lv_at hl 2 rfl) ?_
      refine h_callRV (t := (0, 0, 0)) (As := [.int x, .int y]) (rest := []) X hw cs_X3_99 (c_X3_copyOf l G hR x y) hx rfl rfl hl.1 rfl (Nat.le_of_ble_eq_true rfl) ⟨by decide, by decide⟩ ⟨Nat.zero_le _, Nat.zero_le _⟩ dX3_cut_3 ?_
      refine h_tv (b := .ref (ad (9, j, f))) (by rw [x_copy_at, ha]; rfl) ?_
      refine lv_astore (lv' := [(4, .ref (ad (9, j, f))), (0, .ref (ad (0, 0, 0))), (1, .int x), (2, .int y), (3, .int z)]) X.1 X.2.1 dX3_cut_6 hl (by decide) rfl (fun ls hl => ?_)
      refine lv_aload X.1 X.2.1 dX3_cut_8 (lv_at hl 0 rfl) ?_
      refine lv_ifnonnull (tgt := 15) X.1 X.2.1 dX3_cut_10 (by decide) ?_
      refine lv_iload_n X.1 X.2.1 dX3_cut_15 rfl (lv_at hl 4 rfl) ?_
      refine lv_if_lt (tgt := 28) X.1 X.2.1 dX3_cut_16 (by decide) (fun c16 => ?_) (fun c16 => ?_)
      · refine lv_bipush (v := (-2)) X.1 X.2.1 dX3_cut_28 (by decide) ?_
        exact h_iretW (v := -2) X Y hw ⟨rfl, hR, fun _ _ => ⟨rfl, rfl⟩, rfl⟩ (Nat.zero_le _) (Nat.zero_le _) dX3_cut_30
      · exact absurd h0 c16
    · rw [e0]
      refine lv_aload_n X.1 X.2.1 dX3_cut_0 rfl (lv_at hl 0 rfl) ?_
      refine lv_iload_n X.1 X.2.1 dX3_cut_1 rfl (lv_at hl 1 rfl) ?_
      refine lv_iload_n X.1 X.2.1 dX3_cut_2 rfl (lv_at hl 2 rfl) ?_
      refine h_callRV (t := (0, 0, 0)) (As := [.int x, .int y]) (rest := []) X hw cs_X3_99 (c_X3_copyOf l G hR x y) hx rfl rfl hl.1 rfl (Nat.le_of_ble_eq_true rfl) ⟨by decide, by decide⟩ ⟨Nat.zero_le _, Nat.zero_le _⟩ dX3_cut_3 ?_
      refine h_tv (b := .ref (ad (9, j, f))) (by rw [x_copy_at, ha]; rfl) ?_
      refine lv_astore (lv' := [(4, .ref (ad (9, j, f))), (0, .ref (ad (0, 0, 0))), (1, .int x), (2, .int y), (3, .int z)]) X.1 X.2.1 dX3_cut_6 hl (by decide) rfl (fun ls hl => ?_)
      refine lv_aload X.1 X.2.1 dX3_cut_8 (lv_at hl 0 rfl) ?_
      refine lv_ifnonnull (tgt := 15) X.1 X.2.1 dX3_cut_10 (by decide) ?_
      refine lv_iload_n X.1 X.2.1 dX3_cut_15 rfl (lv_at hl 4 rfl) ?_
      refine lv_if_lt (tgt := 28) X.1 X.2.1 dX3_cut_16 (by decide) (fun c16 => ?_) (fun c16 => ?_)
      · exact absurd c16 h0
      · refine lv_iload_n X.1 X.2.1 dX3_cut_19 rfl (lv_at hl 4 rfl) ?_
        refine lv_aload X.1 X.2.1 dX3_cut_20 (lv_at hl 0 rfl) ?_
        refine gf_X3_79 X hw hr1 rfl dX3_cut_22 ?_
        refine lv_icmp_le (tgt := 31) X.1 X.2.1 dX3_cut_25 (by decide) (fun c25 => ?_) (fun c25 => ?_)
        · exact absurd (Int32.le_trans h1 c25) (nI_ge (by omega) (by omega))
        · refine lv_bipush (v := (-2)) X.1 X.2.1 dX3_cut_28 (by decide) ?_
          exact h_iretW (v := -2) X Y hw ⟨rfl, hR, fun _ _ => ⟨rfl, rfl⟩, rfl⟩ (Nat.zero_le _) (Nat.zero_le _) dX3_cut_30
    · rw [e0]
      refine lv_aload_n X.1 X.2.1 dX3_cut_0 rfl (lv_at hl 0 rfl) ?_
      refine lv_iload_n X.1 X.2.1 dX3_cut_1 rfl (lv_at hl 1 rfl) ?_
      refine lv_iload_n X.1 X.2.1 dX3_cut_2 rfl (lv_at hl 2 rfl) ?_
      refine h_callRV (t := (0, 0, 0)) (As := [.int x, .int y]) (rest := []) X hw cs_X3_99 (c_X3_copyOf l G hR x y) hx rfl rfl hl.1 rfl (Nat.le_of_ble_eq_true rfl) ⟨by decide, by decide⟩ ⟨Nat.zero_le _, Nat.zero_le _⟩ dX3_cut_3 ?_
      refine h_tv (b := .ref (ad (9, j, f))) (by rw [x_copy_at, ha]; rfl) ?_
      refine lv_astore (lv' := [(4, .ref (ad (9, j, f))), (0, .ref (ad (0, 0, 0))), (1, .int x), (2, .int y), (3, .int (nI q))]) X.1 X.2.1 dX3_cut_6 hl (by decide) rfl (fun ls hl => ?_)
      refine lv_aload X.1 X.2.1 dX3_cut_8 (lv_at hl 0 rfl) ?_
      refine lv_ifnonnull (tgt := 15) X.1 X.2.1 dX3_cut_10 (by decide) ?_
      refine lv_iload_n X.1 X.2.1 dX3_cut_15 rfl (lv_at hl 4 rfl) ?_
      refine lv_if_lt (tgt := 28) X.1 X.2.1 dX3_cut_16 (by decide) (fun c16 => ?_) (fun c16 => ?_)
      · exact absurd c16 (nI_pos (by omega))
      · refine lv_iload_n X.1 X.2.1 dX3_cut_19 rfl (lv_at hl 4 rfl) ?_
        refine lv_aload X.1 X.2.1 dX3_cut_20 (lv_at hl 0 rfl) ?_
        refine gf_X3_79 X hw hr1 rfl dX3_cut_22 ?_
        refine lv_icmp_le (tgt := 31) X.1 X.2.1 dX3_cut_25 (by decide) (fun c25 => ?_) (fun c25 => ?_)
        · refine lv_aload X.1 X.2.1 dX3_cut_31 (lv_at hl 0 rfl) ?_
          refine gf_X3_79 X hw hr1 rfl dX3_cut_33 ?_
          refine lv_iload_n X.1 X.2.1 dX3_cut_36 rfl (lv_at hl 4 rfl) ?_
          refine lv_isub X.1 X.2.1 dX3_cut_37 ?_
          refine h_ti (b := nI (b.length - q)) (pk_sub (by omega)) ?_
          refine lv_istore (lv' := [(5, .int (nI (b.length - q))), (4, .ref (ad (9, j, f))), (0, .ref (ad (0, 0, 0))), (1, .int x), (2, .int y), (3, .int (nI q))]) X.1 X.2.1 dX3_cut_38 hl (by decide) rfl (fun ls hl => ?_)
          refine lv_aload X.1 X.2.1 dX3_cut_40 (lv_at hl 1 rfl) ?_
          refine lv_iload_n X.1 X.2.1 dX3_cut_42 rfl (lv_at hl 5 rfl) ?_
          refine pf_X3_79 X hw hr1 rfl rfl (Nat.le_of_ble_eq_true rfl) dX3_cut_43 (fun H locs hw => ?_)
          obtain ⟨k1, hk1⟩ : ∃ zz, zz = h_cu k (9, j, f) (some (.inr (1, [.ref (ad (10, j, f)), .int (nI q)]))) := ⟨_, rfl⟩
          have hw := h_W.ren hw hk1
          have f1_0_0_0 : k1 (0, 0, 0) = some (.inr (3, [.int (nI (s_cop σ)), .ref (ad (1, 0, 0)), .int (nI (s_nS σ)), .ref (ad (2, 0, 0)), .int (nI (s_nF σ)), .ref (ad (3, 0, 0)), .ref (ad (4, 0, 0)), .ref (ad (5, 0, 0)), .ref (ad (5, 1, 0)), .ref (ad (5, 2, 0)), .int (nI (s_as σ).length), .int (s_dg σ)])) := by rw [hk1, h_cn _ _ (by simp)]; exact hx
          have f1_9_j_f : k1 (9, j, f) = some (.inr (1, [.ref (ad (10, j, f)), .int (nI q)])) := by rw [hk1]; exact h_cs _ _ _
          have f1_10_j_f : k1 (10, j, f) = some (.inl (G.2 0, 16, .inl g)) := by rw [hk1, h_cn _ _ (by simp)]; exact hg
          refine lv_iload X.1 X.2.1 dX3_cut_46 (lv_at hl 0 rfl) ?_
          exact h_iretW (v := nI (b.length - q)) X Y hw ⟨rfl, hR.setRow hb (by rw [List.length_take]; omega) ⟨by rw [hk1, h_cs, List.length_take, Nat.min_eq_left (by omega)], g, by rw [hk1, h_cn _ _ (by simp), hg], fun a hal => by
            rw [List.length_take] at hal
            rw [hgi a (by omega), List.getD_eq_getElem?_getD, List.getD_eq_getElem?_getD, List.getElem?_take_of_lt (by omega)]⟩ (fun t ht hu => by rw [hk1, h_cn _ _ ht]), fun t ht => ⟨by rw [hk1, h_cn _ _ (t20 ht (Nat.le_of_ble_eq_true rfl))], rfl⟩, rfl⟩ (Nat.zero_le _) (Nat.zero_le _) dX3_cut_48
        · exact absurd (nI_le (by omega) (by omega)) c25
end
section
theorem x_rws_set (ad : h_T → Nat) (σ : S_t) (j f : Nat) (v : Option (List Int32)) : x_rws ad (s_setCp σ j f v) f = va_up (x_rws ad σ f) j (v.map (fun _ => ad (9, j, f))) := by
  funext a
  show (s_c2 (s_cp σ) j f v a f).map _ = _
  by_cases haj : a = j
  · subst haj
    rw [s_c2_s, va_up_self]
  · rw [s_c2_n (fun h => haj h.1), va_up_ne _ _ haj]
    rfl
set_option maxHeartbeats 4000000 in
set_option maxRecDepth 100000 in
/-- lose -/
theorem c_X3_lose (l : Launch) (G : h_G) {ad : h_T → Nat} {k : h_C} {σ : S_t} (hR : RX G ad k σ) (x y : Int32) : h_Wr l yX3_lose cX3_lose 4 (some .int) 2 44 0 0 G ad k [.ref (ad (0, 0, 0)), .int x, .int y] (XPost G ad k (some (.int (sp_lose σ x y).1)) (sp_lose σ x y).2) := by
  refine h_wr (by decide +kernel) (Nat.le_of_ble_eq_true rfl) ?_
  intro p e s m args below meth c X Y hw ls hl
  have hl : lv_has ls 4 [(0, .ref (ad (0, 0, 0))), (1, .int x), (2, .int y)] := hl
  have hok := hR.ok
  obtain ⟨hx, hs, hst, hi, hit, hcp, hcol, hmx, hask, -⟩ := id hR
  have hx : k (0, 0, 0) = some (.inr (3, [.int (nI (s_cop σ)), .ref (ad (1, 0, 0)), .int (nI (s_nS σ)), .ref (ad (2, 0, 0)), .int (nI (s_nF σ)), .ref (ad (3, 0, 0)), .ref (ad (4, 0, 0)), .ref (ad (5, 0, 0)), .ref (ad (5, 1, 0)), .ref (ad (5, 2, 0)), .int (nI (s_as σ).length), .int (s_dg σ)])) := hx
  have hnS : s_nS σ ≤ 10 := hok.2.1
  have hnF : s_nF σ ≤ 40 := hok.2.2.1
  unfold sp_lose
  rcases ha : s_at σ x y with _ | ⟨j, f, b⟩
  · rcases hyf : ix y (s_nF σ) with _ | f
    · refine lv_aload_n X.1 X.2.1 dX3_lose_0 rfl (lv_at hl 0 rfl) ?_
      refine lv_iload_n X.1 X.2.1 dX3_lose_1 rfl (lv_at hl 2 rfl) ?_
      refine h_callRV (t := (0, 0, 0)) (As := [.int y]) (rest := []) X hw cs_X3_109 (c_X3_itemOf l G hR y) hx rfl rfl hl.1 rfl (Nat.le_of_ble_eq_true rfl) ⟨by decide, by decide⟩ ⟨Nat.zero_le _, Nat.zero_le _⟩ dX3_lose_2 ?_
      refine h_tv (b := .null) (by rw [hyf]; rfl) ?_
      refine lv_astore_nN (lv' := [(3, .null), (0, .ref (ad (0, 0, 0))), (1, .int x), (2, .int y)]) X.1 X.2.1 dX3_lose_5 rfl hl (by decide) rfl (fun ls hl => ?_)
      refine lv_aload_nN X.1 X.2.1 dX3_lose_6 rfl (lv_at hl 0 rfl) ?_
      refine lv_ifnullN (tgt := 19) X.1 X.2.1 dX3_lose_7 (by decide) ?_
      refine lv_iconst (v := (-1)) X.1 X.2.1 dX3_lose_19 (by decide) ?_
      exact h_iretW (v := -1) X Y hw ⟨rfl, hR, fun _ _ => ⟨rfl, rfl⟩, rfl⟩ (Nat.zero_le _) (Nat.zero_le _) dX3_lose_20
    · refine lv_aload_n X.1 X.2.1 dX3_lose_0 rfl (lv_at hl 0 rfl) ?_
      refine lv_iload_n X.1 X.2.1 dX3_lose_1 rfl (lv_at hl 2 rfl) ?_
      refine h_callRV (t := (0, 0, 0)) (As := [.int y]) (rest := []) X hw cs_X3_109 (c_X3_itemOf l G hR y) hx rfl rfl hl.1 rfl (Nat.le_of_ble_eq_true rfl) ⟨by decide, by decide⟩ ⟨Nat.zero_le _, Nat.zero_le _⟩ dX3_lose_2 ?_
      refine h_tv (b := .ref (ad (7, f, 0))) (by rw [hyf]; rfl) ?_
      refine lv_astore_n (lv' := [(3, .ref (ad (7, f, 0))), (0, .ref (ad (0, 0, 0))), (1, .int x), (2, .int y)]) X.1 X.2.1 dX3_lose_5 rfl hl (by decide) rfl (fun ls hl => ?_)
      refine lv_aload_n X.1 X.2.1 dX3_lose_6 rfl (lv_at hl 0 rfl) ?_
      refine lv_ifnull X.1 X.2.1 dX3_lose_7 ?_
      refine lv_aload_n X.1 X.2.1 dX3_lose_10 rfl (lv_at hl 1 rfl) ?_
      refine lv_iload_n X.1 X.2.1 dX3_lose_11 rfl (lv_at hl 2 rfl) ?_
      refine lv_iload_n X.1 X.2.1 dX3_lose_12 rfl (lv_at hl 3 rfl) ?_
      refine h_callRV (t := (0, 0, 0)) (As := [.int x, .int y]) (rest := []) X hw cs_X3_99 (c_X3_copyOf l G hR x y) hx rfl rfl hl.1 rfl (Nat.le_of_ble_eq_true rfl) ⟨by decide, by decide⟩ ⟨Nat.zero_le _, Nat.zero_le _⟩ dX3_lose_13 ?_
      refine h_tv (b := .null) (by rw [x_copy_at, ha]; rfl) ?_
      refine lv_ifnonnullN X.1 X.2.1 dX3_lose_16 ?_
      refine lv_iconst (v := (-1)) X.1 X.2.1 dX3_lose_19 (by decide) ?_
      exact h_iretW (v := -1) X Y hw ⟨rfl, hR, fun _ _ => ⟨rfl, rfl⟩, rfl⟩ (Nat.zero_le _) (Nat.zero_le _) dX3_lose_20
  · obtain ⟨ex, ey, hj, hf, hb, hxj, hyf⟩ := s_at_some ha
    refine lv_aload_n X.1 X.2.1 dX3_lose_0 rfl (lv_at hl 0 rfl) ?_
    refine lv_iload_n X.1 X.2.1 dX3_lose_1 rfl (lv_at hl 2 rfl) ?_
    refine h_callRV (t := (0, 0, 0)) (As := [.int y]) (rest := []) X hw cs_X3_109 (c_X3_itemOf l G hR y) hx rfl rfl hl.1 rfl (Nat.le_of_ble_eq_true rfl) ⟨by decide, by decide⟩ ⟨Nat.zero_le _, Nat.zero_le _⟩ dX3_lose_2 ?_
    refine h_tv (b := .ref (ad (7, f, 0))) (by rw [hyf]; rfl) ?_
    refine lv_astore_n (lv' := [(3, .ref (ad (7, f, 0))), (0, .ref (ad (0, 0, 0))), (1, .int x), (2, .int y)]) X.1 X.2.1 dX3_lose_5 rfl hl (by decide) rfl (fun ls hl => ?_)
    refine lv_aload_n X.1 X.2.1 dX3_lose_6 rfl (lv_at hl 0 rfl) ?_
    refine lv_ifnull X.1 X.2.1 dX3_lose_7 ?_
    refine lv_aload_n X.1 X.2.1 dX3_lose_10 rfl (lv_at hl 1 rfl) ?_
    refine lv_iload_n X.1 X.2.1 dX3_lose_11 rfl (lv_at hl 2 rfl) ?_
    refine lv_iload_n X.1 X.2.1 dX3_lose_12 rfl (lv_at hl 3 rfl) ?_
    refine h_callRV (t := (0, 0, 0)) (As := [.int x, .int y]) (rest := []) X hw cs_X3_99 (c_X3_copyOf l G hR x y) hx rfl rfl hl.1 rfl (Nat.le_of_ble_eq_true rfl) ⟨by decide, by decide⟩ ⟨Nat.zero_le _, Nat.zero_le _⟩ dX3_lose_13 ?_
    refine h_tv (b := .ref (ad (9, j, f))) (by rw [x_copy_at, ha]; rfl) ?_
    refine lv_ifnonnull (tgt := 21) X.1 X.2.1 dX3_lose_16 (by decide) ?_
    refine lv_aload_n X.1 X.2.1 dX3_lose_21 rfl (lv_at hl 0 rfl) ?_
    refine gf_X3_113 X hw (hit f hf).1 rfl dX3_lose_22 ?_
    refine lv_iload_n X.1 X.2.1 dX3_lose_25 rfl (lv_at hl 2 rfl) ?_
    refine lv_null X.1 X.2.1 dX3_lose_26 ?_
    refine h_aastN X hw 5 rfl (hit f hf).2 (by rw [ex]; exact vp_in_nI (by omega) (by decide)) dX3_lose_27 (fun H locs hw => ?_)
    obtain ⟨k1, hk1⟩ : ∃ zz, zz = h_cu k (8, f, 0) (some (.inl (G.2 5, 10, x_refs (va_up (x_rws ad σ f) (x).toNatClampNeg none)))) := ⟨_, rfl⟩
    have hw := h_W.ren hw hk1
    have f1_0_0_0 : k1 (0, 0, 0) = some (.inr (3, [.int (nI (s_cop σ)), .ref (ad (1, 0, 0)), .int (nI (s_nS σ)), .ref (ad (2, 0, 0)), .int (nI (s_nF σ)), .ref (ad (3, 0, 0)), .ref (ad (4, 0, 0)), .ref (ad (5, 0, 0)), .ref (ad (5, 1, 0)), .ref (ad (5, 2, 0)), .int (nI (s_as σ).length), .int (s_dg σ)])) := by rw [hk1, h_cn _ _ (by simp)]; exact hx
    have f1_7_f_0 : k1 (7, f, 0) = some (.inr (0, [.int (s_pk σ f), .ref (ad (8, f, 0)), .int (s_rn σ f)])) := by rw [hk1, h_cn _ _ (by simp)]; exact (hit f hf).1
    have f1_8_f_0 : k1 (8, f, 0) = some (.inl (G.2 5, 10, x_refs (va_up (x_rws ad σ f) (x).toNatClampNeg none))) := by rw [hk1]; exact h_cs _ _ _
    refine lv_iconst (v := 1) X.1 X.2.1 dX3_lose_28 (by decide) ?_
    exact h_iretW (v := 1) X Y hw ⟨rfl, hR.file (τ := s_setCp σ j f none) (f := f) rfl rfl rfl (fun _ _ => rfl) rfl (fun a g hg => s_c2_n (fun h => hg h.2)) hf (fun a ha2 => by
      show s_c2 (s_cp σ) j f none a f = none
      by_cases haj : a = j
      · subst haj; exact s_c2_s
      · rw [s_c2_n (fun h => haj h.1)]; exact hok.2.2.2.2.2.1 a f (Or.inl ha2)) (fun a l hl => by
      have hl : s_c2 (s_cp σ) j f none a f = some l := hl
      by_cases haj : a = j
      · subst haj; rw [s_c2_s] at hl; cases hl
      · rw [s_c2_n (fun h => haj h.1)] at hl; exact hok.2.2.2.2.2.2.1 a f l hl) ⟨f1_7_f_0, by rw [x_rws_set]; rw [f1_8_f_0, ex, nI_clamp (by omega)]; rfl⟩ (fun a l hl => by
      have hl : s_c2 (s_cp σ) j f none a f = some l := hl
      by_cases haj : a = j
      · subst haj; rw [s_c2_s] at hl; cases hl
      · rw [s_c2_n (fun h => haj h.1)] at hl
        exact (hcp a f l hl).congr (by rw [hk1, h_cn _ _ (by simp)]) (by rw [hk1, h_cn _ _ (by simp)]) rfl) rfl (fun t _ _ h8 _ => ⟨by rw [hk1, h_cn _ _ h8], rfl⟩), fun t ht => ⟨by rw [hk1, h_cn _ _ (t20 ht (Nat.le_of_ble_eq_true rfl))], rfl⟩, rfl⟩ (Nat.zero_le _) (Nat.zero_le _) dX3_lose_29
set_option maxHeartbeats 4000000 in
set_option maxRecDepth 100000 in
/-- move -/
theorem c_X3_move (l : Launch) (G : h_G) {ad : h_T → Nat} {k : h_C} {σ : S_t} (hR : RX G ad k σ) (y x z : Int32) : h_Wr l yX3_move cX3_move 6 (some .int) 2 44 0 0 G ad k [.ref (ad (0, 0, 0)), .int y, .int x, .int z] (XPost G ad k (some (.int (sp_move σ y x z).1)) (sp_move σ y x z).2) := by
  refine h_wr (by decide +kernel) (Nat.le_of_ble_eq_true rfl) ?_
  intro p e s m args below meth c X Y hw ls hl
  have hl : lv_has ls 6 [(0, .ref (ad (0, 0, 0))), (1, .int y), (2, .int x), (3, .int z)] := hl
  have hok := hR.ok
  obtain ⟨hx, hs, hst, hi, hit, hcp, hcol, hmx, hask, -⟩ := id hR
  have hx : k (0, 0, 0) = some (.inr (3, [.int (nI (s_cop σ)), .ref (ad (1, 0, 0)), .int (nI (s_nS σ)), .ref (ad (2, 0, 0)), .int (nI (s_nF σ)), .ref (ad (3, 0, 0)), .ref (ad (4, 0, 0)), .ref (ad (5, 0, 0)), .ref (ad (5, 1, 0)), .ref (ad (5, 2, 0)), .int (nI (s_as σ).length), .int (s_dg σ)])) := hx
  have hnS : s_nS σ ≤ 10 := hok.2.1
  have hnF : s_nF σ ≤ 40 := hok.2.2.1
  unfold sp_move
  rcases ha : s_at σ x y with _ | ⟨j, f, b⟩
  · rcases hyf : ix y (s_nF σ) with _ | f
    · refine lv_aload_n X.1 X.2.1 dX3_move_0 rfl (lv_at hl 0 rfl) ?_
      refine lv_iload_n X.1 X.2.1 dX3_move_1 rfl (lv_at hl 1 rfl) ?_
      refine h_callRV (t := (0, 0, 0)) (As := [.int y]) (rest := []) X hw cs_X3_109 (c_X3_itemOf l G hR y) hx rfl rfl hl.1 rfl (Nat.le_of_ble_eq_true rfl) ⟨by decide, by decide⟩ ⟨Nat.zero_le _, Nat.zero_le _⟩ dX3_move_2 ?_
      refine h_tv (b := .null) (by rw [hyf]; rfl) ?_
      refine lv_astoreN (lv' := [(4, .null), (0, .ref (ad (0, 0, 0))), (1, .int y), (2, .int x), (3, .int z)]) X.1 X.2.1 dX3_move_5 hl (by decide) rfl (fun ls hl => ?_)
      refine lv_aload_n X.1 X.2.1 dX3_move_7 rfl (lv_at hl 1 rfl) ?_
      refine lv_iload_n X.1 X.2.1 dX3_move_8 rfl (lv_at hl 3 rfl) ?_
      refine lv_iload_n X.1 X.2.1 dX3_move_9 rfl (lv_at hl 2 rfl) ?_
      refine h_callRV (t := (0, 0, 0)) (As := [.int x, .int y]) (rest := []) X hw cs_X3_99 (c_X3_copyOf l G hR x y) hx rfl rfl hl.1 rfl (Nat.le_of_ble_eq_true rfl) ⟨by decide, by decide⟩ ⟨Nat.zero_le _, Nat.zero_le _⟩ dX3_move_10 ?_
      refine h_tv (b := .null) (by rw [x_copy_at, ha]; rfl) ?_
      refine lv_astoreN (lv' := [(5, .null), (4, .null), (0, .ref (ad (0, 0, 0))), (1, .int y), (2, .int x), (3, .int z)]) X.1 X.2.1 dX3_move_13 hl (by decide) rfl (fun ls hl => ?_)
      refine lv_aloadN X.1 X.2.1 dX3_move_15 (lv_at hl 1 rfl) ?_
      refine lv_ifnullN (tgt := 33) X.1 X.2.1 dX3_move_17 (by decide) ?_
      refine lv_iconst (v := (-1)) X.1 X.2.1 dX3_move_33 (by decide) ?_
      exact h_iretW (v := -1) X Y hw ⟨rfl, hR, fun _ _ => ⟨rfl, rfl⟩, rfl⟩ (Nat.zero_le _) (Nat.zero_le _) dX3_move_34
    · refine lv_aload_n X.1 X.2.1 dX3_move_0 rfl (lv_at hl 0 rfl) ?_
      refine lv_iload_n X.1 X.2.1 dX3_move_1 rfl (lv_at hl 1 rfl) ?_
      refine h_callRV (t := (0, 0, 0)) (As := [.int y]) (rest := []) X hw cs_X3_109 (c_X3_itemOf l G hR y) hx rfl rfl hl.1 rfl (Nat.le_of_ble_eq_true rfl) ⟨by decide, by decide⟩ ⟨Nat.zero_le _, Nat.zero_le _⟩ dX3_move_2 ?_
      refine h_tv (b := .ref (ad (7, f, 0))) (by rw [hyf]; rfl) ?_
      refine lv_astore (lv' := [(4, .ref (ad (7, f, 0))), (0, .ref (ad (0, 0, 0))), (1, .int y), (2, .int x), (3, .int z)]) X.1 X.2.1 dX3_move_5 hl (by decide) rfl (fun ls hl => ?_)
      refine lv_aload_n X.1 X.2.1 dX3_move_7 rfl (lv_at hl 1 rfl) ?_
      refine lv_iload_n X.1 X.2.1 dX3_move_8 rfl (lv_at hl 3 rfl) ?_
      refine lv_iload_n X.1 X.2.1 dX3_move_9 rfl (lv_at hl 2 rfl) ?_
      refine h_callRV (t := (0, 0, 0)) (As := [.int x, .int y]) (rest := []) X hw cs_X3_99 (c_X3_copyOf l G hR x y) hx rfl rfl hl.1 rfl (Nat.le_of_ble_eq_true rfl) ⟨by decide, by decide⟩ ⟨Nat.zero_le _, Nat.zero_le _⟩ dX3_move_10 ?_
      refine h_tv (b := .null) (by rw [x_copy_at, ha]; rfl) ?_
      refine lv_astoreN (lv' := [(5, .null), (4, .ref (ad (7, f, 0))), (0, .ref (ad (0, 0, 0))), (1, .int y), (2, .int x), (3, .int z)]) X.1 X.2.1 dX3_move_13 hl (by decide) rfl (fun ls hl => ?_)
      refine lv_aload X.1 X.2.1 dX3_move_15 (lv_at hl 1 rfl) ?_
      refine lv_ifnull X.1 X.2.1 dX3_move_17 ?_
      refine lv_aloadN X.1 X.2.1 dX3_move_20 (lv_at hl 0 rfl) ?_
      refine lv_ifnullN (tgt := 33) X.1 X.2.1 dX3_move_22 (by decide) ?_
      refine lv_iconst (v := (-1)) X.1 X.2.1 dX3_move_33 (by decide) ?_
      exact h_iretW (v := -1) X Y hw ⟨rfl, hR, fun _ _ => ⟨rfl, rfl⟩, rfl⟩ (Nat.zero_le _) (Nat.zero_le _) dX3_move_34
  · obtain ⟨ex, ey, hj, hf, hb, hxj, hyf⟩ := s_at_some ha
    show W p l e _ s m args below meth c _ _ _ _ (MQ below (h_Qw G ad k s.heap.size (XPost G ad k (some (.int ((match ix z (s_nS σ) with | none => (-1, σ) | some u => if j = u ∨ s_si σ j = true ∨ s_si σ u = true ∨ s_has σ u f = true then (-3, σ) else (1, s_setCp (s_setCp σ u f (some b)) j f none)) : Int32 × S_t).1)) ((match ix z (s_nS σ) with | none => (-1, σ) | some u => if j = u ∨ s_si σ j = true ∨ s_si σ u = true ∨ s_has σ u f = true then (-3, σ) else (1, s_setCp (s_setCp σ u f (some b)) j f none)) : Int32 × S_t).2)) args s 0 0 (h_A ad k s.heap.size)) _
    rcases hz : ix z (s_nS σ) with _ | u
    · refine lv_aload_n X.1 X.2.1 dX3_move_0 rfl (lv_at hl 0 rfl) ?_
      refine lv_iload_n X.1 X.2.1 dX3_move_1 rfl (lv_at hl 1 rfl) ?_
      refine h_callRV (t := (0, 0, 0)) (As := [.int y]) (rest := []) X hw cs_X3_109 (c_X3_itemOf l G hR y) hx rfl rfl hl.1 rfl (Nat.le_of_ble_eq_true rfl) ⟨by decide, by decide⟩ ⟨Nat.zero_le _, Nat.zero_le _⟩ dX3_move_2 ?_
      refine h_tv (b := .ref (ad (7, f, 0))) (by rw [hyf]; rfl) ?_
      refine lv_astore (lv' := [(4, .ref (ad (7, f, 0))), (0, .ref (ad (0, 0, 0))), (1, .int y), (2, .int x), (3, .int z)]) X.1 X.2.1 dX3_move_5 hl (by decide) rfl (fun ls hl => ?_)
      refine lv_aload_n X.1 X.2.1 dX3_move_7 rfl (lv_at hl 1 rfl) ?_
      refine lv_iload_n X.1 X.2.1 dX3_move_8 rfl (lv_at hl 3 rfl) ?_
      refine lv_iload_n X.1 X.2.1 dX3_move_9 rfl (lv_at hl 2 rfl) ?_
      refine h_callRV (t := (0, 0, 0)) (As := [.int x, .int y]) (rest := []) X hw cs_X3_99 (c_X3_copyOf l G hR x y) hx rfl rfl hl.1 rfl (Nat.le_of_ble_eq_true rfl) ⟨by decide, by decide⟩ ⟨Nat.zero_le _, Nat.zero_le _⟩ dX3_move_10 ?_
      refine h_tv (b := .ref (ad (9, j, f))) (by rw [x_copy_at, ha]; rfl) ?_
      refine lv_astore (lv' := [(5, .ref (ad (9, j, f))), (4, .ref (ad (7, f, 0))), (0, .ref (ad (0, 0, 0))), (1, .int y), (2, .int x), (3, .int z)]) X.1 X.2.1 dX3_move_13 hl (by decide) rfl (fun ls hl => ?_)
      refine lv_aload X.1 X.2.1 dX3_move_15 (lv_at hl 1 rfl) ?_
      refine lv_ifnull X.1 X.2.1 dX3_move_17 ?_
      refine lv_aload X.1 X.2.1 dX3_move_20 (lv_at hl 0 rfl) ?_
      refine lv_ifnull X.1 X.2.1 dX3_move_22 ?_
      refine lv_aload_n X.1 X.2.1 dX3_move_25 rfl (lv_at hl 2 rfl) ?_
      refine lv_iload_n X.1 X.2.1 dX3_move_26 rfl (lv_at hl 5 rfl) ?_
      refine h_callRV (t := (0, 0, 0)) (As := [.int z]) (rest := []) X hw cs_X3_91 (c_X3_storeOf l G hR z) hx rfl rfl hl.1 rfl (Nat.le_of_ble_eq_true rfl) ⟨by decide, by decide⟩ ⟨Nat.zero_le _, Nat.zero_le _⟩ dX3_move_27 ?_
      refine h_tv (b := .null) (by rw [hz]; rfl) ?_
      refine lv_ifnonnullN X.1 X.2.1 dX3_move_30 ?_
      refine lv_iconst (v := (-1)) X.1 X.2.1 dX3_move_33 (by decide) ?_
      exact h_iretW (v := -1) X Y hw ⟨rfl, hR, fun _ _ => ⟨rfl, rfl⟩, rfl⟩ (Nat.zero_le _) (Nat.zero_le _) dX3_move_34
    · have hu : u < s_nS σ := ix_lt hz
      have ez : z = nI u := ix_eq hz
      show W p l e _ s m args below meth c _ _ _ _ (MQ below (h_Qw G ad k s.heap.size (XPost G ad k (some (.int ((if j = u ∨ s_si σ j = true ∨ s_si σ u = true ∨ s_has σ u f = true then (-3, σ) else (1, s_setCp (s_setCp σ u f (some b)) j f none)) : Int32 × S_t).1)) ((if j = u ∨ s_si σ j = true ∨ s_si σ u = true ∨ s_has σ u f = true then (-3, σ) else (1, s_setCp (s_setCp σ u f (some b)) j f none)) : Int32 × S_t).2)) args s 0 0 (h_A ad k s.heap.size)) _
      by_cases hju : j = u
      · rw [if_pos (Or.inl hju)]
        refine lv_aload_n X.1 X.2.1 dX3_move_0 rfl (lv_at hl 0 rfl) ?_
        refine lv_iload_n X.1 X.2.1 dX3_move_1 rfl (lv_at hl 1 rfl) ?_
        refine h_callRV (t := (0, 0, 0)) (As := [.int y]) (rest := []) X hw cs_X3_109 (c_X3_itemOf l G hR y) hx rfl rfl hl.1 rfl (Nat.le_of_ble_eq_true rfl) ⟨by decide, by decide⟩ ⟨Nat.zero_le _, Nat.zero_le _⟩ dX3_move_2 ?_
        refine h_tv (b := .ref (ad (7, f, 0))) (by rw [hyf]; rfl) ?_
        refine lv_astore (lv' := [(4, .ref (ad (7, f, 0))), (0, .ref (ad (0, 0, 0))), (1, .int y), (2, .int x), (3, .int z)]) X.1 X.2.1 dX3_move_5 hl (by decide) rfl (fun ls hl => ?_)
        refine lv_aload_n X.1 X.2.1 dX3_move_7 rfl (lv_at hl 1 rfl) ?_
        refine lv_iload_n X.1 X.2.1 dX3_move_8 rfl (lv_at hl 3 rfl) ?_
        refine lv_iload_n X.1 X.2.1 dX3_move_9 rfl (lv_at hl 2 rfl) ?_
        refine h_callRV (t := (0, 0, 0)) (As := [.int x, .int y]) (rest := []) X hw cs_X3_99 (c_X3_copyOf l G hR x y) hx rfl rfl hl.1 rfl (Nat.le_of_ble_eq_true rfl) ⟨by decide, by decide⟩ ⟨Nat.zero_le _, Nat.zero_le _⟩ dX3_move_10 ?_
        refine h_tv (b := .ref (ad (9, j, f))) (by rw [x_copy_at, ha]; rfl) ?_
        refine lv_astore (lv' := [(5, .ref (ad (9, j, f))), (4, .ref (ad (7, f, 0))), (0, .ref (ad (0, 0, 0))), (1, .int y), (2, .int x), (3, .int z)]) X.1 X.2.1 dX3_move_13 hl (by decide) rfl (fun ls hl => ?_)
        refine lv_aload X.1 X.2.1 dX3_move_15 (lv_at hl 1 rfl) ?_
        refine lv_ifnull X.1 X.2.1 dX3_move_17 ?_
        refine lv_aload X.1 X.2.1 dX3_move_20 (lv_at hl 0 rfl) ?_
        refine lv_ifnull X.1 X.2.1 dX3_move_22 ?_
        refine lv_aload_n X.1 X.2.1 dX3_move_25 rfl (lv_at hl 2 rfl) ?_
        refine lv_iload_n X.1 X.2.1 dX3_move_26 rfl (lv_at hl 5 rfl) ?_
        refine h_callRV (t := (0, 0, 0)) (As := [.int z]) (rest := []) X hw cs_X3_91 (c_X3_storeOf l G hR z) hx rfl rfl hl.1 rfl (Nat.le_of_ble_eq_true rfl) ⟨by decide, by decide⟩ ⟨Nat.zero_le _, Nat.zero_le _⟩ dX3_move_27 ?_
        refine h_tv (b := .ref (ad (6, u, 0))) (by rw [hz]; rfl) ?_
        refine lv_ifnonnull (tgt := 35) X.1 X.2.1 dX3_move_30 (by decide) ?_
        refine lv_iload_n X.1 X.2.1 dX3_move_35 rfl (lv_at hl 4 rfl) ?_
        refine lv_iload_n X.1 X.2.1 dX3_move_36 rfl (lv_at hl 5 rfl) ?_
        refine lv_icmp_eq (tgt := 66) X.1 X.2.1 dX3_move_37 (by decide) (fun c37 => ?_) (fun c37 => ?_)
        · refine lv_bipush (v := (-3)) X.1 X.2.1 dX3_move_66 (by decide) ?_
          exact h_iretW (v := -3) X Y hw ⟨rfl, hR, fun _ _ => ⟨rfl, rfl⟩, rfl⟩ (Nat.zero_le _) (Nat.zero_le _) dX3_move_68
        · exact absurd (by rw [ex, ez, hju]) c37
      rcases hs1 : s_si σ j with _ | _
      rotate_left
      · rw [if_pos (Or.inr (Or.inl rfl))]
        refine lv_aload_n X.1 X.2.1 dX3_move_0 rfl (lv_at hl 0 rfl) ?_
        refine lv_iload_n X.1 X.2.1 dX3_move_1 rfl (lv_at hl 1 rfl) ?_
        refine h_callRV (t := (0, 0, 0)) (As := [.int y]) (rest := []) X hw cs_X3_109 (c_X3_itemOf l G hR y) hx rfl rfl hl.1 rfl (Nat.le_of_ble_eq_true rfl) ⟨by decide, by decide⟩ ⟨Nat.zero_le _, Nat.zero_le _⟩ dX3_move_2 ?_
        refine h_tv (b := .ref (ad (7, f, 0))) (by rw [hyf]; rfl) ?_
        refine lv_astore (lv' := [(4, .ref (ad (7, f, 0))), (0, .ref (ad (0, 0, 0))), (1, .int y), (2, .int x), (3, .int z)]) X.1 X.2.1 dX3_move_5 hl (by decide) rfl (fun ls hl => ?_)
        refine lv_aload_n X.1 X.2.1 dX3_move_7 rfl (lv_at hl 1 rfl) ?_
        refine lv_iload_n X.1 X.2.1 dX3_move_8 rfl (lv_at hl 3 rfl) ?_
        refine lv_iload_n X.1 X.2.1 dX3_move_9 rfl (lv_at hl 2 rfl) ?_
        refine h_callRV (t := (0, 0, 0)) (As := [.int x, .int y]) (rest := []) X hw cs_X3_99 (c_X3_copyOf l G hR x y) hx rfl rfl hl.1 rfl (Nat.le_of_ble_eq_true rfl) ⟨by decide, by decide⟩ ⟨Nat.zero_le _, Nat.zero_le _⟩ dX3_move_10 ?_
        refine h_tv (b := .ref (ad (9, j, f))) (by rw [x_copy_at, ha]; rfl) ?_
        refine lv_astore (lv' := [(5, .ref (ad (9, j, f))), (4, .ref (ad (7, f, 0))), (0, .ref (ad (0, 0, 0))), (1, .int y), (2, .int x), (3, .int z)]) X.1 X.2.1 dX3_move_13 hl (by decide) rfl (fun ls hl => ?_)
        refine lv_aload X.1 X.2.1 dX3_move_15 (lv_at hl 1 rfl) ?_
        refine lv_ifnull X.1 X.2.1 dX3_move_17 ?_
        refine lv_aload X.1 X.2.1 dX3_move_20 (lv_at hl 0 rfl) ?_
        refine lv_ifnull X.1 X.2.1 dX3_move_22 ?_
        refine lv_aload_n X.1 X.2.1 dX3_move_25 rfl (lv_at hl 2 rfl) ?_
        refine lv_iload_n X.1 X.2.1 dX3_move_26 rfl (lv_at hl 5 rfl) ?_
        refine h_callRV (t := (0, 0, 0)) (As := [.int z]) (rest := []) X hw cs_X3_91 (c_X3_storeOf l G hR z) hx rfl rfl hl.1 rfl (Nat.le_of_ble_eq_true rfl) ⟨by decide, by decide⟩ ⟨Nat.zero_le _, Nat.zero_le _⟩ dX3_move_27 ?_
        refine h_tv (b := .ref (ad (6, u, 0))) (by rw [hz]; rfl) ?_
        refine lv_ifnonnull (tgt := 35) X.1 X.2.1 dX3_move_30 (by decide) ?_
        refine lv_iload_n X.1 X.2.1 dX3_move_35 rfl (lv_at hl 4 rfl) ?_
        refine lv_iload_n X.1 X.2.1 dX3_move_36 rfl (lv_at hl 5 rfl) ?_
        refine lv_icmp_eq (tgt := 66) X.1 X.2.1 dX3_move_37 (by decide) (fun c37 => ?_) (fun c37 => ?_)
        · exact absurd (by rw [ex, ez] at c37; exact (nI_eq (by omega) (by omega)).mp c37) hju
        · refine lv_aload_n X.1 X.2.1 dX3_move_40 rfl (lv_at hl 2 rfl) ?_
          refine lv_iload_n X.1 X.2.1 dX3_move_41 rfl (lv_at hl 4 rfl) ?_
          refine h_callRV (t := (0, 0, 0)) (As := [.int x]) (rest := []) X hw cs_X3_153 (c_X3_isAnswering l G hR x) hx rfl rfl hl.1 rfl (Nat.le_of_ble_eq_true rfl) ⟨by decide, by decide⟩ ⟨Nat.zero_le _, Nat.zero_le _⟩ dX3_move_42 ?_
          refine h_tv (b := .int 0) (by rw [hxj]; simp only [hs1]; rfl) ?_
          refine lv_if_eq (tgt := 66) X.1 X.2.1 dX3_move_45 (by decide) (fun c45 => ?_) (fun c45 => ?_)
          · refine lv_bipush (v := (-3)) X.1 X.2.1 dX3_move_66 (by decide) ?_
            exact h_iretW (v := -3) X Y hw ⟨rfl, hR, fun _ _ => ⟨rfl, rfl⟩, rfl⟩ (Nat.zero_le _) (Nat.zero_le _) dX3_move_68
          · exact absurd (by decide) c45
      rcases hs2 : s_si σ u with _ | _
      rotate_left
      · rw [if_pos (Or.inr (Or.inr (Or.inl rfl)))]
        refine lv_aload_n X.1 X.2.1 dX3_move_0 rfl (lv_at hl 0 rfl) ?_
        refine lv_iload_n X.1 X.2.1 dX3_move_1 rfl (lv_at hl 1 rfl) ?_
        refine h_callRV (t := (0, 0, 0)) (As := [.int y]) (rest := []) X hw cs_X3_109 (c_X3_itemOf l G hR y) hx rfl rfl hl.1 rfl (Nat.le_of_ble_eq_true rfl) ⟨by decide, by decide⟩ ⟨Nat.zero_le _, Nat.zero_le _⟩ dX3_move_2 ?_
        refine h_tv (b := .ref (ad (7, f, 0))) (by rw [hyf]; rfl) ?_
        refine lv_astore (lv' := [(4, .ref (ad (7, f, 0))), (0, .ref (ad (0, 0, 0))), (1, .int y), (2, .int x), (3, .int z)]) X.1 X.2.1 dX3_move_5 hl (by decide) rfl (fun ls hl => ?_)
        refine lv_aload_n X.1 X.2.1 dX3_move_7 rfl (lv_at hl 1 rfl) ?_
        refine lv_iload_n X.1 X.2.1 dX3_move_8 rfl (lv_at hl 3 rfl) ?_
        refine lv_iload_n X.1 X.2.1 dX3_move_9 rfl (lv_at hl 2 rfl) ?_
        refine h_callRV (t := (0, 0, 0)) (As := [.int x, .int y]) (rest := []) X hw cs_X3_99 (c_X3_copyOf l G hR x y) hx rfl rfl hl.1 rfl (Nat.le_of_ble_eq_true rfl) ⟨by decide, by decide⟩ ⟨Nat.zero_le _, Nat.zero_le _⟩ dX3_move_10 ?_
        refine h_tv (b := .ref (ad (9, j, f))) (by rw [x_copy_at, ha]; rfl) ?_
        refine lv_astore (lv' := [(5, .ref (ad (9, j, f))), (4, .ref (ad (7, f, 0))), (0, .ref (ad (0, 0, 0))), (1, .int y), (2, .int x), (3, .int z)]) X.1 X.2.1 dX3_move_13 hl (by decide) rfl (fun ls hl => ?_)
        refine lv_aload X.1 X.2.1 dX3_move_15 (lv_at hl 1 rfl) ?_
        refine lv_ifnull X.1 X.2.1 dX3_move_17 ?_
        refine lv_aload X.1 X.2.1 dX3_move_20 (lv_at hl 0 rfl) ?_
        refine lv_ifnull X.1 X.2.1 dX3_move_22 ?_
        refine lv_aload_n X.1 X.2.1 dX3_move_25 rfl (lv_at hl 2 rfl) ?_
        refine lv_iload_n X.1 X.2.1 dX3_move_26 rfl (lv_at hl 5 rfl) ?_
        refine h_callRV (t := (0, 0, 0)) (As := [.int z]) (rest := []) X hw cs_X3_91 (c_X3_storeOf l G hR z) hx rfl rfl hl.1 rfl (Nat.le_of_ble_eq_true rfl) ⟨by decide, by decide⟩ ⟨Nat.zero_le _, Nat.zero_le _⟩ dX3_move_27 ?_
        refine h_tv (b := .ref (ad (6, u, 0))) (by rw [hz]; rfl) ?_
        refine lv_ifnonnull (tgt := 35) X.1 X.2.1 dX3_move_30 (by decide) ?_
        refine lv_iload_n X.1 X.2.1 dX3_move_35 rfl (lv_at hl 4 rfl) ?_
        refine lv_iload_n X.1 X.2.1 dX3_move_36 rfl (lv_at hl 5 rfl) ?_
        refine lv_icmp_eq (tgt := 66) X.1 X.2.1 dX3_move_37 (by decide) (fun c37 => ?_) (fun c37 => ?_)
        · exact absurd (by rw [ex, ez] at c37; exact (nI_eq (by omega) (by omega)).mp c37) hju
        · refine lv_aload_n X.1 X.2.1 dX3_move_40 rfl (lv_at hl 2 rfl) ?_
          refine lv_iload_n X.1 X.2.1 dX3_move_41 rfl (lv_at hl 4 rfl) ?_
          refine h_callRV (t := (0, 0, 0)) (As := [.int x]) (rest := []) X hw cs_X3_153 (c_X3_isAnswering l G hR x) hx rfl rfl hl.1 rfl (Nat.le_of_ble_eq_true rfl) ⟨by decide, by decide⟩ ⟨Nat.zero_le _, Nat.zero_le _⟩ dX3_move_42 ?_
          refine h_tv (b := .int 1) (by rw [hxj]; simp only [hs1]; rfl) ?_
          refine lv_if_eq (tgt := 66) X.1 X.2.1 dX3_move_45 (by decide) (fun c45 => ?_) (fun c45 => ?_)
          · exact absurd c45 (by decide)
          · refine lv_aload_n X.1 X.2.1 dX3_move_48 rfl (lv_at hl 2 rfl) ?_
            refine lv_iload_n X.1 X.2.1 dX3_move_49 rfl (lv_at hl 5 rfl) ?_
            refine h_callRV (t := (0, 0, 0)) (As := [.int z]) (rest := []) X hw cs_X3_153 (c_X3_isAnswering l G hR z) hx rfl rfl hl.1 rfl (Nat.le_of_ble_eq_true rfl) ⟨by decide, by decide⟩ ⟨Nat.zero_le _, Nat.zero_le _⟩ dX3_move_50 ?_
            refine h_tv (b := .int 0) (by rw [hz]; simp only [hs2]; rfl) ?_
            refine lv_if_eq (tgt := 66) X.1 X.2.1 dX3_move_53 (by decide) (fun c53 => ?_) (fun c53 => ?_)
            · refine lv_bipush (v := (-3)) X.1 X.2.1 dX3_move_66 (by decide) ?_
              exact h_iretW (v := -3) X Y hw ⟨rfl, hR, fun _ _ => ⟨rfl, rfl⟩, rfl⟩ (Nat.zero_le _) (Nat.zero_le _) dX3_move_68
            · exact absurd (by decide) c53
      rcases hc2 : s_cp σ u f with _ | b2
      rotate_left
      · rw [if_pos (Or.inr (Or.inr (Or.inr (by unfold s_has; rw [hc2]; rfl))))]
        refine lv_aload_n X.1 X.2.1 dX3_move_0 rfl (lv_at hl 0 rfl) ?_
        refine lv_iload_n X.1 X.2.1 dX3_move_1 rfl (lv_at hl 1 rfl) ?_
        refine h_callRV (t := (0, 0, 0)) (As := [.int y]) (rest := []) X hw cs_X3_109 (c_X3_itemOf l G hR y) hx rfl rfl hl.1 rfl (Nat.le_of_ble_eq_true rfl) ⟨by decide, by decide⟩ ⟨Nat.zero_le _, Nat.zero_le _⟩ dX3_move_2 ?_
        refine h_tv (b := .ref (ad (7, f, 0))) (by rw [hyf]; rfl) ?_
        refine lv_astore (lv' := [(4, .ref (ad (7, f, 0))), (0, .ref (ad (0, 0, 0))), (1, .int y), (2, .int x), (3, .int z)]) X.1 X.2.1 dX3_move_5 hl (by decide) rfl (fun ls hl => ?_)
        refine lv_aload_n X.1 X.2.1 dX3_move_7 rfl (lv_at hl 1 rfl) ?_
        refine lv_iload_n X.1 X.2.1 dX3_move_8 rfl (lv_at hl 3 rfl) ?_
        refine lv_iload_n X.1 X.2.1 dX3_move_9 rfl (lv_at hl 2 rfl) ?_
        refine h_callRV (t := (0, 0, 0)) (As := [.int x, .int y]) (rest := []) X hw cs_X3_99 (c_X3_copyOf l G hR x y) hx rfl rfl hl.1 rfl (Nat.le_of_ble_eq_true rfl) ⟨by decide, by decide⟩ ⟨Nat.zero_le _, Nat.zero_le _⟩ dX3_move_10 ?_
        refine h_tv (b := .ref (ad (9, j, f))) (by rw [x_copy_at, ha]; rfl) ?_
        refine lv_astore (lv' := [(5, .ref (ad (9, j, f))), (4, .ref (ad (7, f, 0))), (0, .ref (ad (0, 0, 0))), (1, .int y), (2, .int x), (3, .int z)]) X.1 X.2.1 dX3_move_13 hl (by decide) rfl (fun ls hl => ?_)
        refine lv_aload X.1 X.2.1 dX3_move_15 (lv_at hl 1 rfl) ?_
        refine lv_ifnull X.1 X.2.1 dX3_move_17 ?_
        refine lv_aload X.1 X.2.1 dX3_move_20 (lv_at hl 0 rfl) ?_
        refine lv_ifnull X.1 X.2.1 dX3_move_22 ?_
        refine lv_aload_n X.1 X.2.1 dX3_move_25 rfl (lv_at hl 2 rfl) ?_
        refine lv_iload_n X.1 X.2.1 dX3_move_26 rfl (lv_at hl 5 rfl) ?_
        refine h_callRV (t := (0, 0, 0)) (As := [.int z]) (rest := []) X hw cs_X3_91 (c_X3_storeOf l G hR z) hx rfl rfl hl.1 rfl (Nat.le_of_ble_eq_true rfl) ⟨by decide, by decide⟩ ⟨Nat.zero_le _, Nat.zero_le _⟩ dX3_move_27 ?_
        refine h_tv (b := .ref (ad (6, u, 0))) (by rw [hz]; rfl) ?_
        refine lv_ifnonnull (tgt := 35) X.1 X.2.1 dX3_move_30 (by decide) ?_
        refine lv_iload_n X.1 X.2.1 dX3_move_35 rfl (lv_at hl 4 rfl) ?_
        refine lv_iload_n X.1 X.2.1 dX3_move_36 rfl (lv_at hl 5 rfl) ?_
        refine lv_icmp_eq (tgt := 66) X.1 X.2.1 dX3_move_37 (by decide) (fun c37 => ?_) (fun c37 => ?_)
        · exact absurd (by rw [ex, ez] at c37; exact (nI_eq (by omega) (by omega)).mp c37) hju
        · refine lv_aload_n X.1 X.2.1 dX3_move_40 rfl (lv_at hl 2 rfl) ?_
          refine lv_iload_n X.1 X.2.1 dX3_move_41 rfl (lv_at hl 4 rfl) ?_
          refine h_callRV (t := (0, 0, 0)) (As := [.int x]) (rest := []) X hw cs_X3_153 (c_X3_isAnswering l G hR x) hx rfl rfl hl.1 rfl (Nat.le_of_ble_eq_true rfl) ⟨by decide, by decide⟩ ⟨Nat.zero_le _, Nat.zero_le _⟩ dX3_move_42 ?_
          refine h_tv (b := .int 1) (by rw [hxj]; simp only [hs1]; rfl) ?_
          refine lv_if_eq (tgt := 66) X.1 X.2.1 dX3_move_45 (by decide) (fun c45 => ?_) (fun c45 => ?_)
          · exact absurd c45 (by decide)
          · refine lv_aload_n X.1 X.2.1 dX3_move_48 rfl (lv_at hl 2 rfl) ?_
            refine lv_iload_n X.1 X.2.1 dX3_move_49 rfl (lv_at hl 5 rfl) ?_
            refine h_callRV (t := (0, 0, 0)) (As := [.int z]) (rest := []) X hw cs_X3_153 (c_X3_isAnswering l G hR z) hx rfl rfl hl.1 rfl (Nat.le_of_ble_eq_true rfl) ⟨by decide, by decide⟩ ⟨Nat.zero_le _, Nat.zero_le _⟩ dX3_move_50 ?_
            refine h_tv (b := .int 1) (by rw [hz]; simp only [hs2]; rfl) ?_
            refine lv_if_eq (tgt := 66) X.1 X.2.1 dX3_move_53 (by decide) (fun c53 => ?_) (fun c53 => ?_)
            · exact absurd c53 (by decide)
            · refine lv_aload X.1 X.2.1 dX3_move_56 (lv_at hl 1 rfl) ?_
              refine gf_X3_113 X hw (hit f hf).1 rfl dX3_move_58 ?_
              refine lv_iload_n X.1 X.2.1 dX3_move_61 rfl (lv_at hl 5 rfl) ?_
              refine h_aald X hw 5 rfl (hit f hf).2 (by rw [ez]; exact vp_in_nI (by omega) (by decide)) dX3_move_62 ?_
              refine h_tv (b := .ref (ad (9, u, f))) (by rw [ez, nI_clamp (by omega)]; simp only [x_rws, hc2]; rfl) ?_
              refine lv_ifnull X.1 X.2.1 dX3_move_63 ?_
              refine lv_bipush (v := (-3)) X.1 X.2.1 dX3_move_66 (by decide) ?_
              exact h_iretW (v := -3) X Y hw ⟨rfl, hR, fun _ _ => ⟨rfl, rfl⟩, rfl⟩ (Nat.zero_le _) (Nat.zero_le _) dX3_move_68
      rw [if_neg (fun q => by
        rcases q with q | q | q | q
        · exact hju q
        · cases q
        · cases q
        · unfold s_has at q; rw [hc2] at q; cases q)]
      obtain ⟨hr1, g, hg, hgi⟩ := hcp j f b hb
      refine lv_aload_n X.1 X.2.1 dX3_move_0 rfl (lv_at hl 0 rfl) ?_
      refine lv_iload_n X.1 X.2.1 dX3_move_1 rfl (lv_at hl 1 rfl) ?_
      refine h_callRV (t := (0, 0, 0)) (As := [.int y]) (rest := []) X hw cs_X3_109 (c_X3_itemOf l G hR y) hx rfl rfl hl.1 rfl (Nat.le_of_ble_eq_true rfl) ⟨by decide, by decide⟩ ⟨Nat.zero_le _, Nat.zero_le _⟩ dX3_move_2 ?_
      refine h_tv (b := .ref (ad (7, f, 0))) (by rw [hyf]; rfl) ?_
      refine lv_astore (lv' := [(4, .ref (ad (7, f, 0))), (0, .ref (ad (0, 0, 0))), (1, .int y), (2, .int x), (3, .int z)]) X.1 X.2.1 dX3_move_5 hl (by decide) rfl (fun ls hl => ?_)
      refine lv_aload_n X.1 X.2.1 dX3_move_7 rfl (lv_at hl 1 rfl) ?_
      refine lv_iload_n X.1 X.2.1 dX3_move_8 rfl (lv_at hl 3 rfl) ?_
      refine lv_iload_n X.1 X.2.1 dX3_move_9 rfl (lv_at hl 2 rfl) ?_
      refine h_callRV (t := (0, 0, 0)) (As := [.int x, .int y]) (rest := []) X hw cs_X3_99 (c_X3_copyOf l G hR x y) hx rfl rfl hl.1 rfl (Nat.le_of_ble_eq_true rfl) ⟨by decide, by decide⟩ ⟨Nat.zero_le _, Nat.zero_le _⟩ dX3_move_10 ?_
      refine h_tv (b := .ref (ad (9, j, f))) (by rw [x_copy_at, ha]; rfl) ?_
      refine lv_astore (lv' := [(5, .ref (ad (9, j, f))), (4, .ref (ad (7, f, 0))), (0, .ref (ad (0, 0, 0))), (1, .int y), (2, .int x), (3, .int z)]) X.1 X.2.1 dX3_move_13 hl (by decide) rfl (fun ls hl => ?_)
      refine lv_aload X.1 X.2.1 dX3_move_15 (lv_at hl 1 rfl) ?_
      refine lv_ifnull X.1 X.2.1 dX3_move_17 ?_
      refine lv_aload X.1 X.2.1 dX3_move_20 (lv_at hl 0 rfl) ?_
      refine lv_ifnull X.1 X.2.1 dX3_move_22 ?_
      refine lv_aload_n X.1 X.2.1 dX3_move_25 rfl (lv_at hl 2 rfl) ?_
      refine lv_iload_n X.1 X.2.1 dX3_move_26 rfl (lv_at hl 5 rfl) ?_
      refine h_callRV (t := (0, 0, 0)) (As := [.int z]) (rest := []) X hw cs_X3_91 (c_X3_storeOf l G hR z) hx rfl rfl hl.1 rfl (Nat.le_of_ble_eq_true rfl) ⟨by decide, by decide⟩ ⟨Nat.zero_le _, Nat.zero_le _⟩ dX3_move_27 ?_
      refine h_tv (b := .ref (ad (6, u, 0))) (by rw [hz]; rfl) ?_
      refine lv_ifnonnull (tgt := 35) X.1 X.2.1 dX3_move_30 (by decide) ?_
      refine lv_iload_n X.1 X.2.1 dX3_move_35 rfl (lv_at hl 4 rfl) ?_
      refine lv_iload_n X.1 X.2.1 dX3_move_36 rfl (lv_at hl 5 rfl) ?_
      refine lv_icmp_eq (tgt := 66) X.1 X.2.1 dX3_move_37 (by decide) (fun c37 => ?_) (fun c37 => ?_)
      · exact absurd (by rw [ex, ez] at c37; exact (nI_eq (by omega) (by omega)).mp c37) hju
      · refine lv_aload_n X.1 X.2.1 dX3_move_40 rfl (lv_at hl 2 rfl) ?_
        refine lv_iload_n X.1 X.2.1 dX3_move_41 rfl (lv_at hl 4 rfl) ?_
        refine h_callRV (t := (0, 0, 0)) (As := [.int x]) (rest := []) X hw cs_X3_153 (c_X3_isAnswering l G hR x) hx rfl rfl hl.1 rfl (Nat.le_of_ble_eq_true rfl) ⟨by decide, by decide⟩ ⟨Nat.zero_le _, Nat.zero_le _⟩ dX3_move_42 ?_
        refine h_tv (b := .int 1) (by rw [hxj]; simp only [hs1]; rfl) ?_
        refine lv_if_eq (tgt := 66) X.1 X.2.1 dX3_move_45 (by decide) (fun c45 => ?_) (fun c45 => ?_)
        · exact absurd c45 (by decide)
        · refine lv_aload_n X.1 X.2.1 dX3_move_48 rfl (lv_at hl 2 rfl) ?_
          refine lv_iload_n X.1 X.2.1 dX3_move_49 rfl (lv_at hl 5 rfl) ?_
          refine h_callRV (t := (0, 0, 0)) (As := [.int z]) (rest := []) X hw cs_X3_153 (c_X3_isAnswering l G hR z) hx rfl rfl hl.1 rfl (Nat.le_of_ble_eq_true rfl) ⟨by decide, by decide⟩ ⟨Nat.zero_le _, Nat.zero_le _⟩ dX3_move_50 ?_
          refine h_tv (b := .int 1) (by rw [hz]; simp only [hs2]; rfl) ?_
          refine lv_if_eq (tgt := 66) X.1 X.2.1 dX3_move_53 (by decide) (fun c53 => ?_) (fun c53 => ?_)
          · exact absurd c53 (by decide)
          · refine lv_aload X.1 X.2.1 dX3_move_56 (lv_at hl 1 rfl) ?_
            refine gf_X3_113 X hw (hit f hf).1 rfl dX3_move_58 ?_
            refine lv_iload_n X.1 X.2.1 dX3_move_61 rfl (lv_at hl 5 rfl) ?_
            refine h_aald X hw 5 rfl (hit f hf).2 (by rw [ez]; exact vp_in_nI (by omega) (by decide)) dX3_move_62 ?_
            refine h_tv (b := .null) (by rw [ez, nI_clamp (by omega)]; simp only [x_rws, hc2]; rfl) ?_
            refine lv_ifnullN (tgt := 69) X.1 X.2.1 dX3_move_63 (by decide) ?_
            refine lv_aload X.1 X.2.1 dX3_move_69 (lv_at hl 1 rfl) ?_
            refine gf_X3_113 X hw (hit f hf).1 rfl dX3_move_71 ?_
            refine lv_iload_n X.1 X.2.1 dX3_move_74 rfl (lv_at hl 5 rfl) ?_
            refine lv_aload X.1 X.2.1 dX3_move_75 (lv_at hl 0 rfl) ?_
            refine h_aast (u := (9, j, f)) X hw 5 1 rfl (hit f hf).2 hr1 rfl (by rw [ez]; exact vp_in_nI (by omega) (by decide)) dX3_move_77 (fun H locs hw => ?_)
            obtain ⟨k1, hk1⟩ : ∃ zz, zz = h_cu k (8, f, 0) (some (.inl (G.2 5, 10, x_refs (va_up (x_rws ad σ f) (z).toNatClampNeg (some (ad (9, j, f))))))) := ⟨_, rfl⟩
            have hw := h_W.ren hw hk1
            have f1_0_0_0 : k1 (0, 0, 0) = some (.inr (3, [.int (nI (s_cop σ)), .ref (ad (1, 0, 0)), .int (nI (s_nS σ)), .ref (ad (2, 0, 0)), .int (nI (s_nF σ)), .ref (ad (3, 0, 0)), .ref (ad (4, 0, 0)), .ref (ad (5, 0, 0)), .ref (ad (5, 1, 0)), .ref (ad (5, 2, 0)), .int (nI (s_as σ).length), .int (s_dg σ)])) := by rw [hk1, h_cn _ _ (by simp)]; exact hx
            have f1_7_f_0 : k1 (7, f, 0) = some (.inr (0, [.int (s_pk σ f), .ref (ad (8, f, 0)), .int (s_rn σ f)])) := by rw [hk1, h_cn _ _ (by simp)]; exact (hit f hf).1
            have f1_8_f_0 : k1 (8, f, 0) = some (.inl (G.2 5, 10, x_refs (va_up (x_rws ad σ f) (z).toNatClampNeg (some (ad (9, j, f)))))) := by rw [hk1]; exact h_cs _ _ _
            have f1_9_j_f : k1 (9, j, f) = some (.inr (1, [.ref (ad (10, j, f)), .int (nI b.length)])) := by rw [hk1, h_cn _ _ (by simp)]; exact hr1
            have f1_10_j_f : k1 (10, j, f) = some (.inl (G.2 0, 16, .inl g)) := by rw [hk1, h_cn _ _ (by simp)]; exact hg
            refine lv_aload X.1 X.2.1 dX3_move_78 (lv_at hl 1 rfl) ?_
            refine gf_X3_113 X hw f1_7_f_0 rfl dX3_move_80 ?_
            refine lv_iload_n X.1 X.2.1 dX3_move_83 rfl (lv_at hl 4 rfl) ?_
            refine lv_null X.1 X.2.1 dX3_move_84 ?_
            refine h_aastN X hw 5 rfl f1_8_f_0 (by rw [ex]; exact vp_in_nI (by omega) (by decide)) dX3_move_85 (fun H locs hw => ?_)
            obtain ⟨k2, hk2⟩ : ∃ zz, zz = h_cu k1 (8, f, 0) (some (.inl (G.2 5, 10, x_refs (va_up (va_up (x_rws ad σ f) (z).toNatClampNeg (some (ad (9, j, f)))) (x).toNatClampNeg none)))) := ⟨_, rfl⟩
            have hw := h_W.ren hw hk2
            have f2_0_0_0 : k2 (0, 0, 0) = some (.inr (3, [.int (nI (s_cop σ)), .ref (ad (1, 0, 0)), .int (nI (s_nS σ)), .ref (ad (2, 0, 0)), .int (nI (s_nF σ)), .ref (ad (3, 0, 0)), .ref (ad (4, 0, 0)), .ref (ad (5, 0, 0)), .ref (ad (5, 1, 0)), .ref (ad (5, 2, 0)), .int (nI (s_as σ).length), .int (s_dg σ)])) := by rw [hk2, h_cn _ _ (by simp)]; exact f1_0_0_0
            have f2_7_f_0 : k2 (7, f, 0) = some (.inr (0, [.int (s_pk σ f), .ref (ad (8, f, 0)), .int (s_rn σ f)])) := by rw [hk2, h_cn _ _ (by simp)]; exact f1_7_f_0
            have f2_8_f_0 : k2 (8, f, 0) = some (.inl (G.2 5, 10, x_refs (va_up (va_up (x_rws ad σ f) (z).toNatClampNeg (some (ad (9, j, f)))) (x).toNatClampNeg none))) := by rw [hk2]; exact h_cs _ _ _
            have f2_9_j_f : k2 (9, j, f) = some (.inr (1, [.ref (ad (10, j, f)), .int (nI b.length)])) := by rw [hk2, h_cn _ _ (by simp)]; exact f1_9_j_f
            have f2_10_j_f : k2 (10, j, f) = some (.inl (G.2 0, 16, .inl g)) := by rw [hk2, h_cn _ _ (by simp)]; exact f1_10_j_f
            refine lv_iconst (v := 1) X.1 X.2.1 dX3_move_86 (by decide) ?_
            have n9 : ((9, j, f) : h_T) ≠ (9, u, f) := by simp [hju]
            have n10 : ((10, j, f) : h_T) ≠ (10, u, f) := by simp [hju]
            obtain ⟨k3, hk3⟩ : ∃ q, q = h_cu (h_cu k2 (9, u, f) none) (10, u, f) none := ⟨_, rfl⟩
            have hw := ((hw.drop (9, u, f)).drop (10, u, f)).ren hk3
            have o3 : ∀ t : h_T, t ≠ (9, u, f) → t ≠ (10, u, f) → k3 t = k2 t := fun t h1 h2 => by rw [hk3, h_cn _ _ h2, h_cn _ _ h1]
            obtain ⟨k4, hk4⟩ : ∃ q, q = h_cu (h_cu k3 (9, u, f) (k3 (9, j, f))) (9, j, f) none := ⟨_, rfl⟩
            obtain ⟨ad4, had4⟩ : ∃ q, q = h_au ad (9, u, f) (ad (9, j, f)) := ⟨_, rfl⟩
            have hw := ((hw.retag n9 (by rw [hk3, h_cn _ _ (by simp), h_cs])).ren hk4).renA had4
            obtain ⟨k5, hk5⟩ : ∃ q, q = h_cu (h_cu k4 (10, u, f) (k4 (10, j, f))) (10, j, f) none := ⟨_, rfl⟩
            obtain ⟨ad5, had5⟩ : ∃ q, q = h_au ad4 (10, u, f) (ad4 (10, j, f)) := ⟨_, rfl⟩
            have hw := ((hw.retag n10 (by rw [hk4, h_cn _ _ (by simp), h_cn _ _ (by simp), hk3, h_cs])).ren hk5).renA had5
            have o5 : ∀ t : h_T, t ≠ (9, u, f) → t ≠ (10, u, f) → t ≠ (9, j, f) → t ≠ (10, j, f) → k5 t = k2 t ∧ ad5 t = ad t := fun t h1 h2 h3 h4 => ⟨by rw [hk5, h_cn _ _ h4, h_cn _ _ h2, hk4, h_cn _ _ h3, h_cn _ _ h1, o3 t h1 h2], by rw [had5, h_an _ _ h2, had4, h_an _ _ h1]⟩
            have a9 : ad5 (9, u, f) = ad (9, j, f) := by rw [had5, h_an _ _ (by simp), had4, h_as]
            have a10 : ad5 (10, u, f) = ad (10, j, f) := by rw [had5, h_as, had4, h_an _ _ (by simp)]
            have c9 : k5 (9, u, f) = some (.inr (1, [.ref (ad5 (10, u, f)), .int (nI b.length)])) := by
              rw [a10, hk5, h_cn _ _ (by simp), h_cn _ _ (by simp), hk4, h_cn _ _ (Ne.symm n9), h_cs, o3 _ n9 (by simp)]
              exact f2_9_j_f
            have c10 : k5 (10, u, f) = some (.inl (G.2 0, 16, .inl g)) := by
              rw [hk5, h_cn _ _ (Ne.symm n10), h_cs, hk4, h_cn _ _ (by simp), h_cn _ _ (by simp), o3 _ (by simp) n10]
              exact f2_10_j_f
            have cpt : ∀ a g, s_cp (s_setCp (s_setCp σ u f (some b)) j f none) a g = s_c2 (s_c2 (s_cp σ) u f (some b)) j f none a g := fun _ _ => rfl
            have cpo : ∀ a, a ≠ j → a ≠ u → s_cp (s_setCp (s_setCp σ u f (some b)) j f none) a f = s_cp σ a f := fun a h1 h2 => by rw [cpt, s_c2_n (fun h => h1 h.1), s_c2_n (fun h => h2 h.1)]
            have cpj : s_cp (s_setCp (s_setCp σ u f (some b)) j f none) j f = none := by rw [cpt, s_c2_s]
            have cpu : s_cp (s_setCp (s_setCp σ u f (some b)) j f none) u f = some b := by rw [cpt, s_c2_n (fun h => hju h.1.symm), s_c2_s]
            exact h_iretW (v := 1) X Y hw ⟨rfl, hR.file (τ := s_setCp (s_setCp σ u f (some b)) j f none) (f := f) rfl rfl rfl (fun _ _ => rfl) rfl (fun a g hg => by rw [cpt, s_c2_n (fun h => hg h.2), s_c2_n (fun h => hg h.2)]) hf (fun a ha2 => by
              rw [cpo a (by omega) (by omega)]
              exact hok.2.2.2.2.2.1 a f (Or.inl ha2)) (fun a l hl => by
              by_cases haj : a = j
              · rw [haj, cpj] at hl; cases hl
              · by_cases hau : a = u
                · rw [hau, cpu] at hl; cases hl; exact hok.2.2.2.2.2.2.1 j f b hb
                · rw [cpo a haj hau] at hl; exact hok.2.2.2.2.2.2.1 a f l hl) ⟨by
              rw [(o5 (7, f, 0) (by simp) (by simp) (by simp) (by simp)).1, (o5 (8, f, 0) (by simp) (by simp) (by simp) (by simp)).2]
              exact f2_7_f_0, by
              rw [(o5 (8, f, 0) (by simp) (by simp) (by simp) (by simp)).1, f2_8_f_0, ex, ez, nI_clamp (by omega), nI_clamp (by omega)]
              have : x_rws ad5 (s_setCp (s_setCp σ u f (some b)) j f none) f = va_up (va_up (x_rws ad σ f) u (some (ad (9, j, f)))) j none := by
                funext a
                unfold x_rws
                by_cases haj : a = j
                · rw [haj, cpj, va_up_self]; rfl
                · by_cases hau : a = u
                  · rw [hau, cpu, va_up_ne _ _ (Ne.symm hju), va_up_self, Option.map_some, a9]
                  · rw [cpo a haj hau, va_up_ne _ _ haj, va_up_ne _ _ hau, (o5 (9, a, f) (by simp [hau]) (by simp) (by simp [haj]) (by simp)).2]
              rw [this]⟩ (fun a l hl => by
              by_cases haj : a = j
              · rw [haj, cpj] at hl; cases hl
              · by_cases hau : a = u
                · rw [hau, cpu] at hl
                  cases hl
                  subst hau
                  exact ⟨c9, g, c10, hgi⟩
                · rw [cpo a haj hau] at hl
                  have p9 := o5 (9, a, f) (by simp [hau]) (by simp) (by simp [haj]) (by simp)
                  have p10 := o5 (10, a, f) (by simp) (by simp [hau]) (by simp) (by simp [haj])
                  exact (hcp a f l hl).congr (by rw [p9.1, hk2, h_cn _ _ (by simp), hk1, h_cn _ _ (by simp)]) (by rw [p10.1, hk2, h_cn _ _ (by simp), hk1, h_cn _ _ (by simp)]) p10.2) (o5 (7, f, 0) (by simp) (by simp) (by simp) (by simp)).2 (fun t _ _ h8 h9 => by
              obtain ⟨q1, q2⟩ := o5 t (h9 u).1 (h9 u).2 (h9 j).1 (h9 j).2
              exact ⟨by rw [q1, hk2, h_cn _ _ h8, hk1, h_cn _ _ h8], q2⟩), fun t ht => by
              obtain ⟨q1, q2⟩ := o5 t (t20 ht (Nat.le_of_ble_eq_true rfl)) (t20 ht (Nat.le_of_ble_eq_true rfl)) (t20 ht (Nat.le_of_ble_eq_true rfl)) (t20 ht (Nat.le_of_ble_eq_true rfl))
              exact ⟨by rw [q1, hk2, h_cn _ _ (t20 ht (Nat.le_of_ble_eq_true rfl)), hk1, h_cn _ _ (t20 ht (Nat.le_of_ble_eq_true rfl))], q2⟩, (o5 (0, 0, 0) (by simp) (by simp) (by simp) (by simp)).2⟩ (Nat.zero_le _) (Nat.zero_le _) dX3_move_87
end
section
theorem oi_X0 : Cond.methodLink RX0 3 objectInit ∈ h_tb := h_at 174 (by decide +kernel) (by decide +kernel)
theorem oi_X1 : Cond.methodLink RX1 3 objectInit ∈ h_tb := h_at 59 (by decide +kernel) (by decide +kernel)
theorem oi_X2 : Cond.methodLink RX2 1 objectInit ∈ h_tb := h_at 125 (by decide +kernel) (by decide +kernel)
theorem oi_X3 : Cond.methodLink RX3 1 objectInit ∈ h_tb := h_at 47 (by decide +kernel) (by decide +kernel)
theorem oi_X4 : Cond.methodLink RX4 1 objectInit ∈ h_tb := h_at 465 (by decide +kernel) (by decide +kernel)
theorem oi_i : Cond.instanceMethod objectInit ∈ h_tb := h_at 48 (by decide +kernel) (by decide +kernel)
theorem oi_c : Cond.code objectInit ⟨#[0xb1]⟩ 1 none ∈ h_tb := h_at 49 (by decide +kernel) (by decide +kernel)
theorem mm_min_l : Cond.methodLink RX3 54 Lib.Math.min.name ∈ h_tb := h_at 70 (by decide +kernel) (by decide +kernel)
theorem mm_min_s : Cond.static Lib.Math.min.name ∈ h_tb := h_at 71 (by decide +kernel) (by decide +kernel)
theorem mm_min_c : Cond.code Lib.Math.min.name Lib.Math.min.code 2 (some .int) ∈ h_tb := h_at 72 (by decide +kernel) (by decide +kernel)
theorem mm_max_l : Cond.methodLink RX3 60 Lib.Math.max.name ∈ h_tb := h_at 73 (by decide +kernel) (by decide +kernel)
theorem mm_max_s : Cond.static Lib.Math.max.name ∈ h_tb := h_at 74 (by decide +kernel) (by decide +kernel)
theorem mm_max_c : Cond.code Lib.Math.max.name Lib.Math.max.code 2 (some .int) ∈ h_tb := h_at 75 (by decide +kernel) (by decide +kernel)
end
section
set_option maxHeartbeats 4000000 in
set_option maxRecDepth 100000 in
/-- Row(): no bytes -/
theorem c_X1_init (l : Launch) (G : h_G) {ad : h_T → Nat} {k : h_C} {t u : h_T} (ht : k t = some (.inr (1, [.null, .int 0]))) (hu : k u = none) (htu : t ≠ u)  : h_Wr l yX1_init cX1_init 1 none 1 12 1 16 G ad k [.ref (ad t)] (fun r ad' k' => r = none ∧ x_row G ad' k' t u [] ∧ ad' t = ad t ∧ ∀ v : h_T, v ≠ t → v ≠ u → k' v = k v ∧ ad' v = ad v) := by
  refine h_wr (by decide +kernel) (Nat.le_of_ble_eq_true rfl) ?_
  intro p e s m args below meth c X Y hw ls hl
  have hl : lv_has ls 1 [(0, .ref (ad t))] := hl
  refine lv_aload_n X.1 X.2.1 dX1_init_0 rfl (lv_at hl 0 rfl) ?_
  refine W.objInit X.1 X.2.1 X.2.2.2.1 (X.2.2.2.2.1 _ oi_X1) (X.2.2.2.2.1 _ oi_i) (X.2.2.2.2.1 _ oi_c) rfl (by rw [X.2.2.1]; exact hl.1) rfl dX1_init_1 (Nat.le_of_ble_eq_true rfl) (Nat.le_of_ble_eq_true rfl) ?_
  refine W.eq (g2 := F0 m 4 ls []) rfl ?_
  refine lv_aload_n X.1 X.2.1 dX1_init_4 rfl (lv_at hl 0 rfl) ?_
  refine lv_bipush (v := 16) X.1 X.2.1 dX1_init_5 (by decide) ?_
  refine h_newa X hw u hu (ty := .int) rfl wr_int 0 rfl (N' := 16) (a0 := (16, .inl (fun _ => 0))) (fun _ => rfl) (by decide) (by decide) (by decide) (Nat.le_of_ble_eq_true rfl) (Nat.le_of_ble_eq_true rfl) dX1_init_7 (fun q H hw => ?_)
  obtain ⟨k1, hk1⟩ : ∃ zz, zz = h_cu k u (some (.inl (G.2 0, 16, .inl (fun _ => 0)))) := ⟨_, rfl⟩
  obtain ⟨ad1, had1⟩ : ∃ zz, zz = h_au ad u q := ⟨_, rfl⟩
  replace hw := (hw.ren hk1).renA had1
  obtain rfl : q = ad1 u := by rw [had1, h_as]
  have ea1_0 : ad t = ad1 t := by rw [had1, h_an _ _ htu]
  simp only [ea1_0] at hl
  simp only [ea1_0]
  have f1_t : k1 t = some (.inr (1, [.null, .int 0])) := by rw [hk1, h_cn _ _ htu, ht]
  have f1_u : k1 u = some (.inl (G.2 0, 16, .inl (fun _ => 0))) := by rw [hk1]; exact h_cs _ _ _
  refine pf_X1_9 X hw Y.2.2 f1_t rfl rfl (Nat.le_of_ble_eq_true rfl) dX1_init_9 (fun H locs hw => ?_)
  obtain ⟨k2, hk2⟩ : ∃ zz, zz = h_cu k1 t (some (.inr (1, [.ref (ad1 u), .int 0]))) := ⟨_, rfl⟩
  have hw := h_W.ren hw hk2
  have f2_t : k2 t = some (.inr (1, [.ref (ad1 u), .int 0])) := by rw [hk2]; exact h_cs _ _ _
  have f2_u : k2 u = some (.inl (G.2 0, 16, .inl (fun _ => 0))) := by rw [hk2, h_cn _ _ (Ne.symm htu)]; exact f1_u
  refine lv_aload_n X.1 X.2.1 dX1_init_12 rfl (lv_at hl 0 rfl) ?_
  refine lv_iconst (v := 0) X.1 X.2.1 dX1_init_13 (by decide) ?_
  refine pf_X1_15 X hw f2_t rfl rfl (Nat.le_of_ble_eq_true rfl) dX1_init_14 (fun H locs hw => ?_)
  obtain ⟨k3, hk3⟩ : ∃ zz, zz = h_cu k2 t (some (.inr (1, [.ref (ad1 u), .int 0]))) := ⟨_, rfl⟩
  have hw := h_W.ren hw hk3
  have f3_t : k3 t = some (.inr (1, [.ref (ad1 u), .int 0])) := by rw [hk3]; exact h_cs _ _ _
  have f3_u : k3 u = some (.inl (G.2 0, 16, .inl (fun _ => 0))) := by rw [hk3, h_cn _ _ (Ne.symm htu)]; exact f2_u
  exact h_vretW X Y hw ⟨rfl, ⟨by rw [hk3, h_cs]; rfl, _, by rw [hk3, h_cn _ _ (Ne.symm htu), hk2, h_cn _ _ (Ne.symm htu), hk1, h_cs], fun i hi => absurd hi (Nat.not_lt_zero i)⟩, by rw [had1, h_an _ _ htu], fun v h1 h2 => ⟨by rw [hk3, h_cn _ _ h1, hk2, h_cn _ _ h1, hk1, h_cn _ _ h2], by rw [had1, h_an _ _ h2]⟩⟩ (Nat.le_of_ble_eq_true rfl) (Nat.le_of_ble_eq_true rfl) dX1_init_17
set_option maxHeartbeats 4000000 in
set_option maxRecDepth 100000 in
/-- Row.append -/
theorem c_X1_append (l : Launch) (G : h_G) {ad : h_T → Nat} {k : h_C} {t u : h_T} {b : List Int32} (hb : x_row G ad k t u b) (hlen : b.length ≤ 16) (htu : t ≠ u) (x : Int32) : h_Wr l yX1_append cX1_append 2 none 0 0 0 0 G ad k [.ref (ad t), .int x] (fun r ad' k' => r = none ∧ ad' = ad ∧ x_row G ad k' t u (if b.length < 16 then b ++ [x &&& 255] else b) ∧ ∀ v : h_T, v ≠ t → v ≠ u → k' v = k v) := by
  refine h_wr (by decide +kernel) (Nat.le_of_ble_eq_true rfl) ?_
  intro p e s m args below meth c X Y hw ls hl
  have hl : lv_has ls 2 [(0, .ref (ad t)), (1, .int x)] := hl
  obtain ⟨hr1, g, hg, hgi⟩ := id hb
  refine lv_aload_n X.1 X.2.1 dX1_append_0 rfl (lv_at hl 0 rfl) ?_
  refine gf_X1_15 X hw hr1 rfl dX1_append_1 ?_
  refine lv_aload_n X.1 X.2.1 dX1_append_4 rfl (lv_at hl 0 rfl) ?_
  refine gf_X1_9 X hw hr1 rfl dX1_append_5 ?_
  refine h_alen X hw 0 rfl hg (v := 16) rfl dX1_append_8 ?_
  refine lv_icmp_ge (tgt := 36) X.1 X.2.1 dX1_append_9 (by decide) (fun c9 => ?_) (fun c9 => ?_)
  · rw [if_neg (fun q => absurd c9 (nI_ge (b := 16) q (by omega)))]
    exact h_vretW X Y hw ⟨rfl, rfl, hb, fun _ _ _ => rfl⟩ (Nat.zero_le _) (Nat.zero_le _) dX1_append_36
  · have hlt : b.length < 16 := Nat.lt_of_not_le (fun q => c9 (nI_le (a := 16) q (by omega)))
    refine lv_aload_n X.1 X.2.1 dX1_append_12 rfl (lv_at hl 0 rfl) ?_
    refine gf_X1_9 X hw hr1 rfl dX1_append_13 ?_
    refine lv_aload_n X.1 X.2.1 dX1_append_16 rfl (lv_at hl 0 rfl) ?_
    refine gf_X1_15 X hw hr1 rfl dX1_append_17 ?_
    refine lv_iload_n X.1 X.2.1 dX1_append_20 rfl (lv_at hl 1 rfl) ?_
    refine lv_sipush (v := 255) X.1 X.2.1 dX1_append_21 (by decide) ?_
    refine lv_iand X.1 X.2.1 dX1_append_24 ?_
    refine h_iast X hw hg (vp_in_nI hlt (by decide)) dX1_append_25 (fun H locs hw => ?_)
    obtain ⟨k1, hk1⟩ : ∃ zz, zz = h_cu k u (some (.inl (G.2 0, 16, .inl (upd g (nI b.length).toNatClampNeg (x &&& 255))))) := ⟨_, rfl⟩
    have hw := h_W.ren hw hk1
    have f1_t : k1 t = some (.inr (1, [.ref (ad u), .int (nI b.length)])) := by rw [hk1, h_cn _ _ htu]; exact hr1
    have f1_u : k1 u = some (.inl (G.2 0, 16, .inl (upd g (nI b.length).toNatClampNeg (x &&& 255)))) := by rw [hk1]; exact h_cs _ _ _
    refine lv_aload_n X.1 X.2.1 dX1_append_26 rfl (lv_at hl 0 rfl) ?_
    refine lv_dup X.1 X.2.1 dX1_append_27 rfl ?_
    refine gf_X1_15 X hw f1_t rfl dX1_append_28 ?_
    refine lv_iconst (v := 1) X.1 X.2.1 dX1_append_31 (by decide) ?_
    refine lv_iadd X.1 X.2.1 dX1_append_32 ?_
    refine h_ti (b := nI (b.length + 1)) (nI_1 _) ?_
    refine pf_X1_15 X hw f1_t rfl rfl (Nat.le_of_ble_eq_true rfl) dX1_append_33 (fun H locs hw => ?_)
    obtain ⟨k2, hk2⟩ : ∃ zz, zz = h_cu k1 t (some (.inr (1, [.ref (ad u), .int (nI (b.length + 1))]))) := ⟨_, rfl⟩
    have hw := h_W.ren hw hk2
    have f2_t : k2 t = some (.inr (1, [.ref (ad u), .int (nI (b.length + 1))])) := by rw [hk2]; exact h_cs _ _ _
    have f2_u : k2 u = some (.inl (G.2 0, 16, .inl (upd g (nI b.length).toNatClampNeg (x &&& 255)))) := by rw [hk2, h_cn _ _ (Ne.symm htu)]; exact f1_u
    rw [if_pos hlt]
    exact h_vretW X Y hw ⟨rfl, rfl, ⟨by rw [hk2, h_cs, List.length_append]; rfl, _, by rw [hk2, h_cn _ _ (Ne.symm htu), hk1, h_cs], fun i hi => by
      rw [List.length_append] at hi
      rw [nI_clamp (by omega)]
      by_cases hib : i = b.length
      · subst hib
        rw [pk_us, List.getD_eq_getElem?_getD, List.getElem?_append_right (Nat.le_refl _)]
        simp
      · have hi2 : i < b.length := by simp at hi; omega
        rw [pk_un hib, hgi i hi2, List.getD_eq_getElem?_getD, List.getD_eq_getElem?_getD, List.getElem?_append_left hi2]⟩, fun v h1 h2 => by rw [hk2, h_cn _ _ h1, hk1, h_cn _ _ h2]⟩ (Nat.zero_le _) (Nat.zero_le _) dX1_append_36
set_option maxHeartbeats 4000000 in
set_option maxRecDepth 100000 in
/-- Store(place) -/
theorem c_X2_init (l : Launch) (G : h_G) {ad : h_T → Nat} {k : h_C} {t : h_T} (ht : k t = some (.inr (2, [.int 0, .int 0, .int 0, .int 0]))) (x : Int32) : h_Wr l yX2_init cX2_init 2 none 1 12 0 0 G ad k [.ref (ad t), .int x] (fun r ad' k' => r = none ∧ ad' = ad ∧ k' = h_cu k t (some (.inr (2, [.int x, .int 1, .int 0, .int 0])))) := by
  refine h_wr (by decide +kernel) (Nat.le_of_ble_eq_true rfl) ?_
  intro p e s m args below meth c X Y hw ls hl
  have hl : lv_has ls 2 [(0, .ref (ad t)), (1, .int x)] := hl
  refine lv_aload_n X.1 X.2.1 dX2_init_0 rfl (lv_at hl 0 rfl) ?_
  refine W.objInit X.1 X.2.1 X.2.2.2.1 (X.2.2.2.2.1 _ oi_X2) (X.2.2.2.2.1 _ oi_i) (X.2.2.2.2.1 _ oi_c) rfl (by rw [X.2.2.1]; exact hl.1) rfl dX2_init_1 (Nat.le_of_ble_eq_true rfl) (Nat.le_of_ble_eq_true rfl) ?_
  refine W.eq (g2 := F0 m 4 ls []) rfl ?_
  refine lv_aload_n X.1 X.2.1 dX2_init_4 rfl (lv_at hl 0 rfl) ?_
  refine lv_iconst (v := 1) X.1 X.2.1 dX2_init_5 (by decide) ?_
  refine pf_X2_7 X hw ht rfl rfl (Nat.le_of_ble_eq_true rfl) dX2_init_6 (fun H locs hw => ?_)
  obtain ⟨k1, hk1⟩ : ∃ zz, zz = h_cu k t (some (.inr (2, [.int 0, .int 1, .int 0, .int 0]))) := ⟨_, rfl⟩
  have hw := h_W.ren hw hk1
  have f1_t : k1 t = some (.inr (2, [.int 0, .int 1, .int 0, .int 0])) := by rw [hk1]; exact h_cs _ _ _
  refine lv_aload_n X.1 X.2.1 dX2_init_9 rfl (lv_at hl 0 rfl) ?_
  refine lv_iconst (v := 0) X.1 X.2.1 dX2_init_10 (by decide) ?_
  refine pf_X2_13 X hw f1_t rfl rfl (Nat.le_of_ble_eq_true rfl) dX2_init_11 (fun H locs hw => ?_)
  obtain ⟨k2, hk2⟩ : ∃ zz, zz = h_cu k1 t (some (.inr (2, [.int 0, .int 1, .int 0, .int 0]))) := ⟨_, rfl⟩
  have hw := h_W.ren hw hk2
  have f2_t : k2 t = some (.inr (2, [.int 0, .int 1, .int 0, .int 0])) := by rw [hk2]; exact h_cs _ _ _
  refine lv_aload_n X.1 X.2.1 dX2_init_14 rfl (lv_at hl 0 rfl) ?_
  refine lv_iconst (v := 0) X.1 X.2.1 dX2_init_15 (by decide) ?_
  refine pf_X2_17 X hw f2_t rfl rfl (Nat.le_of_ble_eq_true rfl) dX2_init_16 (fun H locs hw => ?_)
  obtain ⟨k3, hk3⟩ : ∃ zz, zz = h_cu k2 t (some (.inr (2, [.int 0, .int 1, .int 0, .int 0]))) := ⟨_, rfl⟩
  have hw := h_W.ren hw hk3
  have f3_t : k3 t = some (.inr (2, [.int 0, .int 1, .int 0, .int 0])) := by rw [hk3]; exact h_cs _ _ _
  refine lv_aload_n X.1 X.2.1 dX2_init_19 rfl (lv_at hl 0 rfl) ?_
  refine lv_iload_n X.1 X.2.1 dX2_init_20 rfl (lv_at hl 1 rfl) ?_
  refine pf_X2_20 X hw Y.2.2 f3_t rfl rfl (Nat.le_of_ble_eq_true rfl) dX2_init_21 (fun H locs hw => ?_)
  obtain ⟨k4, hk4⟩ : ∃ zz, zz = h_cu k3 t (some (.inr (2, [.int x, .int 1, .int 0, .int 0]))) := ⟨_, rfl⟩
  have hw := h_W.ren hw hk4
  have f4_t : k4 t = some (.inr (2, [.int x, .int 1, .int 0, .int 0])) := by rw [hk4]; exact h_cs _ _ _
  exact h_vretW X Y hw ⟨rfl, rfl, by rw [hk4, hk3, hk2, hk1, h_cuu, h_cuu, h_cuu]⟩ (Nat.zero_le _) (Nat.zero_le _) dX2_init_24
set_option maxHeartbeats 4000000 in
set_option maxRecDepth 100000 in
/-- Item(package) -/
theorem c_X0_init (l : Launch) (G : h_G) {ad : h_T → Nat} {k : h_C} {t u : h_T} (ht : k t = some (.inr (0, [.int 0, .null, .int 0]))) (hu : k u = none) (htu : t ≠ u) (x : Int32) : h_Wr l yX0_init cX0_init 2 none 1 12 1 10 G ad k [.ref (ad t), .int x] (fun r ad' k' => r = none ∧ k' t = some (.inr (0, [.int x, .ref (ad' u), .int 0])) ∧ k' u = some (.inl (G.2 5, 10, x_refs (fun _ => none))) ∧ ad' t = ad t ∧ ∀ v : h_T, v ≠ t → v ≠ u → k' v = k v ∧ ad' v = ad v) := by
  refine h_wr (by decide +kernel) (Nat.le_of_ble_eq_true rfl) ?_
  intro p e s m args below meth c X Y hw ls hl
  have hl : lv_has ls 2 [(0, .ref (ad t)), (1, .int x)] := hl
  refine lv_aload_n X.1 X.2.1 dX0_init_0 rfl (lv_at hl 0 rfl) ?_
  refine W.objInit X.1 X.2.1 X.2.2.2.1 (X.2.2.2.2.1 _ oi_X0) (X.2.2.2.2.1 _ oi_i) (X.2.2.2.2.1 _ oi_c) rfl (by rw [X.2.2.1]; exact hl.1) rfl dX0_init_1 (Nat.le_of_ble_eq_true rfl) (Nat.le_of_ble_eq_true rfl) ?_
  refine W.eq (g2 := F0 m 4 ls []) rfl ?_
  refine lv_aload_n X.1 X.2.1 dX0_init_4 rfl (lv_at hl 0 rfl) ?_
  refine lv_bipush (v := 10) X.1 X.2.1 dX0_init_5 (by decide) ?_
  refine h_newq X hw u hu wk_X0_9 X.2.2.2.2.2.2.2.2.1 5 rfl (N' := 10) (by decide) (by decide) (by decide) (Nat.le_of_ble_eq_true rfl) (Nat.le_of_ble_eq_true rfl) dX0_init_7 (fun q H hw => ?_)
  obtain ⟨k1, hk1⟩ : ∃ zz, zz = h_cu k u (some (.inl (G.2 5, 10, x_refs (fun _ => none)))) := ⟨_, rfl⟩
  obtain ⟨ad1, had1⟩ : ∃ zz, zz = h_au ad u q := ⟨_, rfl⟩
  replace hw := (hw.ren hk1).renA had1
  obtain rfl : q = ad1 u := by rw [had1, h_as]
  have ea1_0 : ad t = ad1 t := by rw [had1, h_an _ _ htu]
  simp only [ea1_0] at hl
  simp only [ea1_0]
  have f1_t : k1 t = some (.inr (0, [.int 0, .null, .int 0])) := by rw [hk1, h_cn _ _ htu, ht]
  have f1_u : k1 u = some (.inl (G.2 5, 10, x_refs (fun _ => none))) := by rw [hk1]; exact h_cs _ _ _
  refine pf_X0_11 X hw Y.2.2 f1_t rfl rfl (Nat.le_of_ble_eq_true rfl) dX0_init_10 (fun H locs hw => ?_)
  obtain ⟨k2, hk2⟩ : ∃ zz, zz = h_cu k1 t (some (.inr (0, [.int 0, .ref (ad1 u), .int 0]))) := ⟨_, rfl⟩
  have hw := h_W.ren hw hk2
  have f2_t : k2 t = some (.inr (0, [.int 0, .ref (ad1 u), .int 0])) := by rw [hk2]; exact h_cs _ _ _
  have f2_u : k2 u = some (.inl (G.2 5, 10, x_refs (fun _ => none))) := by rw [hk2, h_cn _ _ (Ne.symm htu)]; exact f1_u
  refine lv_aload_n X.1 X.2.1 dX0_init_13 rfl (lv_at hl 0 rfl) ?_
  refine lv_iconst (v := 0) X.1 X.2.1 dX0_init_14 (by decide) ?_
  refine pf_X0_17 X hw f2_t rfl rfl (Nat.le_of_ble_eq_true rfl) dX0_init_15 (fun H locs hw => ?_)
  obtain ⟨k3, hk3⟩ : ∃ zz, zz = h_cu k2 t (some (.inr (0, [.int 0, .ref (ad1 u), .int 0]))) := ⟨_, rfl⟩
  have hw := h_W.ren hw hk3
  have f3_t : k3 t = some (.inr (0, [.int 0, .ref (ad1 u), .int 0])) := by rw [hk3]; exact h_cs _ _ _
  have f3_u : k3 u = some (.inl (G.2 5, 10, x_refs (fun _ => none))) := by rw [hk3, h_cn _ _ (Ne.symm htu)]; exact f2_u
  refine lv_aload_n X.1 X.2.1 dX0_init_18 rfl (lv_at hl 0 rfl) ?_
  refine lv_iload_n X.1 X.2.1 dX0_init_19 rfl (lv_at hl 1 rfl) ?_
  refine pf_X0_21 X hw Y.2.2 f3_t rfl rfl (Nat.le_of_ble_eq_true rfl) dX0_init_20 (fun H locs hw => ?_)
  obtain ⟨k4, hk4⟩ : ∃ zz, zz = h_cu k3 t (some (.inr (0, [.int x, .ref (ad1 u), .int 0]))) := ⟨_, rfl⟩
  have hw := h_W.ren hw hk4
  have f4_t : k4 t = some (.inr (0, [.int x, .ref (ad1 u), .int 0])) := by rw [hk4]; exact h_cs _ _ _
  have f4_u : k4 u = some (.inl (G.2 5, 10, x_refs (fun _ => none))) := by rw [hk4, h_cn _ _ (Ne.symm htu)]; exact f3_u
  exact h_vretW X Y hw ⟨rfl, by rw [hk4, h_cs], by rw [hk4, h_cn _ _ (Ne.symm htu), hk3, h_cn _ _ (Ne.symm htu), hk2, h_cn _ _ (Ne.symm htu), hk1, h_cs], by rw [had1, h_an _ _ htu], fun v h1 h2 => ⟨by rw [hk4, h_cn _ _ h1, hk3, h_cn _ _ h1, hk2, h_cn _ _ h1, hk1, h_cn _ _ h2], by rw [had1, h_an _ _ h2]⟩⟩ (Nat.le_of_ble_eq_true rfl) (Nat.le_of_ble_eq_true rfl) dX0_init_23
end
section
set_option maxHeartbeats 4000000 in
set_option maxRecDepth 100000 in
/-- Row.become -/
theorem c_X1_become (l : Launch) (G : h_G) {ad : h_T → Nat} {k : h_C} {t u t2 u2 : h_T} {b b2 : List Int32} (hb : x_row G ad k t u b) (hb2 : x_row G ad k t2 u2 b2) (hlen : b2.length ≤ 16) (htu : t ≠ u) (ht2 : t2 ≠ t) (hu2 : u2 ≠ u) (htu2 : t2 ≠ u)  : h_Wr l yX1_become cX1_become 3 none 0 0 0 0 G ad k [.ref (ad t), .ref (ad t2)] (fun r ad' k' => r = none ∧ ad' = ad ∧ x_row G ad k' t u b2 ∧ ∀ v : h_T, v ≠ t → v ≠ u → k' v = k v) := by
  refine h_wr (by decide +kernel) (Nat.le_of_ble_eq_true rfl) ?_
  intro p e s m args below meth c X Y hw ls hl
  have hl : lv_has ls 3 [(0, .ref (ad t)), (1, .ref (ad t2))] := hl
  obtain ⟨hr1, g1, hg1, hgi1⟩ := id hb
  obtain ⟨hr2, g2, hg2, hgi2⟩ := id hb2
  have nut : u2 ≠ t := fun e => by rw [e, hr1] at hg2; cases hg2
  have loop : ∀ (n i : Nat), i ≤ b2.length → b2.length + 1 ≤ i + n → ∀ (kk : h_C) (g : Nat → Int32) (H : Heap) (locs : List Loc), kk u = some (.inl (G.2 0, 16, .inl g)) → (∀ v : h_T, v ≠ u → kk v = k v) → (∀ j, j < i → g j = b2.getD j 0) → h_W G.1 h_cl (h_A ad k s.heap.size) s.heap ad kk H locs → ∀ (ls : Array Slot), lv_has ls 3 [(0, .ref (ad t)), (1, .ref (ad t2)), (2, .int (nI i))] → W p l e (h_rm 0 0 0 0) s m args below meth c H locs 0 0 (MQ below (h_Qw G ad k s.heap.size (fun r ad' k' => r = none ∧ ad' = ad ∧ x_row G ad k' t u b2 ∧ ∀ v : h_T, v ≠ t → v ≠ u → k' v = k v)) args s 0 0 (h_A ad k s.heap.size)) (F0 m 2 ls []) := by
    intro n
    induction n with
    | zero =>
      intro i h1 h2
      exact absurd h2 (by omega)
    | succ n ih =>
      intro i hii hni kk g H locs fu ho hgg hw ls hl
      have ft : kk t = some (.inr (1, [.ref (ad u), .int (nI b.length)])) := by rw [ho t htu]; exact hr1
      have ft2 : kk t2 = some (.inr (1, [.ref (ad u2), .int (nI b2.length)])) := by rw [ho t2 htu2]; exact hr2
      have fu2 : kk u2 = some (.inl (G.2 0, 16, .inl g2)) := by rw [ho u2 hu2]; exact hg2
      refine lv_iload_n X.1 X.2.1 dX1_become_2 rfl (lv_at hl 2 rfl) ?_
      refine lv_aload_n X.1 X.2.1 dX1_become_3 rfl (lv_at hl 1 rfl) ?_
      refine gf_X1_15 X hw ft2 rfl dX1_become_4 ?_
      refine lv_icmp_ge (tgt := 28) X.1 X.2.1 dX1_become_7 (by decide) (fun c7 => ?_) (fun c7 => ?_)
      · refine lv_aload_n X.1 X.2.1 dX1_become_28 rfl (lv_at hl 0 rfl) ?_
        refine lv_aload_n X.1 X.2.1 dX1_become_29 rfl (lv_at hl 1 rfl) ?_
        refine gf_X1_15 X hw ft2 rfl dX1_become_30 ?_
        refine pf_X1_15 X hw ft rfl rfl (Nat.le_of_ble_eq_true rfl) dX1_become_33 (fun H locs hw => ?_)
        obtain ⟨k1, hk1⟩ : ∃ zz, zz = h_cu kk t (some (.inr (1, [.ref (ad u), .int (nI b2.length)]))) := ⟨_, rfl⟩
        have hw := h_W.ren hw hk1
        have f1_t : k1 t = some (.inr (1, [.ref (ad u), .int (nI b2.length)])) := by rw [hk1]; exact h_cs _ _ _
        have f1_u : k1 u = some (.inl (G.2 0, 16, .inl g)) := by rw [hk1, h_cn _ _ (Ne.symm htu)]; exact fu
        have f1_t2 : k1 t2 = some (.inr (1, [.ref (ad u2), .int (nI b2.length)])) := by rw [hk1, h_cn _ _ ht2]; exact ft2
        have f1_u2 : k1 u2 = some (.inl (G.2 0, 16, .inl g2)) := by rw [hk1, h_cn _ _ nut]; exact fu2
        obtain rfl : i = b2.length := Nat.le_antisymm hii (Nat.le_of_not_lt (fun q => absurd c7 (nI_ge q (by omega))))
        exact h_vretW X Y hw ⟨rfl, rfl, ⟨by rw [hk1, h_cs], g, by rw [hk1, h_cn _ _ (Ne.symm htu)]; exact fu, hgg⟩, fun v h1 h2 => by rw [hk1, h_cn _ _ h1, ho v h2]⟩ (Nat.zero_le _) (Nat.zero_le _) dX1_become_36
      · have hib : i < b2.length := Nat.lt_of_not_le (fun q => c7 (nI_le q (by omega)))
        refine lv_aload_n X.1 X.2.1 dX1_become_10 rfl (lv_at hl 0 rfl) ?_
        refine gf_X1_9 X hw ft rfl dX1_become_11 ?_
        refine lv_iload_n X.1 X.2.1 dX1_become_14 rfl (lv_at hl 2 rfl) ?_
        refine lv_aload_n X.1 X.2.1 dX1_become_15 rfl (lv_at hl 1 rfl) ?_
        refine gf_X1_9 X hw ft2 rfl dX1_become_16 ?_
        refine lv_iload_n X.1 X.2.1 dX1_become_19 rfl (lv_at hl 2 rfl) ?_
        refine h_iald X hw fu2 (vp_in_nI (by omega) (by decide)) dX1_become_20 ?_
        refine h_tv (b := .int (b2.getD i 0)) (by rw [nI_clamp (by omega), hgi2 i hib]) ?_
        refine h_iast X hw fu (vp_in_nI (by omega) (by decide)) dX1_become_21 (fun H locs hw => ?_)
        obtain ⟨k1, hk1⟩ : ∃ zz, zz = h_cu kk u (some (.inl (G.2 0, 16, .inl (upd g (nI i).toNatClampNeg (b2.getD i 0))))) := ⟨_, rfl⟩
        have hw := h_W.ren hw hk1
        have f1_t : k1 t = some (.inr (1, [.ref (ad u), .int (nI b.length)])) := by rw [hk1, h_cn _ _ htu]; exact ft
        have f1_u : k1 u = some (.inl (G.2 0, 16, .inl (upd g (nI i).toNatClampNeg (b2.getD i 0)))) := by rw [hk1]; exact h_cs _ _ _
        have f1_t2 : k1 t2 = some (.inr (1, [.ref (ad u2), .int (nI b2.length)])) := by rw [hk1, h_cn _ _ htu2]; exact ft2
        have f1_u2 : k1 u2 = some (.inl (G.2 0, 16, .inl g2)) := by rw [hk1, h_cn _ _ hu2]; exact fu2
        refine lv_iinc (v := nI (i + 1)) (lv' := [(2, .int (nI (i + 1))), (0, .ref (ad t)), (1, .ref (ad t2))]) X.1 X.2.1 dX1_become_22 hl (k := 2) rfl (nI_1 _) (by decide) rfl (fun ls hl => ?_)
        refine lv_goto (tgt := 2) X.1 X.2.1 dX1_become_25 (by decide) ?_
        exact ih (i + 1) (by omega) (by omega) k1 _ _ _ f1_u (fun v hv => by rw [hk1, h_cn _ _ hv, ho v hv]) (fun j hj => by
            rw [nI_clamp (by omega)]
            by_cases hji : j = i
            · subst hji; rw [pk_us]
            · rw [pk_un hji]; exact hgg j (by omega)) hw ls (lv_sub hl [1, 2, 0] rfl)
  refine lv_iconst (v := 0) X.1 X.2.1 dX1_become_0 (by decide) ?_
  refine lv_istore_n (lv' := [(2, .int 0), (0, .ref (ad t)), (1, .ref (ad t2))]) X.1 X.2.1 dX1_become_1 rfl hl (by decide) rfl (fun ls hl => ?_)
  exact loop (b2.length + 1) 0 (by omega) (by omega) k g1 _ _ hg1 (fun _ _ => rfl) (fun j hj => absurd hj (Nat.not_lt_zero j)) hw ls (lv_sub hl [1, 2, 0] rfl)
set_option maxHeartbeats 4000000 in
set_option maxRecDepth 100000 in
/-- Row.twin: a new row of the same bytes -/
theorem c_X1_twin (l : Launch) (G : h_G) {ad : h_T → Nat} {k : h_C} {t u t2 u2 : h_T} {b : List Int32} (hb : x_row G ad k t u b) (hlen : b.length ≤ 16) (htu : t ≠ u) (h2 : k t2 = none) (hu2 : k u2 = none) (htu2 : t2 ≠ u2)  : h_Wr l yX1_twin cX1_twin 2 (some (.object "CopyPolls$Row")) 2 32 2 18 G ad k [.ref (ad t)] (fun r ad' k' => r = some (.ref (ad' t2)) ∧ x_row G ad' k' t2 u2 b ∧ ∀ v : h_T, v ≠ t2 → v ≠ u2 → k' v = k v ∧ ad' v = ad v) := by
  refine h_wr (by decide +kernel) (Nat.le_of_ble_eq_true rfl) ?_
  intro p e s m args below meth c X Y hw ls hl
  have hl : lv_has ls 2 [(0, .ref (ad t))] := hl
  obtain ⟨hr1, g1, hg1, hgi1⟩ := id hb
  have nt : t ≠ t2 := fun e => by rw [e, h2] at hr1; cases hr1
  have ntu : t ≠ u2 := fun e => by rw [e, hu2] at hr1; cases hr1
  have nu : u ≠ t2 := fun e => by rw [e, h2] at hg1; cases hg1
  have nuu : u ≠ u2 := fun e => by rw [e, hu2] at hg1; cases hg1
  refine h_new X hw t2 h2 (ci := 1) rfl in_X1 tyX1 tyX1_ok wk_X1_10 wa_X1 wn_X1 (fs := [.null, .int 0]) (fun j hj => by rcases (show j = 0 ∨ j = 1 by omega) with rfl | rfl <;> rfl) (Nat.le_of_ble_eq_true rfl) (Nat.le_of_ble_eq_true rfl) dX1_twin_0 (fun q H hw => ?_)
  obtain ⟨k1, hk1⟩ : ∃ zz, zz = h_cu k t2 (some (.inr (1, [.null, .int 0]))) := ⟨_, rfl⟩
  obtain ⟨ad1, had1⟩ : ∃ zz, zz = h_au ad t2 q := ⟨_, rfl⟩
  replace hw := (hw.ren hk1).renA had1
  obtain rfl : q = ad1 t2 := by rw [had1, h_as]
  have ea1_0 : ad t = ad1 t := by rw [had1, h_an _ _ nt]
  have ea1_1 : ad u = ad1 u := by rw [had1, h_an _ _ nu]
  simp only [ea1_0, ea1_1] at hl
  have f1_t : k1 t = some (.inr (1, [.ref (ad1 u), .int (nI b.length)])) := by rw [hk1, h_cn _ _ nt, hr1]; simp only [ea1_0, ea1_1]
  have f1_u : k1 u = some (.inl (G.2 0, 16, .inl g1)) := by rw [hk1, h_cn _ _ nu, hg1]
  have f1_t2 : k1 t2 = some (.inr (1, [.null, .int 0])) := by rw [hk1]; exact h_cs _ _ _
  refine lv_dup X.1 X.2.1 dX1_twin_3 rfl ?_
  refine h_callWI (t := t2) (As := []) (rest := [.ref (ad1 t2)]) X hw cs_X1_19 (c_X1_init l G (t := t2) (u := u2) f1_t2 (by rw [hk1, h_cn _ _ (Ne.symm htu2)]; exact hu2) htu2) rfl hl.1 rfl (Nat.le_of_ble_eq_true rfl) ⟨by decide, by decide⟩ ⟨(Nat.le_of_ble_eq_true rfl), (Nat.le_of_ble_eq_true rfl)⟩ dX1_twin_4 (fun r9 ad2 k2 H locs hp9 hw => ?_)
  obtain ⟨rfl, hr2, ha2, ho2⟩ := hp9
  refine W.eq (g2 := F0 m 7 ls [.ref (ad1 t2)]) rfl ?_
  have eb2_0 : ad1 t = ad2 t := ((ho2 t nt ntu).2).symm
  have eb2_1 : ad1 t2 = ad2 t2 := (ha2).symm
  have eb2_2 : ad1 u = ad2 u := ((ho2 u nu nuu).2).symm
  simp only [eb2_0, eb2_1, eb2_2] at hl
  simp only [eb2_0, eb2_1, eb2_2]
  have f2_t : k2 t = some (.inr (1, [.ref (ad2 u), .int (nI b.length)])) := by rw [(ho2 t nt ntu).1, f1_t]; simp only [eb2_0, eb2_1, eb2_2]
  have f2_u : k2 u = some (.inl (G.2 0, 16, .inl g1)) := by rw [(ho2 u nu nuu).1, f1_u]
  refine lv_astore_n (lv' := [(1, .ref (ad2 t2)), (0, .ref (ad2 t))]) X.1 X.2.1 dX1_twin_7 rfl hl (by decide) rfl (fun ls hl => ?_)
  refine lv_aload_n X.1 X.2.1 dX1_twin_8 rfl (lv_at hl 0 rfl) ?_
  refine lv_aload_n X.1 X.2.1 dX1_twin_9 rfl (lv_at hl 1 rfl) ?_
  refine h_callWV (t := t2) (As := [.ref (ad2 t)]) (rest := []) X hw cs_X1_20 (c_X1_become l G hr2 (⟨f2_t, g1, f2_u, hgi1⟩ : x_row G ad2 k2 t u b) hlen htu2 nt nuu ntu) hr2.1 rfl rfl hl.1 rfl (Nat.le_of_ble_eq_true rfl) ⟨by decide, by decide⟩ ⟨(Nat.le_of_ble_eq_true rfl), (Nat.le_of_ble_eq_true rfl)⟩ dX1_twin_10 (fun r9 ad3 k3 H locs hp9 hw => ?_)
  obtain ⟨rfl, ea3, hr3, ho3⟩ := hp9
  refine W.eq (g2 := F0 m 13 ls []) rfl ?_
  replace hw := hw.renA ea3.symm
  have f3_t : k3 t = some (.inr (1, [.ref (ad2 u), .int (nI b.length)])) := by rw [ho3 t nt ntu, f2_t]
  have f3_u : k3 u = some (.inl (G.2 0, 16, .inl g1)) := by rw [ho3 u nu nuu, f2_u]
  refine lv_aload_n X.1 X.2.1 dX1_twin_13 rfl (lv_at hl 0 rfl) ?_
  refine h_aretW (o := some (ad2 t2)) X Y hw ⟨rfl, hr3, fun v h1 h3 => ?_⟩ (Nat.le_of_ble_eq_true rfl) (Nat.le_of_ble_eq_true rfl) dX1_twin_14
  exact ⟨by rw [ho3 v h1 h3, (ho2 v h1 h3).1, hk1, h_cn _ _ h1], by rw [(ho2 v h1 h3).2, had1, h_an _ _ h1]⟩
end
section
/-- what is collected is another row -/
theorem RX.setCol {G : h_G} {ad : h_T → Nat} {k k' : h_C} {σ : S_t} (h : RX G ad k σ) {b : List Int32} (hl : b.length ≤ 16) (hk : x_row G ad k' (3, 0, 0) (3, 1, 0) b) (ho : ∀ t : h_T, t ≠ (3, 0, 0) → t ≠ (3, 1, 0) → k' t = k t) : RX G ad k' (s_setCol σ b) := by
  obtain ⟨g0, g1, g2, g3, g4, g5, g6, ⟨g, g7⟩, ⟨a0, a1, a2, b0, b1, b2, b3⟩, ok1, ok2, ok3, ok4, ok⟩ := h
  exact ⟨(ho _ (by simp) (by simp)).trans g0, (ho _ (by simp) (by simp)).trans g1, fun i hi => (ho _ (by simp) (by simp)).trans (g2 i hi), (ho _ (by simp) (by simp)).trans g3, fun f hf => ⟨(ho _ (by simp) (by simp)).trans (g4 f hf).1, (ho _ (by simp) (by simp)).trans (g4 f hf).2⟩, fun a f b hb => (g5 a f b hb).congr (ho _ (by simp) (by simp)) (ho _ (by simp) (by simp)) rfl, hk, ⟨g, (ho _ (by simp) (by simp)).trans g7⟩, ⟨a0, a1, a2, (ho _ (by simp) (by simp)).trans b0, (ho _ (by simp) (by simp)).trans b1, (ho _ (by simp) (by simp)).trans b2, b3⟩, ok1, ok2, ok3, hl, ok⟩
theorem s_setCol_self (σ : S_t) : s_setCol σ (s_col σ) = σ := rfl
set_option maxHeartbeats 4000000 in
set_option maxRecDepth 100000 in
/-- octet -/
theorem c_X3_octet (l : Launch) (G : h_G) {ad : h_T → Nat} {k : h_C} {σ : S_t} (hR : RX G ad k σ) (x : Int32) : h_Wr l yX3_octet cX3_octet 2 none 1 21 0 0 G ad k [.ref (ad (0, 0, 0)), .int x] (XPost G ad k none (sp_octet σ x)) := by
  refine h_wr (by decide +kernel) (Nat.le_of_ble_eq_true rfl) ?_
  intro p e s m args below meth c X Y hw ls hl
  have hl : lv_has ls 2 [(0, .ref (ad (0, 0, 0))), (1, .int x)] := hl
  have hok := hR.ok
  obtain ⟨hx, hs, hst, hi, hit, hcp, hcol, hmx, hask, -⟩ := id hR
  have hx : k (0, 0, 0) = some (.inr (3, [.int (nI (s_cop σ)), .ref (ad (1, 0, 0)), .int (nI (s_nS σ)), .ref (ad (2, 0, 0)), .int (nI (s_nF σ)), .ref (ad (3, 0, 0)), .ref (ad (4, 0, 0)), .ref (ad (5, 0, 0)), .ref (ad (5, 1, 0)), .ref (ad (5, 2, 0)), .int (nI (s_as σ).length), .int (s_dg σ)])) := hx
  have hnS : s_nS σ ≤ 10 := hok.2.1
  have hnF : s_nF σ ≤ 40 := hok.2.2.1
  refine lv_aload_n X.1 X.2.1 dX3_octet_0 rfl (lv_at hl 0 rfl) ?_
  refine gf_X3_31 X hw hx rfl dX3_octet_1 ?_
  refine lv_iload_n X.1 X.2.1 dX3_octet_4 rfl (lv_at hl 1 rfl) ?_
  refine h_callWV (t := (3, 0, 0)) (As := [.int x]) (rest := []) X hw cs_X3_73 (c_X1_append l G hcol hok.2.2.2.1 (by simp) x) hcol.1 rfl rfl hl.1 rfl (Nat.le_of_ble_eq_true rfl) ⟨by decide, by decide⟩ ⟨(Nat.le_of_ble_eq_true rfl), (Nat.le_of_ble_eq_true rfl)⟩ dX3_octet_5 (fun r9 ad1 k1 H locs hp9 hw => ?_)
  obtain ⟨rfl, ea1, hr1, ho1⟩ := hp9
  refine W.eq (g2 := F0 m 8 ls []) rfl ?_
  replace hw := hw.renA ea1.symm
  have f1_0_0_0 : k1 (0, 0, 0) = some (.inr (3, [.int (nI (s_cop σ)), .ref (ad (1, 0, 0)), .int (nI (s_nS σ)), .ref (ad (2, 0, 0)), .int (nI (s_nF σ)), .ref (ad (3, 0, 0)), .ref (ad (4, 0, 0)), .ref (ad (5, 0, 0)), .ref (ad (5, 1, 0)), .ref (ad (5, 2, 0)), .int (nI (s_as σ).length), .int (s_dg σ)])) := by rw [ho1 (0, 0, 0) (by simp) (by simp), hx]
  have hτ : sp_octet σ x = s_setCol σ (if (s_col σ).length < 16 then s_col σ ++ [x &&& 255] else s_col σ) := by
    unfold sp_octet
    split
    · rfl
    · rfl
  rw [hτ]
  exact h_vretW X Y hw ⟨rfl, hR.setCol (by
    have := hok.2.2.2.1
    split
    · rw [List.length_append]; simp; omega
    · exact this) hr1 (fun t h1 h2 => ho1 t h1 h2), fun t ht => ⟨ho1 t (t20 ht (Nat.le_of_ble_eq_true rfl)) (t20 ht (Nat.le_of_ble_eq_true rfl)), rfl⟩, rfl⟩ (Nat.zero_le _) (Nat.zero_le _) dX3_octet_8
/-- a store more -/
theorem RX.addStore {G : h_G} {ad ad' : h_T → Nat} {k k' : h_C} {σ : S_t} (h : RX G ad k σ) (x : Int32) (h10 : s_nS σ < 10) (hk0 : k' (0, 0, 0) = some (.inr (3, x_obj ad' (s_addS σ x)))) (hk1 : k' (1, 0, 0) = some (.inl (G.2 6, 10, x_refs (va_up (x_sto ad σ) (s_nS σ) (some (ad' (6, s_nS σ, 0))))))) (hk6 : k' (6, s_nS σ, 0) = some (.inr (2, [.int x, .int 1, .int 0, .int 0]))) (ho : ∀ t : h_T, t ≠ (0, 0, 0) → t ≠ (1, 0, 0) → t ≠ (6, s_nS σ, 0) → k' t = k t) (ha : ∀ t : h_T, t ≠ (6, s_nS σ, 0) → ad' t = ad t) : RX G ad' k' (s_addS σ x) := by
  obtain ⟨g0, g1, g2, g3, g4, g5, g6, ⟨g, g7⟩, ⟨a0, a1, a2, b0, b1, b2, b3⟩, ok1, ok2, ok3, ok4, ok5, ok6, ok7, ok8, ok9⟩ := h
  have o : ∀ t : h_T, t ≠ (0, 0, 0) → t ≠ (1, 0, 0) → t ≠ (6, s_nS σ, 0) → k' t = k t ∧ ad' t = ad t := fun t h1 h2 h3 => ⟨ho t h1 h2 h3, ha t h3⟩
  refine ⟨hk0, ?_, fun i hi => ?_, ?_, fun f hf => ⟨?_, ?_⟩, fun a f b hb => (g5 a f b hb).congr (ho _ (by simp) (by simp) (by simp)) (ho _ (by simp) (by simp) (by simp)) (ha _ (by simp)), g6.congr (ho _ (by simp) (by simp) (by simp)) (ho _ (by simp) (by simp) (by simp)) (ha _ (by simp)), ⟨g, (ho _ (by simp) (by simp) (by simp)).trans g7⟩, ⟨a0, a1, a2, (ho _ (by simp) (by simp) (by simp)).trans b0, (ho _ (by simp) (by simp) (by simp)).trans b1, (ho _ (by simp) (by simp) (by simp)).trans b2, b3⟩, ok1, ?_, ok3, ok4, ok5, fun a f hf => ?_, ok7, fun i hi => ?_, ok9⟩
  · rw [hk1]
    have : x_sto ad' (s_addS σ x) = va_up (x_sto ad σ) (s_nS σ) (some (ad' (6, s_nS σ, 0))) := by
      funext i
      show (if i < s_nS σ + 1 then _ else _) = _
      by_cases hi : i = s_nS σ
      · subst hi
        rw [va_up_self, if_pos (Nat.lt_succ_self _)]
      · rw [va_up_ne _ _ hi]
        unfold x_sto
        by_cases h2 : i < s_nS σ
        · rw [if_pos (by omega), if_pos h2, ha _ (by simp [hi])]
        · rw [if_neg (by omega), if_neg h2]
    rw [this]
  · have hi : i < s_nS σ + 1 := hi
    by_cases his : i = s_nS σ
    · subst his
      show k' (6, s_nS σ, 0) = some (.inr (2, [.int (upd (s_pl σ) (s_nS σ) x (s_nS σ)), .int (bI (!s_si σ (s_nS σ))), .int (s_up σ (s_nS σ)), .int (s_dn σ (s_nS σ))]))
      obtain ⟨e1, e2, e3⟩ := ok8 (s_nS σ) (Nat.le_refl _)
      rw [hk6, pk_us, e1, e2, e3]
      rfl
    · have := g2 i (by omega)
      unfold x_st at this
      show k' (6, i, 0) = some (.inr (2, [.int (upd (s_pl σ) (s_nS σ) x i), .int (bI (!s_si σ i)), .int (s_up σ i), .int (s_dn σ i)]))
      rw [ho _ (by simp) (by simp) (by simp [his]), this, pk_un his]
  · rw [ho _ (by simp) (by simp) (by simp), g3]
    have : x_ite ad' (s_addS σ x) = x_ite ad σ := by
      funext i
      unfold x_ite
      show (if i < s_nF σ then some (ad' (7, i, 0)) else none) = _
      rw [ha _ (by simp)]
    rw [this]
  · rw [ho _ (by simp) (by simp) (by simp), (g4 f hf).1, ha _ (by simp)]
    rfl
  · rw [ho _ (by simp) (by simp) (by simp), (g4 f hf).2]
    have : x_rws ad' (s_addS σ x) f = x_rws ad σ f := by
      funext a
      unfold x_rws
      show (s_cp σ a f).map (fun _ => ad' (9, a, f)) = _
      rw [ha _ (by simp)]
    rw [this]
  · show s_nS σ + 1 ≤ 10
    omega
  · exact ok6 a f (by
      rcases hf with hf | hf
      · exact Or.inl (by have : s_nS σ + 1 ≤ a := hf; omega)
      · exact Or.inr hf)
  · exact ok8 i (by have : s_nS σ + 1 ≤ i := hi; omega)
set_option maxHeartbeats 4000000 in
set_option maxRecDepth 100000 in
/-- store -/
theorem c_X3_store (l : Launch) (G : h_G) {ad : h_T → Nat} {k : h_C} {σ : S_t} (hR : RX G ad k σ) (x : Int32) : h_Wr l yX3_store cX3_store 2 (some .int) 2 33 1 4 G ad k [.ref (ad (0, 0, 0)), .int x] (XPost G ad k (some (.int (sp_store σ x).1)) (sp_store σ x).2) := by
  refine h_wr (by decide +kernel) (Nat.le_of_ble_eq_true rfl) ?_
  intro p e s m args below meth c X Y hw ls hl
  have hl : lv_has ls 2 [(0, .ref (ad (0, 0, 0))), (1, .int x)] := hl
  have hok := hR.ok
  obtain ⟨hx, hs, hst, hi, hit, hcp, hcol, hmx, hask, -⟩ := id hR
  have hx : k (0, 0, 0) = some (.inr (3, [.int (nI (s_cop σ)), .ref (ad (1, 0, 0)), .int (nI (s_nS σ)), .ref (ad (2, 0, 0)), .int (nI (s_nF σ)), .ref (ad (3, 0, 0)), .ref (ad (4, 0, 0)), .ref (ad (5, 0, 0)), .ref (ad (5, 1, 0)), .ref (ad (5, 2, 0)), .int (nI (s_as σ).length), .int (s_dg σ)])) := hx
  have hnS : s_nS σ ≤ 10 := hok.2.1
  have hnF : s_nF σ ≤ 40 := hok.2.2.1
  unfold sp_store
  rcases ix_cases x (n := 10) (by omega) with ⟨e0, h0⟩ | ⟨e0, h0, h1⟩ | ⟨j, hj, rfl, e0⟩
  · rw [e0]
    rw [if_pos (show (none : Option Nat).isNone = true from rfl)]
    refine lv_iload_n X.1 X.2.1 dX3_store_0 rfl (lv_at hl 1 rfl) ?_
    refine lv_if_lt (tgt := 10) X.1 X.2.1 dX3_store_1 (by decide) (fun c1 => ?_) (fun c1 => ?_)
    · refine lv_bipush (v := (-2)) X.1 X.2.1 dX3_store_10 (by decide) ?_
      exact h_iretW (v := -2) X Y hw ⟨rfl, hR, fun _ _ => ⟨rfl, rfl⟩, rfl⟩ (Nat.zero_le _) (Nat.zero_le _) dX3_store_12
    · exact absurd h0 c1
  · rw [e0]
    rw [if_pos (show (none : Option Nat).isNone = true from rfl)]
    refine lv_iload_n X.1 X.2.1 dX3_store_0 rfl (lv_at hl 1 rfl) ?_
    refine lv_if_lt (tgt := 10) X.1 X.2.1 dX3_store_1 (by decide) (fun c1 => ?_) (fun c1 => ?_)
    · exact absurd c1 h0
    · refine lv_iload_n X.1 X.2.1 dX3_store_4 rfl (lv_at hl 1 rfl) ?_
      refine lv_bipush (v := 10) X.1 X.2.1 dX3_store_5 (by decide) ?_
      refine lv_icmp_lt (tgt := 13) X.1 X.2.1 dX3_store_7 (by decide) (fun c7 => ?_) (fun c7 => ?_)
      · exact absurd c7 (Int32.not_lt.mpr h1)
      · refine lv_bipush (v := (-2)) X.1 X.2.1 dX3_store_10 (by decide) ?_
        exact h_iretW (v := -2) X Y hw ⟨rfl, hR, fun _ _ => ⟨rfl, rfl⟩, rfl⟩ (Nat.zero_le _) (Nat.zero_le _) dX3_store_12
  · rw [e0]
    rw [if_neg (show ¬ (some j : Option Nat).isNone = true from fun q => by cases q)]
    rcases hc : ff (fun s => decide (s_pl σ s = nI j)) (s_nS σ) with _ | q0
    rotate_left
    · rw [if_pos (show (some q0 : Option Nat).isSome = true from rfl)]
      refine lv_iload_n X.1 X.2.1 dX3_store_0 rfl (lv_at hl 1 rfl) ?_
      refine lv_if_lt (tgt := 10) X.1 X.2.1 dX3_store_1 (by decide) (fun c1 => ?_) (fun c1 => ?_)
      · exact absurd c1 (nI_pos (by omega))
      · refine lv_iload_n X.1 X.2.1 dX3_store_4 rfl (lv_at hl 1 rfl) ?_
        refine lv_bipush (v := 10) X.1 X.2.1 dX3_store_5 (by decide) ?_
        refine lv_icmp_lt (tgt := 13) X.1 X.2.1 dX3_store_7 (by decide) (fun c7 => ?_) (fun c7 => ?_)
        · refine lv_aload_n X.1 X.2.1 dX3_store_13 rfl (lv_at hl 0 rfl) ?_
          refine lv_iload_n X.1 X.2.1 dX3_store_14 rfl (lv_at hl 1 rfl) ?_
          refine h_callRV (t := (0, 0, 0)) (As := [.int (nI j)]) (rest := []) X hw cs_X3_66 (c_X3_isTaken l G hR (nI j)) hx rfl rfl hl.1 rfl (Nat.le_of_ble_eq_true rfl) ⟨by decide, by decide⟩ ⟨Nat.zero_le _, Nat.zero_le _⟩ dX3_store_15 ?_
          refine h_tv (b := .int 1) (by rw [hc]; rfl) ?_
          refine lv_if_eq (tgt := 24) X.1 X.2.1 dX3_store_18 (by decide) (fun c18 => ?_) (fun c18 => ?_)
          · exact absurd c18 (by decide)
          · refine lv_bipush (v := (-3)) X.1 X.2.1 dX3_store_21 (by decide) ?_
            exact h_iretW (v := -3) X Y hw ⟨rfl, hR, fun _ _ => ⟨rfl, rfl⟩, rfl⟩ (Nat.zero_le _) (Nat.zero_le _) dX3_store_23
        · exact absurd (nI_lt (b := 10) hj (by omega)) c7
    · rw [if_neg (show ¬ (none : Option Nat).isSome = true from fun q => by cases q)]
      by_cases h10 : 10 ≤ s_nS σ
      · rw [if_pos h10]
        refine lv_iload_n X.1 X.2.1 dX3_store_0 rfl (lv_at hl 1 rfl) ?_
        refine lv_if_lt (tgt := 10) X.1 X.2.1 dX3_store_1 (by decide) (fun c1 => ?_) (fun c1 => ?_)
        · exact absurd c1 (nI_pos (by omega))
        · refine lv_iload_n X.1 X.2.1 dX3_store_4 rfl (lv_at hl 1 rfl) ?_
          refine lv_bipush (v := 10) X.1 X.2.1 dX3_store_5 (by decide) ?_
          refine lv_icmp_lt (tgt := 13) X.1 X.2.1 dX3_store_7 (by decide) (fun c7 => ?_) (fun c7 => ?_)
          · refine lv_aload_n X.1 X.2.1 dX3_store_13 rfl (lv_at hl 0 rfl) ?_
            refine lv_iload_n X.1 X.2.1 dX3_store_14 rfl (lv_at hl 1 rfl) ?_
            refine h_callRV (t := (0, 0, 0)) (As := [.int (nI j)]) (rest := []) X hw cs_X3_66 (c_X3_isTaken l G hR (nI j)) hx rfl rfl hl.1 rfl (Nat.le_of_ble_eq_true rfl) ⟨by decide, by decide⟩ ⟨Nat.zero_le _, Nat.zero_le _⟩ dX3_store_15 ?_
            refine h_tv (b := .int 0) (by rw [hc]; rfl) ?_
            refine lv_if_eq (tgt := 24) X.1 X.2.1 dX3_store_18 (by decide) (fun c18 => ?_) (fun c18 => ?_)
            · refine lv_aload_n X.1 X.2.1 dX3_store_24 rfl (lv_at hl 0 rfl) ?_
              refine gf_X3_15 X hw hx rfl dX3_store_25 ?_
              refine lv_bipush (v := 10) X.1 X.2.1 dX3_store_28 (by decide) ?_
              refine lv_icmp_lt (tgt := 36) X.1 X.2.1 dX3_store_30 (by decide) (fun c30 => ?_) (fun c30 => ?_)
              · exact absurd c30 (nI_nlt (b := 10) h10 (by omega))
              · refine lv_bipush (v := (-4)) X.1 X.2.1 dX3_store_33 (by decide) ?_
                exact h_iretW (v := -4) X Y hw ⟨rfl, hR, fun _ _ => ⟨rfl, rfl⟩, rfl⟩ (Nat.zero_le _) (Nat.zero_le _) dX3_store_35
            · exact absurd (by decide) c18
          · exact absurd (nI_lt (b := 10) hj (by omega)) c7
      · rw [if_neg h10]
        refine lv_iload_n X.1 X.2.1 dX3_store_0 rfl (lv_at hl 1 rfl) ?_
        refine lv_if_lt (tgt := 10) X.1 X.2.1 dX3_store_1 (by decide) (fun c1 => ?_) (fun c1 => ?_)
        · exact absurd c1 (nI_pos (by omega))
        · refine lv_iload_n X.1 X.2.1 dX3_store_4 rfl (lv_at hl 1 rfl) ?_
          refine lv_bipush (v := 10) X.1 X.2.1 dX3_store_5 (by decide) ?_
          refine lv_icmp_lt (tgt := 13) X.1 X.2.1 dX3_store_7 (by decide) (fun c7 => ?_) (fun c7 => ?_)
          · refine lv_aload_n X.1 X.2.1 dX3_store_13 rfl (lv_at hl 0 rfl) ?_
            refine lv_iload_n X.1 X.2.1 dX3_store_14 rfl (lv_at hl 1 rfl) ?_
            refine h_callRV (t := (0, 0, 0)) (As := [.int (nI j)]) (rest := []) X hw cs_X3_66 (c_X3_isTaken l G hR (nI j)) hx rfl rfl hl.1 rfl (Nat.le_of_ble_eq_true rfl) ⟨by decide, by decide⟩ ⟨Nat.zero_le _, Nat.zero_le _⟩ dX3_store_15 ?_
            refine h_tv (b := .int 0) (by rw [hc]; rfl) ?_
            refine lv_if_eq (tgt := 24) X.1 X.2.1 dX3_store_18 (by decide) (fun c18 => ?_) (fun c18 => ?_)
            · refine lv_aload_n X.1 X.2.1 dX3_store_24 rfl (lv_at hl 0 rfl) ?_
              refine gf_X3_15 X hw hx rfl dX3_store_25 ?_
              refine lv_bipush (v := 10) X.1 X.2.1 dX3_store_28 (by decide) ?_
              refine lv_icmp_lt (tgt := 36) X.1 X.2.1 dX3_store_30 (by decide) (fun c30 => ?_) (fun c30 => ?_)
              · obtain ⟨k0, hk0⟩ : ∃ zz, zz = h_cu k (6, s_nS σ, 0) none := ⟨_, rfl⟩
                replace hw := (hw.drop (6, s_nS σ, 0)).ren hk0
                have f0_0_0_0 : k0 (0, 0, 0) = some (.inr (3, [.int (nI (s_cop σ)), .ref (ad (1, 0, 0)), .int (nI (s_nS σ)), .ref (ad (2, 0, 0)), .int (nI (s_nF σ)), .ref (ad (3, 0, 0)), .ref (ad (4, 0, 0)), .ref (ad (5, 0, 0)), .ref (ad (5, 1, 0)), .ref (ad (5, 2, 0)), .int (nI (s_as σ).length), .int (s_dg σ)])) := by rw [hk0, h_cn _ _ (by simp)]; exact hx
                have f0_1_0_0 : k0 (1, 0, 0) = some (.inl (G.2 6, 10, x_refs (x_sto ad σ))) := by rw [hk0, h_cn _ _ (by simp)]; exact hs
                refine lv_aload_n X.1 X.2.1 dX3_store_36 rfl (lv_at hl 0 rfl) ?_
                refine gf_X3_11 X hw f0_0_0_0 rfl dX3_store_37 ?_
                refine lv_aload_n X.1 X.2.1 dX3_store_40 rfl (lv_at hl 0 rfl) ?_
                refine gf_X3_15 X hw f0_0_0_0 rfl dX3_store_41 ?_
                refine h_new X hw (6, s_nS σ, 0) (by rw [hk0]; exact h_cs _ _ _) (ci := 2) rfl in_X2 tyX2 tyX2_ok wk_X3_9 wa_X2 wn_X2 (fs := [.int 0, .int 0, .int 0, .int 0]) (fun j hj => by rcases (show j = 0 ∨ j = 1 ∨ j = 2 ∨ j = 3 by omega) with rfl | rfl | rfl | rfl <;> rfl) (Nat.le_of_ble_eq_true rfl) (Nat.le_of_ble_eq_true rfl) dX3_store_44 (fun q H hw => ?_)
                obtain ⟨k1, hk1⟩ : ∃ zz, zz = h_cu k0 (6, s_nS σ, 0) (some (.inr (2, [.int 0, .int 0, .int 0, .int 0]))) := ⟨_, rfl⟩
                obtain ⟨ad1, had1⟩ : ∃ zz, zz = h_au ad (6, s_nS σ, 0) q := ⟨_, rfl⟩
                replace hw := (hw.ren hk1).renA had1
                obtain rfl : q = ad1 (6, s_nS σ, 0) := by rw [had1, h_as]
                have ea1_0 : ad (0, 0, 0) = ad1 (0, 0, 0) := by rw [had1, h_an _ _ (by simp)]
                have ea1_1 : ad (1, 0, 0) = ad1 (1, 0, 0) := by rw [had1, h_an _ _ (by simp)]
                have ea1_2 : ad (2, 0, 0) = ad1 (2, 0, 0) := by rw [had1, h_an _ _ (by simp)]
                have ea1_3 : ad (3, 0, 0) = ad1 (3, 0, 0) := by rw [had1, h_an _ _ (by simp)]
                have ea1_4 : ad (4, 0, 0) = ad1 (4, 0, 0) := by rw [had1, h_an _ _ (by simp)]
                have ea1_5 : ad (5, 0, 0) = ad1 (5, 0, 0) := by rw [had1, h_an _ _ (by simp)]
                have ea1_6 : ad (5, 1, 0) = ad1 (5, 1, 0) := by rw [had1, h_an _ _ (by simp)]
                have ea1_7 : ad (5, 2, 0) = ad1 (5, 2, 0) := by rw [had1, h_an _ _ (by simp)]
                simp only [ea1_0, ea1_1, ea1_2, ea1_3, ea1_4, ea1_5, ea1_6, ea1_7] at hl
                simp only [ea1_0, ea1_1, ea1_2, ea1_3, ea1_4, ea1_5, ea1_6, ea1_7]
                have f1_0_0_0 : k1 (0, 0, 0) = some (.inr (3, [.int (nI (s_cop σ)), .ref (ad1 (1, 0, 0)), .int (nI (s_nS σ)), .ref (ad1 (2, 0, 0)), .int (nI (s_nF σ)), .ref (ad1 (3, 0, 0)), .ref (ad1 (4, 0, 0)), .ref (ad1 (5, 0, 0)), .ref (ad1 (5, 1, 0)), .ref (ad1 (5, 2, 0)), .int (nI (s_as σ).length), .int (s_dg σ)])) := by rw [hk1, h_cn _ _ (by simp), f0_0_0_0]; simp only [ea1_0, ea1_1, ea1_2, ea1_3, ea1_4, ea1_5, ea1_6, ea1_7]
                have f1_1_0_0 : k1 (1, 0, 0) = some (.inl (G.2 6, 10, x_refs (x_sto ad σ))) := by rw [hk1, h_cn _ _ (by simp), f0_1_0_0]
                have f1_6_s_nS_σ_0 : k1 (6, s_nS σ, 0) = some (.inr (2, [.int 0, .int 0, .int 0, .int 0])) := by rw [hk1]; exact h_cs _ _ _
                refine lv_dup X.1 X.2.1 dX3_store_47 rfl ?_
                refine lv_iload_n X.1 X.2.1 dX3_store_48 rfl (lv_at hl 1 rfl) ?_
                refine h_callWI (t := (6, s_nS σ, 0)) (As := [.int (nI j)]) (rest := [.ref (ad1 (6, s_nS σ, 0)), .int (nI (s_nS σ)), .ref (ad1 (1, 0, 0))]) X hw cs_X3_70 (c_X2_init l G f1_6_s_nS_σ_0 (nI j)) rfl hl.1 rfl (Nat.le_of_ble_eq_true rfl) ⟨by decide, by decide⟩ ⟨(Nat.le_of_ble_eq_true rfl), (Nat.le_of_ble_eq_true rfl)⟩ dX3_store_49 (fun r9 ad2 k2 H locs hp9 hw => ?_)
                obtain ⟨rfl, ea2, hz2⟩ := hp9
                refine W.eq (g2 := F0 m 52 ls [.ref (ad1 (6, s_nS σ, 0)), .int (nI (s_nS σ)), .ref (ad1 (1, 0, 0))]) rfl ?_
                replace hw := hw.renA ea2.symm
                have f2_0_0_0 : k2 (0, 0, 0) = some (.inr (3, [.int (nI (s_cop σ)), .ref (ad1 (1, 0, 0)), .int (nI (s_nS σ)), .ref (ad1 (2, 0, 0)), .int (nI (s_nF σ)), .ref (ad1 (3, 0, 0)), .ref (ad1 (4, 0, 0)), .ref (ad1 (5, 0, 0)), .ref (ad1 (5, 1, 0)), .ref (ad1 (5, 2, 0)), .int (nI (s_as σ).length), .int (s_dg σ)])) := by rw [(by rw [hz2, h_cn _ _ (by simp)] : k2 (0, 0, 0) = k1 (0, 0, 0)), f1_0_0_0]
                have f2_1_0_0 : k2 (1, 0, 0) = some (.inl (G.2 6, 10, x_refs (x_sto ad σ))) := by rw [(by rw [hz2, h_cn _ _ (by simp)] : k2 (1, 0, 0) = k1 (1, 0, 0)), f1_1_0_0]
                refine h_aast (u := (6, s_nS σ, 0)) X hw 6 2 rfl f2_1_0_0 (by rw [hz2]; exact h_cs _ _ _) rfl (vp_in_nI (by omega) (by decide)) dX3_store_52 (fun H locs hw => ?_)
                obtain ⟨k3, hk3⟩ : ∃ zz, zz = h_cu k2 (1, 0, 0) (some (.inl (G.2 6, 10, x_refs (va_up (x_sto ad σ) (nI (s_nS σ)).toNatClampNeg (some (ad1 (6, s_nS σ, 0))))))) := ⟨_, rfl⟩
                have hw := h_W.ren hw hk3
                have f3_0_0_0 : k3 (0, 0, 0) = some (.inr (3, [.int (nI (s_cop σ)), .ref (ad1 (1, 0, 0)), .int (nI (s_nS σ)), .ref (ad1 (2, 0, 0)), .int (nI (s_nF σ)), .ref (ad1 (3, 0, 0)), .ref (ad1 (4, 0, 0)), .ref (ad1 (5, 0, 0)), .ref (ad1 (5, 1, 0)), .ref (ad1 (5, 2, 0)), .int (nI (s_as σ).length), .int (s_dg σ)])) := by rw [hk3, h_cn _ _ (by simp)]; exact f2_0_0_0
                have f3_1_0_0 : k3 (1, 0, 0) = some (.inl (G.2 6, 10, x_refs (va_up (x_sto ad σ) (nI (s_nS σ)).toNatClampNeg (some (ad1 (6, s_nS σ, 0)))))) := by rw [hk3]; exact h_cs _ _ _
                have f3_6_s_nS_σ_0 : k3 (6, s_nS σ, 0) = some (.inr (2, [.int (nI j), .int 1, .int 0, .int 0])) := by rw [hk3, h_cn _ _ (by simp)]; exact (by rw [hz2]; exact h_cs _ _ _)
                refine lv_aload_n X.1 X.2.1 dX3_store_53 rfl (lv_at hl 0 rfl) ?_
                refine lv_dup X.1 X.2.1 dX3_store_54 rfl ?_
                refine gf_X3_15 X hw f3_0_0_0 rfl dX3_store_55 ?_
                refine lv_iconst (v := 1) X.1 X.2.1 dX3_store_58 (by decide) ?_
                refine lv_iadd X.1 X.2.1 dX3_store_59 ?_
                refine h_ti (b := nI (s_nS σ + 1)) (nI_1 _) ?_
                refine pf_X3_15 X hw f3_0_0_0 rfl rfl (Nat.le_of_ble_eq_true rfl) dX3_store_60 (fun H locs hw => ?_)
                obtain ⟨k4, hk4⟩ : ∃ zz, zz = h_cu k3 (0, 0, 0) (some (.inr (3, [.int (nI (s_cop σ)), .ref (ad1 (1, 0, 0)), .int (nI (s_nS σ + 1)), .ref (ad1 (2, 0, 0)), .int (nI (s_nF σ)), .ref (ad1 (3, 0, 0)), .ref (ad1 (4, 0, 0)), .ref (ad1 (5, 0, 0)), .ref (ad1 (5, 1, 0)), .ref (ad1 (5, 2, 0)), .int (nI (s_as σ).length), .int (s_dg σ)]))) := ⟨_, rfl⟩
                have hw := h_W.ren hw hk4
                have f4_0_0_0 : k4 (0, 0, 0) = some (.inr (3, [.int (nI (s_cop σ)), .ref (ad1 (1, 0, 0)), .int (nI (s_nS σ + 1)), .ref (ad1 (2, 0, 0)), .int (nI (s_nF σ)), .ref (ad1 (3, 0, 0)), .ref (ad1 (4, 0, 0)), .ref (ad1 (5, 0, 0)), .ref (ad1 (5, 1, 0)), .ref (ad1 (5, 2, 0)), .int (nI (s_as σ).length), .int (s_dg σ)])) := by rw [hk4]; exact h_cs _ _ _
                have f4_1_0_0 : k4 (1, 0, 0) = some (.inl (G.2 6, 10, x_refs (va_up (x_sto ad σ) (nI (s_nS σ)).toNatClampNeg (some (ad1 (6, s_nS σ, 0)))))) := by rw [hk4, h_cn _ _ (by simp)]; exact f3_1_0_0
                have f4_6_s_nS_σ_0 : k4 (6, s_nS σ, 0) = some (.inr (2, [.int (nI j), .int 1, .int 0, .int 0])) := by rw [hk4, h_cn _ _ (by simp)]; exact f3_6_s_nS_σ_0
                refine lv_aload_n X.1 X.2.1 dX3_store_63 rfl (lv_at hl 0 rfl) ?_
                refine gf_X3_15 X hw f4_0_0_0 rfl dX3_store_64 ?_
                refine lv_iconst (v := 1) X.1 X.2.1 dX3_store_67 (by decide) ?_
                refine lv_isub X.1 X.2.1 dX3_store_68 ?_
                refine h_ti (b := nI (s_nS σ)) (nI_pred _) ?_
                have hall : ∀ t : h_T, t ≠ (0, 0, 0) → t ≠ (1, 0, 0) → t ≠ (6, s_nS σ, 0) → k4 t = k t := fun t h1 h2 h3 => by rw [hk4, h_cn _ _ h1, hk3, h_cn _ _ h2, hz2, h_cn _ _ h3, hk1, h_cn _ _ h3, hk0, h_cn _ _ h3]
                have haa : ∀ t : h_T, t ≠ (6, s_nS σ, 0) → ad1 t = ad t := fun t h3 => by rw [had1, h_an _ _ h3]
                exact h_iretW (v := nI (s_nS σ)) X Y hw ⟨rfl, hR.addStore (nI j) (by omega) f4_0_0_0 (by rw [f4_1_0_0, nI_clamp (by omega)]) (by rw [hk4, h_cn _ _ (by simp), hk3, h_cn _ _ (by simp), hz2, h_cs]) hall haa, fun t ht => ⟨hall t (t20 ht (Nat.le_of_ble_eq_true rfl)) (t20 ht (Nat.le_of_ble_eq_true rfl)) (t20 ht (Nat.le_of_ble_eq_true rfl)), haa t (t20 ht (Nat.le_of_ble_eq_true rfl))⟩, haa _ (by simp)⟩ (Nat.le_of_ble_eq_true rfl) (Nat.le_of_ble_eq_true rfl) dX3_store_69
              · exact absurd (nI_lt (b := 10) (by omega) (by omega)) c30
            · exact absurd (by decide) c18
          · exact absurd (nI_lt (b := 10) hj (by omega)) c7
end
section
/-! ===== mending and filling in mathematical words ===== -/
def s_oth (σ : S_t) (f : Nat) (d : Int32) : Nat → Bool := fun a => match s_cnt σ a f with
  | some l => decide (¬ dgL l = d)
  | none => false
/-- the first n stores' copies of f are mended by b -/
def s_mendN (σ : S_t) (f : Nat) (b : List Int32) (n : Nat) : S_t := (σ.1, σ.2.1, (s_pk σ, s_rn σ, fun a g => if g = f ∧ a < n ∧ s_oth σ f (dgL b) a = true then some b else s_cp σ a g), σ.2.2.2)
theorem mendN_cp (σ : S_t) (f : Nat) (b : List Int32) (n a g : Nat) : s_cp (s_mendN σ f b n) a g = if g = f ∧ a < n ∧ s_oth σ f (dgL b) a = true then some b else s_cp σ a g := rfl
theorem s_ext {σ τ : S_t} (h1 : τ.1 = σ.1) (h2 : τ.2.1 = σ.2.1) (h3 : s_pk τ = s_pk σ) (h4 : s_rn τ = s_rn σ) (h5 : ∀ a g, s_cp τ a g = s_cp σ a g) (h6 : τ.2.2.2 = σ.2.2.2) : τ = σ := by
  obtain ⟨a, b, ⟨c, d, e⟩, x⟩ := τ
  obtain ⟨a', b', ⟨c', d', e'⟩, x'⟩ := σ
  cases h1
  cases h2
  cases h3
  cases h4
  cases h6
  have : e = e' := funext fun i => funext fun j => h5 i j
  rw [this]
theorem mendN_0 (σ : S_t) (f : Nat) (b : List Int32) : s_mendN σ f b 0 = σ := s_ext rfl rfl rfl rfl (fun a g => by
  rw [mendN_cp, if_neg (fun h => Nat.not_lt_zero a h.2.1)]) rfl
theorem mendN_t {σ : S_t} {f : Nat} {b : List Int32} {n : Nat} (h : s_oth σ f (dgL b) n = true) : s_mendN σ f b (n + 1) = s_setCp (s_mendN σ f b n) n f (some b) := s_ext rfl rfl rfl rfl (fun a g => by
  rw [mendN_cp]
  show _ = s_c2 (s_cp (s_mendN σ f b n)) n f (some b) a g
  by_cases hz : a = n ∧ g = f
  · obtain ⟨rfl, rfl⟩ := hz
    rw [s_c2_s, if_pos ⟨rfl, Nat.lt_succ_self _, h⟩]
  · rw [s_c2_n hz, mendN_cp]
    by_cases h1 : g = f ∧ a < n ∧ s_oth σ f (dgL b) a = true
    · rw [if_pos h1, if_pos ⟨h1.1, by omega, h1.2.2⟩]
    · rw [if_neg h1, if_neg (fun h2 => h1 ⟨h2.1, by
        have : a ≠ n := fun e => hz ⟨e, h2.1⟩
        omega, h2.2.2⟩)]) rfl
theorem mendN_f {σ : S_t} {f : Nat} {b : List Int32} {n : Nat} (h : s_oth σ f (dgL b) n = false) : s_mendN σ f b (n + 1) = s_mendN σ f b n := s_ext rfl rfl rfl rfl (fun a g => by
  rw [mendN_cp, mendN_cp]
  by_cases h1 : g = f ∧ a < n ∧ s_oth σ f (dgL b) a = true
  · rw [if_pos h1, if_pos ⟨h1.1, by omega, h1.2.2⟩]
  · rw [if_neg h1, if_neg (fun h2 => h1 ⟨h2.1, by
      have : a ≠ n := fun e => by
        rw [e, h] at h2
        exact absurd h2.2.2 (by decide)
      omega, h2.2.2⟩)]) rfl
theorem mendN_self (σ : S_t) (f : Nat) (b : List Int32) (n : Nat) : s_cp (s_mendN σ f b n) n f = s_cp σ n f := by
  rw [mendN_cp, if_neg (fun h => Nat.lt_irrefl _ h.2.1)]
theorem mendN_cnt (σ : S_t) (f : Nat) (b : List Int32) (n : Nat) : s_cnt (s_mendN σ f b n) n f = s_cnt σ n f := by
  unfold s_cnt
  rw [mendN_self]
  rfl
theorem mendN_lead {σ : S_t} {f q : Nat} {b : List Int32} (h : s_cnt σ q f = some b) (n : Nat) : s_cp (s_mendN σ f b n) q f = some b := by
  rw [mendN_cp, if_neg, (s_cnt_cp h).1]
  intro hh
  have := hh.2.2
  unfold s_oth at this
  rw [h] at this
  simp at this
/-- the bytes of the leading copy -/
def s_lrow (σ : S_t) (f : Nat) : Option (List Int32) := (s_lead σ f).bind fun q => s_cnt σ q f
def s_mendF (σ : S_t) (f : Nat) : Int32 × S_t := match s_lrow σ f with
  | none => (0, σ)
  | some b => (nI (cN (s_oth σ f (dgL b)) (s_nS σ)), s_setRn (s_mendN σ f b (s_nS σ)) f (s_rn σ f + nI (cN (s_oth σ f (dgL b)) (s_nS σ))))
def sp_mendN (σ : S_t) (x : Int32) : Nat → Int32 × S_t
  | 0 => (0, σ)
  | n + 1 => if s_pk σ n = x then ((sp_mendN σ x n).1 + (s_mendF (sp_mendN σ x n).2 n).1, (s_mendF (sp_mendN σ x n).2 n).2) else sp_mendN σ x n
def sp_mend (σ : S_t) (x : Int32) : Int32 × S_t := if (ix x 10).isNone then (-2, σ) else sp_mendN σ x (s_nF σ)
def s_fillF (σ : S_t) (j f : Nat) : Bool × S_t := if s_has σ j f = true ∨ s_cop σ ≤ cN (fun s => s_has σ s f) (s_nS σ) then (false, σ) else match s_lrow σ f with
  | none => (false, σ)
  | some b => (true, s_setRn (s_setCp σ j f (some b)) f (s_rn σ f + 1))
def sp_fillN (σ : S_t) (j : Nat) : Nat → Nat × S_t
  | 0 => (0, σ)
  | n + 1 => ((sp_fillN σ j n).1 + (if (s_fillF (sp_fillN σ j n).2 j n).1 then 1 else 0), (s_fillF (sp_fillN σ j n).2 j n).2)
def sp_fill (σ : S_t) (x : Int32) : Int32 × S_t := match ix x (s_nS σ) with
  | none => (-1, σ)
  | some j => if s_si σ j = true then (-3, σ) else (nI (sp_fillN σ j (s_nF σ)).1, (sp_fillN σ j (s_nF σ)).2)
theorem mendF_1 (σ : S_t) (f : Nat) : (s_mendF σ f).2.1 = σ.1 ∧ (s_mendF σ f).2.2.1 = σ.2.1 ∧ s_pk (s_mendF σ f).2 = s_pk σ := by
  unfold s_mendF
  split <;> exact ⟨rfl, rfl, rfl⟩
theorem mendNN (σ : S_t) (x : Int32) : ∀ n, (sp_mendN σ x n).2.1 = σ.1 ∧ (sp_mendN σ x n).2.2.1 = σ.2.1 ∧ s_pk (sp_mendN σ x n).2 = s_pk σ
  | 0 => ⟨rfl, rfl, rfl⟩
  | n + 1 => by
    have ih := mendNN σ x n
    unfold sp_mendN
    split
    · have h := mendF_1 (sp_mendN σ x n).2 n
      exact ⟨h.1.trans ih.1, h.2.1.trans ih.2.1, h.2.2.trans ih.2.2⟩
    · exact ih
theorem fillF_1 (σ : S_t) (j f : Nat) : (s_fillF σ j f).2.1 = σ.1 ∧ (s_fillF σ j f).2.2.1 = σ.2.1 ∧ s_pk (s_fillF σ j f).2 = s_pk σ := by
  unfold s_fillF
  split
  · exact ⟨rfl, rfl, rfl⟩
  · split <;> exact ⟨rfl, rfl, rfl⟩
theorem fillNN (σ : S_t) (j : Nat) : ∀ n, (sp_fillN σ j n).2.1 = σ.1 ∧ (sp_fillN σ j n).2.2.1 = σ.2.1 ∧ s_pk (sp_fillN σ j n).2 = s_pk σ
  | 0 => ⟨rfl, rfl, rfl⟩
  | n + 1 => by
    have ih := fillNN σ j n
    have h := fillF_1 (sp_fillN σ j n).2 j n
    exact ⟨h.1.trans ih.1, h.2.1.trans ih.2.1, h.2.2.trans ih.2.2⟩
theorem fillN_le (σ : S_t) (j : Nat) : ∀ n, (sp_fillN σ j n).1 ≤ n
  | 0 => Nat.le_refl _
  | n + 1 => by
    have ih := fillN_le σ j n
    show (sp_fillN σ j n).1 + _ ≤ _
    split <;> omega
/-- a file's own number of renewals -/
theorem RX.setRn {G : h_G} {ad : h_T → Nat} {k k' : h_C} {σ : S_t} (h : RX G ad k σ) {f : Nat} (hf : f < s_nF σ) {v : Int32} (hk : k' (7, f, 0) = some (.inr (0, [.int (s_pk σ f), .ref (ad (8, f, 0)), .int v]))) (ho : ∀ t : h_T, t ≠ (7, f, 0) → k' t = k t) : RX G ad k' (s_setRn σ f v) := by
  obtain ⟨g0, g1, g2, g3, g4, g5, g6, g7, g8, ok1, ok2, ok3, ok4, ok5, ok6, ok7, ok8, ok9⟩ := id h
  exact h.file (τ := s_setRn σ f v) (f := f) rfl rfl rfl (fun g hg => pk_un hg) rfl (fun _ _ _ => rfl) hf (fun a ha => ok6 a f (Or.inl ha)) (fun a b hb => ok7 a f b hb) ⟨by
    show k' (7, f, 0) = some (Sum.inr (0, [Value.int (s_pk σ f), Value.ref (ad (8, f, 0)), Value.int (upd (s_rn σ) f v f)]))
    rw [pk_us]; exact hk, (ho _ (by simp)).trans (g4 f hf).2⟩ (fun a b hb => (g5 a f b hb).congr (ho _ (by simp)) (ho _ (by simp)) rfl) rfl (fun t _ h7 _ _ => ⟨ho t h7, rfl⟩)
theorem mendS_t {σ : S_t} {x : Int32} {n : Nat} (h : s_pk σ n = x) : sp_mendN σ x (n + 1) = ((sp_mendN σ x n).1 + (s_mendF (sp_mendN σ x n).2 n).1, (s_mendF (sp_mendN σ x n).2 n).2) := if_pos h
theorem mendS_f {σ : S_t} {x : Int32} {n : Nat} (h : ¬ s_pk σ n = x) : sp_mendN σ x (n + 1) = sp_mendN σ x n := if_neg h
end
section
set_option maxHeartbeats 4000000 in
set_option maxRecDepth 100000 in
/-- mendItem -/
theorem c_X3_mendItem (l : Launch) (G : h_G) {ad : h_T → Nat} {k : h_C} {σ : S_t} (hR : RX G ad k σ) {f : Nat} (hf : f < s_nF σ) : h_Wr l yX3_mendItem cX3_mendItem 7 (some .int) 5 114 0 0 G ad k [.ref (ad (0, 0, 0)), .ref (ad (7, f, 0))] (XPost G ad k (some (.int (s_mendF σ f).1)) (s_mendF σ f).2) := by
  refine h_wr (by decide +kernel) (Nat.le_of_ble_eq_true rfl) ?_
  intro p e s m args below meth c X Y hw ls hl
  have hl : lv_has ls 7 [(0, .ref (ad (0, 0, 0))), (1, .ref (ad (7, f, 0)))] := hl
  have hok := hR.ok
  obtain ⟨hx, hs, hst, hi, hit, hcp, hcol, hmx, hask, -⟩ := id hR
  have hx : k (0, 0, 0) = some (.inr (3, [.int (nI (s_cop σ)), .ref (ad (1, 0, 0)), .int (nI (s_nS σ)), .ref (ad (2, 0, 0)), .int (nI (s_nF σ)), .ref (ad (3, 0, 0)), .ref (ad (4, 0, 0)), .ref (ad (5, 0, 0)), .ref (ad (5, 1, 0)), .ref (ad (5, 2, 0)), .int (nI (s_as σ).length), .int (s_dg σ)])) := hx
  have hnS : s_nS σ ≤ 10 := hok.2.1
  have hnF : s_nF σ ≤ 40 := hok.2.2.1
  rcases hq : s_lead σ f with _ | q
  · have hz : s_mendF σ f = (0, σ) := by unfold s_mendF s_lrow; rw [hq]; rfl
    rw [hz]
    refine lv_aload_n X.1 X.2.1 dX3_mendItem_0 rfl (lv_at hl 0 rfl) ?_
    refine lv_aload_n X.1 X.2.1 dX3_mendItem_1 rfl (lv_at hl 1 rfl) ?_
    refine h_callRV (t := (0, 0, 0)) (As := [.ref (ad (7, f, 0))]) (rest := []) X hw cs_X3_139 (c_X3_majorityRow l G hR hf) hx rfl rfl hl.1 rfl (Nat.le_of_ble_eq_true rfl) ⟨by decide, by decide⟩ ⟨Nat.zero_le _, Nat.zero_le _⟩ dX3_mendItem_2 ?_
    refine h_tv (b := .null) (by rw [hq]; rfl) ?_
    refine lv_astore_nN (lv' := [(2, .null), (0, .ref (ad (0, 0, 0))), (1, .ref (ad (7, f, 0)))]) X.1 X.2.1 dX3_mendItem_5 rfl hl (by decide) rfl (fun ls hl => ?_)
    refine lv_aload_nN X.1 X.2.1 dX3_mendItem_6 rfl (lv_at hl 0 rfl) ?_
    refine lv_ifnonnullN X.1 X.2.1 dX3_mendItem_7 ?_
    refine lv_iconst (v := 0) X.1 X.2.1 dX3_mendItem_10 (by decide) ?_
    exact h_iretW (v := 0) X Y hw ⟨rfl, hR, fun _ _ => ⟨rfl, rfl⟩, rfl⟩ (Nat.zero_le _) (Nat.zero_le _) dX3_mendItem_11
  · obtain ⟨hq1, b, hb⟩ := s_lead_spec hq
    have hbc := (s_cnt_cp hb).1
    have hbl := hok.2.2.2.2.2.2.1 q f b hbc
    have hz : s_mendF σ f = (nI (cN (s_oth σ f (dgL b)) (s_nS σ)), s_setRn (s_mendN σ f b (s_nS σ)) f (s_rn σ f + nI (cN (s_oth σ f (dgL b)) (s_nS σ)))) := by
      unfold s_mendF s_lrow
      rw [hq, Option.bind_some, hb]
    rw [hz]
    have loop : ∀ (n i : Nat), i ≤ s_nS σ → s_nS σ + 1 ≤ i + n → ∀ (kk : h_C) (H : Heap) (locs : List Loc), RX G ad kk (s_mendN σ f b i) → (∀ t : h_T, 20 ≤ t.1 → kk t = k t) → h_W G.1 h_cl (h_A ad k s.heap.size) s.heap ad kk H locs → ∀ (ls : Array Slot), lv_has ls 7 [(0, .ref (ad (0, 0, 0))), (1, .ref (ad (7, f, 0))), (2, .ref (ad (9, q, f))), (3, .int (dgL b)), (4, .int (nI (cN (s_oth σ f (dgL b)) i))), (5, .int (nI i))] → W p l e (h_rm 5 114 0 0) s m args below meth c H locs 0 0 (MQ below (h_Qw G ad k s.heap.size (XPost G ad k (some (.int (nI (cN (s_oth σ f (dgL b)) (s_nS σ)), s_setRn (s_mendN σ f b (s_nS σ)) f (s_rn σ f + nI (cN (s_oth σ f (dgL b)) (s_nS σ)))).1)) (nI (cN (s_oth σ f (dgL b)) (s_nS σ)), s_setRn (s_mendN σ f b (s_nS σ)) f (s_rn σ f + nI (cN (s_oth σ f (dgL b)) (s_nS σ)))).2)) args s 0 0 (h_A ad k s.heap.size)) (F0 m 23 ls []) := by
      intro n
      induction n with
      | zero =>
        intro i h1 h2
        exact absurd h2 (by omega)
      | succ n ih =>
        intro i hii hni kk H locs hRk hok20 hw ls hl
        have gx : kk (0, 0, 0) = some (.inr (3, [.int (nI (s_cop σ)), .ref (ad (1, 0, 0)), .int (nI (s_nS σ)), .ref (ad (2, 0, 0)), .int (nI (s_nF σ)), .ref (ad (3, 0, 0)), .ref (ad (4, 0, 0)), .ref (ad (5, 0, 0)), .ref (ad (5, 1, 0)), .ref (ad (5, 2, 0)), .int (nI (s_as σ).length), .int (s_dg σ)])) := hRk.1
        obtain ⟨-, -, -, -, git, gcp, -, -, -, gok⟩ := id hRk
        have gi : kk (7, f, 0) = some (.inr (0, [.int (s_pk σ f), .ref (ad (8, f, 0)), .int (s_rn σ f)])) := (git f hf).1
        have hqr := gcp q f b (mendN_lead hb i)
        refine lv_iload X.1 X.2.1 dX3_mendItem_23 (lv_at hl 5 rfl) ?_
        refine lv_aload_n X.1 X.2.1 dX3_mendItem_25 rfl (lv_at hl 0 rfl) ?_
        refine gf_X3_15 X hw gx rfl dX3_mendItem_26 ?_
        refine lv_icmp_ge (tgt := 70) X.1 X.2.1 dX3_mendItem_29 (by decide) (fun c29 => ?_) (fun c29 => ?_)
        · obtain rfl : i = s_nS σ := Nat.le_antisymm hii (Nat.le_of_not_lt (fun q => absurd c29 (nI_ge (b := s_nS σ) q (by omega))))
          refine lv_aload_n X.1 X.2.1 dX3_mendItem_70 rfl (lv_at hl 1 rfl) ?_
          refine lv_dup X.1 X.2.1 dX3_mendItem_71 rfl ?_
          refine gf_X3_188 X hw gi rfl dX3_mendItem_72 ?_
          refine lv_iload X.1 X.2.1 dX3_mendItem_75 (lv_at hl 4 rfl) ?_
          refine lv_iadd X.1 X.2.1 dX3_mendItem_77 ?_
          refine pf_X3_188 X hw gi rfl rfl (Nat.le_of_ble_eq_true rfl) dX3_mendItem_78 (fun H locs hw => ?_)
          obtain ⟨k1, hk1⟩ : ∃ zz, zz = h_cu kk (7, f, 0) (some (.inr (0, [.int (s_pk σ f), .ref (ad (8, f, 0)), .int (s_rn σ f + nI (cN (s_oth σ f (dgL b)) (s_nS σ)))]))) := ⟨_, rfl⟩
          replace hw := h_W.ren hw hk1
          have f1_0_0_0 : k1 (0, 0, 0) = some (.inr (3, [.int (nI (s_cop σ)), .ref (ad (1, 0, 0)), .int (nI (s_nS σ)), .ref (ad (2, 0, 0)), .int (nI (s_nF σ)), .ref (ad (3, 0, 0)), .ref (ad (4, 0, 0)), .ref (ad (5, 0, 0)), .ref (ad (5, 1, 0)), .ref (ad (5, 2, 0)), .int (nI (s_as σ).length), .int (s_dg σ)])) := by rw [hk1, h_cn _ _ (by simp)]; exact gx
          have f1_7_f_0 : k1 (7, f, 0) = some (.inr (0, [.int (s_pk σ f), .ref (ad (8, f, 0)), .int (s_rn σ f + nI (cN (s_oth σ f (dgL b)) (s_nS σ)))])) := by rw [hk1]; exact h_cs _ _ _
          refine lv_iload X.1 X.2.1 dX3_mendItem_81 (lv_at hl 4 rfl) ?_
          exact h_iretW (v := nI (cN (s_oth σ f (dgL b)) (s_nS σ))) X Y hw ⟨rfl, hRk.setRn (k' := k1) hf (v := s_rn σ f + nI (cN (s_oth σ f (dgL b)) (s_nS σ))) f1_7_f_0 (fun t ht => by rw [hk1, h_cn _ _ ht]), fun t ht => ⟨by rw [hk1, h_cn _ _ (t20 ht (Nat.le_of_ble_eq_true rfl)), hok20 t ht], rfl⟩, rfl⟩ (Nat.zero_le _) (Nat.zero_le _) dX3_mendItem_83
        · have hib : i < s_nS σ := Nat.lt_of_not_le (fun q => c29 (nI_le q (by omega)))
          rcases hc : s_cnt σ i f with _ | c
          · refine lv_aload_n X.1 X.2.1 dX3_mendItem_32 rfl (lv_at hl 0 rfl) ?_
            refine lv_aload_n X.1 X.2.1 dX3_mendItem_33 rfl (lv_at hl 1 rfl) ?_
            refine lv_iload X.1 X.2.1 dX3_mendItem_34 (lv_at hl 5 rfl) ?_
            refine h_callRV (t := (0, 0, 0)) (As := [.ref (ad (7, f, 0)), .int (nI i)]) (rest := []) X hw cs_X3_202 (c_X3_countingRow l G hRk hf hib) gx rfl rfl hl.1 rfl (Nat.le_of_ble_eq_true rfl) ⟨by decide, by decide⟩ ⟨Nat.zero_le _, Nat.zero_le _⟩ dX3_mendItem_36 ?_
            refine h_tv (b := .null) (by rw [mendN_cnt, hc]; rfl) ?_
            refine lv_astoreN (lv' := [(6, .null), (0, .ref (ad (0, 0, 0))), (1, .ref (ad (7, f, 0))), (2, .ref (ad (9, q, f))), (3, .int (dgL b)), (4, .int (nI (cN (s_oth σ f (dgL b)) i))), (5, .int (nI i))]) X.1 X.2.1 dX3_mendItem_39 hl (by decide) rfl (fun ls hl => ?_)
            refine lv_aloadN X.1 X.2.1 dX3_mendItem_41 (lv_at hl 0 rfl) ?_
            refine lv_ifnullN (tgt := 64) X.1 X.2.1 dX3_mendItem_43 (by decide) ?_
            refine lv_iinc (v := nI (i + 1)) (lv' := [(5, .int (nI (i + 1))), (6, .null), (0, .ref (ad (0, 0, 0))), (1, .ref (ad (7, f, 0))), (2, .ref (ad (9, q, f))), (3, .int (dgL b)), (4, .int (nI (cN (s_oth σ f (dgL b)) i)))]) X.1 X.2.1 dX3_mendItem_64 hl (k := 6) rfl (nI_1 _) (by decide) rfl (fun ls hl => ?_)
            refine lv_goto (tgt := 23) X.1 X.2.1 dX3_mendItem_67 (by decide) ?_
            have hoth : s_oth σ f (dgL b) i = false := by unfold s_oth; rw [hc]
            exact ih (i + 1) (by omega) (by omega) kk _ _ (by rw [mendN_f hoth]; exact hRk) hok20 hw ls (by
              rw [cN_f hoth]
              exact lv_sub hl [2, 3, 4, 5, 6, 0] rfl)
          · refine lv_aload_n X.1 X.2.1 dX3_mendItem_32 rfl (lv_at hl 0 rfl) ?_
            refine lv_aload_n X.1 X.2.1 dX3_mendItem_33 rfl (lv_at hl 1 rfl) ?_
            refine lv_iload X.1 X.2.1 dX3_mendItem_34 (lv_at hl 5 rfl) ?_
            refine h_callRV (t := (0, 0, 0)) (As := [.ref (ad (7, f, 0)), .int (nI i)]) (rest := []) X hw cs_X3_202 (c_X3_countingRow l G hRk hf hib) gx rfl rfl hl.1 rfl (Nat.le_of_ble_eq_true rfl) ⟨by decide, by decide⟩ ⟨Nat.zero_le _, Nat.zero_le _⟩ dX3_mendItem_36 ?_
            refine h_tv (b := .ref (ad (9, i, f))) (by rw [mendN_cnt, hc]; rfl) ?_
            refine lv_astore (lv' := [(6, .ref (ad (9, i, f))), (0, .ref (ad (0, 0, 0))), (1, .ref (ad (7, f, 0))), (2, .ref (ad (9, q, f))), (3, .int (dgL b)), (4, .int (nI (cN (s_oth σ f (dgL b)) i))), (5, .int (nI i))]) X.1 X.2.1 dX3_mendItem_39 hl (by decide) rfl (fun ls hl => ?_)
            refine lv_aload X.1 X.2.1 dX3_mendItem_41 (lv_at hl 0 rfl) ?_
            refine lv_ifnull X.1 X.2.1 dX3_mendItem_43 ?_
            refine lv_aload X.1 X.2.1 dX3_mendItem_46 (lv_at hl 0 rfl) ?_
            refine h_callRV (t := (9, i, f)) (As := []) (rest := []) X hw cs_X3_143 (c_X1_sum l G (gcp i f c ((mendN_self σ f b i).trans (s_cnt_cp hc).1)) (gok.2.2.2.2.2.2.1 i f c ((mendN_self σ f b i).trans (s_cnt_cp hc).1))) (gcp i f c ((mendN_self σ f b i).trans (s_cnt_cp hc).1)).1 rfl rfl hl.1 rfl (Nat.le_of_ble_eq_true rfl) ⟨by decide, by decide⟩ ⟨Nat.zero_le _, Nat.zero_le _⟩ dX3_mendItem_48 ?_
            refine lv_iload_n X.1 X.2.1 dX3_mendItem_51 rfl (lv_at hl 4 rfl) ?_
            refine lv_icmp_eq (tgt := 64) X.1 X.2.1 dX3_mendItem_52 (by decide) (fun c52 => ?_) (fun c52 => ?_)
            · refine lv_iinc (v := nI (i + 1)) (lv' := [(5, .int (nI (i + 1))), (6, .ref (ad (9, i, f))), (0, .ref (ad (0, 0, 0))), (1, .ref (ad (7, f, 0))), (2, .ref (ad (9, q, f))), (3, .int (dgL b)), (4, .int (nI (cN (s_oth σ f (dgL b)) i)))]) X.1 X.2.1 dX3_mendItem_64 hl (k := 6) rfl (nI_1 _) (by decide) rfl (fun ls hl => ?_)
              refine lv_goto (tgt := 23) X.1 X.2.1 dX3_mendItem_67 (by decide) ?_
              have hoth : s_oth σ f (dgL b) i = false := by unfold s_oth; rw [hc]; simpa using c52
              exact ih (i + 1) (by omega) (by omega) kk _ _ (by rw [mendN_f hoth]; exact hRk) hok20 hw ls (by
                rw [cN_f hoth]
                exact lv_sub hl [2, 3, 4, 5, 6, 0] rfl)
            · have hci : s_cp (s_mendN σ f b i) i f = some c := by rw [mendN_self]; exact (s_cnt_cp hc).1
              have hoth : s_oth σ f (dgL b) i = true := by unfold s_oth; rw [hc]; simpa using c52
              have hqi : q ≠ i := fun e => by subst e; rw [hb] at hc; cases hc; exact c52 rfl
              refine lv_aload X.1 X.2.1 dX3_mendItem_55 (lv_at hl 0 rfl) ?_
              refine lv_aload_n X.1 X.2.1 dX3_mendItem_57 rfl (lv_at hl 3 rfl) ?_
              refine h_callWV (t := (9, i, f)) (As := [.ref (ad (9, q, f))]) (rest := []) X hw cs_X3_214 (c_X1_become l G (gcp i f c hci) hqr hbl (by simp) (by simp [hqi]) (by simp [hqi]) (by simp)) (gcp i f c hci).1 rfl rfl hl.1 rfl (Nat.le_of_ble_eq_true rfl) ⟨by decide, by decide⟩ ⟨(Nat.le_of_ble_eq_true rfl), (Nat.le_of_ble_eq_true rfl)⟩ dX3_mendItem_58 (fun r9 ad1 k1 H locs hp9 hw => ?_)
              obtain ⟨rfl, ea1, hr1, ho1⟩ := hp9
              refine W.eq (g2 := F0 m 61 ls []) rfl ?_
              replace hw := hw.renA ea1.symm
              have f1_0_0_0 : k1 (0, 0, 0) = some (.inr (3, [.int (nI (s_cop σ)), .ref (ad (1, 0, 0)), .int (nI (s_nS σ)), .ref (ad (2, 0, 0)), .int (nI (s_nF σ)), .ref (ad (3, 0, 0)), .ref (ad (4, 0, 0)), .ref (ad (5, 0, 0)), .ref (ad (5, 1, 0)), .ref (ad (5, 2, 0)), .int (nI (s_as σ).length), .int (s_dg σ)])) := by rw [ho1 (0, 0, 0) (by simp) (by simp), gx]
              have f1_7_f_0 : k1 (7, f, 0) = some (.inr (0, [.int (s_pk σ f), .ref (ad (8, f, 0)), .int (s_rn σ f)])) := by rw [ho1 (7, f, 0) (by simp) (by simp), gi]
              refine lv_iinc (v := nI ((cN (s_oth σ f (dgL b)) i) + 1)) (lv' := [(4, .int (nI ((cN (s_oth σ f (dgL b)) i) + 1))), (6, .ref (ad (9, i, f))), (0, .ref (ad (0, 0, 0))), (1, .ref (ad (7, f, 0))), (2, .ref (ad (9, q, f))), (3, .int (dgL b)), (5, .int (nI i))]) X.1 X.2.1 dX3_mendItem_61 hl (k := 5) rfl (nI_1 _) (by decide) rfl (fun ls hl => ?_)
              refine lv_iinc (v := nI (i + 1)) (lv' := [(5, .int (nI (i + 1))), (4, .int (nI ((cN (s_oth σ f (dgL b)) i) + 1))), (6, .ref (ad (9, i, f))), (0, .ref (ad (0, 0, 0))), (1, .ref (ad (7, f, 0))), (2, .ref (ad (9, q, f))), (3, .int (dgL b))]) X.1 X.2.1 dX3_mendItem_64 hl (k := 6) rfl (nI_1 _) (by decide) rfl (fun ls hl => ?_)
              refine lv_goto (tgt := 23) X.1 X.2.1 dX3_mendItem_67 (by decide) ?_
              exact ih (i + 1) (by omega) (by omega) k1 _ _ (by rw [mendN_t hoth]; exact hRk.setRow hci hbl hr1 (fun t h1 h2 => ho1 t h1 h2)) (fun t ht => by rw [ho1 t (t20 ht (Nat.le_of_ble_eq_true rfl)) (t20 ht (Nat.le_of_ble_eq_true rfl)), hok20 t ht]) hw ls (by
                rw [cN_t hoth]
                exact lv_sub hl [3, 4, 5, 6, 1, 0] rfl)
    refine lv_aload_n X.1 X.2.1 dX3_mendItem_0 rfl (lv_at hl 0 rfl) ?_
    refine lv_aload_n X.1 X.2.1 dX3_mendItem_1 rfl (lv_at hl 1 rfl) ?_
    refine h_callRV (t := (0, 0, 0)) (As := [.ref (ad (7, f, 0))]) (rest := []) X hw cs_X3_139 (c_X3_majorityRow l G hR hf) hx rfl rfl hl.1 rfl (Nat.le_of_ble_eq_true rfl) ⟨by decide, by decide⟩ ⟨Nat.zero_le _, Nat.zero_le _⟩ dX3_mendItem_2 ?_
    refine h_tv (b := .ref (ad (9, q, f))) (by rw [hq]; rfl) ?_
    refine lv_astore_n (lv' := [(2, .ref (ad (9, q, f))), (0, .ref (ad (0, 0, 0))), (1, .ref (ad (7, f, 0)))]) X.1 X.2.1 dX3_mendItem_5 rfl hl (by decide) rfl (fun ls hl => ?_)
    refine lv_aload_n X.1 X.2.1 dX3_mendItem_6 rfl (lv_at hl 0 rfl) ?_
    refine lv_ifnonnull (tgt := 12) X.1 X.2.1 dX3_mendItem_7 (by decide) ?_
    refine lv_aload_n X.1 X.2.1 dX3_mendItem_12 rfl (lv_at hl 0 rfl) ?_
    refine h_callRV (t := (9, q, f)) (As := []) (rest := []) X hw cs_X3_143 (c_X1_sum l G (hcp q f b hbc) (hok.2.2.2.2.2.2.1 q f b hbc)) (hcp q f b hbc).1 rfl rfl hl.1 rfl (Nat.le_of_ble_eq_true rfl) ⟨by decide, by decide⟩ ⟨Nat.zero_le _, Nat.zero_le _⟩ dX3_mendItem_13 ?_
    refine lv_istore_n (lv' := [(3, .int (dgL b)), (2, .ref (ad (9, q, f))), (0, .ref (ad (0, 0, 0))), (1, .ref (ad (7, f, 0)))]) X.1 X.2.1 dX3_mendItem_16 rfl hl (by decide) rfl (fun ls hl => ?_)
    refine lv_iconst (v := 0) X.1 X.2.1 dX3_mendItem_17 (by decide) ?_
    refine lv_istore (lv' := [(4, .int 0), (3, .int (dgL b)), (2, .ref (ad (9, q, f))), (0, .ref (ad (0, 0, 0))), (1, .ref (ad (7, f, 0)))]) X.1 X.2.1 dX3_mendItem_18 hl (by decide) rfl (fun ls hl => ?_)
    refine lv_iconst (v := 0) X.1 X.2.1 dX3_mendItem_20 (by decide) ?_
    refine lv_istore (lv' := [(5, .int 0), (4, .int 0), (3, .int (dgL b)), (2, .ref (ad (9, q, f))), (0, .ref (ad (0, 0, 0))), (1, .ref (ad (7, f, 0)))]) X.1 X.2.1 dX3_mendItem_21 hl (by decide) rfl (fun ls hl => ?_)
    exact loop (s_nS σ + 1) 0 (by omega) (by omega) k _ _ (by rw [mendN_0]; exact hR) (fun _ _ => rfl) hw ls (lv_sub hl [4, 5, 3, 2, 1, 0] rfl)
set_option maxHeartbeats 4000000 in
set_option maxRecDepth 100000 in
/-- mend -/
theorem c_X3_mend (l : Launch) (G : h_G) {ad : h_T → Nat} {k : h_C} {σ : S_t} (hR : RX G ad k σ) (x : Int32) : h_Wr l yX3_mend cX3_mend 5 (some .int) 6 140 0 0 G ad k [.ref (ad (0, 0, 0)), .int x] (XPost G ad k (some (.int (sp_mend σ x).1)) (sp_mend σ x).2) := by
  refine h_wr (by decide +kernel) (Nat.le_of_ble_eq_true rfl) ?_
  intro p e s m args below meth c X Y hw ls hl
  have hl : lv_has ls 5 [(0, .ref (ad (0, 0, 0))), (1, .int x)] := hl
  have hok := hR.ok
  obtain ⟨hx, hs, hst, hi, hit, hcp, hcol, hmx, hask, -⟩ := id hR
  have hx : k (0, 0, 0) = some (.inr (3, [.int (nI (s_cop σ)), .ref (ad (1, 0, 0)), .int (nI (s_nS σ)), .ref (ad (2, 0, 0)), .int (nI (s_nF σ)), .ref (ad (3, 0, 0)), .ref (ad (4, 0, 0)), .ref (ad (5, 0, 0)), .ref (ad (5, 1, 0)), .ref (ad (5, 2, 0)), .int (nI (s_as σ).length), .int (s_dg σ)])) := hx
  have hnS : s_nS σ ≤ 10 := hok.2.1
  have hnF : s_nF σ ≤ 40 := hok.2.2.1
  unfold sp_mend
  rcases hpk : ix x 10 with _ | j
  · rw [if_pos (show (none : Option Nat).isNone = true from rfl)]
    refine lv_iload_n X.1 X.2.1 dX3_mend_0 rfl (lv_at hl 1 rfl) ?_
    refine h_callRS (As := [.int x]) (rest := []) X hw cs_X3_76 (c_X3_isPackage l G x) rfl hl.1 rfl (Nat.le_of_ble_eq_true rfl) ⟨by decide, by decide⟩ ⟨Nat.zero_le _, Nat.zero_le _⟩ dX3_mend_1 ?_
    refine h_tv (b := .int 0) (by rw [hpk]; rfl) ?_
    refine lv_if_ne (tgt := 10) X.1 X.2.1 dX3_mend_4 (by decide) (fun c4 => ?_) (fun c4 => ?_)
    · exact absurd (by decide) c4
    · refine lv_bipush (v := (-2)) X.1 X.2.1 dX3_mend_7 (by decide) ?_
      exact h_iretW (v := -2) X Y hw ⟨rfl, hR, fun _ _ => ⟨rfl, rfl⟩, rfl⟩ (Nat.zero_le _) (Nat.zero_le _) dX3_mend_9
  · rw [if_neg (show ¬ (some j : Option Nat).isNone = true from fun q => by cases q)]
    have loop : ∀ (n i : Nat), i ≤ s_nF σ → s_nF σ + 1 ≤ i + n → ∀ (aa : h_T → Nat) (kk : h_C) (H : Heap) (locs : List Loc), RX G aa kk (sp_mendN σ x i).2 → (∀ t : h_T, 20 ≤ t.1 → kk t = k t ∧ aa t = ad t) → aa (0, 0, 0) = ad (0, 0, 0) → h_W G.1 h_cl (h_A ad k s.heap.size) s.heap aa kk H locs → ∀ (ls : Array Slot), lv_has ls 5 [(0, .ref (aa (0, 0, 0))), (1, .int x), (2, .int ((sp_mendN σ x i).1)), (3, .int (nI i))] → W p l e (h_rm 6 140 0 0) s m args below meth c H locs 0 0 (MQ below (h_Qw G ad k s.heap.size (XPost G ad k (some (.int (sp_mendN σ x (s_nF σ)).1)) (sp_mendN σ x (s_nF σ)).2)) args s 0 0 (h_A ad k s.heap.size)) (F0 m 14 ls []) := by
      intro n
      induction n with
      | zero =>
        intro i h1 h2
        exact absurd h2 (by omega)
      | succ n ih =>
        intro i hii hni aa kk H locs hRk h20 h00 hw ls hl
        obtain ⟨τ, hτ⟩ : ∃ zz, zz = (sp_mendN σ x i).2 := ⟨_, rfl⟩
        rw [← hτ] at hRk
        obtain ⟨e1, e2, e3⟩ := mendNN σ x i
        rw [← hτ] at e1 e2 e3
        have eF : s_nF τ = s_nF σ := by unfold s_nF; rw [e1]
        have gx : kk (0, 0, 0) = some (.inr (3, [.int (nI (s_cop τ)), .ref (aa (1, 0, 0)), .int (nI (s_nS τ)), .ref (aa (2, 0, 0)), .int (nI (s_nF τ)), .ref (aa (3, 0, 0)), .ref (aa (4, 0, 0)), .ref (aa (5, 0, 0)), .ref (aa (5, 1, 0)), .ref (aa (5, 2, 0)), .int (nI (s_as τ).length), .int (s_dg τ)])) := hRk.1
        obtain ⟨-, -, -, gi0, git, -, -, -, -, gok⟩ := id hRk
        refine lv_iload_n X.1 X.2.1 dX3_mend_14 rfl (lv_at hl 3 rfl) ?_
        refine lv_aload_n X.1 X.2.1 dX3_mend_15 rfl (lv_at hl 0 rfl) ?_
        refine gf_X3_25 X hw gx rfl dX3_mend_16 ?_
        refine lv_icmp_ge (tgt := 59) X.1 X.2.1 dX3_mend_19 (by decide) (fun c19 => ?_) (fun c19 => ?_)
        · refine lv_iload_n X.1 X.2.1 dX3_mend_59 rfl (lv_at hl 2 rfl) ?_
          have hiE : s_nF σ = i := Nat.le_antisymm (by rw [← eF]; exact Nat.le_of_not_lt (fun q => absurd c19 (nI_ge q (by omega)))) hii
          rw [hiE]
          exact h_iretW X Y hw ⟨rfl, by rw [← hτ]; exact hRk, h20, h00⟩ (Nat.zero_le _) (Nat.zero_le _) dX3_mend_60
        · have hib : i < s_nF τ := Nat.lt_of_not_le (fun q => c19 (nI_le q (by omega)))
          have gi := (git i hib).1
          refine lv_aload_n X.1 X.2.1 dX3_mend_22 rfl (lv_at hl 0 rfl) ?_
          refine gf_X3_21 X hw gx rfl dX3_mend_23 ?_
          refine lv_iload_n X.1 X.2.1 dX3_mend_26 rfl (lv_at hl 3 rfl) ?_
          refine h_aald X hw 4 rfl gi0 (vp_in_nI (by omega) (by decide)) dX3_mend_27 ?_
          refine h_tv (b := .ref (aa (7, i, 0))) (by rw [nI_clamp (by omega)]; simp only [x_ite, if_pos hib, va_rf]) ?_
          refine lv_astore (lv' := [(4, .ref (aa (7, i, 0))), (0, .ref (aa (0, 0, 0))), (1, .int x), (2, .int ((sp_mendN σ x i).1)), (3, .int (nI i))]) X.1 X.2.1 dX3_mend_28 hl (by decide) rfl (fun ls hl => ?_)
          refine lv_aload X.1 X.2.1 dX3_mend_30 (lv_at hl 0 rfl) ?_
          refine lv_ifnull X.1 X.2.1 dX3_mend_32 ?_
          refine lv_aload X.1 X.2.1 dX3_mend_35 (lv_at hl 0 rfl) ?_
          refine gf_X3_117 X hw gi rfl dX3_mend_37 ?_
          refine lv_iload_n X.1 X.2.1 dX3_mend_40 rfl (lv_at hl 2 rfl) ?_
          refine lv_icmp_ne (tgt := 53) X.1 X.2.1 dX3_mend_41 (by decide) (fun c41 => ?_) (fun c41 => ?_)
          · refine lv_iinc (v := nI (i + 1)) (lv' := [(3, .int (nI (i + 1))), (4, .ref (aa (7, i, 0))), (0, .ref (aa (0, 0, 0))), (1, .int x), (2, .int ((sp_mendN σ x i).1))]) X.1 X.2.1 dX3_mend_53 hl (k := 4) rfl (nI_1 _) (by decide) rfl (fun ls hl => ?_)
            refine lv_goto (tgt := 14) X.1 X.2.1 dX3_mend_56 (by decide) ?_
            have es := mendS_f (σ := σ) (n := i) (x := x) (by rw [← e3]; exact c41)
            exact ih (i + 1) (by omega) (by omega) aa kk _ _ (by rw [es, ← hτ]; exact hRk) h20 h00 hw ls (by
              rw [es]
              exact lv_sub hl [2, 3, 4, 0] rfl)
          · refine lv_iload_n X.1 X.2.1 dX3_mend_44 rfl (lv_at hl 3 rfl) ?_
            refine lv_aload_n X.1 X.2.1 dX3_mend_45 rfl (lv_at hl 1 rfl) ?_
            refine lv_aload X.1 X.2.1 dX3_mend_46 (lv_at hl 0 rfl) ?_
            refine h_callWV (t := (0, 0, 0)) (As := [.ref (aa (7, i, 0))]) (rest := [.int ((sp_mendN σ x i).1)]) X hw cs_X3_146 (c_X3_mendItem l G hRk hib) gx rfl rfl hl.1 rfl (Nat.le_of_ble_eq_true rfl) ⟨by decide, by decide⟩ ⟨(Nat.le_of_ble_eq_true rfl), (Nat.le_of_ble_eq_true rfl)⟩ dX3_mend_48 (fun r9 ad1 k1 H locs hp9 hw => ?_)
            obtain ⟨rfl, hRn, hfr, ha0⟩ := hp9
            refine W.eq (g2 := F0 m 51 ls [.int ((s_mendF τ i).1), .int ((sp_mendN σ x i).1)]) rfl ?_
            have eb1_0 : aa (0, 0, 0) = ad1 (0, 0, 0) := (ha0).symm
            simp only [eb1_0] at hl
            refine lv_iadd X.1 X.2.1 dX3_mend_51 ?_
            refine lv_istore_n (lv' := [(2, .int ((sp_mendN σ x i).1 + (s_mendF τ i).1)), (4, .ref (aa (7, i, 0))), (0, .ref (ad1 (0, 0, 0))), (1, .int x), (3, .int (nI i))]) X.1 X.2.1 dX3_mend_52 rfl hl (by decide) rfl (fun ls hl => ?_)
            refine lv_iinc (v := nI (i + 1)) (lv' := [(3, .int (nI (i + 1))), (2, .int ((sp_mendN σ x i).1 + (s_mendF τ i).1)), (4, .ref (aa (7, i, 0))), (0, .ref (ad1 (0, 0, 0))), (1, .int x)]) X.1 X.2.1 dX3_mend_53 hl (k := 4) rfl (nI_1 _) (by decide) rfl (fun ls hl => ?_)
            refine lv_goto (tgt := 14) X.1 X.2.1 dX3_mend_56 (by decide) ?_
            have es := mendS_t (σ := σ) (n := i) (x := x) (by rw [← e3]; exact c41)
            rw [← hτ] at es
            exact ih (i + 1) (by omega) (by omega) ad1 k1 _ _ (by rw [es]; exact hRn) (fun t ht => ⟨by rw [(hfr t ht).1, (h20 t ht).1], by rw [(hfr t ht).2, (h20 t ht).2]⟩) (ha0.trans h00) hw ls (by
              rw [es]
              exact lv_sub hl [3, 4, 1, 0] rfl)
    refine lv_iload_n X.1 X.2.1 dX3_mend_0 rfl (lv_at hl 1 rfl) ?_
    refine h_callRS (As := [.int x]) (rest := []) X hw cs_X3_76 (c_X3_isPackage l G x) rfl hl.1 rfl (Nat.le_of_ble_eq_true rfl) ⟨by decide, by decide⟩ ⟨Nat.zero_le _, Nat.zero_le _⟩ dX3_mend_1 ?_
    refine h_tv (b := .int 1) (by rw [hpk]; rfl) ?_
    refine lv_if_ne (tgt := 10) X.1 X.2.1 dX3_mend_4 (by decide) (fun c4 => ?_) (fun c4 => ?_)
    · refine lv_iconst (v := 0) X.1 X.2.1 dX3_mend_10 (by decide) ?_
      refine lv_istore_n (lv' := [(2, .int 0), (0, .ref (ad (0, 0, 0))), (1, .int x)]) X.1 X.2.1 dX3_mend_11 rfl hl (by decide) rfl (fun ls hl => ?_)
      refine lv_iconst (v := 0) X.1 X.2.1 dX3_mend_12 (by decide) ?_
      refine lv_istore_n (lv' := [(3, .int 0), (2, .int 0), (0, .ref (ad (0, 0, 0))), (1, .int x)]) X.1 X.2.1 dX3_mend_13 rfl hl (by decide) rfl (fun ls hl => ?_)
      exact loop (s_nF σ + 1) 0 (by omega) (by omega) ad k _ _ hR (fun _ _ => ⟨rfl, rfl⟩) rfl hw ls (lv_sub hl [2, 3, 1, 0] rfl)
    · exact absurd c4 (by decide)
end
section
set_option maxHeartbeats 4000000 in
set_option maxRecDepth 100000 in
/-- fillItem -/
theorem c_X3_fillItem (l : Launch) (G : h_G) {ad : h_T → Nat} {k : h_C} {σ : S_t} (hR : RX G ad k σ) {f j : Nat} (hf : f < s_nF σ) (hj : j < s_nS σ) : h_Wr l yX3_fillItem cX3_fillItem 4 (some .boolean) 5 114 2 18 G ad k [.ref (ad (0, 0, 0)), .ref (ad (7, f, 0)), .int (nI j)] (XPost G ad k (some (.int (bI (s_fillF σ j f).1))) (s_fillF σ j f).2) := by
  refine h_wr (by decide +kernel) (Nat.le_of_ble_eq_true rfl) ?_
  intro p e s m args below meth c X Y hw ls hl
  have hl : lv_has ls 4 [(0, .ref (ad (0, 0, 0))), (1, .ref (ad (7, f, 0))), (2, .int (nI j))] := hl
  have hok := hR.ok
  obtain ⟨hx, hs, hst, hi, hit, hcp, hcol, hmx, hask, -⟩ := id hR
  have hx : k (0, 0, 0) = some (.inr (3, [.int (nI (s_cop σ)), .ref (ad (1, 0, 0)), .int (nI (s_nS σ)), .ref (ad (2, 0, 0)), .int (nI (s_nF σ)), .ref (ad (3, 0, 0)), .ref (ad (4, 0, 0)), .ref (ad (5, 0, 0)), .ref (ad (5, 1, 0)), .ref (ad (5, 2, 0)), .int (nI (s_as σ).length), .int (s_dg σ)])) := hx
  have hnS : s_nS σ ≤ 10 := hok.2.1
  have hnF : s_nF σ ≤ 40 := hok.2.2.1
  unfold s_fillF
  have hcop := hok.1
  rcases hc : s_cp σ j f with _ | b0
  rotate_left
  · rw [if_pos (Or.inl (show s_has σ j f = true by unfold s_has; rw [hc]; rfl))]
    refine lv_aload_n X.1 X.2.1 dX3_fillItem_0 rfl (lv_at hl 0 rfl) ?_
    refine lv_iload_n X.1 X.2.1 dX3_fillItem_1 rfl (lv_at hl 2 rfl) ?_
    refine h_callRV (t := (0, 0, 0)) (As := [.int (nI j)]) (rest := []) X hw cs_X3_91 (c_X3_storeOf l G hR (nI j)) hx rfl rfl hl.1 rfl (Nat.le_of_ble_eq_true rfl) ⟨by decide, by decide⟩ ⟨Nat.zero_le _, Nat.zero_le _⟩ dX3_fillItem_2 ?_
    refine h_tv (b := .ref (ad (6, j, 0))) (by rw [ix_nI hj (by omega)]; rfl) ?_
    refine lv_ifnull X.1 X.2.1 dX3_fillItem_5 ?_
    refine lv_aload_n X.1 X.2.1 dX3_fillItem_8 rfl (lv_at hl 1 rfl) ?_
    refine gf_X3_113 X hw (hit f hf).1 rfl dX3_fillItem_9 ?_
    refine lv_iload_n X.1 X.2.1 dX3_fillItem_12 rfl (lv_at hl 2 rfl) ?_
    refine h_aald X hw 5 rfl (hit f hf).2 (vp_in_nI (by omega) (by decide)) dX3_fillItem_13 ?_
    refine h_tv (b := .ref (ad (9, j, f))) (by rw [nI_clamp (by omega)]; simp only [x_rws, hc]; rfl) ?_
    refine lv_ifnonnull (tgt := 28) X.1 X.2.1 dX3_fillItem_14 (by decide) ?_
    refine lv_iconst (v := 0) X.1 X.2.1 dX3_fillItem_28 (by decide) ?_
    exact h_zretW (v := 0) X Y (by decide) hw ⟨rfl, hR, fun _ _ => ⟨rfl, rfl⟩, rfl⟩ (Nat.zero_le _) (Nat.zero_le _) dX3_fillItem_29
  have hcn := cN_le (fun s => s_has σ s f) (s_nS σ)
  by_cases hfew : s_cop σ ≤ cN (fun s => s_has σ s f) (s_nS σ)
  · rw [if_pos (Or.inr hfew)]
    refine lv_aload_n X.1 X.2.1 dX3_fillItem_0 rfl (lv_at hl 0 rfl) ?_
    refine lv_iload_n X.1 X.2.1 dX3_fillItem_1 rfl (lv_at hl 2 rfl) ?_
    refine h_callRV (t := (0, 0, 0)) (As := [.int (nI j)]) (rest := []) X hw cs_X3_91 (c_X3_storeOf l G hR (nI j)) hx rfl rfl hl.1 rfl (Nat.le_of_ble_eq_true rfl) ⟨by decide, by decide⟩ ⟨Nat.zero_le _, Nat.zero_le _⟩ dX3_fillItem_2 ?_
    refine h_tv (b := .ref (ad (6, j, 0))) (by rw [ix_nI hj (by omega)]; rfl) ?_
    refine lv_ifnull X.1 X.2.1 dX3_fillItem_5 ?_
    refine lv_aload_n X.1 X.2.1 dX3_fillItem_8 rfl (lv_at hl 1 rfl) ?_
    refine gf_X3_113 X hw (hit f hf).1 rfl dX3_fillItem_9 ?_
    refine lv_iload_n X.1 X.2.1 dX3_fillItem_12 rfl (lv_at hl 2 rfl) ?_
    refine h_aald X hw 5 rfl (hit f hf).2 (vp_in_nI (by omega) (by decide)) dX3_fillItem_13 ?_
    refine h_tv (b := .null) (by rw [nI_clamp (by omega)]; simp only [x_rws, hc]; rfl) ?_
    refine lv_ifnonnullN X.1 X.2.1 dX3_fillItem_14 ?_
    refine lv_aload_n X.1 X.2.1 dX3_fillItem_17 rfl (lv_at hl 1 rfl) ?_
    refine h_callRV (t := (7, f, 0)) (As := []) (rest := []) X hw cs_X3_182 (c_X0_copyCount l G hR hf) (hit f hf).1 rfl rfl hl.1 rfl (Nat.le_of_ble_eq_true rfl) ⟨by decide, by decide⟩ ⟨Nat.zero_le _, Nat.zero_le _⟩ dX3_fillItem_18 ?_
    refine h_tv (b := .int (nI (cN (fun s => s_has σ s f) (s_nS σ)))) (by rw [cN_has10 hok]) ?_
    refine lv_aload_n X.1 X.2.1 dX3_fillItem_21 rfl (lv_at hl 0 rfl) ?_
    refine gf_X3_63 X hw hx rfl dX3_fillItem_22 ?_
    refine lv_icmp_lt (tgt := 30) X.1 X.2.1 dX3_fillItem_25 (by decide) (fun c25 => ?_) (fun c25 => ?_)
    · exact absurd c25 (nI_nlt hfew (by omega))
    · refine lv_iconst (v := 0) X.1 X.2.1 dX3_fillItem_28 (by decide) ?_
      exact h_zretW (v := 0) X Y (by decide) hw ⟨rfl, hR, fun _ _ => ⟨rfl, rfl⟩, rfl⟩ (Nat.zero_le _) (Nat.zero_le _) dX3_fillItem_29
  rw [if_neg (fun q => by
    rcases q with q | q
    · unfold s_has at q; rw [hc] at q; cases q
    · exact hfew q)]
  rcases hq : s_lead σ f with _ | q
  · rw [show s_lrow σ f = none by unfold s_lrow; rw [hq]; rfl]
    refine lv_aload_n X.1 X.2.1 dX3_fillItem_0 rfl (lv_at hl 0 rfl) ?_
    refine lv_iload_n X.1 X.2.1 dX3_fillItem_1 rfl (lv_at hl 2 rfl) ?_
    refine h_callRV (t := (0, 0, 0)) (As := [.int (nI j)]) (rest := []) X hw cs_X3_91 (c_X3_storeOf l G hR (nI j)) hx rfl rfl hl.1 rfl (Nat.le_of_ble_eq_true rfl) ⟨by decide, by decide⟩ ⟨Nat.zero_le _, Nat.zero_le _⟩ dX3_fillItem_2 ?_
    refine h_tv (b := .ref (ad (6, j, 0))) (by rw [ix_nI hj (by omega)]; rfl) ?_
    refine lv_ifnull X.1 X.2.1 dX3_fillItem_5 ?_
    refine lv_aload_n X.1 X.2.1 dX3_fillItem_8 rfl (lv_at hl 1 rfl) ?_
    refine gf_X3_113 X hw (hit f hf).1 rfl dX3_fillItem_9 ?_
    refine lv_iload_n X.1 X.2.1 dX3_fillItem_12 rfl (lv_at hl 2 rfl) ?_
    refine h_aald X hw 5 rfl (hit f hf).2 (vp_in_nI (by omega) (by decide)) dX3_fillItem_13 ?_
    refine h_tv (b := .null) (by rw [nI_clamp (by omega)]; simp only [x_rws, hc]; rfl) ?_
    refine lv_ifnonnullN X.1 X.2.1 dX3_fillItem_14 ?_
    refine lv_aload_n X.1 X.2.1 dX3_fillItem_17 rfl (lv_at hl 1 rfl) ?_
    refine h_callRV (t := (7, f, 0)) (As := []) (rest := []) X hw cs_X3_182 (c_X0_copyCount l G hR hf) (hit f hf).1 rfl rfl hl.1 rfl (Nat.le_of_ble_eq_true rfl) ⟨by decide, by decide⟩ ⟨Nat.zero_le _, Nat.zero_le _⟩ dX3_fillItem_18 ?_
    refine h_tv (b := .int (nI (cN (fun s => s_has σ s f) (s_nS σ)))) (by rw [cN_has10 hok]) ?_
    refine lv_aload_n X.1 X.2.1 dX3_fillItem_21 rfl (lv_at hl 0 rfl) ?_
    refine gf_X3_63 X hw hx rfl dX3_fillItem_22 ?_
    refine lv_icmp_lt (tgt := 30) X.1 X.2.1 dX3_fillItem_25 (by decide) (fun c25 => ?_) (fun c25 => ?_)
    · refine lv_aload_n X.1 X.2.1 dX3_fillItem_30 rfl (lv_at hl 0 rfl) ?_
      refine lv_aload_n X.1 X.2.1 dX3_fillItem_31 rfl (lv_at hl 1 rfl) ?_
      refine h_callRV (t := (0, 0, 0)) (As := [.ref (ad (7, f, 0))]) (rest := []) X hw cs_X3_139 (c_X3_majorityRow l G hR hf) hx rfl rfl hl.1 rfl (Nat.le_of_ble_eq_true rfl) ⟨by decide, by decide⟩ ⟨Nat.zero_le _, Nat.zero_le _⟩ dX3_fillItem_32 ?_
      refine h_tv (b := .null) (by rw [hq]; rfl) ?_
      refine lv_astore_nN (lv' := [(3, .null), (0, .ref (ad (0, 0, 0))), (1, .ref (ad (7, f, 0))), (2, .int (nI j))]) X.1 X.2.1 dX3_fillItem_35 rfl hl (by decide) rfl (fun ls hl => ?_)
      refine lv_aload_nN X.1 X.2.1 dX3_fillItem_36 rfl (lv_at hl 0 rfl) ?_
      refine lv_ifnonnullN X.1 X.2.1 dX3_fillItem_37 ?_
      refine lv_iconst (v := 0) X.1 X.2.1 dX3_fillItem_40 (by decide) ?_
      exact h_zretW (v := 0) X Y (by decide) hw ⟨rfl, hR, fun _ _ => ⟨rfl, rfl⟩, rfl⟩ (Nat.zero_le _) (Nat.zero_le _) dX3_fillItem_41
    · exact absurd (nI_lt (Nat.lt_of_not_le hfew) (by omega)) c25
  · obtain ⟨hq1, b, hb⟩ := s_lead_spec hq
    have hbc := (s_cnt_cp hb).1
    have hbl := hok.2.2.2.2.2.2.1 q f b hbc
    have hqj : q ≠ j := fun e => by rw [e, hc] at hbc; cases hbc
    rw [show s_lrow σ f = some b by unfold s_lrow; rw [hq, Option.bind_some, hb]]
    obtain ⟨hr1, g, hg, hgi⟩ := hcp q f b hbc
    refine lv_aload_n X.1 X.2.1 dX3_fillItem_0 rfl (lv_at hl 0 rfl) ?_
    refine lv_iload_n X.1 X.2.1 dX3_fillItem_1 rfl (lv_at hl 2 rfl) ?_
    refine h_callRV (t := (0, 0, 0)) (As := [.int (nI j)]) (rest := []) X hw cs_X3_91 (c_X3_storeOf l G hR (nI j)) hx rfl rfl hl.1 rfl (Nat.le_of_ble_eq_true rfl) ⟨by decide, by decide⟩ ⟨Nat.zero_le _, Nat.zero_le _⟩ dX3_fillItem_2 ?_
    refine h_tv (b := .ref (ad (6, j, 0))) (by rw [ix_nI hj (by omega)]; rfl) ?_
    refine lv_ifnull X.1 X.2.1 dX3_fillItem_5 ?_
    refine lv_aload_n X.1 X.2.1 dX3_fillItem_8 rfl (lv_at hl 1 rfl) ?_
    refine gf_X3_113 X hw (hit f hf).1 rfl dX3_fillItem_9 ?_
    refine lv_iload_n X.1 X.2.1 dX3_fillItem_12 rfl (lv_at hl 2 rfl) ?_
    refine h_aald X hw 5 rfl (hit f hf).2 (vp_in_nI (by omega) (by decide)) dX3_fillItem_13 ?_
    refine h_tv (b := .null) (by rw [nI_clamp (by omega)]; simp only [x_rws, hc]; rfl) ?_
    refine lv_ifnonnullN X.1 X.2.1 dX3_fillItem_14 ?_
    refine lv_aload_n X.1 X.2.1 dX3_fillItem_17 rfl (lv_at hl 1 rfl) ?_
    refine h_callRV (t := (7, f, 0)) (As := []) (rest := []) X hw cs_X3_182 (c_X0_copyCount l G hR hf) (hit f hf).1 rfl rfl hl.1 rfl (Nat.le_of_ble_eq_true rfl) ⟨by decide, by decide⟩ ⟨Nat.zero_le _, Nat.zero_le _⟩ dX3_fillItem_18 ?_
    refine h_tv (b := .int (nI (cN (fun s => s_has σ s f) (s_nS σ)))) (by rw [cN_has10 hok]) ?_
    refine lv_aload_n X.1 X.2.1 dX3_fillItem_21 rfl (lv_at hl 0 rfl) ?_
    refine gf_X3_63 X hw hx rfl dX3_fillItem_22 ?_
    refine lv_icmp_lt (tgt := 30) X.1 X.2.1 dX3_fillItem_25 (by decide) (fun c25 => ?_) (fun c25 => ?_)
    · refine lv_aload_n X.1 X.2.1 dX3_fillItem_30 rfl (lv_at hl 0 rfl) ?_
      refine lv_aload_n X.1 X.2.1 dX3_fillItem_31 rfl (lv_at hl 1 rfl) ?_
      refine h_callRV (t := (0, 0, 0)) (As := [.ref (ad (7, f, 0))]) (rest := []) X hw cs_X3_139 (c_X3_majorityRow l G hR hf) hx rfl rfl hl.1 rfl (Nat.le_of_ble_eq_true rfl) ⟨by decide, by decide⟩ ⟨Nat.zero_le _, Nat.zero_le _⟩ dX3_fillItem_32 ?_
      refine h_tv (b := .ref (ad (9, q, f))) (by rw [hq]; rfl) ?_
      refine lv_astore_n (lv' := [(3, .ref (ad (9, q, f))), (0, .ref (ad (0, 0, 0))), (1, .ref (ad (7, f, 0))), (2, .int (nI j))]) X.1 X.2.1 dX3_fillItem_35 rfl hl (by decide) rfl (fun ls hl => ?_)
      refine lv_aload_n X.1 X.2.1 dX3_fillItem_36 rfl (lv_at hl 0 rfl) ?_
      refine lv_ifnonnull (tgt := 42) X.1 X.2.1 dX3_fillItem_37 (by decide) ?_
      obtain ⟨k0, hk0⟩ : ∃ zz, zz = h_cu (h_cu k (9, j, f) none) (10, j, f) none := ⟨_, rfl⟩
      replace hw := ((hw.drop (9, j, f)).drop (10, j, f)).ren hk0
      have f0_0_0_0 : k0 (0, 0, 0) = some (.inr (3, [.int (nI (s_cop σ)), .ref (ad (1, 0, 0)), .int (nI (s_nS σ)), .ref (ad (2, 0, 0)), .int (nI (s_nF σ)), .ref (ad (3, 0, 0)), .ref (ad (4, 0, 0)), .ref (ad (5, 0, 0)), .ref (ad (5, 1, 0)), .ref (ad (5, 2, 0)), .int (nI (s_as σ).length), .int (s_dg σ)])) := by rw [hk0, h_cn _ _ (by simp), h_cn _ _ (by simp)]; exact hx
      have f0_7_f_0 : k0 (7, f, 0) = some (.inr (0, [.int (s_pk σ f), .ref (ad (8, f, 0)), .int (s_rn σ f)])) := by rw [hk0, h_cn _ _ (by simp), h_cn _ _ (by simp)]; exact (hit f hf).1
      have f0_8_f_0 : k0 (8, f, 0) = some (.inl (G.2 5, 10, x_refs (x_rws ad σ f))) := by rw [hk0, h_cn _ _ (by simp), h_cn _ _ (by simp)]; exact (hit f hf).2
      have f0_9_q_f : k0 (9, q, f) = some (.inr (1, [.ref (ad (10, q, f)), .int (nI b.length)])) := by rw [hk0, h_cn _ _ (by simp), h_cn _ _ (by simp [hqj])]; exact hr1
      have f0_10_q_f : k0 (10, q, f) = some (.inl (G.2 0, 16, .inl g)) := by rw [hk0, h_cn _ _ (by simp [hqj]), h_cn _ _ (by simp)]; exact hg
      refine lv_aload_n X.1 X.2.1 dX3_fillItem_42 rfl (lv_at hl 2 rfl) ?_
      refine gf_X3_113 X hw f0_7_f_0 rfl dX3_fillItem_43 ?_
      refine lv_iload_n X.1 X.2.1 dX3_fillItem_46 rfl (lv_at hl 3 rfl) ?_
      refine lv_aload_n X.1 X.2.1 dX3_fillItem_47 rfl (lv_at hl 0 rfl) ?_
      refine h_callWV (t := (9, q, f)) (As := []) (rest := [.int (nI j), .ref (ad (8, f, 0))]) X hw cs_X3_198 (c_X1_twin l G (t := (9, q, f)) (u := (10, q, f)) (t2 := (9, j, f)) (u2 := (10, j, f)) ⟨f0_9_q_f, g, f0_10_q_f, hgi⟩ hbl (by simp) (by rw [hk0, h_cn _ _ (by simp), h_cs]) (by rw [hk0, h_cs]) (by simp)) f0_9_q_f rfl rfl hl.1 rfl (Nat.le_of_ble_eq_true rfl) ⟨by decide, by decide⟩ ⟨(Nat.le_of_ble_eq_true rfl), (Nat.le_of_ble_eq_true rfl)⟩ dX3_fillItem_48 (fun r9 ad1 k1 H locs hp9 hw => ?_)
      obtain ⟨rfl, hr1, ho1⟩ := hp9
      refine W.eq (g2 := F0 m 51 ls [.ref (ad1 (9, j, f)), .int (nI j), .ref (ad (8, f, 0))]) rfl ?_
      have eb1_0 : ad (9, q, f) = ad1 (9, q, f) := ((ho1 (9, q, f) (by simp [hqj]) (by simp)).2).symm
      have eb1_1 : ad (0, 0, 0) = ad1 (0, 0, 0) := ((ho1 (0, 0, 0) (by simp) (by simp)).2).symm
      have eb1_2 : ad (7, f, 0) = ad1 (7, f, 0) := ((ho1 (7, f, 0) (by simp) (by simp)).2).symm
      have eb1_3 : ad (8, f, 0) = ad1 (8, f, 0) := ((ho1 (8, f, 0) (by simp) (by simp)).2).symm
      have eb1_4 : ad (1, 0, 0) = ad1 (1, 0, 0) := ((ho1 (1, 0, 0) (by simp) (by simp)).2).symm
      have eb1_5 : ad (2, 0, 0) = ad1 (2, 0, 0) := ((ho1 (2, 0, 0) (by simp) (by simp)).2).symm
      have eb1_6 : ad (3, 0, 0) = ad1 (3, 0, 0) := ((ho1 (3, 0, 0) (by simp) (by simp)).2).symm
      have eb1_7 : ad (4, 0, 0) = ad1 (4, 0, 0) := ((ho1 (4, 0, 0) (by simp) (by simp)).2).symm
      have eb1_8 : ad (5, 0, 0) = ad1 (5, 0, 0) := ((ho1 (5, 0, 0) (by simp) (by simp)).2).symm
      have eb1_9 : ad (5, 1, 0) = ad1 (5, 1, 0) := ((ho1 (5, 1, 0) (by simp) (by simp)).2).symm
      have eb1_10 : ad (5, 2, 0) = ad1 (5, 2, 0) := ((ho1 (5, 2, 0) (by simp) (by simp)).2).symm
      have eb1_11 : ad (10, q, f) = ad1 (10, q, f) := ((ho1 (10, q, f) (by simp) (by simp [hqj])).2).symm
      simp only [eb1_0, eb1_1, eb1_2, eb1_3, eb1_4, eb1_5, eb1_6, eb1_7, eb1_8, eb1_9, eb1_10, eb1_11] at hl
      simp only [eb1_0, eb1_1, eb1_2, eb1_3, eb1_4, eb1_5, eb1_6, eb1_7, eb1_8, eb1_9, eb1_10, eb1_11]
      have f1_0_0_0 : k1 (0, 0, 0) = some (.inr (3, [.int (nI (s_cop σ)), .ref (ad1 (1, 0, 0)), .int (nI (s_nS σ)), .ref (ad1 (2, 0, 0)), .int (nI (s_nF σ)), .ref (ad1 (3, 0, 0)), .ref (ad1 (4, 0, 0)), .ref (ad1 (5, 0, 0)), .ref (ad1 (5, 1, 0)), .ref (ad1 (5, 2, 0)), .int (nI (s_as σ).length), .int (s_dg σ)])) := by rw [(ho1 (0, 0, 0) (by simp) (by simp)).1, f0_0_0_0]; simp only [eb1_0, eb1_1, eb1_2, eb1_3, eb1_4, eb1_5, eb1_6, eb1_7, eb1_8, eb1_9, eb1_10, eb1_11]
      have f1_7_f_0 : k1 (7, f, 0) = some (.inr (0, [.int (s_pk σ f), .ref (ad1 (8, f, 0)), .int (s_rn σ f)])) := by rw [(ho1 (7, f, 0) (by simp) (by simp)).1, f0_7_f_0]; simp only [eb1_0, eb1_1, eb1_2, eb1_3, eb1_4, eb1_5, eb1_6, eb1_7, eb1_8, eb1_9, eb1_10, eb1_11]
      have f1_8_f_0 : k1 (8, f, 0) = some (.inl (G.2 5, 10, x_refs (x_rws ad σ f))) := by rw [(ho1 (8, f, 0) (by simp) (by simp)).1, f0_8_f_0]
      have f1_9_q_f : k1 (9, q, f) = some (.inr (1, [.ref (ad1 (10, q, f)), .int (nI b.length)])) := by rw [(ho1 (9, q, f) (by simp [hqj]) (by simp)).1, f0_9_q_f]; simp only [eb1_0, eb1_1, eb1_2, eb1_3, eb1_4, eb1_5, eb1_6, eb1_7, eb1_8, eb1_9, eb1_10, eb1_11]
      have f1_10_q_f : k1 (10, q, f) = some (.inl (G.2 0, 16, .inl g)) := by rw [(ho1 (10, q, f) (by simp) (by simp [hqj])).1, f0_10_q_f]
      refine h_aast (u := (9, j, f)) X hw 5 1 rfl f1_8_f_0 hr1.1 rfl (vp_in_nI (by omega) (by decide)) dX3_fillItem_51 (fun H locs hw => ?_)
      obtain ⟨k2, hk2⟩ : ∃ zz, zz = h_cu k1 (8, f, 0) (some (.inl (G.2 5, 10, x_refs (va_up (x_rws ad σ f) (nI j).toNatClampNeg (some (ad1 (9, j, f))))))) := ⟨_, rfl⟩
      replace hw := h_W.ren hw hk2
      have f2_0_0_0 : k2 (0, 0, 0) = some (.inr (3, [.int (nI (s_cop σ)), .ref (ad1 (1, 0, 0)), .int (nI (s_nS σ)), .ref (ad1 (2, 0, 0)), .int (nI (s_nF σ)), .ref (ad1 (3, 0, 0)), .ref (ad1 (4, 0, 0)), .ref (ad1 (5, 0, 0)), .ref (ad1 (5, 1, 0)), .ref (ad1 (5, 2, 0)), .int (nI (s_as σ).length), .int (s_dg σ)])) := by rw [hk2, h_cn _ _ (by simp)]; exact f1_0_0_0
      have f2_7_f_0 : k2 (7, f, 0) = some (.inr (0, [.int (s_pk σ f), .ref (ad1 (8, f, 0)), .int (s_rn σ f)])) := by rw [hk2, h_cn _ _ (by simp)]; exact f1_7_f_0
      have f2_8_f_0 : k2 (8, f, 0) = some (.inl (G.2 5, 10, x_refs (va_up (x_rws ad σ f) (nI j).toNatClampNeg (some (ad1 (9, j, f)))))) := by rw [hk2]; exact h_cs _ _ _
      have f2_9_q_f : k2 (9, q, f) = some (.inr (1, [.ref (ad1 (10, q, f)), .int (nI b.length)])) := by rw [hk2, h_cn _ _ (by simp)]; exact f1_9_q_f
      have f2_10_q_f : k2 (10, q, f) = some (.inl (G.2 0, 16, .inl g)) := by rw [hk2, h_cn _ _ (by simp)]; exact f1_10_q_f
      have f2_9_j_f : k2 (9, j, f) = some (.inr (1, [.ref (ad1 (10, j, f)), .int (nI b.length)])) := by rw [hk2, h_cn _ _ (by simp)]; exact hr1.1
      refine lv_aload_n X.1 X.2.1 dX3_fillItem_52 rfl (lv_at hl 2 rfl) ?_
      refine lv_dup X.1 X.2.1 dX3_fillItem_53 rfl ?_
      refine gf_X3_188 X hw f2_7_f_0 rfl dX3_fillItem_54 ?_
      refine lv_iconst (v := 1) X.1 X.2.1 dX3_fillItem_57 (by decide) ?_
      refine lv_iadd X.1 X.2.1 dX3_fillItem_58 ?_
      refine pf_X3_188 X hw f2_7_f_0 rfl rfl (Nat.le_of_ble_eq_true rfl) dX3_fillItem_59 (fun H locs hw => ?_)
      obtain ⟨k3, hk3⟩ : ∃ zz, zz = h_cu k2 (7, f, 0) (some (.inr (0, [.int (s_pk σ f), .ref (ad1 (8, f, 0)), .int (s_rn σ f + 1)]))) := ⟨_, rfl⟩
      replace hw := h_W.ren hw hk3
      have f3_0_0_0 : k3 (0, 0, 0) = some (.inr (3, [.int (nI (s_cop σ)), .ref (ad1 (1, 0, 0)), .int (nI (s_nS σ)), .ref (ad1 (2, 0, 0)), .int (nI (s_nF σ)), .ref (ad1 (3, 0, 0)), .ref (ad1 (4, 0, 0)), .ref (ad1 (5, 0, 0)), .ref (ad1 (5, 1, 0)), .ref (ad1 (5, 2, 0)), .int (nI (s_as σ).length), .int (s_dg σ)])) := by rw [hk3, h_cn _ _ (by simp)]; exact f2_0_0_0
      have f3_7_f_0 : k3 (7, f, 0) = some (.inr (0, [.int (s_pk σ f), .ref (ad1 (8, f, 0)), .int (s_rn σ f + 1)])) := by rw [hk3]; exact h_cs _ _ _
      have f3_8_f_0 : k3 (8, f, 0) = some (.inl (G.2 5, 10, x_refs (va_up (x_rws ad σ f) (nI j).toNatClampNeg (some (ad1 (9, j, f)))))) := by rw [hk3, h_cn _ _ (by simp)]; exact f2_8_f_0
      have f3_9_q_f : k3 (9, q, f) = some (.inr (1, [.ref (ad1 (10, q, f)), .int (nI b.length)])) := by rw [hk3, h_cn _ _ (by simp)]; exact f2_9_q_f
      have f3_10_q_f : k3 (10, q, f) = some (.inl (G.2 0, 16, .inl g)) := by rw [hk3, h_cn _ _ (by simp)]; exact f2_10_q_f
      have f3_9_j_f : k3 (9, j, f) = some (.inr (1, [.ref (ad1 (10, j, f)), .int (nI b.length)])) := by rw [hk3, h_cn _ _ (by simp)]; exact f2_9_j_f
      refine lv_iconst (v := 1) X.1 X.2.1 dX3_fillItem_62 (by decide) ?_
      have cpt : ∀ a g, s_cp (s_setRn (s_setCp σ j f (some b)) f (s_rn σ f + 1)) a g = s_c2 (s_cp σ) j f (some b) a g := fun _ _ => rfl
      have hO : ∀ t : h_T, t ≠ (7, f, 0) → t ≠ (8, f, 0) → t ≠ (9, j, f) → t ≠ (10, j, f) → k3 t = k t ∧ ad1 t = ad t := fun t h7 h8 h9 h10 => ⟨by rw [hk3, h_cn _ _ h7, hk2, h_cn _ _ h8, (ho1 t h9 h10).1, hk0, h_cn _ _ h10, h_cn _ _ h9], (ho1 t h9 h10).2⟩
      have ha : ∀ t : h_T, t ≠ (9, j, f) → t ≠ (10, j, f) → ad1 t = ad t := fun t h9 h10 => (ho1 t h9 h10).2
      have hrw : x_row G ad1 k3 (9, j, f) (10, j, f) b := hr1.congr (by rw [hk3, h_cn _ _ (by simp), hk2, h_cn _ _ (by simp)]) (by rw [hk3, h_cn _ _ (by simp), hk2, h_cn _ _ (by simp)]) rfl
      exact h_zretW (v := 1) X Y (by decide) hw ⟨rfl, hR.file (τ := s_setRn (s_setCp σ j f (some b)) f (s_rn σ f + 1)) (f := f) rfl rfl rfl (fun g hg => pk_un hg) rfl (fun a g hg => by rw [cpt, s_c2_n (fun h => hg h.2)]) hf (fun a ha2 => by
        rw [cpt, s_c2_n (fun h => by have := h.1; omega)]
        exact hok.2.2.2.2.2.1 a f (Or.inl ha2)) (fun a l hl => by
        rw [cpt] at hl
        by_cases haj : a = j
        · rw [haj, s_c2_s] at hl; cases hl; exact hbl
        · rw [s_c2_n (fun h => haj h.1)] at hl; exact hok.2.2.2.2.2.2.1 a f l hl) ⟨by
        rw [f3_7_f_0]
        show some (Sum.inr (0, [Value.int (s_pk σ f), Value.ref (ad1 (8, f, 0)), Value.int (s_rn σ f + 1)])) = some (Sum.inr (0, [Value.int (s_pk σ f), Value.ref (ad1 (8, f, 0)), Value.int (upd (s_rn σ) f (s_rn σ f + 1) f)]))
        rw [pk_us], by
        rw [f3_8_f_0, nI_clamp (by omega)]
        have : x_rws ad1 (s_setRn (s_setCp σ j f (some b)) f (s_rn σ f + 1)) f = va_up (x_rws ad σ f) j (some (ad1 (9, j, f))) := by
          funext a
          unfold x_rws
          rw [cpt]
          by_cases haj : a = j
          · rw [haj, s_c2_s, va_up_self]; rfl
          · rw [s_c2_n (fun h => haj h.1), va_up_ne _ _ haj, ha _ (by simp [haj]) (by simp)]
        rw [this]⟩ (fun a l hl => by
        rw [cpt] at hl
        by_cases haj : a = j
        · rw [haj, s_c2_s] at hl; cases hl; rw [haj]; exact hrw
        · rw [s_c2_n (fun h => haj h.1)] at hl
          have p9 := hO (9, a, f) (by simp) (by simp) (by simp [haj]) (by simp)
          have p10 := hO (10, a, f) (by simp) (by simp) (by simp) (by simp [haj])
          exact (hcp a f l hl).congr p9.1 p10.1 p10.2) (ha _ (by simp) (by simp)) (fun t _ h7 h8 h9 => hO t h7 h8 (h9 j).1 (h9 j).2), fun t ht => hO t (t20 ht (Nat.le_of_ble_eq_true rfl)) (t20 ht (Nat.le_of_ble_eq_true rfl)) (t20 ht (Nat.le_of_ble_eq_true rfl)) (t20 ht (Nat.le_of_ble_eq_true rfl)), ha _ (by simp) (by simp)⟩ (Nat.le_of_ble_eq_true rfl) (Nat.le_of_ble_eq_true rfl) dX3_fillItem_63
    · exact absurd (nI_lt (Nat.lt_of_not_le hfew) (by omega)) c25
set_option maxHeartbeats 4000000 in
set_option maxRecDepth 100000 in
/-- fill -/
theorem c_X3_fill (l : Launch) (G : h_G) {ad : h_T → Nat} {k : h_C} {σ : S_t} (hR : RX G ad k σ) (x : Int32) : h_Wr l yX3_fill cX3_fill 6 (some .int) 6 137 80 720 G ad k [.ref (ad (0, 0, 0)), .int x] (XPost G ad k (some (.int (sp_fill σ x).1)) (sp_fill σ x).2) := by
  refine h_wr (by decide +kernel) (Nat.le_of_ble_eq_true rfl) ?_
  intro p e s m args below meth c X Y hw ls hl
  have hl : lv_has ls 6 [(0, .ref (ad (0, 0, 0))), (1, .int x)] := hl
  have hok := hR.ok
  obtain ⟨hx, hs, hst, hi, hit, hcp, hcol, hmx, hask, -⟩ := id hR
  have hx : k (0, 0, 0) = some (.inr (3, [.int (nI (s_cop σ)), .ref (ad (1, 0, 0)), .int (nI (s_nS σ)), .ref (ad (2, 0, 0)), .int (nI (s_nF σ)), .ref (ad (3, 0, 0)), .ref (ad (4, 0, 0)), .ref (ad (5, 0, 0)), .ref (ad (5, 1, 0)), .ref (ad (5, 2, 0)), .int (nI (s_as σ).length), .int (s_dg σ)])) := hx
  have hnS : s_nS σ ≤ 10 := hok.2.1
  have hnF : s_nF σ ≤ 40 := hok.2.2.1
  unfold sp_fill
  rcases hc : ix x (s_nS σ) with _ | j
  · refine lv_aload_n X.1 X.2.1 dX3_fill_0 rfl (lv_at hl 0 rfl) ?_
    refine lv_iload_n X.1 X.2.1 dX3_fill_1 rfl (lv_at hl 1 rfl) ?_
    refine h_callRV (t := (0, 0, 0)) (As := [.int x]) (rest := []) X hw cs_X3_91 (c_X3_storeOf l G hR x) hx rfl rfl hl.1 rfl (Nat.le_of_ble_eq_true rfl) ⟨by decide, by decide⟩ ⟨Nat.zero_le _, Nat.zero_le _⟩ dX3_fill_2 ?_
    refine h_tv (b := .null) (by rw [hc]; rfl) ?_
    refine lv_astore_nN (lv' := [(2, .null), (0, .ref (ad (0, 0, 0))), (1, .int x)]) X.1 X.2.1 dX3_fill_5 rfl hl (by decide) rfl (fun ls hl => ?_)
    refine lv_aload_nN X.1 X.2.1 dX3_fill_6 rfl (lv_at hl 0 rfl) ?_
    refine lv_ifnonnullN X.1 X.2.1 dX3_fill_7 ?_
    refine lv_iconst (v := (-1)) X.1 X.2.1 dX3_fill_10 (by decide) ?_
    exact h_iretW (v := -1) X Y hw ⟨rfl, hR, fun _ _ => ⟨rfl, rfl⟩, rfl⟩ (Nat.zero_le _) (Nat.zero_le _) dX3_fill_11
  · have hj : j < s_nS σ := ix_lt hc
    have ex : x = nI j := ix_eq hc
    have hsj := hst j hj
    unfold x_st at hsj
    show W p l e _ s m args below meth c _ _ _ _ (MQ below (h_Qw G ad k s.heap.size (XPost G ad k (some (.int ((if s_si σ j = true then (-3, σ) else (nI (sp_fillN σ j (s_nF σ)).1, (sp_fillN σ j (s_nF σ)).2)) : Int32 × S_t).1)) ((if s_si σ j = true then (-3, σ) else (nI (sp_fillN σ j (s_nF σ)).1, (sp_fillN σ j (s_nF σ)).2)) : Int32 × S_t).2)) args s 80 720 (h_A ad k s.heap.size)) _
    rcases hsi : s_si σ j with _ | _
    rotate_left
    · rw [if_pos rfl]
      refine lv_aload_n X.1 X.2.1 dX3_fill_0 rfl (lv_at hl 0 rfl) ?_
      refine lv_iload_n X.1 X.2.1 dX3_fill_1 rfl (lv_at hl 1 rfl) ?_
      refine h_callRV (t := (0, 0, 0)) (As := [.int x]) (rest := []) X hw cs_X3_91 (c_X3_storeOf l G hR x) hx rfl rfl hl.1 rfl (Nat.le_of_ble_eq_true rfl) ⟨by decide, by decide⟩ ⟨Nat.zero_le _, Nat.zero_le _⟩ dX3_fill_2 ?_
      refine h_tv (b := .ref (ad (6, j, 0))) (by rw [hc]; rfl) ?_
      refine lv_astore_n (lv' := [(2, .ref (ad (6, j, 0))), (0, .ref (ad (0, 0, 0))), (1, .int x)]) X.1 X.2.1 dX3_fill_5 rfl hl (by decide) rfl (fun ls hl => ?_)
      refine lv_aload_n X.1 X.2.1 dX3_fill_6 rfl (lv_at hl 0 rfl) ?_
      refine lv_ifnonnull (tgt := 12) X.1 X.2.1 dX3_fill_7 (by decide) ?_
      refine lv_aload_n X.1 X.2.1 dX3_fill_12 rfl (lv_at hl 0 rfl) ?_
      refine gf_X3_95 X hw hsj rfl dX3_fill_13 ?_
      refine lv_if_ne (tgt := 22) X.1 X.2.1 dX3_fill_16 (by decide) (fun c16 => ?_) (fun c16 => ?_)
      · exact absurd (by rw [hsi]; rfl) c16
      · refine lv_bipush (v := (-3)) X.1 X.2.1 dX3_fill_19 (by decide) ?_
        exact h_iretW (v := -3) X Y hw ⟨rfl, hR, fun _ _ => ⟨rfl, rfl⟩, rfl⟩ (Nat.zero_le _) (Nat.zero_le _) dX3_fill_21
    · rw [if_neg (fun q => by cases q)]
      have loop : ∀ (n i : Nat), i ≤ s_nF σ → s_nF σ + 1 ≤ i + n → ∀ (aa : h_T → Nat) (kk : h_C) (H : Heap) (locs : List Loc), RX G aa kk (sp_fillN σ j i).2 → (∀ t : h_T, 20 ≤ t.1 → kk t = k t ∧ aa t = ad t) → aa (0, 0, 0) = ad (0, 0, 0) → h_W G.1 h_cl (h_A ad k s.heap.size) s.heap aa kk H locs → ∀ (ls : Array Slot), lv_has ls 6 [(0, .ref (aa (0, 0, 0))), (1, .int (nI j)), (3, .int (nI ((sp_fillN σ j i).1))), (4, .int (nI i))] → W p l e (h_rm 6 137 80 720) s m args below meth c H locs (2 * i) (18 * i) (MQ below (h_Qw G ad k s.heap.size (XPost G ad k (some (.int (nI (sp_fillN σ j (s_nF σ)).1, (sp_fillN σ j (s_nF σ)).2).1)) (nI (sp_fillN σ j (s_nF σ)).1, (sp_fillN σ j (s_nF σ)).2).2)) args s 80 720 (h_A ad k s.heap.size)) (F0 m 27 ls []) := by
        intro n
        induction n with
        | zero =>
          intro i h1 h2
          exact absurd h2 (by omega)
        | succ n ih =>
          intro i hii hni aa kk H locs hRk h20 h00 hw ls hl
          obtain ⟨τ, hτ⟩ : ∃ zz, zz = (sp_fillN σ j i).2 := ⟨_, rfl⟩
          rw [← hτ] at hRk
          obtain ⟨e1, e2, e3⟩ := fillNN σ j i
          rw [← hτ] at e1 e2 e3
          have eF : s_nF τ = s_nF σ := by unfold s_nF; rw [e1]
          have eS : s_nS τ = s_nS σ := by unfold s_nS; rw [e1]
          have hle := fillN_le σ j i
          have gx : kk (0, 0, 0) = some (.inr (3, [.int (nI (s_cop τ)), .ref (aa (1, 0, 0)), .int (nI (s_nS τ)), .ref (aa (2, 0, 0)), .int (nI (s_nF τ)), .ref (aa (3, 0, 0)), .ref (aa (4, 0, 0)), .ref (aa (5, 0, 0)), .ref (aa (5, 1, 0)), .ref (aa (5, 2, 0)), .int (nI (s_as τ).length), .int (s_dg τ)])) := hRk.1
          obtain ⟨-, -, -, gi0, git, -, -, -, -, gok⟩ := id hRk
          refine lv_iload X.1 X.2.1 dX3_fill_27 (lv_at hl 3 rfl) ?_
          refine lv_aload_n X.1 X.2.1 dX3_fill_29 rfl (lv_at hl 0 rfl) ?_
          refine gf_X3_25 X hw gx rfl dX3_fill_30 ?_
          refine lv_icmp_ge (tgt := 69) X.1 X.2.1 dX3_fill_33 (by decide) (fun c33 => ?_) (fun c33 => ?_)
          · refine lv_iload_n X.1 X.2.1 dX3_fill_69 rfl (lv_at hl 2 rfl) ?_
            have hiE : s_nF σ = i := Nat.le_antisymm (by rw [← eF]; exact Nat.le_of_not_lt (fun q => absurd c33 (nI_ge q (by omega)))) hii
            rw [hiE]
            exact h_iretW X Y hw ⟨rfl, by rw [← hτ]; exact hRk, h20, h00⟩ (by omega) (by omega) dX3_fill_70
          · have hib : i < s_nF τ := Nat.lt_of_not_le (fun q => c33 (nI_le q (by omega)))
            have gi := (git i hib).1
            rcases hfl : (s_fillF τ j i).1 with _ | _
            · refine lv_aload_n X.1 X.2.1 dX3_fill_36 rfl (lv_at hl 0 rfl) ?_
              refine gf_X3_21 X hw gx rfl dX3_fill_37 ?_
              refine lv_iload X.1 X.2.1 dX3_fill_40 (lv_at hl 3 rfl) ?_
              refine h_aald X hw 4 rfl gi0 (vp_in_nI (by omega) (by decide)) dX3_fill_42 ?_
              refine h_tv (b := .ref (aa (7, i, 0))) (by rw [nI_clamp (by omega)]; simp only [x_ite, if_pos hib, va_rf]) ?_
              refine lv_astore (lv' := [(5, .ref (aa (7, i, 0))), (0, .ref (aa (0, 0, 0))), (1, .int (nI j)), (3, .int (nI ((sp_fillN σ j i).1))), (4, .int (nI i))]) X.1 X.2.1 dX3_fill_43 hl (by decide) rfl (fun ls hl => ?_)
              refine lv_aload X.1 X.2.1 dX3_fill_45 (lv_at hl 0 rfl) ?_
              refine lv_ifnull X.1 X.2.1 dX3_fill_47 ?_
              refine lv_aload_n X.1 X.2.1 dX3_fill_50 rfl (lv_at hl 1 rfl) ?_
              refine lv_aload X.1 X.2.1 dX3_fill_51 (lv_at hl 0 rfl) ?_
              refine lv_iload_n X.1 X.2.1 dX3_fill_53 rfl (lv_at hl 2 rfl) ?_
              refine h_callWV (t := (0, 0, 0)) (As := [.ref (aa (7, i, 0)), .int (nI j)]) (rest := []) X hw cs_X3_149 (c_X3_fillItem l G hRk hib (by omega)) gx rfl rfl hl.1 rfl (Nat.le_of_ble_eq_true rfl) ⟨by decide, by decide⟩ ⟨by show 2 * i + 2 ≤ 80; omega, by show 18 * i + 18 ≤ 720; omega⟩ dX3_fill_54 (fun r9 ad1 k1 H locs hp9 hw => ?_)
              obtain ⟨rfl, hRn, hfr, ha0⟩ := hp9
              refine W.eq (g2 := F0 m 57 ls [.int (bI (s_fillF τ j i).1)]) rfl ?_
              have eb1_0 : aa (0, 0, 0) = ad1 (0, 0, 0) := (ha0).symm
              simp only [eb1_0] at hl
              refine h_ti (b := 0) (by rw [hfl]; rfl) ?_
              refine lv_if_eq (tgt := 63) X.1 X.2.1 dX3_fill_57 (by decide) (fun c57 => ?_) (fun c57 => ?_)
              · refine lv_iinc (v := nI (i + 1)) (lv' := [(4, .int (nI (i + 1))), (5, .ref (aa (7, i, 0))), (0, .ref (ad1 (0, 0, 0))), (1, .int (nI j)), (3, .int (nI ((sp_fillN σ j i).1)))]) X.1 X.2.1 dX3_fill_63 hl (k := 4) rfl (nI_1 _) (by decide) rfl (fun ls hl => ?_)
                refine lv_goto (tgt := 27) X.1 X.2.1 dX3_fill_66 (by decide) ?_
                have es : sp_fillN σ j (i + 1) = ((sp_fillN σ j i).1 + (if (s_fillF (sp_fillN σ j i).2 j i).1 then 1 else 0), (s_fillF (sp_fillN σ j i).2 j i).2) := rfl
                rw [← hτ, hfl] at es
                refine W.widen (k := 2 * (i + 1)) (n := 18 * (i + 1)) (by omega) (by omega) ?_
                exact ih (i + 1) (by omega) (by omega) ad1 k1 _ _ (by rw [es]; exact hRn) (fun t ht => ⟨by rw [(hfr t ht).1, (h20 t ht).1], by rw [(hfr t ht).2, (h20 t ht).2]⟩) (ha0.trans h00) hw ls (by
                  rw [es]
                  exact lv_sub hl [2, 3, 4, 0] rfl)
              · exact absurd (by decide) c57
            · refine lv_aload_n X.1 X.2.1 dX3_fill_36 rfl (lv_at hl 0 rfl) ?_
              refine gf_X3_21 X hw gx rfl dX3_fill_37 ?_
              refine lv_iload X.1 X.2.1 dX3_fill_40 (lv_at hl 3 rfl) ?_
              refine h_aald X hw 4 rfl gi0 (vp_in_nI (by omega) (by decide)) dX3_fill_42 ?_
              refine h_tv (b := .ref (aa (7, i, 0))) (by rw [nI_clamp (by omega)]; simp only [x_ite, if_pos hib, va_rf]) ?_
              refine lv_astore (lv' := [(5, .ref (aa (7, i, 0))), (0, .ref (aa (0, 0, 0))), (1, .int (nI j)), (3, .int (nI ((sp_fillN σ j i).1))), (4, .int (nI i))]) X.1 X.2.1 dX3_fill_43 hl (by decide) rfl (fun ls hl => ?_)
              refine lv_aload X.1 X.2.1 dX3_fill_45 (lv_at hl 0 rfl) ?_
              refine lv_ifnull X.1 X.2.1 dX3_fill_47 ?_
              refine lv_aload_n X.1 X.2.1 dX3_fill_50 rfl (lv_at hl 1 rfl) ?_
              refine lv_aload X.1 X.2.1 dX3_fill_51 (lv_at hl 0 rfl) ?_
              refine lv_iload_n X.1 X.2.1 dX3_fill_53 rfl (lv_at hl 2 rfl) ?_
              refine h_callWV (t := (0, 0, 0)) (As := [.ref (aa (7, i, 0)), .int (nI j)]) (rest := []) X hw cs_X3_149 (c_X3_fillItem l G hRk hib (by omega)) gx rfl rfl hl.1 rfl (Nat.le_of_ble_eq_true rfl) ⟨by decide, by decide⟩ ⟨by show 2 * i + 2 ≤ 80; omega, by show 18 * i + 18 ≤ 720; omega⟩ dX3_fill_54 (fun r9 ad1 k1 H locs hp9 hw => ?_)
              obtain ⟨rfl, hRn, hfr, ha0⟩ := hp9
              refine W.eq (g2 := F0 m 57 ls [.int (bI (s_fillF τ j i).1)]) rfl ?_
              have eb1_0 : aa (0, 0, 0) = ad1 (0, 0, 0) := (ha0).symm
              simp only [eb1_0] at hl
              refine h_ti (b := 1) (by rw [hfl]; rfl) ?_
              refine lv_if_eq (tgt := 63) X.1 X.2.1 dX3_fill_57 (by decide) (fun c57 => ?_) (fun c57 => ?_)
              · exact absurd c57 (by decide)
              · refine lv_iinc (v := nI (((sp_fillN σ j i).1) + 1)) (lv' := [(3, .int (nI (((sp_fillN σ j i).1) + 1))), (5, .ref (aa (7, i, 0))), (0, .ref (ad1 (0, 0, 0))), (1, .int (nI j)), (4, .int (nI i))]) X.1 X.2.1 dX3_fill_60 hl (k := 3) rfl (nI_1 _) (by decide) rfl (fun ls hl => ?_)
                refine lv_iinc (v := nI (i + 1)) (lv' := [(4, .int (nI (i + 1))), (3, .int (nI (((sp_fillN σ j i).1) + 1))), (5, .ref (aa (7, i, 0))), (0, .ref (ad1 (0, 0, 0))), (1, .int (nI j))]) X.1 X.2.1 dX3_fill_63 hl (k := 4) rfl (nI_1 _) (by decide) rfl (fun ls hl => ?_)
                refine lv_goto (tgt := 27) X.1 X.2.1 dX3_fill_66 (by decide) ?_
                have es : sp_fillN σ j (i + 1) = ((sp_fillN σ j i).1 + (if (s_fillF (sp_fillN σ j i).2 j i).1 then 1 else 0), (s_fillF (sp_fillN σ j i).2 j i).2) := rfl
                rw [← hτ, hfl] at es
                refine W.widen (k := 2 * (i + 1)) (n := 18 * (i + 1)) (by omega) (by omega) ?_
                exact ih (i + 1) (by omega) (by omega) ad1 k1 _ _ (by rw [es]; exact hRn) (fun t ht => ⟨by rw [(hfr t ht).1, (h20 t ht).1], by rw [(hfr t ht).2, (h20 t ht).2]⟩) (ha0.trans h00) hw ls (by
                  rw [es]
                  exact lv_sub hl [3, 4, 1, 0] rfl)
      subst ex
      refine lv_aload_n X.1 X.2.1 dX3_fill_0 rfl (lv_at hl 0 rfl) ?_
      refine lv_iload_n X.1 X.2.1 dX3_fill_1 rfl (lv_at hl 1 rfl) ?_
      refine h_callRV (t := (0, 0, 0)) (As := [.int (nI j)]) (rest := []) X hw cs_X3_91 (c_X3_storeOf l G hR (nI j)) hx rfl rfl hl.1 rfl (Nat.le_of_ble_eq_true rfl) ⟨by decide, by decide⟩ ⟨Nat.zero_le _, Nat.zero_le _⟩ dX3_fill_2 ?_
      refine h_tv (b := .ref (ad (6, j, 0))) (by rw [hc]; rfl) ?_
      refine lv_astore_n (lv' := [(2, .ref (ad (6, j, 0))), (0, .ref (ad (0, 0, 0))), (1, .int (nI j))]) X.1 X.2.1 dX3_fill_5 rfl hl (by decide) rfl (fun ls hl => ?_)
      refine lv_aload_n X.1 X.2.1 dX3_fill_6 rfl (lv_at hl 0 rfl) ?_
      refine lv_ifnonnull (tgt := 12) X.1 X.2.1 dX3_fill_7 (by decide) ?_
      refine lv_aload_n X.1 X.2.1 dX3_fill_12 rfl (lv_at hl 0 rfl) ?_
      refine gf_X3_95 X hw hsj rfl dX3_fill_13 ?_
      refine lv_if_ne (tgt := 22) X.1 X.2.1 dX3_fill_16 (by decide) (fun c16 => ?_) (fun c16 => ?_)
      · refine lv_iconst (v := 0) X.1 X.2.1 dX3_fill_22 (by decide) ?_
        refine lv_istore_n (lv' := [(3, .int 0), (2, .ref (ad (6, j, 0))), (0, .ref (ad (0, 0, 0))), (1, .int (nI j))]) X.1 X.2.1 dX3_fill_23 rfl hl (by decide) rfl (fun ls hl => ?_)
        refine lv_iconst (v := 0) X.1 X.2.1 dX3_fill_24 (by decide) ?_
        refine lv_istore (lv' := [(4, .int 0), (3, .int 0), (2, .ref (ad (6, j, 0))), (0, .ref (ad (0, 0, 0))), (1, .int (nI j))]) X.1 X.2.1 dX3_fill_25 hl (by decide) rfl (fun ls hl => ?_)
        exact loop (s_nF σ + 1) 0 (by omega) (by omega) ad k _ _ hR (fun _ _ => ⟨rfl, rfl⟩) rfl hw ls (lv_sub hl [3, 4, 1, 0] rfl)
      · exact absurd c16 (by rw [hsi]; decide)
end
section
/-! ===== placing a new file's copies ===== -/
def s_ld (σ : S_t) (s : Nat) : Nat := cN (fun f => s_has σ s f) (s_nF σ)
/-- the first store in the order among the first n that answer and aren't in c -/
def s_bst (σ : S_t) (c : Nat → Bool) : Nat → Option Nat
  | 0 => none
  | n + 1 => match s_bst σ c n with
    | none => if !s_si σ n && !c n then some n else none
    | some j => if (!s_si σ n && !c n) && decide (s_ld σ n < s_ld σ j) then some n else some j
theorem bst_lt {σ : S_t} {c : Nat → Bool} : ∀ {n j : Nat}, s_bst σ c n = some j → j < n ∧ s_si σ j = false ∧ c j = false
  | 0, j, h => by cases h
  | n + 1, j, h => by
    unfold s_bst at h
    cases hb : s_bst σ c n with
    | none =>
      rw [hb] at h
      dsimp only at h
      split at h
      · rename_i hc
        cases h
        simp at hc
        exact ⟨Nat.lt_succ_self _, hc.1, hc.2⟩
      · cases h
    | some q =>
      rw [hb] at h
      dsimp only at h
      split at h
      · rename_i hc
        cases h
        simp at hc
        exact ⟨Nat.lt_succ_self _, hc.1.1, hc.1.2⟩
      · cases h
        have := bst_lt hb
        exact ⟨by omega, this.2⟩
theorem bst_skip {σ : S_t} {c : Nat → Bool} {n : Nat} (h : (!s_si σ n && !c n) = false) : s_bst σ c (n + 1) = s_bst σ c n := by
  conv => lhs; unfold s_bst
  rw [h]
  cases s_bst σ c n <;> rfl
theorem bst_new {σ : S_t} {c : Nat → Bool} {n : Nat} (h : (!s_si σ n && !c n) = true) (hb : s_bst σ c n = none) : s_bst σ c (n + 1) = some n := by
  conv => lhs; unfold s_bst
  rw [h, hb]
  rfl
theorem bst_less {σ : S_t} {c : Nat → Bool} {n j : Nat} (h : (!s_si σ n && !c n) = true) (hb : s_bst σ c n = some j) (hl : s_ld σ n < s_ld σ j) : s_bst σ c (n + 1) = some n := by
  conv => lhs; unfold s_bst
  rw [h, hb]
  simp [hl]
theorem bst_keep {σ : S_t} {c : Nat → Bool} {n j : Nat} (hb : s_bst σ c n = some j) (hl : ¬ s_ld σ n < s_ld σ j) : s_bst σ c (n + 1) = some j := by
  conv => lhs; unfold s_bst
  rw [hb]
  simp [hl]
def s_nxt (σ : S_t) (c : Nat → Bool) : Nat → Bool := fun s => c s || decide (s_bst σ c (s_nS σ) = some s)
def s_chN (σ : S_t) : Nat → Nat → Bool
  | 0 => fun _ => false
  | i + 1 => s_nxt σ (s_chN σ i)
theorem chN_lt {σ : S_t} : ∀ {i s : Nat}, s_chN σ i s = true → s < s_nS σ
  | 0, s, h => by cases h
  | i + 1, s, h => by
    have h : (s_chN σ i s || decide (s_bst σ (s_chN σ i) (s_nS σ) = some s)) = true := h
    simp at h
    rcases h with h | h
    · exact chN_lt h
    · exact (bst_lt h).1
def oI (o : Option Nat) : Int32 := match o with
  | none => -1
  | some j => nI j
def oL (σ : S_t) (o : Option Nat) : Int32 := match o with
  | none => 0
  | some j => nI (s_ld σ j)
def s_put (σ : S_t) (x : Int32) : S_t := ((s_cop σ, s_nS σ, s_nF σ + 1), σ.2.1, (upd (s_pk σ) (s_nF σ) x, s_rn σ, fun s f => if f = s_nF σ then (if s_chN σ (s_cop σ) s then some (s_col σ) else none) else s_cp σ s f), ([], s_as σ, s_dg σ))
def sp_put (σ : S_t) (x : Int32) : Int32 × S_t := if (ix x 10).isNone ∨ (s_col σ).length = 0 then (-2, σ) else if cN (fun s => !s_si σ s) (s_nS σ) < s_cop σ then (-3, σ) else if 40 ≤ s_nF σ then (-4, σ) else (nI (s_nF σ), s_put σ x)
/-- a file that is being placed: its copies lie on the stores in c -/
def x_new (G : h_G) (ad : h_T → Nat) (k : h_C) (σ : S_t) (x : Int32) (c : Nat → Bool) : Prop :=
  RX G ad k σ ∧ k (7, s_nF σ, 0) = some (.inr (0, [.int x, .ref (ad (8, s_nF σ, 0)), .int 0])) ∧ k (8, s_nF σ, 0) = some (.inl (G.2 5, 10, x_refs (fun s => if c s then some (ad (9, s, s_nF σ)) else none))) ∧
  (∀ s, c s = true → x_row G ad k (9, s, s_nF σ) (10, s, s_nF σ) (s_col σ)) ∧ ∀ s, c s = true → s < s_nS σ
theorem RX.congr2 {G : h_G} {ad ad' : h_T → Nat} {k k' : h_C} {σ : S_t} (h : RX G ad k σ) (hk : ∀ t : h_T, x_use σ t → k' t = k t ∧ ad' t = ad t) : RX G ad' k' σ := by
  obtain ⟨h0, h1, h2, h3, h4, h5, h6, ⟨g, h7⟩, ⟨g0, g1, g2, h8, h9, h10, h11⟩, h12⟩ := h
  have b := fun (t : h_T) (ht : t ∈ ([(0, 0, 0), (1, 0, 0), (2, 0, 0), (3, 0, 0), (3, 1, 0), (4, 0, 0), (5, 0, 0), (5, 1, 0), (5, 2, 0)] : List h_T)) => hk t (Or.inl ht)
  have e0 := b (0, 0, 0) (by simp)
  have e1 := b (1, 0, 0) (by simp)
  have e2 := b (2, 0, 0) (by simp)
  have e3 := b (3, 0, 0) (by simp)
  have e31 := b (3, 1, 0) (by simp)
  have e4 := b (4, 0, 0) (by simp)
  have e5 := b (5, 0, 0) (by simp)
  have e51 := b (5, 1, 0) (by simp)
  have e52 := b (5, 2, 0) (by simp)
  have eS : ∀ i, i < s_nS σ → k' (6, i, 0) = k (6, i, 0) ∧ ad' (6, i, 0) = ad (6, i, 0) := fun i hi => hk _ (Or.inr (Or.inl ⟨i, hi, rfl⟩))
  have eI : ∀ f, f < s_nF σ → k' (7, f, 0) = k (7, f, 0) ∧ ad' (7, f, 0) = ad (7, f, 0) := fun f hf => hk _ (Or.inr (Or.inr (Or.inl ⟨f, hf, Or.inl rfl⟩)))
  have eR : ∀ f, f < s_nF σ → k' (8, f, 0) = k (8, f, 0) ∧ ad' (8, f, 0) = ad (8, f, 0) := fun f hf => hk _ (Or.inr (Or.inr (Or.inl ⟨f, hf, Or.inr rfl⟩)))
  have e9 : ∀ s f l, s_cp σ s f = some l → (k' (9, s, f) = k (9, s, f) ∧ ad' (9, s, f) = ad (9, s, f)) ∧ (k' (10, s, f) = k (10, s, f) ∧ ad' (10, s, f) = ad (10, s, f)) := fun s f l hl =>
    ⟨hk _ (Or.inr (Or.inr (Or.inr ⟨s, f, by rw [hl]; rfl, Or.inl rfl⟩))), hk _ (Or.inr (Or.inr (Or.inr ⟨s, f, by rw [hl]; rfl, Or.inr rfl⟩)))⟩
  refine ⟨?_, ?_, fun i hi => ?_, ?_, fun f hf => ⟨?_, ?_⟩, fun s f l hl => (h5 s f l hl).congr (e9 s f l hl).1.1 (e9 s f l hl).2.1 (e9 s f l hl).2.2, h6.congr e3.1 e31.1 e31.2, ⟨g, by rw [e4.1, h7]⟩, ⟨g0, g1, g2, by rw [e5.1, h8], by rw [e51.1, h9], by rw [e52.1, h10], h11⟩, h12⟩
  · rw [e0.1, h0]; simp only [x_obj, e1.2, e2.2, e3.2, e4.2, e5.2, e51.2, e52.2]
  · rw [e1.1, h1]
    have : x_sto ad' σ = x_sto ad σ := by
      funext i
      unfold x_sto
      by_cases hi : i < s_nS σ
      · rw [if_pos hi, if_pos hi, (eS i hi).2]
      · rw [if_neg hi, if_neg hi]
    rw [this]
  · exact (eS i hi).1.trans (h2 i hi)
  · rw [e2.1, h3]
    have : x_ite ad' σ = x_ite ad σ := by
      funext i
      unfold x_ite
      by_cases hi : i < s_nF σ
      · rw [if_pos hi, if_pos hi, (eI i hi).2]
      · rw [if_neg hi, if_neg hi]
    rw [this]
  · rw [(eI f hf).1, (h4 f hf).1, (eR f hf).2]
  · rw [(eR f hf).1, (h4 f hf).2]
    have : x_rws ad' σ f = x_rws ad σ f := by
      funext s
      unfold x_rws
      cases hc : s_cp σ s f with
      | none => rfl
      | some l => simp only [Option.map_some, (e9 s f l hc).1.2]
    rw [this]
/-- names of files that aren't there yet aren't used -/
theorem x_use.old {σ : S_t} (hok : s_ok σ) {t : h_T} (h : x_use σ t) : t ≠ (7, s_nF σ, 0) ∧ t ≠ (8, s_nF σ, 0) ∧ ∀ s, t ≠ (9, s, s_nF σ) ∧ t ≠ (10, s, s_nF σ) := by
  rcases h with h | ⟨i, -, rfl⟩ | ⟨f, hf, rfl | rfl⟩ | ⟨s, f, hs, rfl | rfl⟩
  · simp only [List.mem_cons, List.not_mem_nil, or_false] at h
    rcases h with rfl | rfl | rfl | rfl | rfl | rfl | rfl | rfl | rfl <;> exact ⟨by simp, by simp, fun s => ⟨by simp, by simp⟩⟩
  · exact ⟨by simp, by simp, fun s => ⟨by simp, by simp⟩⟩
  · exact ⟨by simp; omega, by simp, fun s => ⟨by simp, by simp⟩⟩
  · exact ⟨by simp, by simp; omega, fun s => ⟨by simp, by simp⟩⟩
  all_goals
    have hf : f < s_nF σ := Nat.lt_of_not_le (fun q => by
      rw [hok.2.2.2.2.2.1 s f (Or.inr q)] at hs
      cases hs)
    exact ⟨by simp, by simp, fun s' => ⟨by simp <;> omega, by simp <;> omega⟩⟩
end
section
theorem oI_ne {j : Nat} (h : j < 2 ^ 31) : ¬ nI j = -1 := fun e => by
  have h1 := congrArg Int32.toInt e
  rw [nI_toInt h, show ((-1 : Int32)).toInt = -1 from rfl] at h1
  omega
set_option maxHeartbeats 4000000 in
set_option maxRecDepth 100000 in
/-- placeCollected: a copy more of the new file -/
theorem c_X3_placeCollected (l : Launch) (G : h_G) {ad : h_T → Nat} {k : h_C} {σ : S_t} {x : Int32} {c0 : Nat → Bool} (hN : x_new G ad k σ x c0)  : h_Wr l yX3_placeCollected cX3_placeCollected 6 none 3 67 2 18 G ad k [.ref (ad (0, 0, 0)), .ref (ad (7, s_nF σ, 0))] (fun r ad' k' => r = none ∧ x_new G ad' k' σ x (s_nxt σ c0) ∧ (∀ t : h_T, 20 ≤ t.1 → k' t = k t ∧ ad' t = ad t) ∧ ad' (0, 0, 0) = ad (0, 0, 0) ∧ ad' (7, s_nF σ, 0) = ad (7, s_nF σ, 0)) := by
  refine h_wr (by decide +kernel) (Nat.le_of_ble_eq_true rfl) ?_
  intro p e s m args below meth c X Y hw ls hl
  have hl : lv_has ls 6 [(0, .ref (ad (0, 0, 0))), (1, .ref (ad (7, s_nF σ, 0)))] := hl
  obtain ⟨hR, h7, h8, hrs, hcs⟩ := id hN
  have hok := hR.ok
  obtain ⟨hx, hs, hst, hi, hit, hcp, hcol, hmx, hask, -⟩ := id hR
  have hx : k (0, 0, 0) = some (.inr (3, [.int (nI (s_cop σ)), .ref (ad (1, 0, 0)), .int (nI (s_nS σ)), .ref (ad (2, 0, 0)), .int (nI (s_nF σ)), .ref (ad (3, 0, 0)), .ref (ad (4, 0, 0)), .ref (ad (5, 0, 0)), .ref (ad (5, 1, 0)), .ref (ad (5, 2, 0)), .int (nI (s_as σ).length), .int (s_dg σ)])) := hx
  have hnS : s_nS σ ≤ 10 := hok.2.1
  have hnF : s_nF σ ≤ 40 := hok.2.2.1
  have fin : ∀ (ls : Array Slot), lv_has ls 6 [(0, .ref (ad (0, 0, 0))), (1, .ref (ad (7, s_nF σ, 0))), (2, .int (oI (s_bst σ c0 (s_nS σ))))] → W p l e (h_rm 3 67 2 18) s m args below meth c s.heap [] 0 0 (MQ below (h_Qw G ad k s.heap.size (fun r ad' k' => r = none ∧ x_new G ad' k' σ x (s_nxt σ c0) ∧ (∀ t : h_T, 20 ≤ t.1 → k' t = k t ∧ ad' t = ad t) ∧ ad' (0, 0, 0) = ad (0, 0, 0) ∧ ad' (7, s_nF σ, 0) = ad (7, s_nF σ, 0))) args s 2 18 (h_A ad k s.heap.size)) (F0 m 66 ls []) := by
    intro ls hl
    rcases hb : s_bst σ c0 (s_nS σ) with _ | j
    · rw [hb] at hl
      have hl : lv_has ls 6 [(0, .ref (ad (0, 0, 0))), (1, .ref (ad (7, s_nF σ, 0))), (2, .int (-1))] := hl
      have hnx : s_nxt σ c0 = c0 := by
        funext a
        unfold s_nxt
        rw [hb]
        simp
      refine lv_iload_n X.1 X.2.1 dX3_placeCollected_66 rfl (lv_at hl 2 rfl) ?_
      refine lv_iconst (v := (-1)) X.1 X.2.1 dX3_placeCollected_67 (by decide) ?_
      refine lv_icmp_eq (tgt := 84) X.1 X.2.1 dX3_placeCollected_68 (by decide) (fun c68 => ?_) (fun c68 => ?_)
      · exact h_vretW X Y hw ⟨rfl, by rw [hnx]; exact hN, fun _ _ => ⟨rfl, rfl⟩, rfl, rfl⟩ (Nat.zero_le _) (Nat.zero_le _) dX3_placeCollected_84
      · exact absurd (by decide) c68
    · obtain ⟨hj, hsj, hcj⟩ := bst_lt hb
      rw [hb] at hl
      have hl : lv_has ls 6 [(0, .ref (ad (0, 0, 0))), (1, .ref (ad (7, s_nF σ, 0))), (2, .int (nI j))] := hl
      obtain ⟨hr1, g, hg, hgi⟩ := id hcol
      refine lv_iload_n X.1 X.2.1 dX3_placeCollected_66 rfl (lv_at hl 2 rfl) ?_
      refine lv_iconst (v := (-1)) X.1 X.2.1 dX3_placeCollected_67 (by decide) ?_
      refine lv_icmp_eq (tgt := 84) X.1 X.2.1 dX3_placeCollected_68 (by decide) (fun c68 => ?_) (fun c68 => ?_)
      · exact absurd c68 (oI_ne (by omega))
      · obtain ⟨k0, hk0⟩ : ∃ zz, zz = h_cu (h_cu k (9, j, s_nF σ) none) (10, j, s_nF σ) none := ⟨_, rfl⟩
        replace hw := ((hw.drop (9, j, s_nF σ)).drop (10, j, s_nF σ)).ren hk0
        have f0_0_0_0 : k0 (0, 0, 0) = some (.inr (3, [.int (nI (s_cop σ)), .ref (ad (1, 0, 0)), .int (nI (s_nS σ)), .ref (ad (2, 0, 0)), .int (nI (s_nF σ)), .ref (ad (3, 0, 0)), .ref (ad (4, 0, 0)), .ref (ad (5, 0, 0)), .ref (ad (5, 1, 0)), .ref (ad (5, 2, 0)), .int (nI (s_as σ).length), .int (s_dg σ)])) := by rw [hk0, h_cn _ _ (by simp), h_cn _ _ (by simp)]; exact hx
        have f0_7_s_nF_σ_0 : k0 (7, s_nF σ, 0) = some (.inr (0, [.int x, .ref (ad (8, s_nF σ, 0)), .int 0])) := by rw [hk0, h_cn _ _ (by simp), h_cn _ _ (by simp)]; exact h7
        have f0_8_s_nF_σ_0 : k0 (8, s_nF σ, 0) = some (.inl (G.2 5, 10, x_refs (fun s => if c0 s then some (ad (9, s, s_nF σ)) else none))) := by rw [hk0, h_cn _ _ (by simp), h_cn _ _ (by simp)]; exact h8
        have f0_3_0_0 : k0 (3, 0, 0) = some (.inr (1, [.ref (ad (3, 1, 0)), .int (nI (s_col σ).length)])) := by rw [hk0, h_cn _ _ (by simp), h_cn _ _ (by simp)]; exact hr1
        have f0_3_1_0 : k0 (3, 1, 0) = some (.inl (G.2 0, 16, .inl g)) := by rw [hk0, h_cn _ _ (by simp), h_cn _ _ (by simp)]; exact hg
        refine lv_aload_n X.1 X.2.1 dX3_placeCollected_71 rfl (lv_at hl 1 rfl) ?_
        refine gf_X3_113 X hw f0_7_s_nF_σ_0 rfl dX3_placeCollected_72 ?_
        refine lv_iload_n X.1 X.2.1 dX3_placeCollected_75 rfl (lv_at hl 2 rfl) ?_
        refine lv_aload_n X.1 X.2.1 dX3_placeCollected_76 rfl (lv_at hl 0 rfl) ?_
        refine gf_X3_31 X hw f0_0_0_0 rfl dX3_placeCollected_77 ?_
        refine h_callWV (t := (3, 0, 0)) (As := []) (rest := [.int (nI j), .ref (ad (8, s_nF σ, 0))]) X hw cs_X3_198 (c_X1_twin l G (t := (3, 0, 0)) (u := (3, 1, 0)) (t2 := (9, j, s_nF σ)) (u2 := (10, j, s_nF σ)) ⟨f0_3_0_0, g, f0_3_1_0, hgi⟩ hok.2.2.2.1 (by simp) (by rw [hk0, h_cn _ _ (by simp), h_cs]) (by rw [hk0, h_cs]) (by simp)) f0_3_0_0 rfl rfl hl.1 rfl (Nat.le_of_ble_eq_true rfl) ⟨by decide, by decide⟩ ⟨(Nat.le_of_ble_eq_true rfl), (Nat.le_of_ble_eq_true rfl)⟩ dX3_placeCollected_80 (fun r9 ad1 k1 H locs hp9 hw => ?_)
        obtain ⟨rfl, hr1, ho1⟩ := hp9
        refine W.eq (g2 := F0 m 83 ls [.ref (ad1 (9, j, s_nF σ)), .int (nI j), .ref (ad (8, s_nF σ, 0))]) rfl ?_
        have eb1_0 : ad (0, 0, 0) = ad1 (0, 0, 0) := ((ho1 (0, 0, 0) (by simp) (by simp)).2).symm
        have eb1_1 : ad (7, s_nF σ, 0) = ad1 (7, s_nF σ, 0) := ((ho1 (7, s_nF σ, 0) (by simp) (by simp)).2).symm
        have eb1_2 : ad (8, s_nF σ, 0) = ad1 (8, s_nF σ, 0) := ((ho1 (8, s_nF σ, 0) (by simp) (by simp)).2).symm
        have eb1_3 : ad (1, 0, 0) = ad1 (1, 0, 0) := ((ho1 (1, 0, 0) (by simp) (by simp)).2).symm
        have eb1_4 : ad (2, 0, 0) = ad1 (2, 0, 0) := ((ho1 (2, 0, 0) (by simp) (by simp)).2).symm
        have eb1_5 : ad (3, 0, 0) = ad1 (3, 0, 0) := ((ho1 (3, 0, 0) (by simp) (by simp)).2).symm
        have eb1_6 : ad (4, 0, 0) = ad1 (4, 0, 0) := ((ho1 (4, 0, 0) (by simp) (by simp)).2).symm
        have eb1_7 : ad (5, 0, 0) = ad1 (5, 0, 0) := ((ho1 (5, 0, 0) (by simp) (by simp)).2).symm
        have eb1_8 : ad (5, 1, 0) = ad1 (5, 1, 0) := ((ho1 (5, 1, 0) (by simp) (by simp)).2).symm
        have eb1_9 : ad (5, 2, 0) = ad1 (5, 2, 0) := ((ho1 (5, 2, 0) (by simp) (by simp)).2).symm
        have eb1_10 : ad (3, 1, 0) = ad1 (3, 1, 0) := ((ho1 (3, 1, 0) (by simp) (by simp)).2).symm
        simp only [eb1_0, eb1_1, eb1_2, eb1_3, eb1_4, eb1_5, eb1_6, eb1_7, eb1_8, eb1_9, eb1_10] at hl
        simp only [eb1_0, eb1_1, eb1_2, eb1_3, eb1_4, eb1_5, eb1_6, eb1_7, eb1_8, eb1_9, eb1_10]
        have f1_0_0_0 : k1 (0, 0, 0) = some (.inr (3, [.int (nI (s_cop σ)), .ref (ad1 (1, 0, 0)), .int (nI (s_nS σ)), .ref (ad1 (2, 0, 0)), .int (nI (s_nF σ)), .ref (ad1 (3, 0, 0)), .ref (ad1 (4, 0, 0)), .ref (ad1 (5, 0, 0)), .ref (ad1 (5, 1, 0)), .ref (ad1 (5, 2, 0)), .int (nI (s_as σ).length), .int (s_dg σ)])) := by rw [(ho1 (0, 0, 0) (by simp) (by simp)).1, f0_0_0_0]; simp only [eb1_0, eb1_1, eb1_2, eb1_3, eb1_4, eb1_5, eb1_6, eb1_7, eb1_8, eb1_9, eb1_10]
        have f1_7_s_nF_σ_0 : k1 (7, s_nF σ, 0) = some (.inr (0, [.int x, .ref (ad1 (8, s_nF σ, 0)), .int 0])) := by rw [(ho1 (7, s_nF σ, 0) (by simp) (by simp)).1, f0_7_s_nF_σ_0]; simp only [eb1_0, eb1_1, eb1_2, eb1_3, eb1_4, eb1_5, eb1_6, eb1_7, eb1_8, eb1_9, eb1_10]
        have f1_8_s_nF_σ_0 : k1 (8, s_nF σ, 0) = some (.inl (G.2 5, 10, x_refs (fun s => if c0 s then some (ad (9, s, s_nF σ)) else none))) := by rw [(ho1 (8, s_nF σ, 0) (by simp) (by simp)).1, f0_8_s_nF_σ_0]
        have f1_3_0_0 : k1 (3, 0, 0) = some (.inr (1, [.ref (ad1 (3, 1, 0)), .int (nI (s_col σ).length)])) := by rw [(ho1 (3, 0, 0) (by simp) (by simp)).1, f0_3_0_0]; simp only [eb1_0, eb1_1, eb1_2, eb1_3, eb1_4, eb1_5, eb1_6, eb1_7, eb1_8, eb1_9, eb1_10]
        have f1_3_1_0 : k1 (3, 1, 0) = some (.inl (G.2 0, 16, .inl g)) := by rw [(ho1 (3, 1, 0) (by simp) (by simp)).1, f0_3_1_0]
        refine h_aast (u := (9, j, s_nF σ)) X hw 5 1 rfl f1_8_s_nF_σ_0 hr1.1 rfl (vp_in_nI (by omega) (by decide)) dX3_placeCollected_83 (fun H locs hw => ?_)
        obtain ⟨k2, hk2⟩ : ∃ zz, zz = h_cu k1 (8, s_nF σ, 0) (some (.inl (G.2 5, 10, x_refs (va_up (fun s => if c0 s then some (ad (9, s, s_nF σ)) else none) (nI j).toNatClampNeg (some (ad1 (9, j, s_nF σ))))))) := ⟨_, rfl⟩
        replace hw := h_W.ren hw hk2
        have f2_0_0_0 : k2 (0, 0, 0) = some (.inr (3, [.int (nI (s_cop σ)), .ref (ad1 (1, 0, 0)), .int (nI (s_nS σ)), .ref (ad1 (2, 0, 0)), .int (nI (s_nF σ)), .ref (ad1 (3, 0, 0)), .ref (ad1 (4, 0, 0)), .ref (ad1 (5, 0, 0)), .ref (ad1 (5, 1, 0)), .ref (ad1 (5, 2, 0)), .int (nI (s_as σ).length), .int (s_dg σ)])) := by rw [hk2, h_cn _ _ (by simp)]; exact f1_0_0_0
        have f2_7_s_nF_σ_0 : k2 (7, s_nF σ, 0) = some (.inr (0, [.int x, .ref (ad1 (8, s_nF σ, 0)), .int 0])) := by rw [hk2, h_cn _ _ (by simp)]; exact f1_7_s_nF_σ_0
        have f2_8_s_nF_σ_0 : k2 (8, s_nF σ, 0) = some (.inl (G.2 5, 10, x_refs (va_up (fun s => if c0 s then some (ad (9, s, s_nF σ)) else none) (nI j).toNatClampNeg (some (ad1 (9, j, s_nF σ)))))) := by rw [hk2]; exact h_cs _ _ _
        have f2_3_0_0 : k2 (3, 0, 0) = some (.inr (1, [.ref (ad1 (3, 1, 0)), .int (nI (s_col σ).length)])) := by rw [hk2, h_cn _ _ (by simp)]; exact f1_3_0_0
        have f2_3_1_0 : k2 (3, 1, 0) = some (.inl (G.2 0, 16, .inl g)) := by rw [hk2, h_cn _ _ (by simp)]; exact f1_3_1_0
        have f2_9_j_s_nF_σ : k2 (9, j, s_nF σ) = some (.inr (1, [.ref (ad1 (10, j, s_nF σ)), .int (nI (s_col σ).length)])) := by rw [hk2, h_cn _ _ (by simp)]; exact hr1.1
        have hO : ∀ t : h_T, t ≠ (8, s_nF σ, 0) → t ≠ (9, j, s_nF σ) → t ≠ (10, j, s_nF σ) → k2 t = k t ∧ ad1 t = ad t := fun t h8 h9 h10 => ⟨by rw [hk2, h_cn _ _ h8, (ho1 t h9 h10).1, hk0, h_cn _ _ h10, h_cn _ _ h9], (ho1 t h9 h10).2⟩
        have ha : ∀ t : h_T, t ≠ (9, j, s_nF σ) → t ≠ (10, j, s_nF σ) → ad1 t = ad t := fun t h9 h10 => (ho1 t h9 h10).2
        have hnj : s_nxt σ c0 j = true := by unfold s_nxt; rw [hb]; simp
        have hna : ∀ a, a ≠ j → s_nxt σ c0 a = c0 a := fun a h => by unfold s_nxt; rw [hb]; simp [Ne.symm h]
        exact h_vretW X Y hw ⟨rfl, ⟨hR.congr2 (fun t hu => by
          obtain ⟨u7, u8, u9⟩ := hu.old hok
          exact hO t u8 (u9 j).1 (u9 j).2), f2_7_s_nF_σ_0, by
          rw [f2_8_s_nF_σ_0, nI_clamp (by omega)]
          have : (fun s => if s_nxt σ c0 s then some (ad1 (9, s, s_nF σ)) else none) = va_up (fun s => if c0 s then some (ad (9, s, s_nF σ)) else none) j (some (ad1 (9, j, s_nF σ))) := by
            funext a
            by_cases haj : a = j
            · rw [haj, va_up_self, hnj]; rfl
            · rw [va_up_ne _ _ haj, hna a haj, ha _ (by simp [haj]) (by simp)]
          rw [this], fun a hA => by
          by_cases haj : a = j
          · rw [haj]
            exact hr1.congr (by rw [hk2, h_cn _ _ (by simp)]) (by rw [hk2, h_cn _ _ (by simp)]) rfl
          · rw [hna a haj] at hA
            have p9 := hO (9, a, s_nF σ) (by simp) (by simp [haj]) (by simp)
            have p10 := hO (10, a, s_nF σ) (by simp) (by simp) (by simp [haj])
            exact (hrs a hA).congr p9.1 p10.1 p10.2, fun a hA => by
          by_cases haj : a = j
          · rw [haj]; exact hj
          · rw [hna a haj] at hA; exact hcs a hA⟩, fun t ht => hO t (t20 ht (Nat.le_of_ble_eq_true rfl)) (t20 ht (Nat.le_of_ble_eq_true rfl)) (t20 ht (Nat.le_of_ble_eq_true rfl)), (by first | rfl | exact ha (0, 0, 0) (by simp) (by simp)), (by first | rfl | exact ha (7, s_nF σ, 0) (by simp) (by simp))⟩ (Nat.le_of_ble_eq_true rfl) (Nat.le_of_ble_eq_true rfl) dX3_placeCollected_84
  have loop : ∀ (n i : Nat), i ≤ s_nS σ → s_nS σ + 1 ≤ i + n → ∀ (ls : Array Slot), lv_has ls 6 [(0, .ref (ad (0, 0, 0))), (1, .ref (ad (7, s_nF σ, 0))), (2, .int (oI (s_bst σ c0 i))), (3, .int (oL σ (s_bst σ c0 i))), (4, .int (nI i))] → W p l e (h_rm 3 67 2 18) s m args below meth c s.heap [] 0 0 (MQ below (h_Qw G ad k s.heap.size (fun r ad' k' => r = none ∧ x_new G ad' k' σ x (s_nxt σ c0) ∧ (∀ t : h_T, 20 ≤ t.1 → k' t = k t ∧ ad' t = ad t) ∧ ad' (0, 0, 0) = ad (0, 0, 0) ∧ ad' (7, s_nF σ, 0) = ad (7, s_nF σ, 0))) args s 2 18 (h_A ad k s.heap.size)) (F0 m 7 ls []) := by
    intro n
    induction n with
    | zero =>
      intro i h1 h2
      exact absurd h2 (by omega)
    | succ n ih =>
      intro i hii hni  ls hl
      refine lv_iload X.1 X.2.1 dX3_placeCollected_7 (lv_at hl 4 rfl) ?_
      refine lv_aload_n X.1 X.2.1 dX3_placeCollected_9 rfl (lv_at hl 0 rfl) ?_
      refine gf_X3_15 X hw hx rfl dX3_placeCollected_10 ?_
      refine lv_icmp_ge (tgt := 66) X.1 X.2.1 dX3_placeCollected_13 (by decide) (fun c13 => ?_) (fun c13 => ?_)
      · obtain rfl : i = s_nS σ := Nat.le_antisymm hii (Nat.le_of_not_lt (fun q => absurd c13 (nI_ge q (by omega))))
        exact fin ls (lv_sub hl [0, 1, 2] rfl)
      · have hib : i < s_nS σ := Nat.lt_of_not_le (fun q => c13 (nI_le q (by omega)))
        have hld : s_ld σ i ≤ 40 := Nat.le_trans (cN_le _ _) hnF
        rcases hsi : s_si σ i with _ | _
        · refine lv_aload_n X.1 X.2.1 dX3_placeCollected_16 rfl (lv_at hl 0 rfl) ?_
          refine lv_iload X.1 X.2.1 dX3_placeCollected_17 (lv_at hl 4 rfl) ?_
          refine h_callRV (t := (0, 0, 0)) (As := [.int (nI i)]) (rest := []) X hw cs_X3_153 (c_X3_isAnswering l G hR (nI i)) hx rfl rfl hl.1 rfl (Nat.le_of_ble_eq_true rfl) ⟨by decide, by decide⟩ ⟨Nat.zero_le _, Nat.zero_le _⟩ dX3_placeCollected_19 ?_
          refine h_tv (b := .int 1) (by rw [ix_nI hib (by omega)]; simp only [hsi]; rfl) ?_
          refine lv_if_eq (tgt := 60) X.1 X.2.1 dX3_placeCollected_22 (by decide) (fun c22 => ?_) (fun c22 => ?_)
          · exact absurd c22 (by decide)
          · rcases hci : c0 i with _ | _
            · refine lv_aload_n X.1 X.2.1 dX3_placeCollected_25 rfl (lv_at hl 1 rfl) ?_
              refine gf_X3_113 X hw h7 rfl dX3_placeCollected_26 ?_
              refine lv_iload X.1 X.2.1 dX3_placeCollected_29 (lv_at hl 4 rfl) ?_
              refine h_aald X hw 5 rfl h8 (vp_in_nI (by omega) (by decide)) dX3_placeCollected_31 ?_
              refine h_tv (b := .null) (by rw [nI_clamp (by omega)]; simp only [hci]; rfl) ?_
              refine lv_ifnonnullN X.1 X.2.1 dX3_placeCollected_32 ?_
              refine lv_aload_n X.1 X.2.1 dX3_placeCollected_35 rfl (lv_at hl 0 rfl) ?_
              refine lv_iload X.1 X.2.1 dX3_placeCollected_36 (lv_at hl 4 rfl) ?_
              refine h_callRV (t := (0, 0, 0)) (As := [.int (nI i)]) (rest := []) X hw cs_X3_191 (c_X3_copiesOn l G hR hib) hx rfl rfl hl.1 rfl (Nat.le_of_ble_eq_true rfl) ⟨by decide, by decide⟩ ⟨Nat.zero_le _, Nat.zero_le _⟩ dX3_placeCollected_38 ?_
              refine lv_istore (lv' := [(5, .int (nI (s_ld σ i))), (0, .ref (ad (0, 0, 0))), (1, .ref (ad (7, s_nF σ, 0))), (2, .int (oI (s_bst σ c0 i))), (3, .int (oL σ (s_bst σ c0 i))), (4, .int (nI i))]) X.1 X.2.1 dX3_placeCollected_41 hl (by decide) rfl (fun ls hl => ?_)
              rcases hb : s_bst σ c0 i with _ | j
              · rw [hb] at hl
                have hl : lv_has ls 6 [(5, .int (nI (s_ld σ i))), (0, .ref (ad (0, 0, 0))), (1, .ref (ad (7, s_nF σ, 0))), (2, .int (-1)), (3, .int 0), (4, .int (nI i))] := hl
                refine lv_iload_n X.1 X.2.1 dX3_placeCollected_43 rfl (lv_at hl 3 rfl) ?_
                refine lv_iconst (v := (-1)) X.1 X.2.1 dX3_placeCollected_44 (by decide) ?_
                refine lv_icmp_eq (tgt := 54) X.1 X.2.1 dX3_placeCollected_45 (by decide) (fun c45 => ?_) (fun c45 => ?_)
                · refine lv_iload X.1 X.2.1 dX3_placeCollected_54 (lv_at hl 5 rfl) ?_
                  refine lv_istore_n (lv' := [(2, .int (nI i)), (5, .int (nI (s_ld σ i))), (0, .ref (ad (0, 0, 0))), (1, .ref (ad (7, s_nF σ, 0))), (3, .int 0), (4, .int (nI i))]) X.1 X.2.1 dX3_placeCollected_56 rfl hl (by decide) rfl (fun ls hl => ?_)
                  refine lv_iload X.1 X.2.1 dX3_placeCollected_57 (lv_at hl 1 rfl) ?_
                  refine lv_istore_n (lv' := [(3, .int (nI (s_ld σ i))), (2, .int (nI i)), (5, .int (nI (s_ld σ i))), (0, .ref (ad (0, 0, 0))), (1, .ref (ad (7, s_nF σ, 0))), (4, .int (nI i))]) X.1 X.2.1 dX3_placeCollected_59 rfl hl (by decide) rfl (fun ls hl => ?_)
                  refine lv_iinc (v := nI (i + 1)) (lv' := [(4, .int (nI (i + 1))), (3, .int (nI (s_ld σ i))), (2, .int (nI i)), (5, .int (nI (s_ld σ i))), (0, .ref (ad (0, 0, 0))), (1, .ref (ad (7, s_nF σ, 0)))]) X.1 X.2.1 dX3_placeCollected_60 hl (k := 5) rfl (nI_1 _) (by decide) rfl (fun ls hl => ?_)
                  refine lv_goto (tgt := 7) X.1 X.2.1 dX3_placeCollected_63 (by decide) ?_
                  exact ih (i + 1) (by omega) (by omega) ls (by
                    rw [bst_new (by rw [hsi, hci]; rfl) hb]
                    exact lv_sub hl [4, 5, 2, 1, 0] rfl)
                · exact absurd (by decide) c45
              · rw [hb] at hl
                have hl : lv_has ls 6 [(5, .int (nI (s_ld σ i))), (0, .ref (ad (0, 0, 0))), (1, .ref (ad (7, s_nF σ, 0))), (2, .int (nI j)), (3, .int (nI (s_ld σ j))), (4, .int (nI i))] := hl
                have hj := bst_lt hb
                have hlj : s_ld σ j ≤ 40 := Nat.le_trans (cN_le _ _) hnF
                refine lv_iload_n X.1 X.2.1 dX3_placeCollected_43 rfl (lv_at hl 3 rfl) ?_
                refine lv_iconst (v := (-1)) X.1 X.2.1 dX3_placeCollected_44 (by decide) ?_
                refine lv_icmp_eq (tgt := 54) X.1 X.2.1 dX3_placeCollected_45 (by decide) (fun c45 => ?_) (fun c45 => ?_)
                · exact absurd c45 (oI_ne (by omega))
                · refine lv_iload X.1 X.2.1 dX3_placeCollected_48 (lv_at hl 0 rfl) ?_
                  refine lv_iload_n X.1 X.2.1 dX3_placeCollected_50 rfl (lv_at hl 4 rfl) ?_
                  refine lv_icmp_ge (tgt := 60) X.1 X.2.1 dX3_placeCollected_51 (by decide) (fun c51 => ?_) (fun c51 => ?_)
                  · refine lv_iinc (v := nI (i + 1)) (lv' := [(4, .int (nI (i + 1))), (5, .int (nI (s_ld σ i))), (0, .ref (ad (0, 0, 0))), (1, .ref (ad (7, s_nF σ, 0))), (2, .int (nI j)), (3, .int (nI (s_ld σ j)))]) X.1 X.2.1 dX3_placeCollected_60 hl (k := 5) rfl (nI_1 _) (by decide) rfl (fun ls hl => ?_)
                    refine lv_goto (tgt := 7) X.1 X.2.1 dX3_placeCollected_63 (by decide) ?_
                    exact ih (i + 1) (by omega) (by omega) ls (by
                      rw [bst_keep hb (fun q => absurd c51 (nI_ge q (by omega)))]
                      exact lv_sub hl [2, 3, 4, 5, 0] rfl)
                  · refine lv_iload X.1 X.2.1 dX3_placeCollected_54 (lv_at hl 5 rfl) ?_
                    refine lv_istore_n (lv' := [(2, .int (nI i)), (5, .int (nI (s_ld σ i))), (0, .ref (ad (0, 0, 0))), (1, .ref (ad (7, s_nF σ, 0))), (3, .int (nI (s_ld σ j))), (4, .int (nI i))]) X.1 X.2.1 dX3_placeCollected_56 rfl hl (by decide) rfl (fun ls hl => ?_)
                    refine lv_iload X.1 X.2.1 dX3_placeCollected_57 (lv_at hl 1 rfl) ?_
                    refine lv_istore_n (lv' := [(3, .int (nI (s_ld σ i))), (2, .int (nI i)), (5, .int (nI (s_ld σ i))), (0, .ref (ad (0, 0, 0))), (1, .ref (ad (7, s_nF σ, 0))), (4, .int (nI i))]) X.1 X.2.1 dX3_placeCollected_59 rfl hl (by decide) rfl (fun ls hl => ?_)
                    refine lv_iinc (v := nI (i + 1)) (lv' := [(4, .int (nI (i + 1))), (3, .int (nI (s_ld σ i))), (2, .int (nI i)), (5, .int (nI (s_ld σ i))), (0, .ref (ad (0, 0, 0))), (1, .ref (ad (7, s_nF σ, 0)))]) X.1 X.2.1 dX3_placeCollected_60 hl (k := 5) rfl (nI_1 _) (by decide) rfl (fun ls hl => ?_)
                    refine lv_goto (tgt := 7) X.1 X.2.1 dX3_placeCollected_63 (by decide) ?_
                    exact ih (i + 1) (by omega) (by omega) ls (by
                      rw [bst_less (by rw [hsi, hci]; rfl) hb (Nat.lt_of_not_le (fun q => c51 (nI_le q (by omega))))]
                      exact lv_sub hl [4, 5, 2, 1, 0] rfl)
            · refine lv_aload_n X.1 X.2.1 dX3_placeCollected_25 rfl (lv_at hl 1 rfl) ?_
              refine gf_X3_113 X hw h7 rfl dX3_placeCollected_26 ?_
              refine lv_iload X.1 X.2.1 dX3_placeCollected_29 (lv_at hl 4 rfl) ?_
              refine h_aald X hw 5 rfl h8 (vp_in_nI (by omega) (by decide)) dX3_placeCollected_31 ?_
              refine h_tv (b := .ref (ad (9, i, s_nF σ))) (by rw [nI_clamp (by omega)]; simp only [hci]; rfl) ?_
              refine lv_ifnonnull (tgt := 60) X.1 X.2.1 dX3_placeCollected_32 (by decide) ?_
              refine lv_iinc (v := nI (i + 1)) (lv' := [(4, .int (nI (i + 1))), (0, .ref (ad (0, 0, 0))), (1, .ref (ad (7, s_nF σ, 0))), (2, .int (oI (s_bst σ c0 i))), (3, .int (oL σ (s_bst σ c0 i)))]) X.1 X.2.1 dX3_placeCollected_60 hl (k := 4) rfl (nI_1 _) (by decide) rfl (fun ls hl => ?_)
              refine lv_goto (tgt := 7) X.1 X.2.1 dX3_placeCollected_63 (by decide) ?_
              exact ih (i + 1) (by omega) (by omega) ls (by
                rw [bst_skip (by rw [hsi, hci]; rfl)]
                exact lv_sub hl [1, 2, 3, 4, 0] rfl)
        · refine lv_aload_n X.1 X.2.1 dX3_placeCollected_16 rfl (lv_at hl 0 rfl) ?_
          refine lv_iload X.1 X.2.1 dX3_placeCollected_17 (lv_at hl 4 rfl) ?_
          refine h_callRV (t := (0, 0, 0)) (As := [.int (nI i)]) (rest := []) X hw cs_X3_153 (c_X3_isAnswering l G hR (nI i)) hx rfl rfl hl.1 rfl (Nat.le_of_ble_eq_true rfl) ⟨by decide, by decide⟩ ⟨Nat.zero_le _, Nat.zero_le _⟩ dX3_placeCollected_19 ?_
          refine h_tv (b := .int 0) (by rw [ix_nI hib (by omega)]; simp only [hsi]; rfl) ?_
          refine lv_if_eq (tgt := 60) X.1 X.2.1 dX3_placeCollected_22 (by decide) (fun c22 => ?_) (fun c22 => ?_)
          · refine lv_iinc (v := nI (i + 1)) (lv' := [(4, .int (nI (i + 1))), (0, .ref (ad (0, 0, 0))), (1, .ref (ad (7, s_nF σ, 0))), (2, .int (oI (s_bst σ c0 i))), (3, .int (oL σ (s_bst σ c0 i)))]) X.1 X.2.1 dX3_placeCollected_60 hl (k := 4) rfl (nI_1 _) (by decide) rfl (fun ls hl => ?_)
            refine lv_goto (tgt := 7) X.1 X.2.1 dX3_placeCollected_63 (by decide) ?_
            exact ih (i + 1) (by omega) (by omega) ls (by
              rw [bst_skip (by rw [hsi]; rfl)]
              exact lv_sub hl [1, 2, 3, 4, 0] rfl)
          · exact absurd (by decide) c22
  refine lv_iconst (v := (-1)) X.1 X.2.1 dX3_placeCollected_0 (by decide) ?_
  refine lv_istore_n (lv' := [(2, .int (-1)), (0, .ref (ad (0, 0, 0))), (1, .ref (ad (7, s_nF σ, 0)))]) X.1 X.2.1 dX3_placeCollected_1 rfl hl (by decide) rfl (fun ls hl => ?_)
  refine lv_iconst (v := 0) X.1 X.2.1 dX3_placeCollected_2 (by decide) ?_
  refine lv_istore_n (lv' := [(3, .int 0), (2, .int (-1)), (0, .ref (ad (0, 0, 0))), (1, .ref (ad (7, s_nF σ, 0)))]) X.1 X.2.1 dX3_placeCollected_3 rfl hl (by decide) rfl (fun ls hl => ?_)
  refine lv_iconst (v := 0) X.1 X.2.1 dX3_placeCollected_4 (by decide) ?_
  refine lv_istore (lv' := [(4, .int 0), (3, .int 0), (2, .int (-1)), (0, .ref (ad (0, 0, 0))), (1, .ref (ad (7, s_nF σ, 0)))]) X.1 X.2.1 dX3_placeCollected_5 hl (by decide) rfl (fun ls hl => ?_)
  exact loop (s_nS σ + 1) 0 (by omega) (by omega) ls (lv_sub hl [3, 4, 2, 1, 0] rfl)
end
section
/-- a file more -/
theorem RX.addFile {G : h_G} {ad : h_T → Nat} {k k' : h_C} {σ : S_t} {x : Int32} (h : x_new G ad k σ x (s_chN σ (s_cop σ))) (h40 : s_nF σ < 40) (hk0 : k' (0, 0, 0) = some (.inr (3, x_obj ad (s_put σ x)))) (hk2 : k' (2, 0, 0) = some (.inl (G.2 4, 40, x_refs (va_up (x_ite ad σ) (s_nF σ) (some (ad (7, s_nF σ, 0))))))) (hk3 : k' (3, 0, 0) = some (.inr (1, [.ref (ad (3, 1, 0)), .int 0]))) (ho : ∀ t : h_T, t ≠ (0, 0, 0) → t ≠ (2, 0, 0) → t ≠ (3, 0, 0) → k' t = k t) : RX G ad k' (s_put σ x) := by
  obtain ⟨⟨g0, g1, g2, g3, g4, g5, g6, ⟨g, g7⟩, ⟨a0, a1, a2, b0, b1, b2, b3⟩, ok1, ok2, ok3, ok4, ok5, ok6, ok7, ok8, ok9⟩, n7, n8, nr, nc⟩ := h
  have cpt : ∀ s f, s_cp (s_put σ x) s f = if f = s_nF σ then (if s_chN σ (s_cop σ) s then some (s_col σ) else none) else s_cp σ s f := fun _ _ => rfl
  refine ⟨hk0, (ho _ (by simp) (by simp) (by simp)).trans g1, fun i hi => (ho _ (by simp) (by simp) (by simp)).trans (g2 i hi), ?_, fun f hf => ?_, fun s f b hb => ?_, ⟨hk3, ?_⟩, ⟨g, (ho _ (by simp) (by simp) (by simp)).trans g7⟩, ⟨a0, a1, a2, (ho _ (by simp) (by simp) (by simp)).trans b0, (ho _ (by simp) (by simp) (by simp)).trans b1, (ho _ (by simp) (by simp) (by simp)).trans b2, b3⟩, ok1, ok2, ?_, Nat.zero_le _, ok5, fun s f hf => ?_, fun s f b hb => ?_, ok8, fun f hf => ?_⟩
  · rw [hk2]
    have : x_ite ad (s_put σ x) = va_up (x_ite ad σ) (s_nF σ) (some (ad (7, s_nF σ, 0))) := by
      funext i
      show (if i < s_nF σ + 1 then some (ad (7, i, 0)) else none) = _
      by_cases hi : i = s_nF σ
      · subst hi
        rw [va_up_self, if_pos (Nat.lt_succ_self _)]
      · rw [va_up_ne _ _ hi]
        unfold x_ite
        by_cases h2 : i < s_nF σ
        · rw [if_pos (by omega), if_pos h2]
        · rw [if_neg (by omega), if_neg h2]
    rw [this]
  · have hf : f < s_nF σ + 1 := hf
    by_cases hff : f = s_nF σ
    · subst hff
      refine ⟨?_, ?_⟩
      · rw [ho _ (by simp) (by simp) (by simp), n7]
        show _ = some (Sum.inr (0, [Value.int (upd (s_pk σ) (s_nF σ) x (s_nF σ)), Value.ref (ad (8, s_nF σ, 0)), Value.int (s_rn σ (s_nF σ))]))
        rw [pk_us, ok9 _ (Nat.le_refl _)]
      · rw [ho _ (by simp) (by simp) (by simp), n8]
        have : x_rws ad (s_put σ x) (s_nF σ) = fun s => if s_chN σ (s_cop σ) s then some (ad (9, s, s_nF σ)) else none := by
          funext s
          unfold x_rws
          rw [cpt, if_pos rfl]
          cases s_chN σ (s_cop σ) s <;> rfl
        rw [this]
    · have h4 := g4 f (by omega)
      refine ⟨?_, ?_⟩
      · rw [ho _ (by simp) (by simp) (by simp), h4.1]
        show _ = some (Sum.inr (0, [Value.int (upd (s_pk σ) (s_nF σ) x f), Value.ref (ad (8, f, 0)), Value.int (s_rn σ f)]))
        rw [pk_un hff]
      · rw [ho _ (by simp) (by simp) (by simp), h4.2]
        have : x_rws ad (s_put σ x) f = x_rws ad σ f := by
          funext s
          unfold x_rws
          rw [cpt, if_neg hff]
        rw [this]
  · rw [cpt] at hb
    by_cases hff : f = s_nF σ
    · rw [if_pos hff] at hb
      cases hc : s_chN σ (s_cop σ) s with
      | false => rw [hc] at hb; cases hb
      | true =>
        rw [hc] at hb
        cases hb
        rw [hff]
        exact (nr s hc).congr (ho _ (by simp) (by simp) (by simp)) (ho _ (by simp) (by simp) (by simp)) rfl
    · rw [if_neg hff] at hb
      exact (g5 s f b hb).congr (ho _ (by simp) (by simp) (by simp)) (ho _ (by simp) (by simp) (by simp)) rfl
  · obtain ⟨gg, q1, q2⟩ := g6.2
    exact ⟨gg, (ho _ (by simp) (by simp) (by simp)).trans q1, fun i hi => absurd hi (Nat.not_lt_zero i)⟩
  · show s_nF σ + 1 ≤ 40
    omega
  · rw [cpt]
    rcases hf with hf | hf
    · have hf : s_nS σ ≤ s := hf
      by_cases hff : f = s_nF σ
      · rw [if_pos hff]
        cases hc : s_chN σ (s_cop σ) s with
        | false => rfl
        | true => exact absurd (nc s hc) (by omega)
      · rw [if_neg hff]
        exact ok6 s f (Or.inl hf)
    · have hf : s_nF σ + 1 ≤ f := hf
      rw [if_neg (by omega)]
      exact ok6 s f (Or.inr (by omega))
  · rw [cpt] at hb
    by_cases hff : f = s_nF σ
    · rw [if_pos hff] at hb
      cases hc : s_chN σ (s_cop σ) s with
      | false => rw [hc] at hb; cases hb
      | true =>
        rw [hc] at hb
        cases hb
        exact ok4
    · rw [if_neg hff] at hb
      exact ok7 s f b hb
  · have hf : s_nF σ + 1 ≤ f := hf
    exact ok9 f (by omega)
set_option maxHeartbeats 4000000 in
set_option maxRecDepth 100000 in
/-- put -/
theorem c_X3_put (l : Launch) (G : h_G) {ad : h_T → Nat} {k : h_C} {σ : S_t} (hR : RX G ad k σ) (x : Int32) : h_Wr l yX3_put cX3_put 4 (some .int) 4 92 12 103 G ad k [.ref (ad (0, 0, 0)), .int x] (XPost G ad k (some (.int (sp_put σ x).1)) (sp_put σ x).2) := by
  refine h_wr (by decide +kernel) (Nat.le_of_ble_eq_true rfl) ?_
  intro p e s m args below meth c X Y hw ls hl
  have hl : lv_has ls 4 [(0, .ref (ad (0, 0, 0))), (1, .int x)] := hl
  have hok := hR.ok
  obtain ⟨hx, hs, hst, hi, hit, hcp, hcol, hmx, hask, -⟩ := id hR
  have hx : k (0, 0, 0) = some (.inr (3, [.int (nI (s_cop σ)), .ref (ad (1, 0, 0)), .int (nI (s_nS σ)), .ref (ad (2, 0, 0)), .int (nI (s_nF σ)), .ref (ad (3, 0, 0)), .ref (ad (4, 0, 0)), .ref (ad (5, 0, 0)), .ref (ad (5, 1, 0)), .ref (ad (5, 2, 0)), .int (nI (s_as σ).length), .int (s_dg σ)])) := hx
  have hnS : s_nS σ ≤ 10 := hok.2.1
  have hnF : s_nF σ ≤ 40 := hok.2.2.1
  unfold sp_put
  obtain ⟨hr1, g, hg, hgi⟩ := id hcol
  have hcl := hok.2.2.2.1
  have hcop := hok.1
  have han := cN_le (fun s => !s_si σ s) (s_nS σ)
  rcases hpk : ix x 10 with _ | j0
  · rw [if_pos (Or.inl (show (none : Option Nat).isNone = true from rfl))]
    refine lv_iload_n X.1 X.2.1 dX3_put_0 rfl (lv_at hl 1 rfl) ?_
    refine h_callRS (As := [.int x]) (rest := []) X hw cs_X3_76 (c_X3_isPackage l G x) rfl hl.1 rfl (Nat.le_of_ble_eq_true rfl) ⟨by decide, by decide⟩ ⟨Nat.zero_le _, Nat.zero_le _⟩ dX3_put_1 ?_
    refine h_tv (b := .int 0) (by rw [hpk]; rfl) ?_
    refine lv_if_eq (tgt := 17) X.1 X.2.1 dX3_put_4 (by decide) (fun c4 => ?_) (fun c4 => ?_)
    · refine lv_bipush (v := (-2)) X.1 X.2.1 dX3_put_17 (by decide) ?_
      exact h_iretW (v := -2) X Y hw ⟨rfl, hR, fun _ _ => ⟨rfl, rfl⟩, rfl⟩ (Nat.zero_le _) (Nat.zero_le _) dX3_put_19
    · exact absurd (by decide) c4
  by_cases hz : (s_col σ).length = 0
  · rw [if_pos (Or.inr hz)]
    refine lv_iload_n X.1 X.2.1 dX3_put_0 rfl (lv_at hl 1 rfl) ?_
    refine h_callRS (As := [.int x]) (rest := []) X hw cs_X3_76 (c_X3_isPackage l G x) rfl hl.1 rfl (Nat.le_of_ble_eq_true rfl) ⟨by decide, by decide⟩ ⟨Nat.zero_le _, Nat.zero_le _⟩ dX3_put_1 ?_
    refine h_tv (b := .int 1) (by rw [hpk]; rfl) ?_
    refine lv_if_eq (tgt := 17) X.1 X.2.1 dX3_put_4 (by decide) (fun c4 => ?_) (fun c4 => ?_)
    · exact absurd c4 (by decide)
    · refine lv_aload_n X.1 X.2.1 dX3_put_7 rfl (lv_at hl 0 rfl) ?_
      refine gf_X3_31 X hw hx rfl dX3_put_8 ?_
      refine gf_X3_79 X hw hr1 rfl dX3_put_11 ?_
      refine lv_if_ne (tgt := 20) X.1 X.2.1 dX3_put_14 (by decide) (fun c14 => ?_) (fun c14 => ?_)
      · exact absurd (by rw [hz]; rfl) c14
      · refine lv_bipush (v := (-2)) X.1 X.2.1 dX3_put_17 (by decide) ?_
        exact h_iretW (v := -2) X Y hw ⟨rfl, hR, fun _ _ => ⟨rfl, rfl⟩, rfl⟩ (Nat.zero_le _) (Nat.zero_le _) dX3_put_19
  rw [if_neg (fun q => by
    rcases q with q | q
    · cases q
    · exact hz q)]
  by_cases hm : cN (fun s => !s_si σ s) (s_nS σ) < s_cop σ
  · rw [if_pos hm]
    refine lv_iload_n X.1 X.2.1 dX3_put_0 rfl (lv_at hl 1 rfl) ?_
    refine h_callRS (As := [.int x]) (rest := []) X hw cs_X3_76 (c_X3_isPackage l G x) rfl hl.1 rfl (Nat.le_of_ble_eq_true rfl) ⟨by decide, by decide⟩ ⟨Nat.zero_le _, Nat.zero_le _⟩ dX3_put_1 ?_
    refine h_tv (b := .int 1) (by rw [hpk]; rfl) ?_
    refine lv_if_eq (tgt := 17) X.1 X.2.1 dX3_put_4 (by decide) (fun c4 => ?_) (fun c4 => ?_)
    · exact absurd c4 (by decide)
    · refine lv_aload_n X.1 X.2.1 dX3_put_7 rfl (lv_at hl 0 rfl) ?_
      refine gf_X3_31 X hw hx rfl dX3_put_8 ?_
      refine gf_X3_79 X hw hr1 rfl dX3_put_11 ?_
      refine lv_if_ne (tgt := 20) X.1 X.2.1 dX3_put_14 (by decide) (fun c14 => ?_) (fun c14 => ?_)
      · refine lv_aload_n X.1 X.2.1 dX3_put_20 rfl (lv_at hl 0 rfl) ?_
        refine h_callRV (t := (0, 0, 0)) (As := []) (rest := []) X hw cs_X3_82 (c_X3_answeringStores l G hR) hx rfl rfl hl.1 rfl (Nat.le_of_ble_eq_true rfl) ⟨by decide, by decide⟩ ⟨Nat.zero_le _, Nat.zero_le _⟩ dX3_put_21 ?_
        refine lv_aload_n X.1 X.2.1 dX3_put_24 rfl (lv_at hl 0 rfl) ?_
        refine gf_X3_63 X hw hx rfl dX3_put_25 ?_
        refine lv_icmp_ge (tgt := 34) X.1 X.2.1 dX3_put_28 (by decide) (fun c28 => ?_) (fun c28 => ?_)
        · exact absurd c28 (nI_ge hm (by omega))
        · refine lv_bipush (v := (-3)) X.1 X.2.1 dX3_put_31 (by decide) ?_
          exact h_iretW (v := -3) X Y hw ⟨rfl, hR, fun _ _ => ⟨rfl, rfl⟩, rfl⟩ (Nat.zero_le _) (Nat.zero_le _) dX3_put_33
      · exact absurd c14 (nI_ne0 (by omega) (by omega))
  rw [if_neg hm]
  by_cases h40 : 40 ≤ s_nF σ
  · rw [if_pos h40]
    refine lv_iload_n X.1 X.2.1 dX3_put_0 rfl (lv_at hl 1 rfl) ?_
    refine h_callRS (As := [.int x]) (rest := []) X hw cs_X3_76 (c_X3_isPackage l G x) rfl hl.1 rfl (Nat.le_of_ble_eq_true rfl) ⟨by decide, by decide⟩ ⟨Nat.zero_le _, Nat.zero_le _⟩ dX3_put_1 ?_
    refine h_tv (b := .int 1) (by rw [hpk]; rfl) ?_
    refine lv_if_eq (tgt := 17) X.1 X.2.1 dX3_put_4 (by decide) (fun c4 => ?_) (fun c4 => ?_)
    · exact absurd c4 (by decide)
    · refine lv_aload_n X.1 X.2.1 dX3_put_7 rfl (lv_at hl 0 rfl) ?_
      refine gf_X3_31 X hw hx rfl dX3_put_8 ?_
      refine gf_X3_79 X hw hr1 rfl dX3_put_11 ?_
      refine lv_if_ne (tgt := 20) X.1 X.2.1 dX3_put_14 (by decide) (fun c14 => ?_) (fun c14 => ?_)
      · refine lv_aload_n X.1 X.2.1 dX3_put_20 rfl (lv_at hl 0 rfl) ?_
        refine h_callRV (t := (0, 0, 0)) (As := []) (rest := []) X hw cs_X3_82 (c_X3_answeringStores l G hR) hx rfl rfl hl.1 rfl (Nat.le_of_ble_eq_true rfl) ⟨by decide, by decide⟩ ⟨Nat.zero_le _, Nat.zero_le _⟩ dX3_put_21 ?_
        refine lv_aload_n X.1 X.2.1 dX3_put_24 rfl (lv_at hl 0 rfl) ?_
        refine gf_X3_63 X hw hx rfl dX3_put_25 ?_
        refine lv_icmp_ge (tgt := 34) X.1 X.2.1 dX3_put_28 (by decide) (fun c28 => ?_) (fun c28 => ?_)
        · refine lv_aload_n X.1 X.2.1 dX3_put_34 rfl (lv_at hl 0 rfl) ?_
          refine gf_X3_25 X hw hx rfl dX3_put_35 ?_
          refine lv_bipush (v := 40) X.1 X.2.1 dX3_put_38 (by decide) ?_
          refine lv_icmp_lt (tgt := 46) X.1 X.2.1 dX3_put_40 (by decide) (fun c40 => ?_) (fun c40 => ?_)
          · exact absurd c40 (nI_nlt (b := 40) h40 (by omega))
          · refine lv_bipush (v := (-4)) X.1 X.2.1 dX3_put_43 (by decide) ?_
            exact h_iretW (v := -4) X Y hw ⟨rfl, hR, fun _ _ => ⟨rfl, rfl⟩, rfl⟩ (Nat.zero_le _) (Nat.zero_le _) dX3_put_45
        · exact absurd (nI_le (Nat.le_of_not_lt hm) (by omega)) c28
      · exact absurd c14 (nI_ne0 (by omega) (by omega))
  rw [if_neg h40]
  have loop : ∀ (n i : Nat), i ≤ s_cop σ → s_cop σ + 1 ≤ i + n → ∀ (aa : h_T → Nat) (kk : h_C) (H : Heap) (locs : List Loc), x_new G aa kk σ x (s_chN σ i) → (∀ t : h_T, 20 ≤ t.1 → kk t = k t ∧ aa t = ad t) → aa (0, 0, 0) = ad (0, 0, 0) → h_W G.1 h_cl (h_A ad k s.heap.size) s.heap aa kk H locs → ∀ (ls : Array Slot), lv_has ls 4 [(0, .ref (aa (0, 0, 0))), (1, .int x), (2, .ref (aa (7, s_nF σ, 0))), (3, .int (nI i))] → W p l e (h_rm 4 92 12 103) s m args below meth c H locs (2 + 2 * i) (13 + 18 * i) (MQ below (h_Qw G ad k s.heap.size (XPost G ad k (some (.int (nI (s_nF σ), s_put σ x).1)) (nI (s_nF σ), s_put σ x).2)) args s 12 103 (h_A ad k s.heap.size)) (F0 m 57 ls []) := by
    intro n
    induction n with
    | zero =>
      intro i h1 h2
      exact absurd h2 (by omega)
    | succ n ih =>
      intro i hii hni aa kk H locs hN h20 h00 hw ls hl
      obtain ⟨hRk, g7, g8, grs, gcs⟩ := id hN
      have gx : kk (0, 0, 0) = some (.inr (3, [.int (nI (s_cop σ)), .ref (aa (1, 0, 0)), .int (nI (s_nS σ)), .ref (aa (2, 0, 0)), .int (nI (s_nF σ)), .ref (aa (3, 0, 0)), .ref (aa (4, 0, 0)), .ref (aa (5, 0, 0)), .ref (aa (5, 1, 0)), .ref (aa (5, 2, 0)), .int (nI (s_as σ).length), .int (s_dg σ)])) := hRk.1
      obtain ⟨-, -, -, gi0, -, -, gcol, -, -, -⟩ := id hRk
      refine lv_iload_n X.1 X.2.1 dX3_put_57 rfl (lv_at hl 3 rfl) ?_
      refine lv_aload_n X.1 X.2.1 dX3_put_58 rfl (lv_at hl 0 rfl) ?_
      refine gf_X3_63 X hw gx rfl dX3_put_59 ?_
      refine lv_icmp_ge (tgt := 76) X.1 X.2.1 dX3_put_62 (by decide) (fun c62 => ?_) (fun c62 => ?_)
      · obtain rfl : i = s_cop σ := Nat.le_antisymm hii (Nat.le_of_not_lt (fun q => absurd c62 (nI_ge (b := s_cop σ) q (by omega))))
        refine lv_aload_n X.1 X.2.1 dX3_put_76 rfl (lv_at hl 0 rfl) ?_
        refine gf_X3_21 X hw gx rfl dX3_put_77 ?_
        refine lv_aload_n X.1 X.2.1 dX3_put_80 rfl (lv_at hl 0 rfl) ?_
        refine gf_X3_25 X hw gx rfl dX3_put_81 ?_
        refine lv_aload_n X.1 X.2.1 dX3_put_84 rfl (lv_at hl 2 rfl) ?_
        refine h_aast (u := (7, s_nF σ, 0)) X hw 4 0 rfl gi0 g7 rfl (vp_in_nI (by omega) (by decide)) dX3_put_85 (fun H locs hw => ?_)
        obtain ⟨k1, hk1⟩ : ∃ zz, zz = h_cu kk (2, 0, 0) (some (.inl (G.2 4, 40, x_refs (va_up (x_ite aa σ) (nI (s_nF σ)).toNatClampNeg (some (aa (7, s_nF σ, 0))))))) := ⟨_, rfl⟩
        replace hw := h_W.ren hw hk1
        have f1_0_0_0 : k1 (0, 0, 0) = some (.inr (3, [.int (nI (s_cop σ)), .ref (aa (1, 0, 0)), .int (nI (s_nS σ)), .ref (aa (2, 0, 0)), .int (nI (s_nF σ)), .ref (aa (3, 0, 0)), .ref (aa (4, 0, 0)), .ref (aa (5, 0, 0)), .ref (aa (5, 1, 0)), .ref (aa (5, 2, 0)), .int (nI (s_as σ).length), .int (s_dg σ)])) := by rw [hk1, h_cn _ _ (by simp)]; exact gx
        have f1_2_0_0 : k1 (2, 0, 0) = some (.inl (G.2 4, 40, x_refs (va_up (x_ite aa σ) (nI (s_nF σ)).toNatClampNeg (some (aa (7, s_nF σ, 0)))))) := by rw [hk1]; exact h_cs _ _ _
        have f1_3_0_0 : k1 (3, 0, 0) = some (.inr (1, [.ref (aa (3, 1, 0)), .int (nI (s_col σ).length)])) := by rw [hk1, h_cn _ _ (by simp)]; exact gcol.1
        have f1_7_s_nF_σ_0 : k1 (7, s_nF σ, 0) = some (.inr (0, [.int x, .ref (aa (8, s_nF σ, 0)), .int 0])) := by rw [hk1, h_cn _ _ (by simp)]; exact g7
        refine lv_aload_n X.1 X.2.1 dX3_put_86 rfl (lv_at hl 0 rfl) ?_
        refine lv_dup X.1 X.2.1 dX3_put_87 rfl ?_
        refine gf_X3_25 X hw f1_0_0_0 rfl dX3_put_88 ?_
        refine lv_iconst (v := 1) X.1 X.2.1 dX3_put_91 (by decide) ?_
        refine lv_iadd X.1 X.2.1 dX3_put_92 ?_
        refine h_ti (b := nI (s_nF σ + 1)) (nI_1 _) ?_
        refine pf_X3_25 X hw f1_0_0_0 rfl rfl (Nat.le_of_ble_eq_true rfl) dX3_put_93 (fun H locs hw => ?_)
        obtain ⟨k2, hk2⟩ : ∃ zz, zz = h_cu k1 (0, 0, 0) (some (.inr (3, [.int (nI (s_cop σ)), .ref (aa (1, 0, 0)), .int (nI (s_nS σ)), .ref (aa (2, 0, 0)), .int (nI (s_nF σ + 1)), .ref (aa (3, 0, 0)), .ref (aa (4, 0, 0)), .ref (aa (5, 0, 0)), .ref (aa (5, 1, 0)), .ref (aa (5, 2, 0)), .int (nI (s_as σ).length), .int (s_dg σ)]))) := ⟨_, rfl⟩
        replace hw := h_W.ren hw hk2
        have f2_0_0_0 : k2 (0, 0, 0) = some (.inr (3, [.int (nI (s_cop σ)), .ref (aa (1, 0, 0)), .int (nI (s_nS σ)), .ref (aa (2, 0, 0)), .int (nI (s_nF σ + 1)), .ref (aa (3, 0, 0)), .ref (aa (4, 0, 0)), .ref (aa (5, 0, 0)), .ref (aa (5, 1, 0)), .ref (aa (5, 2, 0)), .int (nI (s_as σ).length), .int (s_dg σ)])) := by rw [hk2]; exact h_cs _ _ _
        have f2_2_0_0 : k2 (2, 0, 0) = some (.inl (G.2 4, 40, x_refs (va_up (x_ite aa σ) (nI (s_nF σ)).toNatClampNeg (some (aa (7, s_nF σ, 0)))))) := by rw [hk2, h_cn _ _ (by simp)]; exact f1_2_0_0
        have f2_3_0_0 : k2 (3, 0, 0) = some (.inr (1, [.ref (aa (3, 1, 0)), .int (nI (s_col σ).length)])) := by rw [hk2, h_cn _ _ (by simp)]; exact f1_3_0_0
        have f2_7_s_nF_σ_0 : k2 (7, s_nF σ, 0) = some (.inr (0, [.int x, .ref (aa (8, s_nF σ, 0)), .int 0])) := by rw [hk2, h_cn _ _ (by simp)]; exact f1_7_s_nF_σ_0
        refine lv_aload_n X.1 X.2.1 dX3_put_96 rfl (lv_at hl 0 rfl) ?_
        refine gf_X3_31 X hw f2_0_0_0 rfl dX3_put_97 ?_
        refine lv_iconst (v := 0) X.1 X.2.1 dX3_put_100 (by decide) ?_
        refine pf_X3_79 X hw f2_3_0_0 rfl rfl (Nat.le_of_ble_eq_true rfl) dX3_put_101 (fun H locs hw => ?_)
        obtain ⟨k3, hk3⟩ : ∃ zz, zz = h_cu k2 (3, 0, 0) (some (.inr (1, [.ref (aa (3, 1, 0)), .int 0]))) := ⟨_, rfl⟩
        replace hw := h_W.ren hw hk3
        have f3_0_0_0 : k3 (0, 0, 0) = some (.inr (3, [.int (nI (s_cop σ)), .ref (aa (1, 0, 0)), .int (nI (s_nS σ)), .ref (aa (2, 0, 0)), .int (nI (s_nF σ + 1)), .ref (aa (3, 0, 0)), .ref (aa (4, 0, 0)), .ref (aa (5, 0, 0)), .ref (aa (5, 1, 0)), .ref (aa (5, 2, 0)), .int (nI (s_as σ).length), .int (s_dg σ)])) := by rw [hk3, h_cn _ _ (by simp)]; exact f2_0_0_0
        have f3_2_0_0 : k3 (2, 0, 0) = some (.inl (G.2 4, 40, x_refs (va_up (x_ite aa σ) (nI (s_nF σ)).toNatClampNeg (some (aa (7, s_nF σ, 0)))))) := by rw [hk3, h_cn _ _ (by simp)]; exact f2_2_0_0
        have f3_3_0_0 : k3 (3, 0, 0) = some (.inr (1, [.ref (aa (3, 1, 0)), .int 0])) := by rw [hk3]; exact h_cs _ _ _
        have f3_7_s_nF_σ_0 : k3 (7, s_nF σ, 0) = some (.inr (0, [.int x, .ref (aa (8, s_nF σ, 0)), .int 0])) := by rw [hk3, h_cn _ _ (by simp)]; exact f2_7_s_nF_σ_0
        refine lv_aload_n X.1 X.2.1 dX3_put_104 rfl (lv_at hl 0 rfl) ?_
        refine gf_X3_25 X hw f3_0_0_0 rfl dX3_put_105 ?_
        refine lv_iconst (v := 1) X.1 X.2.1 dX3_put_108 (by decide) ?_
        refine lv_isub X.1 X.2.1 dX3_put_109 ?_
        refine h_ti (b := nI (s_nF σ)) (nI_pred _) ?_
        have hO : ∀ t : h_T, t ≠ (0, 0, 0) → t ≠ (2, 0, 0) → t ≠ (3, 0, 0) → k3 t = kk t := fun t h1 h2 h3 => by rw [hk3, h_cn _ _ h3, hk2, h_cn _ _ h1, hk1, h_cn _ _ h2]
        exact h_iretW (v := nI (s_nF σ)) X Y hw ⟨rfl, RX.addFile hN (by omega) f3_0_0_0 (by rw [f3_2_0_0, nI_clamp (by omega)]) f3_3_0_0 hO, fun t ht => ⟨by rw [hO t (t20 ht (Nat.le_of_ble_eq_true rfl)) (t20 ht (Nat.le_of_ble_eq_true rfl)) (t20 ht (Nat.le_of_ble_eq_true rfl)), (h20 t ht).1], (h20 t ht).2⟩, h00⟩ (by omega) (by omega) dX3_put_110
      · have hib : i < s_cop σ := Nat.lt_of_not_le (fun q => c62 (nI_le q (by omega)))
        refine lv_aload_n X.1 X.2.1 dX3_put_65 rfl (lv_at hl 0 rfl) ?_
        refine lv_aload_n X.1 X.2.1 dX3_put_66 rfl (lv_at hl 2 rfl) ?_
        refine h_callWV (t := (0, 0, 0)) (As := [.ref (aa (7, s_nF σ, 0))]) (rest := []) X hw cs_X3_87 (c_X3_placeCollected l G hN) gx rfl rfl hl.1 rfl (Nat.le_of_ble_eq_true rfl) ⟨by decide, by decide⟩ ⟨by show 2 + 2 * i + 2 ≤ 12; omega, by show 13 + 18 * i + 18 ≤ 103; omega⟩ dX3_put_67 (fun r9 ad1 k1 H locs hp9 hw => ?_)
        obtain ⟨rfl, hNn, hfr, ha0, ha7⟩ := hp9
        refine W.eq (g2 := F0 m 70 ls []) rfl ?_
        have eb1_0 : aa (0, 0, 0) = ad1 (0, 0, 0) := (ha0).symm
        have eb1_1 : aa (7, s_nF σ, 0) = ad1 (7, s_nF σ, 0) := (ha7).symm
        simp only [eb1_0, eb1_1] at hl
        refine lv_iinc (v := nI (i + 1)) (lv' := [(3, .int (nI (i + 1))), (0, .ref (ad1 (0, 0, 0))), (1, .int x), (2, .ref (ad1 (7, s_nF σ, 0)))]) X.1 X.2.1 dX3_put_70 hl (k := 3) rfl (nI_1 _) (by decide) rfl (fun ls hl => ?_)
        refine lv_goto (tgt := 57) X.1 X.2.1 dX3_put_73 (by decide) ?_
        refine W.widen (k := 2 + 2 * (i + 1)) (n := 13 + 18 * (i + 1)) (by omega) (by omega) ?_
        exact ih (i + 1) (by omega) (by omega) ad1 k1 _ _ hNn (fun t ht => ⟨by rw [(hfr t ht).1, (h20 t ht).1], by rw [(hfr t ht).2, (h20 t ht).2]⟩) (ha0.trans h00) hw ls (lv_sub hl [1, 2, 3, 0] rfl)
  refine lv_iload_n X.1 X.2.1 dX3_put_0 rfl (lv_at hl 1 rfl) ?_
  refine h_callRS (As := [.int x]) (rest := []) X hw cs_X3_76 (c_X3_isPackage l G x) rfl hl.1 rfl (Nat.le_of_ble_eq_true rfl) ⟨by decide, by decide⟩ ⟨Nat.zero_le _, Nat.zero_le _⟩ dX3_put_1 ?_
  refine h_tv (b := .int 1) (by rw [hpk]; rfl) ?_
  refine lv_if_eq (tgt := 17) X.1 X.2.1 dX3_put_4 (by decide) (fun c4 => ?_) (fun c4 => ?_)
  · exact absurd c4 (by decide)
  · refine lv_aload_n X.1 X.2.1 dX3_put_7 rfl (lv_at hl 0 rfl) ?_
    refine gf_X3_31 X hw hx rfl dX3_put_8 ?_
    refine gf_X3_79 X hw hr1 rfl dX3_put_11 ?_
    refine lv_if_ne (tgt := 20) X.1 X.2.1 dX3_put_14 (by decide) (fun c14 => ?_) (fun c14 => ?_)
    · refine lv_aload_n X.1 X.2.1 dX3_put_20 rfl (lv_at hl 0 rfl) ?_
      refine h_callRV (t := (0, 0, 0)) (As := []) (rest := []) X hw cs_X3_82 (c_X3_answeringStores l G hR) hx rfl rfl hl.1 rfl (Nat.le_of_ble_eq_true rfl) ⟨by decide, by decide⟩ ⟨Nat.zero_le _, Nat.zero_le _⟩ dX3_put_21 ?_
      refine lv_aload_n X.1 X.2.1 dX3_put_24 rfl (lv_at hl 0 rfl) ?_
      refine gf_X3_63 X hw hx rfl dX3_put_25 ?_
      refine lv_icmp_ge (tgt := 34) X.1 X.2.1 dX3_put_28 (by decide) (fun c28 => ?_) (fun c28 => ?_)
      · refine lv_aload_n X.1 X.2.1 dX3_put_34 rfl (lv_at hl 0 rfl) ?_
        refine gf_X3_25 X hw hx rfl dX3_put_35 ?_
        refine lv_bipush (v := 40) X.1 X.2.1 dX3_put_38 (by decide) ?_
        refine lv_icmp_lt (tgt := 46) X.1 X.2.1 dX3_put_40 (by decide) (fun c40 => ?_) (fun c40 => ?_)
        · obtain ⟨k0, hk0⟩ : ∃ zz, zz = h_cu (h_cu k (7, s_nF σ, 0) none) (8, s_nF σ, 0) none := ⟨_, rfl⟩
          replace hw := ((hw.drop (7, s_nF σ, 0)).drop (8, s_nF σ, 0)).ren hk0
          have f0_0_0_0 : k0 (0, 0, 0) = some (.inr (3, [.int (nI (s_cop σ)), .ref (ad (1, 0, 0)), .int (nI (s_nS σ)), .ref (ad (2, 0, 0)), .int (nI (s_nF σ)), .ref (ad (3, 0, 0)), .ref (ad (4, 0, 0)), .ref (ad (5, 0, 0)), .ref (ad (5, 1, 0)), .ref (ad (5, 2, 0)), .int (nI (s_as σ).length), .int (s_dg σ)])) := by rw [hk0, h_cn _ _ (by simp), h_cn _ _ (by simp)]; exact hx
          have f0_2_0_0 : k0 (2, 0, 0) = some (.inl (G.2 4, 40, x_refs (x_ite ad σ))) := by rw [hk0, h_cn _ _ (by simp), h_cn _ _ (by simp)]; exact hi
          have f0_3_0_0 : k0 (3, 0, 0) = some (.inr (1, [.ref (ad (3, 1, 0)), .int (nI (s_col σ).length)])) := by rw [hk0, h_cn _ _ (by simp), h_cn _ _ (by simp)]; exact hr1
          refine h_new X hw (7, s_nF σ, 0) (by rw [hk0, h_cn _ _ (by simp)]; exact h_cs _ _ _) (ci := 0) rfl in_X0 tyX0 tyX0_ok wk_X3_19 wa_X0 wn_X0 (fs := [.int 0, .null, .int 0]) (fun j hj => by rcases (show j = 0 ∨ j = 1 ∨ j = 2 by omega) with rfl | rfl | rfl <;> rfl) (Nat.le_of_ble_eq_true rfl) (Nat.le_of_ble_eq_true rfl) dX3_put_46 (fun q H hw => ?_)
          obtain ⟨k1, hk1⟩ : ∃ zz, zz = h_cu k0 (7, s_nF σ, 0) (some (.inr (0, [.int 0, .null, .int 0]))) := ⟨_, rfl⟩
          obtain ⟨ad1, had1⟩ : ∃ zz, zz = h_au ad (7, s_nF σ, 0) q := ⟨_, rfl⟩
          replace hw := (hw.ren hk1).renA had1
          obtain rfl : q = ad1 (7, s_nF σ, 0) := by rw [had1, h_as]
          have ea1_0 : ad (0, 0, 0) = ad1 (0, 0, 0) := by rw [had1, h_an _ _ (by simp)]
          have ea1_1 : ad (1, 0, 0) = ad1 (1, 0, 0) := by rw [had1, h_an _ _ (by simp)]
          have ea1_2 : ad (2, 0, 0) = ad1 (2, 0, 0) := by rw [had1, h_an _ _ (by simp)]
          have ea1_3 : ad (3, 0, 0) = ad1 (3, 0, 0) := by rw [had1, h_an _ _ (by simp)]
          have ea1_4 : ad (4, 0, 0) = ad1 (4, 0, 0) := by rw [had1, h_an _ _ (by simp)]
          have ea1_5 : ad (5, 0, 0) = ad1 (5, 0, 0) := by rw [had1, h_an _ _ (by simp)]
          have ea1_6 : ad (5, 1, 0) = ad1 (5, 1, 0) := by rw [had1, h_an _ _ (by simp)]
          have ea1_7 : ad (5, 2, 0) = ad1 (5, 2, 0) := by rw [had1, h_an _ _ (by simp)]
          have ea1_8 : ad (3, 1, 0) = ad1 (3, 1, 0) := by rw [had1, h_an _ _ (by simp)]
          simp only [ea1_0, ea1_1, ea1_2, ea1_3, ea1_4, ea1_5, ea1_6, ea1_7, ea1_8] at hl
          have f1_0_0_0 : k1 (0, 0, 0) = some (.inr (3, [.int (nI (s_cop σ)), .ref (ad1 (1, 0, 0)), .int (nI (s_nS σ)), .ref (ad1 (2, 0, 0)), .int (nI (s_nF σ)), .ref (ad1 (3, 0, 0)), .ref (ad1 (4, 0, 0)), .ref (ad1 (5, 0, 0)), .ref (ad1 (5, 1, 0)), .ref (ad1 (5, 2, 0)), .int (nI (s_as σ).length), .int (s_dg σ)])) := by rw [hk1, h_cn _ _ (by simp), f0_0_0_0]; simp only [ea1_0, ea1_1, ea1_2, ea1_3, ea1_4, ea1_5, ea1_6, ea1_7, ea1_8]
          have f1_2_0_0 : k1 (2, 0, 0) = some (.inl (G.2 4, 40, x_refs (x_ite ad σ))) := by rw [hk1, h_cn _ _ (by simp), f0_2_0_0]
          have f1_3_0_0 : k1 (3, 0, 0) = some (.inr (1, [.ref (ad1 (3, 1, 0)), .int (nI (s_col σ).length)])) := by rw [hk1, h_cn _ _ (by simp), f0_3_0_0]; simp only [ea1_0, ea1_1, ea1_2, ea1_3, ea1_4, ea1_5, ea1_6, ea1_7, ea1_8]
          have f1_7_s_nF_σ_0 : k1 (7, s_nF σ, 0) = some (.inr (0, [.int 0, .null, .int 0])) := by rw [hk1]; exact h_cs _ _ _
          refine lv_dup X.1 X.2.1 dX3_put_49 rfl ?_
          refine lv_iload_n X.1 X.2.1 dX3_put_50 rfl (lv_at hl 1 rfl) ?_
          refine h_callWI (t := (7, s_nF σ, 0)) (As := [.int x]) (rest := [.ref (ad1 (7, s_nF σ, 0))]) X hw cs_X3_86 (c_X0_init l G (t := (7, s_nF σ, 0)) (u := (8, s_nF σ, 0)) f1_7_s_nF_σ_0 (by rw [hk1, h_cn _ _ (by simp), hk0, h_cs]) (by simp) x) rfl hl.1 rfl (Nat.le_of_ble_eq_true rfl) ⟨by decide, by decide⟩ ⟨(Nat.le_of_ble_eq_true rfl), (Nat.le_of_ble_eq_true rfl)⟩ dX3_put_51 (fun r9 ad2 k2 H locs hp9 hw => ?_)
          obtain ⟨rfl, c7, c8, a7, hoo⟩ := hp9
          refine W.eq (g2 := F0 m 54 ls [.ref (ad1 (7, s_nF σ, 0))]) rfl ?_
          have eb2_0 : ad1 (0, 0, 0) = ad2 (0, 0, 0) := ((hoo (0, 0, 0) (by simp) (by simp)).2).symm
          have eb2_1 : ad1 (7, s_nF σ, 0) = ad2 (7, s_nF σ, 0) := (a7).symm
          simp only [eb2_0, eb2_1] at hl
          simp only [eb2_0, eb2_1]
          refine lv_astore_n (lv' := [(2, .ref (ad2 (7, s_nF σ, 0))), (0, .ref (ad2 (0, 0, 0))), (1, .int x)]) X.1 X.2.1 dX3_put_54 rfl hl (by decide) rfl (fun ls hl => ?_)
          refine lv_iconst (v := 0) X.1 X.2.1 dX3_put_55 (by decide) ?_
          refine lv_istore_n (lv' := [(3, .int 0), (2, .ref (ad2 (7, s_nF σ, 0))), (0, .ref (ad2 (0, 0, 0))), (1, .int x)]) X.1 X.2.1 dX3_put_56 rfl hl (by decide) rfl (fun ls hl => ?_)
          have hO : ∀ t : h_T, t ≠ (7, s_nF σ, 0) → t ≠ (8, s_nF σ, 0) → k2 t = k t ∧ ad2 t = ad t := fun t h7 h8 => ⟨by rw [(hoo t h7 h8).1, hk1, h_cn _ _ h7, hk0, h_cn _ _ h8, h_cn _ _ h7], by rw [(hoo t h7 h8).2, had1, h_an _ _ h7]⟩
          exact loop (s_cop σ + 1) 0 (by omega) (by omega) ad2 k2 _ _ ⟨hR.congr2 (fun t hu => by
            obtain ⟨u7, u8, u9⟩ := hu.old hok
            exact hO t u7 u8), c7, c8, (fun s hs => absurd hs (by show ¬ (false = true); decide)), (fun s hs => absurd hs (by show ¬ (false = true); decide))⟩ (fun t ht => hO t (t20 ht (Nat.le_of_ble_eq_true rfl)) (t20 ht (Nat.le_of_ble_eq_true rfl))) (hO (0, 0, 0) (by simp) (by simp)).2 hw ls (lv_sub hl [2, 3, 1, 0] rfl)
        · exact absurd (nI_lt (b := 40) (by omega) (by omega)) c40
      · exact absurd (nI_le (Nat.le_of_not_lt hm) (by omega)) c28
    · exact absurd c14 (nI_ne0 (by omega) (by omega))
end
section
/-! ===== polls in mathematical words ===== -/
def uN (x : Int64) : Nat := x.toUInt64.toNat
theorem uN_lt (x : Int64) : uN x < 18446744073709551616 := x.toUInt64.toNat_lt
theorem uN_inj {x y : Int64} (h : uN x = uN y) : x = y := congrArg UInt64.toInt64 (UInt64.toNat_inj.mp h)
theorem uN_shr (x : Int64) (s : UInt64) : uN (x.toUInt64 >>> s).toInt64 = uN x / 2 ^ (s.toNat % 64) := by
  show (x.toUInt64 >>> s).toNat = _
  rw [UInt64.toNat_shiftRight, Nat.shiftRight_eq_div_pow]
  rfl

theorem uN_lN {n : Nat} (h : n < 18446744073709551616) : uN (lN n) = n := by
  show (Int64.ofNat n).toUInt64.toNat = n
  rw [show (Int64.ofNat n).toUInt64 = UInt64.ofNat n from rfl, UInt64.toNat_ofNat']
  exact Nat.mod_eq_of_lt h
def p_A : Int64 := 6364136223846793005
def p_B : Int64 := 1442695040888963407
/-- the highest 31 bits -/
def p_sh (x : Int64) : Nat := uN x / 2 ^ 33
theorem p_sh_lt (x : Int64) : p_sh x < 2 ^ 31 := by
  have := uN_lt x
  unfold p_sh
  omega
theorem p_sh_eq (x : Int64) : (x.toUInt64 >>> ((33 : Int32).toInt64.toUInt64 &&& Int64.toUInt64 63)).toInt64 = lN (p_sh x) := by
  apply uN_inj
  rw [uN_shr, uN_lN (by have := p_sh_lt x; omega)]
  rfl
def swp (m : Nat → Nat) (a b : Nat) : Nat → Nat := fun c => if c = b then m a else if c = a then m b else m c
def p_st (x : Int64) : Int64 := x * p_A + p_B
def p_ix (y : Int64) (d : Nat) : Nat := p_sh y % d
def p_mixG (st : Int64 → Int64) (jx : Int64 → Nat → Nat) : Nat → (Nat → Nat) → Int64 → (Nat → Nat) × Int64
  | 0, m, x => (m, x)
  | k + 1, m, x => p_mixG st jx k (swp m (k + 1) (jx (st x) (k + 2))) (st x)
theorem mixG_s (st : Int64 → Int64) (jx : Int64 → Nat → Nat) (k : Nat) (m : Nat → Nat) (x : Int64) : p_mixG st jx (k + 1) m x = p_mixG st jx k (swp m (k + 1) (jx (st x) (k + 2))) (st x) := rfl
def p_mix (k : Nat) (m : Nat → Nat) (x : Int64) : (Nat → Nat) × Int64 := p_mixG p_st p_ix k m x
theorem mix_0 (m : Nat → Nat) (x : Int64) : p_mix 0 m x = (m, x) := rfl
theorem mix_s (k : Nat) (m : Nat → Nat) (x : Int64) : p_mix (k + 1) m x = p_mix k (swp m (k + 1) (p_ix (p_st x) (k + 2))) (p_st x) := mixG_s p_st p_ix k m x
theorem p_ix_lt (y : Int64) {d : Nat} (h : 0 < d) : p_ix y d < d := Nat.mod_lt _ h
theorem swp_in {P : Nat → Prop} {n a b : Nat} {m : Nat → Nat} (ha : a < n) (hb : b < n) (h : ∀ c, c < n → P (m c)) : ∀ c, c < n → P (swp m a b c) := by
  intro c hc
  unfold swp
  split
  · exact h _ ha
  · split
    · exact h _ hb
    · exact h c hc
theorem mix_in {P : Nat → Prop} {n : Nat} (k : Nat) : ∀ (m : Nat → Nat) (x : Int64), k < n → (∀ c, c < n → P (m c)) → ∀ c, c < n → P ((p_mix k m x).1 c) := by
  induction k with
  | zero => exact fun m x _ h => h
  | succ k ih =>
    intro m x hk h
    rw [mix_s]
    exact ih _ _ (by omega) (swp_in hk (by have := p_ix_lt (p_st x) (show 0 < k + 2 by omega); omega) h)
def s_clN (σ : S_t) (f n : Nat) : List Nat := (List.range n).filter (s_isC σ f)
theorem clN_t {σ : S_t} {f n : Nat} (h : s_isC σ f n = true) : s_clN σ f (n + 1) = s_clN σ f n ++ [n] := by
  unfold s_clN
  rw [List.range_succ, List.filter_append]
  simp [h]
theorem clN_f {σ : S_t} {f n : Nat} (h : s_isC σ f n = false) : s_clN σ f (n + 1) = s_clN σ f n := by
  unfold s_clN
  rw [List.range_succ, List.filter_append]
  simp [h]
theorem clN_len (σ : S_t) (f : Nat) : ∀ n, (s_clN σ f n).length = cN (s_isC σ f) n
  | 0 => rfl
  | n + 1 => by
    cases h : s_isC σ f n with
    | true => rw [clN_t h, cN_t h, List.length_append, clN_len σ f n]; rfl
    | false => rw [clN_f h, cN_f h, clN_len σ f n]
theorem clN_mem {σ : S_t} {f n c : Nat} (h : c < cN (s_isC σ f) n) : (s_clN σ f n).getD c 0 < n ∧ s_isC σ f ((s_clN σ f n).getD c 0) = true := by
  have hc : c < (s_clN σ f n).length := by rw [clN_len]; exact h
  rw [List.getD_eq_getElem?_getD, List.getElem?_eq_getElem hc]
  have hm : (s_clN σ f n)[c] ∈ s_clN σ f n := List.getElem_mem hc
  obtain ⟨h1, h2⟩ := List.mem_filter.mp hm
  exact ⟨List.mem_range.mp h1, h2⟩
def p_row (σ : S_t) (f : Nat) (m : Nat → Nat) (a : Nat) : Int32 × Int32 × Int32 := (nI f, nI (m a), dgL ((s_cnt σ (m a) f).getD []))
def p_ask (σ : S_t) (f : Nat) (m : Nat → Nat) (c : Nat) : List (Int32 × Int32 × Int32) := (List.range c).map (p_row σ f m)
theorem ask_s (σ : S_t) (f : Nat) (m : Nat → Nat) (c : Nat) : p_ask σ f m (c + 1) = p_ask σ f m c ++ [p_row σ f m c] := by
  unfold p_ask
  rw [List.range_succ, List.map_append]
  rfl
theorem ask_len (σ : S_t) (f : Nat) (m : Nat → Nat) (c : Nat) : (p_ask σ f m c).length = c := by
  unfold p_ask
  rw [List.length_map, List.length_range]
def p_mf (σ : S_t) (f : Nat) (x : Int64) : (Nat → Nat) × Int64 := p_mix (cN (s_isC σ f) (s_nS σ) - 1) (fun c => (s_clN σ f (s_nS σ)).getD c 0) x
def p_n3 (σ : S_t) (f : Nat) : Nat := min (cN (s_isC σ f) (s_nS σ)) 3
def sp_pollN (σ : S_t) (w : Int32) (x : Int64) : Nat → List (Int32 × Int32 × Int32) × Int64
  | 0 => ([], x)
  | n + 1 => if s_pk σ n = w then ((sp_pollN σ w x n).1 ++ p_ask σ n (p_mf σ n (sp_pollN σ w x n).2).1 (p_n3 σ n), (p_mf σ n (sp_pollN σ w x n).2).2) else sp_pollN σ w x n
theorem pollN_t {σ : S_t} {w : Int32} {x : Int64} {n : Nat} (h : s_pk σ n = w) : sp_pollN σ w x (n + 1) = ((sp_pollN σ w x n).1 ++ p_ask σ n (p_mf σ n (sp_pollN σ w x n).2).1 (p_n3 σ n), (p_mf σ n (sp_pollN σ w x n).2).2) := if_pos h
theorem pollN_f {σ : S_t} {w : Int32} {x : Int64} {n : Nat} (h : ¬ s_pk σ n = w) : sp_pollN σ w x (n + 1) = sp_pollN σ w x n := if_neg h
theorem pollN_len (σ : S_t) (w : Int32) (x : Int64) : ∀ n, (sp_pollN σ w x n).1.length ≤ 3 * n
  | 0 => Nat.le_refl _
  | n + 1 => by
    have ih := pollN_len σ w x n
    by_cases h : s_pk σ n = w
    · rw [pollN_t h, List.length_append, ask_len]
      have : p_n3 σ n ≤ 3 := Nat.min_le_right _ _
      omega
    · rw [pollN_f h]
      omega
def sp_poll (σ : S_t) (w : Int32) (x : Int64) : Int32 × S_t := if (ix w 10).isNone then (-2, σ) else (nI (sp_pollN σ w x (s_nF σ)).1.length, s_setAs σ (sp_pollN σ w x (s_nF σ)).1)
theorem mf_in {σ : S_t} {f : Nat} {x : Int64} {c : Nat} (h : c < cN (s_isC σ f) (s_nS σ)) : (p_mf σ f x).1 c < s_nS σ ∧ s_isC σ f ((p_mf σ f x).1 c) = true := by
  refine mix_in (P := fun s => s < s_nS σ ∧ s_isC σ f s = true) (n := cN (s_isC σ f) (s_nS σ)) _ _ _ (by omega) (fun a ha => clN_mem ha) c h
/-- the places for mixing are others -/
theorem RX.setMix {G : h_G} {ad : h_T → Nat} {k k' : h_C} {σ : S_t} (h : RX G ad k σ) {g : Nat → Int32} (hk : k' (4, 0, 0) = some (.inl (G.2 0, 10, .inl g))) (ho : ∀ t : h_T, t ≠ (4, 0, 0) → k' t = k t) : RX G ad k' σ := by
  obtain ⟨g0, g1, g2, g3, g4, g5, g6, g7, ⟨a0, a1, a2, b0, b1, b2, b3⟩, ok⟩ := h
  exact ⟨(ho _ (by simp)).trans g0, (ho _ (by simp)).trans g1, fun i hi => (ho _ (by simp)).trans (g2 i hi), (ho _ (by simp)).trans g3, fun f hf => ⟨(ho _ (by simp)).trans (g4 f hf).1, (ho _ (by simp)).trans (g4 f hf).2⟩, fun a f b hb => (g5 a f b hb).congr (ho _ (by simp)) (ho _ (by simp)) rfl, g6.congr (ho _ (by simp)) (ho _ (by simp)) rfl, ⟨g, hk⟩, ⟨a0, a1, a2, (ho _ (by simp)).trans b0, (ho _ (by simp)).trans b1, (ho _ (by simp)).trans b2, b3⟩, ok⟩
/-- what was asked is another list -/
theorem RX.setAs {G : h_G} {ad : h_T → Nat} {k k' : h_C} {σ : S_t} (h : RX G ad k σ) {as : List (Int32 × Int32 × Int32)} (hl : as.length ≤ 120) (hk0 : k' (0, 0, 0) = some (.inr (3, x_obj ad (s_setAs σ as)))) (hk : x_ask G k' as) (ho : ∀ t : h_T, t ≠ (0, 0, 0) → t.1 ≠ 5 → k' t = k t) : RX G ad k' (s_setAs σ as) := by
  obtain ⟨g0, g1, g2, g3, g4, g5, g6, ⟨g, g7⟩, -, ok1, ok2, ok3, ok4, ok5, ok⟩ := h
  exact ⟨hk0, (ho _ (by simp) (by simp)).trans g1, fun i hi => (ho _ (by simp) (by simp)).trans (g2 i hi), (ho _ (by simp) (by simp)).trans g3, fun f hf => ⟨(ho _ (by simp) (by simp)).trans (g4 f hf).1, (ho _ (by simp) (by simp)).trans (g4 f hf).2⟩, fun a f b hb => (g5 a f b hb).congr (ho _ (by simp) (by simp)) (ho _ (by simp) (by simp)) rfl, g6.congr (ho _ (by simp) (by simp)) (ho _ (by simp) (by simp)) rfl, ⟨g, (ho _ (by simp) (by simp)).trans g7⟩, hk, ok1, ok2, ok3, ok4, hl, ok⟩
end
section
set_option maxHeartbeats 4000000 in
set_option maxRecDepth 100000 in
/-- listCounting -/
theorem c_X3_listCounting (l : Launch) (G : h_G) {ad : h_T → Nat} {k : h_C} {σ : S_t} (hR : RX G ad k σ) {f : Nat} (hf : f < s_nF σ) : h_Wr l yX3_listCounting cX3_listCounting 4 (some .int) 3 65 0 0 G ad k [.ref (ad (0, 0, 0)), .ref (ad (7, f, 0))] (fun r ad' k' => r = some (.int (nI (cN (s_isC σ f) (s_nS σ)))) ∧ ad' = ad ∧ (∃ g : Nat → Int32, k' (4, 0, 0) = some (.inl (G.2 0, 10, .inl g)) ∧ ∀ c, c < cN (s_isC σ f) (s_nS σ) → g c = nI ((s_clN σ f (s_nS σ)).getD c 0)) ∧ ∀ t : h_T, t ≠ (4, 0, 0) → k' t = k t) := by
  refine h_wr (by decide +kernel) (Nat.le_of_ble_eq_true rfl) ?_
  intro p e s m args below meth c X Y hw ls hl
  have hl : lv_has ls 4 [(0, .ref (ad (0, 0, 0))), (1, .ref (ad (7, f, 0)))] := hl
  have hok := hR.ok
  obtain ⟨hx, hs, hst, hi, hit, hcp, hcol, hmx, hask, -⟩ := id hR
  have hx : k (0, 0, 0) = some (.inr (3, [.int (nI (s_cop σ)), .ref (ad (1, 0, 0)), .int (nI (s_nS σ)), .ref (ad (2, 0, 0)), .int (nI (s_nF σ)), .ref (ad (3, 0, 0)), .ref (ad (4, 0, 0)), .ref (ad (5, 0, 0)), .ref (ad (5, 1, 0)), .ref (ad (5, 2, 0)), .int (nI (s_as σ).length), .int (s_dg σ)])) := hx
  have hnS : s_nS σ ≤ 10 := hok.2.1
  have hnF : s_nF σ ≤ 40 := hok.2.2.1
  have loop : ∀ (n i : Nat), i ≤ s_nS σ → s_nS σ + 1 ≤ i + n → ∀ (kk : h_C) (g : Nat → Int32) (H : Heap) (locs : List Loc), kk (4, 0, 0) = some (.inl (G.2 0, 10, .inl g)) → (∀ c, c < cN (s_isC σ f) i → g c = nI ((s_clN σ f i).getD c 0)) → (∀ t : h_T, t ≠ (4, 0, 0) → kk t = k t) → h_W G.1 h_cl (h_A ad k s.heap.size) s.heap ad kk H locs → ∀ (ls : Array Slot), lv_has ls 4 [(0, .ref (ad (0, 0, 0))), (1, .ref (ad (7, f, 0))), (2, .int (nI (cN (s_isC σ f) i))), (3, .int (nI i))] → W p l e (h_rm 3 65 0 0) s m args below meth c H locs 0 0 (MQ below (h_Qw G ad k s.heap.size (fun r ad' k' => r = some (.int (nI (cN (s_isC σ f) (s_nS σ)))) ∧ ad' = ad ∧ (∃ g : Nat → Int32, k' (4, 0, 0) = some (.inl (G.2 0, 10, .inl g)) ∧ ∀ c, c < cN (s_isC σ f) (s_nS σ) → g c = nI ((s_clN σ f (s_nS σ)).getD c 0)) ∧ ∀ t : h_T, t ≠ (4, 0, 0) → k' t = k t)) args s 0 0 (h_A ad k s.heap.size)) (F0 m 4 ls []) := by
    intro n
    induction n with
    | zero =>
      intro i h1 h2
      exact absurd h2 (by omega)
    | succ n ih =>
      intro i hii hni kk g H locs gm gc ho hw ls hl
      have hRk : RX G ad kk σ := hR.setMix gm ho
      have gx : kk (0, 0, 0) = some (.inr (3, [.int (nI (s_cop σ)), .ref (ad (1, 0, 0)), .int (nI (s_nS σ)), .ref (ad (2, 0, 0)), .int (nI (s_nF σ)), .ref (ad (3, 0, 0)), .ref (ad (4, 0, 0)), .ref (ad (5, 0, 0)), .ref (ad (5, 1, 0)), .ref (ad (5, 2, 0)), .int (nI (s_as σ).length), .int (s_dg σ)])) := hRk.1
      have hcl := cN_le (s_isC σ f) i
      refine lv_iload_n X.1 X.2.1 dX3_listCounting_4 rfl (lv_at hl 3 rfl) ?_
      refine lv_aload_n X.1 X.2.1 dX3_listCounting_5 rfl (lv_at hl 0 rfl) ?_
      refine gf_X3_15 X hw gx rfl dX3_listCounting_6 ?_
      refine lv_icmp_ge (tgt := 46) X.1 X.2.1 dX3_listCounting_9 (by decide) (fun c9 => ?_) (fun c9 => ?_)
      · obtain rfl : i = s_nS σ := Nat.le_antisymm hii (Nat.le_of_not_lt (fun q => absurd c9 (nI_ge (b := s_nS σ) q (by omega))))
        refine lv_iload_n X.1 X.2.1 dX3_listCounting_46 rfl (lv_at hl 2 rfl) ?_
        exact h_iretW X Y hw ⟨rfl, rfl, ⟨g, gm, gc⟩, ho⟩ (Nat.zero_le _) (Nat.zero_le _) dX3_listCounting_47
      · have hib : i < s_nS σ := Nat.lt_of_not_le (fun q => c9 (nI_le q (by omega)))
        rcases hc : s_cnt σ i f with _ | c
        · refine lv_iload_n X.1 X.2.1 dX3_listCounting_12 rfl (lv_at hl 2 rfl) ?_
          refine lv_aload_n X.1 X.2.1 dX3_listCounting_13 rfl (lv_at hl 0 rfl) ?_
          refine gf_X3_35 X hw gx rfl dX3_listCounting_14 ?_
          refine h_alen X hw 0 rfl gm (v := 10) rfl dX3_listCounting_17 ?_
          refine lv_icmp_ge (tgt := 40) X.1 X.2.1 dX3_listCounting_18 (by decide) (fun c18 => ?_) (fun c18 => ?_)
          · exact absurd c18 (nI_ge (b := 10) (by omega) (by omega))
          · refine lv_aload_n X.1 X.2.1 dX3_listCounting_21 rfl (lv_at hl 0 rfl) ?_
            refine lv_aload_n X.1 X.2.1 dX3_listCounting_22 rfl (lv_at hl 1 rfl) ?_
            refine lv_iload_n X.1 X.2.1 dX3_listCounting_23 rfl (lv_at hl 3 rfl) ?_
            refine h_callRV (t := (0, 0, 0)) (As := [.ref (ad (7, f, 0)), .int (nI i)]) (rest := []) X hw cs_X3_202 (c_X3_countingRow l G hRk hf hib) gx rfl rfl hl.1 rfl (Nat.le_of_ble_eq_true rfl) ⟨by decide, by decide⟩ ⟨Nat.zero_le _, Nat.zero_le _⟩ dX3_listCounting_24 ?_
            refine h_tv (b := .null) (by rw [hc]; rfl) ?_
            refine lv_ifnullN (tgt := 40) X.1 X.2.1 dX3_listCounting_27 (by decide) ?_
            refine lv_iinc (v := nI (i + 1)) (lv' := [(3, .int (nI (i + 1))), (0, .ref (ad (0, 0, 0))), (1, .ref (ad (7, f, 0))), (2, .int (nI (cN (s_isC σ f) i)))]) X.1 X.2.1 dX3_listCounting_40 hl (k := 3) rfl (nI_1 _) (by decide) rfl (fun ls hl => ?_)
            refine lv_goto (tgt := 4) X.1 X.2.1 dX3_listCounting_43 (by decide) ?_
            have hb0 : s_isC σ f i = false := by unfold s_isC; rw [hc]; rfl
            exact ih (i + 1) (by omega) (by omega) kk g _ _ gm (by rw [cN_f hb0, clN_f hb0]; exact gc) ho hw ls (by
              rw [cN_f hb0]
              exact lv_sub hl [1, 2, 3, 0] rfl)
        · refine lv_iload_n X.1 X.2.1 dX3_listCounting_12 rfl (lv_at hl 2 rfl) ?_
          refine lv_aload_n X.1 X.2.1 dX3_listCounting_13 rfl (lv_at hl 0 rfl) ?_
          refine gf_X3_35 X hw gx rfl dX3_listCounting_14 ?_
          refine h_alen X hw 0 rfl gm (v := 10) rfl dX3_listCounting_17 ?_
          refine lv_icmp_ge (tgt := 40) X.1 X.2.1 dX3_listCounting_18 (by decide) (fun c18 => ?_) (fun c18 => ?_)
          · exact absurd c18 (nI_ge (b := 10) (by omega) (by omega))
          · refine lv_aload_n X.1 X.2.1 dX3_listCounting_21 rfl (lv_at hl 0 rfl) ?_
            refine lv_aload_n X.1 X.2.1 dX3_listCounting_22 rfl (lv_at hl 1 rfl) ?_
            refine lv_iload_n X.1 X.2.1 dX3_listCounting_23 rfl (lv_at hl 3 rfl) ?_
            refine h_callRV (t := (0, 0, 0)) (As := [.ref (ad (7, f, 0)), .int (nI i)]) (rest := []) X hw cs_X3_202 (c_X3_countingRow l G hRk hf hib) gx rfl rfl hl.1 rfl (Nat.le_of_ble_eq_true rfl) ⟨by decide, by decide⟩ ⟨Nat.zero_le _, Nat.zero_le _⟩ dX3_listCounting_24 ?_
            refine h_tv (b := .ref (ad (9, i, f))) (by rw [hc]; rfl) ?_
            refine lv_ifnull X.1 X.2.1 dX3_listCounting_27 ?_
            refine lv_aload_n X.1 X.2.1 dX3_listCounting_30 rfl (lv_at hl 0 rfl) ?_
            refine gf_X3_35 X hw gx rfl dX3_listCounting_31 ?_
            refine lv_iload_n X.1 X.2.1 dX3_listCounting_34 rfl (lv_at hl 2 rfl) ?_
            refine lv_iload_n X.1 X.2.1 dX3_listCounting_35 rfl (lv_at hl 3 rfl) ?_
            refine h_iast X hw gm (vp_in_nI (by omega) (by decide)) dX3_listCounting_36 (fun H locs hw => ?_)
            obtain ⟨k1, hk1⟩ : ∃ zz, zz = h_cu kk (4, 0, 0) (some (.inl (G.2 0, 10, .inl (upd g (nI (cN (s_isC σ f) i)).toNatClampNeg (nI i))))) := ⟨_, rfl⟩
            replace hw := h_W.ren hw hk1
            have f1_0_0_0 : k1 (0, 0, 0) = some (.inr (3, [.int (nI (s_cop σ)), .ref (ad (1, 0, 0)), .int (nI (s_nS σ)), .ref (ad (2, 0, 0)), .int (nI (s_nF σ)), .ref (ad (3, 0, 0)), .ref (ad (4, 0, 0)), .ref (ad (5, 0, 0)), .ref (ad (5, 1, 0)), .ref (ad (5, 2, 0)), .int (nI (s_as σ).length), .int (s_dg σ)])) := by rw [hk1, h_cn _ _ (by simp)]; exact gx
            have f1_4_0_0 : k1 (4, 0, 0) = some (.inl (G.2 0, 10, .inl (upd g (nI (cN (s_isC σ f) i)).toNatClampNeg (nI i)))) := by rw [hk1]; exact h_cs _ _ _
            refine lv_iinc (v := nI ((cN (s_isC σ f) i) + 1)) (lv' := [(2, .int (nI ((cN (s_isC σ f) i) + 1))), (0, .ref (ad (0, 0, 0))), (1, .ref (ad (7, f, 0))), (3, .int (nI i))]) X.1 X.2.1 dX3_listCounting_37 hl (k := 2) rfl (nI_1 _) (by decide) rfl (fun ls hl => ?_)
            refine lv_iinc (v := nI (i + 1)) (lv' := [(3, .int (nI (i + 1))), (2, .int (nI ((cN (s_isC σ f) i) + 1))), (0, .ref (ad (0, 0, 0))), (1, .ref (ad (7, f, 0)))]) X.1 X.2.1 dX3_listCounting_40 hl (k := 3) rfl (nI_1 _) (by decide) rfl (fun ls hl => ?_)
            refine lv_goto (tgt := 4) X.1 X.2.1 dX3_listCounting_43 (by decide) ?_
            have hb1 : s_isC σ f i = true := by unfold s_isC; rw [hc]; rfl
            exact ih (i + 1) (by omega) (by omega) k1 _ _ _ f1_4_0_0 (fun c hc2 => by
              rw [cN_t hb1] at hc2
              rw [clN_t hb1, nI_clamp (by omega), List.getD_eq_getElem?_getD]
              by_cases hcn : c = cN (s_isC σ f) i
              · rw [hcn, pk_us, List.getElem?_append_right (by rw [clN_len]; exact Nat.le_refl _), clN_len]
                simp
              · rw [pk_un hcn, List.getElem?_append_left (by rw [clN_len]; omega), ← List.getD_eq_getElem?_getD]
                exact gc c (by omega)) (fun t ht => by rw [hk1, h_cn _ _ ht, ho t ht]) hw ls (by
              rw [cN_t hb1]
              exact lv_sub hl [2, 3, 1, 0] rfl)
  obtain ⟨gm0, hgm0⟩ := hmx
  refine lv_iconst (v := 0) X.1 X.2.1 dX3_listCounting_0 (by decide) ?_
  refine lv_istore_n (lv' := [(2, .int 0), (0, .ref (ad (0, 0, 0))), (1, .ref (ad (7, f, 0)))]) X.1 X.2.1 dX3_listCounting_1 rfl hl (by decide) rfl (fun ls hl => ?_)
  refine lv_iconst (v := 0) X.1 X.2.1 dX3_listCounting_2 (by decide) ?_
  refine lv_istore_n (lv' := [(3, .int 0), (2, .int 0), (0, .ref (ad (0, 0, 0))), (1, .ref (ad (7, f, 0)))]) X.1 X.2.1 dX3_listCounting_3 rfl hl (by decide) rfl (fun ls hl => ?_)
  exact loop (s_nS σ + 1) 0 (by omega) (by omega) k gm0 _ _ hgm0 (fun c hc => absurd hc (Nat.not_lt_zero c)) (fun _ _ => rfl) hw ls (lv_sub hl [2, 3, 1, 0] rfl)
set_option maxHeartbeats 4000000 in
set_option maxRecDepth 100000 in
/-- mix -/
theorem c_X3_mix (l : Launch) (G : h_G) {ad : h_T → Nat} {k : h_C} {σ : S_t} (hR : RX G ad k σ) {n0 : Nat} (hn0 : n0 ≤ 10) {m0 : Nat → Nat} {gg : Nat → Int32} (hgg : k (4, 0, 0) = some (.inl (G.2 0, 10, .inl gg))) (hgc : ∀ c, c < n0 → gg c = nI (m0 c)) (x : Int64) : h_Wr l yX3_mix cX3_mix 9 (some .long) 0 0 0 0 G ad k [.ref (ad (0, 0, 0)), .int (nI n0), .long x] (fun r ad' k' => r = some (.long (p_mix (n0 - 1) m0 x).2) ∧ ad' = ad ∧ (∃ g : Nat → Int32, k' (4, 0, 0) = some (.inl (G.2 0, 10, .inl g)) ∧ ∀ c, c < n0 → g c = nI ((p_mix (n0 - 1) m0 x).1 c)) ∧ ∀ t : h_T, t ≠ (4, 0, 0) → k' t = k t) := by
  refine h_wr (by decide +kernel) (Nat.le_of_ble_eq_true rfl) ?_
  intro p e s m args below meth c X Y hw ls hl
  have hl : lv_has ls 9 [(0, .ref (ad (0, 0, 0))), (1, .int (nI n0)), (2, .long x)] := hl
  have hok := hR.ok
  obtain ⟨hx, hs, hst, hi, hit, hcp, hcol, hmx, hask, -⟩ := id hR
  have hx : k (0, 0, 0) = some (.inr (3, [.int (nI (s_cop σ)), .ref (ad (1, 0, 0)), .int (nI (s_nS σ)), .ref (ad (2, 0, 0)), .int (nI (s_nF σ)), .ref (ad (3, 0, 0)), .ref (ad (4, 0, 0)), .ref (ad (5, 0, 0)), .ref (ad (5, 1, 0)), .ref (ad (5, 2, 0)), .int (nI (s_as σ).length), .int (s_dg σ)])) := hx
  have hnS : s_nS σ ≤ 10 := hok.2.1
  have hnF : s_nF σ ≤ 40 := hok.2.2.1
  have loop : ∀ (q : Nat) (m1 : Nat → Nat) (y : Int64) (kk : h_C) (g : Nat → Int32) (H : Heap) (locs : List Loc), q < n0 → p_mix q m1 y = p_mix (n0 - 1) m0 x → kk (4, 0, 0) = some (.inl (G.2 0, 10, .inl g)) → (∀ c, c < n0 → g c = nI (m1 c)) → (∀ t : h_T, t ≠ (4, 0, 0) → kk t = k t) → h_W G.1 h_cl (h_A ad k s.heap.size) s.heap ad kk H locs → ∀ (ls : Array Slot), lv_has ls 9 [(0, .ref (ad (0, 0, 0))), (4, .long y), (6, .int (nI q))] → W p l e (h_rm 0 0 0 0) s m args below meth c H locs 0 0 (MQ below (h_Qw G ad k s.heap.size (fun r ad' k' => r = some (.long (p_mix (n0 - 1) m0 x).2) ∧ ad' = ad ∧ (∃ g : Nat → Int32, k' (4, 0, 0) = some (.inl (G.2 0, 10, .inl g)) ∧ ∀ c, c < n0 → g c = nI ((p_mix (n0 - 1) m0 x).1 c)) ∧ ∀ t : h_T, t ≠ (4, 0, 0) → k' t = k t)) args s 0 0 (h_A ad k s.heap.size)) (F0 m 8 ls []) := by
    intro q
    induction q with
    | zero =>
      intro m1 y kk g H locs hq hmx1 gm gc ho hw ls hl
      refine lv_iload X.1 X.2.1 dX3_mix_8 (lv_at hl 2 rfl) ?_
      refine lv_iconst (v := 1) X.1 X.2.1 dX3_mix_10 (by decide) ?_
      refine lv_icmp_lt (tgt := 77) X.1 X.2.1 dX3_mix_11 (by decide) (fun c11 => ?_) (fun c11 => ?_)
      · refine lv_lload X.1 X.2.1 dX3_mix_77 (lv_at hl 1 rfl) ?_
        rw [← hmx1]
        exact h_lretW X Y hw ⟨rfl, rfl, ⟨g, gm, gc⟩, ho⟩ (Nat.zero_le _) (Nat.zero_le _) dX3_mix_79
      · exact absurd (nI_lt (a := 0) (b := 1) (by omega) (by omega)) c11
    | succ q ih =>
      intro m1 y kk g H locs hq hmx1 gm gc ho hw ls hl
      have gx : kk (0, 0, 0) = some (.inr (3, [.int (nI (s_cop σ)), .ref (ad (1, 0, 0)), .int (nI (s_nS σ)), .ref (ad (2, 0, 0)), .int (nI (s_nF σ)), .ref (ad (3, 0, 0)), .ref (ad (4, 0, 0)), .ref (ad (5, 0, 0)), .ref (ad (5, 1, 0)), .ref (ad (5, 2, 0)), .int (nI (s_as σ).length), .int (s_dg σ)])) := (ho _ (by simp)).trans hx
      have hmod : p_ix (p_st y) (q + 2) < q + 2 := p_ix_lt _ (by omega)
      have hsh := p_sh_lt (p_st y)
      rw [mix_s] at hmx1
      refine lv_iload X.1 X.2.1 dX3_mix_8 (lv_at hl 2 rfl) ?_
      refine lv_iconst (v := 1) X.1 X.2.1 dX3_mix_10 (by decide) ?_
      refine lv_icmp_lt (tgt := 77) X.1 X.2.1 dX3_mix_11 (by decide) (fun c11 => ?_) (fun c11 => ?_)
      · exact absurd c11 (nI_nlt (b := 1) (by omega) (by omega))
      · refine lv_lload X.1 X.2.1 dX3_mix_14 (lv_at hl 1 rfl) ?_
        refine lv_ldc2 (v := 6364136223846793005) X.1 X.2.1 X.2.2.2.1 (X.2.2.2.2.1 _ wj_X3_206) dX3_mix_16 ?_
        refine lv_lmul X.1 X.2.1 dX3_mix_19 ?_
        refine lv_ldc2 (v := 1442695040888963407) X.1 X.2.1 X.2.2.2.1 (X.2.2.2.2.1 _ wj_X3_208) dX3_mix_20 ?_
        refine lv_ladd X.1 X.2.1 dX3_mix_23 ?_
        refine h_tl (b := p_st y) rfl ?_
        refine lv_lstore (lv' := [(4, .long (p_st y)), (0, .ref (ad (0, 0, 0))), (6, .int (nI (q + 1)))]) X.1 X.2.1 dX3_mix_24 hl (by decide) rfl (fun ls hl => ?_)
        refine lv_lload X.1 X.2.1 dX3_mix_26 (lv_at hl 0 rfl) ?_
        refine lv_bipush (v := 33) X.1 X.2.1 dX3_mix_28 (by decide) ?_
        refine lv_lushr X.1 X.2.1 dX3_mix_30 rfl ?_
        refine h_tl (b := lN (p_sh (p_st y))) (p_sh_eq _) ?_
        refine lv_l2i X.1 X.2.1 dX3_mix_31 rfl ?_
        refine h_ti (b := nI (p_sh (p_st y))) (lN_i _) ?_
        refine lv_iload X.1 X.2.1 dX3_mix_32 (lv_at hl 2 rfl) ?_
        refine lv_iconst (v := 1) X.1 X.2.1 dX3_mix_34 (by decide) ?_
        refine lv_iadd X.1 X.2.1 dX3_mix_35 ?_
        refine h_ti (b := nI (q + 2)) (nI_1 (q + 1)) ?_
        refine lv_irem X.1 X.2.1 dX3_mix_36 (nI_ne0 (by omega) (by omega)) ?_
        refine h_ti (b := nI (p_ix (p_st y) (q + 2))) (pk_rem hsh (by omega) (by omega)) ?_
        refine lv_istore (lv' := [(7, .int (nI (p_ix (p_st y) (q + 2)))), (4, .long (p_st y)), (0, .ref (ad (0, 0, 0))), (6, .int (nI (q + 1)))]) X.1 X.2.1 dX3_mix_37 hl (by decide) rfl (fun ls hl => ?_)
        refine lv_aload_n X.1 X.2.1 dX3_mix_39 rfl (lv_at hl 2 rfl) ?_
        refine gf_X3_35 X hw gx rfl dX3_mix_40 ?_
        refine lv_iload X.1 X.2.1 dX3_mix_43 (lv_at hl 3 rfl) ?_
        refine h_iald X hw gm (vp_in_nI (by omega) (by decide)) dX3_mix_45 ?_
        refine h_tv (b := .int (nI (m1 (q + 1)))) (by rw [nI_clamp (by omega), gc _ hq]) ?_
        refine lv_istore (lv' := [(8, .int (nI (m1 (q + 1)))), (7, .int (nI (p_ix (p_st y) (q + 2)))), (4, .long (p_st y)), (0, .ref (ad (0, 0, 0))), (6, .int (nI (q + 1)))]) X.1 X.2.1 dX3_mix_46 hl (by decide) rfl (fun ls hl => ?_)
        refine lv_aload_n X.1 X.2.1 dX3_mix_48 rfl (lv_at hl 3 rfl) ?_
        refine gf_X3_35 X hw gx rfl dX3_mix_49 ?_
        refine lv_iload X.1 X.2.1 dX3_mix_52 (lv_at hl 4 rfl) ?_
        refine lv_aload_n X.1 X.2.1 dX3_mix_54 rfl (lv_at hl 3 rfl) ?_
        refine gf_X3_35 X hw gx rfl dX3_mix_55 ?_
        refine lv_iload X.1 X.2.1 dX3_mix_58 (lv_at hl 1 rfl) ?_
        refine h_iald X hw gm (vp_in_nI (by omega) (by decide)) dX3_mix_60 ?_
        refine h_tv (b := .int (nI (m1 (p_ix (p_st y) (q + 2))))) (by rw [nI_clamp (by omega), gc _ (by omega)]) ?_
        refine h_iast X hw gm (vp_in_nI (by omega) (by decide)) dX3_mix_61 (fun H locs hw => ?_)
        obtain ⟨k1, hk1⟩ : ∃ zz, zz = h_cu kk (4, 0, 0) (some (.inl (G.2 0, 10, .inl (upd g (nI (q + 1)).toNatClampNeg (nI (m1 (p_ix (p_st y) (q + 2)))))))) := ⟨_, rfl⟩
        replace hw := h_W.ren hw hk1
        have f1_0_0_0 : k1 (0, 0, 0) = some (.inr (3, [.int (nI (s_cop σ)), .ref (ad (1, 0, 0)), .int (nI (s_nS σ)), .ref (ad (2, 0, 0)), .int (nI (s_nF σ)), .ref (ad (3, 0, 0)), .ref (ad (4, 0, 0)), .ref (ad (5, 0, 0)), .ref (ad (5, 1, 0)), .ref (ad (5, 2, 0)), .int (nI (s_as σ).length), .int (s_dg σ)])) := by rw [hk1, h_cn _ _ (by simp)]; exact gx
        have f1_4_0_0 : k1 (4, 0, 0) = some (.inl (G.2 0, 10, .inl (upd g (nI (q + 1)).toNatClampNeg (nI (m1 (p_ix (p_st y) (q + 2))))))) := by rw [hk1]; exact h_cs _ _ _
        refine lv_aload_n X.1 X.2.1 dX3_mix_62 rfl (lv_at hl 3 rfl) ?_
        refine gf_X3_35 X hw f1_0_0_0 rfl dX3_mix_63 ?_
        refine lv_iload X.1 X.2.1 dX3_mix_66 (lv_at hl 1 rfl) ?_
        refine lv_iload X.1 X.2.1 dX3_mix_68 (lv_at hl 0 rfl) ?_
        refine h_iast X hw f1_4_0_0 (vp_in_nI (by omega) (by decide)) dX3_mix_70 (fun H locs hw => ?_)
        obtain ⟨k2, hk2⟩ : ∃ zz, zz = h_cu k1 (4, 0, 0) (some (.inl (G.2 0, 10, .inl (upd (upd g (nI (q + 1)).toNatClampNeg (nI (m1 (p_ix (p_st y) (q + 2))))) (nI (p_ix (p_st y) (q + 2))).toNatClampNeg (nI (m1 (q + 1))))))) := ⟨_, rfl⟩
        replace hw := h_W.ren hw hk2
        have f2_0_0_0 : k2 (0, 0, 0) = some (.inr (3, [.int (nI (s_cop σ)), .ref (ad (1, 0, 0)), .int (nI (s_nS σ)), .ref (ad (2, 0, 0)), .int (nI (s_nF σ)), .ref (ad (3, 0, 0)), .ref (ad (4, 0, 0)), .ref (ad (5, 0, 0)), .ref (ad (5, 1, 0)), .ref (ad (5, 2, 0)), .int (nI (s_as σ).length), .int (s_dg σ)])) := by rw [hk2, h_cn _ _ (by simp)]; exact f1_0_0_0
        have f2_4_0_0 : k2 (4, 0, 0) = some (.inl (G.2 0, 10, .inl (upd (upd g (nI (q + 1)).toNatClampNeg (nI (m1 (p_ix (p_st y) (q + 2))))) (nI (p_ix (p_st y) (q + 2))).toNatClampNeg (nI (m1 (q + 1)))))) := by rw [hk2]; exact h_cs _ _ _
        refine lv_iinc (v := nI q) (lv' := [(6, .int (nI q)), (8, .int (nI (m1 (q + 1)))), (7, .int (nI (p_ix (p_st y) (q + 2)))), (4, .long (p_st y)), (0, .ref (ad (0, 0, 0)))]) X.1 X.2.1 dX3_mix_71 hl (k := 4) rfl (pk_m1 q) (by decide) rfl (fun ls hl => ?_)
        refine lv_goto (tgt := 8) X.1 X.2.1 dX3_mix_74 (by decide) ?_
        exact ih (swp m1 (q + 1) (p_ix (p_st y) (q + 2))) (p_st y) k2 _ _ _ (by omega) hmx1 f2_4_0_0 (fun c hc => by
          rw [nI_clamp (by omega), nI_clamp (by omega)]
          unfold swp
          by_cases hcj : c = p_ix (p_st y) (q + 2)
          · rw [hcj, pk_us, if_pos rfl]
          · rw [pk_un hcj, if_neg hcj]
            by_cases hck : c = q + 1
            · rw [hck, pk_us, if_pos rfl]
            · rw [pk_un hck, if_neg hck]; exact gc c hc) (fun t ht => by rw [hk2, h_cn _ _ ht, hk1, h_cn _ _ ht, ho t ht]) hw ls (lv_sub hl [4, 3, 0] rfl)
  rcases Nat.eq_zero_or_pos n0 with h0 | h0
  · subst h0
    refine lv_lload_n X.1 X.2.1 dX3_mix_0 rfl (lv_at hl 2 rfl) ?_
    refine lv_lstore (lv' := [(4, .long x), (0, .ref (ad (0, 0, 0))), (1, .int (nI 0)), (2, .long x)]) X.1 X.2.1 dX3_mix_1 hl (by decide) rfl (fun ls hl => ?_)
    refine lv_iload_n X.1 X.2.1 dX3_mix_3 rfl (lv_at hl 2 rfl) ?_
    refine lv_iconst (v := 1) X.1 X.2.1 dX3_mix_4 (by decide) ?_
    refine lv_isub X.1 X.2.1 dX3_mix_5 ?_
    refine h_ti (b := -1) (by decide) ?_
    refine lv_istore (lv' := [(6, .int (-1)), (4, .long x), (0, .ref (ad (0, 0, 0))), (1, .int (nI 0)), (2, .long x)]) X.1 X.2.1 dX3_mix_6 hl (by decide) rfl (fun ls hl => ?_)
    refine lv_iload X.1 X.2.1 dX3_mix_8 (lv_at hl 0 rfl) ?_
    refine lv_iconst (v := 1) X.1 X.2.1 dX3_mix_10 (by decide) ?_
    refine lv_icmp_lt (tgt := 77) X.1 X.2.1 dX3_mix_11 (by decide) (fun c11 => ?_) (fun c11 => ?_)
    · refine lv_lload X.1 X.2.1 dX3_mix_77 (lv_at hl 1 rfl) ?_
      exact h_lretW X Y hw ⟨rfl, rfl, ⟨gg, hgg, hgc⟩, fun _ _ => rfl⟩ (Nat.zero_le _) (Nat.zero_le _) dX3_mix_79
    · exact absurd (by decide) c11
  · obtain ⟨n1, rfl⟩ : ∃ z, n0 = z + 1 := ⟨n0 - 1, by omega⟩
    refine lv_lload_n X.1 X.2.1 dX3_mix_0 rfl (lv_at hl 2 rfl) ?_
    refine lv_lstore (lv' := [(4, .long x), (0, .ref (ad (0, 0, 0))), (1, .int (nI (n1 + 1))), (2, .long x)]) X.1 X.2.1 dX3_mix_1 hl (by decide) rfl (fun ls hl => ?_)
    refine lv_iload_n X.1 X.2.1 dX3_mix_3 rfl (lv_at hl 2 rfl) ?_
    refine lv_iconst (v := 1) X.1 X.2.1 dX3_mix_4 (by decide) ?_
    refine lv_isub X.1 X.2.1 dX3_mix_5 ?_
    refine h_ti (b := nI n1) (nI_pred n1) ?_
    refine lv_istore (lv' := [(6, .int (nI n1)), (4, .long x), (0, .ref (ad (0, 0, 0))), (1, .int (nI (n1 + 1))), (2, .long x)]) X.1 X.2.1 dX3_mix_6 hl (by decide) rfl (fun ls hl => ?_)
    exact loop n1 m0 x k gg _ _ (by omega) rfl hgg hgc (fun _ _ => rfl) hw ls (lv_sub hl [2, 1, 0] rfl)
end
section
theorem nI_min3 {n : Nat} (h : n ≤ 10) : (if (3 : Int32) < nI n then (3 : Int32) else nI n) = nI (min n 3) := by
  rcases (show n = 0 ∨ n = 1 ∨ n = 2 ∨ n = 3 ∨ n = 4 ∨ n = 5 ∨ n = 6 ∨ n = 7 ∨ n = 8 ∨ n = 9 ∨ n = 10 by omega) with rfl | rfl | rfl | rfl | rfl | rfl | rfl | rfl | rfl | rfl | rfl <;> decide
set_option maxHeartbeats 4000000 in
set_option maxRecDepth 100000 in
/-- ask -/
theorem c_X3_ask (l : Launch) (G : h_G) {ad : h_T → Nat} {k : h_C} {σ : S_t} (hR : RX G ad k σ) {f : Nat} (hf : f < s_nF σ) {c0 : Nat} (hc0 : c0 ≤ 10) {m0 : Nat → Nat} {gg : Nat → Int32} (hgg : k (4, 0, 0) = some (.inl (G.2 0, 10, .inl gg))) (hgc : ∀ c, c < c0 → gg c = nI (m0 c)) (hin : ∀ c, c < c0 → m0 c < s_nS σ ∧ s_isC σ f (m0 c) = true) (hroom : (s_as σ).length + c0 ≤ 120) : h_Wr l yX3_ask cX3_ask 6 none 3 65 0 0 G ad k [.ref (ad (0, 0, 0)), .int (nI f), .ref (ad (7, f, 0)), .int (nI c0)] (fun r ad' k' => r = none ∧ ad' = ad ∧ RX G ad k' (s_setAs σ (s_as σ ++ p_ask σ f m0 c0)) ∧ ∀ t : h_T, t ≠ (0, 0, 0) → t.1 ≠ 5 → k' t = k t) := by
  refine h_wr (by decide +kernel) (Nat.le_of_ble_eq_true rfl) ?_
  intro p e s m args below meth c X Y hw ls hl
  have hl : lv_has ls 6 [(0, .ref (ad (0, 0, 0))), (1, .int (nI f)), (2, .ref (ad (7, f, 0))), (3, .int (nI c0))] := hl
  have hok := hR.ok
  obtain ⟨hx, hs, hst, hi, hit, hcp, hcol, hmx, hask, -⟩ := id hR
  have hx : k (0, 0, 0) = some (.inr (3, [.int (nI (s_cop σ)), .ref (ad (1, 0, 0)), .int (nI (s_nS σ)), .ref (ad (2, 0, 0)), .int (nI (s_nF σ)), .ref (ad (3, 0, 0)), .ref (ad (4, 0, 0)), .ref (ad (5, 0, 0)), .ref (ad (5, 1, 0)), .ref (ad (5, 2, 0)), .int (nI (s_as σ).length), .int (s_dg σ)])) := hx
  have hnS : s_nS σ ≤ 10 := hok.2.1
  have hnF : s_nF σ ≤ 40 := hok.2.2.1
  have loop : ∀ (n i : Nat), i ≤ c0 → c0 + 1 ≤ i + n → ∀ (kk : h_C) (H : Heap) (locs : List Loc), RX G ad kk (s_setAs σ (s_as σ ++ p_ask σ f m0 i)) → (∀ t : h_T, t ≠ (0, 0, 0) → t.1 ≠ 5 → kk t = k t) → h_W G.1 h_cl (h_A ad k s.heap.size) s.heap ad kk H locs → ∀ (ls : Array Slot), lv_has ls 6 [(0, .ref (ad (0, 0, 0))), (1, .int (nI f)), (2, .ref (ad (7, f, 0))), (3, .int (nI c0)), (4, .int (nI i))] → W p l e (h_rm 3 65 0 0) s m args below meth c H locs 0 0 (MQ below (h_Qw G ad k s.heap.size (fun r ad' k' => r = none ∧ ad' = ad ∧ RX G ad k' (s_setAs σ (s_as σ ++ p_ask σ f m0 c0)) ∧ ∀ t : h_T, t ≠ (0, 0, 0) → t.1 ≠ 5 → k' t = k t)) args s 0 0 (h_A ad k s.heap.size)) (F0 m 3 ls []) := by
    intro n
    induction n with
    | zero =>
      intro i h1 h2
      exact absurd h2 (by omega)
    | succ n ih =>
      intro i hii hni kk H locs hRk ho hw ls hl
      have hln : (s_as σ ++ p_ask σ f m0 i).length = (s_as σ).length + i := by rw [List.length_append, ask_len]
      have gx : kk (0, 0, 0) = some (.inr (3, [.int (nI (s_cop σ)), .ref (ad (1, 0, 0)), .int (nI (s_nS σ)), .ref (ad (2, 0, 0)), .int (nI (s_nF σ)), .ref (ad (3, 0, 0)), .ref (ad (4, 0, 0)), .ref (ad (5, 0, 0)), .ref (ad (5, 1, 0)), .ref (ad (5, 2, 0)), .int (nI ((s_as σ).length + i)), .int (s_dg σ)])) := by rw [← hln]; exact hRk.1
      obtain ⟨-, -, -, -, -, gcp, -, -, ⟨a0, a1, a2, b0, b1, b2, b3⟩, gok⟩ := id hRk
      have gm : kk (4, 0, 0) = some (.inl (G.2 0, 10, .inl gg)) := (ho _ (by simp) (by simp)).trans hgg
      refine lv_iload X.1 X.2.1 dX3_ask_3 (lv_at hl 4 rfl) ?_
      refine lv_iload_n X.1 X.2.1 dX3_ask_5 rfl (lv_at hl 3 rfl) ?_
      refine lv_icmp_ge (tgt := 96) X.1 X.2.1 dX3_ask_6 (by decide) (fun c6 => ?_) (fun c6 => ?_)
      · obtain rfl : i = c0 := Nat.le_antisymm hii (Nat.le_of_not_lt (fun q => absurd c6 (nI_ge (b := c0) q (by omega))))
        exact h_vretW X Y hw ⟨rfl, rfl, hRk, ho⟩ (Nat.zero_le _) (Nat.zero_le _) dX3_ask_96
      · have hib : i < c0 := Nat.lt_of_not_le (fun q => c6 (nI_le q (by omega)))
        obtain ⟨hm1, hm2⟩ := hin i hib
        obtain ⟨b, hc⟩ : ∃ b, s_cnt σ (m0 i) f = some b := Option.isSome_iff_exists.mp hm2
        have hcb := (s_cnt_cp hc).1
        have hrow := gcp (m0 i) f b hcb
        have hrow1 := hrow.1
        refine lv_aload_n X.1 X.2.1 dX3_ask_9 rfl (lv_at hl 0 rfl) ?_
        refine lv_aload_n X.1 X.2.1 dX3_ask_10 rfl (lv_at hl 2 rfl) ?_
        refine lv_aload_n X.1 X.2.1 dX3_ask_11 rfl (lv_at hl 0 rfl) ?_
        refine gf_X3_35 X hw gx rfl dX3_ask_12 ?_
        refine lv_iload X.1 X.2.1 dX3_ask_15 (lv_at hl 4 rfl) ?_
        refine h_iald X hw gm (vp_in_nI (by omega) (by decide)) dX3_ask_17 ?_
        refine h_tv (b := .int (nI (m0 i))) (by rw [nI_clamp (by omega), hgc _ hib]) ?_
        refine h_callRV (t := (0, 0, 0)) (As := [.ref (ad (7, f, 0)), .int (nI (m0 i))]) (rest := []) X hw cs_X3_202 (c_X3_countingRow l G hRk hf hm1) gx rfl rfl hl.1 rfl (Nat.le_of_ble_eq_true rfl) ⟨by decide, by decide⟩ ⟨Nat.zero_le _, Nat.zero_le _⟩ dX3_ask_18 ?_
        refine h_tv (b := .ref (ad (9, m0 i, f))) (by show va_rf ((s_cnt σ (m0 i) f).map _) = _; rw [hc]; rfl) ?_
        refine lv_astore (lv' := [(5, .ref (ad (9, m0 i, f))), (0, .ref (ad (0, 0, 0))), (1, .int (nI f)), (2, .ref (ad (7, f, 0))), (3, .int (nI c0)), (4, .int (nI i))]) X.1 X.2.1 dX3_ask_21 hl (by decide) rfl (fun ls hl => ?_)
        refine lv_aload X.1 X.2.1 dX3_ask_23 (lv_at hl 0 rfl) ?_
        refine lv_ifnull X.1 X.2.1 dX3_ask_25 ?_
        refine lv_aload_n X.1 X.2.1 dX3_ask_28 rfl (lv_at hl 1 rfl) ?_
        refine gf_X3_48 X hw gx rfl dX3_ask_29 ?_
        refine lv_aload_n X.1 X.2.1 dX3_ask_32 rfl (lv_at hl 1 rfl) ?_
        refine gf_X3_39 X hw gx rfl dX3_ask_33 ?_
        refine h_alen X hw 0 rfl b0 (v := 120) rfl dX3_ask_36 ?_
        refine lv_icmp_ge (tgt := 90) X.1 X.2.1 dX3_ask_37 (by decide) (fun c37 => ?_) (fun c37 => ?_)
        · exact absurd c37 (nI_ge (b := 120) (by omega) (by omega))
        · refine lv_aload_n X.1 X.2.1 dX3_ask_40 rfl (lv_at hl 1 rfl) ?_
          refine gf_X3_39 X hw gx rfl dX3_ask_41 ?_
          refine lv_aload_n X.1 X.2.1 dX3_ask_44 rfl (lv_at hl 1 rfl) ?_
          refine gf_X3_48 X hw gx rfl dX3_ask_45 ?_
          refine lv_iload_n X.1 X.2.1 dX3_ask_48 rfl (lv_at hl 2 rfl) ?_
          refine h_iast X hw b0 (vp_in_nI (by omega) (by decide)) dX3_ask_49 (fun H locs hw => ?_)
          obtain ⟨k1, hk1⟩ : ∃ zz, zz = h_cu kk (5, 0, 0) (some (.inl (G.2 0, 120, .inl (upd a0 (nI ((s_as σ).length + i)).toNatClampNeg (nI f))))) := ⟨_, rfl⟩
          replace hw := h_W.ren hw hk1
          have f1_0_0_0 : k1 (0, 0, 0) = some (.inr (3, [.int (nI (s_cop σ)), .ref (ad (1, 0, 0)), .int (nI (s_nS σ)), .ref (ad (2, 0, 0)), .int (nI (s_nF σ)), .ref (ad (3, 0, 0)), .ref (ad (4, 0, 0)), .ref (ad (5, 0, 0)), .ref (ad (5, 1, 0)), .ref (ad (5, 2, 0)), .int (nI ((s_as σ).length + i)), .int (s_dg σ)])) := by rw [hk1, h_cn _ _ (by simp)]; exact gx
          have f1_4_0_0 : k1 (4, 0, 0) = some (.inl (G.2 0, 10, .inl gg)) := by rw [hk1, h_cn _ _ (by simp)]; exact gm
          have f1_5_0_0 : k1 (5, 0, 0) = some (.inl (G.2 0, 120, .inl (upd a0 (nI ((s_as σ).length + i)).toNatClampNeg (nI f)))) := by rw [hk1]; exact h_cs _ _ _
          have f1_5_1_0 : k1 (5, 1, 0) = some (.inl (G.2 0, 120, .inl a1)) := by rw [hk1, h_cn _ _ (by simp)]; exact b1
          have f1_5_2_0 : k1 (5, 2, 0) = some (.inl (G.2 0, 120, .inl a2)) := by rw [hk1, h_cn _ _ (by simp)]; exact b2
          have f1_9_m0_i_f : k1 (9, m0 i, f) = some (.inr (1, [.ref (ad (10, m0 i, f)), .int (nI b.length)])) := by rw [hk1, h_cn _ _ (by simp)]; exact hrow1
          refine lv_aload_n X.1 X.2.1 dX3_ask_50 rfl (lv_at hl 1 rfl) ?_
          refine gf_X3_42 X hw f1_0_0_0 rfl dX3_ask_51 ?_
          refine lv_aload_n X.1 X.2.1 dX3_ask_54 rfl (lv_at hl 1 rfl) ?_
          refine gf_X3_48 X hw f1_0_0_0 rfl dX3_ask_55 ?_
          refine lv_aload_n X.1 X.2.1 dX3_ask_58 rfl (lv_at hl 1 rfl) ?_
          refine gf_X3_35 X hw f1_0_0_0 rfl dX3_ask_59 ?_
          refine lv_iload X.1 X.2.1 dX3_ask_62 (lv_at hl 5 rfl) ?_
          refine h_iald X hw f1_4_0_0 (vp_in_nI (by omega) (by decide)) dX3_ask_64 ?_
          refine h_tv (b := .int (nI (m0 i))) (by rw [nI_clamp (by omega), hgc _ hib]) ?_
          refine h_iast X hw f1_5_1_0 (vp_in_nI (by omega) (by decide)) dX3_ask_65 (fun H locs hw => ?_)
          obtain ⟨k2, hk2⟩ : ∃ zz, zz = h_cu k1 (5, 1, 0) (some (.inl (G.2 0, 120, .inl (upd a1 (nI ((s_as σ).length + i)).toNatClampNeg (nI (m0 i)))))) := ⟨_, rfl⟩
          replace hw := h_W.ren hw hk2
          have f2_0_0_0 : k2 (0, 0, 0) = some (.inr (3, [.int (nI (s_cop σ)), .ref (ad (1, 0, 0)), .int (nI (s_nS σ)), .ref (ad (2, 0, 0)), .int (nI (s_nF σ)), .ref (ad (3, 0, 0)), .ref (ad (4, 0, 0)), .ref (ad (5, 0, 0)), .ref (ad (5, 1, 0)), .ref (ad (5, 2, 0)), .int (nI ((s_as σ).length + i)), .int (s_dg σ)])) := by rw [hk2, h_cn _ _ (by simp)]; exact f1_0_0_0
          have f2_4_0_0 : k2 (4, 0, 0) = some (.inl (G.2 0, 10, .inl gg)) := by rw [hk2, h_cn _ _ (by simp)]; exact f1_4_0_0
          have f2_5_0_0 : k2 (5, 0, 0) = some (.inl (G.2 0, 120, .inl (upd a0 (nI ((s_as σ).length + i)).toNatClampNeg (nI f)))) := by rw [hk2, h_cn _ _ (by simp)]; exact f1_5_0_0
          have f2_5_1_0 : k2 (5, 1, 0) = some (.inl (G.2 0, 120, .inl (upd a1 (nI ((s_as σ).length + i)).toNatClampNeg (nI (m0 i))))) := by rw [hk2]; exact h_cs _ _ _
          have f2_5_2_0 : k2 (5, 2, 0) = some (.inl (G.2 0, 120, .inl a2)) := by rw [hk2, h_cn _ _ (by simp)]; exact f1_5_2_0
          have f2_9_m0_i_f : k2 (9, m0 i, f) = some (.inr (1, [.ref (ad (10, m0 i, f)), .int (nI b.length)])) := by rw [hk2, h_cn _ _ (by simp)]; exact f1_9_m0_i_f
          refine lv_aload_n X.1 X.2.1 dX3_ask_66 rfl (lv_at hl 1 rfl) ?_
          refine gf_X3_45 X hw f2_0_0_0 rfl dX3_ask_67 ?_
          refine lv_aload_n X.1 X.2.1 dX3_ask_70 rfl (lv_at hl 1 rfl) ?_
          refine gf_X3_48 X hw f2_0_0_0 rfl dX3_ask_71 ?_
          refine lv_aload X.1 X.2.1 dX3_ask_74 (lv_at hl 0 rfl) ?_
          refine h_callRV (t := (9, m0 i, f)) (As := []) (rest := [.int (nI ((s_as σ).length + i)), .ref (ad (5, 2, 0))]) X hw cs_X3_143 (c_X1_sum l G (hrow.congr (by rw [hk2, h_cn _ _ (by simp), hk1, h_cn _ _ (by simp)]) (by rw [hk2, h_cn _ _ (by simp), hk1, h_cn _ _ (by simp)]) rfl) (gok.2.2.2.2.2.2.1 (m0 i) f b hcb)) f2_9_m0_i_f rfl rfl hl.1 rfl (Nat.le_of_ble_eq_true rfl) ⟨by decide, by decide⟩ ⟨Nat.zero_le _, Nat.zero_le _⟩ dX3_ask_76 ?_
          refine h_iast X hw f2_5_2_0 (vp_in_nI (by omega) (by decide)) dX3_ask_79 (fun H locs hw => ?_)
          obtain ⟨k3, hk3⟩ : ∃ zz, zz = h_cu k2 (5, 2, 0) (some (.inl (G.2 0, 120, .inl (upd a2 (nI ((s_as σ).length + i)).toNatClampNeg (dgL b))))) := ⟨_, rfl⟩
          replace hw := h_W.ren hw hk3
          have f3_0_0_0 : k3 (0, 0, 0) = some (.inr (3, [.int (nI (s_cop σ)), .ref (ad (1, 0, 0)), .int (nI (s_nS σ)), .ref (ad (2, 0, 0)), .int (nI (s_nF σ)), .ref (ad (3, 0, 0)), .ref (ad (4, 0, 0)), .ref (ad (5, 0, 0)), .ref (ad (5, 1, 0)), .ref (ad (5, 2, 0)), .int (nI ((s_as σ).length + i)), .int (s_dg σ)])) := by rw [hk3, h_cn _ _ (by simp)]; exact f2_0_0_0
          have f3_4_0_0 : k3 (4, 0, 0) = some (.inl (G.2 0, 10, .inl gg)) := by rw [hk3, h_cn _ _ (by simp)]; exact f2_4_0_0
          have f3_5_0_0 : k3 (5, 0, 0) = some (.inl (G.2 0, 120, .inl (upd a0 (nI ((s_as σ).length + i)).toNatClampNeg (nI f)))) := by rw [hk3, h_cn _ _ (by simp)]; exact f2_5_0_0
          have f3_5_1_0 : k3 (5, 1, 0) = some (.inl (G.2 0, 120, .inl (upd a1 (nI ((s_as σ).length + i)).toNatClampNeg (nI (m0 i))))) := by rw [hk3, h_cn _ _ (by simp)]; exact f2_5_1_0
          have f3_5_2_0 : k3 (5, 2, 0) = some (.inl (G.2 0, 120, .inl (upd a2 (nI ((s_as σ).length + i)).toNatClampNeg (dgL b)))) := by rw [hk3]; exact h_cs _ _ _
          have f3_9_m0_i_f : k3 (9, m0 i, f) = some (.inr (1, [.ref (ad (10, m0 i, f)), .int (nI b.length)])) := by rw [hk3, h_cn _ _ (by simp)]; exact f2_9_m0_i_f
          refine lv_aload_n X.1 X.2.1 dX3_ask_80 rfl (lv_at hl 1 rfl) ?_
          refine lv_dup X.1 X.2.1 dX3_ask_81 rfl ?_
          refine gf_X3_48 X hw f3_0_0_0 rfl dX3_ask_82 ?_
          refine lv_iconst (v := 1) X.1 X.2.1 dX3_ask_85 (by decide) ?_
          refine lv_iadd X.1 X.2.1 dX3_ask_86 ?_
          refine h_ti (b := nI ((s_as σ).length + i + 1)) (nI_1 _) ?_
          refine pf_X3_48 X hw f3_0_0_0 rfl rfl (Nat.le_of_ble_eq_true rfl) dX3_ask_87 (fun H locs hw => ?_)
          obtain ⟨k4, hk4⟩ : ∃ zz, zz = h_cu k3 (0, 0, 0) (some (.inr (3, [.int (nI (s_cop σ)), .ref (ad (1, 0, 0)), .int (nI (s_nS σ)), .ref (ad (2, 0, 0)), .int (nI (s_nF σ)), .ref (ad (3, 0, 0)), .ref (ad (4, 0, 0)), .ref (ad (5, 0, 0)), .ref (ad (5, 1, 0)), .ref (ad (5, 2, 0)), .int (nI ((s_as σ).length + i + 1)), .int (s_dg σ)]))) := ⟨_, rfl⟩
          replace hw := h_W.ren hw hk4
          have f4_0_0_0 : k4 (0, 0, 0) = some (.inr (3, [.int (nI (s_cop σ)), .ref (ad (1, 0, 0)), .int (nI (s_nS σ)), .ref (ad (2, 0, 0)), .int (nI (s_nF σ)), .ref (ad (3, 0, 0)), .ref (ad (4, 0, 0)), .ref (ad (5, 0, 0)), .ref (ad (5, 1, 0)), .ref (ad (5, 2, 0)), .int (nI ((s_as σ).length + i + 1)), .int (s_dg σ)])) := by rw [hk4]; exact h_cs _ _ _
          have f4_4_0_0 : k4 (4, 0, 0) = some (.inl (G.2 0, 10, .inl gg)) := by rw [hk4, h_cn _ _ (by simp)]; exact f3_4_0_0
          have f4_5_0_0 : k4 (5, 0, 0) = some (.inl (G.2 0, 120, .inl (upd a0 (nI ((s_as σ).length + i)).toNatClampNeg (nI f)))) := by rw [hk4, h_cn _ _ (by simp)]; exact f3_5_0_0
          have f4_5_1_0 : k4 (5, 1, 0) = some (.inl (G.2 0, 120, .inl (upd a1 (nI ((s_as σ).length + i)).toNatClampNeg (nI (m0 i))))) := by rw [hk4, h_cn _ _ (by simp)]; exact f3_5_1_0
          have f4_5_2_0 : k4 (5, 2, 0) = some (.inl (G.2 0, 120, .inl (upd a2 (nI ((s_as σ).length + i)).toNatClampNeg (dgL b)))) := by rw [hk4, h_cn _ _ (by simp)]; exact f3_5_2_0
          have f4_9_m0_i_f : k4 (9, m0 i, f) = some (.inr (1, [.ref (ad (10, m0 i, f)), .int (nI b.length)])) := by rw [hk4, h_cn _ _ (by simp)]; exact f3_9_m0_i_f
          refine lv_iinc (v := nI (i + 1)) (lv' := [(4, .int (nI (i + 1))), (5, .ref (ad (9, m0 i, f))), (0, .ref (ad (0, 0, 0))), (1, .int (nI f)), (2, .ref (ad (7, f, 0))), (3, .int (nI c0))]) X.1 X.2.1 dX3_ask_90 hl (k := 5) rfl (nI_1 _) (by decide) rfl (fun ls hl => ?_)
          refine lv_goto (tgt := 3) X.1 X.2.1 dX3_ask_93 (by decide) ?_
          have hO : ∀ t : h_T, t ≠ (0, 0, 0) → t.1 ≠ 5 → k4 t = kk t := fun t h1 h5 => by
            rw [hk4, h_cn _ _ h1, hk3, h_cn _ _ (fun q => h5 (by rw [q])), hk2, h_cn _ _ (fun q => h5 (by rw [q])), hk1, h_cn _ _ (fun q => h5 (by rw [q]))]
          have hcl : (nI ((s_as σ).length + i)).toNatClampNeg = (s_as σ).length + i := nI_clamp (by omega)
          exact ih (i + 1) (by omega) (by omega) k4 _ _ (RX.setAs (as := s_as σ ++ p_ask σ f m0 (i + 1)) hRk (by rw [List.length_append, ask_len]; omega) (by
            rw [f4_0_0_0]
            show _ = some (Sum.inr (3, x_obj ad (s_setAs σ (s_as σ ++ p_ask σ f m0 (i + 1)))))
            unfold x_obj
            rw [show (s_as (s_setAs σ (s_as σ ++ p_ask σ f m0 (i + 1)))).length = (s_as σ).length + i + 1 by show (s_as σ ++ p_ask σ f m0 (i + 1)).length = _; rw [List.length_append, ask_len]; omega]
            rfl) ⟨_, _, _, f4_5_0_0, f4_5_1_0, f4_5_2_0, fun j hj => by
            rw [List.length_append, ask_len] at hj
            rw [hcl, ask_s, ← List.append_assoc, List.getD_eq_getElem?_getD]
            by_cases hjn : j = (s_as σ).length + i
            · rw [hjn, pk_us, pk_us, pk_us, List.getElem?_append_right (by omega), hln, Nat.sub_self]
              show (nI f, nI (m0 i), dgL b) = p_row σ f m0 i
              unfold p_row
              rw [hc]
              rfl
            · rw [pk_un hjn, pk_un hjn, pk_un hjn, List.getElem?_append_left (by omega), ← List.getD_eq_getElem?_getD]
              exact b3 j (by show j < (s_as σ ++ p_ask σ f m0 i).length; rw [hln]; omega)⟩ hO) (fun t h1 h5 => by rw [hO t h1 h5, ho t h1 h5]) hw ls (lv_sub hl [2, 3, 4, 5, 0] rfl)
  refine lv_iconst (v := 0) X.1 X.2.1 dX3_ask_0 (by decide) ?_
  refine lv_istore (lv' := [(4, .int 0), (0, .ref (ad (0, 0, 0))), (1, .int (nI f)), (2, .ref (ad (7, f, 0))), (3, .int (nI c0))]) X.1 X.2.1 dX3_ask_1 hl (by decide) rfl (fun ls hl => ?_)
  exact loop (c0 + 1) 0 (by omega) (by omega) k _ _ (by show RX G ad k (s_setAs σ (s_as σ ++ [])); rw [List.append_nil]; exact hR) (fun _ _ _ => rfl) hw ls (lv_sub hl [1, 2, 3, 4, 0] rfl)
set_option maxHeartbeats 4000000 in
set_option maxRecDepth 100000 in
/-- poll -/
theorem c_X3_poll (l : Launch) (G : h_G) {ad : h_T → Nat} {k : h_C} {σ : S_t} (hR : RX G ad k σ) (w : Int32) (x : Int64) : h_Wr l yX3_poll cX3_poll 9 (some .int) 4 90 0 0 G ad k [.ref (ad (0, 0, 0)), .int w, .long x] (XPost G ad k (some (.int (sp_poll σ w x).1)) (sp_poll σ w x).2) := by
  refine h_wr (by decide +kernel) (Nat.le_of_ble_eq_true rfl) ?_
  intro p e s m args below meth c X Y hw ls hl
  have hl : lv_has ls 9 [(0, .ref (ad (0, 0, 0))), (1, .int w), (2, .long x)] := hl
  have hok := hR.ok
  obtain ⟨hx, hs, hst, hi, hit, hcp, hcol, hmx, hask, -⟩ := id hR
  have hx : k (0, 0, 0) = some (.inr (3, [.int (nI (s_cop σ)), .ref (ad (1, 0, 0)), .int (nI (s_nS σ)), .ref (ad (2, 0, 0)), .int (nI (s_nF σ)), .ref (ad (3, 0, 0)), .ref (ad (4, 0, 0)), .ref (ad (5, 0, 0)), .ref (ad (5, 1, 0)), .ref (ad (5, 2, 0)), .int (nI (s_as σ).length), .int (s_dg σ)])) := hx
  have hnS : s_nS σ ≤ 10 := hok.2.1
  have hnF : s_nF σ ≤ 40 := hok.2.2.1
  unfold sp_poll
  rcases hpk : ix w 10 with _ | j
  · rw [if_pos (show (none : Option Nat).isNone = true from rfl)]
    refine lv_iload_n X.1 X.2.1 dX3_poll_0 rfl (lv_at hl 1 rfl) ?_
    refine h_callRS (As := [.int w]) (rest := []) X hw cs_X3_76 (c_X3_isPackage l G w) rfl hl.1 rfl (Nat.le_of_ble_eq_true rfl) ⟨by decide, by decide⟩ ⟨Nat.zero_le _, Nat.zero_le _⟩ dX3_poll_1 ?_
    refine h_tv (b := .int 0) (by rw [hpk]; rfl) ?_
    refine lv_if_ne (tgt := 10) X.1 X.2.1 dX3_poll_4 (by decide) (fun c4 => ?_) (fun c4 => ?_)
    · exact absurd (by decide) c4
    · refine lv_bipush (v := (-2)) X.1 X.2.1 dX3_poll_7 (by decide) ?_
      exact h_iretW (v := -2) X Y hw ⟨rfl, hR, fun _ _ => ⟨rfl, rfl⟩, rfl⟩ (Nat.zero_le _) (Nat.zero_le _) dX3_poll_9
  · rw [if_neg (show ¬ (some j : Option Nat).isNone = true from fun q => by cases q)]
    have loop : ∀ (n i : Nat), i ≤ s_nF σ → s_nF σ + 1 ≤ i + n → ∀ (kk : h_C) (H : Heap) (locs : List Loc), RX G ad kk (s_setAs σ (sp_pollN σ w x i).1) → (∀ t : h_T, 20 ≤ t.1 → kk t = k t) → h_W G.1 h_cl (h_A ad k s.heap.size) s.heap ad kk H locs → ∀ (ls : Array Slot), lv_has ls 9 [(0, .ref (ad (0, 0, 0))), (1, .int w), (4, .long ((sp_pollN σ w x i).2)), (6, .int (nI i))] → W p l e (h_rm 4 90 0 0) s m args below meth c H locs 0 0 (MQ below (h_Qw G ad k s.heap.size (XPost G ad k (some (.int (nI (sp_pollN σ w x (s_nF σ)).1.length))) (s_setAs σ (sp_pollN σ w x (s_nF σ)).1))) args s 0 0 (h_A ad k s.heap.size)) (F0 m 21 ls []) := by
      intro n
      induction n with
      | zero =>
        intro i h1 h2
        exact absurd h2 (by omega)
      | succ n ih =>
        intro i hii hni kk H locs hRk h20 hw ls hl
        have gx : kk (0, 0, 0) = some (.inr (3, [.int (nI (s_cop σ)), .ref (ad (1, 0, 0)), .int (nI (s_nS σ)), .ref (ad (2, 0, 0)), .int (nI (s_nF σ)), .ref (ad (3, 0, 0)), .ref (ad (4, 0, 0)), .ref (ad (5, 0, 0)), .ref (ad (5, 1, 0)), .ref (ad (5, 2, 0)), .int (nI (sp_pollN σ w x i).1.length), .int (s_dg σ)])) := hRk.1
        obtain ⟨-, -, -, gi0, git, -, -, -, -, gok⟩ := id hRk
        have hlen := pollN_len σ w x i
        have hcl := cN_le (s_isC σ i) (s_nS σ)
        refine lv_iload X.1 X.2.1 dX3_poll_21 (lv_at hl 3 rfl) ?_
        refine lv_aload_n X.1 X.2.1 dX3_poll_23 rfl (lv_at hl 0 rfl) ?_
        refine gf_X3_25 X hw gx rfl dX3_poll_24 ?_
        refine lv_icmp_ge (tgt := 91) X.1 X.2.1 dX3_poll_27 (by decide) (fun c27 => ?_) (fun c27 => ?_)
        · obtain rfl : i = s_nF σ := Nat.le_antisymm hii (Nat.le_of_not_lt (fun q => absurd c27 (nI_ge (b := s_nF σ) q (by omega))))
          refine lv_aload_n X.1 X.2.1 dX3_poll_91 rfl (lv_at hl 0 rfl) ?_
          refine gf_X3_48 X hw gx rfl dX3_poll_92 ?_
          exact h_iretW X Y hw ⟨rfl, hRk, fun t ht => ⟨h20 t ht, rfl⟩, rfl⟩ (Nat.zero_le _) (Nat.zero_le _) dX3_poll_95
        · have hib : i < s_nF σ := Nat.lt_of_not_le (fun q => c27 (nI_le q (by omega)))
          have gi : kk (7, i, 0) = some (.inr (0, [.int (s_pk σ i), .ref (ad (8, i, 0)), .int (s_rn σ i)])) := (git i hib).1
          refine lv_aload_n X.1 X.2.1 dX3_poll_30 rfl (lv_at hl 0 rfl) ?_
          refine gf_X3_21 X hw gx rfl dX3_poll_31 ?_
          refine lv_iload X.1 X.2.1 dX3_poll_34 (lv_at hl 3 rfl) ?_
          refine h_aald X hw 4 rfl gi0 (vp_in_nI (by omega) (by decide)) dX3_poll_36 ?_
          refine h_tv (b := .ref (ad (7, i, 0))) (by rw [nI_clamp (by omega)]; show va_rf (x_ite ad σ i) = _; simp only [x_ite, if_pos hib, va_rf]) ?_
          refine lv_astore (lv' := [(7, .ref (ad (7, i, 0))), (0, .ref (ad (0, 0, 0))), (1, .int w), (4, .long ((sp_pollN σ w x i).2)), (6, .int (nI i))]) X.1 X.2.1 dX3_poll_37 hl (by decide) rfl (fun ls hl => ?_)
          refine lv_aload X.1 X.2.1 dX3_poll_39 (lv_at hl 0 rfl) ?_
          refine lv_ifnull X.1 X.2.1 dX3_poll_41 ?_
          refine lv_aload X.1 X.2.1 dX3_poll_44 (lv_at hl 0 rfl) ?_
          refine gf_X3_117 X hw gi rfl dX3_poll_46 ?_
          refine lv_iload_n X.1 X.2.1 dX3_poll_49 rfl (lv_at hl 2 rfl) ?_
          refine lv_icmp_ne (tgt := 85) X.1 X.2.1 dX3_poll_50 (by decide) (fun c50 => ?_) (fun c50 => ?_)
          · refine lv_iinc (v := nI (i + 1)) (lv' := [(6, .int (nI (i + 1))), (7, .ref (ad (7, i, 0))), (0, .ref (ad (0, 0, 0))), (1, .int w), (4, .long ((sp_pollN σ w x i).2))]) X.1 X.2.1 dX3_poll_85 hl (k := 4) rfl (nI_1 _) (by decide) rfl (fun ls hl => ?_)
            refine lv_goto (tgt := 21) X.1 X.2.1 dX3_poll_88 (by decide) ?_
            have es := pollN_f (σ := σ) (w := w) (x := x) (n := i) c50
            exact ih (i + 1) (by omega) (by omega) kk _ _ (by rw [es]; exact hRk) h20 hw ls (by
              rw [es]
              exact lv_sub hl [2, 3, 4, 0] rfl)
          · refine lv_aload_n X.1 X.2.1 dX3_poll_53 rfl (lv_at hl 1 rfl) ?_
            refine lv_aload X.1 X.2.1 dX3_poll_54 (lv_at hl 0 rfl) ?_
            refine h_callWV (t := (0, 0, 0)) (As := [.ref (ad (7, i, 0))]) (rest := []) X hw cs_X3_120 (c_X3_listCounting l G hRk hib) gx rfl rfl hl.1 rfl (Nat.le_of_ble_eq_true rfl) ⟨by decide, by decide⟩ ⟨(Nat.le_of_ble_eq_true rfl), (Nat.le_of_ble_eq_true rfl)⟩ dX3_poll_56 (fun r9 ad1 k1 H locs hp9 hw => ?_)
            obtain ⟨rfl, ea1, ⟨g1, hg1, hc1⟩, ho1⟩ := hp9
            refine W.eq (g2 := F0 m 59 ls [.int (nI (cN (s_isC σ i) (s_nS σ)))]) rfl ?_
            replace hw := hw.renA ea1.symm
            have f1_0_0_0 : k1 (0, 0, 0) = some (.inr (3, [.int (nI (s_cop σ)), .ref (ad (1, 0, 0)), .int (nI (s_nS σ)), .ref (ad (2, 0, 0)), .int (nI (s_nF σ)), .ref (ad (3, 0, 0)), .ref (ad (4, 0, 0)), .ref (ad (5, 0, 0)), .ref (ad (5, 1, 0)), .ref (ad (5, 2, 0)), .int (nI (sp_pollN σ w x i).1.length), .int (s_dg σ)])) := by rw [ho1 (0, 0, 0) (by simp), gx]
            have f1_2_0_0 : k1 (2, 0, 0) = some (.inl (G.2 4, 40, x_refs (x_ite ad (s_setAs σ (sp_pollN σ w x i).1)))) := by rw [ho1 (2, 0, 0) (by simp), gi0]
            have f1_7_i_0 : k1 (7, i, 0) = some (.inr (0, [.int (s_pk σ i), .ref (ad (8, i, 0)), .int (s_rn σ i)])) := by rw [ho1 (7, i, 0) (by simp), gi]
            refine lv_istore (lv' := [(8, .int (nI (cN (s_isC σ i) (s_nS σ)))), (7, .ref (ad (7, i, 0))), (0, .ref (ad (0, 0, 0))), (1, .int w), (4, .long ((sp_pollN σ w x i).2)), (6, .int (nI i))]) X.1 X.2.1 dX3_poll_59 hl (by decide) rfl (fun ls hl => ?_)
            refine lv_aload_n X.1 X.2.1 dX3_poll_61 rfl (lv_at hl 2 rfl) ?_
            refine lv_iload X.1 X.2.1 dX3_poll_62 (lv_at hl 0 rfl) ?_
            refine lv_lload X.1 X.2.1 dX3_poll_64 (lv_at hl 4 rfl) ?_
            refine h_callWV (t := (0, 0, 0)) (As := [.int (nI (cN (s_isC σ i) (s_nS σ))), .long ((sp_pollN σ w x i).2)]) (rest := []) X hw cs_X3_124 (c_X3_mix l G (hRk.setMix hg1 ho1) (n0 := cN (s_isC σ i) (s_nS σ)) (by omega) hg1 hc1 (sp_pollN σ w x i).2) f1_0_0_0 rfl rfl hl.1 rfl (Nat.le_of_ble_eq_true rfl) ⟨by decide, by decide⟩ ⟨(Nat.le_of_ble_eq_true rfl), (Nat.le_of_ble_eq_true rfl)⟩ dX3_poll_66 (fun r9 ad2 k2 H locs hp9 hw => ?_)
            obtain ⟨rfl, ea2, ⟨g2, hg2, hc2⟩, ho2⟩ := hp9
            refine W.eq (g2 := F0 m 69 ls [.long ((p_mf σ i (sp_pollN σ w x i).2).2)]) rfl ?_
            replace hw := hw.renA ea2.symm
            have f2_0_0_0 : k2 (0, 0, 0) = some (.inr (3, [.int (nI (s_cop σ)), .ref (ad (1, 0, 0)), .int (nI (s_nS σ)), .ref (ad (2, 0, 0)), .int (nI (s_nF σ)), .ref (ad (3, 0, 0)), .ref (ad (4, 0, 0)), .ref (ad (5, 0, 0)), .ref (ad (5, 1, 0)), .ref (ad (5, 2, 0)), .int (nI (sp_pollN σ w x i).1.length), .int (s_dg σ)])) := by rw [ho2 (0, 0, 0) (by simp), f1_0_0_0]
            have f2_2_0_0 : k2 (2, 0, 0) = some (.inl (G.2 4, 40, x_refs (x_ite ad (s_setAs σ (sp_pollN σ w x i).1)))) := by rw [ho2 (2, 0, 0) (by simp), f1_2_0_0]
            have f2_7_i_0 : k2 (7, i, 0) = some (.inr (0, [.int (s_pk σ i), .ref (ad (8, i, 0)), .int (s_rn σ i)])) := by rw [ho2 (7, i, 0) (by simp), f1_7_i_0]
            refine lv_lstore (lv' := [(4, .long ((p_mf σ i (sp_pollN σ w x i).2).2)), (8, .int (nI (cN (s_isC σ i) (s_nS σ)))), (7, .ref (ad (7, i, 0))), (0, .ref (ad (0, 0, 0))), (1, .int w), (6, .int (nI i))]) X.1 X.2.1 dX3_poll_69 hl (by decide) rfl (fun ls hl => ?_)
            refine lv_aload_n X.1 X.2.1 dX3_poll_71 rfl (lv_at hl 3 rfl) ?_
            refine lv_iload X.1 X.2.1 dX3_poll_72 (lv_at hl 5 rfl) ?_
            refine lv_aload X.1 X.2.1 dX3_poll_74 (lv_at hl 2 rfl) ?_
            refine lv_iload X.1 X.2.1 dX3_poll_76 (lv_at hl 1 rfl) ?_
            refine lv_iconst (v := 3) X.1 X.2.1 dX3_poll_78 (by decide) ?_
            refine va_mmin X.1 X.2.1 (by rw [X.2.2.1]; exact hl.1.symm) X.2.2.2.1 (X.2.2.2.2.1 _ mm_min_l) (X.2.2.2.2.1 _ mm_min_s) (X.2.2.2.2.1 _ wn_java_lang_Math) (X.2.2.2.2.1 _ mm_min_c) (Nat.le_of_ble_eq_true rfl) (Nat.le_of_ble_eq_true rfl) (Nat.zero_le _) (Nat.zero_le _) dX3_poll_79 ?_
            refine h_ti (b := nI (p_n3 σ i)) (nI_min3 (by omega)) ?_
            refine h_callWV (t := (0, 0, 0)) (As := [.int (nI i), .ref (ad (7, i, 0)), .int (nI (p_n3 σ i))]) (rest := []) X hw cs_X3_128 (c_X3_ask l G ((hRk.setMix hg1 ho1).setMix hg2 ho2) (f := i) hib (c0 := p_n3 σ i) (Nat.le_trans (Nat.min_le_right _ _) (by decide)) (m0 := (p_mf σ i (sp_pollN σ w x i).2).1) hg2 (fun c hc => hc2 c (Nat.lt_of_lt_of_le hc (Nat.min_le_left _ _))) (fun c hc => mf_in (Nat.lt_of_lt_of_le hc (Nat.min_le_left _ _))) (by show (sp_pollN σ w x i).1.length + p_n3 σ i ≤ 120; have : p_n3 σ i ≤ 3 := Nat.min_le_right _ _; omega)) f2_0_0_0 rfl rfl hl.1 rfl (Nat.le_of_ble_eq_true rfl) ⟨by decide, by decide⟩ ⟨(Nat.le_of_ble_eq_true rfl), (Nat.le_of_ble_eq_true rfl)⟩ dX3_poll_82 (fun r9 ad3 k3 H locs hp9 hw => ?_)
            obtain ⟨rfl, ea3, hR3, ho3⟩ := hp9
            refine W.eq (g2 := F0 m 85 ls []) rfl ?_
            replace hw := hw.renA ea3.symm
            refine lv_iinc (v := nI (i + 1)) (lv' := [(6, .int (nI (i + 1))), (4, .long ((p_mf σ i (sp_pollN σ w x i).2).2)), (8, .int (nI (cN (s_isC σ i) (s_nS σ)))), (7, .ref (ad (7, i, 0))), (0, .ref (ad (0, 0, 0))), (1, .int w)]) X.1 X.2.1 dX3_poll_85 hl (k := 5) rfl (nI_1 _) (by decide) rfl (fun ls hl => ?_)
            refine lv_goto (tgt := 21) X.1 X.2.1 dX3_poll_88 (by decide) ?_
            have es := pollN_t (σ := σ) (w := w) (x := x) (n := i) c50
            exact ih (i + 1) (by omega) (by omega) k3 _ _ (by rw [es]; exact hR3) (fun t ht => by
              rw [ho3 t (t20 ht (Nat.le_of_ble_eq_true rfl)) (fun q => by omega), ho2 t (t20 ht (Nat.le_of_ble_eq_true rfl)), ho1 t (t20 ht (Nat.le_of_ble_eq_true rfl)), h20 t ht]) hw ls (by
              rw [es]
              exact lv_sub hl [4, 5, 1, 0] rfl)
    refine lv_iload_n X.1 X.2.1 dX3_poll_0 rfl (lv_at hl 1 rfl) ?_
    refine h_callRS (As := [.int w]) (rest := []) X hw cs_X3_76 (c_X3_isPackage l G w) rfl hl.1 rfl (Nat.le_of_ble_eq_true rfl) ⟨by decide, by decide⟩ ⟨Nat.zero_le _, Nat.zero_le _⟩ dX3_poll_1 ?_
    refine h_tv (b := .int 1) (by rw [hpk]; rfl) ?_
    refine lv_if_ne (tgt := 10) X.1 X.2.1 dX3_poll_4 (by decide) (fun c4 => ?_) (fun c4 => ?_)
    · refine lv_aload_n X.1 X.2.1 dX3_poll_10 rfl (lv_at hl 0 rfl) ?_
      refine lv_iconst (v := 0) X.1 X.2.1 dX3_poll_11 (by decide) ?_
      refine pf_X3_48 X hw hx rfl rfl (Nat.le_of_ble_eq_true rfl) dX3_poll_12 (fun H locs hw => ?_)
      obtain ⟨k1, hk1⟩ : ∃ zz, zz = h_cu k (0, 0, 0) (some (.inr (3, [.int (nI (s_cop σ)), .ref (ad (1, 0, 0)), .int (nI (s_nS σ)), .ref (ad (2, 0, 0)), .int (nI (s_nF σ)), .ref (ad (3, 0, 0)), .ref (ad (4, 0, 0)), .ref (ad (5, 0, 0)), .ref (ad (5, 1, 0)), .ref (ad (5, 2, 0)), .int 0, .int (s_dg σ)]))) := ⟨_, rfl⟩
      replace hw := h_W.ren hw hk1
      have f1_0_0_0 : k1 (0, 0, 0) = some (.inr (3, [.int (nI (s_cop σ)), .ref (ad (1, 0, 0)), .int (nI (s_nS σ)), .ref (ad (2, 0, 0)), .int (nI (s_nF σ)), .ref (ad (3, 0, 0)), .ref (ad (4, 0, 0)), .ref (ad (5, 0, 0)), .ref (ad (5, 1, 0)), .ref (ad (5, 2, 0)), .int 0, .int (s_dg σ)])) := by rw [hk1]; exact h_cs _ _ _
      refine lv_lload_n X.1 X.2.1 dX3_poll_15 rfl (lv_at hl 2 rfl) ?_
      refine lv_lstore (lv' := [(4, .long x), (0, .ref (ad (0, 0, 0))), (1, .int w), (2, .long x)]) X.1 X.2.1 dX3_poll_16 hl (by decide) rfl (fun ls hl => ?_)
      refine lv_iconst (v := 0) X.1 X.2.1 dX3_poll_18 (by decide) ?_
      refine lv_istore (lv' := [(6, .int 0), (4, .long x), (0, .ref (ad (0, 0, 0))), (1, .int w), (2, .long x)]) X.1 X.2.1 dX3_poll_19 hl (by decide) rfl (fun ls hl => ?_)
      obtain ⟨a0, a1, a2, b0, b1, b2, b3⟩ := hask
      have hO : ∀ t : h_T, t ≠ (0, 0, 0) → k1 t = k t := fun t h1 => by rw [hk1, h_cn _ _ h1]
      exact loop (s_nF σ + 1) 0 (by omega) (by omega) k1 _ _ (RX.setAs (as := []) hR (by decide) f1_0_0_0 ⟨a0, a1, a2, (hO _ (by simp)).trans b0, (hO _ (by simp)).trans b1, (hO _ (by simp)).trans b2, fun j hj => absurd hj (Nat.not_lt_zero j)⟩ (fun t h1 _ => hO t h1)) (fun t ht => hO t (t20 ht (Nat.le_of_ble_eq_true rfl))) hw ls (lv_sub hl [2, 3, 1, 0] rfl)
    · exact absurd c4 (by decide)
end
