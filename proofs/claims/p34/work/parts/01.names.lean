/-- a private method of a class that the tables say can be made, by its rows of tables_1 -/
def lw_okq (q : MethodName × Nat) : Prop := (q.1.cls ≠ "java/lang/invoke/MethodHandle" ∧ q.1.cls ≠ "java/lang/invoke/VarHandle") ∧ Cond.instantiable q.1.cls q.2 ∈ tables_1 ∧ Cond.privateMethod q.1 ∈ tables_1 ∧ Cond.instanceMethod q.1 ∈ tables_1
theorem lw_p0 : lw_okq (⟨"DiskRekeying$Disk", "fillWithZeros", "()V"⟩, 15) := ⟨⟨by decide +kernel, by decide +kernel⟩, List.mem_of_getElem? (i := 16) (by decide +kernel), List.mem_of_getElem? (i := 44) (by decide +kernel), List.mem_of_getElem? (i := 45) (by decide +kernel)⟩
theorem lw_p1 : lw_okq (⟨"DiskRekeying$Disk", "exchange", "(III)I"⟩, 15) := ⟨⟨by decide +kernel, by decide +kernel⟩, List.mem_of_getElem? (i := 16) (by decide +kernel), List.mem_of_getElem? (i := 49) (by decide +kernel), List.mem_of_getElem? (i := 50) (by decide +kernel)⟩
theorem lw_p2 : lw_okq (⟨"DiskRekeying$History", "slot", "(I)LDiskRekeying$Disk;"⟩, 3) := ⟨⟨by decide +kernel, by decide +kernel⟩, List.mem_of_getElem? (i := 105) (by decide +kernel), List.mem_of_getElem? (i := 169) (by decide +kernel), List.mem_of_getElem? (i := 170) (by decide +kernel)⟩
theorem lw_p3 : lw_okq (⟨"DiskRekeying$Disk", "closeZone", "()V"⟩, 15) := ⟨⟨by decide +kernel, by decide +kernel⟩, List.mem_of_getElem? (i := 16) (by decide +kernel), List.mem_of_getElem? (i := 186) (by decide +kernel), List.mem_of_getElem? (i := 187) (by decide +kernel)⟩
theorem lw_p4 : lw_okq (⟨"DiskRekeying$Disk", "isZoneOpen", "()Z"⟩, 15) := ⟨⟨by decide +kernel, by decide +kernel⟩, List.mem_of_getElem? (i := 16) (by decide +kernel), List.mem_of_getElem? (i := 229) (by decide +kernel), List.mem_of_getElem? (i := 230) (by decide +kernel)⟩
theorem lw_p5 : lw_okq (⟨"DiskRekeying$Disk", "needsJournal", "()Z"⟩, 15) := ⟨⟨by decide +kernel, by decide +kernel⟩, List.mem_of_getElem? (i := 16) (by decide +kernel), List.mem_of_getElem? (i := 257) (by decide +kernel), List.mem_of_getElem? (i := 258) (by decide +kernel)⟩
theorem lw_p6 : lw_okq (⟨"DiskRekeying$Disk", "zoneEnd", "()I"⟩, 15) := ⟨⟨by decide +kernel, by decide +kernel⟩, List.mem_of_getElem? (i := 16) (by decide +kernel), List.mem_of_getElem? (i := 261) (by decide +kernel), List.mem_of_getElem? (i := 262) (by decide +kernel)⟩
theorem lw_p7 : lw_okq (⟨"DiskRekeying$Disk", "rewriteNext", "(I)V"⟩, 15) := ⟨⟨by decide +kernel, by decide +kernel⟩, List.mem_of_getElem? (i := 16) (by decide +kernel), List.mem_of_getElem? (i := 283) (by decide +kernel), List.mem_of_getElem? (i := 284) (by decide +kernel)⟩
theorem lw_p8 : lw_okq (⟨"DiskRekeying$Disk", "keyByPosition", "(I)I"⟩, 15) := ⟨⟨by decide +kernel, by decide +kernel⟩, List.mem_of_getElem? (i := 16) (by decide +kernel), List.mem_of_getElem? (i := 287) (by decide +kernel), List.mem_of_getElem? (i := 288) (by decide +kernel)⟩
theorem lw_p9 : lw_okq (⟨"DiskRekeying$Disk", "otherKey", "(I)I"⟩, 15) := ⟨⟨by decide +kernel, by decide +kernel⟩, List.mem_of_getElem? (i := 16) (by decide +kernel), List.mem_of_getElem? (i := 291) (by decide +kernel), List.mem_of_getElem? (i := 292) (by decide +kernel)⟩
theorem lw_p10 : lw_okq (⟨"DiskRekeying$Disk", "endIfThrough", "()V"⟩, 15) := ⟨⟨by decide +kernel, by decide +kernel⟩, List.mem_of_getElem? (i := 16) (by decide +kernel), List.mem_of_getElem? (i := 295) (by decide +kernel), List.mem_of_getElem? (i := 296) (by decide +kernel)⟩
theorem lw_p11 : lw_okq (⟨"DiskRekeying$Disk", "isFlushable", "(I)Z"⟩, 15) := ⟨⟨by decide +kernel, by decide +kernel⟩, List.mem_of_getElem? (i := 16) (by decide +kernel), List.mem_of_getElem? (i := 327) (by decide +kernel), List.mem_of_getElem? (i := 328) (by decide +kernel)⟩
theorem lw_p12 : lw_okq (⟨"DiskRekeying$Disk", "valueAfterFailure", "(I)I"⟩, 15) := ⟨⟨by decide +kernel, by decide +kernel⟩, List.mem_of_getElem? (i := 16) (by decide +kernel), List.mem_of_getElem? (i := 351) (by decide +kernel), List.mem_of_getElem? (i := 352) (by decide +kernel)⟩
theorem lw_p13 : lw_okq (⟨"DiskRekeying$Disk", "scrambledAfterFailure", "(I)I"⟩, 15) := ⟨⟨by decide +kernel, by decide +kernel⟩, List.mem_of_getElem? (i := 16) (by decide +kernel), List.mem_of_getElem? (i := 355) (by decide +kernel), List.mem_of_getElem? (i := 356) (by decide +kernel)⟩
def lw_privs_1 : List (MethodName × Nat) := [(⟨"DiskRekeying$Disk", "fillWithZeros", "()V"⟩, 15), (⟨"DiskRekeying$Disk", "exchange", "(III)I"⟩, 15), (⟨"DiskRekeying$History", "slot", "(I)LDiskRekeying$Disk;"⟩, 3), (⟨"DiskRekeying$Disk", "closeZone", "()V"⟩, 15), (⟨"DiskRekeying$Disk", "isZoneOpen", "()Z"⟩, 15), (⟨"DiskRekeying$Disk", "needsJournal", "()Z"⟩, 15), (⟨"DiskRekeying$Disk", "zoneEnd", "()I"⟩, 15), (⟨"DiskRekeying$Disk", "rewriteNext", "(I)V"⟩, 15), (⟨"DiskRekeying$Disk", "keyByPosition", "(I)I"⟩, 15), (⟨"DiskRekeying$Disk", "otherKey", "(I)I"⟩, 15), (⟨"DiskRekeying$Disk", "endIfThrough", "()V"⟩, 15), (⟨"DiskRekeying$Disk", "isFlushable", "(I)Z"⟩, 15), (⟨"DiskRekeying$Disk", "valueAfterFailure", "(I)I"⟩, 15), (⟨"DiskRekeying$Disk", "scrambledAfterFailure", "(I)I"⟩, 15)]
theorem lw_r1 : ∀ q ∈ lw_privs_1, lw_okq q := List.forall_mem_cons.mpr ⟨lw_p0, List.forall_mem_cons.mpr ⟨lw_p1, List.forall_mem_cons.mpr ⟨lw_p2, List.forall_mem_cons.mpr ⟨lw_p3, List.forall_mem_cons.mpr ⟨lw_p4, List.forall_mem_cons.mpr ⟨lw_p5, List.forall_mem_cons.mpr ⟨lw_p6, List.forall_mem_cons.mpr ⟨lw_p7, List.forall_mem_cons.mpr ⟨lw_p8, List.forall_mem_cons.mpr ⟨lw_p9, List.forall_mem_cons.mpr ⟨lw_p10, List.forall_mem_cons.mpr ⟨lw_p11, List.forall_mem_cons.mpr ⟨lw_p12, List.forall_mem_cons.mpr ⟨lw_p13, fun _ h => absurd h List.not_mem_nil⟩⟩⟩⟩⟩⟩⟩⟩⟩⟩⟩⟩⟩⟩
def lw_privs : List (MethodName × Nat) := lw_privs_1
def lw_tbl : List Cond := k2_sels lw_privs ++ tables_1
theorem lw_privs_ok : ∀ q ∈ lw_privs, lw_okq q := lw_r1
def RX0 : String := "DiskRekeying$Disk"
def TX0 : u_T := fun k => match k with
  | 0 => ("DiskRekeying$Disk", "scrambled", "LDiskRekeying$Row;", true)
  | 1 => ("DiskRekeying$Disk", "expected", "LDiskRekeying$Row;", true)
  | 2 => ("DiskRekeying$Disk", "cache", "LDiskRekeying$Row;", true)
  | 3 => ("DiskRekeying$Disk", "logged", "LDiskRekeying$Row;", true)
  | 4 => ("DiskRekeying$Disk", "secrets", "LDiskRekeying$Row;", true)
  | 5 => ("DiskRekeying$Disk", "sectors", "I", false)
  | 6 => ("DiskRekeying$Disk", "ownKey", "I", false)
  | 7 => ("DiskRekeying$Disk", "target", "I", false)
  | 8 => ("DiskRekeying$Disk", "forward", "Z", false)
  | 9 => ("DiskRekeying$Disk", "position", "I", false)
  | 10 => ("DiskRekeying$Disk", "rewritten", "I", false)
  | 11 => ("DiskRekeying$Disk", "zoneSize", "I", false)
  | 12 => ("DiskRekeying$Disk", "journalUsed", "Z", false)
  | 13 => ("DiskRekeying$Disk", "completed", "I", false)
  | _ => ("DiskRekeying$Disk", "failures", "I", false)
def tyX0 : Nat → FieldType := fun k => match k with
  | 0 => .object "DiskRekeying$Row"
  | 1 => .object "DiskRekeying$Row"
  | 2 => .object "DiskRekeying$Row"
  | 3 => .object "DiskRekeying$Row"
  | 4 => .object "DiskRekeying$Row"
  | 5 => .int
  | 6 => .int
  | 7 => .int
  | 8 => .boolean
  | 9 => .int
  | 10 => .int
  | 11 => .int
  | 12 => .boolean
  | 13 => .int
  | _ => .int
abbrev wsX00 : List Cond := u_ws RX0 TX0 15
theorem nmX0 : ∀ a, a < 15 → ∀ b, b < 15 → a ≠ b → (TX0 a).2.1 ≠ (TX0 b).2.1 := by decide +kernel
theorem tyX0_ok : ∀ k, k < 15 → parseFieldDescriptor (TX0 k).2.2.1 = some (tyX0 k) := by decide +kernel
abbrev cX0_init : ByteArray := prog_2_method_1_code
def yX0_init : MethodName := ⟨RX0, "<init>", "()V"⟩
abbrev cX0_takeOver : ByteArray := prog_2_method_2_code
def yX0_takeOver : MethodName := ⟨RX0, "takeOver", "(LDiskRekeying$Disk;)V"⟩
abbrev cX0_reformat : ByteArray := prog_2_method_3_code
def yX0_reformat : MethodName := ⟨RX0, "reformat", "(I)I"⟩
abbrev cX0_insertKey : ByteArray := prog_2_method_4_code
def yX0_insertKey : MethodName := ⟨RX0, "insertKey", "(II)I"⟩
abbrev cX0_dropKey : ByteArray := prog_2_method_5_code
def yX0_dropKey : MethodName := ⟨RX0, "dropKey", "(I)I"⟩
abbrev cX0_resizeZone : ByteArray := prog_2_method_6_code
def yX0_resizeZone : MethodName := ⟨RX0, "resizeZone", "(I)I"⟩
abbrev cX0_switchJournal : ByteArray := prog_2_method_7_code
def yX0_switchJournal : MethodName := ⟨RX0, "switchJournal", "(I)I"⟩
abbrev cX0_begin : ByteArray := prog_2_method_8_code
def yX0_begin : MethodName := ⟨RX0, "begin", "(I)I"⟩
abbrev cX0_advance : ByteArray := prog_2_method_9_code
def yX0_advance : MethodName := ⟨RX0, "advance", "(I)I"⟩
abbrev cX0_turn : ByteArray := prog_2_method_10_code
def yX0_turn : MethodName := ⟨RX0, "turn", "()I"⟩
abbrev cX0_put : ByteArray := prog_2_method_11_code
def yX0_put : MethodName := ⟨RX0, "put", "(II)I"⟩
abbrev cX0_flushCache : ByteArray := prog_2_method_12_code
def yX0_flushCache : MethodName := ⟨RX0, "flushCache", "()I"⟩
abbrev cX0_losePower : ByteArray := prog_2_method_13_code
def yX0_losePower : MethodName := ⟨RX0, "losePower", "()I"⟩
abbrev cX0_hasSector : ByteArray := prog_2_method_15_code
def yX0_hasSector : MethodName := ⟨RX0, "hasSector", "(I)Z"⟩
abbrev cX0_hasKey : ByteArray := prog_2_method_16_code
def yX0_hasKey : MethodName := ⟨RX0, "hasKey", "(I)Z"⟩
abbrev cX0_secretBehind : ByteArray := prog_2_method_17_code
def yX0_secretBehind : MethodName := ⟨RX0, "secretBehind", "(I)I"⟩
abbrev cX0_scrambledIn : ByteArray := prog_2_method_18_code
def yX0_scrambledIn : MethodName := ⟨RX0, "scrambledIn", "(I)I"⟩
abbrev cX0_inJournal : ByteArray := prog_2_method_19_code
def yX0_inJournal : MethodName := ⟨RX0, "inJournal", "(I)I"⟩
abbrev cX0_inCache : ByteArray := prog_2_method_20_code
def yX0_inCache : MethodName := ⟨RX0, "inCache", "(I)I"⟩
abbrev cX0_valueIn : ByteArray := prog_2_method_21_code
def yX0_valueIn : MethodName := ⟨RX0, "valueIn", "(I)I"⟩
abbrev cX0_keyAt : ByteArray := prog_2_method_22_code
def yX0_keyAt : MethodName := ⟨RX0, "keyAt", "(I)I"⟩
abbrev cX0_keyByPosition : ByteArray := prog_2_method_23_code
def yX0_keyByPosition : MethodName := ⟨RX0, "keyByPosition", "(I)I"⟩
abbrev cX0_otherKey : ByteArray := prog_2_method_24_code
def yX0_otherKey : MethodName := ⟨RX0, "otherKey", "(I)I"⟩
abbrev cX0_exchange : ByteArray := prog_2_method_25_code
def yX0_exchange : MethodName := ⟨RX0, "exchange", "(III)I"⟩
abbrev cX0_fillWithZeros : ByteArray := prog_2_method_26_code
def yX0_fillWithZeros : MethodName := ⟨RX0, "fillWithZeros", "()V"⟩
abbrev cX0_isRekeying : ByteArray := prog_2_method_27_code
def yX0_isRekeying : MethodName := ⟨RX0, "isRekeying", "()Z"⟩
abbrev cX0_zoneFirst : ByteArray := prog_2_method_28_code
def yX0_zoneFirst : MethodName := ⟨RX0, "zoneFirst", "()I"⟩
abbrev cX0_zoneEnd : ByteArray := prog_2_method_29_code
def yX0_zoneEnd : MethodName := ⟨RX0, "zoneEnd", "()I"⟩
abbrev cX0_isZoneOpen : ByteArray := prog_2_method_30_code
def yX0_isZoneOpen : MethodName := ⟨RX0, "isZoneOpen", "()Z"⟩
abbrev cX0_needsJournal : ByteArray := prog_2_method_31_code
def yX0_needsJournal : MethodName := ⟨RX0, "needsJournal", "()Z"⟩
abbrev cX0_makeStep : ByteArray := prog_2_method_32_code
def yX0_makeStep : MethodName := ⟨RX0, "makeStep", "()V"⟩
abbrev cX0_rewriteNext : ByteArray := prog_2_method_33_code
def yX0_rewriteNext : MethodName := ⟨RX0, "rewriteNext", "(I)V"⟩
abbrev cX0_closeZone : ByteArray := prog_2_method_34_code
def yX0_closeZone : MethodName := ⟨RX0, "closeZone", "()V"⟩
abbrev cX0_endIfThrough : ByteArray := prog_2_method_35_code
def yX0_endIfThrough : MethodName := ⟨RX0, "endIfThrough", "()V"⟩
abbrev cX0_stepsAhead : ByteArray := prog_2_method_36_code
def yX0_stepsAhead : MethodName := ⟨RX0, "stepsAhead", "()I"⟩
abbrev cX0_isFlushable : ByteArray := prog_2_method_37_code
def yX0_isFlushable : MethodName := ⟨RX0, "isFlushable", "(I)Z"⟩
abbrev cX0_scrambledAfterFlush : ByteArray := prog_2_method_38_code
def yX0_scrambledAfterFlush : MethodName := ⟨RX0, "scrambledAfterFlush", "(I)I"⟩
abbrev cX0_scrambledAfterFailure : ByteArray := prog_2_method_39_code
def yX0_scrambledAfterFailure : MethodName := ⟨RX0, "scrambledAfterFailure", "(I)I"⟩
abbrev cX0_valueAfterFailure : ByteArray := prog_2_method_40_code
def yX0_valueAfterFailure : MethodName := ⟨RX0, "valueAfterFailure", "(I)I"⟩
abbrev cX0_damageAfterFailure : ByteArray := prog_2_method_41_code
def yX0_damageAfterFailure : MethodName := ⟨RX0, "damageAfterFailure", "()I"⟩
abbrev cX0_damageCount : ByteArray := prog_2_method_42_code
def yX0_damageCount : MethodName := ⟨RX0, "damageCount", "()I"⟩
abbrev cX0_firstDamage : ByteArray := prog_2_method_43_code
def yX0_firstDamage : MethodName := ⟨RX0, "firstDamage", "()I"⟩
abbrev cX0_numberOfRekeying : ByteArray := prog_2_method_44_code
def yX0_numberOfRekeying : MethodName := ⟨RX0, "numberOfRekeying", "(I)I"⟩
abbrev cX0_number : ByteArray := prog_2_method_45_code
def yX0_number : MethodName := ⟨RX0, "number", "(I)I"⟩
def RX1 : String := "DiskRekeying$History"
def TX1 : u_T := fun k => match k with
  | 0 => ("DiskRekeying$History", "slots", "[LDiskRekeying$Disk;", true)
  | 1 => ("DiskRekeying$History", "next", "I", false)
  | _ => ("DiskRekeying$History", "saved", "I", false)
def tyX1 : Nat → FieldType := fun k => match k with
  | 0 => .array (.object "DiskRekeying$Disk")
  | 1 => .int
  | _ => .int
abbrev wsX10 : List Cond := u_ws RX1 TX1 3
theorem nmX1 : ∀ a, a < 3 → ∀ b, b < 3 → a ≠ b → (TX1 a).2.1 ≠ (TX1 b).2.1 := by decide +kernel
theorem tyX1_ok : ∀ k, k < 3 → parseFieldDescriptor (TX1 k).2.2.1 = some (tyX1 k) := by decide +kernel
abbrev cX1_init : ByteArray := prog_3_method_1_code
def yX1_init : MethodName := ⟨RX1, "<init>", "()V"⟩
abbrev cX1_slot : ByteArray := prog_3_method_2_code
def yX1_slot : MethodName := ⟨RX1, "slot", "(I)LDiskRekeying$Disk;"⟩
abbrev cX1_draft : ByteArray := prog_3_method_3_code
def yX1_draft : MethodName := ⟨RX1, "draft", "(LDiskRekeying$Disk;)V"⟩
abbrev cX1_keep : ByteArray := prog_3_method_4_code
def yX1_keep : MethodName := ⟨RX1, "keep", "(I)I"⟩
def RX2 : String := "DiskRekeying$Row"
def TX2 : u_T := fun k => match k with
  | _ => ("DiskRekeying$Row", "cells", "[I", true)
def tyX2 : Nat → FieldType := fun k => match k with
  | _ => .array .int
abbrev wsX20 : List Cond := u_ws RX2 TX2 1
theorem nmX2 : ∀ a, a < 1 → ∀ b, b < 1 → a ≠ b → (TX2 a).2.1 ≠ (TX2 b).2.1 := by decide +kernel
theorem tyX2_ok : ∀ k, k < 1 → parseFieldDescriptor (TX2 k).2.2.1 = some (tyX2 k) := by decide +kernel
abbrev cX2_init : ByteArray := prog_4_method_1_code
def yX2_init : MethodName := ⟨RX2, "<init>", "(I)V"⟩
abbrev cX2_get : ByteArray := prog_4_method_2_code
def yX2_get : MethodName := ⟨RX2, "get", "(I)I"⟩
abbrev cX2_set : ByteArray := prog_4_method_3_code
def yX2_set : MethodName := ⟨RX2, "set", "(II)V"⟩
abbrev cX2_clear : ByteArray := prog_4_method_4_code
def yX2_clear : MethodName := ⟨RX2, "clear", "()V"⟩
abbrev cX2_filled : ByteArray := prog_4_method_5_code
def yX2_filled : MethodName := ⟨RX2, "filled", "()I"⟩
abbrev cX2_takeOver : ByteArray := prog_4_method_6_code
def yX2_takeOver : MethodName := ⟨RX2, "takeOver", "(LDiskRekeying$Row;)V"⟩
def RX3 : String := "DiskRekeying$Script"
def TX3 : u_T := fun k => match k with
  | 0 => ("DiskRekeying$Script", "codes", "LDiskRekeying$Row;", true)
  | 1 => ("DiskRekeying$Script", "letters", "LDiskRekeying$Row;", true)
  | 2 => ("DiskRekeying$Script", "sectors", "LDiskRekeying$Row;", true)
  | 3 => ("DiskRekeying$Script", "numbers", "LDiskRekeying$Row;", true)
  | _ => ("DiskRekeying$Script", "length", "I", false)
def tyX3 : Nat → FieldType := fun k => match k with
  | 0 => .object "DiskRekeying$Row"
  | 1 => .object "DiskRekeying$Row"
  | 2 => .object "DiskRekeying$Row"
  | 3 => .object "DiskRekeying$Row"
  | _ => .int
abbrev wsX30 : List Cond := u_ws RX3 TX3 5
theorem nmX3 : ∀ a, a < 5 → ∀ b, b < 5 → a ≠ b → (TX3 a).2.1 ≠ (TX3 b).2.1 := by decide +kernel
theorem tyX3_ok : ∀ k, k < 5 → parseFieldDescriptor (TX3 k).2.2.1 = some (tyX3 k) := by decide +kernel
abbrev cX3_init : ByteArray := prog_5_method_1_code
def yX3_init : MethodName := ⟨RX3, "<init>", "()V"⟩
def RX4 : String := "DiskRekeying"
def TX4 : u_T := fun k => match k with
  | 0 => ("DiskRekeying", "disk", "LDiskRekeying$Disk;", true)
  | 1 => ("DiskRekeying", "trial", "LDiskRekeying$Disk;", true)
  | 2 => ("DiskRekeying", "history", "LDiskRekeying$History;", true)
  | _ => ("DiskRekeying", "script", "LDiskRekeying$Script;", true)
def tyX4 : Nat → FieldType := fun k => match k with
  | 0 => .object "DiskRekeying$Disk"
  | 1 => .object "DiskRekeying$Disk"
  | 2 => .object "DiskRekeying$History"
  | _ => .object "DiskRekeying$Script"
abbrev wsX40 : List Cond := u_ws RX4 TX4 4
theorem nmX4 : ∀ a, a < 4 → ∀ b, b < 4 → a ≠ b → (TX4 a).2.1 ≠ (TX4 b).2.1 := by decide +kernel
theorem tyX4_ok : ∀ k, k < 4 → parseFieldDescriptor (TX4 k).2.2.1 = some (tyX4 k) := by decide +kernel
abbrev cX4_init : ByteArray := prog_1_method_1_code
def yX4_init : MethodName := ⟨RX4, "<init>", "()V"⟩
abbrev cX4_format : ByteArray := prog_1_method_2_code
def yX4_format : MethodName := ⟨RX4, "format", "(I)I"⟩
abbrev cX4_addKey : ByteArray := prog_1_method_3_code
def yX4_addKey : MethodName := ⟨RX4, "addKey", "(II)I"⟩
abbrev cX4_removeKey : ByteArray := prog_1_method_4_code
def yX4_removeKey : MethodName := ⟨RX4, "removeKey", "(I)I"⟩
abbrev cX4_secretOf : ByteArray := prog_1_method_5_code
def yX4_secretOf : MethodName := ⟨RX4, "secretOf", "(I)I"⟩
abbrev cX4_setZone : ByteArray := prog_1_method_6_code
def yX4_setZone : MethodName := ⟨RX4, "setZone", "(I)I"⟩
abbrev cX4_setJournal : ByteArray := prog_1_method_7_code
def yX4_setJournal : MethodName := ⟨RX4, "setJournal", "(I)I"⟩
abbrev cX4_start : ByteArray := prog_1_method_8_code
def yX4_start : MethodName := ⟨RX4, "start", "(I)I"⟩
abbrev cX4_steps : ByteArray := prog_1_method_9_code
def yX4_steps : MethodName := ⟨RX4, "steps", "(I)I"⟩
abbrev cX4_turnBack : ByteArray := prog_1_method_10_code
def yX4_turnBack : MethodName := ⟨RX4, "turnBack", "()I"⟩
abbrev cX4_write : ByteArray := prog_1_method_11_code
def yX4_write : MethodName := ⟨RX4, "write", "(II)I"⟩
abbrev cX4_flush : ByteArray := prog_1_method_12_code
def yX4_flush : MethodName := ⟨RX4, "flush", "()I"⟩
abbrev cX4_fail : ByteArray := prog_1_method_13_code
def yX4_fail : MethodName := ⟨RX4, "fail", "()I"⟩
abbrev cX4_count : ByteArray := prog_1_method_14_code
def yX4_count : MethodName := ⟨RX4, "count", "(I)I"⟩
abbrev cX4_read : ByteArray := prog_1_method_15_code
def yX4_read : MethodName := ⟨RX4, "read", "(I)I"⟩
abbrev cX4_stored : ByteArray := prog_1_method_16_code
def yX4_stored : MethodName := ⟨RX4, "stored", "(I)I"⟩
abbrev cX4_keyOf : ByteArray := prog_1_method_17_code
def yX4_keyOf : MethodName := ⟨RX4, "keyOf", "(I)I"⟩
abbrev cX4_journal : ByteArray := prog_1_method_18_code
def yX4_journal : MethodName := ⟨RX4, "journal", "(I)I"⟩
abbrev cX4_cached : ByteArray := prog_1_method_19_code
def yX4_cached : MethodName := ⟨RX4, "cached", "(I)I"⟩
abbrev cX4_zoneStart : ByteArray := prog_1_method_20_code
def yX4_zoneStart : MethodName := ⟨RX4, "zoneStart", "()I"⟩
abbrev cX4_damaged : ByteArray := prog_1_method_21_code
def yX4_damaged : MethodName := ⟨RX4, "damaged", "()I"⟩
abbrev cX4_firstDamaged : ByteArray := prog_1_method_22_code
def yX4_firstDamaged : MethodName := ⟨RX4, "firstDamaged", "()I"⟩
abbrev cX4_stepsLeft : ByteArray := prog_1_method_23_code
def yX4_stepsLeft : MethodName := ⟨RX4, "stepsLeft", "()I"⟩
abbrev cX4_ifFailed : ByteArray := prog_1_method_24_code
def yX4_ifFailed : MethodName := ⟨RX4, "ifFailed", "(I)I"⟩
abbrev cX4_ifFlushed : ByteArray := prog_1_method_26_code
def yX4_ifFlushed : MethodName := ⟨RX4, "ifFlushed", "(I)I"⟩
abbrev cX4_orNone : ByteArray := prog_1_method_35_code
def yX4_orNone : MethodName := ⟨RX4, "orNone", "(I)I"⟩
def RX5 : String := "DiskRekeyingModel"
def TX5 : u_T := fun k => match k with
  | _ => ("", "", "", false)
def tyX5 : Nat → FieldType := fun k => match k with
  | _ => .int
abbrev wsX50 : List Cond := u_ws RX5 TX5 0
theorem nmX5 : ∀ a, a < 0 → ∀ b, b < 0 → a ≠ b → (TX5 a).2.1 ≠ (TX5 b).2.1 := by decide +kernel
theorem tyX5_ok : ∀ k, k < 0 → parseFieldDescriptor (TX5 k).2.2.1 = some (tyX5 k) := by decide +kernel
def RL : String := "DiskRekeyingLaw"
abbrev cL_cell : ByteArray := method_2_code
def yL_cell : MethodName := ⟨RL, "cell", "([II)I"⟩
abbrev cL_low : ByteArray := method_3_code
def yL_low : MethodName := ⟨RL, "low", "(II)I"⟩
abbrev cL_mix : ByteArray := method_4_code
def yL_mix : MethodName := ⟨RL, "mix", "(III)I"⟩
abbrev cL_first : ByteArray := method_5_code
def yL_first : MethodName := ⟨RL, "first", "([I)I"⟩
abbrev cL_behind : ByteArray := method_6_code
def yL_behind : MethodName := ⟨RL, "behind", "([I)I"⟩
abbrev cL_key : ByteArray := method_7_code
def yL_key : MethodName := ⟨RL, "key", "(I[I)I"⟩
abbrev cL_plain : ByteArray := method_8_code
def yL_plain : MethodName := ⟨RL, "plain", "(I[I[I)I"⟩
abbrev cL_close : ByteArray := method_9_code
def yL_close : MethodName := ⟨RL, "close", "([I[I)V"⟩
abbrev cL_end : ByteArray := method_10_code
def yL_end : MethodName := ⟨RL, "end", "([I[I)V"⟩
abbrev cL_step : ByteArray := method_11_code
def yL_step : MethodName := ⟨RL, "step", "([I[I[I)Z"⟩
abbrev cL_fail : ByteArray := method_12_code
def yL_fail : MethodName := ⟨RL, "fail", "([I[I[I[I)V"⟩
abbrev cL_damaged : ByteArray := method_13_code
def yL_damaged : MethodName := ⟨RL, "damaged", "([I[I[I[I)I"⟩
abbrev cL_cached : ByteArray := method_14_code
def yL_cached : MethodName := ⟨RL, "cached", "([I[I)I"⟩
abbrev cL_then : ByteArray := method_15_code
def yL_then : MethodName := ⟨RL, "then", "(IZ[I[I[I[I[I)I"⟩
abbrev cL_same : ByteArray := method_16_code
def yL_same : MethodName := ⟨RL, "same", "(LDiskRekeying;I[I[I[I[I[I)Z"⟩
abbrev cL_law : ByteArray := code
def yL_law : MethodName := ⟨RL, "law", "([I)Z"⟩
abbrev vwCl : List vw_C := [(RX0, TX0, 15), (RX1, TX1, 3), (RX2, TX2, 1), (RX3, TX3, 5), (RX4, TX4, 4)]
/-- the words of the tables that a call takes along -/
def dk_tbl : List Cond := lw_tbl.filter goodWord
theorem dk_tw {w : Cond} (i : Nat) (h : tables_1[i]? = some w ∧ goodWord w = true) : w ∈ dk_tbl := List.mem_filter.mpr ⟨List.mem_append_right _ (List.mem_of_getElem? h.1), h.2⟩
theorem dk_sw {w : Cond} (i : Nat) (h : (k2_sels lw_privs)[i]? = some w ∧ goodWord w = true) : w ∈ dk_tbl := List.mem_filter.mpr ⟨List.mem_append_left _ (List.mem_of_getElem? h.1), h.2⟩
theorem dk_good : dk_tbl.all goodWord = true := List.all_eq_true.mpr fun w h => (List.mem_filter.mp h).2
theorem uwX0 : ∀ w ∈ wsX00, w ∈ dk_tbl := fun w h => List.mem_filter.mpr ⟨List.mem_append_right _ ((by decide +kernel : ∀ w ∈ wsX00, w ∈ tables_1) w h), (by decide +kernel : ∀ w ∈ wsX00, goodWord w = true) w h⟩
theorem uwX1 : ∀ w ∈ wsX10, w ∈ dk_tbl := fun w h => List.mem_filter.mpr ⟨List.mem_append_right _ ((by decide +kernel : ∀ w ∈ wsX10, w ∈ tables_1) w h), (by decide +kernel : ∀ w ∈ wsX10, goodWord w = true) w h⟩
theorem uwX2 : ∀ w ∈ wsX20, w ∈ dk_tbl := fun w h => List.mem_filter.mpr ⟨List.mem_append_right _ ((by decide +kernel : ∀ w ∈ wsX20, w ∈ tables_1) w h), (by decide +kernel : ∀ w ∈ wsX20, goodWord w = true) w h⟩
theorem uwX3 : ∀ w ∈ wsX30, w ∈ dk_tbl := fun w h => List.mem_filter.mpr ⟨List.mem_append_right _ ((by decide +kernel : ∀ w ∈ wsX30, w ∈ tables_1) w h), (by decide +kernel : ∀ w ∈ wsX30, goodWord w = true) w h⟩
theorem uwX4 : ∀ w ∈ wsX40, w ∈ dk_tbl := fun w h => List.mem_filter.mpr ⟨List.mem_append_right _ ((by decide +kernel : ∀ w ∈ wsX40, w ∈ tables_1) w h), (by decide +kernel : ∀ w ∈ wsX40, goodWord w = true) w h⟩
/-- a method's words: its class, its code, its number of parameters -/
def dk_mw (C : String) (y : MethodName) (cc : ByteArray) (nL : Nat) (ret : Option FieldType) (n : Nat) : Prop := (y.cls = C ∧ y.cls ≠ "java/lang/invoke/MethodHandle" ∧ y.cls ≠ "java/lang/invoke/VarHandle" ∧ (parseMethodDescriptor y.desc).map (fun d => d.parameters.length) = some n) ∧ plainName y.cls = true ∧ Cond.code y cc nL ret ∈ dk_tbl ∧ Cond.initialized C ∈ dk_tbl
def dk_mv (C : String) (y : MethodName) (cc : ByteArray) (nL : Nat) (ret : Option FieldType) (n : Nat) : Prop := dk_mw C y cc nL ret n ∧ Cond.instanceMethod y ∈ dk_tbl ∧ Cond.selects C y y ∈ dk_tbl
def dk_ms (C : String) (y : MethodName) (cc : ByteArray) (nL : Nat) (ret : Option FieldType) (n : Nat) : Prop := dk_mw C y cc nL ret n ∧ Cond.static y ∈ dk_tbl
def dk_mi (C : String) (y : MethodName) (cc : ByteArray) (nL : Nat) (ret : Option FieldType) (n : Nat) : Prop := dk_mw C y cc nL ret n ∧ Cond.instanceMethod y ∈ dk_tbl
