/-! ===== BEGIN printed: names, fields, word lists, decode rows ===== -/
def RX0 : String := "UndoCellar$Block"
def TX0 : u_T := fun k => match k with
  | _ => ("UndoCellar$Block", "slots", "[LUndoCellar$Slot;", true)
def tyX0 : Nat → FieldType := fun k => match k with
  | _ => .array (.object "UndoCellar$Slot")
abbrev wsX00 : List Cond := u_ws RX0 TX0 1
theorem nmX0 : ∀ a, a < 1 → ∀ b, b < 1 → a ≠ b → (TX0 a).2.1 ≠ (TX0 b).2.1 := by decide +kernel
theorem tyX0_ok : ∀ k, k < 1 → parseFieldDescriptor (TX0 k).2.2.1 = some (tyX0 k) := by decide +kernel
abbrev cX0_init : ByteArray := prog_2_method_1_code
def yX0_init : MethodName := ⟨RX0, "<init>", "()V"⟩
abbrev cX0_slotFor : ByteArray := prog_2_method_2_code
def yX0_slotFor : MethodName := ⟨RX0, "slotFor", "(LUndoCellar$Transaction;)LUndoCellar$Slot;"⟩
abbrev cX0_markEnded : ByteArray := prog_2_method_3_code
def yX0_markEnded : MethodName := ⟨RX0, "markEnded", "()I"⟩
def RX1 : String := "UndoCellar$Change"
def TX1 : u_T := fun k => match k with
  | 0 => ("UndoCellar$Change", "transaction", "LUndoCellar$Transaction;", true)
  | 1 => ("UndoCellar$Change", "row", "LUndoCellar$Row;", true)
  | 2 => ("UndoCellar$Change", "ahead", "I", true)
  | _ => ("UndoCellar$Change", "isVoid", "Z", false)
def tyX1 : Nat → FieldType := fun k => match k with
  | 0 => .object "UndoCellar$Transaction"
  | 1 => .object "UndoCellar$Row"
  | 2 => .int
  | _ => .boolean
abbrev wsX10 : List Cond := u_ws RX1 TX1 4
theorem nmX1 : ∀ a, a < 4 → ∀ b, b < 4 → a ≠ b → (TX1 a).2.1 ≠ (TX1 b).2.1 := by decide +kernel
theorem tyX1_ok : ∀ k, k < 4 → parseFieldDescriptor (TX1 k).2.2.1 = some (tyX1 k) := by decide +kernel
abbrev cX1_init : ByteArray := prog_3_method_1_code
def yX1_init : MethodName := ⟨RX1, "<init>", "(LUndoCellar$Transaction;LUndoCellar$Row;I)V"⟩
abbrev cX1_stands : ByteArray := prog_3_method_2_code
def yX1_stands : MethodName := ⟨RX1, "stands", "(LUndoCellar$Row;)Z"⟩
abbrev cX1_isSeen : ByteArray := prog_3_method_3_code
def yX1_isSeen : MethodName := ⟨RX1, "isSeen", "(ILUndoCellar$Transaction;)Z"⟩
abbrev cX1_make : ByteArray := prog_3_method_4_code
def yX1_make : MethodName := ⟨RX1, "make", "(I)V"⟩
abbrev cX1_takeBack : ByteArray := prog_3_method_5_code
def yX1_takeBack : MethodName := ⟨RX1, "takeBack", "()V"⟩
def RX2 : String := "UndoCellar$Row"
def TX2 : u_T := fun k => match k with
  | 0 => ("UndoCellar$Row", "block", "LUndoCellar$Block;", true)
  | _ => ("UndoCellar$Row", "value", "I", false)
def tyX2 : Nat → FieldType := fun k => match k with
  | 0 => .object "UndoCellar$Block"
  | _ => .int
abbrev wsX20 : List Cond := u_ws RX2 TX2 2
theorem nmX2 : ∀ a, a < 2 → ∀ b, b < 2 → a ≠ b → (TX2 a).2.1 ≠ (TX2 b).2.1 := by decide +kernel
theorem tyX2_ok : ∀ k, k < 2 → parseFieldDescriptor (TX2 k).2.2.1 = some (tyX2 k) := by decide +kernel
abbrev cX2_init : ByteArray := prog_4_method_1_code
def yX2_init : MethodName := ⟨RX2, "<init>", "(LUndoCellar$Block;)V"⟩
def RX3 : String := "UndoCellar$Slot"
def TX3 : u_T := fun k => match k with
  | 0 => ("UndoCellar$Slot", "holder", "LUndoCellar$Transaction;", false)
  | _ => ("UndoCellar$Slot", "marked", "Z", false)
def tyX3 : Nat → FieldType := fun k => match k with
  | 0 => .object "UndoCellar$Transaction"
  | _ => .boolean
abbrev wsX30 : List Cond := u_ws RX3 TX3 2
theorem nmX3 : ∀ a, a < 2 → ∀ b, b < 2 → a ≠ b → (TX3 a).2.1 ≠ (TX3 b).2.1 := by decide +kernel
theorem tyX3_ok : ∀ k, k < 2 → parseFieldDescriptor (TX3 k).2.2.1 = some (tyX3 k) := by decide +kernel
abbrev cX3_init : ByteArray := prog_5_method_1_code
def yX3_init : MethodName := ⟨RX3, "<init>", "()V"⟩
abbrev cX3_isEnded : ByteArray := prog_5_method_2_code
def yX3_isEnded : MethodName := ⟨RX3, "isEnded", "()Z"⟩
abbrev cX3_give : ByteArray := prog_5_method_3_code
def yX3_give : MethodName := ⟨RX3, "give", "(LUndoCellar$Transaction;)V"⟩
def RX4 : String := "UndoCellar$Transaction"
def TX4 : u_T := fun k => match k with
  | 0 => ("UndoCellar$Transaction", "number", "I", true)
  | 1 => ("UndoCellar$Transaction", "beganAt", "I", true)
  | 2 => ("UndoCellar$Transaction", "active", "Z", false)
  | 3 => ("UndoCellar$Transaction", "committedAt", "I", false)
  | _ => ("UndoCellar$Transaction", "standing", "I", false)
def tyX4 : Nat → FieldType := fun k => match k with
  | 0 => .int
  | 1 => .int
  | 2 => .boolean
  | 3 => .int
  | _ => .int
abbrev wsX40 : List Cond := u_ws RX4 TX4 5
theorem nmX4 : ∀ a, a < 5 → ∀ b, b < 5 → a ≠ b → (TX4 a).2.1 ≠ (TX4 b).2.1 := by decide +kernel
theorem tyX4_ok : ∀ k, k < 5 → parseFieldDescriptor (TX4 k).2.2.1 = some (tyX4 k) := by decide +kernel
abbrev cX4_init : ByteArray := prog_6_method_1_code
def yX4_init : MethodName := ⟨RX4, "<init>", "(II)V"⟩
abbrev cX4_isCommittedBy : ByteArray := prog_6_method_2_code
def yX4_isCommittedBy : MethodName := ⟨RX4, "isCommittedBy", "(I)Z"⟩
def RX5 : String := "UndoCellar"
def TX5 : u_T := fun k => match k with
  | 0 => ("UndoCellar", "blocks", "[LUndoCellar$Block;", true)
  | 1 => ("UndoCellar", "rows", "[LUndoCellar$Row;", true)
  | 2 => ("UndoCellar", "begun", "Ljava/util/ArrayList;", true)
  | 3 => ("UndoCellar", "changes", "Ljava/util/ArrayList;", true)
  | 4 => ("UndoCellar", "space", "I", false)
  | 5 => ("UndoCellar", "momentOfNow", "I", false)
  | 6 => ("UndoCellar", "markedSoFar", "I", false)
  | _ => ("UndoCellar", "droppedSoFar", "I", false)
def tyX5 : Nat → FieldType := fun k => match k with
  | 0 => .array (.object "UndoCellar$Block")
  | 1 => .array (.object "UndoCellar$Row")
  | 2 => .object "java/util/ArrayList"
  | 3 => .object "java/util/ArrayList"
  | 4 => .int
  | 5 => .int
  | 6 => .int
  | _ => .int
abbrev wsX50 : List Cond := u_ws RX5 TX5 8
theorem nmX5 : ∀ a, a < 8 → ∀ b, b < 8 → a ≠ b → (TX5 a).2.1 ≠ (TX5 b).2.1 := by decide +kernel
theorem tyX5_ok : ∀ k, k < 8 → parseFieldDescriptor (TX5 k).2.2.1 = some (tyX5 k) := by decide +kernel
abbrev cX5_init : ByteArray := prog_1_method_1_code
def yX5_init : MethodName := ⟨RX5, "<init>", "()V"⟩
abbrev cX5_setSpace : ByteArray := prog_1_method_2_code
def yX5_setSpace : MethodName := ⟨RX5, "setSpace", "(I)I"⟩
abbrev cX5_begin : ByteArray := prog_1_method_3_code
def yX5_begin : MethodName := ⟨RX5, "begin", "()I"⟩
abbrev cX5_write : ByteArray := prog_1_method_4_code
def yX5_write : MethodName := ⟨RX5, "write", "(III)I"⟩
abbrev cX5_read : ByteArray := prog_1_method_5_code
def yX5_read : MethodName := ⟨RX5, "read", "(II)I"⟩
abbrev cX5_readAt : ByteArray := prog_1_method_6_code
def yX5_readAt : MethodName := ⟨RX5, "readAt", "(II)I"⟩
abbrev cX5_save : ByteArray := prog_1_method_7_code
def yX5_save : MethodName := ⟨RX5, "save", "(I)I"⟩
abbrev cX5_undoTo : ByteArray := prog_1_method_8_code
def yX5_undoTo : MethodName := ⟨RX5, "undoTo", "(II)I"⟩
abbrev cX5_undo : ByteArray := prog_1_method_9_code
def yX5_undo : MethodName := ⟨RX5, "undo", "(I)I"⟩
abbrev cX5_commit : ByteArray := prog_1_method_10_code
def yX5_commit : MethodName := ⟨RX5, "commit", "(I)I"⟩
abbrev cX5_moment : ByteArray := prog_1_method_11_code
def yX5_moment : MethodName := ⟨RX5, "moment", "()I"⟩
abbrev cX5_transactions : ByteArray := prog_1_method_12_code
def yX5_transactions : MethodName := ⟨RX5, "transactions", "()I"⟩
abbrev cX5_now : ByteArray := prog_1_method_13_code
def yX5_now : MethodName := ⟨RX5, "now", "(I)I"⟩
abbrev cX5_versionAt : ByteArray := prog_1_method_14_code
def yX5_versionAt : MethodName := ⟨RX5, "versionAt", "(II)I"⟩
abbrev cX5_lockOf : ByteArray := prog_1_method_15_code
def yX5_lockOf : MethodName := ⟨RX5, "lockOf", "(I)I"⟩
abbrev cX5_slotOf : ByteArray := prog_1_method_16_code
def yX5_slotOf : MethodName := ⟨RX5, "slotOf", "(II)I"⟩
abbrev cX5_isMarked : ByteArray := prog_1_method_17_code
def yX5_isMarked : MethodName := ⟨RX5, "isMarked", "(II)Z"⟩
abbrev cX5_marked : ByteArray := prog_1_method_18_code
def yX5_marked : MethodName := ⟨RX5, "marked", "()I"⟩
abbrev cX5_records : ByteArray := prog_1_method_19_code
def yX5_records : MethodName := ⟨RX5, "records", "()I"⟩
abbrev cX5_dropped : ByteArray := prog_1_method_20_code
def yX5_dropped : MethodName := ⟨RX5, "dropped", "()I"⟩
abbrev cX5_transactionNumbered : ByteArray := prog_1_method_21_code
def yX5_transactionNumbered : MethodName := ⟨RX5, "transactionNumbered", "(I)LUndoCellar$Transaction;"⟩
abbrev cX5_rowNumbered : ByteArray := prog_1_method_22_code
def yX5_rowNumbered : MethodName := ⟨RX5, "rowNumbered", "(I)LUndoCellar$Row;"⟩
abbrev cX5_slotNumbered : ByteArray := prog_1_method_23_code
def yX5_slotNumbered : MethodName := ⟨RX5, "slotNumbered", "(II)LUndoCellar$Slot;"⟩
abbrev cX5_refuseIfEnded : ByteArray := prog_1_method_24_code
def yX5_refuseIfEnded : MethodName := ⟨RX5, "refuseIfEnded", "(LUndoCellar$Transaction;)V"⟩
abbrev cX5_refuseIfNotYet : ByteArray := prog_1_method_25_code
def yX5_refuseIfNotYet : MethodName := ⟨RX5, "refuseIfNotYet", "(I)V"⟩
abbrev cX5_refuseIfLockedByAnother : ByteArray := prog_1_method_26_code
def yX5_refuseIfLockedByAnother : MethodName := ⟨RX5, "refuseIfLockedByAnother", "(LUndoCellar$Row;LUndoCellar$Transaction;)V"⟩
abbrev cX5_refuseIfNoSpace : ByteArray := prog_1_method_27_code
def yX5_refuseIfNoSpace : MethodName := ⟨RX5, "refuseIfNoSpace", "()V"⟩
abbrev cX5_recordsThere : ByteArray := prog_1_method_28_code
def yX5_recordsThere : MethodName := ⟨RX5, "recordsThere", "()I"⟩
abbrev cX5_isSpaceFull : ByteArray := prog_1_method_29_code
def yX5_isSpaceFull : MethodName := ⟨RX5, "isSpaceFull", "()Z"⟩
abbrev cX5_undoDownTo : ByteArray := prog_1_method_30_code
def yX5_undoDownTo : MethodName := ⟨RX5, "undoDownTo", "(LUndoCellar$Transaction;I)I"⟩
abbrev cX5_lockerOf : ByteArray := prog_1_method_31_code
def yX5_lockerOf : MethodName := ⟨RX5, "lockerOf", "(LUndoCellar$Row;)LUndoCellar$Transaction;"⟩
abbrev cX5_readFromRecords : ByteArray := prog_1_method_32_code
def yX5_readFromRecords : MethodName := ⟨RX5, "readFromRecords", "(LUndoCellar$Row;ILUndoCellar$Transaction;)I"⟩
abbrev cX5_oldestUnseen : ByteArray := prog_1_method_33_code
def yX5_oldestUnseen : MethodName := ⟨RX5, "oldestUnseen", "(LUndoCellar$Row;ILUndoCellar$Transaction;)I"⟩
abbrev cX5_valueAheadOf : ByteArray := prog_1_method_34_code
def yX5_valueAheadOf : MethodName := ⟨RX5, "valueAheadOf", "(ILUndoCellar$Row;)I"⟩
abbrev cX5_clean : ByteArray := prog_1_method_35_code
def yX5_clean : MethodName := ⟨RX5, "clean", "(LUndoCellar$Block;)V"⟩
def RX6 : String := "UndoCellarModel"
def TX6 : u_T := fun k => match k with
  | 0 => ("UndoCellarModel", "value", "[I", true)
  | 1 => ("UndoCellarModel", "size", "I", false)
  | 2 => ("UndoCellarModel", "moment", "I", false)
  | 3 => ("UndoCellarModel", "transactions", "I", false)
  | 4 => ("UndoCellarModel", "state", "[I", true)
  | 5 => ("UndoCellarModel", "asOf", "[I", true)
  | 6 => ("UndoCellarModel", "committedAt", "[I", true)
  | 7 => ("UndoCellarModel", "changes", "I", false)
  | 8 => ("UndoCellarModel", "by", "[I", true)
  | 9 => ("UndoCellarModel", "row", "[I", true)
  | 10 => ("UndoCellarModel", "ahead", "[I", true)
  | 11 => ("UndoCellarModel", "isVoid", "[Z", true)
  | 12 => ("UndoCellarModel", "dropped", "I", false)
  | 13 => ("UndoCellarModel", "slot", "[I", true)
  | 14 => ("UndoCellarModel", "isEnded", "[Z", true)
  | 15 => ("UndoCellarModel", "marks", "I", false)
  | 16 => ("UndoCellarModel", "isLate", "Z", false)
  | _ => ("UndoCellarModel", "thrown", "I", false)
def tyX6 : Nat → FieldType := fun k => match k with
  | 0 => .array .int
  | 1 => .int
  | 2 => .int
  | 3 => .int
  | 4 => .array .int
  | 5 => .array .int
  | 6 => .array .int
  | 7 => .int
  | 8 => .array .int
  | 9 => .array .int
  | 10 => .array .int
  | 11 => .array .boolean
  | 12 => .int
  | 13 => .array .int
  | 14 => .array .boolean
  | 15 => .int
  | 16 => .boolean
  | _ => .int
abbrev wsX60 : List Cond := u_ws RX6 TX6 18
theorem nmX6 : ∀ a, a < 18 → ∀ b, b < 18 → a ≠ b → (TX6 a).2.1 ≠ (TX6 b).2.1 := by decide +kernel
theorem tyX6_ok : ∀ k, k < 18 → parseFieldDescriptor (TX6 k).2.2.1 = some (tyX6 k) := by decide +kernel
abbrev cX6_init : ByteArray := prog_8_method_1_code
def yX6_init : MethodName := ⟨RX6, "<init>", "()V"⟩
abbrev cX6_thrown : ByteArray := prog_8_method_2_code
def yX6_thrown : MethodName := ⟨RX6, "thrown", "()I"⟩
abbrev cX6_can : ByteArray := prog_8_method_3_code
def yX6_can : MethodName := ⟨RX6, "can", "(I)Z"⟩
abbrev cX6_isIn : ByteArray := prog_8_method_4_code
def yX6_isIn : MethodName := ⟨RX6, "isIn", "(III)Z"⟩
abbrev cX6_isRow : ByteArray := prog_8_method_5_code
def yX6_isRow : MethodName := ⟨RX6, "isRow", "(I)Z"⟩
abbrev cX6_isTransaction : ByteArray := prog_8_method_6_code
def yX6_isTransaction : MethodName := ⟨RX6, "isTransaction", "(I)Z"⟩
abbrev cX6_isActive : ByteArray := prog_8_method_7_code
def yX6_isActive : MethodName := ⟨RX6, "isActive", "(I)Z"⟩
abbrev cX6_setSpace : ByteArray := prog_8_method_8_code
def yX6_setSpace : MethodName := ⟨RX6, "setSpace", "(I)I"⟩
abbrev cX6_begin : ByteArray := prog_8_method_9_code
def yX6_begin : MethodName := ⟨RX6, "begin", "()I"⟩
abbrev cX6_lockOn : ByteArray := prog_8_method_10_code
def yX6_lockOn : MethodName := ⟨RX6, "lockOn", "(I)I"⟩
abbrev cX6_cleans : ByteArray := prog_8_method_11_code
def yX6_cleans : MethodName := ⟨RX6, "cleans", "(I)V"⟩
abbrev cX6_slotFor : ByteArray := prog_8_method_12_code
def yX6_slotFor : MethodName := ⟨RX6, "slotFor", "(II)I"⟩
abbrev cX6_hasSpace : ByteArray := prog_8_method_13_code
def yX6_hasSpace : MethodName := ⟨RX6, "hasSpace", "()Z"⟩
abbrev cX6_write : ByteArray := prog_8_method_14_code
def yX6_write : MethodName := ⟨RX6, "write", "(III)I"⟩
abbrev cX6_valueAt : ByteArray := prog_8_method_15_code
def yX6_valueAt : MethodName := ⟨RX6, "valueAt", "(III)I"⟩
abbrev cX6_read : ByteArray := prog_8_method_16_code
def yX6_read : MethodName := ⟨RX6, "read", "(II)I"⟩
abbrev cX6_readAt : ByteArray := prog_8_method_17_code
def yX6_readAt : MethodName := ⟨RX6, "readAt", "(II)I"⟩
abbrev cX6_standing : ByteArray := prog_8_method_18_code
def yX6_standing : MethodName := ⟨RX6, "standing", "(I)I"⟩
abbrev cX6_isOpen : ByteArray := prog_8_method_19_code
def yX6_isOpen : MethodName := ⟨RX6, "isOpen", "(I)Z"⟩
abbrev cX6_save : ByteArray := prog_8_method_20_code
def yX6_save : MethodName := ⟨RX6, "save", "(I)I"⟩
abbrev cX6_undoes : ByteArray := prog_8_method_21_code
def yX6_undoes : MethodName := ⟨RX6, "undoes", "(II)V"⟩
abbrev cX6_undoTo : ByteArray := prog_8_method_22_code
def yX6_undoTo : MethodName := ⟨RX6, "undoTo", "(II)I"⟩
abbrev cX6_undo : ByteArray := prog_8_method_23_code
def yX6_undo : MethodName := ⟨RX6, "undo", "(I)I"⟩
abbrev cX6_commit : ByteArray := prog_8_method_24_code
def yX6_commit : MethodName := ⟨RX6, "commit", "(I)I"⟩
abbrev cX6_moment : ByteArray := prog_8_method_25_code
def yX6_moment : MethodName := ⟨RX6, "moment", "()I"⟩
abbrev cX6_transactions : ByteArray := prog_8_method_26_code
def yX6_transactions : MethodName := ⟨RX6, "transactions", "()I"⟩
abbrev cX6_now : ByteArray := prog_8_method_27_code
def yX6_now : MethodName := ⟨RX6, "now", "(I)I"⟩
abbrev cX6_versionAt : ByteArray := prog_8_method_28_code
def yX6_versionAt : MethodName := ⟨RX6, "versionAt", "(II)I"⟩
abbrev cX6_lockOf : ByteArray := prog_8_method_29_code
def yX6_lockOf : MethodName := ⟨RX6, "lockOf", "(I)I"⟩
abbrev cX6_isSlot : ByteArray := prog_8_method_30_code
def yX6_isSlot : MethodName := ⟨RX6, "isSlot", "(II)Z"⟩
abbrev cX6_slotOf : ByteArray := prog_8_method_31_code
def yX6_slotOf : MethodName := ⟨RX6, "slotOf", "(II)I"⟩
abbrev cX6_isMarked : ByteArray := prog_8_method_32_code
def yX6_isMarked : MethodName := ⟨RX6, "isMarked", "(II)Z"⟩
abbrev cX6_marked : ByteArray := prog_8_method_33_code
def yX6_marked : MethodName := ⟨RX6, "marked", "()I"⟩
abbrev cX6_records : ByteArray := prog_8_method_34_code
def yX6_records : MethodName := ⟨RX6, "records", "()I"⟩
abbrev cX6_dropped : ByteArray := prog_8_method_35_code
def yX6_dropped : MethodName := ⟨RX6, "dropped", "()I"⟩
def RJx145de : String := "java/io/Serializable"
def TJx145de : u_T := fun k => match k with
  | _ => ("", "", "", false)
def tyJx145de : Nat → FieldType := fun k => match k with
  | _ => .int
abbrev wsJx145de0 : List Cond := u_ws RJx145de TJx145de 0
theorem nmJx145de : ∀ a, a < 0 → ∀ b, b < 0 → a ≠ b → (TJx145de a).2.1 ≠ (TJx145de b).2.1 := by decide +kernel
theorem tyJx145de_ok : ∀ k, k < 0 → parseFieldDescriptor (TJx145de k).2.2.1 = some (tyJx145de k) := by decide +kernel
def RJx8e188 : String := "java/lang/Cloneable"
def TJx8e188 : u_T := fun k => match k with
  | _ => ("", "", "", false)
def tyJx8e188 : Nat → FieldType := fun k => match k with
  | _ => .int
abbrev wsJx8e1880 : List Cond := u_ws RJx8e188 TJx8e188 0
theorem nmJx8e188 : ∀ a, a < 0 → ∀ b, b < 0 → a ≠ b → (TJx8e188 a).2.1 ≠ (TJx8e188 b).2.1 := by decide +kernel
theorem tyJx8e188_ok : ∀ k, k < 0 → parseFieldDescriptor (TJx8e188 k).2.2.1 = some (tyJx8e188 k) := by decide +kernel
def RJxab1ab : String := "java/lang/Iterable"
def TJxab1ab : u_T := fun k => match k with
  | _ => ("", "", "", false)
def tyJxab1ab : Nat → FieldType := fun k => match k with
  | _ => .int
abbrev wsJxab1ab0 : List Cond := u_ws RJxab1ab TJxab1ab 0
theorem nmJxab1ab : ∀ a, a < 0 → ∀ b, b < 0 → a ≠ b → (TJxab1ab a).2.1 ≠ (TJxab1ab b).2.1 := by decide +kernel
theorem tyJxab1ab_ok : ∀ k, k < 0 → parseFieldDescriptor (TJxab1ab k).2.2.1 = some (tyJxab1ab k) := by decide +kernel
def RJ9 : String := "java/lang/Math"
def TJ9 : u_T := fun k => match k with
  | _ => ("", "", "", false)
def tyJ9 : Nat → FieldType := fun k => match k with
  | _ => .int
abbrev wsJ90 : List Cond := u_ws RJ9 TJ9 0
theorem nmJ9 : ∀ a, a < 0 → ∀ b, b < 0 → a ≠ b → (TJ9 a).2.1 ≠ (TJ9 b).2.1 := by decide +kernel
theorem tyJ9_ok : ∀ k, k < 0 → parseFieldDescriptor (TJ9 k).2.2.1 = some (tyJ9 k) := by decide +kernel
abbrev cJ9_max_7cf53 : ByteArray := prog_16_method_65_code
def yJ9_max_7cf53 : MethodName := ⟨RJ9, "max", "(II)I"⟩
abbrev cJ9_min_7cf53 : ByteArray := prog_16_method_69_code
def yJ9_min_7cf53 : MethodName := ⟨RJ9, "min", "(II)I"⟩
def RJ0 : String := "java/lang/String"
def TJ0 : u_T := fun k => match k with
  | _ => ("", "", "", false)
def tyJ0 : Nat → FieldType := fun k => match k with
  | _ => .int
abbrev wsJ00 : List Cond := u_ws RJ0 TJ0 0
theorem nmJ0 : ∀ a, a < 0 → ∀ b, b < 0 → a ≠ b → (TJ0 a).2.1 ≠ (TJ0 b).2.1 := by decide +kernel
theorem tyJ0_ok : ∀ k, k < 0 → parseFieldDescriptor (TJ0 k).2.2.1 = some (tyJ0 k) := by decide +kernel
def RJ10 : String := "java/lang/System"
def TJ10 : u_T := fun k => match k with
  | _ => ("", "", "", false)
def tyJ10 : Nat → FieldType := fun k => match k with
  | _ => .int
abbrev wsJ100 : List Cond := u_ws RJ10 TJ10 0
theorem nmJ10 : ∀ a, a < 0 → ∀ b, b < 0 → a ≠ b → (TJ10 a).2.1 ≠ (TJ10 b).2.1 := by decide +kernel
theorem tyJ10_ok : ∀ k, k < 0 → parseFieldDescriptor (TJ10 k).2.2.1 = some (tyJ10 k) := by decide +kernel
def RJxa1e45 : String := "java/util/AbstractCollection"
def TJxa1e45 : u_T := fun k => match k with
  | _ => ("", "", "", false)
def tyJxa1e45 : Nat → FieldType := fun k => match k with
  | _ => .int
abbrev wsJxa1e450 : List Cond := u_ws RJxa1e45 TJxa1e45 0
theorem nmJxa1e45 : ∀ a, a < 0 → ∀ b, b < 0 → a ≠ b → (TJxa1e45 a).2.1 ≠ (TJxa1e45 b).2.1 := by decide +kernel
theorem tyJxa1e45_ok : ∀ k, k < 0 → parseFieldDescriptor (TJxa1e45 k).2.2.1 = some (tyJxa1e45 k) := by decide +kernel
abbrev cJxa1e45_init_da8c8 : ByteArray := prog_21_method_1_code
def yJxa1e45_init_da8c8 : MethodName := ⟨RJxa1e45, "<init>", "()V"⟩
def RJxc12de : String := "java/util/AbstractList"
def TJxc12de : u_T := fun k => match k with
  | _ => ("", "", "", false)
def tyJxc12de : Nat → FieldType := fun k => match k with
  | _ => .int
abbrev wsJxc12de0 : List Cond := u_ws RJxc12de TJxc12de 0
theorem nmJxc12de : ∀ a, a < 0 → ∀ b, b < 0 → a ≠ b → (TJxc12de a).2.1 ≠ (TJxc12de b).2.1 := by decide +kernel
theorem tyJxc12de_ok : ∀ k, k < 0 → parseFieldDescriptor (TJxc12de k).2.2.1 = some (tyJxc12de k) := by decide +kernel
abbrev cJxc12de_init_da8c8 : ByteArray := prog_22_method_1_code
def yJxc12de_init_da8c8 : MethodName := ⟨RJxc12de, "<init>", "()V"⟩
def RJx4a65c : String := "java/util/ArrayList"
def TJx4a65c : u_T := fun k => match k with
  | 0 => ("java/util/AbstractList", "modCount", "I", false)
  | 1 => ("java/util/ArrayList", "elementData", "[Ljava/lang/Object;", false)
  | _ => ("java/util/ArrayList", "size", "I", false)
def tyJx4a65c : Nat → FieldType := fun k => match k with
  | 0 => .int
  | 1 => .array (.object "java/lang/Object")
  | _ => .int
abbrev wsJx4a65c0 : List Cond := u_ws RJx4a65c TJx4a65c 3
theorem nmJx4a65c : ∀ a, a < 3 → ∀ b, b < 3 → a ≠ b → (TJx4a65c a).2.1 ≠ (TJx4a65c b).2.1 := by decide +kernel
theorem tyJx4a65c_ok : ∀ k, k < 3 → parseFieldDescriptor (TJx4a65c k).2.2.1 = some (tyJx4a65c k) := by decide +kernel
abbrev cJx4a65c_init_da8c8 : ByteArray := prog_23_method_2_code
def yJx4a65c_init_da8c8 : MethodName := ⟨RJx4a65c, "<init>", "()V"⟩
abbrev cJx4a65c_grow_92f84 : ByteArray := prog_23_method_6_code
def yJx4a65c_grow_92f84 : MethodName := ⟨RJx4a65c, "grow", "(I)[Ljava/lang/Object;"⟩
abbrev cJx4a65c_grow_d5877 : ByteArray := prog_23_method_7_code
def yJx4a65c_grow_d5877 : MethodName := ⟨RJx4a65c, "grow", "()[Ljava/lang/Object;"⟩
abbrev cJx4a65c_size_8abf5 : ByteArray := prog_23_method_8_code
def yJx4a65c_size_8abf5 : MethodName := ⟨RJx4a65c, "size", "()I"⟩
abbrev cJx4a65c_elementData_915e3 : ByteArray := prog_23_method_18_code
def yJx4a65c_elementData_915e3 : MethodName := ⟨RJx4a65c, "elementData", "(I)Ljava/lang/Object;"⟩
abbrev cJx4a65c_get_915e3 : ByteArray := prog_23_method_20_code
def yJx4a65c_get_915e3 : MethodName := ⟨RJx4a65c, "get", "(I)Ljava/lang/Object;"⟩
abbrev cJx4a65c_add_72be8 : ByteArray := prog_23_method_24_code
def yJx4a65c_add_72be8 : MethodName := ⟨RJx4a65c, "add", "(Ljava/lang/Object;[Ljava/lang/Object;I)V"⟩
abbrev cJx4a65c_add_9ea2d : ByteArray := prog_23_method_25_code
def yJx4a65c_add_9ea2d : MethodName := ⟨RJx4a65c, "add", "(Ljava/lang/Object;)Z"⟩
def RJ7 : String := "java/util/Arrays"
def TJ7 : u_T := fun k => match k with
  | _ => ("", "", "", false)
def tyJ7 : Nat → FieldType := fun k => match k with
  | _ => .int
abbrev wsJ70 : List Cond := u_ws RJ7 TJ7 0
theorem nmJ7 : ∀ a, a < 0 → ∀ b, b < 0 → a ≠ b → (TJ7 a).2.1 ≠ (TJ7 b).2.1 := by decide +kernel
theorem tyJ7_ok : ∀ k, k < 0 → parseFieldDescriptor (TJ7 k).2.2.1 = some (tyJ7 k) := by decide +kernel
abbrev cJ7_copyOf_1904c : ByteArray := prog_24_method_119_code
def yJ7_copyOf_1904c : MethodName := ⟨RJ7, "copyOf", "([Ljava/lang/Object;I)[Ljava/lang/Object;"⟩
abbrev cJ7_copyOf_6403c : ByteArray := prog_24_method_120_code
def yJ7_copyOf_6403c : MethodName := ⟨RJ7, "copyOf", "([Ljava/lang/Object;ILjava/lang/Class;)[Ljava/lang/Object;"⟩
def RJx5ef63 : String := "java/util/Collection"
def TJx5ef63 : u_T := fun k => match k with
  | _ => ("", "", "", false)
def tyJx5ef63 : Nat → FieldType := fun k => match k with
  | _ => .int
abbrev wsJx5ef630 : List Cond := u_ws RJx5ef63 TJx5ef63 0
theorem nmJx5ef63 : ∀ a, a < 0 → ∀ b, b < 0 → a ≠ b → (TJx5ef63 a).2.1 ≠ (TJx5ef63 b).2.1 := by decide +kernel
theorem tyJx5ef63_ok : ∀ k, k < 0 → parseFieldDescriptor (TJx5ef63 k).2.2.1 = some (tyJx5ef63 k) := by decide +kernel
def RJxbd725 : String := "java/util/List"
def TJxbd725 : u_T := fun k => match k with
  | _ => ("", "", "", false)
def tyJxbd725 : Nat → FieldType := fun k => match k with
  | _ => .int
abbrev wsJxbd7250 : List Cond := u_ws RJxbd725 TJxbd725 0
theorem nmJxbd725 : ∀ a, a < 0 → ∀ b, b < 0 → a ≠ b → (TJxbd725 a).2.1 ≠ (TJxbd725 b).2.1 := by decide +kernel
theorem tyJxbd725_ok : ∀ k, k < 0 → parseFieldDescriptor (TJxbd725 k).2.2.1 = some (tyJxbd725 k) := by decide +kernel
def RJ15 : String := "java/util/Objects"
def TJ15 : u_T := fun k => match k with
  | _ => ("", "", "", false)
def tyJ15 : Nat → FieldType := fun k => match k with
  | _ => .int
abbrev wsJ150 : List Cond := u_ws RJ15 TJ15 0
theorem nmJ15 : ∀ a, a < 0 → ∀ b, b < 0 → a ≠ b → (TJ15 a).2.1 ≠ (TJ15 b).2.1 := by decide +kernel
theorem tyJ15_ok : ∀ k, k < 0 → parseFieldDescriptor (TJ15 k).2.2.1 = some (tyJ15 k) := by decide +kernel
abbrev cJ15_checkIndex_7cf53 : ByteArray := prog_28_method_17_code
def yJ15_checkIndex_7cf53 : MethodName := ⟨RJ15, "checkIndex", "(II)I"⟩
def RJxf0a74 : String := "java/util/RandomAccess"
def TJxf0a74 : u_T := fun k => match k with
  | _ => ("", "", "", false)
def tyJxf0a74 : Nat → FieldType := fun k => match k with
  | _ => .int
abbrev wsJxf0a740 : List Cond := u_ws RJxf0a74 TJxf0a74 0
theorem nmJxf0a74 : ∀ a, a < 0 → ∀ b, b < 0 → a ≠ b → (TJxf0a74 a).2.1 ≠ (TJxf0a74 b).2.1 := by decide +kernel
theorem tyJxf0a74_ok : ∀ k, k < 0 → parseFieldDescriptor (TJxf0a74 k).2.2.1 = some (tyJxf0a74 k) := by decide +kernel
def RJxa66e6 : String := "java/util/SequencedCollection"
def TJxa66e6 : u_T := fun k => match k with
  | _ => ("", "", "", false)
def tyJxa66e6 : Nat → FieldType := fun k => match k with
  | _ => .int
abbrev wsJxa66e60 : List Cond := u_ws RJxa66e6 TJxa66e6 0
theorem nmJxa66e6 : ∀ a, a < 0 → ∀ b, b < 0 → a ≠ b → (TJxa66e6 a).2.1 ≠ (TJxa66e6 b).2.1 := by decide +kernel
theorem tyJxa66e6_ok : ∀ k, k < 0 → parseFieldDescriptor (TJxa66e6 k).2.2.1 = some (tyJxa66e6 k) := by decide +kernel
def RJ8 : String := "jdk/internal/util/ArraysSupport"
def TJ8 : u_T := fun k => match k with
  | _ => ("", "", "", false)
def tyJ8 : Nat → FieldType := fun k => match k with
  | _ => .int
abbrev wsJ80 : List Cond := u_ws RJ8 TJ8 0
theorem nmJ8 : ∀ a, a < 0 → ∀ b, b < 0 → a ≠ b → (TJ8 a).2.1 ≠ (TJ8 b).2.1 := by decide +kernel
theorem tyJ8_ok : ∀ k, k < 0 → parseFieldDescriptor (TJ8 k).2.2.1 = some (tyJ8 k) := by decide +kernel
abbrev cJ8_newLength_cabcc : ByteArray := prog_31_method_27_code
def yJ8_newLength_cabcc : MethodName := ⟨RJ8, "newLength", "(III)I"⟩
abbrev cJ8_hugeLength_7cf53 : ByteArray := prog_31_method_28_code
def yJ8_hugeLength_7cf53 : MethodName := ⟨RJ8, "hugeLength", "(II)I"⟩
def RJ3 : String := "jdk/internal/util/Preconditions"
def TJ3 : u_T := fun k => match k with
  | _ => ("", "", "", false)
def tyJ3 : Nat → FieldType := fun k => match k with
  | _ => .int
abbrev wsJ30 : List Cond := u_ws RJ3 TJ3 0
theorem nmJ3 : ∀ a, a < 0 → ∀ b, b < 0 → a ≠ b → (TJ3 a).2.1 ≠ (TJ3 b).2.1 := by decide +kernel
theorem tyJ3_ok : ∀ k, k < 0 → parseFieldDescriptor (TJ3 k).2.2.1 = some (tyJ3 k) := by decide +kernel
abbrev cJ3_checkIndex_8e157 : ByteArray := prog_32_method_11_code
def yJ3_checkIndex_8e157 : MethodName := ⟨RJ3, "checkIndex", "(IILjava/util/function/BiFunction;)I"⟩
def RL : String := "UndoCellarLaw"
abbrev cL_setSpace : ByteArray := method_3_code
def yL_setSpace : MethodName := ⟨RL, "setSpace", "(LUndoCellar;I[J)I"⟩
abbrev cL_begin : ByteArray := method_4_code
def yL_begin : MethodName := ⟨RL, "begin", "(LUndoCellar;[J)I"⟩
abbrev cL_write : ByteArray := method_5_code
def yL_write : MethodName := ⟨RL, "write", "(LUndoCellar;III[J)I"⟩
abbrev cL_read : ByteArray := method_6_code
def yL_read : MethodName := ⟨RL, "read", "(LUndoCellar;II[J)I"⟩
abbrev cL_readAt : ByteArray := method_7_code
def yL_readAt : MethodName := ⟨RL, "readAt", "(LUndoCellar;II[J)I"⟩
abbrev cL_save : ByteArray := method_8_code
def yL_save : MethodName := ⟨RL, "save", "(LUndoCellar;I[J)I"⟩
abbrev cL_undoTo : ByteArray := method_9_code
def yL_undoTo : MethodName := ⟨RL, "undoTo", "(LUndoCellar;II[J)I"⟩
abbrev cL_undo : ByteArray := method_10_code
def yL_undo : MethodName := ⟨RL, "undo", "(LUndoCellar;I[J)I"⟩
abbrev cL_commit : ByteArray := method_11_code
def yL_commit : MethodName := ⟨RL, "commit", "(LUndoCellar;I[J)I"⟩
abbrev cL_now : ByteArray := method_12_code
def yL_now : MethodName := ⟨RL, "now", "(LUndoCellar;I[J)I"⟩
abbrev cL_versionAt : ByteArray := method_13_code
def yL_versionAt : MethodName := ⟨RL, "versionAt", "(LUndoCellar;II[J)I"⟩
abbrev cL_lockOf : ByteArray := method_14_code
def yL_lockOf : MethodName := ⟨RL, "lockOf", "(LUndoCellar;I[J)I"⟩
abbrev cL_slotOf : ByteArray := method_15_code
def yL_slotOf : MethodName := ⟨RL, "slotOf", "(LUndoCellar;II[J)I"⟩
abbrev cL_isMarked : ByteArray := method_16_code
def yL_isMarked : MethodName := ⟨RL, "isMarked", "(LUndoCellar;II[J)I"⟩
abbrev cL_law : ByteArray := code
def yL_law : MethodName := ⟨RL, "law", "([I)Z"⟩
def wsX3_init : List Cond := .code yX3_init cX3_init 1 none :: ([.methodLink RX3 1 objectInit, .instanceMethod objectInit, .code objectInit ⟨#[0xb1]⟩ 1 none, .fieldLink RX3 7 "UndoCellar$Slot" "holder" "LUndoCellar$Transaction;", .fieldLink RX3 13 "UndoCellar$Slot" "marked" "Z"] ++ wsX30)
def wsX0_init : List Cond := .code yX0_init cX0_init 2 none :: ([.methodLink RX0 3 objectInit, .instanceMethod objectInit, .code objectInit ⟨#[0xb1]⟩ 1 none, .classLink RX0 9 RX3, .fieldLink RX0 11 "UndoCellar$Block" "slots" "[LUndoCellar$Slot;", .instantiable RX3 2, .initialized RX3, .instanceMethod yX3_init, .code yX3_init cX3_init 1 none, .methodLink RX3 1 objectInit, .fieldLink RX3 7 "UndoCellar$Slot" "holder" "LUndoCellar$Transaction;", .fieldLink RX3 13 "UndoCellar$Slot" "marked" "Z"] ++ wsX00 ++ wsX30)
def wsX3_isEnded : List Cond := .code yX3_isEnded cX3_isEnded 1 (some .boolean) :: ([.fieldLink RX3 7 "UndoCellar$Slot" "holder" "LUndoCellar$Transaction;"] ++ wsX30 ++ wsX40)
def wsX0_slotFor : List Cond := .code yX0_slotFor cX0_slotFor 6 (some (.object "UndoCellar$Slot")) :: ([.fieldLink RX0 11 "UndoCellar$Block" "slots" "[LUndoCellar$Slot;", .instanceMethod yX3_isEnded, .initialized RX3, .selects RX3 yX3_isEnded yX3_isEnded, .code yX3_isEnded cX3_isEnded 1 (some .boolean), .fieldLink RX3 7 "UndoCellar$Slot" "holder" "LUndoCellar$Transaction;"] ++ wsX00 ++ wsX30 ++ wsX40)
def wsX0_markEnded : List Cond := .code yX0_markEnded cX0_markEnded 6 (some .int) :: ([.fieldLink RX0 11 "UndoCellar$Block" "slots" "[LUndoCellar$Slot;", .instanceMethod yX3_isEnded, .initialized RX3, .selects RX3 yX3_isEnded yX3_isEnded, .code yX3_isEnded cX3_isEnded 1 (some .boolean), .fieldLink RX3 7 "UndoCellar$Slot" "holder" "LUndoCellar$Transaction;"] ++ wsX00 ++ wsX30 ++ wsX40)
def wsX1_init : List Cond := .code yX1_init cX1_init 4 none :: ([.methodLink RX1 1 objectInit, .instanceMethod objectInit, .code objectInit ⟨#[0xb1]⟩ 1 none, .fieldLink RX1 7 "UndoCellar$Change" "isVoid" "Z", .fieldLink RX1 13 "UndoCellar$Change" "transaction" "LUndoCellar$Transaction;", .fieldLink RX1 17 "UndoCellar$Change" "row" "LUndoCellar$Row;", .fieldLink RX1 21 "UndoCellar$Change" "ahead" "I"] ++ wsX10)
def wsX1_stands : List Cond := .code yX1_stands cX1_stands 2 (some .boolean) :: ([.fieldLink RX1 17 "UndoCellar$Change" "row" "LUndoCellar$Row;", .fieldLink RX1 7 "UndoCellar$Change" "isVoid" "Z"] ++ wsX10)
def wsX4_isCommittedBy : List Cond := .code yX4_isCommittedBy cX4_isCommittedBy 2 (some .boolean) :: ([.fieldLink RX4 15 "UndoCellar$Transaction" "committedAt" "I"] ++ wsX40)
def wsX1_isSeen : List Cond := .code yX1_isSeen cX1_isSeen 3 (some .boolean) :: ([.fieldLink RX1 13 "UndoCellar$Change" "transaction" "LUndoCellar$Transaction;", .instanceMethod yX4_isCommittedBy, .initialized RX4, .selects RX4 yX4_isCommittedBy yX4_isCommittedBy, .code yX4_isCommittedBy cX4_isCommittedBy 2 (some .boolean), .fieldLink RX4 15 "UndoCellar$Transaction" "committedAt" "I"] ++ wsX10 ++ wsX40)
def wsX1_make : List Cond := .code yX1_make cX1_make 2 none :: ([.fieldLink RX1 17 "UndoCellar$Change" "row" "LUndoCellar$Row;", .fieldLink RX1 13 "UndoCellar$Change" "transaction" "LUndoCellar$Transaction;"] ++ wsX10 ++ wsX20 ++ wsX40)
def wsX1_takeBack : List Cond := .code yX1_takeBack cX1_takeBack 1 none :: ([.fieldLink RX1 17 "UndoCellar$Change" "row" "LUndoCellar$Row;", .fieldLink RX1 21 "UndoCellar$Change" "ahead" "I", .fieldLink RX1 7 "UndoCellar$Change" "isVoid" "Z", .fieldLink RX1 13 "UndoCellar$Change" "transaction" "LUndoCellar$Transaction;"] ++ wsX10 ++ wsX20 ++ wsX40)
def wsX2_init : List Cond := .code yX2_init cX2_init 2 none :: ([.methodLink RX2 1 objectInit, .instanceMethod objectInit, .code objectInit ⟨#[0xb1]⟩ 1 none, .fieldLink RX2 7 "UndoCellar$Row" "value" "I", .fieldLink RX2 13 "UndoCellar$Row" "block" "LUndoCellar$Block;"] ++ wsX20)
def wsX3_give : List Cond := .code yX3_give cX3_give 2 none :: ([.fieldLink RX3 7 "UndoCellar$Slot" "holder" "LUndoCellar$Transaction;", .fieldLink RX3 13 "UndoCellar$Slot" "marked" "Z"] ++ wsX30)
def wsX4_init : List Cond := .code yX4_init cX4_init 3 none :: ([.methodLink RX4 3 objectInit, .instanceMethod objectInit, .code objectInit ⟨#[0xb1]⟩ 1 none, .fieldLink RX4 9 "UndoCellar$Transaction" "active" "Z", .fieldLink RX4 15 "UndoCellar$Transaction" "committedAt" "I", .fieldLink RX4 19 "UndoCellar$Transaction" "standing" "I", .fieldLink RX4 22 "UndoCellar$Transaction" "number" "I", .fieldLink RX4 25 "UndoCellar$Transaction" "beganAt" "I"] ++ wsX40)
def wsJxa1e45_init_da8c8 : List Cond := .code yJxa1e45_init_da8c8 cJxa1e45_init_da8c8 1 none :: ([.methodLink RJxa1e45 1 objectInit, .instanceMethod objectInit, .code objectInit ⟨#[0xb1]⟩ 1 none])
def wsJxc12de_init_da8c8 : List Cond := .code yJxc12de_init_da8c8 cJxc12de_init_da8c8 1 none :: ([.fieldLink RJxc12de 7 "java/util/AbstractList" "modCount" "I", .methodLink RJxc12de 1 yJxa1e45_init_da8c8, .instanceMethod yJxa1e45_init_da8c8, .initialized RJxa1e45, .code yJxa1e45_init_da8c8 cJxa1e45_init_da8c8 1 none, .methodLink RJxa1e45 1 objectInit, .instanceMethod objectInit, .code objectInit ⟨#[0xb1]⟩ 1 none] ++ wsJx4a65c0)
def wsJx4a65c_init_da8c8 : List Cond := .code yJx4a65c_init_da8c8 cJx4a65c_init_da8c8 1 none :: ([.fieldLink RJx4a65c 39 "java/util/ArrayList" "DEFAULTCAPACITY_EMPTY_ELEMENTDATA" "[Ljava/lang/Object;", .fieldLink RJx4a65c 9 "java/util/ArrayList" "elementData" "[Ljava/lang/Object;", .methodLink RJx4a65c 1 yJxc12de_init_da8c8, .instanceMethod yJxc12de_init_da8c8, .initialized RJxc12de, .code yJxc12de_init_da8c8 cJxc12de_init_da8c8 1 none, .fieldLink RJxc12de 7 "java/util/AbstractList" "modCount" "I", .methodLink RJxc12de 1 yJxa1e45_init_da8c8, .instanceMethod yJxa1e45_init_da8c8, .initialized RJxa1e45, .code yJxa1e45_init_da8c8 cJxa1e45_init_da8c8 1 none, .methodLink RJxa1e45 1 objectInit, .instanceMethod objectInit, .code objectInit ⟨#[0xb1]⟩ 1 none] ++ wsJx4a65c0)
def wsX5_init_r1 : List Cond := [Cond.methodLink RX5 1 objectInit, Cond.instanceMethod objectInit, Cond.code objectInit ⟨#[0xb1]⟩ 1 none, Cond.classLink RX5 9 RX0, Cond.fieldLink RX5 11 "UndoCellar" "blocks" "[LUndoCellar$Block;", Cond.classLink RX5 15 RX2, Cond.fieldLink RX5 17 "UndoCellar" "rows" "[LUndoCellar$Row;", Cond.classLink RX5 21 RJx4a65c, Cond.instantiable RJx4a65c 3, Cond.initialized RJx4a65c, Cond.fieldLink RX5 24 "UndoCellar" "begun" "Ljava/util/ArrayList;", Cond.fieldLink RX5 28 "UndoCellar" "changes" "Ljava/util/ArrayList;", Cond.fieldLink RX5 31 "UndoCellar" "space" "I", Cond.fieldLink RX5 35 "UndoCellar" "momentOfNow" "I", Cond.fieldLink RX5 38 "UndoCellar" "markedSoFar" "I", Cond.fieldLink RX5 41 "UndoCellar" "droppedSoFar" "I", Cond.instantiable RX0 1, Cond.initialized RX0, Cond.instantiable RX2 2, Cond.initialized RX2, Cond.methodLink RX5 23 yJx4a65c_init_da8c8, Cond.instanceMethod yJx4a65c_init_da8c8, Cond.code yJx4a65c_init_da8c8 cJx4a65c_init_da8c8 1 none, Cond.fieldLink RJx4a65c 39 "java/util/ArrayList" "DEFAULTCAPACITY_EMPTY_ELEMENTDATA" "[Ljava/lang/Object;"]
def wsX5_init_r2 : List Cond := [Cond.fieldLink RJx4a65c 9 "java/util/ArrayList" "elementData" "[Ljava/lang/Object;", Cond.methodLink RJx4a65c 1 yJxc12de_init_da8c8, Cond.instanceMethod yJxc12de_init_da8c8, Cond.initialized RJxc12de, Cond.code yJxc12de_init_da8c8 cJxc12de_init_da8c8 1 none, Cond.fieldLink RJxc12de 7 "java/util/AbstractList" "modCount" "I", Cond.methodLink RJxc12de 1 yJxa1e45_init_da8c8, Cond.instanceMethod yJxa1e45_init_da8c8, Cond.initialized RJxa1e45, Cond.code yJxa1e45_init_da8c8 cJxa1e45_init_da8c8 1 none, Cond.methodLink RJxa1e45 1 objectInit, Cond.instanceMethod yX0_init, Cond.code yX0_init cX0_init 2 none, Cond.methodLink RX0 3 objectInit, Cond.classLink RX0 9 RX3, Cond.fieldLink RX0 11 "UndoCellar$Block" "slots" "[LUndoCellar$Slot;", Cond.instantiable RX3 2, Cond.initialized RX3, Cond.instanceMethod yX3_init, Cond.code yX3_init cX3_init 1 none, Cond.methodLink RX3 1 objectInit, Cond.fieldLink RX3 7 "UndoCellar$Slot" "holder" "LUndoCellar$Transaction;", Cond.fieldLink RX3 13 "UndoCellar$Slot" "marked" "Z", Cond.instanceMethod yX2_init]
def wsX5_init_r3 : List Cond := [Cond.code yX2_init cX2_init 2 none, Cond.methodLink RX2 1 objectInit, Cond.fieldLink RX2 7 "UndoCellar$Row" "value" "I", Cond.fieldLink RX2 13 "UndoCellar$Row" "block" "LUndoCellar$Block;"]
def wsX5_init : List Cond := .code yX5_init cX5_init 2 none :: ((wsX5_init_r1 ++ (wsX5_init_r2 ++ wsX5_init_r3)) ++ wsX50 ++ wsJx4a65c0 ++ wsX00 ++ wsX20 ++ wsX30)
def wsJx4a65c_size_8abf5 : List Cond := .code yJx4a65c_size_8abf5 cJx4a65c_size_8abf5 1 (some .int) :: ([.fieldLink RJx4a65c 48 "java/util/ArrayList" "size" "I"] ++ wsJx4a65c0)
def wsX5_recordsThere : List Cond := .code yX5_recordsThere cX5_recordsThere 1 (some .int) :: ([.fieldLink RX5 28 "UndoCellar" "changes" "Ljava/util/ArrayList;", .fieldLink RX5 41 "UndoCellar" "droppedSoFar" "I", .methodLink RX5 64 yJx4a65c_size_8abf5, .instanceMethod yJx4a65c_size_8abf5, .selects RJx4a65c yJx4a65c_size_8abf5 yJx4a65c_size_8abf5, .initialized RJx4a65c, .code yJx4a65c_size_8abf5 cJx4a65c_size_8abf5 1 (some .int), .fieldLink RJx4a65c 48 "java/util/ArrayList" "size" "I"] ++ wsX50 ++ wsJx4a65c0)
def wsX5_setSpace : List Cond := .code yX5_setSpace cX5_setSpace 3 (some .int) :: ([.classLink RX5 48 "java/lang/IllegalArgumentException", .initialized "java/lang/IllegalArgumentException", .classLink RX5 59 "java/lang/IllegalStateException", .initialized "java/lang/IllegalStateException", .fieldLink RX5 31 "UndoCellar" "space" "I", .methodLink RX5 55 yX5_recordsThere, .instanceMethod yX5_recordsThere, .selects RX5 yX5_recordsThere yX5_recordsThere, .initialized RX5, .code yX5_recordsThere cX5_recordsThere 1 (some .int), .fieldLink RX5 28 "UndoCellar" "changes" "Ljava/util/ArrayList;", .fieldLink RX5 41 "UndoCellar" "droppedSoFar" "I", .methodLink RX5 64 yJx4a65c_size_8abf5, .instanceMethod yJx4a65c_size_8abf5, .selects RJx4a65c yJx4a65c_size_8abf5 yJx4a65c_size_8abf5, .initialized RJx4a65c, .code yJx4a65c_size_8abf5 cJx4a65c_size_8abf5 1 (some .int), .fieldLink RJx4a65c 48 "java/util/ArrayList" "size" "I"] ++ wsX50 ++ wsJx4a65c0 ++ (vx_atS RX5 52 "java/lang/IllegalArgumentException" ["java/lang/RuntimeException", "java/lang/Exception"]).filter goodWord ++ (vx_atS RX5 63 "java/lang/IllegalStateException" ["java/lang/RuntimeException", "java/lang/Exception"]).filter goodWord)
def wsJ8_hugeLength_7cf53 : List Cond := .code yJ8_hugeLength_7cf53 cJ8_hugeLength_7cf53 3 (some .int) :: ([.constant RJ8 200 (2147483639)])
def wsJ8_newLength_cabcc : List Cond := .code yJ8_newLength_cabcc cJ8_newLength_cabcc 4 (some .int) :: ([.methodLink RJ8 194 Lib.Math.max.name, .static Lib.Math.max.name, .initialized "java/lang/Math", .code Lib.Math.max.name Lib.Math.max.code 2 (some .int), .constant RJ8 200 (2147483639), .methodLink RJ8 201 yJ8_hugeLength_7cf53, .static yJ8_hugeLength_7cf53, .initialized RJ8, .code yJ8_hugeLength_7cf53 cJ8_hugeLength_7cf53 3 (some .int)])
def wsJ7_copyOf_6403c : List Cond := .code yJ7_copyOf_6403c cJ7_copyOf_6403c 4 (some (.array (.object "java/lang/Object"))) :: ([.classLink RJ7 110 "[Ljava/lang/Object;", .classLink RJ7 2 "java/lang/Object", .methodLink RJ7 304 Lib.Math.min.name, .static Lib.Math.min.name, .initialized "java/lang/Math", .code Lib.Math.min.name Lib.Math.min.code 2 (some .int), .methodLink RJ7 150 arraycopyName, .native arraycopyName, .static arraycopyName, .initialized "java/lang/System"])
def wsJ7_copyOf_1904c : List Cond := .code yJ7_copyOf_1904c cJ7_copyOf_1904c 2 (some (.array (.object "java/lang/Object"))) :: ([.methodLink RJ7 86 ⟨"java/lang/Object", "getClass", "()Ljava/lang/Class;"⟩, .selects "[Ljava/lang/Object;" ⟨"java/lang/Object", "getClass", "()Ljava/lang/Class;"⟩ ⟨"java/lang/Object", "getClass", "()Ljava/lang/Class;"⟩, .instanceMethod ⟨"java/lang/Object", "getClass", "()Ljava/lang/Class;"⟩, .native ⟨"java/lang/Object", "getClass", "()Ljava/lang/Class;"⟩, .methodLink RJ7 300 yJ7_copyOf_6403c, .static yJ7_copyOf_6403c, .initialized RJ7, .code yJ7_copyOf_6403c cJ7_copyOf_6403c 4 (some (.array (.object "java/lang/Object"))), .classLink RJ7 110 "[Ljava/lang/Object;", .classLink RJ7 2 "java/lang/Object", .methodLink RJ7 304 Lib.Math.min.name, .static Lib.Math.min.name, .initialized "java/lang/Math", .code Lib.Math.min.name Lib.Math.min.code 2 (some .int), .methodLink RJ7 150 arraycopyName, .native arraycopyName, .static arraycopyName, .initialized "java/lang/System"])
def wsJx4a65c_grow_92f84_r1 : List Cond := [Cond.fieldLink RJx4a65c 9 "java/util/ArrayList" "elementData" "[Ljava/lang/Object;", Cond.fieldLink RJx4a65c 39 "java/util/ArrayList" "DEFAULTCAPACITY_EMPTY_ELEMENTDATA" "[Ljava/lang/Object;", Cond.methodLink RJx4a65c 79 Lib.Math.max.name, Cond.static Lib.Math.max.name, Cond.initialized "java/lang/Math", Cond.code Lib.Math.max.name Lib.Math.max.code 2 (some .int), Cond.classLink RJx4a65c 7 "java/lang/Object", Cond.methodLink RJx4a65c 73 yJ8_newLength_cabcc, Cond.static yJ8_newLength_cabcc, Cond.initialized RJ8, Cond.code yJ8_newLength_cabcc cJ8_newLength_cabcc 4 (some .int), Cond.methodLink RJ8 194 Lib.Math.max.name, Cond.constant RJ8 200 (2147483639), Cond.methodLink RJ8 201 yJ8_hugeLength_7cf53, Cond.static yJ8_hugeLength_7cf53, Cond.code yJ8_hugeLength_7cf53 cJ8_hugeLength_7cf53 3 (some .int), Cond.methodLink RJx4a65c 66 yJ7_copyOf_1904c, Cond.static yJ7_copyOf_1904c, Cond.initialized RJ7, Cond.code yJ7_copyOf_1904c cJ7_copyOf_1904c 2 (some (.array (.object "java/lang/Object"))), Cond.methodLink RJ7 86 ⟨"java/lang/Object", "getClass", "()Ljava/lang/Class;"⟩, Cond.selects "[Ljava/lang/Object;" ⟨"java/lang/Object", "getClass", "()Ljava/lang/Class;"⟩ ⟨"java/lang/Object", "getClass", "()Ljava/lang/Class;"⟩, Cond.instanceMethod ⟨"java/lang/Object", "getClass", "()Ljava/lang/Class;"⟩, Cond.native ⟨"java/lang/Object", "getClass", "()Ljava/lang/Class;"⟩]
def wsJx4a65c_grow_92f84_r2 : List Cond := [Cond.methodLink RJ7 300 yJ7_copyOf_6403c, Cond.static yJ7_copyOf_6403c, Cond.code yJ7_copyOf_6403c cJ7_copyOf_6403c 4 (some (.array (.object "java/lang/Object"))), Cond.classLink RJ7 110 "[Ljava/lang/Object;", Cond.classLink RJ7 2 "java/lang/Object", Cond.methodLink RJ7 304 Lib.Math.min.name, Cond.static Lib.Math.min.name, Cond.code Lib.Math.min.name Lib.Math.min.code 2 (some .int), Cond.methodLink RJ7 150 arraycopyName, Cond.native arraycopyName, Cond.static arraycopyName, Cond.initialized "java/lang/System"]
def wsJx4a65c_grow_92f84 : List Cond := .code yJx4a65c_grow_92f84 cJx4a65c_grow_92f84 4 (some (.array (.object "java/lang/Object"))) :: ((wsJx4a65c_grow_92f84_r1 ++ wsJx4a65c_grow_92f84_r2) ++ wsJx4a65c0)
def wsJx4a65c_grow_d5877_r1 : List Cond := [Cond.fieldLink RJx4a65c 48 "java/util/ArrayList" "size" "I", Cond.methodLink RJx4a65c 69 yJx4a65c_grow_92f84, Cond.instanceMethod yJx4a65c_grow_92f84, Cond.selects RJx4a65c yJx4a65c_grow_92f84 yJx4a65c_grow_92f84, Cond.initialized RJx4a65c, Cond.code yJx4a65c_grow_92f84 cJx4a65c_grow_92f84 4 (some (.array (.object "java/lang/Object"))), Cond.fieldLink RJx4a65c 9 "java/util/ArrayList" "elementData" "[Ljava/lang/Object;", Cond.fieldLink RJx4a65c 39 "java/util/ArrayList" "DEFAULTCAPACITY_EMPTY_ELEMENTDATA" "[Ljava/lang/Object;", Cond.methodLink RJx4a65c 79 Lib.Math.max.name, Cond.static Lib.Math.max.name, Cond.initialized "java/lang/Math", Cond.code Lib.Math.max.name Lib.Math.max.code 2 (some .int), Cond.classLink RJx4a65c 7 "java/lang/Object", Cond.methodLink RJx4a65c 73 yJ8_newLength_cabcc, Cond.static yJ8_newLength_cabcc, Cond.initialized RJ8, Cond.code yJ8_newLength_cabcc cJ8_newLength_cabcc 4 (some .int), Cond.methodLink RJ8 194 Lib.Math.max.name, Cond.constant RJ8 200 (2147483639), Cond.methodLink RJ8 201 yJ8_hugeLength_7cf53, Cond.static yJ8_hugeLength_7cf53, Cond.code yJ8_hugeLength_7cf53 cJ8_hugeLength_7cf53 3 (some .int), Cond.methodLink RJx4a65c 66 yJ7_copyOf_1904c, Cond.static yJ7_copyOf_1904c]
def wsJx4a65c_grow_d5877_r2 : List Cond := [Cond.initialized RJ7, Cond.code yJ7_copyOf_1904c cJ7_copyOf_1904c 2 (some (.array (.object "java/lang/Object"))), Cond.methodLink RJ7 86 ⟨"java/lang/Object", "getClass", "()Ljava/lang/Class;"⟩, Cond.selects "[Ljava/lang/Object;" ⟨"java/lang/Object", "getClass", "()Ljava/lang/Class;"⟩ ⟨"java/lang/Object", "getClass", "()Ljava/lang/Class;"⟩, Cond.instanceMethod ⟨"java/lang/Object", "getClass", "()Ljava/lang/Class;"⟩, Cond.native ⟨"java/lang/Object", "getClass", "()Ljava/lang/Class;"⟩, Cond.methodLink RJ7 300 yJ7_copyOf_6403c, Cond.static yJ7_copyOf_6403c, Cond.code yJ7_copyOf_6403c cJ7_copyOf_6403c 4 (some (.array (.object "java/lang/Object"))), Cond.classLink RJ7 110 "[Ljava/lang/Object;", Cond.classLink RJ7 2 "java/lang/Object", Cond.methodLink RJ7 304 Lib.Math.min.name, Cond.static Lib.Math.min.name, Cond.code Lib.Math.min.name Lib.Math.min.code 2 (some .int), Cond.methodLink RJ7 150 arraycopyName, Cond.native arraycopyName, Cond.static arraycopyName, Cond.initialized "java/lang/System"]
def wsJx4a65c_grow_d5877 : List Cond := .code yJx4a65c_grow_d5877 cJx4a65c_grow_d5877 1 (some (.array (.object "java/lang/Object"))) :: ((wsJx4a65c_grow_d5877_r1 ++ wsJx4a65c_grow_d5877_r2) ++ wsJx4a65c0)
def wsJx4a65c_add_72be8_r1 : List Cond := [Cond.fieldLink RJx4a65c 48 "java/util/ArrayList" "size" "I", Cond.methodLink RJx4a65c 129 yJx4a65c_grow_d5877, Cond.instanceMethod yJx4a65c_grow_d5877, Cond.selects RJx4a65c yJx4a65c_grow_d5877 yJx4a65c_grow_d5877, Cond.initialized RJx4a65c, Cond.code yJx4a65c_grow_d5877 cJx4a65c_grow_d5877 1 (some (.array (.object "java/lang/Object"))), Cond.methodLink RJx4a65c 69 yJx4a65c_grow_92f84, Cond.instanceMethod yJx4a65c_grow_92f84, Cond.selects RJx4a65c yJx4a65c_grow_92f84 yJx4a65c_grow_92f84, Cond.code yJx4a65c_grow_92f84 cJx4a65c_grow_92f84 4 (some (.array (.object "java/lang/Object"))), Cond.fieldLink RJx4a65c 9 "java/util/ArrayList" "elementData" "[Ljava/lang/Object;", Cond.fieldLink RJx4a65c 39 "java/util/ArrayList" "DEFAULTCAPACITY_EMPTY_ELEMENTDATA" "[Ljava/lang/Object;", Cond.methodLink RJx4a65c 79 Lib.Math.max.name, Cond.static Lib.Math.max.name, Cond.initialized "java/lang/Math", Cond.code Lib.Math.max.name Lib.Math.max.code 2 (some .int), Cond.classLink RJx4a65c 7 "java/lang/Object", Cond.methodLink RJx4a65c 73 yJ8_newLength_cabcc, Cond.static yJ8_newLength_cabcc, Cond.initialized RJ8, Cond.code yJ8_newLength_cabcc cJ8_newLength_cabcc 4 (some .int), Cond.methodLink RJ8 194 Lib.Math.max.name, Cond.constant RJ8 200 (2147483639), Cond.methodLink RJ8 201 yJ8_hugeLength_7cf53]
def wsJx4a65c_add_72be8_r2 : List Cond := [Cond.static yJ8_hugeLength_7cf53, Cond.code yJ8_hugeLength_7cf53 cJ8_hugeLength_7cf53 3 (some .int), Cond.methodLink RJx4a65c 66 yJ7_copyOf_1904c, Cond.static yJ7_copyOf_1904c, Cond.initialized RJ7, Cond.code yJ7_copyOf_1904c cJ7_copyOf_1904c 2 (some (.array (.object "java/lang/Object"))), Cond.methodLink RJ7 86 ⟨"java/lang/Object", "getClass", "()Ljava/lang/Class;"⟩, Cond.selects "[Ljava/lang/Object;" ⟨"java/lang/Object", "getClass", "()Ljava/lang/Class;"⟩ ⟨"java/lang/Object", "getClass", "()Ljava/lang/Class;"⟩, Cond.instanceMethod ⟨"java/lang/Object", "getClass", "()Ljava/lang/Class;"⟩, Cond.native ⟨"java/lang/Object", "getClass", "()Ljava/lang/Class;"⟩, Cond.methodLink RJ7 300 yJ7_copyOf_6403c, Cond.static yJ7_copyOf_6403c, Cond.code yJ7_copyOf_6403c cJ7_copyOf_6403c 4 (some (.array (.object "java/lang/Object"))), Cond.classLink RJ7 110 "[Ljava/lang/Object;", Cond.classLink RJ7 2 "java/lang/Object", Cond.methodLink RJ7 304 Lib.Math.min.name, Cond.static Lib.Math.min.name, Cond.code Lib.Math.min.name Lib.Math.min.code 2 (some .int), Cond.methodLink RJ7 150 arraycopyName, Cond.native arraycopyName, Cond.static arraycopyName, Cond.initialized "java/lang/System"]
def wsJx4a65c_add_72be8 : List Cond := .code yJx4a65c_add_72be8 cJx4a65c_add_72be8 4 none :: ((wsJx4a65c_add_72be8_r1 ++ wsJx4a65c_add_72be8_r2) ++ wsJx4a65c0)
def wsJx4a65c_add_9ea2d_r1 : List Cond := [Cond.fieldLink RJx4a65c 63 "java/util/ArrayList" "modCount" "I", Cond.sameField "java/util/ArrayList" "java/util/AbstractList" "modCount" "I", Cond.fieldLink RJx4a65c 9 "java/util/ArrayList" "elementData" "[Ljava/lang/Object;", Cond.fieldLink RJx4a65c 48 "java/util/ArrayList" "size" "I", Cond.methodLink RJx4a65c 131 yJx4a65c_add_72be8, Cond.instanceMethod yJx4a65c_add_72be8, Cond.selects RJx4a65c yJx4a65c_add_72be8 yJx4a65c_add_72be8, Cond.initialized RJx4a65c, Cond.code yJx4a65c_add_72be8 cJx4a65c_add_72be8 4 none, Cond.methodLink RJx4a65c 129 yJx4a65c_grow_d5877, Cond.instanceMethod yJx4a65c_grow_d5877, Cond.selects RJx4a65c yJx4a65c_grow_d5877 yJx4a65c_grow_d5877, Cond.code yJx4a65c_grow_d5877 cJx4a65c_grow_d5877 1 (some (.array (.object "java/lang/Object"))), Cond.methodLink RJx4a65c 69 yJx4a65c_grow_92f84, Cond.instanceMethod yJx4a65c_grow_92f84, Cond.selects RJx4a65c yJx4a65c_grow_92f84 yJx4a65c_grow_92f84, Cond.code yJx4a65c_grow_92f84 cJx4a65c_grow_92f84 4 (some (.array (.object "java/lang/Object"))), Cond.fieldLink RJx4a65c 39 "java/util/ArrayList" "DEFAULTCAPACITY_EMPTY_ELEMENTDATA" "[Ljava/lang/Object;", Cond.methodLink RJx4a65c 79 Lib.Math.max.name, Cond.static Lib.Math.max.name, Cond.initialized "java/lang/Math", Cond.code Lib.Math.max.name Lib.Math.max.code 2 (some .int), Cond.classLink RJx4a65c 7 "java/lang/Object", Cond.methodLink RJx4a65c 73 yJ8_newLength_cabcc]
def wsJx4a65c_add_9ea2d_r2 : List Cond := [Cond.static yJ8_newLength_cabcc, Cond.initialized RJ8, Cond.code yJ8_newLength_cabcc cJ8_newLength_cabcc 4 (some .int), Cond.methodLink RJ8 194 Lib.Math.max.name, Cond.constant RJ8 200 (2147483639), Cond.methodLink RJ8 201 yJ8_hugeLength_7cf53, Cond.static yJ8_hugeLength_7cf53, Cond.code yJ8_hugeLength_7cf53 cJ8_hugeLength_7cf53 3 (some .int), Cond.methodLink RJx4a65c 66 yJ7_copyOf_1904c, Cond.static yJ7_copyOf_1904c, Cond.initialized RJ7, Cond.code yJ7_copyOf_1904c cJ7_copyOf_1904c 2 (some (.array (.object "java/lang/Object"))), Cond.methodLink RJ7 86 ⟨"java/lang/Object", "getClass", "()Ljava/lang/Class;"⟩, Cond.selects "[Ljava/lang/Object;" ⟨"java/lang/Object", "getClass", "()Ljava/lang/Class;"⟩ ⟨"java/lang/Object", "getClass", "()Ljava/lang/Class;"⟩, Cond.instanceMethod ⟨"java/lang/Object", "getClass", "()Ljava/lang/Class;"⟩, Cond.native ⟨"java/lang/Object", "getClass", "()Ljava/lang/Class;"⟩, Cond.methodLink RJ7 300 yJ7_copyOf_6403c, Cond.static yJ7_copyOf_6403c, Cond.code yJ7_copyOf_6403c cJ7_copyOf_6403c 4 (some (.array (.object "java/lang/Object"))), Cond.classLink RJ7 110 "[Ljava/lang/Object;", Cond.classLink RJ7 2 "java/lang/Object", Cond.methodLink RJ7 304 Lib.Math.min.name, Cond.static Lib.Math.min.name, Cond.code Lib.Math.min.name Lib.Math.min.code 2 (some .int)]
def wsJx4a65c_add_9ea2d_r3 : List Cond := [Cond.methodLink RJ7 150 arraycopyName, Cond.native arraycopyName, Cond.static arraycopyName, Cond.initialized "java/lang/System"]
def wsJx4a65c_add_9ea2d : List Cond := .code yJx4a65c_add_9ea2d cJx4a65c_add_9ea2d 2 (some .boolean) :: ((wsJx4a65c_add_9ea2d_r1 ++ (wsJx4a65c_add_9ea2d_r2 ++ wsJx4a65c_add_9ea2d_r3)) ++ wsJx4a65c0)
def wsX5_begin_r1 : List Cond := [Cond.classLink RX5 59 "java/lang/IllegalStateException", Cond.initialized "java/lang/IllegalStateException", Cond.fieldLink RX5 24 "UndoCellar" "begun" "Ljava/util/ArrayList;", Cond.classLink RX5 69 RX4, Cond.instantiable RX4 5, Cond.initialized RX4, Cond.fieldLink RX5 35 "UndoCellar" "momentOfNow" "I", Cond.methodLink RX5 64 yJx4a65c_size_8abf5, Cond.instanceMethod yJx4a65c_size_8abf5, Cond.selects RJx4a65c yJx4a65c_size_8abf5 yJx4a65c_size_8abf5, Cond.initialized RJx4a65c, Cond.code yJx4a65c_size_8abf5 cJx4a65c_size_8abf5 1 (some .int), Cond.fieldLink RJx4a65c 48 "java/util/ArrayList" "size" "I", Cond.instanceMethod yX4_init, Cond.code yX4_init cX4_init 3 none, Cond.methodLink RX4 3 objectInit, Cond.instanceMethod objectInit, Cond.code objectInit ⟨#[0xb1]⟩ 1 none, Cond.fieldLink RX4 9 "UndoCellar$Transaction" "active" "Z", Cond.fieldLink RX4 15 "UndoCellar$Transaction" "committedAt" "I", Cond.fieldLink RX4 19 "UndoCellar$Transaction" "standing" "I", Cond.fieldLink RX4 22 "UndoCellar$Transaction" "number" "I", Cond.fieldLink RX4 25 "UndoCellar$Transaction" "beganAt" "I", Cond.methodLink RX5 74 yJx4a65c_add_9ea2d]
def wsX5_begin_r2 : List Cond := [Cond.instanceMethod yJx4a65c_add_9ea2d, Cond.selects RJx4a65c yJx4a65c_add_9ea2d yJx4a65c_add_9ea2d, Cond.code yJx4a65c_add_9ea2d cJx4a65c_add_9ea2d 2 (some .boolean), Cond.fieldLink RJx4a65c 63 "java/util/ArrayList" "modCount" "I", Cond.sameField "java/util/ArrayList" "java/util/AbstractList" "modCount" "I", Cond.fieldLink RJx4a65c 9 "java/util/ArrayList" "elementData" "[Ljava/lang/Object;", Cond.methodLink RJx4a65c 131 yJx4a65c_add_72be8, Cond.instanceMethod yJx4a65c_add_72be8, Cond.selects RJx4a65c yJx4a65c_add_72be8 yJx4a65c_add_72be8, Cond.code yJx4a65c_add_72be8 cJx4a65c_add_72be8 4 none, Cond.methodLink RJx4a65c 129 yJx4a65c_grow_d5877, Cond.instanceMethod yJx4a65c_grow_d5877, Cond.selects RJx4a65c yJx4a65c_grow_d5877 yJx4a65c_grow_d5877, Cond.code yJx4a65c_grow_d5877 cJx4a65c_grow_d5877 1 (some (.array (.object "java/lang/Object"))), Cond.methodLink RJx4a65c 69 yJx4a65c_grow_92f84, Cond.instanceMethod yJx4a65c_grow_92f84, Cond.selects RJx4a65c yJx4a65c_grow_92f84 yJx4a65c_grow_92f84, Cond.code yJx4a65c_grow_92f84 cJx4a65c_grow_92f84 4 (some (.array (.object "java/lang/Object"))), Cond.fieldLink RJx4a65c 39 "java/util/ArrayList" "DEFAULTCAPACITY_EMPTY_ELEMENTDATA" "[Ljava/lang/Object;", Cond.methodLink RJx4a65c 79 Lib.Math.max.name, Cond.static Lib.Math.max.name, Cond.initialized "java/lang/Math", Cond.code Lib.Math.max.name Lib.Math.max.code 2 (some .int), Cond.classLink RJx4a65c 7 "java/lang/Object"]
def wsX5_begin_r3 : List Cond := [Cond.methodLink RJx4a65c 73 yJ8_newLength_cabcc, Cond.static yJ8_newLength_cabcc, Cond.initialized RJ8, Cond.code yJ8_newLength_cabcc cJ8_newLength_cabcc 4 (some .int), Cond.methodLink RJ8 194 Lib.Math.max.name, Cond.constant RJ8 200 (2147483639), Cond.methodLink RJ8 201 yJ8_hugeLength_7cf53, Cond.static yJ8_hugeLength_7cf53, Cond.code yJ8_hugeLength_7cf53 cJ8_hugeLength_7cf53 3 (some .int), Cond.methodLink RJx4a65c 66 yJ7_copyOf_1904c, Cond.static yJ7_copyOf_1904c, Cond.initialized RJ7, Cond.code yJ7_copyOf_1904c cJ7_copyOf_1904c 2 (some (.array (.object "java/lang/Object"))), Cond.methodLink RJ7 86 ⟨"java/lang/Object", "getClass", "()Ljava/lang/Class;"⟩, Cond.selects "[Ljava/lang/Object;" ⟨"java/lang/Object", "getClass", "()Ljava/lang/Class;"⟩ ⟨"java/lang/Object", "getClass", "()Ljava/lang/Class;"⟩, Cond.instanceMethod ⟨"java/lang/Object", "getClass", "()Ljava/lang/Class;"⟩, Cond.native ⟨"java/lang/Object", "getClass", "()Ljava/lang/Class;"⟩, Cond.methodLink RJ7 300 yJ7_copyOf_6403c, Cond.static yJ7_copyOf_6403c, Cond.code yJ7_copyOf_6403c cJ7_copyOf_6403c 4 (some (.array (.object "java/lang/Object"))), Cond.classLink RJ7 110 "[Ljava/lang/Object;", Cond.classLink RJ7 2 "java/lang/Object", Cond.methodLink RJ7 304 Lib.Math.min.name, Cond.static Lib.Math.min.name]
def wsX5_begin_r4 : List Cond := [Cond.code Lib.Math.min.name Lib.Math.min.code 2 (some .int), Cond.methodLink RJ7 150 arraycopyName, Cond.native arraycopyName, Cond.static arraycopyName, Cond.initialized "java/lang/System"]
def wsX5_begin : List Cond := .code yX5_begin cX5_begin 2 (some .int) :: ((wsX5_begin_r1 ++ (wsX5_begin_r2 ++ (wsX5_begin_r3 ++ wsX5_begin_r4))) ++ wsX50 ++ wsX40 ++ wsJx4a65c0 ++ (vx_atS RX5 63 "java/lang/IllegalStateException" ["java/lang/RuntimeException", "java/lang/Exception"]).filter goodWord)
def wsJ3_checkIndex_8e157 : List Cond := .code yJ3_checkIndex_8e157 cJ3_checkIndex_8e157 3 (some .int) :: ([])
def wsJ15_checkIndex_7cf53 : List Cond := .code yJ15_checkIndex_7cf53 cJ15_checkIndex_7cf53 2 (some .int) :: ([.methodLink RJ15 105 yJ3_checkIndex_8e157, .static yJ3_checkIndex_8e157, .initialized RJ3, .code yJ3_checkIndex_8e157 cJ3_checkIndex_8e157 3 (some .int)])
def wsJx4a65c_elementData_915e3 : List Cond := .code yJx4a65c_elementData_915e3 cJx4a65c_elementData_915e3 2 (some (.object "java/lang/Object")) :: ([.fieldLink RJx4a65c 9 "java/util/ArrayList" "elementData" "[Ljava/lang/Object;"] ++ wsJx4a65c0)
def wsJx4a65c_get_915e3 : List Cond := .code yJx4a65c_get_915e3 cJx4a65c_get_915e3 2 (some (.object "java/lang/Object")) :: ([.fieldLink RJx4a65c 48 "java/util/ArrayList" "size" "I", .methodLink RJx4a65c 118 yJ15_checkIndex_7cf53, .static yJ15_checkIndex_7cf53, .initialized RJ15, .code yJ15_checkIndex_7cf53 cJ15_checkIndex_7cf53 2 (some .int), .methodLink RJ15 105 yJ3_checkIndex_8e157, .static yJ3_checkIndex_8e157, .initialized RJ3, .code yJ3_checkIndex_8e157 cJ3_checkIndex_8e157 3 (some .int), .methodLink RJx4a65c 123 yJx4a65c_elementData_915e3, .instanceMethod yJx4a65c_elementData_915e3, .selects RJx4a65c yJx4a65c_elementData_915e3 yJx4a65c_elementData_915e3, .initialized RJx4a65c, .code yJx4a65c_elementData_915e3 cJx4a65c_elementData_915e3 2 (some (.object "java/lang/Object")), .fieldLink RJx4a65c 9 "java/util/ArrayList" "elementData" "[Ljava/lang/Object;"] ++ wsJx4a65c0)
def wsX5_transactionNumbered_r1 : List Cond := [Cond.classLink RX5 189 "java/lang/IndexOutOfBoundsException", Cond.initialized "java/lang/IndexOutOfBoundsException", Cond.fieldLink RX5 24 "UndoCellar" "begun" "Ljava/util/ArrayList;", Cond.classLink RX5 69 "UndoCellar$Transaction", Cond.methodLink RX5 64 yJx4a65c_size_8abf5, Cond.instanceMethod yJx4a65c_size_8abf5, Cond.selects RJx4a65c yJx4a65c_size_8abf5 yJx4a65c_size_8abf5, Cond.initialized RJx4a65c, Cond.code yJx4a65c_size_8abf5 cJx4a65c_size_8abf5 1 (some .int), Cond.fieldLink RJx4a65c 48 "java/util/ArrayList" "size" "I", Cond.methodLink RX5 194 yJx4a65c_get_915e3, Cond.instanceMethod yJx4a65c_get_915e3, Cond.selects RJx4a65c yJx4a65c_get_915e3 yJx4a65c_get_915e3, Cond.code yJx4a65c_get_915e3 cJx4a65c_get_915e3 2 (some (.object "java/lang/Object")), Cond.methodLink RJx4a65c 118 yJ15_checkIndex_7cf53, Cond.static yJ15_checkIndex_7cf53, Cond.initialized RJ15, Cond.code yJ15_checkIndex_7cf53 cJ15_checkIndex_7cf53 2 (some .int), Cond.methodLink RJ15 105 yJ3_checkIndex_8e157, Cond.static yJ3_checkIndex_8e157, Cond.initialized RJ3, Cond.code yJ3_checkIndex_8e157 cJ3_checkIndex_8e157 3 (some .int), Cond.methodLink RJx4a65c 123 yJx4a65c_elementData_915e3, Cond.instanceMethod yJx4a65c_elementData_915e3]
def wsX5_transactionNumbered_r2 : List Cond := [Cond.selects RJx4a65c yJx4a65c_elementData_915e3 yJx4a65c_elementData_915e3, Cond.code yJx4a65c_elementData_915e3 cJx4a65c_elementData_915e3 2 (some (.object "java/lang/Object")), Cond.fieldLink RJx4a65c 9 "java/util/ArrayList" "elementData" "[Ljava/lang/Object;"]
def wsX5_transactionNumbered : List Cond := .code yX5_transactionNumbered cX5_transactionNumbered 2 (some (.object "UndoCellar$Transaction")) :: ((wsX5_transactionNumbered_r1 ++ wsX5_transactionNumbered_r2) ++ wsX50 ++ wsJx4a65c0 ++ (vx_atS RX5 193 "java/lang/IndexOutOfBoundsException" ["java/lang/RuntimeException", "java/lang/Exception"]).filter goodWord)
def wsX5_rowNumbered : List Cond := .code yX5_rowNumbered cX5_rowNumbered 2 (some (.object "UndoCellar$Row")) :: ([.classLink RX5 189 "java/lang/IndexOutOfBoundsException", .initialized "java/lang/IndexOutOfBoundsException", .fieldLink RX5 17 "UndoCellar" "rows" "[LUndoCellar$Row;"] ++ wsX50 ++ (vx_atS RX5 193 "java/lang/IndexOutOfBoundsException" ["java/lang/RuntimeException", "java/lang/Exception"]).filter goodWord)
def wsX5_refuseIfEnded : List Cond := .code yX5_refuseIfEnded cX5_refuseIfEnded 2 none :: ([.classLink RX5 59 "java/lang/IllegalStateException", .initialized "java/lang/IllegalStateException"] ++ wsX40 ++ (vx_atS RX5 63 "java/lang/IllegalStateException" ["java/lang/RuntimeException", "java/lang/Exception"]).filter goodWord)
def wsX5_lockerOf_r1 : List Cond := [Cond.fieldLink RX5 28 "UndoCellar" "changes" "Ljava/util/ArrayList;", Cond.classLink RX5 126 "UndoCellar$Change", Cond.methodLink RX5 64 yJx4a65c_size_8abf5, Cond.instanceMethod yJx4a65c_size_8abf5, Cond.selects RJx4a65c yJx4a65c_size_8abf5 yJx4a65c_size_8abf5, Cond.initialized RJx4a65c, Cond.code yJx4a65c_size_8abf5 cJx4a65c_size_8abf5 1 (some .int), Cond.fieldLink RJx4a65c 48 "java/util/ArrayList" "size" "I", Cond.methodLink RX5 194 yJx4a65c_get_915e3, Cond.instanceMethod yJx4a65c_get_915e3, Cond.selects RJx4a65c yJx4a65c_get_915e3 yJx4a65c_get_915e3, Cond.code yJx4a65c_get_915e3 cJx4a65c_get_915e3 2 (some (.object "java/lang/Object")), Cond.methodLink RJx4a65c 118 yJ15_checkIndex_7cf53, Cond.static yJ15_checkIndex_7cf53, Cond.initialized RJ15, Cond.code yJ15_checkIndex_7cf53 cJ15_checkIndex_7cf53 2 (some .int), Cond.methodLink RJ15 105 yJ3_checkIndex_8e157, Cond.static yJ3_checkIndex_8e157, Cond.initialized RJ3, Cond.code yJ3_checkIndex_8e157 cJ3_checkIndex_8e157 3 (some .int), Cond.methodLink RJx4a65c 123 yJx4a65c_elementData_915e3, Cond.instanceMethod yJx4a65c_elementData_915e3, Cond.selects RJx4a65c yJx4a65c_elementData_915e3 yJx4a65c_elementData_915e3, Cond.code yJx4a65c_elementData_915e3 cJx4a65c_elementData_915e3 2 (some (.object "java/lang/Object"))]
def wsX5_lockerOf_r2 : List Cond := [Cond.fieldLink RJx4a65c 9 "java/util/ArrayList" "elementData" "[Ljava/lang/Object;", Cond.instanceMethod yX1_stands, Cond.initialized RX1, Cond.selects RX1 yX1_stands yX1_stands, Cond.code yX1_stands cX1_stands 2 (some .boolean), Cond.fieldLink RX1 17 "UndoCellar$Change" "row" "LUndoCellar$Row;", Cond.fieldLink RX1 7 "UndoCellar$Change" "isVoid" "Z"]
def wsX5_lockerOf : List Cond := .code yX5_lockerOf cX5_lockerOf 4 (some (.object "UndoCellar$Transaction")) :: ((wsX5_lockerOf_r1 ++ wsX5_lockerOf_r2) ++ wsX50 ++ wsX10 ++ wsX40 ++ wsJx4a65c0)
def wsX5_refuseIfLockedByAnother_r1 : List Cond := [Cond.classLink RX5 59 "java/lang/IllegalStateException", Cond.initialized "java/lang/IllegalStateException", Cond.methodLink RX5 174 yX5_lockerOf, Cond.instanceMethod yX5_lockerOf, Cond.selects RX5 yX5_lockerOf yX5_lockerOf, Cond.initialized RX5, Cond.code yX5_lockerOf cX5_lockerOf 4 (some (.object "UndoCellar$Transaction")), Cond.fieldLink RX5 28 "UndoCellar" "changes" "Ljava/util/ArrayList;", Cond.classLink RX5 126 "UndoCellar$Change", Cond.methodLink RX5 64 yJx4a65c_size_8abf5, Cond.instanceMethod yJx4a65c_size_8abf5, Cond.selects RJx4a65c yJx4a65c_size_8abf5 yJx4a65c_size_8abf5, Cond.initialized RJx4a65c, Cond.code yJx4a65c_size_8abf5 cJx4a65c_size_8abf5 1 (some .int), Cond.fieldLink RJx4a65c 48 "java/util/ArrayList" "size" "I", Cond.methodLink RX5 194 yJx4a65c_get_915e3, Cond.instanceMethod yJx4a65c_get_915e3, Cond.selects RJx4a65c yJx4a65c_get_915e3 yJx4a65c_get_915e3, Cond.code yJx4a65c_get_915e3 cJx4a65c_get_915e3 2 (some (.object "java/lang/Object")), Cond.methodLink RJx4a65c 118 yJ15_checkIndex_7cf53, Cond.static yJ15_checkIndex_7cf53, Cond.initialized RJ15, Cond.code yJ15_checkIndex_7cf53 cJ15_checkIndex_7cf53 2 (some .int), Cond.methodLink RJ15 105 yJ3_checkIndex_8e157]
def wsX5_refuseIfLockedByAnother_r2 : List Cond := [Cond.static yJ3_checkIndex_8e157, Cond.initialized RJ3, Cond.code yJ3_checkIndex_8e157 cJ3_checkIndex_8e157 3 (some .int), Cond.methodLink RJx4a65c 123 yJx4a65c_elementData_915e3, Cond.instanceMethod yJx4a65c_elementData_915e3, Cond.selects RJx4a65c yJx4a65c_elementData_915e3 yJx4a65c_elementData_915e3, Cond.code yJx4a65c_elementData_915e3 cJx4a65c_elementData_915e3 2 (some (.object "java/lang/Object")), Cond.fieldLink RJx4a65c 9 "java/util/ArrayList" "elementData" "[Ljava/lang/Object;", Cond.instanceMethod yX1_stands, Cond.initialized RX1, Cond.selects RX1 yX1_stands yX1_stands, Cond.code yX1_stands cX1_stands 2 (some .boolean), Cond.fieldLink RX1 17 "UndoCellar$Change" "row" "LUndoCellar$Row;", Cond.fieldLink RX1 7 "UndoCellar$Change" "isVoid" "Z"]
def wsX5_refuseIfLockedByAnother : List Cond := .code yX5_refuseIfLockedByAnother cX5_refuseIfLockedByAnother 4 none :: ((wsX5_refuseIfLockedByAnother_r1 ++ wsX5_refuseIfLockedByAnother_r2) ++ wsX50 ++ wsX10 ++ wsX40 ++ wsJx4a65c0 ++ (vx_atS RX5 63 "java/lang/IllegalStateException" ["java/lang/RuntimeException", "java/lang/Exception"]).filter goodWord)
def wsX5_isSpaceFull : List Cond := .code yX5_isSpaceFull cX5_isSpaceFull 1 (some .boolean) :: ([.fieldLink RX5 41 "UndoCellar" "droppedSoFar" "I", .fieldLink RX5 28 "UndoCellar" "changes" "Ljava/util/ArrayList;", .fieldLink RX5 31 "UndoCellar" "space" "I", .methodLink RX5 64 yJx4a65c_size_8abf5, .instanceMethod yJx4a65c_size_8abf5, .selects RJx4a65c yJx4a65c_size_8abf5 yJx4a65c_size_8abf5, .initialized RJx4a65c, .code yJx4a65c_size_8abf5 cJx4a65c_size_8abf5 1 (some .int), .fieldLink RJx4a65c 48 "java/util/ArrayList" "size" "I", .methodLink RX5 55 yX5_recordsThere, .instanceMethod yX5_recordsThere, .selects RX5 yX5_recordsThere yX5_recordsThere, .initialized RX5, .code yX5_recordsThere cX5_recordsThere 1 (some .int)] ++ wsX50 ++ wsJx4a65c0)
def wsX5_refuseIfNoSpace_r1 : List Cond := [Cond.classLink RX5 59 "java/lang/IllegalStateException", Cond.initialized "java/lang/IllegalStateException", Cond.fieldLink RX5 28 "UndoCellar" "changes" "Ljava/util/ArrayList;", Cond.fieldLink RX5 41 "UndoCellar" "droppedSoFar" "I", Cond.classLink RX5 126 "UndoCellar$Change", Cond.methodLink RX5 64 yJx4a65c_size_8abf5, Cond.instanceMethod yJx4a65c_size_8abf5, Cond.selects RJx4a65c yJx4a65c_size_8abf5 yJx4a65c_size_8abf5, Cond.initialized RJx4a65c, Cond.code yJx4a65c_size_8abf5 cJx4a65c_size_8abf5 1 (some .int), Cond.fieldLink RJx4a65c 48 "java/util/ArrayList" "size" "I", Cond.methodLink RX5 122 yX5_isSpaceFull, Cond.instanceMethod yX5_isSpaceFull, Cond.selects RX5 yX5_isSpaceFull yX5_isSpaceFull, Cond.initialized RX5, Cond.code yX5_isSpaceFull cX5_isSpaceFull 1 (some .boolean), Cond.fieldLink RX5 31 "UndoCellar" "space" "I", Cond.methodLink RX5 55 yX5_recordsThere, Cond.instanceMethod yX5_recordsThere, Cond.selects RX5 yX5_recordsThere yX5_recordsThere, Cond.code yX5_recordsThere cX5_recordsThere 1 (some .int), Cond.methodLink RX5 194 yJx4a65c_get_915e3, Cond.instanceMethod yJx4a65c_get_915e3, Cond.selects RJx4a65c yJx4a65c_get_915e3 yJx4a65c_get_915e3]
def wsX5_refuseIfNoSpace_r2 : List Cond := [Cond.code yJx4a65c_get_915e3 cJx4a65c_get_915e3 2 (some (.object "java/lang/Object")), Cond.methodLink RJx4a65c 118 yJ15_checkIndex_7cf53, Cond.static yJ15_checkIndex_7cf53, Cond.initialized RJ15, Cond.code yJ15_checkIndex_7cf53 cJ15_checkIndex_7cf53 2 (some .int), Cond.methodLink RJ15 105 yJ3_checkIndex_8e157, Cond.static yJ3_checkIndex_8e157, Cond.initialized RJ3, Cond.code yJ3_checkIndex_8e157 cJ3_checkIndex_8e157 3 (some .int), Cond.methodLink RJx4a65c 123 yJx4a65c_elementData_915e3, Cond.instanceMethod yJx4a65c_elementData_915e3, Cond.selects RJx4a65c yJx4a65c_elementData_915e3 yJx4a65c_elementData_915e3, Cond.code yJx4a65c_elementData_915e3 cJx4a65c_elementData_915e3 2 (some (.object "java/lang/Object")), Cond.fieldLink RJx4a65c 9 "java/util/ArrayList" "elementData" "[Ljava/lang/Object;"]
def wsX5_refuseIfNoSpace : List Cond := .code yX5_refuseIfNoSpace cX5_refuseIfNoSpace 1 none :: ((wsX5_refuseIfNoSpace_r1 ++ wsX5_refuseIfNoSpace_r2) ++ wsX50 ++ wsX10 ++ wsX40 ++ wsJx4a65c0 ++ (vx_atS RX5 63 "java/lang/IllegalStateException" ["java/lang/RuntimeException", "java/lang/Exception"]).filter goodWord)
def wsX5_clean : List Cond := .code yX5_clean cX5_clean 2 none :: ([.fieldLink RX5 38 "UndoCellar" "markedSoFar" "I", .instanceMethod yX0_markEnded, .initialized RX0, .selects RX0 yX0_markEnded yX0_markEnded, .code yX0_markEnded cX0_markEnded 6 (some .int), .fieldLink RX0 11 "UndoCellar$Block" "slots" "[LUndoCellar$Slot;", .instanceMethod yX3_isEnded, .initialized RX3, .selects RX3 yX3_isEnded yX3_isEnded, .code yX3_isEnded cX3_isEnded 1 (some .boolean), .fieldLink RX3 7 "UndoCellar$Slot" "holder" "LUndoCellar$Transaction;"] ++ wsX50 ++ wsX00 ++ wsX30 ++ wsX40)
def wsX5_write_r1 : List Cond := [Cond.classLink RX5 48 "java/lang/IllegalArgumentException", Cond.initialized "java/lang/IllegalArgumentException", Cond.classLink RX5 59 "java/lang/IllegalStateException", Cond.initialized "java/lang/IllegalStateException", Cond.constant RX5 89 (-1000000), Cond.constant RX5 90 (1000000), Cond.fieldLink RX5 41 "UndoCellar" "droppedSoFar" "I", Cond.classLink RX5 126 RX1, Cond.instantiable RX1 4, Cond.initialized RX1, Cond.fieldLink RX5 28 "UndoCellar" "changes" "Ljava/util/ArrayList;", Cond.methodLink RX5 81 yX5_transactionNumbered, Cond.instanceMethod yX5_transactionNumbered, Cond.selects RX5 yX5_transactionNumbered yX5_transactionNumbered, Cond.initialized RX5, Cond.code yX5_transactionNumbered cX5_transactionNumbered 2 (some (.object "UndoCellar$Transaction")), Cond.classLink RX5 189 "java/lang/IndexOutOfBoundsException", Cond.initialized "java/lang/IndexOutOfBoundsException", Cond.fieldLink RX5 24 "UndoCellar" "begun" "Ljava/util/ArrayList;", Cond.classLink RX5 69 "UndoCellar$Transaction", Cond.methodLink RX5 64 yJx4a65c_size_8abf5, Cond.instanceMethod yJx4a65c_size_8abf5, Cond.selects RJx4a65c yJx4a65c_size_8abf5 yJx4a65c_size_8abf5, Cond.initialized RJx4a65c]
def wsX5_write_r2 : List Cond := [Cond.code yJx4a65c_size_8abf5 cJx4a65c_size_8abf5 1 (some .int), Cond.fieldLink RJx4a65c 48 "java/util/ArrayList" "size" "I", Cond.methodLink RX5 194 yJx4a65c_get_915e3, Cond.instanceMethod yJx4a65c_get_915e3, Cond.selects RJx4a65c yJx4a65c_get_915e3 yJx4a65c_get_915e3, Cond.code yJx4a65c_get_915e3 cJx4a65c_get_915e3 2 (some (.object "java/lang/Object")), Cond.methodLink RJx4a65c 118 yJ15_checkIndex_7cf53, Cond.static yJ15_checkIndex_7cf53, Cond.initialized RJ15, Cond.code yJ15_checkIndex_7cf53 cJ15_checkIndex_7cf53 2 (some .int), Cond.methodLink RJ15 105 yJ3_checkIndex_8e157, Cond.static yJ3_checkIndex_8e157, Cond.initialized RJ3, Cond.code yJ3_checkIndex_8e157 cJ3_checkIndex_8e157 3 (some .int), Cond.methodLink RJx4a65c 123 yJx4a65c_elementData_915e3, Cond.instanceMethod yJx4a65c_elementData_915e3, Cond.selects RJx4a65c yJx4a65c_elementData_915e3 yJx4a65c_elementData_915e3, Cond.code yJx4a65c_elementData_915e3 cJx4a65c_elementData_915e3 2 (some (.object "java/lang/Object")), Cond.fieldLink RJx4a65c 9 "java/util/ArrayList" "elementData" "[Ljava/lang/Object;", Cond.methodLink RX5 85 yX5_rowNumbered, Cond.instanceMethod yX5_rowNumbered, Cond.selects RX5 yX5_rowNumbered yX5_rowNumbered, Cond.code yX5_rowNumbered cX5_rowNumbered 2 (some (.object "UndoCellar$Row")), Cond.fieldLink RX5 17 "UndoCellar" "rows" "[LUndoCellar$Row;"]
def wsX5_write_r3 : List Cond := [Cond.methodLink RX5 93 yX5_refuseIfEnded, Cond.instanceMethod yX5_refuseIfEnded, Cond.selects RX5 yX5_refuseIfEnded yX5_refuseIfEnded, Cond.code yX5_refuseIfEnded cX5_refuseIfEnded 2 none, Cond.methodLink RX5 97 yX5_refuseIfLockedByAnother, Cond.instanceMethod yX5_refuseIfLockedByAnother, Cond.selects RX5 yX5_refuseIfLockedByAnother yX5_refuseIfLockedByAnother, Cond.code yX5_refuseIfLockedByAnother cX5_refuseIfLockedByAnother 4 none, Cond.methodLink RX5 174 yX5_lockerOf, Cond.instanceMethod yX5_lockerOf, Cond.selects RX5 yX5_lockerOf yX5_lockerOf, Cond.code yX5_lockerOf cX5_lockerOf 4 (some (.object "UndoCellar$Transaction")), Cond.classLink RX5 126 "UndoCellar$Change", Cond.instanceMethod yX1_stands, Cond.selects RX1 yX1_stands yX1_stands, Cond.code yX1_stands cX1_stands 2 (some .boolean), Cond.fieldLink RX1 17 "UndoCellar$Change" "row" "LUndoCellar$Row;", Cond.fieldLink RX1 7 "UndoCellar$Change" "isVoid" "Z", Cond.methodLink RX5 101 yX5_refuseIfNoSpace, Cond.instanceMethod yX5_refuseIfNoSpace, Cond.selects RX5 yX5_refuseIfNoSpace yX5_refuseIfNoSpace, Cond.code yX5_refuseIfNoSpace cX5_refuseIfNoSpace 1 none, Cond.methodLink RX5 122 yX5_isSpaceFull, Cond.instanceMethod yX5_isSpaceFull]
def wsX5_write_r4 : List Cond := [Cond.selects RX5 yX5_isSpaceFull yX5_isSpaceFull, Cond.code yX5_isSpaceFull cX5_isSpaceFull 1 (some .boolean), Cond.fieldLink RX5 31 "UndoCellar" "space" "I", Cond.methodLink RX5 55 yX5_recordsThere, Cond.instanceMethod yX5_recordsThere, Cond.selects RX5 yX5_recordsThere yX5_recordsThere, Cond.code yX5_recordsThere cX5_recordsThere 1 (some .int), Cond.instanceMethod yX0_slotFor, Cond.initialized RX0, Cond.selects RX0 yX0_slotFor yX0_slotFor, Cond.code yX0_slotFor cX0_slotFor 6 (some (.object "UndoCellar$Slot")), Cond.fieldLink RX0 11 "UndoCellar$Block" "slots" "[LUndoCellar$Slot;", Cond.instanceMethod yX3_isEnded, Cond.initialized RX3, Cond.selects RX3 yX3_isEnded yX3_isEnded, Cond.code yX3_isEnded cX3_isEnded 1 (some .boolean), Cond.fieldLink RX3 7 "UndoCellar$Slot" "holder" "LUndoCellar$Transaction;", Cond.methodLink RX5 114 yX5_clean, Cond.instanceMethod yX5_clean, Cond.selects RX5 yX5_clean yX5_clean, Cond.code yX5_clean cX5_clean 2 none, Cond.fieldLink RX5 38 "UndoCellar" "markedSoFar" "I", Cond.instanceMethod yX0_markEnded, Cond.selects RX0 yX0_markEnded yX0_markEnded]
def wsX5_write_r5 : List Cond := [Cond.code yX0_markEnded cX0_markEnded 6 (some .int), Cond.instanceMethod yX3_give, Cond.selects RX3 yX3_give yX3_give, Cond.code yX3_give cX3_give 2 none, Cond.fieldLink RX3 13 "UndoCellar$Slot" "marked" "Z", Cond.instanceMethod yX1_init, Cond.code yX1_init cX1_init 4 none, Cond.methodLink RX1 1 objectInit, Cond.instanceMethod objectInit, Cond.code objectInit ⟨#[0xb1]⟩ 1 none, Cond.fieldLink RX1 13 "UndoCellar$Change" "transaction" "LUndoCellar$Transaction;", Cond.fieldLink RX1 21 "UndoCellar$Change" "ahead" "I", Cond.methodLink RX5 74 yJx4a65c_add_9ea2d, Cond.instanceMethod yJx4a65c_add_9ea2d, Cond.selects RJx4a65c yJx4a65c_add_9ea2d yJx4a65c_add_9ea2d, Cond.code yJx4a65c_add_9ea2d cJx4a65c_add_9ea2d 2 (some .boolean), Cond.fieldLink RJx4a65c 63 "java/util/ArrayList" "modCount" "I", Cond.sameField "java/util/ArrayList" "java/util/AbstractList" "modCount" "I", Cond.methodLink RJx4a65c 131 yJx4a65c_add_72be8, Cond.instanceMethod yJx4a65c_add_72be8, Cond.selects RJx4a65c yJx4a65c_add_72be8 yJx4a65c_add_72be8, Cond.code yJx4a65c_add_72be8 cJx4a65c_add_72be8 4 none, Cond.methodLink RJx4a65c 129 yJx4a65c_grow_d5877, Cond.instanceMethod yJx4a65c_grow_d5877]
def wsX5_write_r6 : List Cond := [Cond.selects RJx4a65c yJx4a65c_grow_d5877 yJx4a65c_grow_d5877, Cond.code yJx4a65c_grow_d5877 cJx4a65c_grow_d5877 1 (some (.array (.object "java/lang/Object"))), Cond.methodLink RJx4a65c 69 yJx4a65c_grow_92f84, Cond.instanceMethod yJx4a65c_grow_92f84, Cond.selects RJx4a65c yJx4a65c_grow_92f84 yJx4a65c_grow_92f84, Cond.code yJx4a65c_grow_92f84 cJx4a65c_grow_92f84 4 (some (.array (.object "java/lang/Object"))), Cond.fieldLink RJx4a65c 39 "java/util/ArrayList" "DEFAULTCAPACITY_EMPTY_ELEMENTDATA" "[Ljava/lang/Object;", Cond.methodLink RJx4a65c 79 Lib.Math.max.name, Cond.static Lib.Math.max.name, Cond.initialized "java/lang/Math", Cond.code Lib.Math.max.name Lib.Math.max.code 2 (some .int), Cond.classLink RJx4a65c 7 "java/lang/Object", Cond.methodLink RJx4a65c 73 yJ8_newLength_cabcc, Cond.static yJ8_newLength_cabcc, Cond.initialized RJ8, Cond.code yJ8_newLength_cabcc cJ8_newLength_cabcc 4 (some .int), Cond.methodLink RJ8 194 Lib.Math.max.name, Cond.constant RJ8 200 (2147483639), Cond.methodLink RJ8 201 yJ8_hugeLength_7cf53, Cond.static yJ8_hugeLength_7cf53, Cond.code yJ8_hugeLength_7cf53 cJ8_hugeLength_7cf53 3 (some .int), Cond.methodLink RJx4a65c 66 yJ7_copyOf_1904c, Cond.static yJ7_copyOf_1904c, Cond.initialized RJ7]
def wsX5_write_r7 : List Cond := [Cond.code yJ7_copyOf_1904c cJ7_copyOf_1904c 2 (some (.array (.object "java/lang/Object"))), Cond.methodLink RJ7 86 ⟨"java/lang/Object", "getClass", "()Ljava/lang/Class;"⟩, Cond.selects "[Ljava/lang/Object;" ⟨"java/lang/Object", "getClass", "()Ljava/lang/Class;"⟩ ⟨"java/lang/Object", "getClass", "()Ljava/lang/Class;"⟩, Cond.instanceMethod ⟨"java/lang/Object", "getClass", "()Ljava/lang/Class;"⟩, Cond.native ⟨"java/lang/Object", "getClass", "()Ljava/lang/Class;"⟩, Cond.methodLink RJ7 300 yJ7_copyOf_6403c, Cond.static yJ7_copyOf_6403c, Cond.code yJ7_copyOf_6403c cJ7_copyOf_6403c 4 (some (.array (.object "java/lang/Object"))), Cond.classLink RJ7 110 "[Ljava/lang/Object;", Cond.classLink RJ7 2 "java/lang/Object", Cond.methodLink RJ7 304 Lib.Math.min.name, Cond.static Lib.Math.min.name, Cond.code Lib.Math.min.name Lib.Math.min.code 2 (some .int), Cond.methodLink RJ7 150 arraycopyName, Cond.native arraycopyName, Cond.static arraycopyName, Cond.initialized "java/lang/System", Cond.instanceMethod yX1_make, Cond.selects RX1 yX1_make yX1_make, Cond.code yX1_make cX1_make 2 none]
def wsX5_write : List Cond := .code yX5_write cX5_write 8 (some .int) :: ((wsX5_write_r1 ++ (wsX5_write_r2 ++ (wsX5_write_r3 ++ (wsX5_write_r4 ++ (wsX5_write_r5 ++ (wsX5_write_r6 ++ wsX5_write_r7)))))) ++ wsX20 ++ wsX50 ++ wsX10 ++ wsJx4a65c0 ++ wsX40 ++ wsX00 ++ wsX30 ++ (vx_atS RX5 52 "java/lang/IllegalArgumentException" ["java/lang/RuntimeException", "java/lang/Exception"]).filter goodWord ++ (vx_atS RX5 63 "java/lang/IllegalStateException" ["java/lang/RuntimeException", "java/lang/Exception"]).filter goodWord ++ (vx_atS RX5 193 "java/lang/IndexOutOfBoundsException" ["java/lang/RuntimeException", "java/lang/Exception"]).filter goodWord)
def wsX5_oldestUnseen_r1 : List Cond := [Cond.fieldLink RX5 28 "UndoCellar" "changes" "Ljava/util/ArrayList;", Cond.classLink RX5 126 "UndoCellar$Change", Cond.methodLink RX5 64 yJx4a65c_size_8abf5, Cond.instanceMethod yJx4a65c_size_8abf5, Cond.selects RJx4a65c yJx4a65c_size_8abf5 yJx4a65c_size_8abf5, Cond.initialized RJx4a65c, Cond.code yJx4a65c_size_8abf5 cJx4a65c_size_8abf5 1 (some .int), Cond.fieldLink RJx4a65c 48 "java/util/ArrayList" "size" "I", Cond.methodLink RX5 194 yJx4a65c_get_915e3, Cond.instanceMethod yJx4a65c_get_915e3, Cond.selects RJx4a65c yJx4a65c_get_915e3 yJx4a65c_get_915e3, Cond.code yJx4a65c_get_915e3 cJx4a65c_get_915e3 2 (some (.object "java/lang/Object")), Cond.methodLink RJx4a65c 118 yJ15_checkIndex_7cf53, Cond.static yJ15_checkIndex_7cf53, Cond.initialized RJ15, Cond.code yJ15_checkIndex_7cf53 cJ15_checkIndex_7cf53 2 (some .int), Cond.methodLink RJ15 105 yJ3_checkIndex_8e157, Cond.static yJ3_checkIndex_8e157, Cond.initialized RJ3, Cond.code yJ3_checkIndex_8e157 cJ3_checkIndex_8e157 3 (some .int), Cond.methodLink RJx4a65c 123 yJx4a65c_elementData_915e3, Cond.instanceMethod yJx4a65c_elementData_915e3, Cond.selects RJx4a65c yJx4a65c_elementData_915e3 yJx4a65c_elementData_915e3, Cond.code yJx4a65c_elementData_915e3 cJx4a65c_elementData_915e3 2 (some (.object "java/lang/Object"))]
def wsX5_oldestUnseen_r2 : List Cond := [Cond.fieldLink RJx4a65c 9 "java/util/ArrayList" "elementData" "[Ljava/lang/Object;", Cond.instanceMethod yX1_stands, Cond.initialized RX1, Cond.selects RX1 yX1_stands yX1_stands, Cond.code yX1_stands cX1_stands 2 (some .boolean), Cond.fieldLink RX1 17 "UndoCellar$Change" "row" "LUndoCellar$Row;", Cond.fieldLink RX1 7 "UndoCellar$Change" "isVoid" "Z", Cond.instanceMethod yX1_isSeen, Cond.selects RX1 yX1_isSeen yX1_isSeen, Cond.code yX1_isSeen cX1_isSeen 3 (some .boolean), Cond.fieldLink RX1 13 "UndoCellar$Change" "transaction" "LUndoCellar$Transaction;", Cond.instanceMethod yX4_isCommittedBy, Cond.initialized RX4, Cond.selects RX4 yX4_isCommittedBy yX4_isCommittedBy, Cond.code yX4_isCommittedBy cX4_isCommittedBy 2 (some .boolean), Cond.fieldLink RX4 15 "UndoCellar$Transaction" "committedAt" "I"]
def wsX5_oldestUnseen : List Cond := .code yX5_oldestUnseen cX5_oldestUnseen 7 (some .int) :: ((wsX5_oldestUnseen_r1 ++ wsX5_oldestUnseen_r2) ++ wsX50 ++ wsJx4a65c0 ++ wsX10 ++ wsX40)
def wsX5_valueAheadOf_r1 : List Cond := [Cond.fieldLink RX5 28 "UndoCellar" "changes" "Ljava/util/ArrayList;", Cond.classLink RX5 126 "UndoCellar$Change", Cond.methodLink RX5 64 yJx4a65c_size_8abf5, Cond.instanceMethod yJx4a65c_size_8abf5, Cond.selects RJx4a65c yJx4a65c_size_8abf5 yJx4a65c_size_8abf5, Cond.initialized RJx4a65c, Cond.code yJx4a65c_size_8abf5 cJx4a65c_size_8abf5 1 (some .int), Cond.fieldLink RJx4a65c 48 "java/util/ArrayList" "size" "I", Cond.methodLink RX5 194 yJx4a65c_get_915e3, Cond.instanceMethod yJx4a65c_get_915e3, Cond.selects RJx4a65c yJx4a65c_get_915e3 yJx4a65c_get_915e3, Cond.code yJx4a65c_get_915e3 cJx4a65c_get_915e3 2 (some (.object "java/lang/Object")), Cond.methodLink RJx4a65c 118 yJ15_checkIndex_7cf53, Cond.static yJ15_checkIndex_7cf53, Cond.initialized RJ15, Cond.code yJ15_checkIndex_7cf53 cJ15_checkIndex_7cf53 2 (some .int), Cond.methodLink RJ15 105 yJ3_checkIndex_8e157, Cond.static yJ3_checkIndex_8e157, Cond.initialized RJ3, Cond.code yJ3_checkIndex_8e157 cJ3_checkIndex_8e157 3 (some .int), Cond.methodLink RJx4a65c 123 yJx4a65c_elementData_915e3, Cond.instanceMethod yJx4a65c_elementData_915e3, Cond.selects RJx4a65c yJx4a65c_elementData_915e3 yJx4a65c_elementData_915e3, Cond.code yJx4a65c_elementData_915e3 cJx4a65c_elementData_915e3 2 (some (.object "java/lang/Object"))]
def wsX5_valueAheadOf_r2 : List Cond := [Cond.fieldLink RJx4a65c 9 "java/util/ArrayList" "elementData" "[Ljava/lang/Object;"]
def wsX5_valueAheadOf : List Cond := .code yX5_valueAheadOf cX5_valueAheadOf 3 (some .int) :: ((wsX5_valueAheadOf_r1 ++ wsX5_valueAheadOf_r2) ++ wsX50 ++ wsX20 ++ wsX10 ++ wsJx4a65c0)
def wsX5_readFromRecords_r1 : List Cond := [Cond.classLink RX5 231 "java/util/NoSuchElementException", Cond.initialized "java/util/NoSuchElementException", Cond.fieldLink RX5 41 "UndoCellar" "droppedSoFar" "I", Cond.methodLink RX5 167 yX5_oldestUnseen, Cond.instanceMethod yX5_oldestUnseen, Cond.selects RX5 yX5_oldestUnseen yX5_oldestUnseen, Cond.initialized RX5, Cond.code yX5_oldestUnseen cX5_oldestUnseen 7 (some .int), Cond.fieldLink RX5 28 "UndoCellar" "changes" "Ljava/util/ArrayList;", Cond.classLink RX5 126 "UndoCellar$Change", Cond.methodLink RX5 64 yJx4a65c_size_8abf5, Cond.instanceMethod yJx4a65c_size_8abf5, Cond.selects RJx4a65c yJx4a65c_size_8abf5 yJx4a65c_size_8abf5, Cond.initialized RJx4a65c, Cond.code yJx4a65c_size_8abf5 cJx4a65c_size_8abf5 1 (some .int), Cond.fieldLink RJx4a65c 48 "java/util/ArrayList" "size" "I", Cond.methodLink RX5 194 yJx4a65c_get_915e3, Cond.instanceMethod yJx4a65c_get_915e3, Cond.selects RJx4a65c yJx4a65c_get_915e3 yJx4a65c_get_915e3, Cond.code yJx4a65c_get_915e3 cJx4a65c_get_915e3 2 (some (.object "java/lang/Object")), Cond.methodLink RJx4a65c 118 yJ15_checkIndex_7cf53, Cond.static yJ15_checkIndex_7cf53, Cond.initialized RJ15, Cond.code yJ15_checkIndex_7cf53 cJ15_checkIndex_7cf53 2 (some .int)]
def wsX5_readFromRecords_r2 : List Cond := [Cond.methodLink RJ15 105 yJ3_checkIndex_8e157, Cond.static yJ3_checkIndex_8e157, Cond.initialized RJ3, Cond.code yJ3_checkIndex_8e157 cJ3_checkIndex_8e157 3 (some .int), Cond.methodLink RJx4a65c 123 yJx4a65c_elementData_915e3, Cond.instanceMethod yJx4a65c_elementData_915e3, Cond.selects RJx4a65c yJx4a65c_elementData_915e3 yJx4a65c_elementData_915e3, Cond.code yJx4a65c_elementData_915e3 cJx4a65c_elementData_915e3 2 (some (.object "java/lang/Object")), Cond.fieldLink RJx4a65c 9 "java/util/ArrayList" "elementData" "[Ljava/lang/Object;", Cond.instanceMethod yX1_stands, Cond.initialized RX1, Cond.selects RX1 yX1_stands yX1_stands, Cond.code yX1_stands cX1_stands 2 (some .boolean), Cond.fieldLink RX1 17 "UndoCellar$Change" "row" "LUndoCellar$Row;", Cond.fieldLink RX1 7 "UndoCellar$Change" "isVoid" "Z", Cond.instanceMethod yX1_isSeen, Cond.selects RX1 yX1_isSeen yX1_isSeen, Cond.code yX1_isSeen cX1_isSeen 3 (some .boolean), Cond.fieldLink RX1 13 "UndoCellar$Change" "transaction" "LUndoCellar$Transaction;", Cond.instanceMethod yX4_isCommittedBy, Cond.initialized RX4, Cond.selects RX4 yX4_isCommittedBy yX4_isCommittedBy, Cond.code yX4_isCommittedBy cX4_isCommittedBy 2 (some .boolean), Cond.fieldLink RX4 15 "UndoCellar$Transaction" "committedAt" "I"]
def wsX5_readFromRecords_r3 : List Cond := [Cond.methodLink RX5 114 yX5_clean, Cond.instanceMethod yX5_clean, Cond.selects RX5 yX5_clean yX5_clean, Cond.code yX5_clean cX5_clean 2 none, Cond.fieldLink RX5 38 "UndoCellar" "markedSoFar" "I", Cond.instanceMethod yX0_markEnded, Cond.initialized RX0, Cond.selects RX0 yX0_markEnded yX0_markEnded, Cond.code yX0_markEnded cX0_markEnded 6 (some .int), Cond.fieldLink RX0 11 "UndoCellar$Block" "slots" "[LUndoCellar$Slot;", Cond.instanceMethod yX3_isEnded, Cond.initialized RX3, Cond.selects RX3 yX3_isEnded yX3_isEnded, Cond.code yX3_isEnded cX3_isEnded 1 (some .boolean), Cond.fieldLink RX3 7 "UndoCellar$Slot" "holder" "LUndoCellar$Transaction;", Cond.methodLink RX5 170 yX5_valueAheadOf, Cond.instanceMethod yX5_valueAheadOf, Cond.selects RX5 yX5_valueAheadOf yX5_valueAheadOf, Cond.code yX5_valueAheadOf cX5_valueAheadOf 3 (some .int)]
def wsX5_readFromRecords : List Cond := .code yX5_readFromRecords cX5_readFromRecords 5 (some .int) :: ((wsX5_readFromRecords_r1 ++ (wsX5_readFromRecords_r2 ++ wsX5_readFromRecords_r3)) ++ wsX50 ++ wsX20 ++ wsJx4a65c0 ++ wsX10 ++ wsX40 ++ wsX00 ++ wsX30 ++ (vx_atS RX5 235 "java/util/NoSuchElementException" ["java/lang/RuntimeException", "java/lang/Exception"]).filter goodWord)
def wsX5_read_r1 : List Cond := [Cond.methodLink RX5 81 yX5_transactionNumbered, Cond.instanceMethod yX5_transactionNumbered, Cond.selects RX5 yX5_transactionNumbered yX5_transactionNumbered, Cond.initialized RX5, Cond.code yX5_transactionNumbered cX5_transactionNumbered 2 (some (.object "UndoCellar$Transaction")), Cond.classLink RX5 189 "java/lang/IndexOutOfBoundsException", Cond.initialized "java/lang/IndexOutOfBoundsException", Cond.fieldLink RX5 24 "UndoCellar" "begun" "Ljava/util/ArrayList;", Cond.classLink RX5 69 "UndoCellar$Transaction", Cond.methodLink RX5 64 yJx4a65c_size_8abf5, Cond.instanceMethod yJx4a65c_size_8abf5, Cond.selects RJx4a65c yJx4a65c_size_8abf5 yJx4a65c_size_8abf5, Cond.initialized RJx4a65c, Cond.code yJx4a65c_size_8abf5 cJx4a65c_size_8abf5 1 (some .int), Cond.fieldLink RJx4a65c 48 "java/util/ArrayList" "size" "I", Cond.methodLink RX5 194 yJx4a65c_get_915e3, Cond.instanceMethod yJx4a65c_get_915e3, Cond.selects RJx4a65c yJx4a65c_get_915e3 yJx4a65c_get_915e3, Cond.code yJx4a65c_get_915e3 cJx4a65c_get_915e3 2 (some (.object "java/lang/Object")), Cond.methodLink RJx4a65c 118 yJ15_checkIndex_7cf53, Cond.static yJ15_checkIndex_7cf53, Cond.initialized RJ15, Cond.code yJ15_checkIndex_7cf53 cJ15_checkIndex_7cf53 2 (some .int), Cond.methodLink RJ15 105 yJ3_checkIndex_8e157]
def wsX5_read_r2 : List Cond := [Cond.static yJ3_checkIndex_8e157, Cond.initialized RJ3, Cond.code yJ3_checkIndex_8e157 cJ3_checkIndex_8e157 3 (some .int), Cond.methodLink RJx4a65c 123 yJx4a65c_elementData_915e3, Cond.instanceMethod yJx4a65c_elementData_915e3, Cond.selects RJx4a65c yJx4a65c_elementData_915e3 yJx4a65c_elementData_915e3, Cond.code yJx4a65c_elementData_915e3 cJx4a65c_elementData_915e3 2 (some (.object "java/lang/Object")), Cond.fieldLink RJx4a65c 9 "java/util/ArrayList" "elementData" "[Ljava/lang/Object;", Cond.methodLink RX5 85 yX5_rowNumbered, Cond.instanceMethod yX5_rowNumbered, Cond.selects RX5 yX5_rowNumbered yX5_rowNumbered, Cond.code yX5_rowNumbered cX5_rowNumbered 2 (some (.object "UndoCellar$Row")), Cond.fieldLink RX5 17 "UndoCellar" "rows" "[LUndoCellar$Row;", Cond.methodLink RX5 93 yX5_refuseIfEnded, Cond.instanceMethod yX5_refuseIfEnded, Cond.selects RX5 yX5_refuseIfEnded yX5_refuseIfEnded, Cond.code yX5_refuseIfEnded cX5_refuseIfEnded 2 none, Cond.classLink RX5 59 "java/lang/IllegalStateException", Cond.initialized "java/lang/IllegalStateException", Cond.methodLink RX5 144 yX5_readFromRecords, Cond.instanceMethod yX5_readFromRecords, Cond.selects RX5 yX5_readFromRecords yX5_readFromRecords, Cond.code yX5_readFromRecords cX5_readFromRecords 5 (some .int), Cond.classLink RX5 231 "java/util/NoSuchElementException"]
def wsX5_read_r3 : List Cond := [Cond.initialized "java/util/NoSuchElementException", Cond.fieldLink RX5 41 "UndoCellar" "droppedSoFar" "I", Cond.methodLink RX5 167 yX5_oldestUnseen, Cond.instanceMethod yX5_oldestUnseen, Cond.selects RX5 yX5_oldestUnseen yX5_oldestUnseen, Cond.code yX5_oldestUnseen cX5_oldestUnseen 7 (some .int), Cond.fieldLink RX5 28 "UndoCellar" "changes" "Ljava/util/ArrayList;", Cond.classLink RX5 126 "UndoCellar$Change", Cond.instanceMethod yX1_stands, Cond.initialized RX1, Cond.selects RX1 yX1_stands yX1_stands, Cond.code yX1_stands cX1_stands 2 (some .boolean), Cond.fieldLink RX1 17 "UndoCellar$Change" "row" "LUndoCellar$Row;", Cond.fieldLink RX1 7 "UndoCellar$Change" "isVoid" "Z", Cond.instanceMethod yX1_isSeen, Cond.selects RX1 yX1_isSeen yX1_isSeen, Cond.code yX1_isSeen cX1_isSeen 3 (some .boolean), Cond.fieldLink RX1 13 "UndoCellar$Change" "transaction" "LUndoCellar$Transaction;", Cond.instanceMethod yX4_isCommittedBy, Cond.initialized RX4, Cond.selects RX4 yX4_isCommittedBy yX4_isCommittedBy, Cond.code yX4_isCommittedBy cX4_isCommittedBy 2 (some .boolean), Cond.fieldLink RX4 15 "UndoCellar$Transaction" "committedAt" "I", Cond.methodLink RX5 114 yX5_clean]
def wsX5_read_r4 : List Cond := [Cond.instanceMethod yX5_clean, Cond.selects RX5 yX5_clean yX5_clean, Cond.code yX5_clean cX5_clean 2 none, Cond.fieldLink RX5 38 "UndoCellar" "markedSoFar" "I", Cond.instanceMethod yX0_markEnded, Cond.initialized RX0, Cond.selects RX0 yX0_markEnded yX0_markEnded, Cond.code yX0_markEnded cX0_markEnded 6 (some .int), Cond.fieldLink RX0 11 "UndoCellar$Block" "slots" "[LUndoCellar$Slot;", Cond.instanceMethod yX3_isEnded, Cond.initialized RX3, Cond.selects RX3 yX3_isEnded yX3_isEnded, Cond.code yX3_isEnded cX3_isEnded 1 (some .boolean), Cond.fieldLink RX3 7 "UndoCellar$Slot" "holder" "LUndoCellar$Transaction;", Cond.methodLink RX5 170 yX5_valueAheadOf, Cond.instanceMethod yX5_valueAheadOf, Cond.selects RX5 yX5_valueAheadOf yX5_valueAheadOf, Cond.code yX5_valueAheadOf cX5_valueAheadOf 3 (some .int)]
def wsX5_read : List Cond := .code yX5_read cX5_read 5 (some .int) :: ((wsX5_read_r1 ++ (wsX5_read_r2 ++ (wsX5_read_r3 ++ wsX5_read_r4))) ++ wsX40 ++ wsX50 ++ wsJx4a65c0 ++ wsX20 ++ wsX10 ++ wsX00 ++ wsX30 ++ (vx_atS RX5 193 "java/lang/IndexOutOfBoundsException" ["java/lang/RuntimeException", "java/lang/Exception"]).filter goodWord ++ (vx_atS RX5 63 "java/lang/IllegalStateException" ["java/lang/RuntimeException", "java/lang/Exception"]).filter goodWord ++ (vx_atS RX5 235 "java/util/NoSuchElementException" ["java/lang/RuntimeException", "java/lang/Exception"]).filter goodWord)
def wsX5_refuseIfNotYet : List Cond := .code yX5_refuseIfNotYet cX5_refuseIfNotYet 2 none :: ([.classLink RX5 48 "java/lang/IllegalArgumentException", .initialized "java/lang/IllegalArgumentException", .fieldLink RX5 35 "UndoCellar" "momentOfNow" "I"] ++ wsX50 ++ (vx_atS RX5 52 "java/lang/IllegalArgumentException" ["java/lang/RuntimeException", "java/lang/Exception"]).filter goodWord)
def wsX5_readAt_r1 : List Cond := [Cond.methodLink RX5 85 yX5_rowNumbered, Cond.instanceMethod yX5_rowNumbered, Cond.selects RX5 yX5_rowNumbered yX5_rowNumbered, Cond.initialized RX5, Cond.code yX5_rowNumbered cX5_rowNumbered 2 (some (.object "UndoCellar$Row")), Cond.classLink RX5 189 "java/lang/IndexOutOfBoundsException", Cond.initialized "java/lang/IndexOutOfBoundsException", Cond.fieldLink RX5 17 "UndoCellar" "rows" "[LUndoCellar$Row;", Cond.methodLink RX5 148 yX5_refuseIfNotYet, Cond.instanceMethod yX5_refuseIfNotYet, Cond.selects RX5 yX5_refuseIfNotYet yX5_refuseIfNotYet, Cond.code yX5_refuseIfNotYet cX5_refuseIfNotYet 2 none, Cond.classLink RX5 48 "java/lang/IllegalArgumentException", Cond.initialized "java/lang/IllegalArgumentException", Cond.fieldLink RX5 35 "UndoCellar" "momentOfNow" "I", Cond.methodLink RX5 144 yX5_readFromRecords, Cond.instanceMethod yX5_readFromRecords, Cond.selects RX5 yX5_readFromRecords yX5_readFromRecords, Cond.code yX5_readFromRecords cX5_readFromRecords 5 (some .int), Cond.classLink RX5 231 "java/util/NoSuchElementException", Cond.initialized "java/util/NoSuchElementException", Cond.fieldLink RX5 41 "UndoCellar" "droppedSoFar" "I", Cond.methodLink RX5 167 yX5_oldestUnseen, Cond.instanceMethod yX5_oldestUnseen]
def wsX5_readAt_r2 : List Cond := [Cond.selects RX5 yX5_oldestUnseen yX5_oldestUnseen, Cond.code yX5_oldestUnseen cX5_oldestUnseen 7 (some .int), Cond.fieldLink RX5 28 "UndoCellar" "changes" "Ljava/util/ArrayList;", Cond.classLink RX5 126 "UndoCellar$Change", Cond.methodLink RX5 64 yJx4a65c_size_8abf5, Cond.instanceMethod yJx4a65c_size_8abf5, Cond.selects RJx4a65c yJx4a65c_size_8abf5 yJx4a65c_size_8abf5, Cond.initialized RJx4a65c, Cond.code yJx4a65c_size_8abf5 cJx4a65c_size_8abf5 1 (some .int), Cond.fieldLink RJx4a65c 48 "java/util/ArrayList" "size" "I", Cond.methodLink RX5 194 yJx4a65c_get_915e3, Cond.instanceMethod yJx4a65c_get_915e3, Cond.selects RJx4a65c yJx4a65c_get_915e3 yJx4a65c_get_915e3, Cond.code yJx4a65c_get_915e3 cJx4a65c_get_915e3 2 (some (.object "java/lang/Object")), Cond.methodLink RJx4a65c 118 yJ15_checkIndex_7cf53, Cond.static yJ15_checkIndex_7cf53, Cond.initialized RJ15, Cond.code yJ15_checkIndex_7cf53 cJ15_checkIndex_7cf53 2 (some .int), Cond.methodLink RJ15 105 yJ3_checkIndex_8e157, Cond.static yJ3_checkIndex_8e157, Cond.initialized RJ3, Cond.code yJ3_checkIndex_8e157 cJ3_checkIndex_8e157 3 (some .int), Cond.methodLink RJx4a65c 123 yJx4a65c_elementData_915e3, Cond.instanceMethod yJx4a65c_elementData_915e3]
def wsX5_readAt_r3 : List Cond := [Cond.selects RJx4a65c yJx4a65c_elementData_915e3 yJx4a65c_elementData_915e3, Cond.code yJx4a65c_elementData_915e3 cJx4a65c_elementData_915e3 2 (some (.object "java/lang/Object")), Cond.fieldLink RJx4a65c 9 "java/util/ArrayList" "elementData" "[Ljava/lang/Object;", Cond.instanceMethod yX1_stands, Cond.initialized RX1, Cond.selects RX1 yX1_stands yX1_stands, Cond.code yX1_stands cX1_stands 2 (some .boolean), Cond.fieldLink RX1 17 "UndoCellar$Change" "row" "LUndoCellar$Row;", Cond.fieldLink RX1 7 "UndoCellar$Change" "isVoid" "Z", Cond.instanceMethod yX1_isSeen, Cond.selects RX1 yX1_isSeen yX1_isSeen, Cond.code yX1_isSeen cX1_isSeen 3 (some .boolean), Cond.fieldLink RX1 13 "UndoCellar$Change" "transaction" "LUndoCellar$Transaction;", Cond.instanceMethod yX4_isCommittedBy, Cond.initialized RX4, Cond.selects RX4 yX4_isCommittedBy yX4_isCommittedBy, Cond.code yX4_isCommittedBy cX4_isCommittedBy 2 (some .boolean), Cond.fieldLink RX4 15 "UndoCellar$Transaction" "committedAt" "I", Cond.methodLink RX5 114 yX5_clean, Cond.instanceMethod yX5_clean, Cond.selects RX5 yX5_clean yX5_clean, Cond.code yX5_clean cX5_clean 2 none, Cond.fieldLink RX5 38 "UndoCellar" "markedSoFar" "I", Cond.instanceMethod yX0_markEnded]
def wsX5_readAt_r4 : List Cond := [Cond.initialized RX0, Cond.selects RX0 yX0_markEnded yX0_markEnded, Cond.code yX0_markEnded cX0_markEnded 6 (some .int), Cond.fieldLink RX0 11 "UndoCellar$Block" "slots" "[LUndoCellar$Slot;", Cond.instanceMethod yX3_isEnded, Cond.initialized RX3, Cond.selects RX3 yX3_isEnded yX3_isEnded, Cond.code yX3_isEnded cX3_isEnded 1 (some .boolean), Cond.fieldLink RX3 7 "UndoCellar$Slot" "holder" "LUndoCellar$Transaction;", Cond.methodLink RX5 170 yX5_valueAheadOf, Cond.instanceMethod yX5_valueAheadOf, Cond.selects RX5 yX5_valueAheadOf yX5_valueAheadOf, Cond.code yX5_valueAheadOf cX5_valueAheadOf 3 (some .int)]
def wsX5_readAt : List Cond := .code yX5_readAt cX5_readAt 4 (some .int) :: ((wsX5_readAt_r1 ++ (wsX5_readAt_r2 ++ (wsX5_readAt_r3 ++ wsX5_readAt_r4))) ++ wsX50 ++ wsX20 ++ wsJx4a65c0 ++ wsX10 ++ wsX40 ++ wsX00 ++ wsX30 ++ (vx_atS RX5 193 "java/lang/IndexOutOfBoundsException" ["java/lang/RuntimeException", "java/lang/Exception"]).filter goodWord ++ (vx_atS RX5 52 "java/lang/IllegalArgumentException" ["java/lang/RuntimeException", "java/lang/Exception"]).filter goodWord ++ (vx_atS RX5 235 "java/util/NoSuchElementException" ["java/lang/RuntimeException", "java/lang/Exception"]).filter goodWord)
def wsX5_save_r1 : List Cond := [Cond.methodLink RX5 81 yX5_transactionNumbered, Cond.instanceMethod yX5_transactionNumbered, Cond.selects RX5 yX5_transactionNumbered yX5_transactionNumbered, Cond.initialized RX5, Cond.code yX5_transactionNumbered cX5_transactionNumbered 2 (some (.object "UndoCellar$Transaction")), Cond.classLink RX5 189 "java/lang/IndexOutOfBoundsException", Cond.initialized "java/lang/IndexOutOfBoundsException", Cond.fieldLink RX5 24 "UndoCellar" "begun" "Ljava/util/ArrayList;", Cond.classLink RX5 69 "UndoCellar$Transaction", Cond.methodLink RX5 64 yJx4a65c_size_8abf5, Cond.instanceMethod yJx4a65c_size_8abf5, Cond.selects RJx4a65c yJx4a65c_size_8abf5 yJx4a65c_size_8abf5, Cond.initialized RJx4a65c, Cond.code yJx4a65c_size_8abf5 cJx4a65c_size_8abf5 1 (some .int), Cond.fieldLink RJx4a65c 48 "java/util/ArrayList" "size" "I", Cond.methodLink RX5 194 yJx4a65c_get_915e3, Cond.instanceMethod yJx4a65c_get_915e3, Cond.selects RJx4a65c yJx4a65c_get_915e3 yJx4a65c_get_915e3, Cond.code yJx4a65c_get_915e3 cJx4a65c_get_915e3 2 (some (.object "java/lang/Object")), Cond.methodLink RJx4a65c 118 yJ15_checkIndex_7cf53, Cond.static yJ15_checkIndex_7cf53, Cond.initialized RJ15, Cond.code yJ15_checkIndex_7cf53 cJ15_checkIndex_7cf53 2 (some .int), Cond.methodLink RJ15 105 yJ3_checkIndex_8e157]
def wsX5_save_r2 : List Cond := [Cond.static yJ3_checkIndex_8e157, Cond.initialized RJ3, Cond.code yJ3_checkIndex_8e157 cJ3_checkIndex_8e157 3 (some .int), Cond.methodLink RJx4a65c 123 yJx4a65c_elementData_915e3, Cond.instanceMethod yJx4a65c_elementData_915e3, Cond.selects RJx4a65c yJx4a65c_elementData_915e3 yJx4a65c_elementData_915e3, Cond.code yJx4a65c_elementData_915e3 cJx4a65c_elementData_915e3 2 (some (.object "java/lang/Object")), Cond.fieldLink RJx4a65c 9 "java/util/ArrayList" "elementData" "[Ljava/lang/Object;", Cond.methodLink RX5 93 yX5_refuseIfEnded, Cond.instanceMethod yX5_refuseIfEnded, Cond.selects RX5 yX5_refuseIfEnded yX5_refuseIfEnded, Cond.code yX5_refuseIfEnded cX5_refuseIfEnded 2 none, Cond.classLink RX5 59 "java/lang/IllegalStateException", Cond.initialized "java/lang/IllegalStateException"]
def wsX5_save : List Cond := .code yX5_save cX5_save 3 (some .int) :: ((wsX5_save_r1 ++ wsX5_save_r2) ++ wsX40 ++ wsX50 ++ wsJx4a65c0 ++ (vx_atS RX5 193 "java/lang/IndexOutOfBoundsException" ["java/lang/RuntimeException", "java/lang/Exception"]).filter goodWord ++ (vx_atS RX5 63 "java/lang/IllegalStateException" ["java/lang/RuntimeException", "java/lang/Exception"]).filter goodWord)
def wsX5_undoDownTo_r1 : List Cond := [Cond.fieldLink RX5 28 "UndoCellar" "changes" "Ljava/util/ArrayList;", Cond.classLink RX5 126 "UndoCellar$Change", Cond.methodLink RX5 64 yJx4a65c_size_8abf5, Cond.instanceMethod yJx4a65c_size_8abf5, Cond.selects RJx4a65c yJx4a65c_size_8abf5 yJx4a65c_size_8abf5, Cond.initialized RJx4a65c, Cond.code yJx4a65c_size_8abf5 cJx4a65c_size_8abf5 1 (some .int), Cond.fieldLink RJx4a65c 48 "java/util/ArrayList" "size" "I", Cond.methodLink RX5 194 yJx4a65c_get_915e3, Cond.instanceMethod yJx4a65c_get_915e3, Cond.selects RJx4a65c yJx4a65c_get_915e3 yJx4a65c_get_915e3, Cond.code yJx4a65c_get_915e3 cJx4a65c_get_915e3 2 (some (.object "java/lang/Object")), Cond.methodLink RJx4a65c 118 yJ15_checkIndex_7cf53, Cond.static yJ15_checkIndex_7cf53, Cond.initialized RJ15, Cond.code yJ15_checkIndex_7cf53 cJ15_checkIndex_7cf53 2 (some .int), Cond.methodLink RJ15 105 yJ3_checkIndex_8e157, Cond.static yJ3_checkIndex_8e157, Cond.initialized RJ3, Cond.code yJ3_checkIndex_8e157 cJ3_checkIndex_8e157 3 (some .int), Cond.methodLink RJx4a65c 123 yJx4a65c_elementData_915e3, Cond.instanceMethod yJx4a65c_elementData_915e3, Cond.selects RJx4a65c yJx4a65c_elementData_915e3 yJx4a65c_elementData_915e3, Cond.code yJx4a65c_elementData_915e3 cJx4a65c_elementData_915e3 2 (some (.object "java/lang/Object"))]
def wsX5_undoDownTo_r2 : List Cond := [Cond.fieldLink RJx4a65c 9 "java/util/ArrayList" "elementData" "[Ljava/lang/Object;", Cond.instanceMethod yX1_takeBack, Cond.initialized RX1, Cond.selects RX1 yX1_takeBack yX1_takeBack, Cond.code yX1_takeBack cX1_takeBack 1 none, Cond.fieldLink RX1 17 "UndoCellar$Change" "row" "LUndoCellar$Row;", Cond.fieldLink RX1 21 "UndoCellar$Change" "ahead" "I", Cond.fieldLink RX1 7 "UndoCellar$Change" "isVoid" "Z", Cond.fieldLink RX1 13 "UndoCellar$Change" "transaction" "LUndoCellar$Transaction;"]
def wsX5_undoDownTo : List Cond := .code yX5_undoDownTo cX5_undoDownTo 6 (some .int) :: ((wsX5_undoDownTo_r1 ++ wsX5_undoDownTo_r2) ++ wsX50 ++ wsX40 ++ wsX10 ++ wsJx4a65c0 ++ wsX20)
def wsX5_undoTo_r1 : List Cond := [Cond.classLink RX5 48 "java/lang/IllegalArgumentException", Cond.initialized "java/lang/IllegalArgumentException", Cond.methodLink RX5 81 yX5_transactionNumbered, Cond.instanceMethod yX5_transactionNumbered, Cond.selects RX5 yX5_transactionNumbered yX5_transactionNumbered, Cond.initialized RX5, Cond.code yX5_transactionNumbered cX5_transactionNumbered 2 (some (.object "UndoCellar$Transaction")), Cond.classLink RX5 189 "java/lang/IndexOutOfBoundsException", Cond.initialized "java/lang/IndexOutOfBoundsException", Cond.fieldLink RX5 24 "UndoCellar" "begun" "Ljava/util/ArrayList;", Cond.classLink RX5 69 "UndoCellar$Transaction", Cond.methodLink RX5 64 yJx4a65c_size_8abf5, Cond.instanceMethod yJx4a65c_size_8abf5, Cond.selects RJx4a65c yJx4a65c_size_8abf5 yJx4a65c_size_8abf5, Cond.initialized RJx4a65c, Cond.code yJx4a65c_size_8abf5 cJx4a65c_size_8abf5 1 (some .int), Cond.fieldLink RJx4a65c 48 "java/util/ArrayList" "size" "I", Cond.methodLink RX5 194 yJx4a65c_get_915e3, Cond.instanceMethod yJx4a65c_get_915e3, Cond.selects RJx4a65c yJx4a65c_get_915e3 yJx4a65c_get_915e3, Cond.code yJx4a65c_get_915e3 cJx4a65c_get_915e3 2 (some (.object "java/lang/Object")), Cond.methodLink RJx4a65c 118 yJ15_checkIndex_7cf53, Cond.static yJ15_checkIndex_7cf53, Cond.initialized RJ15]
def wsX5_undoTo_r2 : List Cond := [Cond.code yJ15_checkIndex_7cf53 cJ15_checkIndex_7cf53 2 (some .int), Cond.methodLink RJ15 105 yJ3_checkIndex_8e157, Cond.static yJ3_checkIndex_8e157, Cond.initialized RJ3, Cond.code yJ3_checkIndex_8e157 cJ3_checkIndex_8e157 3 (some .int), Cond.methodLink RJx4a65c 123 yJx4a65c_elementData_915e3, Cond.instanceMethod yJx4a65c_elementData_915e3, Cond.selects RJx4a65c yJx4a65c_elementData_915e3 yJx4a65c_elementData_915e3, Cond.code yJx4a65c_elementData_915e3 cJx4a65c_elementData_915e3 2 (some (.object "java/lang/Object")), Cond.fieldLink RJx4a65c 9 "java/util/ArrayList" "elementData" "[Ljava/lang/Object;", Cond.methodLink RX5 93 yX5_refuseIfEnded, Cond.instanceMethod yX5_refuseIfEnded, Cond.selects RX5 yX5_refuseIfEnded yX5_refuseIfEnded, Cond.code yX5_refuseIfEnded cX5_refuseIfEnded 2 none, Cond.classLink RX5 59 "java/lang/IllegalStateException", Cond.initialized "java/lang/IllegalStateException", Cond.methodLink RX5 156 yX5_undoDownTo, Cond.instanceMethod yX5_undoDownTo, Cond.selects RX5 yX5_undoDownTo yX5_undoDownTo, Cond.code yX5_undoDownTo cX5_undoDownTo 6 (some .int), Cond.fieldLink RX5 28 "UndoCellar" "changes" "Ljava/util/ArrayList;", Cond.classLink RX5 126 "UndoCellar$Change", Cond.instanceMethod yX1_takeBack, Cond.initialized RX1]
def wsX5_undoTo_r3 : List Cond := [Cond.selects RX1 yX1_takeBack yX1_takeBack, Cond.code yX1_takeBack cX1_takeBack 1 none, Cond.fieldLink RX1 17 "UndoCellar$Change" "row" "LUndoCellar$Row;", Cond.fieldLink RX1 21 "UndoCellar$Change" "ahead" "I", Cond.fieldLink RX1 7 "UndoCellar$Change" "isVoid" "Z", Cond.fieldLink RX1 13 "UndoCellar$Change" "transaction" "LUndoCellar$Transaction;"]
def wsX5_undoTo : List Cond := .code yX5_undoTo cX5_undoTo 4 (some .int) :: ((wsX5_undoTo_r1 ++ (wsX5_undoTo_r2 ++ wsX5_undoTo_r3)) ++ wsX40 ++ wsX50 ++ wsJx4a65c0 ++ wsX10 ++ wsX20 ++ (vx_atS RX5 52 "java/lang/IllegalArgumentException" ["java/lang/RuntimeException", "java/lang/Exception"]).filter goodWord ++ (vx_atS RX5 193 "java/lang/IndexOutOfBoundsException" ["java/lang/RuntimeException", "java/lang/Exception"]).filter goodWord ++ (vx_atS RX5 63 "java/lang/IllegalStateException" ["java/lang/RuntimeException", "java/lang/Exception"]).filter goodWord)
def wsX5_undo_r1 : List Cond := [Cond.methodLink RX5 81 yX5_transactionNumbered, Cond.instanceMethod yX5_transactionNumbered, Cond.selects RX5 yX5_transactionNumbered yX5_transactionNumbered, Cond.initialized RX5, Cond.code yX5_transactionNumbered cX5_transactionNumbered 2 (some (.object "UndoCellar$Transaction")), Cond.classLink RX5 189 "java/lang/IndexOutOfBoundsException", Cond.initialized "java/lang/IndexOutOfBoundsException", Cond.fieldLink RX5 24 "UndoCellar" "begun" "Ljava/util/ArrayList;", Cond.classLink RX5 69 "UndoCellar$Transaction", Cond.methodLink RX5 64 yJx4a65c_size_8abf5, Cond.instanceMethod yJx4a65c_size_8abf5, Cond.selects RJx4a65c yJx4a65c_size_8abf5 yJx4a65c_size_8abf5, Cond.initialized RJx4a65c, Cond.code yJx4a65c_size_8abf5 cJx4a65c_size_8abf5 1 (some .int), Cond.fieldLink RJx4a65c 48 "java/util/ArrayList" "size" "I", Cond.methodLink RX5 194 yJx4a65c_get_915e3, Cond.instanceMethod yJx4a65c_get_915e3, Cond.selects RJx4a65c yJx4a65c_get_915e3 yJx4a65c_get_915e3, Cond.code yJx4a65c_get_915e3 cJx4a65c_get_915e3 2 (some (.object "java/lang/Object")), Cond.methodLink RJx4a65c 118 yJ15_checkIndex_7cf53, Cond.static yJ15_checkIndex_7cf53, Cond.initialized RJ15, Cond.code yJ15_checkIndex_7cf53 cJ15_checkIndex_7cf53 2 (some .int), Cond.methodLink RJ15 105 yJ3_checkIndex_8e157]
def wsX5_undo_r2 : List Cond := [Cond.static yJ3_checkIndex_8e157, Cond.initialized RJ3, Cond.code yJ3_checkIndex_8e157 cJ3_checkIndex_8e157 3 (some .int), Cond.methodLink RJx4a65c 123 yJx4a65c_elementData_915e3, Cond.instanceMethod yJx4a65c_elementData_915e3, Cond.selects RJx4a65c yJx4a65c_elementData_915e3 yJx4a65c_elementData_915e3, Cond.code yJx4a65c_elementData_915e3 cJx4a65c_elementData_915e3 2 (some (.object "java/lang/Object")), Cond.fieldLink RJx4a65c 9 "java/util/ArrayList" "elementData" "[Ljava/lang/Object;", Cond.methodLink RX5 93 yX5_refuseIfEnded, Cond.instanceMethod yX5_refuseIfEnded, Cond.selects RX5 yX5_refuseIfEnded yX5_refuseIfEnded, Cond.code yX5_refuseIfEnded cX5_refuseIfEnded 2 none, Cond.classLink RX5 59 "java/lang/IllegalStateException", Cond.initialized "java/lang/IllegalStateException", Cond.methodLink RX5 156 yX5_undoDownTo, Cond.instanceMethod yX5_undoDownTo, Cond.selects RX5 yX5_undoDownTo yX5_undoDownTo, Cond.code yX5_undoDownTo cX5_undoDownTo 6 (some .int), Cond.fieldLink RX5 28 "UndoCellar" "changes" "Ljava/util/ArrayList;", Cond.classLink RX5 126 "UndoCellar$Change", Cond.instanceMethod yX1_takeBack, Cond.initialized RX1, Cond.selects RX1 yX1_takeBack yX1_takeBack, Cond.code yX1_takeBack cX1_takeBack 1 none]
def wsX5_undo_r3 : List Cond := [Cond.fieldLink RX1 17 "UndoCellar$Change" "row" "LUndoCellar$Row;", Cond.fieldLink RX1 21 "UndoCellar$Change" "ahead" "I", Cond.fieldLink RX1 7 "UndoCellar$Change" "isVoid" "Z", Cond.fieldLink RX1 13 "UndoCellar$Change" "transaction" "LUndoCellar$Transaction;"]
def wsX5_undo : List Cond := .code yX5_undo cX5_undo 4 (some .int) :: ((wsX5_undo_r1 ++ (wsX5_undo_r2 ++ wsX5_undo_r3)) ++ wsX40 ++ wsX50 ++ wsJx4a65c0 ++ wsX10 ++ wsX20 ++ (vx_atS RX5 193 "java/lang/IndexOutOfBoundsException" ["java/lang/RuntimeException", "java/lang/Exception"]).filter goodWord ++ (vx_atS RX5 63 "java/lang/IllegalStateException" ["java/lang/RuntimeException", "java/lang/Exception"]).filter goodWord)
def wsX5_commit_r1 : List Cond := [Cond.fieldLink RX5 35 "UndoCellar" "momentOfNow" "I", Cond.methodLink RX5 81 yX5_transactionNumbered, Cond.instanceMethod yX5_transactionNumbered, Cond.selects RX5 yX5_transactionNumbered yX5_transactionNumbered, Cond.initialized RX5, Cond.code yX5_transactionNumbered cX5_transactionNumbered 2 (some (.object "UndoCellar$Transaction")), Cond.classLink RX5 189 "java/lang/IndexOutOfBoundsException", Cond.initialized "java/lang/IndexOutOfBoundsException", Cond.fieldLink RX5 24 "UndoCellar" "begun" "Ljava/util/ArrayList;", Cond.classLink RX5 69 "UndoCellar$Transaction", Cond.methodLink RX5 64 yJx4a65c_size_8abf5, Cond.instanceMethod yJx4a65c_size_8abf5, Cond.selects RJx4a65c yJx4a65c_size_8abf5 yJx4a65c_size_8abf5, Cond.initialized RJx4a65c, Cond.code yJx4a65c_size_8abf5 cJx4a65c_size_8abf5 1 (some .int), Cond.fieldLink RJx4a65c 48 "java/util/ArrayList" "size" "I", Cond.methodLink RX5 194 yJx4a65c_get_915e3, Cond.instanceMethod yJx4a65c_get_915e3, Cond.selects RJx4a65c yJx4a65c_get_915e3 yJx4a65c_get_915e3, Cond.code yJx4a65c_get_915e3 cJx4a65c_get_915e3 2 (some (.object "java/lang/Object")), Cond.methodLink RJx4a65c 118 yJ15_checkIndex_7cf53, Cond.static yJ15_checkIndex_7cf53, Cond.initialized RJ15, Cond.code yJ15_checkIndex_7cf53 cJ15_checkIndex_7cf53 2 (some .int)]
def wsX5_commit_r2 : List Cond := [Cond.methodLink RJ15 105 yJ3_checkIndex_8e157, Cond.static yJ3_checkIndex_8e157, Cond.initialized RJ3, Cond.code yJ3_checkIndex_8e157 cJ3_checkIndex_8e157 3 (some .int), Cond.methodLink RJx4a65c 123 yJx4a65c_elementData_915e3, Cond.instanceMethod yJx4a65c_elementData_915e3, Cond.selects RJx4a65c yJx4a65c_elementData_915e3 yJx4a65c_elementData_915e3, Cond.code yJx4a65c_elementData_915e3 cJx4a65c_elementData_915e3 2 (some (.object "java/lang/Object")), Cond.fieldLink RJx4a65c 9 "java/util/ArrayList" "elementData" "[Ljava/lang/Object;", Cond.methodLink RX5 93 yX5_refuseIfEnded, Cond.instanceMethod yX5_refuseIfEnded, Cond.selects RX5 yX5_refuseIfEnded yX5_refuseIfEnded, Cond.code yX5_refuseIfEnded cX5_refuseIfEnded 2 none, Cond.classLink RX5 59 "java/lang/IllegalStateException", Cond.initialized "java/lang/IllegalStateException"]
def wsX5_commit : List Cond := .code yX5_commit cX5_commit 3 (some .int) :: ((wsX5_commit_r1 ++ wsX5_commit_r2) ++ wsX50 ++ wsX40 ++ wsJx4a65c0 ++ (vx_atS RX5 193 "java/lang/IndexOutOfBoundsException" ["java/lang/RuntimeException", "java/lang/Exception"]).filter goodWord ++ (vx_atS RX5 63 "java/lang/IllegalStateException" ["java/lang/RuntimeException", "java/lang/Exception"]).filter goodWord)
def wsX5_moment : List Cond := .code yX5_moment cX5_moment 1 (some .int) :: ([.fieldLink RX5 35 "UndoCellar" "momentOfNow" "I"] ++ wsX50)
def wsX5_transactions : List Cond := .code yX5_transactions cX5_transactions 1 (some .int) :: ([.fieldLink RX5 24 "UndoCellar" "begun" "Ljava/util/ArrayList;", .methodLink RX5 64 yJx4a65c_size_8abf5, .instanceMethod yJx4a65c_size_8abf5, .selects RJx4a65c yJx4a65c_size_8abf5 yJx4a65c_size_8abf5, .initialized RJx4a65c, .code yJx4a65c_size_8abf5 cJx4a65c_size_8abf5 1 (some .int), .fieldLink RJx4a65c 48 "java/util/ArrayList" "size" "I"] ++ wsX50 ++ wsJx4a65c0)
def wsX5_now : List Cond := .code yX5_now cX5_now 2 (some .int) :: ([.methodLink RX5 85 yX5_rowNumbered, .instanceMethod yX5_rowNumbered, .selects RX5 yX5_rowNumbered yX5_rowNumbered, .initialized RX5, .code yX5_rowNumbered cX5_rowNumbered 2 (some (.object "UndoCellar$Row")), .classLink RX5 189 "java/lang/IndexOutOfBoundsException", .initialized "java/lang/IndexOutOfBoundsException", .fieldLink RX5 17 "UndoCellar" "rows" "[LUndoCellar$Row;"] ++ wsX20 ++ wsX50 ++ (vx_atS RX5 193 "java/lang/IndexOutOfBoundsException" ["java/lang/RuntimeException", "java/lang/Exception"]).filter goodWord)
def wsX5_versionAt_r1 : List Cond := [Cond.methodLink RX5 85 yX5_rowNumbered, Cond.instanceMethod yX5_rowNumbered, Cond.selects RX5 yX5_rowNumbered yX5_rowNumbered, Cond.initialized RX5, Cond.code yX5_rowNumbered cX5_rowNumbered 2 (some (.object "UndoCellar$Row")), Cond.classLink RX5 189 "java/lang/IndexOutOfBoundsException", Cond.initialized "java/lang/IndexOutOfBoundsException", Cond.fieldLink RX5 17 "UndoCellar" "rows" "[LUndoCellar$Row;", Cond.methodLink RX5 148 yX5_refuseIfNotYet, Cond.instanceMethod yX5_refuseIfNotYet, Cond.selects RX5 yX5_refuseIfNotYet yX5_refuseIfNotYet, Cond.code yX5_refuseIfNotYet cX5_refuseIfNotYet 2 none, Cond.classLink RX5 48 "java/lang/IllegalArgumentException", Cond.initialized "java/lang/IllegalArgumentException", Cond.fieldLink RX5 35 "UndoCellar" "momentOfNow" "I", Cond.methodLink RX5 167 yX5_oldestUnseen, Cond.instanceMethod yX5_oldestUnseen, Cond.selects RX5 yX5_oldestUnseen yX5_oldestUnseen, Cond.code yX5_oldestUnseen cX5_oldestUnseen 7 (some .int), Cond.fieldLink RX5 28 "UndoCellar" "changes" "Ljava/util/ArrayList;", Cond.classLink RX5 126 "UndoCellar$Change", Cond.methodLink RX5 64 yJx4a65c_size_8abf5, Cond.instanceMethod yJx4a65c_size_8abf5, Cond.selects RJx4a65c yJx4a65c_size_8abf5 yJx4a65c_size_8abf5]
def wsX5_versionAt_r2 : List Cond := [Cond.initialized RJx4a65c, Cond.code yJx4a65c_size_8abf5 cJx4a65c_size_8abf5 1 (some .int), Cond.fieldLink RJx4a65c 48 "java/util/ArrayList" "size" "I", Cond.methodLink RX5 194 yJx4a65c_get_915e3, Cond.instanceMethod yJx4a65c_get_915e3, Cond.selects RJx4a65c yJx4a65c_get_915e3 yJx4a65c_get_915e3, Cond.code yJx4a65c_get_915e3 cJx4a65c_get_915e3 2 (some (.object "java/lang/Object")), Cond.methodLink RJx4a65c 118 yJ15_checkIndex_7cf53, Cond.static yJ15_checkIndex_7cf53, Cond.initialized RJ15, Cond.code yJ15_checkIndex_7cf53 cJ15_checkIndex_7cf53 2 (some .int), Cond.methodLink RJ15 105 yJ3_checkIndex_8e157, Cond.static yJ3_checkIndex_8e157, Cond.initialized RJ3, Cond.code yJ3_checkIndex_8e157 cJ3_checkIndex_8e157 3 (some .int), Cond.methodLink RJx4a65c 123 yJx4a65c_elementData_915e3, Cond.instanceMethod yJx4a65c_elementData_915e3, Cond.selects RJx4a65c yJx4a65c_elementData_915e3 yJx4a65c_elementData_915e3, Cond.code yJx4a65c_elementData_915e3 cJx4a65c_elementData_915e3 2 (some (.object "java/lang/Object")), Cond.fieldLink RJx4a65c 9 "java/util/ArrayList" "elementData" "[Ljava/lang/Object;", Cond.instanceMethod yX1_stands, Cond.initialized RX1, Cond.selects RX1 yX1_stands yX1_stands, Cond.code yX1_stands cX1_stands 2 (some .boolean)]
def wsX5_versionAt_r3 : List Cond := [Cond.fieldLink RX1 17 "UndoCellar$Change" "row" "LUndoCellar$Row;", Cond.fieldLink RX1 7 "UndoCellar$Change" "isVoid" "Z", Cond.instanceMethod yX1_isSeen, Cond.selects RX1 yX1_isSeen yX1_isSeen, Cond.code yX1_isSeen cX1_isSeen 3 (some .boolean), Cond.fieldLink RX1 13 "UndoCellar$Change" "transaction" "LUndoCellar$Transaction;", Cond.instanceMethod yX4_isCommittedBy, Cond.initialized RX4, Cond.selects RX4 yX4_isCommittedBy yX4_isCommittedBy, Cond.code yX4_isCommittedBy cX4_isCommittedBy 2 (some .boolean), Cond.fieldLink RX4 15 "UndoCellar$Transaction" "committedAt" "I", Cond.methodLink RX5 170 yX5_valueAheadOf, Cond.instanceMethod yX5_valueAheadOf, Cond.selects RX5 yX5_valueAheadOf yX5_valueAheadOf, Cond.code yX5_valueAheadOf cX5_valueAheadOf 3 (some .int)]
def wsX5_versionAt : List Cond := .code yX5_versionAt cX5_versionAt 4 (some .int) :: ((wsX5_versionAt_r1 ++ (wsX5_versionAt_r2 ++ wsX5_versionAt_r3)) ++ wsX50 ++ wsJx4a65c0 ++ wsX10 ++ wsX40 ++ wsX20 ++ (vx_atS RX5 193 "java/lang/IndexOutOfBoundsException" ["java/lang/RuntimeException", "java/lang/Exception"]).filter goodWord ++ (vx_atS RX5 52 "java/lang/IllegalArgumentException" ["java/lang/RuntimeException", "java/lang/Exception"]).filter goodWord)
def wsX5_lockOf_r1 : List Cond := [Cond.methodLink RX5 85 yX5_rowNumbered, Cond.instanceMethod yX5_rowNumbered, Cond.selects RX5 yX5_rowNumbered yX5_rowNumbered, Cond.initialized RX5, Cond.code yX5_rowNumbered cX5_rowNumbered 2 (some (.object "UndoCellar$Row")), Cond.classLink RX5 189 "java/lang/IndexOutOfBoundsException", Cond.initialized "java/lang/IndexOutOfBoundsException", Cond.fieldLink RX5 17 "UndoCellar" "rows" "[LUndoCellar$Row;", Cond.methodLink RX5 174 yX5_lockerOf, Cond.instanceMethod yX5_lockerOf, Cond.selects RX5 yX5_lockerOf yX5_lockerOf, Cond.code yX5_lockerOf cX5_lockerOf 4 (some (.object "UndoCellar$Transaction")), Cond.fieldLink RX5 28 "UndoCellar" "changes" "Ljava/util/ArrayList;", Cond.classLink RX5 126 "UndoCellar$Change", Cond.methodLink RX5 64 yJx4a65c_size_8abf5, Cond.instanceMethod yJx4a65c_size_8abf5, Cond.selects RJx4a65c yJx4a65c_size_8abf5 yJx4a65c_size_8abf5, Cond.initialized RJx4a65c, Cond.code yJx4a65c_size_8abf5 cJx4a65c_size_8abf5 1 (some .int), Cond.fieldLink RJx4a65c 48 "java/util/ArrayList" "size" "I", Cond.methodLink RX5 194 yJx4a65c_get_915e3, Cond.instanceMethod yJx4a65c_get_915e3, Cond.selects RJx4a65c yJx4a65c_get_915e3 yJx4a65c_get_915e3, Cond.code yJx4a65c_get_915e3 cJx4a65c_get_915e3 2 (some (.object "java/lang/Object"))]
def wsX5_lockOf_r2 : List Cond := [Cond.methodLink RJx4a65c 118 yJ15_checkIndex_7cf53, Cond.static yJ15_checkIndex_7cf53, Cond.initialized RJ15, Cond.code yJ15_checkIndex_7cf53 cJ15_checkIndex_7cf53 2 (some .int), Cond.methodLink RJ15 105 yJ3_checkIndex_8e157, Cond.static yJ3_checkIndex_8e157, Cond.initialized RJ3, Cond.code yJ3_checkIndex_8e157 cJ3_checkIndex_8e157 3 (some .int), Cond.methodLink RJx4a65c 123 yJx4a65c_elementData_915e3, Cond.instanceMethod yJx4a65c_elementData_915e3, Cond.selects RJx4a65c yJx4a65c_elementData_915e3 yJx4a65c_elementData_915e3, Cond.code yJx4a65c_elementData_915e3 cJx4a65c_elementData_915e3 2 (some (.object "java/lang/Object")), Cond.fieldLink RJx4a65c 9 "java/util/ArrayList" "elementData" "[Ljava/lang/Object;", Cond.instanceMethod yX1_stands, Cond.initialized RX1, Cond.selects RX1 yX1_stands yX1_stands, Cond.code yX1_stands cX1_stands 2 (some .boolean), Cond.fieldLink RX1 17 "UndoCellar$Change" "row" "LUndoCellar$Row;", Cond.fieldLink RX1 7 "UndoCellar$Change" "isVoid" "Z"]
def wsX5_lockOf : List Cond := .code yX5_lockOf cX5_lockOf 3 (some .int) :: ((wsX5_lockOf_r1 ++ wsX5_lockOf_r2) ++ wsX40 ++ wsX50 ++ wsX10 ++ wsJx4a65c0 ++ (vx_atS RX5 193 "java/lang/IndexOutOfBoundsException" ["java/lang/RuntimeException", "java/lang/Exception"]).filter goodWord)
def wsX5_slotNumbered : List Cond := .code yX5_slotNumbered cX5_slotNumbered 4 (some (.object "UndoCellar$Slot")) :: ([.classLink RX5 189 "java/lang/IndexOutOfBoundsException", .initialized "java/lang/IndexOutOfBoundsException", .fieldLink RX5 11 "UndoCellar" "blocks" "[LUndoCellar$Block;"] ++ wsX50 ++ wsX00 ++ (vx_atS RX5 193 "java/lang/IndexOutOfBoundsException" ["java/lang/RuntimeException", "java/lang/Exception"]).filter goodWord)
def wsX5_slotOf : List Cond := .code yX5_slotOf cX5_slotOf 4 (some .int) :: ([.methodLink RX5 178 yX5_slotNumbered, .instanceMethod yX5_slotNumbered, .selects RX5 yX5_slotNumbered yX5_slotNumbered, .initialized RX5, .code yX5_slotNumbered cX5_slotNumbered 4 (some (.object "UndoCellar$Slot")), .classLink RX5 189 "java/lang/IndexOutOfBoundsException", .initialized "java/lang/IndexOutOfBoundsException", .fieldLink RX5 11 "UndoCellar" "blocks" "[LUndoCellar$Block;"] ++ wsX30 ++ wsX40 ++ wsX50 ++ wsX00 ++ (vx_atS RX5 193 "java/lang/IndexOutOfBoundsException" ["java/lang/RuntimeException", "java/lang/Exception"]).filter goodWord)
def wsX5_isMarked : List Cond := .code yX5_isMarked cX5_isMarked 3 (some .boolean) :: ([.methodLink RX5 178 yX5_slotNumbered, .instanceMethod yX5_slotNumbered, .selects RX5 yX5_slotNumbered yX5_slotNumbered, .initialized RX5, .code yX5_slotNumbered cX5_slotNumbered 4 (some (.object "UndoCellar$Slot")), .classLink RX5 189 "java/lang/IndexOutOfBoundsException", .initialized "java/lang/IndexOutOfBoundsException", .fieldLink RX5 11 "UndoCellar" "blocks" "[LUndoCellar$Block;"] ++ wsX30 ++ wsX50 ++ wsX00 ++ (vx_atS RX5 193 "java/lang/IndexOutOfBoundsException" ["java/lang/RuntimeException", "java/lang/Exception"]).filter goodWord)
def wsX5_marked : List Cond := .code yX5_marked cX5_marked 1 (some .int) :: ([.fieldLink RX5 38 "UndoCellar" "markedSoFar" "I"] ++ wsX50)
def wsX5_records : List Cond := .code yX5_records cX5_records 1 (some .int) :: ([.methodLink RX5 55 yX5_recordsThere, .instanceMethod yX5_recordsThere, .selects RX5 yX5_recordsThere yX5_recordsThere, .initialized RX5, .code yX5_recordsThere cX5_recordsThere 1 (some .int), .fieldLink RX5 28 "UndoCellar" "changes" "Ljava/util/ArrayList;", .fieldLink RX5 41 "UndoCellar" "droppedSoFar" "I", .methodLink RX5 64 yJx4a65c_size_8abf5, .instanceMethod yJx4a65c_size_8abf5, .selects RJx4a65c yJx4a65c_size_8abf5 yJx4a65c_size_8abf5, .initialized RJx4a65c, .code yJx4a65c_size_8abf5 cJx4a65c_size_8abf5 1 (some .int), .fieldLink RJx4a65c 48 "java/util/ArrayList" "size" "I"] ++ wsX50 ++ wsJx4a65c0)
def wsX5_dropped : List Cond := .code yX5_dropped cX5_dropped 1 (some .int) :: ([.fieldLink RX5 41 "UndoCellar" "droppedSoFar" "I"] ++ wsX50)
def wsX6_init : List Cond := .code yX6_init cX6_init 2 none :: ([.methodLink RX6 1 objectInit, .instanceMethod objectInit, .code objectInit ⟨#[0xb1]⟩ 1 none, .arrayClass .int, .fieldLink RX6 7 "UndoCellarModel" "value" "[I", .fieldLink RX6 13 "UndoCellarModel" "size" "I", .fieldLink RX6 17 "UndoCellarModel" "state" "[I", .fieldLink RX6 20 "UndoCellarModel" "asOf" "[I", .fieldLink RX6 23 "UndoCellarModel" "committedAt" "[I", .fieldLink RX6 26 "UndoCellarModel" "by" "[I", .fieldLink RX6 29 "UndoCellarModel" "row" "[I", .fieldLink RX6 32 "UndoCellarModel" "ahead" "[I", .arrayClass .boolean, .fieldLink RX6 35 "UndoCellarModel" "isVoid" "[Z", .fieldLink RX6 39 "UndoCellarModel" "slot" "[I", .fieldLink RX6 42 "UndoCellarModel" "isEnded" "[Z"] ++ wsX60)
def wsX6_thrown : List Cond := .code yX6_thrown cX6_thrown 1 (some .int) :: ([.fieldLink RX6 45 "UndoCellarModel" "thrown" "I"] ++ wsX60)
def wsX6_can : List Cond := .code yX6_can cX6_can 2 (some .boolean) :: ([.fieldLink RX6 45 "UndoCellarModel" "thrown" "I"] ++ wsX60)
def wsX6_isIn : List Cond := .code yX6_isIn cX6_isIn 3 (some .boolean) :: ([])
def wsX6_isRow : List Cond := .code yX6_isRow cX6_isRow 1 (some .boolean) :: ([.methodLink RX6 48 yX6_isIn, .static yX6_isIn, .initialized RX6, .code yX6_isIn cX6_isIn 3 (some .boolean)])
def wsX6_isTransaction : List Cond := .code yX6_isTransaction cX6_isTransaction 2 (some .boolean) :: ([.fieldLink RX6 52 "UndoCellarModel" "transactions" "I", .methodLink RX6 48 yX6_isIn, .static yX6_isIn, .initialized RX6, .code yX6_isIn cX6_isIn 3 (some .boolean)] ++ wsX60)
def wsX6_isActive : List Cond := .code yX6_isActive cX6_isActive 2 (some .boolean) :: ([.fieldLink RX6 17 "UndoCellarModel" "state" "[I"] ++ wsX60)
def wsX6_setSpace : List Cond := .code yX6_setSpace cX6_setSpace 3 (some .int) :: ([.fieldLink RX6 55 "UndoCellarModel" "changes" "I", .fieldLink RX6 58 "UndoCellarModel" "dropped" "I", .fieldLink RX6 13 "UndoCellarModel" "size" "I", .methodLink RX6 48 yX6_isIn, .static yX6_isIn, .initialized RX6, .code yX6_isIn cX6_isIn 3 (some .boolean), .methodLink RX6 61 yX6_can, .instanceMethod yX6_can, .selects RX6 yX6_can yX6_can, .code yX6_can cX6_can 2 (some .boolean), .fieldLink RX6 45 "UndoCellarModel" "thrown" "I"] ++ wsX60)
def wsX6_begin : List Cond := .code yX6_begin cX6_begin 1 (some .int) :: ([.fieldLink RX6 52 "UndoCellarModel" "transactions" "I", .fieldLink RX6 20 "UndoCellarModel" "asOf" "[I", .fieldLink RX6 65 "UndoCellarModel" "moment" "I", .methodLink RX6 61 yX6_can, .instanceMethod yX6_can, .selects RX6 yX6_can yX6_can, .initialized RX6, .code yX6_can cX6_can 2 (some .boolean), .fieldLink RX6 45 "UndoCellarModel" "thrown" "I"] ++ wsX60)
def wsX6_lockOn : List Cond := .code yX6_lockOn cX6_lockOn 4 (some .int) :: ([.fieldLink RX6 55 "UndoCellarModel" "changes" "I", .fieldLink RX6 29 "UndoCellarModel" "row" "[I", .fieldLink RX6 35 "UndoCellarModel" "isVoid" "[Z", .fieldLink RX6 26 "UndoCellarModel" "by" "[I", .methodLink RX6 68 yX6_isActive, .instanceMethod yX6_isActive, .selects RX6 yX6_isActive yX6_isActive, .initialized RX6, .code yX6_isActive cX6_isActive 2 (some .boolean), .fieldLink RX6 17 "UndoCellarModel" "state" "[I"] ++ wsX60)
def wsX6_cleans : List Cond := .code yX6_cleans cX6_cleans 3 none :: ([.fieldLink RX6 39 "UndoCellarModel" "slot" "[I", .fieldLink RX6 42 "UndoCellarModel" "isEnded" "[Z", .fieldLink RX6 71 "UndoCellarModel" "marks" "I", .methodLink RX6 68 yX6_isActive, .instanceMethod yX6_isActive, .selects RX6 yX6_isActive yX6_isActive, .initialized RX6, .code yX6_isActive cX6_isActive 2 (some .boolean), .fieldLink RX6 17 "UndoCellarModel" "state" "[I"] ++ wsX60)
def wsX6_slotFor : List Cond := .code yX6_slotFor cX6_slotFor 6 (some .int) :: ([.fieldLink RX6 39 "UndoCellarModel" "slot" "[I", .methodLink RX6 68 yX6_isActive, .instanceMethod yX6_isActive, .selects RX6 yX6_isActive yX6_isActive, .initialized RX6, .code yX6_isActive cX6_isActive 2 (some .boolean), .fieldLink RX6 17 "UndoCellarModel" "state" "[I"] ++ wsX60)
def wsX6_hasSpace : List Cond := .code yX6_hasSpace cX6_hasSpace 1 (some .boolean) :: ([.fieldLink RX6 55 "UndoCellarModel" "changes" "I", .fieldLink RX6 58 "UndoCellarModel" "dropped" "I", .fieldLink RX6 13 "UndoCellarModel" "size" "I", .fieldLink RX6 26 "UndoCellarModel" "by" "[I", .methodLink RX6 68 yX6_isActive, .instanceMethod yX6_isActive, .selects RX6 yX6_isActive yX6_isActive, .initialized RX6, .code yX6_isActive cX6_isActive 2 (some .boolean), .fieldLink RX6 17 "UndoCellarModel" "state" "[I"] ++ wsX60)
def wsX6_write_r1 : List Cond := [Cond.constant RX6 80 (-1000000), Cond.constant RX6 81 (1000000), Cond.fieldLink RX6 7 "UndoCellarModel" "value" "[I", Cond.fieldLink RX6 39 "UndoCellarModel" "slot" "[I", Cond.fieldLink RX6 42 "UndoCellarModel" "isEnded" "[Z", Cond.fieldLink RX6 58 "UndoCellarModel" "dropped" "I", Cond.fieldLink RX6 55 "UndoCellarModel" "changes" "I", Cond.fieldLink RX6 13 "UndoCellarModel" "size" "I", Cond.fieldLink RX6 26 "UndoCellarModel" "by" "[I", Cond.fieldLink RX6 29 "UndoCellarModel" "row" "[I", Cond.fieldLink RX6 32 "UndoCellarModel" "ahead" "[I", Cond.methodLink RX6 74 yX6_isTransaction, Cond.instanceMethod yX6_isTransaction, Cond.selects RX6 yX6_isTransaction yX6_isTransaction, Cond.initialized RX6, Cond.code yX6_isTransaction cX6_isTransaction 2 (some .boolean), Cond.fieldLink RX6 52 "UndoCellarModel" "transactions" "I", Cond.methodLink RX6 48 yX6_isIn, Cond.static yX6_isIn, Cond.code yX6_isIn cX6_isIn 3 (some .boolean), Cond.methodLink RX6 77 yX6_isRow, Cond.static yX6_isRow, Cond.code yX6_isRow cX6_isRow 1 (some .boolean), Cond.methodLink RX6 68 yX6_isActive]
def wsX6_write_r2 : List Cond := [Cond.instanceMethod yX6_isActive, Cond.selects RX6 yX6_isActive yX6_isActive, Cond.code yX6_isActive cX6_isActive 2 (some .boolean), Cond.fieldLink RX6 17 "UndoCellarModel" "state" "[I", Cond.methodLink RX6 82 yX6_lockOn, Cond.instanceMethod yX6_lockOn, Cond.selects RX6 yX6_lockOn yX6_lockOn, Cond.code yX6_lockOn cX6_lockOn 4 (some .int), Cond.fieldLink RX6 35 "UndoCellarModel" "isVoid" "[Z", Cond.methodLink RX6 86 yX6_slotFor, Cond.instanceMethod yX6_slotFor, Cond.selects RX6 yX6_slotFor yX6_slotFor, Cond.code yX6_slotFor cX6_slotFor 6 (some .int), Cond.methodLink RX6 90 yX6_hasSpace, Cond.instanceMethod yX6_hasSpace, Cond.selects RX6 yX6_hasSpace yX6_hasSpace, Cond.code yX6_hasSpace cX6_hasSpace 1 (some .boolean), Cond.methodLink RX6 61 yX6_can, Cond.instanceMethod yX6_can, Cond.selects RX6 yX6_can yX6_can, Cond.code yX6_can cX6_can 2 (some .boolean), Cond.fieldLink RX6 45 "UndoCellarModel" "thrown" "I", Cond.methodLink RX6 94 yX6_cleans, Cond.instanceMethod yX6_cleans]
def wsX6_write_r3 : List Cond := [Cond.selects RX6 yX6_cleans yX6_cleans, Cond.code yX6_cleans cX6_cleans 3 none, Cond.fieldLink RX6 71 "UndoCellarModel" "marks" "I"]
def wsX6_write : List Cond := .code yX6_write cX6_write 10 (some .int) :: ((wsX6_write_r1 ++ (wsX6_write_r2 ++ wsX6_write_r3)) ++ wsX60)
def wsX6_valueAt : List Cond := .code yX6_valueAt cX6_valueAt 7 (some .int) :: ([.fieldLink RX6 7 "UndoCellarModel" "value" "[I", .fieldLink RX6 98 "UndoCellarModel" "isLate" "Z", .fieldLink RX6 55 "UndoCellarModel" "changes" "I", .fieldLink RX6 29 "UndoCellarModel" "row" "[I", .fieldLink RX6 35 "UndoCellarModel" "isVoid" "[Z", .fieldLink RX6 26 "UndoCellarModel" "by" "[I", .fieldLink RX6 17 "UndoCellarModel" "state" "[I", .fieldLink RX6 23 "UndoCellarModel" "committedAt" "[I", .fieldLink RX6 32 "UndoCellarModel" "ahead" "[I", .fieldLink RX6 58 "UndoCellarModel" "dropped" "I"] ++ wsX60)
def wsX6_read_r1 : List Cond := [Cond.fieldLink RX6 20 "UndoCellarModel" "asOf" "[I", Cond.fieldLink RX6 98 "UndoCellarModel" "isLate" "Z", Cond.methodLink RX6 74 yX6_isTransaction, Cond.instanceMethod yX6_isTransaction, Cond.selects RX6 yX6_isTransaction yX6_isTransaction, Cond.initialized RX6, Cond.code yX6_isTransaction cX6_isTransaction 2 (some .boolean), Cond.fieldLink RX6 52 "UndoCellarModel" "transactions" "I", Cond.methodLink RX6 48 yX6_isIn, Cond.static yX6_isIn, Cond.code yX6_isIn cX6_isIn 3 (some .boolean), Cond.methodLink RX6 77 yX6_isRow, Cond.static yX6_isRow, Cond.code yX6_isRow cX6_isRow 1 (some .boolean), Cond.methodLink RX6 68 yX6_isActive, Cond.instanceMethod yX6_isActive, Cond.selects RX6 yX6_isActive yX6_isActive, Cond.code yX6_isActive cX6_isActive 2 (some .boolean), Cond.fieldLink RX6 17 "UndoCellarModel" "state" "[I", Cond.methodLink RX6 61 yX6_can, Cond.instanceMethod yX6_can, Cond.selects RX6 yX6_can yX6_can, Cond.code yX6_can cX6_can 2 (some .boolean), Cond.fieldLink RX6 45 "UndoCellarModel" "thrown" "I"]
def wsX6_read_r2 : List Cond := [Cond.methodLink RX6 102 yX6_valueAt, Cond.instanceMethod yX6_valueAt, Cond.selects RX6 yX6_valueAt yX6_valueAt, Cond.code yX6_valueAt cX6_valueAt 7 (some .int), Cond.fieldLink RX6 7 "UndoCellarModel" "value" "[I", Cond.fieldLink RX6 55 "UndoCellarModel" "changes" "I", Cond.fieldLink RX6 29 "UndoCellarModel" "row" "[I", Cond.fieldLink RX6 35 "UndoCellarModel" "isVoid" "[Z", Cond.fieldLink RX6 26 "UndoCellarModel" "by" "[I", Cond.fieldLink RX6 23 "UndoCellarModel" "committedAt" "[I", Cond.fieldLink RX6 32 "UndoCellarModel" "ahead" "[I", Cond.fieldLink RX6 58 "UndoCellarModel" "dropped" "I", Cond.methodLink RX6 94 yX6_cleans, Cond.instanceMethod yX6_cleans, Cond.selects RX6 yX6_cleans yX6_cleans, Cond.code yX6_cleans cX6_cleans 3 none, Cond.fieldLink RX6 39 "UndoCellarModel" "slot" "[I", Cond.fieldLink RX6 42 "UndoCellarModel" "isEnded" "[Z", Cond.fieldLink RX6 71 "UndoCellarModel" "marks" "I"]
def wsX6_read : List Cond := .code yX6_read cX6_read 5 (some .int) :: ((wsX6_read_r1 ++ wsX6_read_r2) ++ wsX60)
def wsX6_readAt_r1 : List Cond := [Cond.fieldLink RX6 65 "UndoCellarModel" "moment" "I", Cond.fieldLink RX6 98 "UndoCellarModel" "isLate" "Z", Cond.methodLink RX6 77 yX6_isRow, Cond.static yX6_isRow, Cond.initialized RX6, Cond.code yX6_isRow cX6_isRow 1 (some .boolean), Cond.methodLink RX6 48 yX6_isIn, Cond.static yX6_isIn, Cond.code yX6_isIn cX6_isIn 3 (some .boolean), Cond.methodLink RX6 61 yX6_can, Cond.instanceMethod yX6_can, Cond.selects RX6 yX6_can yX6_can, Cond.code yX6_can cX6_can 2 (some .boolean), Cond.fieldLink RX6 45 "UndoCellarModel" "thrown" "I", Cond.methodLink RX6 102 yX6_valueAt, Cond.instanceMethod yX6_valueAt, Cond.selects RX6 yX6_valueAt yX6_valueAt, Cond.code yX6_valueAt cX6_valueAt 7 (some .int), Cond.fieldLink RX6 7 "UndoCellarModel" "value" "[I", Cond.fieldLink RX6 55 "UndoCellarModel" "changes" "I", Cond.fieldLink RX6 29 "UndoCellarModel" "row" "[I", Cond.fieldLink RX6 35 "UndoCellarModel" "isVoid" "[Z", Cond.fieldLink RX6 26 "UndoCellarModel" "by" "[I", Cond.fieldLink RX6 17 "UndoCellarModel" "state" "[I"]
def wsX6_readAt_r2 : List Cond := [Cond.fieldLink RX6 23 "UndoCellarModel" "committedAt" "[I", Cond.fieldLink RX6 32 "UndoCellarModel" "ahead" "[I", Cond.fieldLink RX6 58 "UndoCellarModel" "dropped" "I", Cond.methodLink RX6 94 yX6_cleans, Cond.instanceMethod yX6_cleans, Cond.selects RX6 yX6_cleans yX6_cleans, Cond.code yX6_cleans cX6_cleans 3 none, Cond.fieldLink RX6 39 "UndoCellarModel" "slot" "[I", Cond.fieldLink RX6 42 "UndoCellarModel" "isEnded" "[Z", Cond.fieldLink RX6 71 "UndoCellarModel" "marks" "I", Cond.methodLink RX6 68 yX6_isActive, Cond.instanceMethod yX6_isActive, Cond.selects RX6 yX6_isActive yX6_isActive, Cond.code yX6_isActive cX6_isActive 2 (some .boolean)]
def wsX6_readAt : List Cond := .code yX6_readAt cX6_readAt 4 (some .int) :: ((wsX6_readAt_r1 ++ wsX6_readAt_r2) ++ wsX60)
def wsX6_standing : List Cond := .code yX6_standing cX6_standing 4 (some .int) :: ([.fieldLink RX6 55 "UndoCellarModel" "changes" "I", .fieldLink RX6 26 "UndoCellarModel" "by" "[I", .fieldLink RX6 35 "UndoCellarModel" "isVoid" "[Z"] ++ wsX60)
def wsX6_isOpen : List Cond := .code yX6_isOpen cX6_isOpen 2 (some .boolean) :: ([.methodLink RX6 74 yX6_isTransaction, .instanceMethod yX6_isTransaction, .selects RX6 yX6_isTransaction yX6_isTransaction, .initialized RX6, .code yX6_isTransaction cX6_isTransaction 2 (some .boolean), .fieldLink RX6 52 "UndoCellarModel" "transactions" "I", .methodLink RX6 48 yX6_isIn, .static yX6_isIn, .code yX6_isIn cX6_isIn 3 (some .boolean), .methodLink RX6 68 yX6_isActive, .instanceMethod yX6_isActive, .selects RX6 yX6_isActive yX6_isActive, .code yX6_isActive cX6_isActive 2 (some .boolean), .fieldLink RX6 17 "UndoCellarModel" "state" "[I", .methodLink RX6 61 yX6_can, .instanceMethod yX6_can, .selects RX6 yX6_can yX6_can, .code yX6_can cX6_can 2 (some .boolean), .fieldLink RX6 45 "UndoCellarModel" "thrown" "I"] ++ wsX60)
def wsX6_save_r1 : List Cond := [Cond.methodLink RX6 106 yX6_isOpen, Cond.instanceMethod yX6_isOpen, Cond.selects RX6 yX6_isOpen yX6_isOpen, Cond.initialized RX6, Cond.code yX6_isOpen cX6_isOpen 2 (some .boolean), Cond.methodLink RX6 74 yX6_isTransaction, Cond.instanceMethod yX6_isTransaction, Cond.selects RX6 yX6_isTransaction yX6_isTransaction, Cond.code yX6_isTransaction cX6_isTransaction 2 (some .boolean), Cond.fieldLink RX6 52 "UndoCellarModel" "transactions" "I", Cond.methodLink RX6 48 yX6_isIn, Cond.static yX6_isIn, Cond.code yX6_isIn cX6_isIn 3 (some .boolean), Cond.methodLink RX6 68 yX6_isActive, Cond.instanceMethod yX6_isActive, Cond.selects RX6 yX6_isActive yX6_isActive, Cond.code yX6_isActive cX6_isActive 2 (some .boolean), Cond.fieldLink RX6 17 "UndoCellarModel" "state" "[I", Cond.methodLink RX6 61 yX6_can, Cond.instanceMethod yX6_can, Cond.selects RX6 yX6_can yX6_can, Cond.code yX6_can cX6_can 2 (some .boolean), Cond.fieldLink RX6 45 "UndoCellarModel" "thrown" "I", Cond.methodLink RX6 109 yX6_standing]
def wsX6_save_r2 : List Cond := [Cond.instanceMethod yX6_standing, Cond.selects RX6 yX6_standing yX6_standing, Cond.code yX6_standing cX6_standing 4 (some .int), Cond.fieldLink RX6 55 "UndoCellarModel" "changes" "I", Cond.fieldLink RX6 26 "UndoCellarModel" "by" "[I", Cond.fieldLink RX6 35 "UndoCellarModel" "isVoid" "[Z"]
def wsX6_save : List Cond := .code yX6_save cX6_save 2 (some .int) :: ((wsX6_save_r1 ++ wsX6_save_r2) ++ wsX60)
def wsX6_undoes : List Cond := .code yX6_undoes cX6_undoes 5 none :: ([.fieldLink RX6 55 "UndoCellarModel" "changes" "I", .fieldLink RX6 26 "UndoCellarModel" "by" "[I", .fieldLink RX6 35 "UndoCellarModel" "isVoid" "[Z", .fieldLink RX6 7 "UndoCellarModel" "value" "[I", .fieldLink RX6 29 "UndoCellarModel" "row" "[I", .fieldLink RX6 32 "UndoCellarModel" "ahead" "[I"] ++ wsX60)
def wsX6_undoTo_r1 : List Cond := [Cond.methodLink RX6 106 yX6_isOpen, Cond.instanceMethod yX6_isOpen, Cond.selects RX6 yX6_isOpen yX6_isOpen, Cond.initialized RX6, Cond.code yX6_isOpen cX6_isOpen 2 (some .boolean), Cond.methodLink RX6 74 yX6_isTransaction, Cond.instanceMethod yX6_isTransaction, Cond.selects RX6 yX6_isTransaction yX6_isTransaction, Cond.code yX6_isTransaction cX6_isTransaction 2 (some .boolean), Cond.fieldLink RX6 52 "UndoCellarModel" "transactions" "I", Cond.methodLink RX6 48 yX6_isIn, Cond.static yX6_isIn, Cond.code yX6_isIn cX6_isIn 3 (some .boolean), Cond.methodLink RX6 68 yX6_isActive, Cond.instanceMethod yX6_isActive, Cond.selects RX6 yX6_isActive yX6_isActive, Cond.code yX6_isActive cX6_isActive 2 (some .boolean), Cond.fieldLink RX6 17 "UndoCellarModel" "state" "[I", Cond.methodLink RX6 61 yX6_can, Cond.instanceMethod yX6_can, Cond.selects RX6 yX6_can yX6_can, Cond.code yX6_can cX6_can 2 (some .boolean), Cond.fieldLink RX6 45 "UndoCellarModel" "thrown" "I", Cond.methodLink RX6 109 yX6_standing]
def wsX6_undoTo_r2 : List Cond := [Cond.instanceMethod yX6_standing, Cond.selects RX6 yX6_standing yX6_standing, Cond.code yX6_standing cX6_standing 4 (some .int), Cond.fieldLink RX6 55 "UndoCellarModel" "changes" "I", Cond.fieldLink RX6 26 "UndoCellarModel" "by" "[I", Cond.fieldLink RX6 35 "UndoCellarModel" "isVoid" "[Z", Cond.methodLink RX6 112 yX6_undoes, Cond.instanceMethod yX6_undoes, Cond.selects RX6 yX6_undoes yX6_undoes, Cond.code yX6_undoes cX6_undoes 5 none, Cond.fieldLink RX6 7 "UndoCellarModel" "value" "[I", Cond.fieldLink RX6 29 "UndoCellarModel" "row" "[I", Cond.fieldLink RX6 32 "UndoCellarModel" "ahead" "[I"]
def wsX6_undoTo : List Cond := .code yX6_undoTo cX6_undoTo 4 (some .int) :: ((wsX6_undoTo_r1 ++ wsX6_undoTo_r2) ++ wsX60)
def wsX6_undo_r1 : List Cond := [Cond.fieldLink RX6 17 "UndoCellarModel" "state" "[I", Cond.methodLink RX6 106 yX6_isOpen, Cond.instanceMethod yX6_isOpen, Cond.selects RX6 yX6_isOpen yX6_isOpen, Cond.initialized RX6, Cond.code yX6_isOpen cX6_isOpen 2 (some .boolean), Cond.methodLink RX6 74 yX6_isTransaction, Cond.instanceMethod yX6_isTransaction, Cond.selects RX6 yX6_isTransaction yX6_isTransaction, Cond.code yX6_isTransaction cX6_isTransaction 2 (some .boolean), Cond.fieldLink RX6 52 "UndoCellarModel" "transactions" "I", Cond.methodLink RX6 48 yX6_isIn, Cond.static yX6_isIn, Cond.code yX6_isIn cX6_isIn 3 (some .boolean), Cond.methodLink RX6 68 yX6_isActive, Cond.instanceMethod yX6_isActive, Cond.selects RX6 yX6_isActive yX6_isActive, Cond.code yX6_isActive cX6_isActive 2 (some .boolean), Cond.methodLink RX6 61 yX6_can, Cond.instanceMethod yX6_can, Cond.selects RX6 yX6_can yX6_can, Cond.code yX6_can cX6_can 2 (some .boolean), Cond.fieldLink RX6 45 "UndoCellarModel" "thrown" "I", Cond.methodLink RX6 109 yX6_standing]
def wsX6_undo_r2 : List Cond := [Cond.instanceMethod yX6_standing, Cond.selects RX6 yX6_standing yX6_standing, Cond.code yX6_standing cX6_standing 4 (some .int), Cond.fieldLink RX6 55 "UndoCellarModel" "changes" "I", Cond.fieldLink RX6 26 "UndoCellarModel" "by" "[I", Cond.fieldLink RX6 35 "UndoCellarModel" "isVoid" "[Z", Cond.methodLink RX6 112 yX6_undoes, Cond.instanceMethod yX6_undoes, Cond.selects RX6 yX6_undoes yX6_undoes, Cond.code yX6_undoes cX6_undoes 5 none, Cond.fieldLink RX6 7 "UndoCellarModel" "value" "[I", Cond.fieldLink RX6 29 "UndoCellarModel" "row" "[I", Cond.fieldLink RX6 32 "UndoCellarModel" "ahead" "[I"]
def wsX6_undo : List Cond := .code yX6_undo cX6_undo 3 (some .int) :: ((wsX6_undo_r1 ++ wsX6_undo_r2) ++ wsX60)
def wsX6_commit_r1 : List Cond := [Cond.fieldLink RX6 65 "UndoCellarModel" "moment" "I", Cond.fieldLink RX6 17 "UndoCellarModel" "state" "[I", Cond.fieldLink RX6 23 "UndoCellarModel" "committedAt" "[I", Cond.methodLink RX6 106 yX6_isOpen, Cond.instanceMethod yX6_isOpen, Cond.selects RX6 yX6_isOpen yX6_isOpen, Cond.initialized RX6, Cond.code yX6_isOpen cX6_isOpen 2 (some .boolean), Cond.methodLink RX6 74 yX6_isTransaction, Cond.instanceMethod yX6_isTransaction, Cond.selects RX6 yX6_isTransaction yX6_isTransaction, Cond.code yX6_isTransaction cX6_isTransaction 2 (some .boolean), Cond.fieldLink RX6 52 "UndoCellarModel" "transactions" "I", Cond.methodLink RX6 48 yX6_isIn, Cond.static yX6_isIn, Cond.code yX6_isIn cX6_isIn 3 (some .boolean), Cond.methodLink RX6 68 yX6_isActive, Cond.instanceMethod yX6_isActive, Cond.selects RX6 yX6_isActive yX6_isActive, Cond.code yX6_isActive cX6_isActive 2 (some .boolean), Cond.methodLink RX6 61 yX6_can, Cond.instanceMethod yX6_can, Cond.selects RX6 yX6_can yX6_can, Cond.code yX6_can cX6_can 2 (some .boolean)]
def wsX6_commit_r2 : List Cond := [Cond.fieldLink RX6 45 "UndoCellarModel" "thrown" "I"]
def wsX6_commit : List Cond := .code yX6_commit cX6_commit 2 (some .int) :: ((wsX6_commit_r1 ++ wsX6_commit_r2) ++ wsX60)
def wsX6_moment : List Cond := .code yX6_moment cX6_moment 1 (some .int) :: ([.fieldLink RX6 45 "UndoCellarModel" "thrown" "I", .fieldLink RX6 65 "UndoCellarModel" "moment" "I"] ++ wsX60)
def wsX6_transactions : List Cond := .code yX6_transactions cX6_transactions 1 (some .int) :: ([.fieldLink RX6 45 "UndoCellarModel" "thrown" "I", .fieldLink RX6 52 "UndoCellarModel" "transactions" "I"] ++ wsX60)
def wsX6_now : List Cond := .code yX6_now cX6_now 2 (some .int) :: ([.fieldLink RX6 7 "UndoCellarModel" "value" "[I", .methodLink RX6 77 yX6_isRow, .static yX6_isRow, .initialized RX6, .code yX6_isRow cX6_isRow 1 (some .boolean), .methodLink RX6 48 yX6_isIn, .static yX6_isIn, .code yX6_isIn cX6_isIn 3 (some .boolean), .methodLink RX6 61 yX6_can, .instanceMethod yX6_can, .selects RX6 yX6_can yX6_can, .code yX6_can cX6_can 2 (some .boolean), .fieldLink RX6 45 "UndoCellarModel" "thrown" "I"] ++ wsX60)
def wsX6_versionAt_r1 : List Cond := [Cond.fieldLink RX6 65 "UndoCellarModel" "moment" "I", Cond.methodLink RX6 77 yX6_isRow, Cond.static yX6_isRow, Cond.initialized RX6, Cond.code yX6_isRow cX6_isRow 1 (some .boolean), Cond.methodLink RX6 48 yX6_isIn, Cond.static yX6_isIn, Cond.code yX6_isIn cX6_isIn 3 (some .boolean), Cond.methodLink RX6 61 yX6_can, Cond.instanceMethod yX6_can, Cond.selects RX6 yX6_can yX6_can, Cond.code yX6_can cX6_can 2 (some .boolean), Cond.fieldLink RX6 45 "UndoCellarModel" "thrown" "I", Cond.methodLink RX6 102 yX6_valueAt, Cond.instanceMethod yX6_valueAt, Cond.selects RX6 yX6_valueAt yX6_valueAt, Cond.code yX6_valueAt cX6_valueAt 7 (some .int), Cond.fieldLink RX6 7 "UndoCellarModel" "value" "[I", Cond.fieldLink RX6 98 "UndoCellarModel" "isLate" "Z", Cond.fieldLink RX6 55 "UndoCellarModel" "changes" "I", Cond.fieldLink RX6 29 "UndoCellarModel" "row" "[I", Cond.fieldLink RX6 35 "UndoCellarModel" "isVoid" "[Z", Cond.fieldLink RX6 26 "UndoCellarModel" "by" "[I", Cond.fieldLink RX6 17 "UndoCellarModel" "state" "[I"]
def wsX6_versionAt_r2 : List Cond := [Cond.fieldLink RX6 23 "UndoCellarModel" "committedAt" "[I", Cond.fieldLink RX6 32 "UndoCellarModel" "ahead" "[I", Cond.fieldLink RX6 58 "UndoCellarModel" "dropped" "I"]
def wsX6_versionAt : List Cond := .code yX6_versionAt cX6_versionAt 3 (some .int) :: ((wsX6_versionAt_r1 ++ wsX6_versionAt_r2) ++ wsX60)
def wsX6_lockOf_r1 : List Cond := [Cond.methodLink RX6 77 yX6_isRow, Cond.static yX6_isRow, Cond.initialized RX6, Cond.code yX6_isRow cX6_isRow 1 (some .boolean), Cond.methodLink RX6 48 yX6_isIn, Cond.static yX6_isIn, Cond.code yX6_isIn cX6_isIn 3 (some .boolean), Cond.methodLink RX6 61 yX6_can, Cond.instanceMethod yX6_can, Cond.selects RX6 yX6_can yX6_can, Cond.code yX6_can cX6_can 2 (some .boolean), Cond.fieldLink RX6 45 "UndoCellarModel" "thrown" "I", Cond.methodLink RX6 82 yX6_lockOn, Cond.instanceMethod yX6_lockOn, Cond.selects RX6 yX6_lockOn yX6_lockOn, Cond.code yX6_lockOn cX6_lockOn 4 (some .int), Cond.fieldLink RX6 55 "UndoCellarModel" "changes" "I", Cond.fieldLink RX6 29 "UndoCellarModel" "row" "[I", Cond.fieldLink RX6 35 "UndoCellarModel" "isVoid" "[Z", Cond.fieldLink RX6 26 "UndoCellarModel" "by" "[I", Cond.methodLink RX6 68 yX6_isActive, Cond.instanceMethod yX6_isActive, Cond.selects RX6 yX6_isActive yX6_isActive, Cond.code yX6_isActive cX6_isActive 2 (some .boolean)]
def wsX6_lockOf_r2 : List Cond := [Cond.fieldLink RX6 17 "UndoCellarModel" "state" "[I"]
def wsX6_lockOf : List Cond := .code yX6_lockOf cX6_lockOf 2 (some .int) :: ((wsX6_lockOf_r1 ++ wsX6_lockOf_r2) ++ wsX60)
def wsX6_isSlot : List Cond := .code yX6_isSlot cX6_isSlot 2 (some .boolean) :: ([.methodLink RX6 48 yX6_isIn, .static yX6_isIn, .initialized RX6, .code yX6_isIn cX6_isIn 3 (some .boolean)])
def wsX6_slotOf : List Cond := .code yX6_slotOf cX6_slotOf 3 (some .int) :: ([.fieldLink RX6 39 "UndoCellarModel" "slot" "[I", .methodLink RX6 116 yX6_isSlot, .static yX6_isSlot, .initialized RX6, .code yX6_isSlot cX6_isSlot 2 (some .boolean), .methodLink RX6 48 yX6_isIn, .static yX6_isIn, .code yX6_isIn cX6_isIn 3 (some .boolean), .methodLink RX6 61 yX6_can, .instanceMethod yX6_can, .selects RX6 yX6_can yX6_can, .code yX6_can cX6_can 2 (some .boolean), .fieldLink RX6 45 "UndoCellarModel" "thrown" "I"] ++ wsX60)
def wsX6_isMarked : List Cond := .code yX6_isMarked cX6_isMarked 3 (some .boolean) :: ([.fieldLink RX6 42 "UndoCellarModel" "isEnded" "[Z", .methodLink RX6 116 yX6_isSlot, .static yX6_isSlot, .initialized RX6, .code yX6_isSlot cX6_isSlot 2 (some .boolean), .methodLink RX6 48 yX6_isIn, .static yX6_isIn, .code yX6_isIn cX6_isIn 3 (some .boolean), .methodLink RX6 61 yX6_can, .instanceMethod yX6_can, .selects RX6 yX6_can yX6_can, .code yX6_can cX6_can 2 (some .boolean), .fieldLink RX6 45 "UndoCellarModel" "thrown" "I"] ++ wsX60)
def wsX6_marked : List Cond := .code yX6_marked cX6_marked 1 (some .int) :: ([.fieldLink RX6 45 "UndoCellarModel" "thrown" "I", .fieldLink RX6 71 "UndoCellarModel" "marks" "I"] ++ wsX60)
def wsX6_records : List Cond := .code yX6_records cX6_records 1 (some .int) :: ([.fieldLink RX6 45 "UndoCellarModel" "thrown" "I", .fieldLink RX6 55 "UndoCellarModel" "changes" "I", .fieldLink RX6 58 "UndoCellarModel" "dropped" "I"] ++ wsX60)
def wsX6_dropped : List Cond := .code yX6_dropped cX6_dropped 1 (some .int) :: ([.fieldLink RX6 45 "UndoCellarModel" "thrown" "I", .fieldLink RX6 58 "UndoCellarModel" "dropped" "I"] ++ wsX60)
def wsJ9_max_7cf53 : List Cond := .code yJ9_max_7cf53 cJ9_max_7cf53 2 (some .int) :: ([])
def wsJ9_min_7cf53 : List Cond := .code yJ9_min_7cf53 cJ9_min_7cf53 2 (some .int) :: ([])
def wsL_setSpace : List Cond := .codeWith yL_setSpace cL_setSpace 4 (some .int) [(0, 9, 12, 13), (0, 9, 15, 15)] :: ([.classLink RL 13 "java/lang/IllegalArgumentException", .classLink RL 15 "java/lang/IllegalStateException", .methodLink RL 7 yX5_setSpace, .instanceMethod yX5_setSpace, .selects RX5 yX5_setSpace yX5_setSpace, .initialized RX5, .code yX5_setSpace cX5_setSpace 3 (some .int), .classLink RX5 48 "java/lang/IllegalArgumentException", .initialized "java/lang/IllegalArgumentException", .classLink RX5 59 "java/lang/IllegalStateException", .initialized "java/lang/IllegalStateException", .fieldLink RX5 31 "UndoCellar" "space" "I", .methodLink RX5 55 yX5_recordsThere, .instanceMethod yX5_recordsThere, .selects RX5 yX5_recordsThere yX5_recordsThere, .code yX5_recordsThere cX5_recordsThere 1 (some .int), .fieldLink RX5 28 "UndoCellar" "changes" "Ljava/util/ArrayList;", .fieldLink RX5 41 "UndoCellar" "droppedSoFar" "I", .methodLink RX5 64 yJx4a65c_size_8abf5, .instanceMethod yJx4a65c_size_8abf5, .selects RJx4a65c yJx4a65c_size_8abf5 yJx4a65c_size_8abf5, .initialized RJx4a65c, .code yJx4a65c_size_8abf5 cJx4a65c_size_8abf5 1 (some .int), .fieldLink RJx4a65c 48 "java/util/ArrayList" "size" "I"] ++ wsX50 ++ wsJx4a65c0 ++ (vx_atS RX5 52 "java/lang/IllegalArgumentException" ["java/lang/RuntimeException", "java/lang/Exception"]).filter goodWord ++ (vx_atS RX5 63 "java/lang/IllegalStateException" ["java/lang/RuntimeException", "java/lang/Exception"]).filter goodWord)
def wsL_begin_r1 : List Cond := [Cond.classLink RL 15 "java/lang/IllegalStateException", Cond.methodLink RL 17 yX5_begin, Cond.instanceMethod yX5_begin, Cond.selects RX5 yX5_begin yX5_begin, Cond.initialized RX5, Cond.code yX5_begin cX5_begin 2 (some .int), Cond.classLink RX5 59 "java/lang/IllegalStateException", Cond.initialized "java/lang/IllegalStateException", Cond.fieldLink RX5 24 "UndoCellar" "begun" "Ljava/util/ArrayList;", Cond.classLink RX5 69 RX4, Cond.instantiable RX4 5, Cond.initialized RX4, Cond.fieldLink RX5 35 "UndoCellar" "momentOfNow" "I", Cond.methodLink RX5 64 yJx4a65c_size_8abf5, Cond.instanceMethod yJx4a65c_size_8abf5, Cond.selects RJx4a65c yJx4a65c_size_8abf5 yJx4a65c_size_8abf5, Cond.initialized RJx4a65c, Cond.code yJx4a65c_size_8abf5 cJx4a65c_size_8abf5 1 (some .int), Cond.fieldLink RJx4a65c 48 "java/util/ArrayList" "size" "I", Cond.instanceMethod yX4_init, Cond.code yX4_init cX4_init 3 none, Cond.methodLink RX4 3 objectInit, Cond.instanceMethod objectInit, Cond.code objectInit ⟨#[0xb1]⟩ 1 none]
def wsL_begin_r2 : List Cond := [Cond.fieldLink RX4 9 "UndoCellar$Transaction" "active" "Z", Cond.fieldLink RX4 15 "UndoCellar$Transaction" "committedAt" "I", Cond.fieldLink RX4 19 "UndoCellar$Transaction" "standing" "I", Cond.fieldLink RX4 22 "UndoCellar$Transaction" "number" "I", Cond.fieldLink RX4 25 "UndoCellar$Transaction" "beganAt" "I", Cond.methodLink RX5 74 yJx4a65c_add_9ea2d, Cond.instanceMethod yJx4a65c_add_9ea2d, Cond.selects RJx4a65c yJx4a65c_add_9ea2d yJx4a65c_add_9ea2d, Cond.code yJx4a65c_add_9ea2d cJx4a65c_add_9ea2d 2 (some .boolean), Cond.fieldLink RJx4a65c 63 "java/util/ArrayList" "modCount" "I", Cond.sameField "java/util/ArrayList" "java/util/AbstractList" "modCount" "I", Cond.fieldLink RJx4a65c 9 "java/util/ArrayList" "elementData" "[Ljava/lang/Object;", Cond.methodLink RJx4a65c 131 yJx4a65c_add_72be8, Cond.instanceMethod yJx4a65c_add_72be8, Cond.selects RJx4a65c yJx4a65c_add_72be8 yJx4a65c_add_72be8, Cond.code yJx4a65c_add_72be8 cJx4a65c_add_72be8 4 none, Cond.methodLink RJx4a65c 129 yJx4a65c_grow_d5877, Cond.instanceMethod yJx4a65c_grow_d5877, Cond.selects RJx4a65c yJx4a65c_grow_d5877 yJx4a65c_grow_d5877, Cond.code yJx4a65c_grow_d5877 cJx4a65c_grow_d5877 1 (some (.array (.object "java/lang/Object"))), Cond.methodLink RJx4a65c 69 yJx4a65c_grow_92f84, Cond.instanceMethod yJx4a65c_grow_92f84, Cond.selects RJx4a65c yJx4a65c_grow_92f84 yJx4a65c_grow_92f84, Cond.code yJx4a65c_grow_92f84 cJx4a65c_grow_92f84 4 (some (.array (.object "java/lang/Object")))]
def wsL_begin_r3 : List Cond := [Cond.fieldLink RJx4a65c 39 "java/util/ArrayList" "DEFAULTCAPACITY_EMPTY_ELEMENTDATA" "[Ljava/lang/Object;", Cond.methodLink RJx4a65c 79 Lib.Math.max.name, Cond.static Lib.Math.max.name, Cond.initialized "java/lang/Math", Cond.code Lib.Math.max.name Lib.Math.max.code 2 (some .int), Cond.classLink RJx4a65c 7 "java/lang/Object", Cond.methodLink RJx4a65c 73 yJ8_newLength_cabcc, Cond.static yJ8_newLength_cabcc, Cond.initialized RJ8, Cond.code yJ8_newLength_cabcc cJ8_newLength_cabcc 4 (some .int), Cond.methodLink RJ8 194 Lib.Math.max.name, Cond.constant RJ8 200 (2147483639), Cond.methodLink RJ8 201 yJ8_hugeLength_7cf53, Cond.static yJ8_hugeLength_7cf53, Cond.code yJ8_hugeLength_7cf53 cJ8_hugeLength_7cf53 3 (some .int), Cond.methodLink RJx4a65c 66 yJ7_copyOf_1904c, Cond.static yJ7_copyOf_1904c, Cond.initialized RJ7, Cond.code yJ7_copyOf_1904c cJ7_copyOf_1904c 2 (some (.array (.object "java/lang/Object"))), Cond.methodLink RJ7 86 ⟨"java/lang/Object", "getClass", "()Ljava/lang/Class;"⟩, Cond.selects "[Ljava/lang/Object;" ⟨"java/lang/Object", "getClass", "()Ljava/lang/Class;"⟩ ⟨"java/lang/Object", "getClass", "()Ljava/lang/Class;"⟩, Cond.instanceMethod ⟨"java/lang/Object", "getClass", "()Ljava/lang/Class;"⟩, Cond.native ⟨"java/lang/Object", "getClass", "()Ljava/lang/Class;"⟩, Cond.methodLink RJ7 300 yJ7_copyOf_6403c]
def wsL_begin_r4 : List Cond := [Cond.static yJ7_copyOf_6403c, Cond.code yJ7_copyOf_6403c cJ7_copyOf_6403c 4 (some (.array (.object "java/lang/Object"))), Cond.classLink RJ7 110 "[Ljava/lang/Object;", Cond.classLink RJ7 2 "java/lang/Object", Cond.methodLink RJ7 304 Lib.Math.min.name, Cond.static Lib.Math.min.name, Cond.code Lib.Math.min.name Lib.Math.min.code 2 (some .int), Cond.methodLink RJ7 150 arraycopyName, Cond.native arraycopyName, Cond.static arraycopyName, Cond.initialized "java/lang/System"]
def wsL_begin : List Cond := .codeWith yL_begin cL_begin 3 (some .int) [(0, 8, 11, 15)] :: ((wsL_begin_r1 ++ (wsL_begin_r2 ++ (wsL_begin_r3 ++ wsL_begin_r4))) ++ wsX50 ++ wsX40 ++ wsJx4a65c0 ++ (vx_atS RX5 63 "java/lang/IllegalStateException" ["java/lang/RuntimeException", "java/lang/Exception"]).filter goodWord)
def wsL_write_r1 : List Cond := [Cond.classLink RL 25 "java/lang/IndexOutOfBoundsException", Cond.classLink RL 13 "java/lang/IllegalArgumentException", Cond.classLink RL 15 "java/lang/IllegalStateException", Cond.methodLink RL 21 yX5_write, Cond.instanceMethod yX5_write, Cond.selects RX5 yX5_write yX5_write, Cond.initialized RX5, Cond.code yX5_write cX5_write 8 (some .int), Cond.classLink RX5 48 "java/lang/IllegalArgumentException", Cond.initialized "java/lang/IllegalArgumentException", Cond.classLink RX5 59 "java/lang/IllegalStateException", Cond.initialized "java/lang/IllegalStateException", Cond.constant RX5 89 (-1000000), Cond.constant RX5 90 (1000000), Cond.fieldLink RX5 41 "UndoCellar" "droppedSoFar" "I", Cond.classLink RX5 126 RX1, Cond.instantiable RX1 4, Cond.initialized RX1, Cond.fieldLink RX5 28 "UndoCellar" "changes" "Ljava/util/ArrayList;", Cond.methodLink RX5 81 yX5_transactionNumbered, Cond.instanceMethod yX5_transactionNumbered, Cond.selects RX5 yX5_transactionNumbered yX5_transactionNumbered, Cond.code yX5_transactionNumbered cX5_transactionNumbered 2 (some (.object "UndoCellar$Transaction")), Cond.classLink RX5 189 "java/lang/IndexOutOfBoundsException"]
def wsL_write_r2 : List Cond := [Cond.initialized "java/lang/IndexOutOfBoundsException", Cond.fieldLink RX5 24 "UndoCellar" "begun" "Ljava/util/ArrayList;", Cond.classLink RX5 69 "UndoCellar$Transaction", Cond.methodLink RX5 64 yJx4a65c_size_8abf5, Cond.instanceMethod yJx4a65c_size_8abf5, Cond.selects RJx4a65c yJx4a65c_size_8abf5 yJx4a65c_size_8abf5, Cond.initialized RJx4a65c, Cond.code yJx4a65c_size_8abf5 cJx4a65c_size_8abf5 1 (some .int), Cond.fieldLink RJx4a65c 48 "java/util/ArrayList" "size" "I", Cond.methodLink RX5 194 yJx4a65c_get_915e3, Cond.instanceMethod yJx4a65c_get_915e3, Cond.selects RJx4a65c yJx4a65c_get_915e3 yJx4a65c_get_915e3, Cond.code yJx4a65c_get_915e3 cJx4a65c_get_915e3 2 (some (.object "java/lang/Object")), Cond.methodLink RJx4a65c 118 yJ15_checkIndex_7cf53, Cond.static yJ15_checkIndex_7cf53, Cond.initialized RJ15, Cond.code yJ15_checkIndex_7cf53 cJ15_checkIndex_7cf53 2 (some .int), Cond.methodLink RJ15 105 yJ3_checkIndex_8e157, Cond.static yJ3_checkIndex_8e157, Cond.initialized RJ3, Cond.code yJ3_checkIndex_8e157 cJ3_checkIndex_8e157 3 (some .int), Cond.methodLink RJx4a65c 123 yJx4a65c_elementData_915e3, Cond.instanceMethod yJx4a65c_elementData_915e3, Cond.selects RJx4a65c yJx4a65c_elementData_915e3 yJx4a65c_elementData_915e3]
def wsL_write_r3 : List Cond := [Cond.code yJx4a65c_elementData_915e3 cJx4a65c_elementData_915e3 2 (some (.object "java/lang/Object")), Cond.fieldLink RJx4a65c 9 "java/util/ArrayList" "elementData" "[Ljava/lang/Object;", Cond.methodLink RX5 85 yX5_rowNumbered, Cond.instanceMethod yX5_rowNumbered, Cond.selects RX5 yX5_rowNumbered yX5_rowNumbered, Cond.code yX5_rowNumbered cX5_rowNumbered 2 (some (.object "UndoCellar$Row")), Cond.fieldLink RX5 17 "UndoCellar" "rows" "[LUndoCellar$Row;", Cond.methodLink RX5 93 yX5_refuseIfEnded, Cond.instanceMethod yX5_refuseIfEnded, Cond.selects RX5 yX5_refuseIfEnded yX5_refuseIfEnded, Cond.code yX5_refuseIfEnded cX5_refuseIfEnded 2 none, Cond.methodLink RX5 97 yX5_refuseIfLockedByAnother, Cond.instanceMethod yX5_refuseIfLockedByAnother, Cond.selects RX5 yX5_refuseIfLockedByAnother yX5_refuseIfLockedByAnother, Cond.code yX5_refuseIfLockedByAnother cX5_refuseIfLockedByAnother 4 none, Cond.methodLink RX5 174 yX5_lockerOf, Cond.instanceMethod yX5_lockerOf, Cond.selects RX5 yX5_lockerOf yX5_lockerOf, Cond.code yX5_lockerOf cX5_lockerOf 4 (some (.object "UndoCellar$Transaction")), Cond.classLink RX5 126 "UndoCellar$Change", Cond.instanceMethod yX1_stands, Cond.selects RX1 yX1_stands yX1_stands, Cond.code yX1_stands cX1_stands 2 (some .boolean), Cond.fieldLink RX1 17 "UndoCellar$Change" "row" "LUndoCellar$Row;"]
def wsL_write_r4 : List Cond := [Cond.fieldLink RX1 7 "UndoCellar$Change" "isVoid" "Z", Cond.methodLink RX5 101 yX5_refuseIfNoSpace, Cond.instanceMethod yX5_refuseIfNoSpace, Cond.selects RX5 yX5_refuseIfNoSpace yX5_refuseIfNoSpace, Cond.code yX5_refuseIfNoSpace cX5_refuseIfNoSpace 1 none, Cond.methodLink RX5 122 yX5_isSpaceFull, Cond.instanceMethod yX5_isSpaceFull, Cond.selects RX5 yX5_isSpaceFull yX5_isSpaceFull, Cond.code yX5_isSpaceFull cX5_isSpaceFull 1 (some .boolean), Cond.fieldLink RX5 31 "UndoCellar" "space" "I", Cond.methodLink RX5 55 yX5_recordsThere, Cond.instanceMethod yX5_recordsThere, Cond.selects RX5 yX5_recordsThere yX5_recordsThere, Cond.code yX5_recordsThere cX5_recordsThere 1 (some .int), Cond.instanceMethod yX0_slotFor, Cond.initialized RX0, Cond.selects RX0 yX0_slotFor yX0_slotFor, Cond.code yX0_slotFor cX0_slotFor 6 (some (.object "UndoCellar$Slot")), Cond.fieldLink RX0 11 "UndoCellar$Block" "slots" "[LUndoCellar$Slot;", Cond.instanceMethod yX3_isEnded, Cond.initialized RX3, Cond.selects RX3 yX3_isEnded yX3_isEnded, Cond.code yX3_isEnded cX3_isEnded 1 (some .boolean), Cond.fieldLink RX3 7 "UndoCellar$Slot" "holder" "LUndoCellar$Transaction;"]
def wsL_write_r5 : List Cond := [Cond.methodLink RX5 114 yX5_clean, Cond.instanceMethod yX5_clean, Cond.selects RX5 yX5_clean yX5_clean, Cond.code yX5_clean cX5_clean 2 none, Cond.fieldLink RX5 38 "UndoCellar" "markedSoFar" "I", Cond.instanceMethod yX0_markEnded, Cond.selects RX0 yX0_markEnded yX0_markEnded, Cond.code yX0_markEnded cX0_markEnded 6 (some .int), Cond.instanceMethod yX3_give, Cond.selects RX3 yX3_give yX3_give, Cond.code yX3_give cX3_give 2 none, Cond.fieldLink RX3 13 "UndoCellar$Slot" "marked" "Z", Cond.instanceMethod yX1_init, Cond.code yX1_init cX1_init 4 none, Cond.methodLink RX1 1 objectInit, Cond.instanceMethod objectInit, Cond.code objectInit ⟨#[0xb1]⟩ 1 none, Cond.fieldLink RX1 13 "UndoCellar$Change" "transaction" "LUndoCellar$Transaction;", Cond.fieldLink RX1 21 "UndoCellar$Change" "ahead" "I", Cond.methodLink RX5 74 yJx4a65c_add_9ea2d, Cond.instanceMethod yJx4a65c_add_9ea2d, Cond.selects RJx4a65c yJx4a65c_add_9ea2d yJx4a65c_add_9ea2d, Cond.code yJx4a65c_add_9ea2d cJx4a65c_add_9ea2d 2 (some .boolean), Cond.fieldLink RJx4a65c 63 "java/util/ArrayList" "modCount" "I"]
def wsL_write_r6 : List Cond := [Cond.sameField "java/util/ArrayList" "java/util/AbstractList" "modCount" "I", Cond.methodLink RJx4a65c 131 yJx4a65c_add_72be8, Cond.instanceMethod yJx4a65c_add_72be8, Cond.selects RJx4a65c yJx4a65c_add_72be8 yJx4a65c_add_72be8, Cond.code yJx4a65c_add_72be8 cJx4a65c_add_72be8 4 none, Cond.methodLink RJx4a65c 129 yJx4a65c_grow_d5877, Cond.instanceMethod yJx4a65c_grow_d5877, Cond.selects RJx4a65c yJx4a65c_grow_d5877 yJx4a65c_grow_d5877, Cond.code yJx4a65c_grow_d5877 cJx4a65c_grow_d5877 1 (some (.array (.object "java/lang/Object"))), Cond.methodLink RJx4a65c 69 yJx4a65c_grow_92f84, Cond.instanceMethod yJx4a65c_grow_92f84, Cond.selects RJx4a65c yJx4a65c_grow_92f84 yJx4a65c_grow_92f84, Cond.code yJx4a65c_grow_92f84 cJx4a65c_grow_92f84 4 (some (.array (.object "java/lang/Object"))), Cond.fieldLink RJx4a65c 39 "java/util/ArrayList" "DEFAULTCAPACITY_EMPTY_ELEMENTDATA" "[Ljava/lang/Object;", Cond.methodLink RJx4a65c 79 Lib.Math.max.name, Cond.static Lib.Math.max.name, Cond.initialized "java/lang/Math", Cond.code Lib.Math.max.name Lib.Math.max.code 2 (some .int), Cond.classLink RJx4a65c 7 "java/lang/Object", Cond.methodLink RJx4a65c 73 yJ8_newLength_cabcc, Cond.static yJ8_newLength_cabcc, Cond.initialized RJ8, Cond.code yJ8_newLength_cabcc cJ8_newLength_cabcc 4 (some .int), Cond.methodLink RJ8 194 Lib.Math.max.name]
def wsL_write_r7 : List Cond := [Cond.constant RJ8 200 (2147483639), Cond.methodLink RJ8 201 yJ8_hugeLength_7cf53, Cond.static yJ8_hugeLength_7cf53, Cond.code yJ8_hugeLength_7cf53 cJ8_hugeLength_7cf53 3 (some .int), Cond.methodLink RJx4a65c 66 yJ7_copyOf_1904c, Cond.static yJ7_copyOf_1904c, Cond.initialized RJ7, Cond.code yJ7_copyOf_1904c cJ7_copyOf_1904c 2 (some (.array (.object "java/lang/Object"))), Cond.methodLink RJ7 86 ⟨"java/lang/Object", "getClass", "()Ljava/lang/Class;"⟩, Cond.selects "[Ljava/lang/Object;" ⟨"java/lang/Object", "getClass", "()Ljava/lang/Class;"⟩ ⟨"java/lang/Object", "getClass", "()Ljava/lang/Class;"⟩, Cond.instanceMethod ⟨"java/lang/Object", "getClass", "()Ljava/lang/Class;"⟩, Cond.native ⟨"java/lang/Object", "getClass", "()Ljava/lang/Class;"⟩, Cond.methodLink RJ7 300 yJ7_copyOf_6403c, Cond.static yJ7_copyOf_6403c, Cond.code yJ7_copyOf_6403c cJ7_copyOf_6403c 4 (some (.array (.object "java/lang/Object"))), Cond.classLink RJ7 110 "[Ljava/lang/Object;", Cond.classLink RJ7 2 "java/lang/Object", Cond.methodLink RJ7 304 Lib.Math.min.name, Cond.static Lib.Math.min.name, Cond.code Lib.Math.min.name Lib.Math.min.code 2 (some .int), Cond.methodLink RJ7 150 arraycopyName, Cond.native arraycopyName, Cond.static arraycopyName, Cond.initialized "java/lang/System"]
def wsL_write_r8 : List Cond := [Cond.instanceMethod yX1_make, Cond.selects RX1 yX1_make yX1_make, Cond.code yX1_make cX1_make 2 none]
def wsL_write : List Cond := .codeWith yL_write cL_write 6 (some .int) [(0, 12, 15, 25), (0, 12, 19, 13), (0, 12, 23, 15)] :: ((wsL_write_r1 ++ (wsL_write_r2 ++ (wsL_write_r3 ++ (wsL_write_r4 ++ (wsL_write_r5 ++ (wsL_write_r6 ++ (wsL_write_r7 ++ wsL_write_r8))))))) ++ wsX20 ++ wsX50 ++ wsX10 ++ wsJx4a65c0 ++ wsX40 ++ wsX00 ++ wsX30 ++ (vx_atS RX5 52 "java/lang/IllegalArgumentException" ["java/lang/RuntimeException", "java/lang/Exception"]).filter goodWord ++ (vx_atS RX5 63 "java/lang/IllegalStateException" ["java/lang/RuntimeException", "java/lang/Exception"]).filter goodWord ++ (vx_atS RX5 193 "java/lang/IndexOutOfBoundsException" ["java/lang/RuntimeException", "java/lang/Exception"]).filter goodWord)
def wsL_read_r1 : List Cond := [Cond.classLink RL 25 "java/lang/IndexOutOfBoundsException", Cond.classLink RL 15 "java/lang/IllegalStateException", Cond.classLink RL 31 "java/util/NoSuchElementException", Cond.methodLink RL 27 yX5_read, Cond.instanceMethod yX5_read, Cond.selects RX5 yX5_read yX5_read, Cond.initialized RX5, Cond.code yX5_read cX5_read 5 (some .int), Cond.methodLink RX5 81 yX5_transactionNumbered, Cond.instanceMethod yX5_transactionNumbered, Cond.selects RX5 yX5_transactionNumbered yX5_transactionNumbered, Cond.code yX5_transactionNumbered cX5_transactionNumbered 2 (some (.object "UndoCellar$Transaction")), Cond.classLink RX5 189 "java/lang/IndexOutOfBoundsException", Cond.initialized "java/lang/IndexOutOfBoundsException", Cond.fieldLink RX5 24 "UndoCellar" "begun" "Ljava/util/ArrayList;", Cond.classLink RX5 69 "UndoCellar$Transaction", Cond.methodLink RX5 64 yJx4a65c_size_8abf5, Cond.instanceMethod yJx4a65c_size_8abf5, Cond.selects RJx4a65c yJx4a65c_size_8abf5 yJx4a65c_size_8abf5, Cond.initialized RJx4a65c, Cond.code yJx4a65c_size_8abf5 cJx4a65c_size_8abf5 1 (some .int), Cond.fieldLink RJx4a65c 48 "java/util/ArrayList" "size" "I", Cond.methodLink RX5 194 yJx4a65c_get_915e3, Cond.instanceMethod yJx4a65c_get_915e3]
def wsL_read_r2 : List Cond := [Cond.selects RJx4a65c yJx4a65c_get_915e3 yJx4a65c_get_915e3, Cond.code yJx4a65c_get_915e3 cJx4a65c_get_915e3 2 (some (.object "java/lang/Object")), Cond.methodLink RJx4a65c 118 yJ15_checkIndex_7cf53, Cond.static yJ15_checkIndex_7cf53, Cond.initialized RJ15, Cond.code yJ15_checkIndex_7cf53 cJ15_checkIndex_7cf53 2 (some .int), Cond.methodLink RJ15 105 yJ3_checkIndex_8e157, Cond.static yJ3_checkIndex_8e157, Cond.initialized RJ3, Cond.code yJ3_checkIndex_8e157 cJ3_checkIndex_8e157 3 (some .int), Cond.methodLink RJx4a65c 123 yJx4a65c_elementData_915e3, Cond.instanceMethod yJx4a65c_elementData_915e3, Cond.selects RJx4a65c yJx4a65c_elementData_915e3 yJx4a65c_elementData_915e3, Cond.code yJx4a65c_elementData_915e3 cJx4a65c_elementData_915e3 2 (some (.object "java/lang/Object")), Cond.fieldLink RJx4a65c 9 "java/util/ArrayList" "elementData" "[Ljava/lang/Object;", Cond.methodLink RX5 85 yX5_rowNumbered, Cond.instanceMethod yX5_rowNumbered, Cond.selects RX5 yX5_rowNumbered yX5_rowNumbered, Cond.code yX5_rowNumbered cX5_rowNumbered 2 (some (.object "UndoCellar$Row")), Cond.fieldLink RX5 17 "UndoCellar" "rows" "[LUndoCellar$Row;", Cond.methodLink RX5 93 yX5_refuseIfEnded, Cond.instanceMethod yX5_refuseIfEnded, Cond.selects RX5 yX5_refuseIfEnded yX5_refuseIfEnded, Cond.code yX5_refuseIfEnded cX5_refuseIfEnded 2 none]
def wsL_read_r3 : List Cond := [Cond.classLink RX5 59 "java/lang/IllegalStateException", Cond.initialized "java/lang/IllegalStateException", Cond.methodLink RX5 144 yX5_readFromRecords, Cond.instanceMethod yX5_readFromRecords, Cond.selects RX5 yX5_readFromRecords yX5_readFromRecords, Cond.code yX5_readFromRecords cX5_readFromRecords 5 (some .int), Cond.classLink RX5 231 "java/util/NoSuchElementException", Cond.initialized "java/util/NoSuchElementException", Cond.fieldLink RX5 41 "UndoCellar" "droppedSoFar" "I", Cond.methodLink RX5 167 yX5_oldestUnseen, Cond.instanceMethod yX5_oldestUnseen, Cond.selects RX5 yX5_oldestUnseen yX5_oldestUnseen, Cond.code yX5_oldestUnseen cX5_oldestUnseen 7 (some .int), Cond.fieldLink RX5 28 "UndoCellar" "changes" "Ljava/util/ArrayList;", Cond.classLink RX5 126 "UndoCellar$Change", Cond.instanceMethod yX1_stands, Cond.initialized RX1, Cond.selects RX1 yX1_stands yX1_stands, Cond.code yX1_stands cX1_stands 2 (some .boolean), Cond.fieldLink RX1 17 "UndoCellar$Change" "row" "LUndoCellar$Row;", Cond.fieldLink RX1 7 "UndoCellar$Change" "isVoid" "Z", Cond.instanceMethod yX1_isSeen, Cond.selects RX1 yX1_isSeen yX1_isSeen, Cond.code yX1_isSeen cX1_isSeen 3 (some .boolean)]
def wsL_read_r4 : List Cond := [Cond.fieldLink RX1 13 "UndoCellar$Change" "transaction" "LUndoCellar$Transaction;", Cond.instanceMethod yX4_isCommittedBy, Cond.initialized RX4, Cond.selects RX4 yX4_isCommittedBy yX4_isCommittedBy, Cond.code yX4_isCommittedBy cX4_isCommittedBy 2 (some .boolean), Cond.fieldLink RX4 15 "UndoCellar$Transaction" "committedAt" "I", Cond.methodLink RX5 114 yX5_clean, Cond.instanceMethod yX5_clean, Cond.selects RX5 yX5_clean yX5_clean, Cond.code yX5_clean cX5_clean 2 none, Cond.fieldLink RX5 38 "UndoCellar" "markedSoFar" "I", Cond.instanceMethod yX0_markEnded, Cond.initialized RX0, Cond.selects RX0 yX0_markEnded yX0_markEnded, Cond.code yX0_markEnded cX0_markEnded 6 (some .int), Cond.fieldLink RX0 11 "UndoCellar$Block" "slots" "[LUndoCellar$Slot;", Cond.instanceMethod yX3_isEnded, Cond.initialized RX3, Cond.selects RX3 yX3_isEnded yX3_isEnded, Cond.code yX3_isEnded cX3_isEnded 1 (some .boolean), Cond.fieldLink RX3 7 "UndoCellar$Slot" "holder" "LUndoCellar$Transaction;", Cond.methodLink RX5 170 yX5_valueAheadOf, Cond.instanceMethod yX5_valueAheadOf, Cond.selects RX5 yX5_valueAheadOf yX5_valueAheadOf]
def wsL_read_r5 : List Cond := [Cond.code yX5_valueAheadOf cX5_valueAheadOf 3 (some .int)]
def wsL_read : List Cond := .codeWith yL_read cL_read 5 (some .int) [(0, 10, 13, 25), (0, 10, 17, 15), (0, 10, 21, 31)] :: ((wsL_read_r1 ++ (wsL_read_r2 ++ (wsL_read_r3 ++ (wsL_read_r4 ++ wsL_read_r5)))) ++ wsX40 ++ wsX50 ++ wsJx4a65c0 ++ wsX20 ++ wsX10 ++ wsX00 ++ wsX30 ++ (vx_atS RX5 193 "java/lang/IndexOutOfBoundsException" ["java/lang/RuntimeException", "java/lang/Exception"]).filter goodWord ++ (vx_atS RX5 63 "java/lang/IllegalStateException" ["java/lang/RuntimeException", "java/lang/Exception"]).filter goodWord ++ (vx_atS RX5 235 "java/util/NoSuchElementException" ["java/lang/RuntimeException", "java/lang/Exception"]).filter goodWord)
def wsL_readAt_r1 : List Cond := [Cond.classLink RL 25 "java/lang/IndexOutOfBoundsException", Cond.classLink RL 13 "java/lang/IllegalArgumentException", Cond.classLink RL 31 "java/util/NoSuchElementException", Cond.methodLink RL 33 yX5_readAt, Cond.instanceMethod yX5_readAt, Cond.selects RX5 yX5_readAt yX5_readAt, Cond.initialized RX5, Cond.code yX5_readAt cX5_readAt 4 (some .int), Cond.methodLink RX5 85 yX5_rowNumbered, Cond.instanceMethod yX5_rowNumbered, Cond.selects RX5 yX5_rowNumbered yX5_rowNumbered, Cond.code yX5_rowNumbered cX5_rowNumbered 2 (some (.object "UndoCellar$Row")), Cond.classLink RX5 189 "java/lang/IndexOutOfBoundsException", Cond.initialized "java/lang/IndexOutOfBoundsException", Cond.fieldLink RX5 17 "UndoCellar" "rows" "[LUndoCellar$Row;", Cond.methodLink RX5 148 yX5_refuseIfNotYet, Cond.instanceMethod yX5_refuseIfNotYet, Cond.selects RX5 yX5_refuseIfNotYet yX5_refuseIfNotYet, Cond.code yX5_refuseIfNotYet cX5_refuseIfNotYet 2 none, Cond.classLink RX5 48 "java/lang/IllegalArgumentException", Cond.initialized "java/lang/IllegalArgumentException", Cond.fieldLink RX5 35 "UndoCellar" "momentOfNow" "I", Cond.methodLink RX5 144 yX5_readFromRecords, Cond.instanceMethod yX5_readFromRecords]
def wsL_readAt_r2 : List Cond := [Cond.selects RX5 yX5_readFromRecords yX5_readFromRecords, Cond.code yX5_readFromRecords cX5_readFromRecords 5 (some .int), Cond.classLink RX5 231 "java/util/NoSuchElementException", Cond.initialized "java/util/NoSuchElementException", Cond.fieldLink RX5 41 "UndoCellar" "droppedSoFar" "I", Cond.methodLink RX5 167 yX5_oldestUnseen, Cond.instanceMethod yX5_oldestUnseen, Cond.selects RX5 yX5_oldestUnseen yX5_oldestUnseen, Cond.code yX5_oldestUnseen cX5_oldestUnseen 7 (some .int), Cond.fieldLink RX5 28 "UndoCellar" "changes" "Ljava/util/ArrayList;", Cond.classLink RX5 126 "UndoCellar$Change", Cond.methodLink RX5 64 yJx4a65c_size_8abf5, Cond.instanceMethod yJx4a65c_size_8abf5, Cond.selects RJx4a65c yJx4a65c_size_8abf5 yJx4a65c_size_8abf5, Cond.initialized RJx4a65c, Cond.code yJx4a65c_size_8abf5 cJx4a65c_size_8abf5 1 (some .int), Cond.fieldLink RJx4a65c 48 "java/util/ArrayList" "size" "I", Cond.methodLink RX5 194 yJx4a65c_get_915e3, Cond.instanceMethod yJx4a65c_get_915e3, Cond.selects RJx4a65c yJx4a65c_get_915e3 yJx4a65c_get_915e3, Cond.code yJx4a65c_get_915e3 cJx4a65c_get_915e3 2 (some (.object "java/lang/Object")), Cond.methodLink RJx4a65c 118 yJ15_checkIndex_7cf53, Cond.static yJ15_checkIndex_7cf53, Cond.initialized RJ15]
def wsL_readAt_r3 : List Cond := [Cond.code yJ15_checkIndex_7cf53 cJ15_checkIndex_7cf53 2 (some .int), Cond.methodLink RJ15 105 yJ3_checkIndex_8e157, Cond.static yJ3_checkIndex_8e157, Cond.initialized RJ3, Cond.code yJ3_checkIndex_8e157 cJ3_checkIndex_8e157 3 (some .int), Cond.methodLink RJx4a65c 123 yJx4a65c_elementData_915e3, Cond.instanceMethod yJx4a65c_elementData_915e3, Cond.selects RJx4a65c yJx4a65c_elementData_915e3 yJx4a65c_elementData_915e3, Cond.code yJx4a65c_elementData_915e3 cJx4a65c_elementData_915e3 2 (some (.object "java/lang/Object")), Cond.fieldLink RJx4a65c 9 "java/util/ArrayList" "elementData" "[Ljava/lang/Object;", Cond.instanceMethod yX1_stands, Cond.initialized RX1, Cond.selects RX1 yX1_stands yX1_stands, Cond.code yX1_stands cX1_stands 2 (some .boolean), Cond.fieldLink RX1 17 "UndoCellar$Change" "row" "LUndoCellar$Row;", Cond.fieldLink RX1 7 "UndoCellar$Change" "isVoid" "Z", Cond.instanceMethod yX1_isSeen, Cond.selects RX1 yX1_isSeen yX1_isSeen, Cond.code yX1_isSeen cX1_isSeen 3 (some .boolean), Cond.fieldLink RX1 13 "UndoCellar$Change" "transaction" "LUndoCellar$Transaction;", Cond.instanceMethod yX4_isCommittedBy, Cond.initialized RX4, Cond.selects RX4 yX4_isCommittedBy yX4_isCommittedBy, Cond.code yX4_isCommittedBy cX4_isCommittedBy 2 (some .boolean)]
def wsL_readAt_r4 : List Cond := [Cond.fieldLink RX4 15 "UndoCellar$Transaction" "committedAt" "I", Cond.methodLink RX5 114 yX5_clean, Cond.instanceMethod yX5_clean, Cond.selects RX5 yX5_clean yX5_clean, Cond.code yX5_clean cX5_clean 2 none, Cond.fieldLink RX5 38 "UndoCellar" "markedSoFar" "I", Cond.instanceMethod yX0_markEnded, Cond.initialized RX0, Cond.selects RX0 yX0_markEnded yX0_markEnded, Cond.code yX0_markEnded cX0_markEnded 6 (some .int), Cond.fieldLink RX0 11 "UndoCellar$Block" "slots" "[LUndoCellar$Slot;", Cond.instanceMethod yX3_isEnded, Cond.initialized RX3, Cond.selects RX3 yX3_isEnded yX3_isEnded, Cond.code yX3_isEnded cX3_isEnded 1 (some .boolean), Cond.fieldLink RX3 7 "UndoCellar$Slot" "holder" "LUndoCellar$Transaction;", Cond.methodLink RX5 170 yX5_valueAheadOf, Cond.instanceMethod yX5_valueAheadOf, Cond.selects RX5 yX5_valueAheadOf yX5_valueAheadOf, Cond.code yX5_valueAheadOf cX5_valueAheadOf 3 (some .int)]
def wsL_readAt : List Cond := .codeWith yL_readAt cL_readAt 5 (some .int) [(0, 10, 13, 25), (0, 10, 17, 13), (0, 10, 21, 31)] :: ((wsL_readAt_r1 ++ (wsL_readAt_r2 ++ (wsL_readAt_r3 ++ wsL_readAt_r4))) ++ wsX50 ++ wsX20 ++ wsJx4a65c0 ++ wsX10 ++ wsX40 ++ wsX00 ++ wsX30 ++ (vx_atS RX5 193 "java/lang/IndexOutOfBoundsException" ["java/lang/RuntimeException", "java/lang/Exception"]).filter goodWord ++ (vx_atS RX5 52 "java/lang/IllegalArgumentException" ["java/lang/RuntimeException", "java/lang/Exception"]).filter goodWord ++ (vx_atS RX5 235 "java/util/NoSuchElementException" ["java/lang/RuntimeException", "java/lang/Exception"]).filter goodWord)
def wsL_save_r1 : List Cond := [Cond.classLink RL 25 "java/lang/IndexOutOfBoundsException", Cond.classLink RL 15 "java/lang/IllegalStateException", Cond.methodLink RL 36 yX5_save, Cond.instanceMethod yX5_save, Cond.selects RX5 yX5_save yX5_save, Cond.initialized RX5, Cond.code yX5_save cX5_save 3 (some .int), Cond.methodLink RX5 81 yX5_transactionNumbered, Cond.instanceMethod yX5_transactionNumbered, Cond.selects RX5 yX5_transactionNumbered yX5_transactionNumbered, Cond.code yX5_transactionNumbered cX5_transactionNumbered 2 (some (.object "UndoCellar$Transaction")), Cond.classLink RX5 189 "java/lang/IndexOutOfBoundsException", Cond.initialized "java/lang/IndexOutOfBoundsException", Cond.fieldLink RX5 24 "UndoCellar" "begun" "Ljava/util/ArrayList;", Cond.classLink RX5 69 "UndoCellar$Transaction", Cond.methodLink RX5 64 yJx4a65c_size_8abf5, Cond.instanceMethod yJx4a65c_size_8abf5, Cond.selects RJx4a65c yJx4a65c_size_8abf5 yJx4a65c_size_8abf5, Cond.initialized RJx4a65c, Cond.code yJx4a65c_size_8abf5 cJx4a65c_size_8abf5 1 (some .int), Cond.fieldLink RJx4a65c 48 "java/util/ArrayList" "size" "I", Cond.methodLink RX5 194 yJx4a65c_get_915e3, Cond.instanceMethod yJx4a65c_get_915e3, Cond.selects RJx4a65c yJx4a65c_get_915e3 yJx4a65c_get_915e3]
def wsL_save_r2 : List Cond := [Cond.code yJx4a65c_get_915e3 cJx4a65c_get_915e3 2 (some (.object "java/lang/Object")), Cond.methodLink RJx4a65c 118 yJ15_checkIndex_7cf53, Cond.static yJ15_checkIndex_7cf53, Cond.initialized RJ15, Cond.code yJ15_checkIndex_7cf53 cJ15_checkIndex_7cf53 2 (some .int), Cond.methodLink RJ15 105 yJ3_checkIndex_8e157, Cond.static yJ3_checkIndex_8e157, Cond.initialized RJ3, Cond.code yJ3_checkIndex_8e157 cJ3_checkIndex_8e157 3 (some .int), Cond.methodLink RJx4a65c 123 yJx4a65c_elementData_915e3, Cond.instanceMethod yJx4a65c_elementData_915e3, Cond.selects RJx4a65c yJx4a65c_elementData_915e3 yJx4a65c_elementData_915e3, Cond.code yJx4a65c_elementData_915e3 cJx4a65c_elementData_915e3 2 (some (.object "java/lang/Object")), Cond.fieldLink RJx4a65c 9 "java/util/ArrayList" "elementData" "[Ljava/lang/Object;", Cond.methodLink RX5 93 yX5_refuseIfEnded, Cond.instanceMethod yX5_refuseIfEnded, Cond.selects RX5 yX5_refuseIfEnded yX5_refuseIfEnded, Cond.code yX5_refuseIfEnded cX5_refuseIfEnded 2 none, Cond.classLink RX5 59 "java/lang/IllegalStateException", Cond.initialized "java/lang/IllegalStateException"]
def wsL_save : List Cond := .codeWith yL_save cL_save 4 (some .int) [(0, 9, 12, 25), (0, 9, 15, 15)] :: ((wsL_save_r1 ++ wsL_save_r2) ++ wsX40 ++ wsX50 ++ wsJx4a65c0 ++ (vx_atS RX5 193 "java/lang/IndexOutOfBoundsException" ["java/lang/RuntimeException", "java/lang/Exception"]).filter goodWord ++ (vx_atS RX5 63 "java/lang/IllegalStateException" ["java/lang/RuntimeException", "java/lang/Exception"]).filter goodWord)
def wsL_undoTo_r1 : List Cond := [Cond.classLink RL 25 "java/lang/IndexOutOfBoundsException", Cond.classLink RL 15 "java/lang/IllegalStateException", Cond.classLink RL 13 "java/lang/IllegalArgumentException", Cond.methodLink RL 39 yX5_undoTo, Cond.instanceMethod yX5_undoTo, Cond.selects RX5 yX5_undoTo yX5_undoTo, Cond.initialized RX5, Cond.code yX5_undoTo cX5_undoTo 4 (some .int), Cond.classLink RX5 48 "java/lang/IllegalArgumentException", Cond.initialized "java/lang/IllegalArgumentException", Cond.methodLink RX5 81 yX5_transactionNumbered, Cond.instanceMethod yX5_transactionNumbered, Cond.selects RX5 yX5_transactionNumbered yX5_transactionNumbered, Cond.code yX5_transactionNumbered cX5_transactionNumbered 2 (some (.object "UndoCellar$Transaction")), Cond.classLink RX5 189 "java/lang/IndexOutOfBoundsException", Cond.initialized "java/lang/IndexOutOfBoundsException", Cond.fieldLink RX5 24 "UndoCellar" "begun" "Ljava/util/ArrayList;", Cond.classLink RX5 69 "UndoCellar$Transaction", Cond.methodLink RX5 64 yJx4a65c_size_8abf5, Cond.instanceMethod yJx4a65c_size_8abf5, Cond.selects RJx4a65c yJx4a65c_size_8abf5 yJx4a65c_size_8abf5, Cond.initialized RJx4a65c, Cond.code yJx4a65c_size_8abf5 cJx4a65c_size_8abf5 1 (some .int), Cond.fieldLink RJx4a65c 48 "java/util/ArrayList" "size" "I"]
def wsL_undoTo_r2 : List Cond := [Cond.methodLink RX5 194 yJx4a65c_get_915e3, Cond.instanceMethod yJx4a65c_get_915e3, Cond.selects RJx4a65c yJx4a65c_get_915e3 yJx4a65c_get_915e3, Cond.code yJx4a65c_get_915e3 cJx4a65c_get_915e3 2 (some (.object "java/lang/Object")), Cond.methodLink RJx4a65c 118 yJ15_checkIndex_7cf53, Cond.static yJ15_checkIndex_7cf53, Cond.initialized RJ15, Cond.code yJ15_checkIndex_7cf53 cJ15_checkIndex_7cf53 2 (some .int), Cond.methodLink RJ15 105 yJ3_checkIndex_8e157, Cond.static yJ3_checkIndex_8e157, Cond.initialized RJ3, Cond.code yJ3_checkIndex_8e157 cJ3_checkIndex_8e157 3 (some .int), Cond.methodLink RJx4a65c 123 yJx4a65c_elementData_915e3, Cond.instanceMethod yJx4a65c_elementData_915e3, Cond.selects RJx4a65c yJx4a65c_elementData_915e3 yJx4a65c_elementData_915e3, Cond.code yJx4a65c_elementData_915e3 cJx4a65c_elementData_915e3 2 (some (.object "java/lang/Object")), Cond.fieldLink RJx4a65c 9 "java/util/ArrayList" "elementData" "[Ljava/lang/Object;", Cond.methodLink RX5 93 yX5_refuseIfEnded, Cond.instanceMethod yX5_refuseIfEnded, Cond.selects RX5 yX5_refuseIfEnded yX5_refuseIfEnded, Cond.code yX5_refuseIfEnded cX5_refuseIfEnded 2 none, Cond.classLink RX5 59 "java/lang/IllegalStateException", Cond.initialized "java/lang/IllegalStateException", Cond.methodLink RX5 156 yX5_undoDownTo]
def wsL_undoTo_r3 : List Cond := [Cond.instanceMethod yX5_undoDownTo, Cond.selects RX5 yX5_undoDownTo yX5_undoDownTo, Cond.code yX5_undoDownTo cX5_undoDownTo 6 (some .int), Cond.fieldLink RX5 28 "UndoCellar" "changes" "Ljava/util/ArrayList;", Cond.classLink RX5 126 "UndoCellar$Change", Cond.instanceMethod yX1_takeBack, Cond.initialized RX1, Cond.selects RX1 yX1_takeBack yX1_takeBack, Cond.code yX1_takeBack cX1_takeBack 1 none, Cond.fieldLink RX1 17 "UndoCellar$Change" "row" "LUndoCellar$Row;", Cond.fieldLink RX1 21 "UndoCellar$Change" "ahead" "I", Cond.fieldLink RX1 7 "UndoCellar$Change" "isVoid" "Z", Cond.fieldLink RX1 13 "UndoCellar$Change" "transaction" "LUndoCellar$Transaction;"]
def wsL_undoTo : List Cond := .codeWith yL_undoTo cL_undoTo 5 (some .int) [(0, 10, 13, 25), (0, 10, 17, 15), (0, 10, 21, 13)] :: ((wsL_undoTo_r1 ++ (wsL_undoTo_r2 ++ wsL_undoTo_r3)) ++ wsX40 ++ wsX50 ++ wsJx4a65c0 ++ wsX10 ++ wsX20 ++ (vx_atS RX5 52 "java/lang/IllegalArgumentException" ["java/lang/RuntimeException", "java/lang/Exception"]).filter goodWord ++ (vx_atS RX5 193 "java/lang/IndexOutOfBoundsException" ["java/lang/RuntimeException", "java/lang/Exception"]).filter goodWord ++ (vx_atS RX5 63 "java/lang/IllegalStateException" ["java/lang/RuntimeException", "java/lang/Exception"]).filter goodWord)
def wsL_undo_r1 : List Cond := [Cond.classLink RL 25 "java/lang/IndexOutOfBoundsException", Cond.classLink RL 15 "java/lang/IllegalStateException", Cond.methodLink RL 42 yX5_undo, Cond.instanceMethod yX5_undo, Cond.selects RX5 yX5_undo yX5_undo, Cond.initialized RX5, Cond.code yX5_undo cX5_undo 4 (some .int), Cond.methodLink RX5 81 yX5_transactionNumbered, Cond.instanceMethod yX5_transactionNumbered, Cond.selects RX5 yX5_transactionNumbered yX5_transactionNumbered, Cond.code yX5_transactionNumbered cX5_transactionNumbered 2 (some (.object "UndoCellar$Transaction")), Cond.classLink RX5 189 "java/lang/IndexOutOfBoundsException", Cond.initialized "java/lang/IndexOutOfBoundsException", Cond.fieldLink RX5 24 "UndoCellar" "begun" "Ljava/util/ArrayList;", Cond.classLink RX5 69 "UndoCellar$Transaction", Cond.methodLink RX5 64 yJx4a65c_size_8abf5, Cond.instanceMethod yJx4a65c_size_8abf5, Cond.selects RJx4a65c yJx4a65c_size_8abf5 yJx4a65c_size_8abf5, Cond.initialized RJx4a65c, Cond.code yJx4a65c_size_8abf5 cJx4a65c_size_8abf5 1 (some .int), Cond.fieldLink RJx4a65c 48 "java/util/ArrayList" "size" "I", Cond.methodLink RX5 194 yJx4a65c_get_915e3, Cond.instanceMethod yJx4a65c_get_915e3, Cond.selects RJx4a65c yJx4a65c_get_915e3 yJx4a65c_get_915e3]
def wsL_undo_r2 : List Cond := [Cond.code yJx4a65c_get_915e3 cJx4a65c_get_915e3 2 (some (.object "java/lang/Object")), Cond.methodLink RJx4a65c 118 yJ15_checkIndex_7cf53, Cond.static yJ15_checkIndex_7cf53, Cond.initialized RJ15, Cond.code yJ15_checkIndex_7cf53 cJ15_checkIndex_7cf53 2 (some .int), Cond.methodLink RJ15 105 yJ3_checkIndex_8e157, Cond.static yJ3_checkIndex_8e157, Cond.initialized RJ3, Cond.code yJ3_checkIndex_8e157 cJ3_checkIndex_8e157 3 (some .int), Cond.methodLink RJx4a65c 123 yJx4a65c_elementData_915e3, Cond.instanceMethod yJx4a65c_elementData_915e3, Cond.selects RJx4a65c yJx4a65c_elementData_915e3 yJx4a65c_elementData_915e3, Cond.code yJx4a65c_elementData_915e3 cJx4a65c_elementData_915e3 2 (some (.object "java/lang/Object")), Cond.fieldLink RJx4a65c 9 "java/util/ArrayList" "elementData" "[Ljava/lang/Object;", Cond.methodLink RX5 93 yX5_refuseIfEnded, Cond.instanceMethod yX5_refuseIfEnded, Cond.selects RX5 yX5_refuseIfEnded yX5_refuseIfEnded, Cond.code yX5_refuseIfEnded cX5_refuseIfEnded 2 none, Cond.classLink RX5 59 "java/lang/IllegalStateException", Cond.initialized "java/lang/IllegalStateException", Cond.methodLink RX5 156 yX5_undoDownTo, Cond.instanceMethod yX5_undoDownTo, Cond.selects RX5 yX5_undoDownTo yX5_undoDownTo, Cond.code yX5_undoDownTo cX5_undoDownTo 6 (some .int)]
def wsL_undo_r3 : List Cond := [Cond.fieldLink RX5 28 "UndoCellar" "changes" "Ljava/util/ArrayList;", Cond.classLink RX5 126 "UndoCellar$Change", Cond.instanceMethod yX1_takeBack, Cond.initialized RX1, Cond.selects RX1 yX1_takeBack yX1_takeBack, Cond.code yX1_takeBack cX1_takeBack 1 none, Cond.fieldLink RX1 17 "UndoCellar$Change" "row" "LUndoCellar$Row;", Cond.fieldLink RX1 21 "UndoCellar$Change" "ahead" "I", Cond.fieldLink RX1 7 "UndoCellar$Change" "isVoid" "Z", Cond.fieldLink RX1 13 "UndoCellar$Change" "transaction" "LUndoCellar$Transaction;"]
def wsL_undo : List Cond := .codeWith yL_undo cL_undo 4 (some .int) [(0, 9, 12, 25), (0, 9, 15, 15)] :: ((wsL_undo_r1 ++ (wsL_undo_r2 ++ wsL_undo_r3)) ++ wsX40 ++ wsX50 ++ wsJx4a65c0 ++ wsX10 ++ wsX20 ++ (vx_atS RX5 193 "java/lang/IndexOutOfBoundsException" ["java/lang/RuntimeException", "java/lang/Exception"]).filter goodWord ++ (vx_atS RX5 63 "java/lang/IllegalStateException" ["java/lang/RuntimeException", "java/lang/Exception"]).filter goodWord)
def wsL_commit_r1 : List Cond := [Cond.classLink RL 25 "java/lang/IndexOutOfBoundsException", Cond.classLink RL 15 "java/lang/IllegalStateException", Cond.methodLink RL 45 yX5_commit, Cond.instanceMethod yX5_commit, Cond.selects RX5 yX5_commit yX5_commit, Cond.initialized RX5, Cond.code yX5_commit cX5_commit 3 (some .int), Cond.fieldLink RX5 35 "UndoCellar" "momentOfNow" "I", Cond.methodLink RX5 81 yX5_transactionNumbered, Cond.instanceMethod yX5_transactionNumbered, Cond.selects RX5 yX5_transactionNumbered yX5_transactionNumbered, Cond.code yX5_transactionNumbered cX5_transactionNumbered 2 (some (.object "UndoCellar$Transaction")), Cond.classLink RX5 189 "java/lang/IndexOutOfBoundsException", Cond.initialized "java/lang/IndexOutOfBoundsException", Cond.fieldLink RX5 24 "UndoCellar" "begun" "Ljava/util/ArrayList;", Cond.classLink RX5 69 "UndoCellar$Transaction", Cond.methodLink RX5 64 yJx4a65c_size_8abf5, Cond.instanceMethod yJx4a65c_size_8abf5, Cond.selects RJx4a65c yJx4a65c_size_8abf5 yJx4a65c_size_8abf5, Cond.initialized RJx4a65c, Cond.code yJx4a65c_size_8abf5 cJx4a65c_size_8abf5 1 (some .int), Cond.fieldLink RJx4a65c 48 "java/util/ArrayList" "size" "I", Cond.methodLink RX5 194 yJx4a65c_get_915e3, Cond.instanceMethod yJx4a65c_get_915e3]
def wsL_commit_r2 : List Cond := [Cond.selects RJx4a65c yJx4a65c_get_915e3 yJx4a65c_get_915e3, Cond.code yJx4a65c_get_915e3 cJx4a65c_get_915e3 2 (some (.object "java/lang/Object")), Cond.methodLink RJx4a65c 118 yJ15_checkIndex_7cf53, Cond.static yJ15_checkIndex_7cf53, Cond.initialized RJ15, Cond.code yJ15_checkIndex_7cf53 cJ15_checkIndex_7cf53 2 (some .int), Cond.methodLink RJ15 105 yJ3_checkIndex_8e157, Cond.static yJ3_checkIndex_8e157, Cond.initialized RJ3, Cond.code yJ3_checkIndex_8e157 cJ3_checkIndex_8e157 3 (some .int), Cond.methodLink RJx4a65c 123 yJx4a65c_elementData_915e3, Cond.instanceMethod yJx4a65c_elementData_915e3, Cond.selects RJx4a65c yJx4a65c_elementData_915e3 yJx4a65c_elementData_915e3, Cond.code yJx4a65c_elementData_915e3 cJx4a65c_elementData_915e3 2 (some (.object "java/lang/Object")), Cond.fieldLink RJx4a65c 9 "java/util/ArrayList" "elementData" "[Ljava/lang/Object;", Cond.methodLink RX5 93 yX5_refuseIfEnded, Cond.instanceMethod yX5_refuseIfEnded, Cond.selects RX5 yX5_refuseIfEnded yX5_refuseIfEnded, Cond.code yX5_refuseIfEnded cX5_refuseIfEnded 2 none, Cond.classLink RX5 59 "java/lang/IllegalStateException", Cond.initialized "java/lang/IllegalStateException"]
def wsL_commit : List Cond := .codeWith yL_commit cL_commit 4 (some .int) [(0, 9, 12, 25), (0, 9, 15, 15)] :: ((wsL_commit_r1 ++ wsL_commit_r2) ++ wsX50 ++ wsX40 ++ wsJx4a65c0 ++ (vx_atS RX5 193 "java/lang/IndexOutOfBoundsException" ["java/lang/RuntimeException", "java/lang/Exception"]).filter goodWord ++ (vx_atS RX5 63 "java/lang/IllegalStateException" ["java/lang/RuntimeException", "java/lang/Exception"]).filter goodWord)
def wsL_now : List Cond := .codeWith yL_now cL_now 4 (some .int) [(0, 9, 12, 25)] :: ([.classLink RL 25 "java/lang/IndexOutOfBoundsException", .methodLink RL 48 yX5_now, .instanceMethod yX5_now, .selects RX5 yX5_now yX5_now, .initialized RX5, .code yX5_now cX5_now 2 (some .int), .methodLink RX5 85 yX5_rowNumbered, .instanceMethod yX5_rowNumbered, .selects RX5 yX5_rowNumbered yX5_rowNumbered, .code yX5_rowNumbered cX5_rowNumbered 2 (some (.object "UndoCellar$Row")), .classLink RX5 189 "java/lang/IndexOutOfBoundsException", .initialized "java/lang/IndexOutOfBoundsException", .fieldLink RX5 17 "UndoCellar" "rows" "[LUndoCellar$Row;"] ++ wsX20 ++ wsX50 ++ (vx_atS RX5 193 "java/lang/IndexOutOfBoundsException" ["java/lang/RuntimeException", "java/lang/Exception"]).filter goodWord)
def wsL_versionAt_r1 : List Cond := [Cond.classLink RL 25 "java/lang/IndexOutOfBoundsException", Cond.classLink RL 13 "java/lang/IllegalArgumentException", Cond.methodLink RL 51 yX5_versionAt, Cond.instanceMethod yX5_versionAt, Cond.selects RX5 yX5_versionAt yX5_versionAt, Cond.initialized RX5, Cond.code yX5_versionAt cX5_versionAt 4 (some .int), Cond.methodLink RX5 85 yX5_rowNumbered, Cond.instanceMethod yX5_rowNumbered, Cond.selects RX5 yX5_rowNumbered yX5_rowNumbered, Cond.code yX5_rowNumbered cX5_rowNumbered 2 (some (.object "UndoCellar$Row")), Cond.classLink RX5 189 "java/lang/IndexOutOfBoundsException", Cond.initialized "java/lang/IndexOutOfBoundsException", Cond.fieldLink RX5 17 "UndoCellar" "rows" "[LUndoCellar$Row;", Cond.methodLink RX5 148 yX5_refuseIfNotYet, Cond.instanceMethod yX5_refuseIfNotYet, Cond.selects RX5 yX5_refuseIfNotYet yX5_refuseIfNotYet, Cond.code yX5_refuseIfNotYet cX5_refuseIfNotYet 2 none, Cond.classLink RX5 48 "java/lang/IllegalArgumentException", Cond.initialized "java/lang/IllegalArgumentException", Cond.fieldLink RX5 35 "UndoCellar" "momentOfNow" "I", Cond.methodLink RX5 167 yX5_oldestUnseen, Cond.instanceMethod yX5_oldestUnseen, Cond.selects RX5 yX5_oldestUnseen yX5_oldestUnseen]
def wsL_versionAt_r2 : List Cond := [Cond.code yX5_oldestUnseen cX5_oldestUnseen 7 (some .int), Cond.fieldLink RX5 28 "UndoCellar" "changes" "Ljava/util/ArrayList;", Cond.classLink RX5 126 "UndoCellar$Change", Cond.methodLink RX5 64 yJx4a65c_size_8abf5, Cond.instanceMethod yJx4a65c_size_8abf5, Cond.selects RJx4a65c yJx4a65c_size_8abf5 yJx4a65c_size_8abf5, Cond.initialized RJx4a65c, Cond.code yJx4a65c_size_8abf5 cJx4a65c_size_8abf5 1 (some .int), Cond.fieldLink RJx4a65c 48 "java/util/ArrayList" "size" "I", Cond.methodLink RX5 194 yJx4a65c_get_915e3, Cond.instanceMethod yJx4a65c_get_915e3, Cond.selects RJx4a65c yJx4a65c_get_915e3 yJx4a65c_get_915e3, Cond.code yJx4a65c_get_915e3 cJx4a65c_get_915e3 2 (some (.object "java/lang/Object")), Cond.methodLink RJx4a65c 118 yJ15_checkIndex_7cf53, Cond.static yJ15_checkIndex_7cf53, Cond.initialized RJ15, Cond.code yJ15_checkIndex_7cf53 cJ15_checkIndex_7cf53 2 (some .int), Cond.methodLink RJ15 105 yJ3_checkIndex_8e157, Cond.static yJ3_checkIndex_8e157, Cond.initialized RJ3, Cond.code yJ3_checkIndex_8e157 cJ3_checkIndex_8e157 3 (some .int), Cond.methodLink RJx4a65c 123 yJx4a65c_elementData_915e3, Cond.instanceMethod yJx4a65c_elementData_915e3, Cond.selects RJx4a65c yJx4a65c_elementData_915e3 yJx4a65c_elementData_915e3]
def wsL_versionAt_r3 : List Cond := [Cond.code yJx4a65c_elementData_915e3 cJx4a65c_elementData_915e3 2 (some (.object "java/lang/Object")), Cond.fieldLink RJx4a65c 9 "java/util/ArrayList" "elementData" "[Ljava/lang/Object;", Cond.instanceMethod yX1_stands, Cond.initialized RX1, Cond.selects RX1 yX1_stands yX1_stands, Cond.code yX1_stands cX1_stands 2 (some .boolean), Cond.fieldLink RX1 17 "UndoCellar$Change" "row" "LUndoCellar$Row;", Cond.fieldLink RX1 7 "UndoCellar$Change" "isVoid" "Z", Cond.instanceMethod yX1_isSeen, Cond.selects RX1 yX1_isSeen yX1_isSeen, Cond.code yX1_isSeen cX1_isSeen 3 (some .boolean), Cond.fieldLink RX1 13 "UndoCellar$Change" "transaction" "LUndoCellar$Transaction;", Cond.instanceMethod yX4_isCommittedBy, Cond.initialized RX4, Cond.selects RX4 yX4_isCommittedBy yX4_isCommittedBy, Cond.code yX4_isCommittedBy cX4_isCommittedBy 2 (some .boolean), Cond.fieldLink RX4 15 "UndoCellar$Transaction" "committedAt" "I", Cond.methodLink RX5 170 yX5_valueAheadOf, Cond.instanceMethod yX5_valueAheadOf, Cond.selects RX5 yX5_valueAheadOf yX5_valueAheadOf, Cond.code yX5_valueAheadOf cX5_valueAheadOf 3 (some .int)]
def wsL_versionAt : List Cond := .codeWith yL_versionAt cL_versionAt 5 (some .int) [(0, 10, 13, 25), (0, 10, 17, 13)] :: ((wsL_versionAt_r1 ++ (wsL_versionAt_r2 ++ wsL_versionAt_r3)) ++ wsX50 ++ wsJx4a65c0 ++ wsX10 ++ wsX40 ++ wsX20 ++ (vx_atS RX5 193 "java/lang/IndexOutOfBoundsException" ["java/lang/RuntimeException", "java/lang/Exception"]).filter goodWord ++ (vx_atS RX5 52 "java/lang/IllegalArgumentException" ["java/lang/RuntimeException", "java/lang/Exception"]).filter goodWord)
def wsL_lockOf_r1 : List Cond := [Cond.classLink RL 25 "java/lang/IndexOutOfBoundsException", Cond.methodLink RL 54 yX5_lockOf, Cond.instanceMethod yX5_lockOf, Cond.selects RX5 yX5_lockOf yX5_lockOf, Cond.initialized RX5, Cond.code yX5_lockOf cX5_lockOf 3 (some .int), Cond.methodLink RX5 85 yX5_rowNumbered, Cond.instanceMethod yX5_rowNumbered, Cond.selects RX5 yX5_rowNumbered yX5_rowNumbered, Cond.code yX5_rowNumbered cX5_rowNumbered 2 (some (.object "UndoCellar$Row")), Cond.classLink RX5 189 "java/lang/IndexOutOfBoundsException", Cond.initialized "java/lang/IndexOutOfBoundsException", Cond.fieldLink RX5 17 "UndoCellar" "rows" "[LUndoCellar$Row;", Cond.methodLink RX5 174 yX5_lockerOf, Cond.instanceMethod yX5_lockerOf, Cond.selects RX5 yX5_lockerOf yX5_lockerOf, Cond.code yX5_lockerOf cX5_lockerOf 4 (some (.object "UndoCellar$Transaction")), Cond.fieldLink RX5 28 "UndoCellar" "changes" "Ljava/util/ArrayList;", Cond.classLink RX5 126 "UndoCellar$Change", Cond.methodLink RX5 64 yJx4a65c_size_8abf5, Cond.instanceMethod yJx4a65c_size_8abf5, Cond.selects RJx4a65c yJx4a65c_size_8abf5 yJx4a65c_size_8abf5, Cond.initialized RJx4a65c, Cond.code yJx4a65c_size_8abf5 cJx4a65c_size_8abf5 1 (some .int)]
def wsL_lockOf_r2 : List Cond := [Cond.fieldLink RJx4a65c 48 "java/util/ArrayList" "size" "I", Cond.methodLink RX5 194 yJx4a65c_get_915e3, Cond.instanceMethod yJx4a65c_get_915e3, Cond.selects RJx4a65c yJx4a65c_get_915e3 yJx4a65c_get_915e3, Cond.code yJx4a65c_get_915e3 cJx4a65c_get_915e3 2 (some (.object "java/lang/Object")), Cond.methodLink RJx4a65c 118 yJ15_checkIndex_7cf53, Cond.static yJ15_checkIndex_7cf53, Cond.initialized RJ15, Cond.code yJ15_checkIndex_7cf53 cJ15_checkIndex_7cf53 2 (some .int), Cond.methodLink RJ15 105 yJ3_checkIndex_8e157, Cond.static yJ3_checkIndex_8e157, Cond.initialized RJ3, Cond.code yJ3_checkIndex_8e157 cJ3_checkIndex_8e157 3 (some .int), Cond.methodLink RJx4a65c 123 yJx4a65c_elementData_915e3, Cond.instanceMethod yJx4a65c_elementData_915e3, Cond.selects RJx4a65c yJx4a65c_elementData_915e3 yJx4a65c_elementData_915e3, Cond.code yJx4a65c_elementData_915e3 cJx4a65c_elementData_915e3 2 (some (.object "java/lang/Object")), Cond.fieldLink RJx4a65c 9 "java/util/ArrayList" "elementData" "[Ljava/lang/Object;", Cond.instanceMethod yX1_stands, Cond.initialized RX1, Cond.selects RX1 yX1_stands yX1_stands, Cond.code yX1_stands cX1_stands 2 (some .boolean), Cond.fieldLink RX1 17 "UndoCellar$Change" "row" "LUndoCellar$Row;", Cond.fieldLink RX1 7 "UndoCellar$Change" "isVoid" "Z"]
def wsL_lockOf : List Cond := .codeWith yL_lockOf cL_lockOf 4 (some .int) [(0, 9, 12, 25)] :: ((wsL_lockOf_r1 ++ wsL_lockOf_r2) ++ wsX40 ++ wsX50 ++ wsX10 ++ wsJx4a65c0 ++ (vx_atS RX5 193 "java/lang/IndexOutOfBoundsException" ["java/lang/RuntimeException", "java/lang/Exception"]).filter goodWord)
def wsL_slotOf : List Cond := .codeWith yL_slotOf cL_slotOf 5 (some .int) [(0, 10, 13, 25)] :: ([.classLink RL 25 "java/lang/IndexOutOfBoundsException", .methodLink RL 57 yX5_slotOf, .instanceMethod yX5_slotOf, .selects RX5 yX5_slotOf yX5_slotOf, .initialized RX5, .code yX5_slotOf cX5_slotOf 4 (some .int), .methodLink RX5 178 yX5_slotNumbered, .instanceMethod yX5_slotNumbered, .selects RX5 yX5_slotNumbered yX5_slotNumbered, .code yX5_slotNumbered cX5_slotNumbered 4 (some (.object "UndoCellar$Slot")), .classLink RX5 189 "java/lang/IndexOutOfBoundsException", .initialized "java/lang/IndexOutOfBoundsException", .fieldLink RX5 11 "UndoCellar" "blocks" "[LUndoCellar$Block;"] ++ wsX30 ++ wsX40 ++ wsX50 ++ wsX00 ++ (vx_atS RX5 193 "java/lang/IndexOutOfBoundsException" ["java/lang/RuntimeException", "java/lang/Exception"]).filter goodWord)
def wsL_isMarked : List Cond := .codeWith yL_isMarked cL_isMarked 5 (some .int) [(0, 17, 20, 25)] :: ([.classLink RL 25 "java/lang/IndexOutOfBoundsException", .methodLink RL 60 yX5_isMarked, .instanceMethod yX5_isMarked, .selects RX5 yX5_isMarked yX5_isMarked, .initialized RX5, .code yX5_isMarked cX5_isMarked 3 (some .boolean), .methodLink RX5 178 yX5_slotNumbered, .instanceMethod yX5_slotNumbered, .selects RX5 yX5_slotNumbered yX5_slotNumbered, .code yX5_slotNumbered cX5_slotNumbered 4 (some (.object "UndoCellar$Slot")), .classLink RX5 189 "java/lang/IndexOutOfBoundsException", .initialized "java/lang/IndexOutOfBoundsException", .fieldLink RX5 11 "UndoCellar" "blocks" "[LUndoCellar$Block;"] ++ wsX30 ++ wsX50 ++ wsX00 ++ (vx_atS RX5 193 "java/lang/IndexOutOfBoundsException" ["java/lang/RuntimeException", "java/lang/Exception"]).filter goodWord)
def wsL_law0_r1 : List Cond := [Cond.classLink RL 8 RX5, Cond.instantiable RX5 8, Cond.initialized RX5, Cond.classLink RL 65 RX6, Cond.instantiable RX6 18, Cond.initialized RX6, Cond.arrayClass .long, Cond.methodLink RL 64 yX5_init, Cond.instanceMethod yX5_init, Cond.code yX5_init cX5_init 2 none, Cond.methodLink RX5 1 objectInit, Cond.instanceMethod objectInit, Cond.code objectInit ⟨#[0xb1]⟩ 1 none, Cond.classLink RX5 9 RX0, Cond.fieldLink RX5 11 "UndoCellar" "blocks" "[LUndoCellar$Block;", Cond.classLink RX5 15 RX2, Cond.fieldLink RX5 17 "UndoCellar" "rows" "[LUndoCellar$Row;", Cond.classLink RX5 21 RJx4a65c, Cond.instantiable RJx4a65c 3, Cond.initialized RJx4a65c, Cond.fieldLink RX5 24 "UndoCellar" "begun" "Ljava/util/ArrayList;", Cond.fieldLink RX5 28 "UndoCellar" "changes" "Ljava/util/ArrayList;", Cond.fieldLink RX5 31 "UndoCellar" "space" "I", Cond.fieldLink RX5 35 "UndoCellar" "momentOfNow" "I"]
def wsL_law0_r2 : List Cond := [Cond.fieldLink RX5 38 "UndoCellar" "markedSoFar" "I", Cond.fieldLink RX5 41 "UndoCellar" "droppedSoFar" "I", Cond.instantiable RX0 1, Cond.initialized RX0, Cond.instantiable RX2 2, Cond.initialized RX2, Cond.methodLink RX5 23 yJx4a65c_init_da8c8, Cond.instanceMethod yJx4a65c_init_da8c8, Cond.code yJx4a65c_init_da8c8 cJx4a65c_init_da8c8 1 none, Cond.fieldLink RJx4a65c 39 "java/util/ArrayList" "DEFAULTCAPACITY_EMPTY_ELEMENTDATA" "[Ljava/lang/Object;", Cond.fieldLink RJx4a65c 9 "java/util/ArrayList" "elementData" "[Ljava/lang/Object;", Cond.methodLink RJx4a65c 1 yJxc12de_init_da8c8, Cond.instanceMethod yJxc12de_init_da8c8, Cond.initialized RJxc12de, Cond.code yJxc12de_init_da8c8 cJxc12de_init_da8c8 1 none, Cond.fieldLink RJxc12de 7 "java/util/AbstractList" "modCount" "I", Cond.methodLink RJxc12de 1 yJxa1e45_init_da8c8, Cond.instanceMethod yJxa1e45_init_da8c8, Cond.initialized RJxa1e45, Cond.code yJxa1e45_init_da8c8 cJxa1e45_init_da8c8 1 none, Cond.methodLink RJxa1e45 1 objectInit, Cond.instanceMethod yX0_init, Cond.code yX0_init cX0_init 2 none, Cond.methodLink RX0 3 objectInit]
def wsL_law0_r3 : List Cond := [Cond.classLink RX0 9 RX3, Cond.fieldLink RX0 11 "UndoCellar$Block" "slots" "[LUndoCellar$Slot;", Cond.instantiable RX3 2, Cond.initialized RX3, Cond.instanceMethod yX3_init, Cond.code yX3_init cX3_init 1 none, Cond.methodLink RX3 1 objectInit, Cond.fieldLink RX3 7 "UndoCellar$Slot" "holder" "LUndoCellar$Transaction;", Cond.fieldLink RX3 13 "UndoCellar$Slot" "marked" "Z", Cond.instanceMethod yX2_init, Cond.code yX2_init cX2_init 2 none, Cond.methodLink RX2 1 objectInit, Cond.fieldLink RX2 7 "UndoCellar$Row" "value" "I", Cond.fieldLink RX2 13 "UndoCellar$Row" "block" "LUndoCellar$Block;", Cond.methodLink RL 67 yX6_init, Cond.instanceMethod yX6_init, Cond.code yX6_init cX6_init 2 none, Cond.methodLink RX6 1 objectInit, Cond.arrayClass .int, Cond.fieldLink RX6 7 "UndoCellarModel" "value" "[I", Cond.fieldLink RX6 13 "UndoCellarModel" "size" "I", Cond.fieldLink RX6 17 "UndoCellarModel" "state" "[I", Cond.fieldLink RX6 20 "UndoCellarModel" "asOf" "[I", Cond.fieldLink RX6 23 "UndoCellarModel" "committedAt" "[I"]
def wsL_law0_r4 : List Cond := [Cond.fieldLink RX6 26 "UndoCellarModel" "by" "[I", Cond.fieldLink RX6 29 "UndoCellarModel" "row" "[I", Cond.fieldLink RX6 32 "UndoCellarModel" "ahead" "[I", Cond.arrayClass .boolean, Cond.fieldLink RX6 35 "UndoCellarModel" "isVoid" "[Z", Cond.fieldLink RX6 39 "UndoCellarModel" "slot" "[I", Cond.fieldLink RX6 42 "UndoCellarModel" "isEnded" "[Z", Cond.methodLink RL 68 yL_setSpace, Cond.static yL_setSpace, Cond.initialized RL, Cond.codeWith yL_setSpace cL_setSpace 4 (some .int) [(0, 9, 12, 13), (0, 9, 15, 15)], Cond.classLink RL 13 "java/lang/IllegalArgumentException", Cond.classLink RL 15 "java/lang/IllegalStateException", Cond.methodLink RL 7 yX5_setSpace, Cond.instanceMethod yX5_setSpace, Cond.selects RX5 yX5_setSpace yX5_setSpace, Cond.code yX5_setSpace cX5_setSpace 3 (some .int), Cond.classLink RX5 48 "java/lang/IllegalArgumentException", Cond.initialized "java/lang/IllegalArgumentException", Cond.classLink RX5 59 "java/lang/IllegalStateException", Cond.initialized "java/lang/IllegalStateException", Cond.methodLink RX5 55 yX5_recordsThere, Cond.instanceMethod yX5_recordsThere, Cond.selects RX5 yX5_recordsThere yX5_recordsThere]
def wsL_law0_r5 : List Cond := [Cond.code yX5_recordsThere cX5_recordsThere 1 (some .int), Cond.methodLink RX5 64 yJx4a65c_size_8abf5, Cond.instanceMethod yJx4a65c_size_8abf5, Cond.selects RJx4a65c yJx4a65c_size_8abf5 yJx4a65c_size_8abf5, Cond.code yJx4a65c_size_8abf5 cJx4a65c_size_8abf5 1 (some .int), Cond.fieldLink RJx4a65c 48 "java/util/ArrayList" "size" "I", Cond.methodLink RL 73 yX6_setSpace, Cond.instanceMethod yX6_setSpace, Cond.selects RX6 yX6_setSpace yX6_setSpace, Cond.code yX6_setSpace cX6_setSpace 3 (some .int), Cond.fieldLink RX6 55 "UndoCellarModel" "changes" "I", Cond.fieldLink RX6 58 "UndoCellarModel" "dropped" "I", Cond.methodLink RX6 48 yX6_isIn, Cond.static yX6_isIn, Cond.code yX6_isIn cX6_isIn 3 (some .boolean), Cond.methodLink RX6 61 yX6_can, Cond.instanceMethod yX6_can, Cond.selects RX6 yX6_can yX6_can, Cond.code yX6_can cX6_can 2 (some .boolean), Cond.fieldLink RX6 45 "UndoCellarModel" "thrown" "I", Cond.methodLink RL 74 yX6_thrown, Cond.instanceMethod yX6_thrown, Cond.selects RX6 yX6_thrown yX6_thrown, Cond.code yX6_thrown cX6_thrown 1 (some .int)]
def wsL_law0_r6 : List Cond := [Cond.methodLink RL 77 yL_begin, Cond.static yL_begin, Cond.codeWith yL_begin cL_begin 3 (some .int) [(0, 8, 11, 15)], Cond.methodLink RL 17 yX5_begin, Cond.instanceMethod yX5_begin, Cond.selects RX5 yX5_begin yX5_begin, Cond.code yX5_begin cX5_begin 2 (some .int), Cond.classLink RX5 69 RX4, Cond.instantiable RX4 5, Cond.initialized RX4, Cond.instanceMethod yX4_init, Cond.code yX4_init cX4_init 3 none, Cond.methodLink RX4 3 objectInit, Cond.fieldLink RX4 9 "UndoCellar$Transaction" "active" "Z", Cond.fieldLink RX4 15 "UndoCellar$Transaction" "committedAt" "I", Cond.fieldLink RX4 19 "UndoCellar$Transaction" "standing" "I", Cond.fieldLink RX4 22 "UndoCellar$Transaction" "number" "I", Cond.fieldLink RX4 25 "UndoCellar$Transaction" "beganAt" "I", Cond.methodLink RX5 74 yJx4a65c_add_9ea2d, Cond.instanceMethod yJx4a65c_add_9ea2d, Cond.selects RJx4a65c yJx4a65c_add_9ea2d yJx4a65c_add_9ea2d, Cond.code yJx4a65c_add_9ea2d cJx4a65c_add_9ea2d 2 (some .boolean), Cond.fieldLink RJx4a65c 63 "java/util/ArrayList" "modCount" "I", Cond.sameField "java/util/ArrayList" "java/util/AbstractList" "modCount" "I"]
def wsL_law0_r7 : List Cond := [Cond.methodLink RJx4a65c 131 yJx4a65c_add_72be8, Cond.instanceMethod yJx4a65c_add_72be8, Cond.selects RJx4a65c yJx4a65c_add_72be8 yJx4a65c_add_72be8, Cond.code yJx4a65c_add_72be8 cJx4a65c_add_72be8 4 none, Cond.methodLink RJx4a65c 129 yJx4a65c_grow_d5877, Cond.instanceMethod yJx4a65c_grow_d5877, Cond.selects RJx4a65c yJx4a65c_grow_d5877 yJx4a65c_grow_d5877, Cond.code yJx4a65c_grow_d5877 cJx4a65c_grow_d5877 1 (some (.array (.object "java/lang/Object"))), Cond.methodLink RJx4a65c 69 yJx4a65c_grow_92f84, Cond.instanceMethod yJx4a65c_grow_92f84, Cond.selects RJx4a65c yJx4a65c_grow_92f84 yJx4a65c_grow_92f84, Cond.code yJx4a65c_grow_92f84 cJx4a65c_grow_92f84 4 (some (.array (.object "java/lang/Object"))), Cond.methodLink RJx4a65c 79 Lib.Math.max.name, Cond.static Lib.Math.max.name, Cond.initialized "java/lang/Math", Cond.code Lib.Math.max.name Lib.Math.max.code 2 (some .int), Cond.classLink RJx4a65c 7 "java/lang/Object", Cond.methodLink RJx4a65c 73 yJ8_newLength_cabcc, Cond.static yJ8_newLength_cabcc, Cond.initialized RJ8, Cond.code yJ8_newLength_cabcc cJ8_newLength_cabcc 4 (some .int), Cond.methodLink RJ8 194 Lib.Math.max.name, Cond.constant RJ8 200 (2147483639), Cond.methodLink RJ8 201 yJ8_hugeLength_7cf53]
def wsL_law0_r8 : List Cond := [Cond.static yJ8_hugeLength_7cf53, Cond.code yJ8_hugeLength_7cf53 cJ8_hugeLength_7cf53 3 (some .int), Cond.methodLink RJx4a65c 66 yJ7_copyOf_1904c, Cond.static yJ7_copyOf_1904c, Cond.initialized RJ7, Cond.code yJ7_copyOf_1904c cJ7_copyOf_1904c 2 (some (.array (.object "java/lang/Object"))), Cond.methodLink RJ7 86 ⟨"java/lang/Object", "getClass", "()Ljava/lang/Class;"⟩, Cond.selects "[Ljava/lang/Object;" ⟨"java/lang/Object", "getClass", "()Ljava/lang/Class;"⟩ ⟨"java/lang/Object", "getClass", "()Ljava/lang/Class;"⟩, Cond.instanceMethod ⟨"java/lang/Object", "getClass", "()Ljava/lang/Class;"⟩, Cond.native ⟨"java/lang/Object", "getClass", "()Ljava/lang/Class;"⟩, Cond.methodLink RJ7 300 yJ7_copyOf_6403c, Cond.static yJ7_copyOf_6403c, Cond.code yJ7_copyOf_6403c cJ7_copyOf_6403c 4 (some (.array (.object "java/lang/Object"))), Cond.classLink RJ7 110 "[Ljava/lang/Object;", Cond.classLink RJ7 2 "java/lang/Object", Cond.methodLink RJ7 304 Lib.Math.min.name, Cond.static Lib.Math.min.name, Cond.code Lib.Math.min.name Lib.Math.min.code 2 (some .int), Cond.methodLink RJ7 150 arraycopyName, Cond.native arraycopyName, Cond.static arraycopyName, Cond.initialized "java/lang/System", Cond.methodLink RL 80 yX6_begin, Cond.instanceMethod yX6_begin]
def wsL_law0_r9 : List Cond := [Cond.selects RX6 yX6_begin yX6_begin, Cond.code yX6_begin cX6_begin 1 (some .int), Cond.fieldLink RX6 52 "UndoCellarModel" "transactions" "I", Cond.fieldLink RX6 65 "UndoCellarModel" "moment" "I", Cond.methodLink RL 81 yL_write, Cond.static yL_write, Cond.codeWith yL_write cL_write 6 (some .int) [(0, 12, 15, 25), (0, 12, 19, 13), (0, 12, 23, 15)], Cond.classLink RL 25 "java/lang/IndexOutOfBoundsException", Cond.methodLink RL 21 yX5_write, Cond.instanceMethod yX5_write, Cond.selects RX5 yX5_write yX5_write, Cond.code yX5_write cX5_write 8 (some .int), Cond.constant RX5 89 (-1000000), Cond.constant RX5 90 (1000000), Cond.classLink RX5 126 RX1, Cond.instantiable RX1 4, Cond.initialized RX1, Cond.methodLink RX5 81 yX5_transactionNumbered, Cond.instanceMethod yX5_transactionNumbered, Cond.selects RX5 yX5_transactionNumbered yX5_transactionNumbered, Cond.code yX5_transactionNumbered cX5_transactionNumbered 2 (some (.object "UndoCellar$Transaction")), Cond.classLink RX5 189 "java/lang/IndexOutOfBoundsException", Cond.initialized "java/lang/IndexOutOfBoundsException", Cond.classLink RX5 69 "UndoCellar$Transaction"]
def wsL_law0_r10 : List Cond := [Cond.methodLink RX5 194 yJx4a65c_get_915e3, Cond.instanceMethod yJx4a65c_get_915e3, Cond.selects RJx4a65c yJx4a65c_get_915e3 yJx4a65c_get_915e3, Cond.code yJx4a65c_get_915e3 cJx4a65c_get_915e3 2 (some (.object "java/lang/Object")), Cond.methodLink RJx4a65c 118 yJ15_checkIndex_7cf53, Cond.static yJ15_checkIndex_7cf53, Cond.initialized RJ15, Cond.code yJ15_checkIndex_7cf53 cJ15_checkIndex_7cf53 2 (some .int), Cond.methodLink RJ15 105 yJ3_checkIndex_8e157, Cond.static yJ3_checkIndex_8e157, Cond.initialized RJ3, Cond.code yJ3_checkIndex_8e157 cJ3_checkIndex_8e157 3 (some .int), Cond.methodLink RJx4a65c 123 yJx4a65c_elementData_915e3, Cond.instanceMethod yJx4a65c_elementData_915e3, Cond.selects RJx4a65c yJx4a65c_elementData_915e3 yJx4a65c_elementData_915e3, Cond.code yJx4a65c_elementData_915e3 cJx4a65c_elementData_915e3 2 (some (.object "java/lang/Object")), Cond.methodLink RX5 85 yX5_rowNumbered, Cond.instanceMethod yX5_rowNumbered, Cond.selects RX5 yX5_rowNumbered yX5_rowNumbered, Cond.code yX5_rowNumbered cX5_rowNumbered 2 (some (.object "UndoCellar$Row")), Cond.methodLink RX5 93 yX5_refuseIfEnded, Cond.instanceMethod yX5_refuseIfEnded, Cond.selects RX5 yX5_refuseIfEnded yX5_refuseIfEnded, Cond.code yX5_refuseIfEnded cX5_refuseIfEnded 2 none]
def wsL_law0_r11 : List Cond := [Cond.methodLink RX5 97 yX5_refuseIfLockedByAnother, Cond.instanceMethod yX5_refuseIfLockedByAnother, Cond.selects RX5 yX5_refuseIfLockedByAnother yX5_refuseIfLockedByAnother, Cond.code yX5_refuseIfLockedByAnother cX5_refuseIfLockedByAnother 4 none, Cond.methodLink RX5 174 yX5_lockerOf, Cond.instanceMethod yX5_lockerOf, Cond.selects RX5 yX5_lockerOf yX5_lockerOf, Cond.code yX5_lockerOf cX5_lockerOf 4 (some (.object "UndoCellar$Transaction")), Cond.classLink RX5 126 "UndoCellar$Change", Cond.instanceMethod yX1_stands, Cond.selects RX1 yX1_stands yX1_stands, Cond.code yX1_stands cX1_stands 2 (some .boolean), Cond.fieldLink RX1 17 "UndoCellar$Change" "row" "LUndoCellar$Row;", Cond.fieldLink RX1 7 "UndoCellar$Change" "isVoid" "Z", Cond.methodLink RX5 101 yX5_refuseIfNoSpace, Cond.instanceMethod yX5_refuseIfNoSpace, Cond.selects RX5 yX5_refuseIfNoSpace yX5_refuseIfNoSpace, Cond.code yX5_refuseIfNoSpace cX5_refuseIfNoSpace 1 none, Cond.methodLink RX5 122 yX5_isSpaceFull, Cond.instanceMethod yX5_isSpaceFull, Cond.selects RX5 yX5_isSpaceFull yX5_isSpaceFull, Cond.code yX5_isSpaceFull cX5_isSpaceFull 1 (some .boolean), Cond.instanceMethod yX0_slotFor, Cond.selects RX0 yX0_slotFor yX0_slotFor]
def wsL_law0_r12 : List Cond := [Cond.code yX0_slotFor cX0_slotFor 6 (some (.object "UndoCellar$Slot")), Cond.instanceMethod yX3_isEnded, Cond.selects RX3 yX3_isEnded yX3_isEnded, Cond.code yX3_isEnded cX3_isEnded 1 (some .boolean), Cond.methodLink RX5 114 yX5_clean, Cond.instanceMethod yX5_clean, Cond.selects RX5 yX5_clean yX5_clean, Cond.code yX5_clean cX5_clean 2 none, Cond.instanceMethod yX0_markEnded, Cond.selects RX0 yX0_markEnded yX0_markEnded, Cond.code yX0_markEnded cX0_markEnded 6 (some .int), Cond.instanceMethod yX3_give, Cond.selects RX3 yX3_give yX3_give, Cond.code yX3_give cX3_give 2 none, Cond.instanceMethod yX1_init, Cond.code yX1_init cX1_init 4 none, Cond.methodLink RX1 1 objectInit, Cond.fieldLink RX1 13 "UndoCellar$Change" "transaction" "LUndoCellar$Transaction;", Cond.fieldLink RX1 21 "UndoCellar$Change" "ahead" "I", Cond.instanceMethod yX1_make, Cond.selects RX1 yX1_make yX1_make, Cond.code yX1_make cX1_make 2 none, Cond.methodLink RL 84 yX6_write, Cond.instanceMethod yX6_write]
def wsL_law0_r13 : List Cond := [Cond.selects RX6 yX6_write yX6_write, Cond.code yX6_write cX6_write 10 (some .int), Cond.constant RX6 80 (-1000000), Cond.constant RX6 81 (1000000), Cond.methodLink RX6 74 yX6_isTransaction, Cond.instanceMethod yX6_isTransaction, Cond.selects RX6 yX6_isTransaction yX6_isTransaction, Cond.code yX6_isTransaction cX6_isTransaction 2 (some .boolean), Cond.methodLink RX6 77 yX6_isRow, Cond.static yX6_isRow, Cond.code yX6_isRow cX6_isRow 1 (some .boolean), Cond.methodLink RX6 68 yX6_isActive, Cond.instanceMethod yX6_isActive, Cond.selects RX6 yX6_isActive yX6_isActive, Cond.code yX6_isActive cX6_isActive 2 (some .boolean), Cond.methodLink RX6 82 yX6_lockOn, Cond.instanceMethod yX6_lockOn, Cond.selects RX6 yX6_lockOn yX6_lockOn, Cond.code yX6_lockOn cX6_lockOn 4 (some .int), Cond.methodLink RX6 86 yX6_slotFor, Cond.instanceMethod yX6_slotFor, Cond.selects RX6 yX6_slotFor yX6_slotFor, Cond.code yX6_slotFor cX6_slotFor 6 (some .int), Cond.methodLink RX6 90 yX6_hasSpace]
def wsL_law0_r14 : List Cond := [Cond.instanceMethod yX6_hasSpace, Cond.selects RX6 yX6_hasSpace yX6_hasSpace, Cond.code yX6_hasSpace cX6_hasSpace 1 (some .boolean), Cond.methodLink RX6 94 yX6_cleans, Cond.instanceMethod yX6_cleans, Cond.selects RX6 yX6_cleans yX6_cleans, Cond.code yX6_cleans cX6_cleans 3 none, Cond.fieldLink RX6 71 "UndoCellarModel" "marks" "I", Cond.methodLink RL 85 yL_read, Cond.static yL_read, Cond.codeWith yL_read cL_read 5 (some .int) [(0, 10, 13, 25), (0, 10, 17, 15), (0, 10, 21, 31)], Cond.classLink RL 31 "java/util/NoSuchElementException", Cond.methodLink RL 27 yX5_read, Cond.instanceMethod yX5_read, Cond.selects RX5 yX5_read yX5_read, Cond.code yX5_read cX5_read 5 (some .int), Cond.methodLink RX5 144 yX5_readFromRecords, Cond.instanceMethod yX5_readFromRecords, Cond.selects RX5 yX5_readFromRecords yX5_readFromRecords, Cond.code yX5_readFromRecords cX5_readFromRecords 5 (some .int), Cond.classLink RX5 231 "java/util/NoSuchElementException", Cond.initialized "java/util/NoSuchElementException", Cond.methodLink RX5 167 yX5_oldestUnseen, Cond.instanceMethod yX5_oldestUnseen]
def wsL_law0_r15 : List Cond := [Cond.selects RX5 yX5_oldestUnseen yX5_oldestUnseen, Cond.code yX5_oldestUnseen cX5_oldestUnseen 7 (some .int), Cond.instanceMethod yX1_isSeen, Cond.selects RX1 yX1_isSeen yX1_isSeen, Cond.code yX1_isSeen cX1_isSeen 3 (some .boolean), Cond.instanceMethod yX4_isCommittedBy, Cond.selects RX4 yX4_isCommittedBy yX4_isCommittedBy, Cond.code yX4_isCommittedBy cX4_isCommittedBy 2 (some .boolean), Cond.methodLink RX5 170 yX5_valueAheadOf, Cond.instanceMethod yX5_valueAheadOf, Cond.selects RX5 yX5_valueAheadOf yX5_valueAheadOf, Cond.code yX5_valueAheadOf cX5_valueAheadOf 3 (some .int), Cond.methodLink RL 88 yX6_read, Cond.instanceMethod yX6_read, Cond.selects RX6 yX6_read yX6_read, Cond.code yX6_read cX6_read 5 (some .int), Cond.fieldLink RX6 98 "UndoCellarModel" "isLate" "Z", Cond.methodLink RX6 102 yX6_valueAt, Cond.instanceMethod yX6_valueAt, Cond.selects RX6 yX6_valueAt yX6_valueAt, Cond.code yX6_valueAt cX6_valueAt 7 (some .int), Cond.methodLink RL 89 yL_readAt, Cond.static yL_readAt, Cond.codeWith yL_readAt cL_readAt 5 (some .int) [(0, 10, 13, 25), (0, 10, 17, 13), (0, 10, 21, 31)]]
def wsL_law0_r16 : List Cond := [Cond.methodLink RL 33 yX5_readAt, Cond.instanceMethod yX5_readAt, Cond.selects RX5 yX5_readAt yX5_readAt, Cond.code yX5_readAt cX5_readAt 4 (some .int), Cond.methodLink RX5 148 yX5_refuseIfNotYet, Cond.instanceMethod yX5_refuseIfNotYet, Cond.selects RX5 yX5_refuseIfNotYet yX5_refuseIfNotYet, Cond.code yX5_refuseIfNotYet cX5_refuseIfNotYet 2 none, Cond.methodLink RL 91 yX6_readAt, Cond.instanceMethod yX6_readAt, Cond.selects RX6 yX6_readAt yX6_readAt, Cond.code yX6_readAt cX6_readAt 4 (some .int), Cond.methodLink RL 92 yL_save, Cond.static yL_save, Cond.codeWith yL_save cL_save 4 (some .int) [(0, 9, 12, 25), (0, 9, 15, 15)], Cond.methodLink RL 36 yX5_save, Cond.instanceMethod yX5_save, Cond.selects RX5 yX5_save yX5_save, Cond.code yX5_save cX5_save 3 (some .int), Cond.methodLink RL 94 yX6_save, Cond.instanceMethod yX6_save, Cond.selects RX6 yX6_save yX6_save, Cond.code yX6_save cX6_save 2 (some .int), Cond.methodLink RX6 106 yX6_isOpen]
def wsL_law0_r17 : List Cond := [Cond.instanceMethod yX6_isOpen, Cond.selects RX6 yX6_isOpen yX6_isOpen, Cond.code yX6_isOpen cX6_isOpen 2 (some .boolean), Cond.methodLink RX6 109 yX6_standing, Cond.instanceMethod yX6_standing, Cond.selects RX6 yX6_standing yX6_standing, Cond.code yX6_standing cX6_standing 4 (some .int), Cond.methodLink RL 95 yL_undoTo, Cond.static yL_undoTo, Cond.codeWith yL_undoTo cL_undoTo 5 (some .int) [(0, 10, 13, 25), (0, 10, 17, 15), (0, 10, 21, 13)], Cond.methodLink RL 39 yX5_undoTo, Cond.instanceMethod yX5_undoTo, Cond.selects RX5 yX5_undoTo yX5_undoTo, Cond.code yX5_undoTo cX5_undoTo 4 (some .int), Cond.methodLink RX5 156 yX5_undoDownTo, Cond.instanceMethod yX5_undoDownTo, Cond.selects RX5 yX5_undoDownTo yX5_undoDownTo, Cond.code yX5_undoDownTo cX5_undoDownTo 6 (some .int), Cond.instanceMethod yX1_takeBack, Cond.selects RX1 yX1_takeBack yX1_takeBack, Cond.code yX1_takeBack cX1_takeBack 1 none, Cond.methodLink RL 97 yX6_undoTo, Cond.instanceMethod yX6_undoTo, Cond.selects RX6 yX6_undoTo yX6_undoTo]
def wsL_law0_r18 : List Cond := [Cond.code yX6_undoTo cX6_undoTo 4 (some .int), Cond.methodLink RX6 112 yX6_undoes, Cond.instanceMethod yX6_undoes, Cond.selects RX6 yX6_undoes yX6_undoes, Cond.code yX6_undoes cX6_undoes 5 none, Cond.methodLink RL 98 yL_undo, Cond.static yL_undo, Cond.codeWith yL_undo cL_undo 4 (some .int) [(0, 9, 12, 25), (0, 9, 15, 15)], Cond.methodLink RL 42 yX5_undo, Cond.instanceMethod yX5_undo, Cond.selects RX5 yX5_undo yX5_undo, Cond.code yX5_undo cX5_undo 4 (some .int), Cond.methodLink RL 100 yX6_undo, Cond.instanceMethod yX6_undo, Cond.selects RX6 yX6_undo yX6_undo, Cond.code yX6_undo cX6_undo 3 (some .int), Cond.methodLink RL 101 yL_commit, Cond.static yL_commit, Cond.codeWith yL_commit cL_commit 4 (some .int) [(0, 9, 12, 25), (0, 9, 15, 15)], Cond.methodLink RL 45 yX5_commit, Cond.instanceMethod yX5_commit, Cond.selects RX5 yX5_commit yX5_commit, Cond.code yX5_commit cX5_commit 3 (some .int), Cond.methodLink RL 103 yX6_commit]
def wsL_law0_r19 : List Cond := [Cond.instanceMethod yX6_commit, Cond.selects RX6 yX6_commit yX6_commit, Cond.code yX6_commit cX6_commit 2 (some .int), Cond.methodLink RL 104 yX5_moment, Cond.instanceMethod yX5_moment, Cond.selects RX5 yX5_moment yX5_moment, Cond.code yX5_moment cX5_moment 1 (some .int), Cond.methodLink RL 107 yX6_moment, Cond.instanceMethod yX6_moment, Cond.selects RX6 yX6_moment yX6_moment, Cond.code yX6_moment cX6_moment 1 (some .int), Cond.methodLink RL 108 yX5_transactions, Cond.instanceMethod yX5_transactions, Cond.selects RX5 yX5_transactions yX5_transactions, Cond.code yX5_transactions cX5_transactions 1 (some .int), Cond.methodLink RL 111 yX6_transactions, Cond.instanceMethod yX6_transactions, Cond.selects RX6 yX6_transactions yX6_transactions, Cond.code yX6_transactions cX6_transactions 1 (some .int), Cond.methodLink RL 112 yL_now, Cond.static yL_now, Cond.codeWith yL_now cL_now 4 (some .int) [(0, 9, 12, 25)], Cond.methodLink RL 48 yX5_now, Cond.instanceMethod yX5_now]
def wsL_law0_r20 : List Cond := [Cond.selects RX5 yX5_now yX5_now, Cond.code yX5_now cX5_now 2 (some .int), Cond.methodLink RL 114 yX6_now, Cond.instanceMethod yX6_now, Cond.selects RX6 yX6_now yX6_now, Cond.code yX6_now cX6_now 2 (some .int), Cond.methodLink RL 115 yL_versionAt, Cond.static yL_versionAt, Cond.codeWith yL_versionAt cL_versionAt 5 (some .int) [(0, 10, 13, 25), (0, 10, 17, 13)], Cond.methodLink RL 51 yX5_versionAt, Cond.instanceMethod yX5_versionAt, Cond.selects RX5 yX5_versionAt yX5_versionAt, Cond.code yX5_versionAt cX5_versionAt 4 (some .int), Cond.methodLink RL 117 yX6_versionAt, Cond.instanceMethod yX6_versionAt, Cond.selects RX6 yX6_versionAt yX6_versionAt, Cond.code yX6_versionAt cX6_versionAt 3 (some .int), Cond.methodLink RL 118 yL_lockOf, Cond.static yL_lockOf, Cond.codeWith yL_lockOf cL_lockOf 4 (some .int) [(0, 9, 12, 25)], Cond.methodLink RL 54 yX5_lockOf, Cond.instanceMethod yX5_lockOf, Cond.selects RX5 yX5_lockOf yX5_lockOf, Cond.code yX5_lockOf cX5_lockOf 3 (some .int)]
def wsL_law0_r21 : List Cond := [Cond.methodLink RL 120 yX6_lockOf, Cond.instanceMethod yX6_lockOf, Cond.selects RX6 yX6_lockOf yX6_lockOf, Cond.code yX6_lockOf cX6_lockOf 2 (some .int), Cond.methodLink RL 121 yL_slotOf, Cond.static yL_slotOf, Cond.codeWith yL_slotOf cL_slotOf 5 (some .int) [(0, 10, 13, 25)], Cond.methodLink RL 57 yX5_slotOf, Cond.instanceMethod yX5_slotOf, Cond.selects RX5 yX5_slotOf yX5_slotOf, Cond.code yX5_slotOf cX5_slotOf 4 (some .int), Cond.methodLink RX5 178 yX5_slotNumbered, Cond.instanceMethod yX5_slotNumbered, Cond.selects RX5 yX5_slotNumbered yX5_slotNumbered, Cond.code yX5_slotNumbered cX5_slotNumbered 4 (some (.object "UndoCellar$Slot")), Cond.methodLink RL 123 yX6_slotOf, Cond.instanceMethod yX6_slotOf, Cond.selects RX6 yX6_slotOf yX6_slotOf, Cond.code yX6_slotOf cX6_slotOf 3 (some .int), Cond.methodLink RX6 116 yX6_isSlot, Cond.static yX6_isSlot, Cond.code yX6_isSlot cX6_isSlot 2 (some .boolean), Cond.methodLink RL 124 yL_isMarked, Cond.static yL_isMarked]
def wsL_law0_r22 : List Cond := [Cond.codeWith yL_isMarked cL_isMarked 5 (some .int) [(0, 17, 20, 25)], Cond.methodLink RL 60 yX5_isMarked, Cond.instanceMethod yX5_isMarked, Cond.selects RX5 yX5_isMarked yX5_isMarked, Cond.code yX5_isMarked cX5_isMarked 3 (some .boolean), Cond.methodLink RL 126 yX6_isMarked, Cond.instanceMethod yX6_isMarked, Cond.selects RX6 yX6_isMarked yX6_isMarked, Cond.code yX6_isMarked cX6_isMarked 3 (some .boolean), Cond.methodLink RL 127 yX5_marked, Cond.instanceMethod yX5_marked, Cond.selects RX5 yX5_marked yX5_marked, Cond.code yX5_marked cX5_marked 1 (some .int), Cond.methodLink RL 130 yX6_marked, Cond.instanceMethod yX6_marked, Cond.selects RX6 yX6_marked yX6_marked, Cond.code yX6_marked cX6_marked 1 (some .int), Cond.methodLink RL 131 yX5_records, Cond.instanceMethod yX5_records, Cond.selects RX5 yX5_records yX5_records, Cond.code yX5_records cX5_records 1 (some .int), Cond.methodLink RL 134 yX6_records, Cond.instanceMethod yX6_records, Cond.selects RX6 yX6_records yX6_records]
def wsL_law0_r23 : List Cond := [Cond.code yX6_records cX6_records 1 (some .int), Cond.methodLink RL 135 yX5_dropped, Cond.instanceMethod yX5_dropped, Cond.selects RX5 yX5_dropped yX5_dropped, Cond.code yX5_dropped cX5_dropped 1 (some .int), Cond.methodLink RL 138 yX6_dropped, Cond.instanceMethod yX6_dropped, Cond.selects RX6 yX6_dropped yX6_dropped, Cond.code yX6_dropped cX6_dropped 1 (some .int)]
def wsL_law0 : List Cond := (wsL_law0_r1 ++ (wsL_law0_r2 ++ (wsL_law0_r3 ++ (wsL_law0_r4 ++ (wsL_law0_r5 ++ (wsL_law0_r6 ++ (wsL_law0_r7 ++ (wsL_law0_r8 ++ (wsL_law0_r9 ++ (wsL_law0_r10 ++ (wsL_law0_r11 ++ (wsL_law0_r12 ++ (wsL_law0_r13 ++ (wsL_law0_r14 ++ (wsL_law0_r15 ++ (wsL_law0_r16 ++ (wsL_law0_r17 ++ (wsL_law0_r18 ++ (wsL_law0_r19 ++ (wsL_law0_r20 ++ (wsL_law0_r21 ++ (wsL_law0_r22 ++ wsL_law0_r23)))))))))))))))))))))) ++ wsX50 ++ wsX60 ++ wsJx4a65c0 ++ wsX00 ++ wsX20 ++ wsX30 ++ wsX40 ++ wsX10 ++ ([] : List Cond)
def wsL_law : List Cond := wsL_law0 ++ (vx_atS RX5 52 "java/lang/IllegalArgumentException" ["java/lang/RuntimeException", "java/lang/Exception"]).filter goodWord ++ (vx_atS RX5 63 "java/lang/IllegalStateException" ["java/lang/RuntimeException", "java/lang/Exception"]).filter goodWord ++ (vx_atS RX5 193 "java/lang/IndexOutOfBoundsException" ["java/lang/RuntimeException", "java/lang/Exception"]).filter goodWord ++ (vx_atS RX5 235 "java/util/NoSuchElementException" ["java/lang/RuntimeException", "java/lang/Exception"]).filter goodWord
set_option maxRecDepth 20000 in
theorem wsL_law_in0 : ∀ w ∈ wsL_law0, w ∈ lw_tbl := fun w h => (goodIn_p wsL_law0 [67, 70, 79, 82, 85, 104, 111, 132, 650, 205, 192, 180, 716, 719, 723, 712, 297, 303, 331, 335, 339, 343, 349, 346, 353, 356, 375, 381, 727, 394, 398, 418, 421, 424, 428, 432, 440, 445, 449, 455, 460, 465, 470, 474, 479, 483, 487, 490, 511, 731, 735, 738, 744, 748, 752, 756, 760, 519, 523, 527, 531, 535, 555, 764, 768, 562, 566, 772, 574, 776, 780, 784, 581, 586, 590, 788, 792, 597, 796, 604, 800, 172, 804, 176, 808, 611, 812, 618, 816, 625, 820, 632, 636, 824, 827, 645, 831, 184, 835, 188, 839, 196, 843] (by decide +kernel) (by decide +kernel) w h).1
theorem wsL_law_x0 : ∀ w ∈ (vx_atS RX5 52 "java/lang/IllegalArgumentException" ["java/lang/RuntimeException", "java/lang/Exception"]).filter goodWord, w ∈ lw_tbl := by decide +kernel
theorem wsL_law_x1 : ∀ w ∈ (vx_atS RX5 63 "java/lang/IllegalStateException" ["java/lang/RuntimeException", "java/lang/Exception"]).filter goodWord, w ∈ lw_tbl := by decide +kernel
theorem wsL_law_x2 : ∀ w ∈ (vx_atS RX5 193 "java/lang/IndexOutOfBoundsException" ["java/lang/RuntimeException", "java/lang/Exception"]).filter goodWord, w ∈ lw_tbl := by decide +kernel
theorem wsL_law_x3 : ∀ w ∈ (vx_atS RX5 235 "java/util/NoSuchElementException" ["java/lang/RuntimeException", "java/lang/Exception"]).filter goodWord, w ∈ lw_tbl := by decide +kernel
theorem wsL_law_in : ∀ w ∈ wsL_law, w ∈ lw_tbl := fun w h => (List.mem_append.mp h).elim (fun h => (List.mem_append.mp h).elim (fun h => (List.mem_append.mp h).elim (fun h => (List.mem_append.mp h).elim (fun h => wsL_law_in0 w h) (fun h => wsL_law_x0 w h)) (fun h => wsL_law_x1 w h)) (fun h => wsL_law_x2 w h)) (fun h => wsL_law_x3 w h)
theorem inlX0 : ∀ w ∈ wsX00, w ∈ wsL_law := fun _ h => List.mem_append_left _ (List.mem_append_left _ (List.mem_append_left _ (List.mem_append_left _ (List.mem_append_left _ (List.mem_append_left _ (List.mem_append_left _ (List.mem_append_left _ (List.mem_append_left _ (List.mem_append_right _ h)))))))))
theorem inX0 : ∀ w ∈ wsX00, w ∈ lw_tbl := fun w h => wsL_law_in w (inlX0 w h)
theorem inlX1 : ∀ w ∈ wsX10, w ∈ wsL_law := fun _ h => List.mem_append_left _ (List.mem_append_left _ (List.mem_append_left _ (List.mem_append_left _ (List.mem_append_left _ (List.mem_append_right _ h)))))
theorem inX1 : ∀ w ∈ wsX10, w ∈ lw_tbl := fun w h => wsL_law_in w (inlX1 w h)
theorem inlX2 : ∀ w ∈ wsX20, w ∈ wsL_law := fun _ h => List.mem_append_left _ (List.mem_append_left _ (List.mem_append_left _ (List.mem_append_left _ (List.mem_append_left _ (List.mem_append_left _ (List.mem_append_left _ (List.mem_append_left _ (List.mem_append_right _ h))))))))
theorem inX2 : ∀ w ∈ wsX20, w ∈ lw_tbl := fun w h => wsL_law_in w (inlX2 w h)
theorem inlX3 : ∀ w ∈ wsX30, w ∈ wsL_law := fun _ h => List.mem_append_left _ (List.mem_append_left _ (List.mem_append_left _ (List.mem_append_left _ (List.mem_append_left _ (List.mem_append_left _ (List.mem_append_left _ (List.mem_append_right _ h)))))))
theorem inX3 : ∀ w ∈ wsX30, w ∈ lw_tbl := fun w h => wsL_law_in w (inlX3 w h)
theorem inlX4 : ∀ w ∈ wsX40, w ∈ wsL_law := fun _ h => List.mem_append_left _ (List.mem_append_left _ (List.mem_append_left _ (List.mem_append_left _ (List.mem_append_left _ (List.mem_append_left _ (List.mem_append_right _ h))))))
theorem inX4 : ∀ w ∈ wsX40, w ∈ lw_tbl := fun w h => wsL_law_in w (inlX4 w h)
theorem inlX5 : ∀ w ∈ wsX50, w ∈ wsL_law := fun _ h => List.mem_append_left _ (List.mem_append_left _ (List.mem_append_left _ (List.mem_append_left _ (List.mem_append_left _ (List.mem_append_left _ (List.mem_append_left _ (List.mem_append_left _ (List.mem_append_left _ (List.mem_append_left _ (List.mem_append_left _ (List.mem_append_left _ (List.mem_append_right _ h))))))))))))
theorem inX5 : ∀ w ∈ wsX50, w ∈ lw_tbl := fun w h => wsL_law_in w (inlX5 w h)
theorem inlX6 : ∀ w ∈ wsX60, w ∈ wsL_law := fun _ h => List.mem_append_left _ (List.mem_append_left _ (List.mem_append_left _ (List.mem_append_left _ (List.mem_append_left _ (List.mem_append_left _ (List.mem_append_left _ (List.mem_append_left _ (List.mem_append_left _ (List.mem_append_left _ (List.mem_append_left _ (List.mem_append_right _ h)))))))))))
theorem inX6 : ∀ w ∈ wsX60, w ∈ lw_tbl := fun w h => wsL_law_in w (inlX6 w h)
theorem inJx145de : ∀ w ∈ wsJx145de0, w ∈ lw_tbl := by decide +kernel
theorem inJx8e188 : ∀ w ∈ wsJx8e1880, w ∈ lw_tbl := by decide +kernel
theorem inJxab1ab : ∀ w ∈ wsJxab1ab0, w ∈ lw_tbl := by decide +kernel
theorem inJ9 : ∀ w ∈ wsJ90, w ∈ lw_tbl := by decide +kernel
theorem inJ0 : ∀ w ∈ wsJ00, w ∈ lw_tbl := by decide +kernel
theorem inJ10 : ∀ w ∈ wsJ100, w ∈ lw_tbl := by decide +kernel
theorem inJxa1e45 : ∀ w ∈ wsJxa1e450, w ∈ lw_tbl := by decide +kernel
theorem inJxc12de : ∀ w ∈ wsJxc12de0, w ∈ lw_tbl := by decide +kernel
theorem inlJx4a65c : ∀ w ∈ wsJx4a65c0, w ∈ wsL_law := fun _ h => List.mem_append_left _ (List.mem_append_left _ (List.mem_append_left _ (List.mem_append_left _ (List.mem_append_left _ (List.mem_append_left _ (List.mem_append_left _ (List.mem_append_left _ (List.mem_append_left _ (List.mem_append_left _ (List.mem_append_right _ h))))))))))
theorem inJx4a65c : ∀ w ∈ wsJx4a65c0, w ∈ lw_tbl := fun w h => wsL_law_in w (inlJx4a65c w h)
theorem inJ7 : ∀ w ∈ wsJ70, w ∈ lw_tbl := by decide +kernel
theorem inJx5ef63 : ∀ w ∈ wsJx5ef630, w ∈ lw_tbl := by decide +kernel
theorem inJxbd725 : ∀ w ∈ wsJxbd7250, w ∈ lw_tbl := by decide +kernel
theorem inJ15 : ∀ w ∈ wsJ150, w ∈ lw_tbl := by decide +kernel
theorem inJxf0a74 : ∀ w ∈ wsJxf0a740, w ∈ lw_tbl := by decide +kernel
theorem inJxa66e6 : ∀ w ∈ wsJxa66e60, w ∈ lw_tbl := by decide +kernel
theorem inJ8 : ∀ w ∈ wsJ80, w ∈ lw_tbl := by decide +kernel
theorem inJ3 : ∀ w ∈ wsJ30, w ∈ lw_tbl := by decide +kernel
set_option maxRecDepth 20000 in
theorem ggX0_init_X3_init : GoodIn wsX0_init wsX3_init := goodIn_r _ [9, 10, 2, 3, 11, 12, 14, 15] (by decide +kernel) (by decide +kernel)
set_option maxRecDepth 20000 in
theorem gX0_init_X3_init_n17 : GoodIn wsX0_init (wsX3_init) := ggX0_init_X3_init
theorem dX0_init_0 : decode cX0_init 0 = .ok (.aload_n 0, 1) := by decide +kernel
theorem dX0_init_1 : decode cX0_init 1 = .ok (.invokespecial 3, 3) := by decide +kernel
theorem dX0_init_4 : decode cX0_init 4 = .ok (.aload_n 0, 1) := by decide +kernel
theorem dX0_init_5 : decode cX0_init 5 = .ok (.iconst 2, 1) := by decide +kernel
theorem dX0_init_6 : decode cX0_init 6 = .ok (.anewarray 9, 3) := by decide +kernel
theorem dX0_init_9 : decode cX0_init 9 = .ok (.putfield 11, 3) := by decide +kernel
theorem dX0_init_12 : decode cX0_init 12 = .ok (.iconst 0, 1) := by decide +kernel
theorem dX0_init_13 : decode cX0_init 13 = .ok (.istore_n 1, 1) := by decide +kernel
theorem dX0_init_14 : decode cX0_init 14 = .ok (.iload_n 1, 1) := by decide +kernel
theorem dX0_init_15 : decode cX0_init 15 = .ok (.aload_n 0, 1) := by decide +kernel
theorem dX0_init_16 : decode cX0_init 16 = .ok (.getfield 11, 3) := by decide +kernel
theorem dX0_init_19 : decode cX0_init 19 = .ok (.arraylength, 1) := by decide +kernel
theorem dX0_init_20 : decode cX0_init 20 = .ok (.if_icmp .ge 22, 3) := by decide +kernel
theorem dX0_init_23 : decode cX0_init 23 = .ok (.aload_n 0, 1) := by decide +kernel
theorem dX0_init_24 : decode cX0_init 24 = .ok (.getfield 11, 3) := by decide +kernel
theorem dX0_init_27 : decode cX0_init 27 = .ok (.iload_n 1, 1) := by decide +kernel
theorem dX0_init_28 : decode cX0_init 28 = .ok (.new 9, 3) := by decide +kernel
theorem dX0_init_31 : decode cX0_init 31 = .ok (.dup, 1) := by decide +kernel
theorem dX0_init_32 : decode cX0_init 32 = .ok (.invokespecial 17, 3) := by decide +kernel
theorem dX0_init_35 : decode cX0_init 35 = .ok (.aastore, 1) := by decide +kernel
theorem dX0_init_36 : decode cX0_init 36 = .ok (.iinc 1 1, 3) := by decide +kernel
theorem dX0_init_39 : decode cX0_init 39 = .ok (.goto (-25), 3) := by decide +kernel
theorem dX0_init_42 : decode cX0_init 42 = .ok (.return_, 1) := by decide +kernel
set_option maxRecDepth 20000 in
theorem ggX0_slotFor_X3_isEnded : GoodIn wsX0_slotFor wsX3_isEnded := goodIn_r _ [5, 6, 8, 9, 10, 11, 12, 13, 14] (by decide +kernel) (by decide +kernel)
set_option maxRecDepth 20000 in
theorem gX0_slotFor_X3_isEnded_n22 : GoodIn wsX0_slotFor (wsX3_isEnded) := ggX0_slotFor_X3_isEnded
theorem dX0_slotFor_0 : decode cX0_slotFor 0 = .ok (.aload_n 0, 1) := by decide +kernel
theorem dX0_slotFor_1 : decode cX0_slotFor 1 = .ok (.getfield 11, 3) := by decide +kernel
theorem dX0_slotFor_4 : decode cX0_slotFor 4 = .ok (.astore_n 2, 1) := by decide +kernel
theorem dX0_slotFor_5 : decode cX0_slotFor 5 = .ok (.aload_n 2, 1) := by decide +kernel
theorem dX0_slotFor_6 : decode cX0_slotFor 6 = .ok (.arraylength, 1) := by decide +kernel
theorem dX0_slotFor_7 : decode cX0_slotFor 7 = .ok (.istore_n 3, 1) := by decide +kernel
theorem dX0_slotFor_8 : decode cX0_slotFor 8 = .ok (.iconst 0, 1) := by decide +kernel
theorem dX0_slotFor_9 : decode cX0_slotFor 9 = .ok (.istore 4, 2) := by decide +kernel
theorem dX0_slotFor_11 : decode cX0_slotFor 11 = .ok (.iload 4, 2) := by decide +kernel
theorem dX0_slotFor_13 : decode cX0_slotFor 13 = .ok (.iload_n 3, 1) := by decide +kernel
theorem dX0_slotFor_14 : decode cX0_slotFor 14 = .ok (.if_icmp .ge 27, 3) := by decide +kernel
theorem dX0_slotFor_17 : decode cX0_slotFor 17 = .ok (.aload_n 2, 1) := by decide +kernel
theorem dX0_slotFor_18 : decode cX0_slotFor 18 = .ok (.iload 4, 2) := by decide +kernel
theorem dX0_slotFor_20 : decode cX0_slotFor 20 = .ok (.aaload, 1) := by decide +kernel
theorem dX0_slotFor_21 : decode cX0_slotFor 21 = .ok (.astore 5, 2) := by decide +kernel
theorem dX0_slotFor_23 : decode cX0_slotFor 23 = .ok (.aload 5, 2) := by decide +kernel
theorem dX0_slotFor_25 : decode cX0_slotFor 25 = .ok (.getfield 18, 3) := by decide +kernel
theorem dX0_slotFor_28 : decode cX0_slotFor 28 = .ok (.aload_n 1, 1) := by decide +kernel
theorem dX0_slotFor_29 : decode cX0_slotFor 29 = .ok (.if_acmp .ne 6, 3) := by decide +kernel
theorem dX0_slotFor_32 : decode cX0_slotFor 32 = .ok (.aload 5, 2) := by decide +kernel
theorem dX0_slotFor_34 : decode cX0_slotFor 34 = .ok (.areturn, 1) := by decide +kernel
theorem dX0_slotFor_35 : decode cX0_slotFor 35 = .ok (.iinc 4 1, 3) := by decide +kernel
theorem dX0_slotFor_38 : decode cX0_slotFor 38 = .ok (.goto (-27), 3) := by decide +kernel
theorem dX0_slotFor_41 : decode cX0_slotFor 41 = .ok (.aload_n 0, 1) := by decide +kernel
theorem dX0_slotFor_42 : decode cX0_slotFor 42 = .ok (.getfield 11, 3) := by decide +kernel
theorem dX0_slotFor_45 : decode cX0_slotFor 45 = .ok (.astore_n 2, 1) := by decide +kernel
theorem dX0_slotFor_46 : decode cX0_slotFor 46 = .ok (.aload_n 2, 1) := by decide +kernel
theorem dX0_slotFor_47 : decode cX0_slotFor 47 = .ok (.arraylength, 1) := by decide +kernel
theorem dX0_slotFor_48 : decode cX0_slotFor 48 = .ok (.istore_n 3, 1) := by decide +kernel
theorem dX0_slotFor_49 : decode cX0_slotFor 49 = .ok (.iconst 0, 1) := by decide +kernel
theorem dX0_slotFor_50 : decode cX0_slotFor 50 = .ok (.istore 4, 2) := by decide +kernel
theorem dX0_slotFor_52 : decode cX0_slotFor 52 = .ok (.iload 4, 2) := by decide +kernel
theorem dX0_slotFor_54 : decode cX0_slotFor 54 = .ok (.iload_n 3, 1) := by decide +kernel
theorem dX0_slotFor_55 : decode cX0_slotFor 55 = .ok (.if_icmp .ge 34, 3) := by decide +kernel
theorem dX0_slotFor_58 : decode cX0_slotFor 58 = .ok (.aload_n 2, 1) := by decide +kernel
theorem dX0_slotFor_59 : decode cX0_slotFor 59 = .ok (.iload 4, 2) := by decide +kernel
theorem dX0_slotFor_61 : decode cX0_slotFor 61 = .ok (.aaload, 1) := by decide +kernel
theorem dX0_slotFor_62 : decode cX0_slotFor 62 = .ok (.astore 5, 2) := by decide +kernel
theorem dX0_slotFor_64 : decode cX0_slotFor 64 = .ok (.aload 5, 2) := by decide +kernel
theorem dX0_slotFor_66 : decode cX0_slotFor 66 = .ok (.getfield 18, 3) := by decide +kernel
theorem dX0_slotFor_69 : decode cX0_slotFor 69 = .ok (.ifnull 11, 3) := by decide +kernel
theorem dX0_slotFor_72 : decode cX0_slotFor 72 = .ok (.aload 5, 2) := by decide +kernel
theorem dX0_slotFor_74 : decode cX0_slotFor 74 = .ok (.invokevirtual 22, 3) := by decide +kernel
theorem dX0_slotFor_77 : decode cX0_slotFor 77 = .ok (.ifCond .eq 6, 3) := by decide +kernel
theorem dX0_slotFor_80 : decode cX0_slotFor 80 = .ok (.aload 5, 2) := by decide +kernel
theorem dX0_slotFor_82 : decode cX0_slotFor 82 = .ok (.areturn, 1) := by decide +kernel
theorem dX0_slotFor_83 : decode cX0_slotFor 83 = .ok (.iinc 4 1, 3) := by decide +kernel
theorem dX0_slotFor_86 : decode cX0_slotFor 86 = .ok (.goto (-34), 3) := by decide +kernel
theorem dX0_slotFor_89 : decode cX0_slotFor 89 = .ok (.aconst_null, 1) := by decide +kernel
theorem dX0_slotFor_90 : decode cX0_slotFor 90 = .ok (.areturn, 1) := by decide +kernel
set_option maxRecDepth 20000 in
theorem ggX0_markEnded_X3_isEnded : GoodIn wsX0_markEnded wsX3_isEnded := goodIn_r _ [5, 6, 8, 9, 10, 11, 12, 13, 14] (by decide +kernel) (by decide +kernel)
set_option maxRecDepth 20000 in
theorem gX0_markEnded_X3_isEnded_n22 : GoodIn wsX0_markEnded (wsX3_isEnded) := ggX0_markEnded_X3_isEnded
theorem dX0_markEnded_0 : decode cX0_markEnded 0 = .ok (.iconst 0, 1) := by decide +kernel
theorem dX0_markEnded_1 : decode cX0_markEnded 1 = .ok (.istore_n 1, 1) := by decide +kernel
theorem dX0_markEnded_2 : decode cX0_markEnded 2 = .ok (.aload_n 0, 1) := by decide +kernel
theorem dX0_markEnded_3 : decode cX0_markEnded 3 = .ok (.getfield 11, 3) := by decide +kernel
theorem dX0_markEnded_6 : decode cX0_markEnded 6 = .ok (.astore_n 2, 1) := by decide +kernel
theorem dX0_markEnded_7 : decode cX0_markEnded 7 = .ok (.aload_n 2, 1) := by decide +kernel
theorem dX0_markEnded_8 : decode cX0_markEnded 8 = .ok (.arraylength, 1) := by decide +kernel
theorem dX0_markEnded_9 : decode cX0_markEnded 9 = .ok (.istore_n 3, 1) := by decide +kernel
theorem dX0_markEnded_10 : decode cX0_markEnded 10 = .ok (.iconst 0, 1) := by decide +kernel
theorem dX0_markEnded_11 : decode cX0_markEnded 11 = .ok (.istore 4, 2) := by decide +kernel
theorem dX0_markEnded_13 : decode cX0_markEnded 13 = .ok (.iload 4, 2) := by decide +kernel
theorem dX0_markEnded_15 : decode cX0_markEnded 15 = .ok (.iload_n 3, 1) := by decide +kernel
theorem dX0_markEnded_16 : decode cX0_markEnded 16 = .ok (.if_icmp .ge 40, 3) := by decide +kernel
theorem dX0_markEnded_19 : decode cX0_markEnded 19 = .ok (.aload_n 2, 1) := by decide +kernel
theorem dX0_markEnded_20 : decode cX0_markEnded 20 = .ok (.iload 4, 2) := by decide +kernel
theorem dX0_markEnded_22 : decode cX0_markEnded 22 = .ok (.aaload, 1) := by decide +kernel
theorem dX0_markEnded_23 : decode cX0_markEnded 23 = .ok (.astore 5, 2) := by decide +kernel
theorem dX0_markEnded_25 : decode cX0_markEnded 25 = .ok (.aload 5, 2) := by decide +kernel
theorem dX0_markEnded_27 : decode cX0_markEnded 27 = .ok (.invokevirtual 22, 3) := by decide +kernel
theorem dX0_markEnded_30 : decode cX0_markEnded 30 = .ok (.ifCond .eq 20, 3) := by decide +kernel
theorem dX0_markEnded_33 : decode cX0_markEnded 33 = .ok (.aload 5, 2) := by decide +kernel
theorem dX0_markEnded_35 : decode cX0_markEnded 35 = .ok (.getfield 26, 3) := by decide +kernel
theorem dX0_markEnded_38 : decode cX0_markEnded 38 = .ok (.ifCond .ne 12, 3) := by decide +kernel
theorem dX0_markEnded_41 : decode cX0_markEnded 41 = .ok (.aload 5, 2) := by decide +kernel
theorem dX0_markEnded_43 : decode cX0_markEnded 43 = .ok (.iconst 1, 1) := by decide +kernel
theorem dX0_markEnded_44 : decode cX0_markEnded 44 = .ok (.putfield 26, 3) := by decide +kernel
theorem dX0_markEnded_47 : decode cX0_markEnded 47 = .ok (.iinc 1 1, 3) := by decide +kernel
theorem dX0_markEnded_50 : decode cX0_markEnded 50 = .ok (.iinc 4 1, 3) := by decide +kernel
theorem dX0_markEnded_53 : decode cX0_markEnded 53 = .ok (.goto (-40), 3) := by decide +kernel
theorem dX0_markEnded_56 : decode cX0_markEnded 56 = .ok (.iload_n 1, 1) := by decide +kernel
theorem dX0_markEnded_57 : decode cX0_markEnded 57 = .ok (.ireturn, 1) := by decide +kernel
theorem dX1_init_0 : decode cX1_init 0 = .ok (.aload_n 0, 1) := by decide +kernel
theorem dX1_init_1 : decode cX1_init 1 = .ok (.invokespecial 1, 3) := by decide +kernel
theorem dX1_init_4 : decode cX1_init 4 = .ok (.aload_n 0, 1) := by decide +kernel
theorem dX1_init_5 : decode cX1_init 5 = .ok (.iconst 0, 1) := by decide +kernel
theorem dX1_init_6 : decode cX1_init 6 = .ok (.putfield 7, 3) := by decide +kernel
theorem dX1_init_9 : decode cX1_init 9 = .ok (.aload_n 0, 1) := by decide +kernel
theorem dX1_init_10 : decode cX1_init 10 = .ok (.aload_n 1, 1) := by decide +kernel
theorem dX1_init_11 : decode cX1_init 11 = .ok (.putfield 13, 3) := by decide +kernel
theorem dX1_init_14 : decode cX1_init 14 = .ok (.aload_n 0, 1) := by decide +kernel
theorem dX1_init_15 : decode cX1_init 15 = .ok (.aload_n 2, 1) := by decide +kernel
theorem dX1_init_16 : decode cX1_init 16 = .ok (.putfield 17, 3) := by decide +kernel
theorem dX1_init_19 : decode cX1_init 19 = .ok (.aload_n 0, 1) := by decide +kernel
theorem dX1_init_20 : decode cX1_init 20 = .ok (.iload_n 3, 1) := by decide +kernel
theorem dX1_init_21 : decode cX1_init 21 = .ok (.putfield 21, 3) := by decide +kernel
theorem dX1_init_24 : decode cX1_init 24 = .ok (.return_, 1) := by decide +kernel
theorem dX1_stands_0 : decode cX1_stands 0 = .ok (.aload_n 0, 1) := by decide +kernel
theorem dX1_stands_1 : decode cX1_stands 1 = .ok (.getfield 17, 3) := by decide +kernel
theorem dX1_stands_4 : decode cX1_stands 4 = .ok (.aload_n 1, 1) := by decide +kernel
theorem dX1_stands_5 : decode cX1_stands 5 = .ok (.if_acmp .ne 14, 3) := by decide +kernel
theorem dX1_stands_8 : decode cX1_stands 8 = .ok (.aload_n 0, 1) := by decide +kernel
theorem dX1_stands_9 : decode cX1_stands 9 = .ok (.getfield 7, 3) := by decide +kernel
theorem dX1_stands_12 : decode cX1_stands 12 = .ok (.ifCond .ne 7, 3) := by decide +kernel
theorem dX1_stands_15 : decode cX1_stands 15 = .ok (.iconst 1, 1) := by decide +kernel
theorem dX1_stands_16 : decode cX1_stands 16 = .ok (.goto 4, 3) := by decide +kernel
theorem dX1_stands_19 : decode cX1_stands 19 = .ok (.iconst 0, 1) := by decide +kernel
theorem dX1_stands_20 : decode cX1_stands 20 = .ok (.ireturn, 1) := by decide +kernel
set_option maxRecDepth 20000 in
theorem ggX1_isSeen_X4_isCommittedBy : GoodIn wsX1_isSeen wsX4_isCommittedBy := goodIn_r _ [5, 6, 11, 12, 13, 14, 15] (by decide +kernel) (by decide +kernel)
set_option maxRecDepth 20000 in
theorem gX1_isSeen_X4_isCommittedBy_n25 : GoodIn wsX1_isSeen (wsX4_isCommittedBy) := ggX1_isSeen_X4_isCommittedBy
theorem dX1_isSeen_0 : decode cX1_isSeen 0 = .ok (.aload_n 0, 1) := by decide +kernel
theorem dX1_isSeen_1 : decode cX1_isSeen 1 = .ok (.getfield 13, 3) := by decide +kernel
theorem dX1_isSeen_4 : decode cX1_isSeen 4 = .ok (.aload_n 2, 1) := by decide +kernel
theorem dX1_isSeen_5 : decode cX1_isSeen 5 = .ok (.if_acmp .eq 14, 3) := by decide +kernel
theorem dX1_isSeen_8 : decode cX1_isSeen 8 = .ok (.aload_n 0, 1) := by decide +kernel
theorem dX1_isSeen_9 : decode cX1_isSeen 9 = .ok (.getfield 13, 3) := by decide +kernel
theorem dX1_isSeen_12 : decode cX1_isSeen 12 = .ok (.iload_n 1, 1) := by decide +kernel
theorem dX1_isSeen_13 : decode cX1_isSeen 13 = .ok (.invokevirtual 25, 3) := by decide +kernel
theorem dX1_isSeen_16 : decode cX1_isSeen 16 = .ok (.ifCond .eq 7, 3) := by decide +kernel
theorem dX1_isSeen_19 : decode cX1_isSeen 19 = .ok (.iconst 1, 1) := by decide +kernel
theorem dX1_isSeen_20 : decode cX1_isSeen 20 = .ok (.goto 4, 3) := by decide +kernel
theorem dX1_isSeen_23 : decode cX1_isSeen 23 = .ok (.iconst 0, 1) := by decide +kernel
theorem dX1_isSeen_24 : decode cX1_isSeen 24 = .ok (.ireturn, 1) := by decide +kernel
theorem dX1_make_0 : decode cX1_make 0 = .ok (.aload_n 0, 1) := by decide +kernel
theorem dX1_make_1 : decode cX1_make 1 = .ok (.getfield 17, 3) := by decide +kernel
theorem dX1_make_4 : decode cX1_make 4 = .ok (.iload_n 1, 1) := by decide +kernel
theorem dX1_make_5 : decode cX1_make 5 = .ok (.putfield 31, 3) := by decide +kernel
theorem dX1_make_8 : decode cX1_make 8 = .ok (.aload_n 0, 1) := by decide +kernel
theorem dX1_make_9 : decode cX1_make 9 = .ok (.getfield 13, 3) := by decide +kernel
theorem dX1_make_12 : decode cX1_make 12 = .ok (.dup, 1) := by decide +kernel
theorem dX1_make_13 : decode cX1_make 13 = .ok (.getfield 36, 3) := by decide +kernel
theorem dX1_make_16 : decode cX1_make 16 = .ok (.iconst 1, 1) := by decide +kernel
theorem dX1_make_17 : decode cX1_make 17 = .ok (.iadd, 1) := by decide +kernel
theorem dX1_make_18 : decode cX1_make 18 = .ok (.putfield 36, 3) := by decide +kernel
theorem dX1_make_21 : decode cX1_make 21 = .ok (.return_, 1) := by decide +kernel
theorem dX1_takeBack_0 : decode cX1_takeBack 0 = .ok (.aload_n 0, 1) := by decide +kernel
theorem dX1_takeBack_1 : decode cX1_takeBack 1 = .ok (.getfield 17, 3) := by decide +kernel
theorem dX1_takeBack_4 : decode cX1_takeBack 4 = .ok (.aload_n 0, 1) := by decide +kernel
theorem dX1_takeBack_5 : decode cX1_takeBack 5 = .ok (.getfield 21, 3) := by decide +kernel
theorem dX1_takeBack_8 : decode cX1_takeBack 8 = .ok (.putfield 31, 3) := by decide +kernel
theorem dX1_takeBack_11 : decode cX1_takeBack 11 = .ok (.aload_n 0, 1) := by decide +kernel
theorem dX1_takeBack_12 : decode cX1_takeBack 12 = .ok (.iconst 1, 1) := by decide +kernel
theorem dX1_takeBack_13 : decode cX1_takeBack 13 = .ok (.putfield 7, 3) := by decide +kernel
theorem dX1_takeBack_16 : decode cX1_takeBack 16 = .ok (.aload_n 0, 1) := by decide +kernel
theorem dX1_takeBack_17 : decode cX1_takeBack 17 = .ok (.getfield 13, 3) := by decide +kernel
theorem dX1_takeBack_20 : decode cX1_takeBack 20 = .ok (.dup, 1) := by decide +kernel
theorem dX1_takeBack_21 : decode cX1_takeBack 21 = .ok (.getfield 36, 3) := by decide +kernel
theorem dX1_takeBack_24 : decode cX1_takeBack 24 = .ok (.iconst 1, 1) := by decide +kernel
theorem dX1_takeBack_25 : decode cX1_takeBack 25 = .ok (.isub, 1) := by decide +kernel
theorem dX1_takeBack_26 : decode cX1_takeBack 26 = .ok (.putfield 36, 3) := by decide +kernel
theorem dX1_takeBack_29 : decode cX1_takeBack 29 = .ok (.return_, 1) := by decide +kernel
theorem dX2_init_0 : decode cX2_init 0 = .ok (.aload_n 0, 1) := by decide +kernel
theorem dX2_init_1 : decode cX2_init 1 = .ok (.invokespecial 1, 3) := by decide +kernel
theorem dX2_init_4 : decode cX2_init 4 = .ok (.aload_n 0, 1) := by decide +kernel
theorem dX2_init_5 : decode cX2_init 5 = .ok (.iconst 0, 1) := by decide +kernel
theorem dX2_init_6 : decode cX2_init 6 = .ok (.putfield 7, 3) := by decide +kernel
theorem dX2_init_9 : decode cX2_init 9 = .ok (.aload_n 0, 1) := by decide +kernel
theorem dX2_init_10 : decode cX2_init 10 = .ok (.aload_n 1, 1) := by decide +kernel
theorem dX2_init_11 : decode cX2_init 11 = .ok (.putfield 13, 3) := by decide +kernel
theorem dX2_init_14 : decode cX2_init 14 = .ok (.return_, 1) := by decide +kernel
theorem dX3_init_0 : decode cX3_init 0 = .ok (.aload_n 0, 1) := by decide +kernel
theorem dX3_init_1 : decode cX3_init 1 = .ok (.invokespecial 1, 3) := by decide +kernel
theorem dX3_init_4 : decode cX3_init 4 = .ok (.aload_n 0, 1) := by decide +kernel
theorem dX3_init_5 : decode cX3_init 5 = .ok (.aconst_null, 1) := by decide +kernel
theorem dX3_init_6 : decode cX3_init 6 = .ok (.putfield 7, 3) := by decide +kernel
theorem dX3_init_9 : decode cX3_init 9 = .ok (.aload_n 0, 1) := by decide +kernel
theorem dX3_init_10 : decode cX3_init 10 = .ok (.iconst 0, 1) := by decide +kernel
theorem dX3_init_11 : decode cX3_init 11 = .ok (.putfield 13, 3) := by decide +kernel
theorem dX3_init_14 : decode cX3_init 14 = .ok (.return_, 1) := by decide +kernel
theorem dX3_isEnded_0 : decode cX3_isEnded 0 = .ok (.aload_n 0, 1) := by decide +kernel
theorem dX3_isEnded_1 : decode cX3_isEnded 1 = .ok (.getfield 7, 3) := by decide +kernel
theorem dX3_isEnded_4 : decode cX3_isEnded 4 = .ok (.ifnull 17, 3) := by decide +kernel
theorem dX3_isEnded_7 : decode cX3_isEnded 7 = .ok (.aload_n 0, 1) := by decide +kernel
theorem dX3_isEnded_8 : decode cX3_isEnded 8 = .ok (.getfield 7, 3) := by decide +kernel
theorem dX3_isEnded_11 : decode cX3_isEnded 11 = .ok (.getfield 17, 3) := by decide +kernel
theorem dX3_isEnded_14 : decode cX3_isEnded 14 = .ok (.ifCond .ne 7, 3) := by decide +kernel
theorem dX3_isEnded_17 : decode cX3_isEnded 17 = .ok (.iconst 1, 1) := by decide +kernel
theorem dX3_isEnded_18 : decode cX3_isEnded 18 = .ok (.goto 4, 3) := by decide +kernel
theorem dX3_isEnded_21 : decode cX3_isEnded 21 = .ok (.iconst 0, 1) := by decide +kernel
theorem dX3_isEnded_22 : decode cX3_isEnded 22 = .ok (.ireturn, 1) := by decide +kernel
theorem dX3_give_0 : decode cX3_give 0 = .ok (.aload_n 0, 1) := by decide +kernel
theorem dX3_give_1 : decode cX3_give 1 = .ok (.aload_n 1, 1) := by decide +kernel
theorem dX3_give_2 : decode cX3_give 2 = .ok (.putfield 7, 3) := by decide +kernel
theorem dX3_give_5 : decode cX3_give 5 = .ok (.aload_n 0, 1) := by decide +kernel
theorem dX3_give_6 : decode cX3_give 6 = .ok (.iconst 0, 1) := by decide +kernel
theorem dX3_give_7 : decode cX3_give 7 = .ok (.putfield 13, 3) := by decide +kernel
theorem dX3_give_10 : decode cX3_give 10 = .ok (.return_, 1) := by decide +kernel
theorem dX4_init_0 : decode cX4_init 0 = .ok (.aload_n 0, 1) := by decide +kernel
theorem dX4_init_1 : decode cX4_init 1 = .ok (.invokespecial 3, 3) := by decide +kernel
theorem dX4_init_4 : decode cX4_init 4 = .ok (.aload_n 0, 1) := by decide +kernel
theorem dX4_init_5 : decode cX4_init 5 = .ok (.iconst 1, 1) := by decide +kernel
theorem dX4_init_6 : decode cX4_init 6 = .ok (.putfield 9, 3) := by decide +kernel
theorem dX4_init_9 : decode cX4_init 9 = .ok (.aload_n 0, 1) := by decide +kernel
theorem dX4_init_10 : decode cX4_init 10 = .ok (.iconst (-1), 1) := by decide +kernel
theorem dX4_init_11 : decode cX4_init 11 = .ok (.putfield 15, 3) := by decide +kernel
theorem dX4_init_14 : decode cX4_init 14 = .ok (.aload_n 0, 1) := by decide +kernel
theorem dX4_init_15 : decode cX4_init 15 = .ok (.iconst 0, 1) := by decide +kernel
theorem dX4_init_16 : decode cX4_init 16 = .ok (.putfield 19, 3) := by decide +kernel
theorem dX4_init_19 : decode cX4_init 19 = .ok (.aload_n 0, 1) := by decide +kernel
theorem dX4_init_20 : decode cX4_init 20 = .ok (.iload_n 1, 1) := by decide +kernel
theorem dX4_init_21 : decode cX4_init 21 = .ok (.putfield 22, 3) := by decide +kernel
theorem dX4_init_24 : decode cX4_init 24 = .ok (.aload_n 0, 1) := by decide +kernel
theorem dX4_init_25 : decode cX4_init 25 = .ok (.iload_n 2, 1) := by decide +kernel
theorem dX4_init_26 : decode cX4_init 26 = .ok (.putfield 25, 3) := by decide +kernel
theorem dX4_init_29 : decode cX4_init 29 = .ok (.return_, 1) := by decide +kernel
theorem dX4_isCommittedBy_0 : decode cX4_isCommittedBy 0 = .ok (.aload_n 0, 1) := by decide +kernel
theorem dX4_isCommittedBy_1 : decode cX4_isCommittedBy 1 = .ok (.getfield 15, 3) := by decide +kernel
theorem dX4_isCommittedBy_4 : decode cX4_isCommittedBy 4 = .ok (.iconst (-1), 1) := by decide +kernel
theorem dX4_isCommittedBy_5 : decode cX4_isCommittedBy 5 = .ok (.if_icmp .eq 15, 3) := by decide +kernel
theorem dX4_isCommittedBy_8 : decode cX4_isCommittedBy 8 = .ok (.aload_n 0, 1) := by decide +kernel
theorem dX4_isCommittedBy_9 : decode cX4_isCommittedBy 9 = .ok (.getfield 15, 3) := by decide +kernel
theorem dX4_isCommittedBy_12 : decode cX4_isCommittedBy 12 = .ok (.iload_n 1, 1) := by decide +kernel
theorem dX4_isCommittedBy_13 : decode cX4_isCommittedBy 13 = .ok (.if_icmp .gt 7, 3) := by decide +kernel
theorem dX4_isCommittedBy_16 : decode cX4_isCommittedBy 16 = .ok (.iconst 1, 1) := by decide +kernel
theorem dX4_isCommittedBy_17 : decode cX4_isCommittedBy 17 = .ok (.goto 4, 3) := by decide +kernel
theorem dX4_isCommittedBy_20 : decode cX4_isCommittedBy 20 = .ok (.iconst 0, 1) := by decide +kernel
theorem dX4_isCommittedBy_21 : decode cX4_isCommittedBy 21 = .ok (.ireturn, 1) := by decide +kernel
set_option maxRecDepth 20000 in
theorem ggX5_init_Jx4a65c_init_da8c8 : GoodIn wsX5_init wsJx4a65c_init_da8c8 := goodIn_r _ [23, 24, 25, 26, 27, 28, 29, 30, 31, 32, 33, 34, 35, 2, 3, 61, 62, 63] (by decide +kernel) (by decide +kernel)
set_option maxRecDepth 20000 in
theorem gX5_init_Jx4a65c_init_da8c8 : GoodIn wsX5_init (wsJx4a65c_init_da8c8) := ggX5_init_Jx4a65c_init_da8c8
set_option maxRecDepth 20000 in
theorem ggX5_init_X0_init : GoodIn wsX5_init wsX0_init := goodIn_r _ [37, 38, 2, 3, 39, 40, 41, 42, 43, 44, 45, 46, 47, 64, 67, 68] (by decide +kernel) (by decide +kernel)
set_option maxRecDepth 20000 in
theorem gX5_init_X0_init_n44 : GoodIn wsX5_init (wsX0_init) := ggX5_init_X0_init
set_option maxRecDepth 20000 in
theorem ggX5_init_X2_init : GoodIn wsX5_init wsX2_init := goodIn_r _ [49, 50, 2, 3, 51, 52, 65, 66] (by decide +kernel) (by decide +kernel)
set_option maxRecDepth 20000 in
theorem gX5_init_X2_init_n45 : GoodIn wsX5_init (wsX2_init) := ggX5_init_X2_init
theorem dX5_init_0 : decode cX5_init 0 = .ok (.aload_n 0, 1) := by decide +kernel
theorem dX5_init_1 : decode cX5_init 1 = .ok (.invokespecial 1, 3) := by decide +kernel
theorem dX5_init_4 : decode cX5_init 4 = .ok (.aload_n 0, 1) := by decide +kernel
theorem dX5_init_5 : decode cX5_init 5 = .ok (.iconst 3, 1) := by decide +kernel
theorem dX5_init_6 : decode cX5_init 6 = .ok (.anewarray 9, 3) := by decide +kernel
theorem dX5_init_9 : decode cX5_init 9 = .ok (.putfield 11, 3) := by decide +kernel
theorem dX5_init_12 : decode cX5_init 12 = .ok (.aload_n 0, 1) := by decide +kernel
theorem dX5_init_13 : decode cX5_init 13 = .ok (.bipush 12, 2) := by decide +kernel
theorem dX5_init_15 : decode cX5_init 15 = .ok (.anewarray 15, 3) := by decide +kernel
theorem dX5_init_18 : decode cX5_init 18 = .ok (.putfield 17, 3) := by decide +kernel
theorem dX5_init_21 : decode cX5_init 21 = .ok (.aload_n 0, 1) := by decide +kernel
theorem dX5_init_22 : decode cX5_init 22 = .ok (.new 21, 3) := by decide +kernel
theorem dX5_init_25 : decode cX5_init 25 = .ok (.dup, 1) := by decide +kernel
theorem dX5_init_26 : decode cX5_init 26 = .ok (.invokespecial 23, 3) := by decide +kernel
theorem dX5_init_29 : decode cX5_init 29 = .ok (.putfield 24, 3) := by decide +kernel
theorem dX5_init_32 : decode cX5_init 32 = .ok (.aload_n 0, 1) := by decide +kernel
theorem dX5_init_33 : decode cX5_init 33 = .ok (.new 21, 3) := by decide +kernel
theorem dX5_init_36 : decode cX5_init 36 = .ok (.dup, 1) := by decide +kernel
theorem dX5_init_37 : decode cX5_init 37 = .ok (.invokespecial 23, 3) := by decide +kernel
theorem dX5_init_40 : decode cX5_init 40 = .ok (.putfield 28, 3) := by decide +kernel
theorem dX5_init_43 : decode cX5_init 43 = .ok (.aload_n 0, 1) := by decide +kernel
theorem dX5_init_44 : decode cX5_init 44 = .ok (.bipush 12, 2) := by decide +kernel
theorem dX5_init_46 : decode cX5_init 46 = .ok (.putfield 31, 3) := by decide +kernel
theorem dX5_init_49 : decode cX5_init 49 = .ok (.aload_n 0, 1) := by decide +kernel
theorem dX5_init_50 : decode cX5_init 50 = .ok (.iconst 0, 1) := by decide +kernel
theorem dX5_init_51 : decode cX5_init 51 = .ok (.putfield 35, 3) := by decide +kernel
theorem dX5_init_54 : decode cX5_init 54 = .ok (.aload_n 0, 1) := by decide +kernel
theorem dX5_init_55 : decode cX5_init 55 = .ok (.iconst 0, 1) := by decide +kernel
theorem dX5_init_56 : decode cX5_init 56 = .ok (.putfield 38, 3) := by decide +kernel
theorem dX5_init_59 : decode cX5_init 59 = .ok (.aload_n 0, 1) := by decide +kernel
theorem dX5_init_60 : decode cX5_init 60 = .ok (.iconst 0, 1) := by decide +kernel
theorem dX5_init_61 : decode cX5_init 61 = .ok (.putfield 41, 3) := by decide +kernel
theorem dX5_init_64 : decode cX5_init 64 = .ok (.iconst 0, 1) := by decide +kernel
theorem dX5_init_65 : decode cX5_init 65 = .ok (.istore_n 1, 1) := by decide +kernel
theorem dX5_init_66 : decode cX5_init 66 = .ok (.iload_n 1, 1) := by decide +kernel
theorem dX5_init_67 : decode cX5_init 67 = .ok (.aload_n 0, 1) := by decide +kernel
theorem dX5_init_68 : decode cX5_init 68 = .ok (.getfield 11, 3) := by decide +kernel
theorem dX5_init_71 : decode cX5_init 71 = .ok (.arraylength, 1) := by decide +kernel
theorem dX5_init_72 : decode cX5_init 72 = .ok (.if_icmp .ge 22, 3) := by decide +kernel
theorem dX5_init_75 : decode cX5_init 75 = .ok (.aload_n 0, 1) := by decide +kernel
theorem dX5_init_76 : decode cX5_init 76 = .ok (.getfield 11, 3) := by decide +kernel
theorem dX5_init_79 : decode cX5_init 79 = .ok (.iload_n 1, 1) := by decide +kernel
theorem dX5_init_80 : decode cX5_init 80 = .ok (.new 9, 3) := by decide +kernel
theorem dX5_init_83 : decode cX5_init 83 = .ok (.dup, 1) := by decide +kernel
theorem dX5_init_84 : decode cX5_init 84 = .ok (.invokespecial 44, 3) := by decide +kernel
theorem dX5_init_87 : decode cX5_init 87 = .ok (.aastore, 1) := by decide +kernel
theorem dX5_init_88 : decode cX5_init 88 = .ok (.iinc 1 1, 3) := by decide +kernel
theorem dX5_init_91 : decode cX5_init 91 = .ok (.goto (-25), 3) := by decide +kernel
theorem dX5_init_94 : decode cX5_init 94 = .ok (.iconst 0, 1) := by decide +kernel
theorem dX5_init_95 : decode cX5_init 95 = .ok (.istore_n 1, 1) := by decide +kernel
theorem dX5_init_96 : decode cX5_init 96 = .ok (.iload_n 1, 1) := by decide +kernel
theorem dX5_init_97 : decode cX5_init 97 = .ok (.aload_n 0, 1) := by decide +kernel
theorem dX5_init_98 : decode cX5_init 98 = .ok (.getfield 17, 3) := by decide +kernel
theorem dX5_init_101 : decode cX5_init 101 = .ok (.arraylength, 1) := by decide +kernel
theorem dX5_init_102 : decode cX5_init 102 = .ok (.if_icmp .ge 30, 3) := by decide +kernel
theorem dX5_init_105 : decode cX5_init 105 = .ok (.aload_n 0, 1) := by decide +kernel
theorem dX5_init_106 : decode cX5_init 106 = .ok (.getfield 17, 3) := by decide +kernel
theorem dX5_init_109 : decode cX5_init 109 = .ok (.iload_n 1, 1) := by decide +kernel
theorem dX5_init_110 : decode cX5_init 110 = .ok (.new 15, 3) := by decide +kernel
theorem dX5_init_113 : decode cX5_init 113 = .ok (.dup, 1) := by decide +kernel
theorem dX5_init_114 : decode cX5_init 114 = .ok (.aload_n 0, 1) := by decide +kernel
theorem dX5_init_115 : decode cX5_init 115 = .ok (.getfield 11, 3) := by decide +kernel
theorem dX5_init_118 : decode cX5_init 118 = .ok (.iload_n 1, 1) := by decide +kernel
theorem dX5_init_119 : decode cX5_init 119 = .ok (.iconst 4, 1) := by decide +kernel
theorem dX5_init_120 : decode cX5_init 120 = .ok (.idiv, 1) := by decide +kernel
theorem dX5_init_121 : decode cX5_init 121 = .ok (.aaload, 1) := by decide +kernel
theorem dX5_init_122 : decode cX5_init 122 = .ok (.invokespecial 45, 3) := by decide +kernel
theorem dX5_init_125 : decode cX5_init 125 = .ok (.aastore, 1) := by decide +kernel
theorem dX5_init_126 : decode cX5_init 126 = .ok (.iinc 1 1, 3) := by decide +kernel
theorem dX5_init_129 : decode cX5_init 129 = .ok (.goto (-33), 3) := by decide +kernel
theorem dX5_init_132 : decode cX5_init 132 = .ok (.return_, 1) := by decide +kernel
set_option maxRecDepth 20000 in
theorem ggX5_setSpace_X5_recordsThere : GoodIn wsX5_setSpace wsX5_recordsThere := goodIn_r _ [10, 11, 12, 13, 14, 15, 16, 17, 18, 19, 20, 21, 22, 23, 24, 25, 26, 27, 28, 29] (by decide +kernel) (by decide +kernel)
set_option maxRecDepth 20000 in
theorem gX5_setSpace_X5_recordsThere : GoodIn wsX5_setSpace (wsV RX5 55 RX5 yX5_recordsThere wsX5_recordsThere) := goodIn_app (goodIn_of _ (by decide +kernel)) ggX5_setSpace_X5_recordsThere
theorem dX5_setSpace_0 : decode cX5_setSpace 0 = .ok (.iload_n 1, 1) := by decide +kernel
theorem dX5_setSpace_1 : decode cX5_setSpace 1 = .ok (.iconst 1, 1) := by decide +kernel
theorem dX5_setSpace_2 : decode cX5_setSpace 2 = .ok (.if_icmp .lt 9, 3) := by decide +kernel
theorem dX5_setSpace_5 : decode cX5_setSpace 5 = .ok (.iload_n 1, 1) := by decide +kernel
theorem dX5_setSpace_6 : decode cX5_setSpace 6 = .ok (.bipush 30, 2) := by decide +kernel
theorem dX5_setSpace_8 : decode cX5_setSpace 8 = .ok (.if_icmp .le 13, 3) := by decide +kernel
theorem dX5_setSpace_11 : decode cX5_setSpace 11 = .ok (.new 48, 3) := by decide +kernel
theorem dX5_setSpace_14 : decode cX5_setSpace 14 = .ok (.dup, 1) := by decide +kernel
theorem dX5_setSpace_15 : decode cX5_setSpace 15 = .ok (.ldc 50, 2) := by decide +kernel
theorem dX5_setSpace_17 : decode cX5_setSpace 17 = .ok (.invokespecial 52, 3) := by decide +kernel
theorem dX5_setSpace_20 : decode cX5_setSpace 20 = .ok (.athrow, 1) := by decide +kernel
theorem dX5_setSpace_21 : decode cX5_setSpace 21 = .ok (.aload_n 0, 1) := by decide +kernel
theorem dX5_setSpace_22 : decode cX5_setSpace 22 = .ok (.invokevirtual 55, 3) := by decide +kernel
theorem dX5_setSpace_25 : decode cX5_setSpace 25 = .ok (.iload_n 1, 1) := by decide +kernel
theorem dX5_setSpace_26 : decode cX5_setSpace 26 = .ok (.if_icmp .le 13, 3) := by decide +kernel
theorem dX5_setSpace_29 : decode cX5_setSpace 29 = .ok (.new 59, 3) := by decide +kernel
theorem dX5_setSpace_32 : decode cX5_setSpace 32 = .ok (.dup, 1) := by decide +kernel
theorem dX5_setSpace_33 : decode cX5_setSpace 33 = .ok (.ldc 61, 2) := by decide +kernel
theorem dX5_setSpace_35 : decode cX5_setSpace 35 = .ok (.invokespecial 63, 3) := by decide +kernel
theorem dX5_setSpace_38 : decode cX5_setSpace 38 = .ok (.athrow, 1) := by decide +kernel
theorem dX5_setSpace_39 : decode cX5_setSpace 39 = .ok (.aload_n 0, 1) := by decide +kernel
theorem dX5_setSpace_40 : decode cX5_setSpace 40 = .ok (.getfield 31, 3) := by decide +kernel
theorem dX5_setSpace_43 : decode cX5_setSpace 43 = .ok (.istore_n 2, 1) := by decide +kernel
theorem dX5_setSpace_44 : decode cX5_setSpace 44 = .ok (.aload_n 0, 1) := by decide +kernel
theorem dX5_setSpace_45 : decode cX5_setSpace 45 = .ok (.iload_n 1, 1) := by decide +kernel
theorem dX5_setSpace_46 : decode cX5_setSpace 46 = .ok (.putfield 31, 3) := by decide +kernel
theorem dX5_setSpace_49 : decode cX5_setSpace 49 = .ok (.iload_n 2, 1) := by decide +kernel
theorem dX5_setSpace_50 : decode cX5_setSpace 50 = .ok (.ireturn, 1) := by decide +kernel
set_option maxRecDepth 20000 in
theorem ggX5_begin_Jx4a65c_size_8abf5 : GoodIn wsX5_begin wsJx4a65c_size_8abf5 := goodIn_r _ [12, 13, 91, 92, 93] (by decide +kernel) (by decide +kernel)
set_option maxRecDepth 20000 in
theorem gX5_begin_Jx4a65c_size_8abf5 : GoodIn wsX5_begin (wsV RX5 64 RJx4a65c yJx4a65c_size_8abf5 wsJx4a65c_size_8abf5) := goodIn_app (goodIn_of _ (by decide +kernel)) ggX5_begin_Jx4a65c_size_8abf5
set_option maxRecDepth 20000 in
theorem ggX5_begin_X4_init : GoodIn wsX5_begin wsX4_init := goodIn_r _ [15, 16, 17, 18, 19, 20, 21, 22, 23, 86, 87, 88, 89, 90] (by decide +kernel) (by decide +kernel)
set_option maxRecDepth 20000 in
theorem gX5_begin_X4_init_n71 : GoodIn wsX5_begin (wsX4_init) := ggX5_begin_X4_init
set_option maxRecDepth 20000 in
theorem ggX5_begin_Jx4a65c_add_9ea2d : GoodIn wsX5_begin wsJx4a65c_add_9ea2d := goodIn_r _ [27, 28, 29, 30, 13, 31, 32, 33, 11, 34, 35, 36, 37, 38, 39, 40, 41, 42, 43, 44, 45, 46, 47, 48, 49, 50, 51, 52, 53, 54, 55, 56, 57, 58, 59, 60, 61, 62, 63, 64, 65, 66, 67, 68, 69, 70, 71, 72, 73, 74, 75, 76, 77, 91, 92, 93] (by decide +kernel) (by decide +kernel)
set_option maxRecDepth 20000 in
theorem gX5_begin_Jx4a65c_add_9ea2d : GoodIn wsX5_begin (wsV RX5 74 RJx4a65c yJx4a65c_add_9ea2d wsJx4a65c_add_9ea2d) := goodIn_app (goodIn_of _ (by decide +kernel)) ggX5_begin_Jx4a65c_add_9ea2d
theorem dX5_begin_0 : decode cX5_begin 0 = .ok (.aload_n 0, 1) := by decide +kernel
theorem dX5_begin_1 : decode cX5_begin 1 = .ok (.getfield 24, 3) := by decide +kernel
theorem dX5_begin_4 : decode cX5_begin 4 = .ok (.invokevirtual 64, 3) := by decide +kernel
theorem dX5_begin_7 : decode cX5_begin 7 = .ok (.bipush 60, 2) := by decide +kernel
theorem dX5_begin_9 : decode cX5_begin 9 = .ok (.if_icmp .lt 13, 3) := by decide +kernel
theorem dX5_begin_12 : decode cX5_begin 12 = .ok (.new 59, 3) := by decide +kernel
theorem dX5_begin_15 : decode cX5_begin 15 = .ok (.dup, 1) := by decide +kernel
theorem dX5_begin_16 : decode cX5_begin 16 = .ok (.ldc 67, 2) := by decide +kernel
theorem dX5_begin_18 : decode cX5_begin 18 = .ok (.invokespecial 63, 3) := by decide +kernel
theorem dX5_begin_21 : decode cX5_begin 21 = .ok (.athrow, 1) := by decide +kernel
theorem dX5_begin_22 : decode cX5_begin 22 = .ok (.new 69, 3) := by decide +kernel
theorem dX5_begin_25 : decode cX5_begin 25 = .ok (.dup, 1) := by decide +kernel
theorem dX5_begin_26 : decode cX5_begin 26 = .ok (.aload_n 0, 1) := by decide +kernel
theorem dX5_begin_27 : decode cX5_begin 27 = .ok (.getfield 24, 3) := by decide +kernel
theorem dX5_begin_30 : decode cX5_begin 30 = .ok (.invokevirtual 64, 3) := by decide +kernel
theorem dX5_begin_33 : decode cX5_begin 33 = .ok (.aload_n 0, 1) := by decide +kernel
theorem dX5_begin_34 : decode cX5_begin 34 = .ok (.getfield 35, 3) := by decide +kernel
theorem dX5_begin_37 : decode cX5_begin 37 = .ok (.invokespecial 71, 3) := by decide +kernel
theorem dX5_begin_40 : decode cX5_begin 40 = .ok (.astore_n 1, 1) := by decide +kernel
theorem dX5_begin_41 : decode cX5_begin 41 = .ok (.aload_n 0, 1) := by decide +kernel
theorem dX5_begin_42 : decode cX5_begin 42 = .ok (.getfield 24, 3) := by decide +kernel
theorem dX5_begin_45 : decode cX5_begin 45 = .ok (.aload_n 1, 1) := by decide +kernel
theorem dX5_begin_46 : decode cX5_begin 46 = .ok (.invokevirtual 74, 3) := by decide +kernel
theorem dX5_begin_49 : decode cX5_begin 49 = .ok (.pop, 1) := by decide +kernel
theorem dX5_begin_50 : decode cX5_begin 50 = .ok (.aload_n 1, 1) := by decide +kernel
theorem dX5_begin_51 : decode cX5_begin 51 = .ok (.getfield 78, 3) := by decide +kernel
theorem dX5_begin_54 : decode cX5_begin 54 = .ok (.ireturn, 1) := by decide +kernel
set_option maxRecDepth 20000 in
theorem ggX5_write_X5_transactionNumbered : GoodIn wsX5_write wsX5_transactionNumbered := goodIn_ca (goodIn_r _ [16, 17, 18, 19, 20, 21, 22, 23, 24, 25, 26, 27, 28, 29, 30, 31, 32, 33, 34, 35, 36, 37, 38, 39, 40, 41, 42, 43, 167, 168, 169, 170, 171, 172, 173, 174, 179, 180, 181] (by decide +kernel) (by decide +kernel)) (goodIn_sub (fun _ h => List.mem_cons_of_mem _ (List.mem_append_right _ h)) (by decide +kernel))
set_option maxRecDepth 20000 in
theorem gX5_write_X5_transactionNumbered : GoodIn wsX5_write (wsV RX5 81 RX5 yX5_transactionNumbered wsX5_transactionNumbered) := goodIn_app (goodIn_of _ (by decide +kernel)) ggX5_write_X5_transactionNumbered
set_option maxRecDepth 20000 in
theorem ggX5_write_X5_rowNumbered : GoodIn wsX5_write wsX5_rowNumbered := goodIn_ca (goodIn_r _ [47, 17, 18, 48, 167, 168, 169, 170, 171, 172, 173, 174] (by decide +kernel) (by decide +kernel)) (goodIn_sub (fun _ h => List.mem_cons_of_mem _ (List.mem_append_right _ h)) (by decide +kernel))
set_option maxRecDepth 20000 in
theorem gX5_write_X5_rowNumbered : GoodIn wsX5_write (wsV RX5 85 RX5 yX5_rowNumbered wsX5_rowNumbered) := goodIn_app (goodIn_of _ (by decide +kernel)) ggX5_write_X5_rowNumbered
set_option maxRecDepth 20000 in
theorem ggX5_write_X5_refuseIfEnded : GoodIn wsX5_write wsX5_refuseIfEnded := goodIn_ca (goodIn_r _ [52, 3, 4, 182, 183, 184, 185, 186] (by decide +kernel) (by decide +kernel)) (goodIn_sub (fun _ h => List.mem_cons_of_mem _ (List.mem_append_left _ (List.mem_append_right _ h))) (by decide +kernel))
set_option maxRecDepth 20000 in
theorem gX5_write_X5_refuseIfEnded : GoodIn wsX5_write (wsV RX5 93 RX5 yX5_refuseIfEnded wsX5_refuseIfEnded) := goodIn_app (goodIn_of _ (by decide +kernel)) ggX5_write_X5_refuseIfEnded
set_option maxRecDepth 20000 in
theorem ggX5_write_X5_refuseIfLockedByAnother : GoodIn wsX5_write wsX5_refuseIfLockedByAnother := goodIn_ca (goodIn_r _ [56, 3, 4, 57, 58, 59, 15, 60, 11, 61, 21, 22, 23, 24, 25, 26, 27, 28, 29, 30, 31, 32, 33, 34, 35, 36, 37, 38, 39, 40, 41, 42, 43, 62, 10, 63, 64, 65, 66, 167, 168, 169, 170, 171, 172, 173, 174, 175, 176, 177, 178, 182, 183, 184, 185, 186, 179, 180, 181] (by decide +kernel) (by decide +kernel)) (goodIn_sub (fun _ h => List.mem_cons_of_mem _ (List.mem_append_left _ (List.mem_append_right _ h))) (by decide +kernel))
set_option maxRecDepth 20000 in
theorem gX5_write_X5_refuseIfLockedByAnother : GoodIn wsX5_write (wsV RX5 97 RX5 yX5_refuseIfLockedByAnother wsX5_refuseIfLockedByAnother) := goodIn_app (goodIn_of _ (by decide +kernel)) ggX5_write_X5_refuseIfLockedByAnother
set_option maxRecDepth 20000 in
theorem ggX5_write_X5_refuseIfNoSpace : GoodIn wsX5_write wsX5_refuseIfNoSpace := goodIn_ca (goodIn_r _ [70, 3, 4, 11, 7, 61, 21, 22, 23, 24, 25, 26, 71, 72, 73, 15, 74, 75, 76, 77, 78, 79, 27, 28, 29, 30, 31, 32, 33, 34, 35, 36, 37, 38, 39, 40, 41, 42, 43, 167, 168, 169, 170, 171, 172, 173, 174, 175, 176, 177, 178, 182, 183, 184, 185, 186, 179, 180, 181] (by decide +kernel) (by decide +kernel)) (goodIn_sub (fun _ h => List.mem_cons_of_mem _ (List.mem_append_left _ (List.mem_append_right _ h))) (by decide +kernel))
set_option maxRecDepth 20000 in
theorem gX5_write_X5_refuseIfNoSpace : GoodIn wsX5_write (wsV RX5 101 RX5 yX5_refuseIfNoSpace wsX5_refuseIfNoSpace) := goodIn_app (goodIn_of _ (by decide +kernel)) ggX5_write_X5_refuseIfNoSpace
set_option maxRecDepth 20000 in
theorem ggX5_write_X0_slotFor : GoodIn wsX5_write wsX0_slotFor := goodIn_r _ [83, 84, 85, 86, 87, 88, 89, 187, 188, 189, 182, 183, 184, 185, 186] (by decide +kernel) (by decide +kernel)
set_option maxRecDepth 20000 in
theorem gX5_write_X0_slotFor_n108 : GoodIn wsX5_write (wsX0_slotFor) := ggX5_write_X0_slotFor
set_option maxRecDepth 20000 in
theorem ggX5_write_X5_clean : GoodIn wsX5_write wsX5_clean := goodIn_r _ [93, 94, 95, 81, 96, 97, 84, 85, 86, 87, 88, 89, 167, 168, 169, 170, 171, 172, 173, 174, 187, 188, 189, 182, 183, 184, 185, 186] (by decide +kernel) (by decide +kernel)
set_option maxRecDepth 20000 in
theorem gX5_write_X5_clean : GoodIn wsX5_write (wsV RX5 114 RX5 yX5_clean wsX5_clean) := goodIn_app (goodIn_of _ (by decide +kernel)) ggX5_write_X5_clean
set_option maxRecDepth 20000 in
theorem ggX5_write_X3_give : GoodIn wsX5_write wsX3_give := goodIn_r _ [100, 89, 101, 188, 189] (by decide +kernel) (by decide +kernel)
set_option maxRecDepth 20000 in
theorem gX5_write_X3_give_n117 : GoodIn wsX5_write (wsX3_give) := ggX5_write_X3_give
set_option maxRecDepth 20000 in
theorem ggX5_write_X5_isSpaceFull : GoodIn wsX5_write wsX5_isSpaceFull := goodIn_r _ [74, 7, 11, 75, 21, 22, 23, 24, 25, 26, 76, 77, 78, 15, 79, 167, 168, 169, 170, 171, 172, 173, 174, 179, 180, 181] (by decide +kernel) (by decide +kernel)
set_option maxRecDepth 20000 in
theorem gX5_write_X5_isSpaceFull : GoodIn wsX5_write (wsV RX5 122 RX5 yX5_isSpaceFull wsX5_isSpaceFull) := goodIn_app (goodIn_of _ (by decide +kernel)) ggX5_write_X5_isSpaceFull
set_option maxRecDepth 20000 in
theorem ggX5_write_X1_init : GoodIn wsX5_write wsX1_init := goodIn_r _ [103, 104, 105, 106, 66, 107, 65, 108, 175, 176, 177, 178] (by decide +kernel) (by decide +kernel)
set_option maxRecDepth 20000 in
theorem gX5_write_X1_init_n131 : GoodIn wsX5_write (wsX1_init) := ggX5_write_X1_init
set_option maxRecDepth 20000 in
theorem ggX5_write_Jx4a65c_add_9ea2d : GoodIn wsX5_write wsJx4a65c_add_9ea2d := goodIn_r _ [112, 113, 114, 43, 26, 115, 116, 117, 24, 118, 119, 120, 121, 122, 123, 124, 125, 126, 127, 128, 129, 130, 131, 132, 133, 134, 135, 136, 137, 138, 139, 140, 141, 142, 143, 144, 145, 146, 147, 148, 149, 150, 151, 152, 153, 154, 155, 156, 157, 158, 159, 160, 161, 179, 180, 181] (by decide +kernel) (by decide +kernel)
set_option maxRecDepth 20000 in
theorem gX5_write_Jx4a65c_add_9ea2d : GoodIn wsX5_write (wsV RX5 74 RJx4a65c yJx4a65c_add_9ea2d wsJx4a65c_add_9ea2d) := goodIn_app (goodIn_of _ (by decide +kernel)) ggX5_write_Jx4a65c_add_9ea2d
set_option maxRecDepth 20000 in
theorem ggX5_write_X1_make : GoodIn wsX5_write wsX1_make := goodIn_r _ [164, 65, 107, 175, 176, 177, 178, 165, 166, 182, 183, 184, 185, 186] (by decide +kernel) (by decide +kernel)
set_option maxRecDepth 20000 in
theorem gX5_write_X1_make_n134 : GoodIn wsX5_write (wsX1_make) := ggX5_write_X1_make
theorem dX5_write_0 : decode cX5_write 0 = .ok (.aload_n 0, 1) := by decide +kernel
theorem dX5_write_1 : decode cX5_write 1 = .ok (.iload_n 1, 1) := by decide +kernel
theorem dX5_write_2 : decode cX5_write 2 = .ok (.invokevirtual 81, 3) := by decide +kernel
theorem dX5_write_5 : decode cX5_write 5 = .ok (.astore 4, 2) := by decide +kernel
theorem dX5_write_7 : decode cX5_write 7 = .ok (.aload_n 0, 1) := by decide +kernel
theorem dX5_write_8 : decode cX5_write 8 = .ok (.iload_n 2, 1) := by decide +kernel
theorem dX5_write_9 : decode cX5_write 9 = .ok (.invokevirtual 85, 3) := by decide +kernel
theorem dX5_write_12 : decode cX5_write 12 = .ok (.astore 5, 2) := by decide +kernel
theorem dX5_write_14 : decode cX5_write 14 = .ok (.iload_n 3, 1) := by decide +kernel
theorem dX5_write_15 : decode cX5_write 15 = .ok (.ldc 89, 2) := by decide +kernel
theorem dX5_write_17 : decode cX5_write 17 = .ok (.if_icmp .lt 9, 3) := by decide +kernel
theorem dX5_write_20 : decode cX5_write 20 = .ok (.iload_n 3, 1) := by decide +kernel
theorem dX5_write_21 : decode cX5_write 21 = .ok (.ldc 90, 2) := by decide +kernel
theorem dX5_write_23 : decode cX5_write 23 = .ok (.if_icmp .le 13, 3) := by decide +kernel
theorem dX5_write_26 : decode cX5_write 26 = .ok (.new 48, 3) := by decide +kernel
theorem dX5_write_29 : decode cX5_write 29 = .ok (.dup, 1) := by decide +kernel
theorem dX5_write_30 : decode cX5_write 30 = .ok (.ldc 91, 2) := by decide +kernel
theorem dX5_write_32 : decode cX5_write 32 = .ok (.invokespecial 52, 3) := by decide +kernel
theorem dX5_write_35 : decode cX5_write 35 = .ok (.athrow, 1) := by decide +kernel
theorem dX5_write_36 : decode cX5_write 36 = .ok (.aload_n 0, 1) := by decide +kernel
theorem dX5_write_37 : decode cX5_write 37 = .ok (.aload 4, 2) := by decide +kernel
theorem dX5_write_39 : decode cX5_write 39 = .ok (.invokevirtual 93, 3) := by decide +kernel
theorem dX5_write_42 : decode cX5_write 42 = .ok (.aload_n 0, 1) := by decide +kernel
theorem dX5_write_43 : decode cX5_write 43 = .ok (.aload 5, 2) := by decide +kernel
theorem dX5_write_45 : decode cX5_write 45 = .ok (.aload 4, 2) := by decide +kernel
theorem dX5_write_47 : decode cX5_write 47 = .ok (.invokevirtual 97, 3) := by decide +kernel
theorem dX5_write_50 : decode cX5_write 50 = .ok (.aload_n 0, 1) := by decide +kernel
theorem dX5_write_51 : decode cX5_write 51 = .ok (.invokevirtual 101, 3) := by decide +kernel
theorem dX5_write_54 : decode cX5_write 54 = .ok (.aload 5, 2) := by decide +kernel
theorem dX5_write_56 : decode cX5_write 56 = .ok (.getfield 104, 3) := by decide +kernel
theorem dX5_write_59 : decode cX5_write 59 = .ok (.aload 4, 2) := by decide +kernel
theorem dX5_write_61 : decode cX5_write 61 = .ok (.invokevirtual 108, 3) := by decide +kernel
theorem dX5_write_64 : decode cX5_write 64 = .ok (.astore 6, 2) := by decide +kernel
theorem dX5_write_66 : decode cX5_write 66 = .ok (.aload 6, 2) := by decide +kernel
theorem dX5_write_68 : decode cX5_write 68 = .ok (.ifnonnull 13, 3) := by decide +kernel
theorem dX5_write_71 : decode cX5_write 71 = .ok (.new 59, 3) := by decide +kernel
theorem dX5_write_74 : decode cX5_write 74 = .ok (.dup, 1) := by decide +kernel
theorem dX5_write_75 : decode cX5_write 75 = .ok (.ldc 112, 2) := by decide +kernel
theorem dX5_write_77 : decode cX5_write 77 = .ok (.invokespecial 63, 3) := by decide +kernel
theorem dX5_write_80 : decode cX5_write 80 = .ok (.athrow, 1) := by decide +kernel
theorem dX5_write_81 : decode cX5_write 81 = .ok (.aload_n 0, 1) := by decide +kernel
theorem dX5_write_82 : decode cX5_write 82 = .ok (.aload 5, 2) := by decide +kernel
theorem dX5_write_84 : decode cX5_write 84 = .ok (.getfield 104, 3) := by decide +kernel
theorem dX5_write_87 : decode cX5_write 87 = .ok (.invokevirtual 114, 3) := by decide +kernel
theorem dX5_write_90 : decode cX5_write 90 = .ok (.aload 6, 2) := by decide +kernel
theorem dX5_write_92 : decode cX5_write 92 = .ok (.aload 4, 2) := by decide +kernel
theorem dX5_write_94 : decode cX5_write 94 = .ok (.invokevirtual 117, 3) := by decide +kernel
theorem dX5_write_97 : decode cX5_write 97 = .ok (.aload_n 0, 1) := by decide +kernel
theorem dX5_write_98 : decode cX5_write 98 = .ok (.invokevirtual 122, 3) := by decide +kernel
theorem dX5_write_101 : decode cX5_write 101 = .ok (.ifCond .eq 13, 3) := by decide +kernel
theorem dX5_write_104 : decode cX5_write 104 = .ok (.aload_n 0, 1) := by decide +kernel
theorem dX5_write_105 : decode cX5_write 105 = .ok (.dup, 1) := by decide +kernel
theorem dX5_write_106 : decode cX5_write 106 = .ok (.getfield 41, 3) := by decide +kernel
theorem dX5_write_109 : decode cX5_write 109 = .ok (.iconst 1, 1) := by decide +kernel
theorem dX5_write_110 : decode cX5_write 110 = .ok (.iadd, 1) := by decide +kernel
theorem dX5_write_111 : decode cX5_write 111 = .ok (.putfield 41, 3) := by decide +kernel
theorem dX5_write_114 : decode cX5_write 114 = .ok (.new 126, 3) := by decide +kernel
theorem dX5_write_117 : decode cX5_write 117 = .ok (.dup, 1) := by decide +kernel
theorem dX5_write_118 : decode cX5_write 118 = .ok (.aload 4, 2) := by decide +kernel
theorem dX5_write_120 : decode cX5_write 120 = .ok (.aload 5, 2) := by decide +kernel
theorem dX5_write_122 : decode cX5_write 122 = .ok (.aload 5, 2) := by decide +kernel
theorem dX5_write_124 : decode cX5_write 124 = .ok (.getfield 128, 3) := by decide +kernel
theorem dX5_write_127 : decode cX5_write 127 = .ok (.invokespecial 131, 3) := by decide +kernel
theorem dX5_write_130 : decode cX5_write 130 = .ok (.astore 7, 2) := by decide +kernel
theorem dX5_write_132 : decode cX5_write 132 = .ok (.aload_n 0, 1) := by decide +kernel
theorem dX5_write_133 : decode cX5_write 133 = .ok (.getfield 28, 3) := by decide +kernel
theorem dX5_write_136 : decode cX5_write 136 = .ok (.aload 7, 2) := by decide +kernel
theorem dX5_write_138 : decode cX5_write 138 = .ok (.invokevirtual 74, 3) := by decide +kernel
theorem dX5_write_141 : decode cX5_write 141 = .ok (.pop, 1) := by decide +kernel
theorem dX5_write_142 : decode cX5_write 142 = .ok (.aload 7, 2) := by decide +kernel
theorem dX5_write_144 : decode cX5_write 144 = .ok (.iload_n 3, 1) := by decide +kernel
theorem dX5_write_145 : decode cX5_write 145 = .ok (.invokevirtual 134, 3) := by decide +kernel
theorem dX5_write_148 : decode cX5_write 148 = .ok (.aload 7, 2) := by decide +kernel
theorem dX5_write_150 : decode cX5_write 150 = .ok (.getfield 138, 3) := by decide +kernel
theorem dX5_write_153 : decode cX5_write 153 = .ok (.ireturn, 1) := by decide +kernel
set_option maxRecDepth 20000 in
theorem ggX5_read_X5_transactionNumbered : GoodIn wsX5_read wsX5_transactionNumbered := goodIn_ca (goodIn_r _ [5, 6, 7, 8, 9, 10, 11, 12, 13, 14, 15, 16, 17, 18, 19, 20, 21, 22, 23, 24, 25, 26, 27, 28, 29, 30, 31, 32, 96, 97, 98, 99, 100, 101, 102, 103, 104, 105, 106] (by decide +kernel) (by decide +kernel)) (goodIn_sub (fun _ h => List.mem_cons_of_mem _ (List.mem_append_left _ (List.mem_append_left _ (List.mem_append_right _ h)))) (by decide +kernel))
set_option maxRecDepth 20000 in
theorem gX5_read_X5_transactionNumbered : GoodIn wsX5_read (wsV RX5 81 RX5 yX5_transactionNumbered wsX5_transactionNumbered) := goodIn_app (goodIn_of _ (by decide +kernel)) ggX5_read_X5_transactionNumbered
set_option maxRecDepth 20000 in
theorem ggX5_read_X5_rowNumbered : GoodIn wsX5_read wsX5_rowNumbered := goodIn_ca (goodIn_r _ [36, 6, 7, 37, 96, 97, 98, 99, 100, 101, 102, 103] (by decide +kernel) (by decide +kernel)) (goodIn_sub (fun _ h => List.mem_cons_of_mem _ (List.mem_append_left _ (List.mem_append_left _ (List.mem_append_right _ h)))) (by decide +kernel))
set_option maxRecDepth 20000 in
theorem gX5_read_X5_rowNumbered : GoodIn wsX5_read (wsV RX5 85 RX5 yX5_rowNumbered wsX5_rowNumbered) := goodIn_app (goodIn_of _ (by decide +kernel)) ggX5_read_X5_rowNumbered
set_option maxRecDepth 20000 in
theorem ggX5_read_X5_refuseIfEnded : GoodIn wsX5_read wsX5_refuseIfEnded := goodIn_ca (goodIn_r _ [41, 42, 43, 91, 92, 93, 94, 95] (by decide +kernel) (by decide +kernel)) (goodIn_sub (fun _ h => List.mem_cons_of_mem _ (List.mem_append_left _ (List.mem_append_right _ h))) (by decide +kernel))
set_option maxRecDepth 20000 in
theorem gX5_read_X5_refuseIfEnded : GoodIn wsX5_read (wsV RX5 93 RX5 yX5_refuseIfEnded wsX5_refuseIfEnded) := goodIn_app (goodIn_of _ (by decide +kernel)) ggX5_read_X5_refuseIfEnded
set_option maxRecDepth 20000 in
theorem ggX5_read_X5_readFromRecords : GoodIn wsX5_read wsX5_readFromRecords := goodIn_ca (goodIn_r _ [47, 48, 49, 50, 51, 52, 53, 4, 54, 55, 56, 10, 11, 12, 13, 14, 15, 16, 17, 18, 19, 20, 21, 22, 23, 24, 25, 26, 27, 28, 29, 30, 31, 32, 57, 58, 59, 60, 61, 62, 63, 64, 65, 66, 67, 68, 69, 70, 71, 72, 73, 74, 75, 76, 77, 78, 79, 80, 81, 82, 83, 84, 85, 86, 87, 88, 89, 90, 96, 97, 98, 99, 100, 101, 102, 103, 107, 108, 104, 105, 106, 109, 110, 111, 112, 91, 92, 93, 94, 95, 113, 114, 115] (by decide +kernel) (by decide +kernel)) (goodIn_sub (fun _ h => List.mem_cons_of_mem _ (List.mem_append_right _ h)) (by decide +kernel))
set_option maxRecDepth 20000 in
theorem gX5_read_X5_readFromRecords : GoodIn wsX5_read (wsV RX5 144 RX5 yX5_readFromRecords wsX5_readFromRecords) := goodIn_app (goodIn_of _ (by decide +kernel)) ggX5_read_X5_readFromRecords
theorem dX5_read_0 : decode cX5_read 0 = .ok (.aload_n 0, 1) := by decide +kernel
theorem dX5_read_1 : decode cX5_read 1 = .ok (.iload_n 1, 1) := by decide +kernel
theorem dX5_read_2 : decode cX5_read 2 = .ok (.invokevirtual 81, 3) := by decide +kernel
theorem dX5_read_5 : decode cX5_read 5 = .ok (.astore_n 3, 1) := by decide +kernel
theorem dX5_read_6 : decode cX5_read 6 = .ok (.aload_n 0, 1) := by decide +kernel
theorem dX5_read_7 : decode cX5_read 7 = .ok (.iload_n 2, 1) := by decide +kernel
theorem dX5_read_8 : decode cX5_read 8 = .ok (.invokevirtual 85, 3) := by decide +kernel
theorem dX5_read_11 : decode cX5_read 11 = .ok (.astore 4, 2) := by decide +kernel
theorem dX5_read_13 : decode cX5_read 13 = .ok (.aload_n 0, 1) := by decide +kernel
theorem dX5_read_14 : decode cX5_read 14 = .ok (.aload_n 3, 1) := by decide +kernel
theorem dX5_read_15 : decode cX5_read 15 = .ok (.invokevirtual 93, 3) := by decide +kernel
theorem dX5_read_18 : decode cX5_read 18 = .ok (.aload_n 0, 1) := by decide +kernel
theorem dX5_read_19 : decode cX5_read 19 = .ok (.aload 4, 2) := by decide +kernel
theorem dX5_read_21 : decode cX5_read 21 = .ok (.aload_n 3, 1) := by decide +kernel
theorem dX5_read_22 : decode cX5_read 22 = .ok (.getfield 141, 3) := by decide +kernel
theorem dX5_read_25 : decode cX5_read 25 = .ok (.aload_n 3, 1) := by decide +kernel
theorem dX5_read_26 : decode cX5_read 26 = .ok (.invokevirtual 144, 3) := by decide +kernel
theorem dX5_read_29 : decode cX5_read 29 = .ok (.ireturn, 1) := by decide +kernel
set_option maxRecDepth 20000 in
theorem ggX5_readAt_X5_rowNumbered : GoodIn wsX5_readAt wsX5_rowNumbered := goodIn_ca (goodIn_r _ [5, 6, 7, 8, 86, 87, 88, 89, 90, 91, 92, 93] (by decide +kernel) (by decide +kernel)) (goodIn_sub (fun _ h => List.mem_cons_of_mem _ (List.mem_append_left _ (List.mem_append_left _ (List.mem_append_right _ h)))) (by decide +kernel))
set_option maxRecDepth 20000 in
theorem gX5_readAt_X5_rowNumbered : GoodIn wsX5_readAt (wsV RX5 85 RX5 yX5_rowNumbered wsX5_rowNumbered) := goodIn_app (goodIn_of _ (by decide +kernel)) ggX5_readAt_X5_rowNumbered
set_option maxRecDepth 20000 in
theorem ggX5_readAt_X5_refuseIfNotYet : GoodIn wsX5_readAt wsX5_refuseIfNotYet := goodIn_ca (goodIn_r _ [12, 13, 14, 15, 86, 87, 88, 89, 90, 91, 92, 93] (by decide +kernel) (by decide +kernel)) (goodIn_sub (fun _ h => List.mem_cons_of_mem _ (List.mem_append_left _ (List.mem_append_right _ h))) (by decide +kernel))
set_option maxRecDepth 20000 in
theorem gX5_readAt_X5_refuseIfNotYet : GoodIn wsX5_readAt (wsV RX5 148 RX5 yX5_refuseIfNotYet wsX5_refuseIfNotYet) := goodIn_app (goodIn_of _ (by decide +kernel)) ggX5_readAt_X5_refuseIfNotYet
set_option maxRecDepth 20000 in
theorem ggX5_readAt_X5_readFromRecords : GoodIn wsX5_readAt wsX5_readFromRecords := goodIn_ca (goodIn_r _ [19, 20, 21, 22, 23, 24, 25, 4, 26, 27, 28, 29, 30, 31, 32, 33, 34, 35, 36, 37, 38, 39, 40, 41, 42, 43, 44, 45, 46, 47, 48, 49, 50, 51, 52, 53, 54, 55, 56, 57, 58, 59, 60, 61, 62, 63, 64, 65, 66, 67, 68, 69, 70, 71, 72, 73, 74, 75, 76, 77, 78, 79, 80, 81, 82, 83, 84, 85, 86, 87, 88, 89, 90, 91, 92, 93, 94, 95, 96, 97, 98, 99, 100, 101, 102, 103, 104, 105, 106, 107, 108, 109, 110] (by decide +kernel) (by decide +kernel)) (goodIn_sub (fun _ h => List.mem_cons_of_mem _ (List.mem_append_right _ h)) (by decide +kernel))
set_option maxRecDepth 20000 in
theorem gX5_readAt_X5_readFromRecords : GoodIn wsX5_readAt (wsV RX5 144 RX5 yX5_readFromRecords wsX5_readFromRecords) := goodIn_app (goodIn_of _ (by decide +kernel)) ggX5_readAt_X5_readFromRecords
theorem dX5_readAt_0 : decode cX5_readAt 0 = .ok (.aload_n 0, 1) := by decide +kernel
theorem dX5_readAt_1 : decode cX5_readAt 1 = .ok (.iload_n 2, 1) := by decide +kernel
theorem dX5_readAt_2 : decode cX5_readAt 2 = .ok (.invokevirtual 85, 3) := by decide +kernel
theorem dX5_readAt_5 : decode cX5_readAt 5 = .ok (.astore_n 3, 1) := by decide +kernel
theorem dX5_readAt_6 : decode cX5_readAt 6 = .ok (.aload_n 0, 1) := by decide +kernel
theorem dX5_readAt_7 : decode cX5_readAt 7 = .ok (.iload_n 1, 1) := by decide +kernel
theorem dX5_readAt_8 : decode cX5_readAt 8 = .ok (.invokevirtual 148, 3) := by decide +kernel
theorem dX5_readAt_11 : decode cX5_readAt 11 = .ok (.aload_n 0, 1) := by decide +kernel
theorem dX5_readAt_12 : decode cX5_readAt 12 = .ok (.aload_n 3, 1) := by decide +kernel
theorem dX5_readAt_13 : decode cX5_readAt 13 = .ok (.iload_n 1, 1) := by decide +kernel
theorem dX5_readAt_14 : decode cX5_readAt 14 = .ok (.aconst_null, 1) := by decide +kernel
theorem dX5_readAt_15 : decode cX5_readAt 15 = .ok (.invokevirtual 144, 3) := by decide +kernel
theorem dX5_readAt_18 : decode cX5_readAt 18 = .ok (.ireturn, 1) := by decide +kernel
set_option maxRecDepth 20000 in
theorem ggX5_save_X5_transactionNumbered : GoodIn wsX5_save wsX5_transactionNumbered := goodIn_ca (goodIn_r _ [5, 6, 7, 8, 9, 10, 11, 12, 13, 14, 15, 16, 17, 18, 19, 20, 21, 22, 23, 24, 25, 26, 27, 28, 29, 30, 31, 32, 44, 45, 46, 47, 48, 49, 50, 51, 52, 53, 54] (by decide +kernel) (by decide +kernel)) (goodIn_sub (fun _ h => List.mem_cons_of_mem _ (List.mem_append_left _ (List.mem_append_right _ h))) (by decide +kernel))
set_option maxRecDepth 20000 in
theorem gX5_save_X5_transactionNumbered : GoodIn wsX5_save (wsV RX5 81 RX5 yX5_transactionNumbered wsX5_transactionNumbered) := goodIn_app (goodIn_of _ (by decide +kernel)) ggX5_save_X5_transactionNumbered
set_option maxRecDepth 20000 in
theorem ggX5_save_X5_refuseIfEnded : GoodIn wsX5_save wsX5_refuseIfEnded := goodIn_ca (goodIn_r _ [36, 37, 38, 39, 40, 41, 42, 43] (by decide +kernel) (by decide +kernel)) (goodIn_sub (fun _ h => List.mem_cons_of_mem _ (List.mem_append_right _ h)) (by decide +kernel))
set_option maxRecDepth 20000 in
theorem gX5_save_X5_refuseIfEnded : GoodIn wsX5_save (wsV RX5 93 RX5 yX5_refuseIfEnded wsX5_refuseIfEnded) := goodIn_app (goodIn_of _ (by decide +kernel)) ggX5_save_X5_refuseIfEnded
theorem dX5_save_0 : decode cX5_save 0 = .ok (.aload_n 0, 1) := by decide +kernel
theorem dX5_save_1 : decode cX5_save 1 = .ok (.iload_n 1, 1) := by decide +kernel
theorem dX5_save_2 : decode cX5_save 2 = .ok (.invokevirtual 81, 3) := by decide +kernel
theorem dX5_save_5 : decode cX5_save 5 = .ok (.astore_n 2, 1) := by decide +kernel
theorem dX5_save_6 : decode cX5_save 6 = .ok (.aload_n 0, 1) := by decide +kernel
theorem dX5_save_7 : decode cX5_save 7 = .ok (.aload_n 2, 1) := by decide +kernel
theorem dX5_save_8 : decode cX5_save 8 = .ok (.invokevirtual 93, 3) := by decide +kernel
theorem dX5_save_11 : decode cX5_save 11 = .ok (.aload_n 2, 1) := by decide +kernel
theorem dX5_save_12 : decode cX5_save 12 = .ok (.getfield 151, 3) := by decide +kernel
theorem dX5_save_15 : decode cX5_save 15 = .ok (.ireturn, 1) := by decide +kernel
set_option maxRecDepth 20000 in
theorem ggX5_undoTo_X5_transactionNumbered : GoodIn wsX5_undoTo wsX5_transactionNumbered := goodIn_ca (goodIn_r _ [7, 8, 9, 10, 11, 12, 13, 14, 15, 16, 17, 18, 19, 20, 21, 22, 23, 24, 25, 26, 27, 28, 29, 30, 31, 32, 33, 34, 60, 61, 62, 63, 64, 65, 66, 67, 68, 69, 70] (by decide +kernel) (by decide +kernel)) (goodIn_sub (fun _ h => List.mem_cons_of_mem _ (List.mem_append_left _ (List.mem_append_right _ h))) (by decide +kernel))
set_option maxRecDepth 20000 in
theorem gX5_undoTo_X5_transactionNumbered : GoodIn wsX5_undoTo (wsV RX5 81 RX5 yX5_transactionNumbered wsX5_transactionNumbered) := goodIn_app (goodIn_of _ (by decide +kernel)) ggX5_undoTo_X5_transactionNumbered
set_option maxRecDepth 20000 in
theorem ggX5_undoTo_X5_refuseIfEnded : GoodIn wsX5_undoTo wsX5_refuseIfEnded := goodIn_ca (goodIn_r _ [38, 39, 40, 55, 56, 57, 58, 59] (by decide +kernel) (by decide +kernel)) (goodIn_sub (fun _ h => List.mem_cons_of_mem _ (List.mem_append_right _ h)) (by decide +kernel))
set_option maxRecDepth 20000 in
theorem gX5_undoTo_X5_refuseIfEnded : GoodIn wsX5_undoTo (wsV RX5 93 RX5 yX5_refuseIfEnded wsX5_refuseIfEnded) := goodIn_app (goodIn_of _ (by decide +kernel)) ggX5_undoTo_X5_refuseIfEnded
set_option maxRecDepth 20000 in
theorem ggX5_undoTo_X5_undoDownTo : GoodIn wsX5_undoTo wsX5_undoDownTo := goodIn_r _ [44, 45, 46, 12, 13, 14, 15, 16, 17, 18, 19, 20, 21, 22, 23, 24, 25, 26, 27, 28, 29, 30, 31, 32, 33, 34, 47, 48, 49, 50, 51, 52, 53, 54, 60, 61, 62, 63, 64, 65, 66, 67, 55, 56, 57, 58, 59, 71, 72, 73, 74, 68, 69, 70, 75, 76] (by decide +kernel) (by decide +kernel)
set_option maxRecDepth 20000 in
theorem gX5_undoTo_X5_undoDownTo : GoodIn wsX5_undoTo (wsV RX5 156 RX5 yX5_undoDownTo wsX5_undoDownTo) := goodIn_app (goodIn_of _ (by decide +kernel)) ggX5_undoTo_X5_undoDownTo
theorem dX5_undoTo_0 : decode cX5_undoTo 0 = .ok (.aload_n 0, 1) := by decide +kernel
theorem dX5_undoTo_1 : decode cX5_undoTo 1 = .ok (.iload_n 1, 1) := by decide +kernel
theorem dX5_undoTo_2 : decode cX5_undoTo 2 = .ok (.invokevirtual 81, 3) := by decide +kernel
theorem dX5_undoTo_5 : decode cX5_undoTo 5 = .ok (.astore_n 3, 1) := by decide +kernel
theorem dX5_undoTo_6 : decode cX5_undoTo 6 = .ok (.aload_n 0, 1) := by decide +kernel
theorem dX5_undoTo_7 : decode cX5_undoTo 7 = .ok (.aload_n 3, 1) := by decide +kernel
theorem dX5_undoTo_8 : decode cX5_undoTo 8 = .ok (.invokevirtual 93, 3) := by decide +kernel
theorem dX5_undoTo_11 : decode cX5_undoTo 11 = .ok (.iload_n 2, 1) := by decide +kernel
theorem dX5_undoTo_12 : decode cX5_undoTo 12 = .ok (.ifCond .lt 11, 3) := by decide +kernel
theorem dX5_undoTo_15 : decode cX5_undoTo 15 = .ok (.iload_n 2, 1) := by decide +kernel
theorem dX5_undoTo_16 : decode cX5_undoTo 16 = .ok (.aload_n 3, 1) := by decide +kernel
theorem dX5_undoTo_17 : decode cX5_undoTo 17 = .ok (.getfield 151, 3) := by decide +kernel
theorem dX5_undoTo_20 : decode cX5_undoTo 20 = .ok (.if_icmp .le 13, 3) := by decide +kernel
theorem dX5_undoTo_23 : decode cX5_undoTo 23 = .ok (.new 48, 3) := by decide +kernel
theorem dX5_undoTo_26 : decode cX5_undoTo 26 = .ok (.dup, 1) := by decide +kernel
theorem dX5_undoTo_27 : decode cX5_undoTo 27 = .ok (.ldc 154, 2) := by decide +kernel
theorem dX5_undoTo_29 : decode cX5_undoTo 29 = .ok (.invokespecial 52, 3) := by decide +kernel
theorem dX5_undoTo_32 : decode cX5_undoTo 32 = .ok (.athrow, 1) := by decide +kernel
theorem dX5_undoTo_33 : decode cX5_undoTo 33 = .ok (.aload_n 0, 1) := by decide +kernel
theorem dX5_undoTo_34 : decode cX5_undoTo 34 = .ok (.aload_n 3, 1) := by decide +kernel
theorem dX5_undoTo_35 : decode cX5_undoTo 35 = .ok (.iload_n 2, 1) := by decide +kernel
theorem dX5_undoTo_36 : decode cX5_undoTo 36 = .ok (.invokevirtual 156, 3) := by decide +kernel
theorem dX5_undoTo_39 : decode cX5_undoTo 39 = .ok (.ireturn, 1) := by decide +kernel
set_option maxRecDepth 20000 in
theorem ggX5_undo_X5_transactionNumbered : GoodIn wsX5_undo wsX5_transactionNumbered := goodIn_ca (goodIn_r _ [5, 6, 7, 8, 9, 10, 11, 12, 13, 14, 15, 16, 17, 18, 19, 20, 21, 22, 23, 24, 25, 26, 27, 28, 29, 30, 31, 32, 58, 59, 60, 61, 62, 63, 64, 65, 66, 67, 68] (by decide +kernel) (by decide +kernel)) (goodIn_sub (fun _ h => List.mem_cons_of_mem _ (List.mem_append_left _ (List.mem_append_right _ h))) (by decide +kernel))
set_option maxRecDepth 20000 in
theorem gX5_undo_X5_transactionNumbered : GoodIn wsX5_undo (wsV RX5 81 RX5 yX5_transactionNumbered wsX5_transactionNumbered) := goodIn_app (goodIn_of _ (by decide +kernel)) ggX5_undo_X5_transactionNumbered
set_option maxRecDepth 20000 in
theorem ggX5_undo_X5_refuseIfEnded : GoodIn wsX5_undo wsX5_refuseIfEnded := goodIn_ca (goodIn_r _ [36, 37, 38, 53, 54, 55, 56, 57] (by decide +kernel) (by decide +kernel)) (goodIn_sub (fun _ h => List.mem_cons_of_mem _ (List.mem_append_right _ h)) (by decide +kernel))
set_option maxRecDepth 20000 in
theorem gX5_undo_X5_refuseIfEnded : GoodIn wsX5_undo (wsV RX5 93 RX5 yX5_refuseIfEnded wsX5_refuseIfEnded) := goodIn_app (goodIn_of _ (by decide +kernel)) ggX5_undo_X5_refuseIfEnded
set_option maxRecDepth 20000 in
theorem ggX5_undo_X5_undoDownTo : GoodIn wsX5_undo wsX5_undoDownTo := goodIn_r _ [42, 43, 44, 10, 11, 12, 13, 14, 15, 16, 17, 18, 19, 20, 21, 22, 23, 24, 25, 26, 27, 28, 29, 30, 31, 32, 45, 46, 47, 48, 49, 50, 51, 52, 58, 59, 60, 61, 62, 63, 64, 65, 53, 54, 55, 56, 57, 69, 70, 71, 72, 66, 67, 68, 73, 74] (by decide +kernel) (by decide +kernel)
set_option maxRecDepth 20000 in
theorem gX5_undo_X5_undoDownTo : GoodIn wsX5_undo (wsV RX5 156 RX5 yX5_undoDownTo wsX5_undoDownTo) := goodIn_app (goodIn_of _ (by decide +kernel)) ggX5_undo_X5_undoDownTo
theorem dX5_undo_0 : decode cX5_undo 0 = .ok (.aload_n 0, 1) := by decide +kernel
theorem dX5_undo_1 : decode cX5_undo 1 = .ok (.iload_n 1, 1) := by decide +kernel
theorem dX5_undo_2 : decode cX5_undo 2 = .ok (.invokevirtual 81, 3) := by decide +kernel
theorem dX5_undo_5 : decode cX5_undo 5 = .ok (.astore_n 2, 1) := by decide +kernel
theorem dX5_undo_6 : decode cX5_undo 6 = .ok (.aload_n 0, 1) := by decide +kernel
theorem dX5_undo_7 : decode cX5_undo 7 = .ok (.aload_n 2, 1) := by decide +kernel
theorem dX5_undo_8 : decode cX5_undo 8 = .ok (.invokevirtual 93, 3) := by decide +kernel
theorem dX5_undo_11 : decode cX5_undo 11 = .ok (.aload_n 0, 1) := by decide +kernel
theorem dX5_undo_12 : decode cX5_undo 12 = .ok (.aload_n 2, 1) := by decide +kernel
theorem dX5_undo_13 : decode cX5_undo 13 = .ok (.iconst 0, 1) := by decide +kernel
theorem dX5_undo_14 : decode cX5_undo 14 = .ok (.invokevirtual 156, 3) := by decide +kernel
theorem dX5_undo_17 : decode cX5_undo 17 = .ok (.istore_n 3, 1) := by decide +kernel
theorem dX5_undo_18 : decode cX5_undo 18 = .ok (.aload_n 2, 1) := by decide +kernel
theorem dX5_undo_19 : decode cX5_undo 19 = .ok (.iconst 0, 1) := by decide +kernel
theorem dX5_undo_20 : decode cX5_undo 20 = .ok (.putfield 160, 3) := by decide +kernel
theorem dX5_undo_23 : decode cX5_undo 23 = .ok (.iload_n 3, 1) := by decide +kernel
theorem dX5_undo_24 : decode cX5_undo 24 = .ok (.ireturn, 1) := by decide +kernel
set_option maxRecDepth 20000 in
theorem ggX5_commit_X5_transactionNumbered : GoodIn wsX5_commit wsX5_transactionNumbered := goodIn_ca (goodIn_r _ [6, 7, 8, 9, 10, 11, 12, 13, 14, 15, 16, 17, 18, 19, 20, 21, 22, 23, 24, 25, 26, 27, 28, 29, 30, 31, 32, 33, 40, 41, 42, 43, 44, 45, 46, 47, 53, 54, 55] (by decide +kernel) (by decide +kernel)) (goodIn_sub (fun _ h => List.mem_cons_of_mem _ (List.mem_append_left _ (List.mem_append_right _ h))) (by decide +kernel))
set_option maxRecDepth 20000 in
theorem gX5_commit_X5_transactionNumbered : GoodIn wsX5_commit (wsV RX5 81 RX5 yX5_transactionNumbered wsX5_transactionNumbered) := goodIn_app (goodIn_of _ (by decide +kernel)) ggX5_commit_X5_transactionNumbered
set_option maxRecDepth 20000 in
theorem ggX5_commit_X5_refuseIfEnded : GoodIn wsX5_commit wsX5_refuseIfEnded := goodIn_ca (goodIn_r _ [37, 38, 39, 48, 49, 50, 51, 52] (by decide +kernel) (by decide +kernel)) (goodIn_sub (fun _ h => List.mem_cons_of_mem _ (List.mem_append_right _ h)) (by decide +kernel))
set_option maxRecDepth 20000 in
theorem gX5_commit_X5_refuseIfEnded : GoodIn wsX5_commit (wsV RX5 93 RX5 yX5_refuseIfEnded wsX5_refuseIfEnded) := goodIn_app (goodIn_of _ (by decide +kernel)) ggX5_commit_X5_refuseIfEnded
theorem dX5_commit_0 : decode cX5_commit 0 = .ok (.aload_n 0, 1) := by decide +kernel
theorem dX5_commit_1 : decode cX5_commit 1 = .ok (.iload_n 1, 1) := by decide +kernel
theorem dX5_commit_2 : decode cX5_commit 2 = .ok (.invokevirtual 81, 3) := by decide +kernel
theorem dX5_commit_5 : decode cX5_commit 5 = .ok (.astore_n 2, 1) := by decide +kernel
theorem dX5_commit_6 : decode cX5_commit 6 = .ok (.aload_n 0, 1) := by decide +kernel
theorem dX5_commit_7 : decode cX5_commit 7 = .ok (.aload_n 2, 1) := by decide +kernel
theorem dX5_commit_8 : decode cX5_commit 8 = .ok (.invokevirtual 93, 3) := by decide +kernel
theorem dX5_commit_11 : decode cX5_commit 11 = .ok (.aload_n 0, 1) := by decide +kernel
theorem dX5_commit_12 : decode cX5_commit 12 = .ok (.dup, 1) := by decide +kernel
theorem dX5_commit_13 : decode cX5_commit 13 = .ok (.getfield 35, 3) := by decide +kernel
theorem dX5_commit_16 : decode cX5_commit 16 = .ok (.iconst 1, 1) := by decide +kernel
theorem dX5_commit_17 : decode cX5_commit 17 = .ok (.iadd, 1) := by decide +kernel
theorem dX5_commit_18 : decode cX5_commit 18 = .ok (.putfield 35, 3) := by decide +kernel
theorem dX5_commit_21 : decode cX5_commit 21 = .ok (.aload_n 2, 1) := by decide +kernel
theorem dX5_commit_22 : decode cX5_commit 22 = .ok (.aload_n 0, 1) := by decide +kernel
theorem dX5_commit_23 : decode cX5_commit 23 = .ok (.getfield 35, 3) := by decide +kernel
theorem dX5_commit_26 : decode cX5_commit 26 = .ok (.putfield 164, 3) := by decide +kernel
theorem dX5_commit_29 : decode cX5_commit 29 = .ok (.aload_n 2, 1) := by decide +kernel
theorem dX5_commit_30 : decode cX5_commit 30 = .ok (.iconst 0, 1) := by decide +kernel
theorem dX5_commit_31 : decode cX5_commit 31 = .ok (.putfield 160, 3) := by decide +kernel
theorem dX5_commit_34 : decode cX5_commit 34 = .ok (.aload_n 0, 1) := by decide +kernel
theorem dX5_commit_35 : decode cX5_commit 35 = .ok (.getfield 35, 3) := by decide +kernel
theorem dX5_commit_38 : decode cX5_commit 38 = .ok (.ireturn, 1) := by decide +kernel
theorem dX5_moment_0 : decode cX5_moment 0 = .ok (.aload_n 0, 1) := by decide +kernel
theorem dX5_moment_1 : decode cX5_moment 1 = .ok (.getfield 35, 3) := by decide +kernel
theorem dX5_moment_4 : decode cX5_moment 4 = .ok (.ireturn, 1) := by decide +kernel
set_option maxRecDepth 20000 in
theorem ggX5_transactions_Jx4a65c_size_8abf5 : GoodIn wsX5_transactions wsJx4a65c_size_8abf5 := goodIn_r _ [6, 7, 16, 17, 18] (by decide +kernel) (by decide +kernel)
set_option maxRecDepth 20000 in
theorem gX5_transactions_Jx4a65c_size_8abf5 : GoodIn wsX5_transactions (wsV RX5 64 RJx4a65c yJx4a65c_size_8abf5 wsJx4a65c_size_8abf5) := goodIn_app (goodIn_of _ (by decide +kernel)) ggX5_transactions_Jx4a65c_size_8abf5
theorem dX5_transactions_0 : decode cX5_transactions 0 = .ok (.aload_n 0, 1) := by decide +kernel
theorem dX5_transactions_1 : decode cX5_transactions 1 = .ok (.getfield 24, 3) := by decide +kernel
theorem dX5_transactions_4 : decode cX5_transactions 4 = .ok (.invokevirtual 64, 3) := by decide +kernel
theorem dX5_transactions_7 : decode cX5_transactions 7 = .ok (.ireturn, 1) := by decide +kernel
set_option maxRecDepth 20000 in
theorem ggX5_now_X5_rowNumbered : GoodIn wsX5_now wsX5_rowNumbered := goodIn_ca (goodIn_r _ [5, 6, 7, 8, 11, 12, 13, 14, 15, 16, 17, 18] (by decide +kernel) (by decide +kernel)) (goodIn_sub (fun _ h => List.mem_cons_of_mem _ (List.mem_append_right _ h)) (by decide +kernel))
set_option maxRecDepth 20000 in
theorem gX5_now_X5_rowNumbered : GoodIn wsX5_now (wsV RX5 85 RX5 yX5_rowNumbered wsX5_rowNumbered) := goodIn_app (goodIn_of _ (by decide +kernel)) ggX5_now_X5_rowNumbered
theorem dX5_now_0 : decode cX5_now 0 = .ok (.aload_n 0, 1) := by decide +kernel
theorem dX5_now_1 : decode cX5_now 1 = .ok (.iload_n 1, 1) := by decide +kernel
theorem dX5_now_2 : decode cX5_now 2 = .ok (.invokevirtual 85, 3) := by decide +kernel
theorem dX5_now_5 : decode cX5_now 5 = .ok (.getfield 128, 3) := by decide +kernel
theorem dX5_now_8 : decode cX5_now 8 = .ok (.ireturn, 1) := by decide +kernel
set_option maxRecDepth 20000 in
theorem ggX5_versionAt_X5_rowNumbered : GoodIn wsX5_versionAt wsX5_rowNumbered := goodIn_ca (goodIn_r _ [5, 6, 7, 8, 64, 65, 66, 67, 68, 69, 70, 71] (by decide +kernel) (by decide +kernel)) (goodIn_sub (fun _ h => List.mem_cons_of_mem _ (List.mem_append_left _ (List.mem_append_right _ h))) (by decide +kernel))
set_option maxRecDepth 20000 in
theorem gX5_versionAt_X5_rowNumbered : GoodIn wsX5_versionAt (wsV RX5 85 RX5 yX5_rowNumbered wsX5_rowNumbered) := goodIn_app (goodIn_of _ (by decide +kernel)) ggX5_versionAt_X5_rowNumbered
set_option maxRecDepth 20000 in
theorem ggX5_versionAt_X5_refuseIfNotYet : GoodIn wsX5_versionAt wsX5_refuseIfNotYet := goodIn_ca (goodIn_r _ [12, 13, 14, 15, 64, 65, 66, 67, 68, 69, 70, 71] (by decide +kernel) (by decide +kernel)) (goodIn_sub (fun _ h => List.mem_cons_of_mem _ (List.mem_append_right _ h)) (by decide +kernel))
set_option maxRecDepth 20000 in
theorem gX5_versionAt_X5_refuseIfNotYet : GoodIn wsX5_versionAt (wsV RX5 148 RX5 yX5_refuseIfNotYet wsX5_refuseIfNotYet) := goodIn_app (goodIn_of _ (by decide +kernel)) ggX5_versionAt_X5_refuseIfNotYet
set_option maxRecDepth 20000 in
theorem ggX5_versionAt_X5_oldestUnseen : GoodIn wsX5_versionAt wsX5_oldestUnseen := goodIn_r _ [19, 20, 21, 22, 23, 24, 25, 26, 27, 28, 29, 30, 31, 32, 33, 34, 35, 36, 37, 38, 39, 40, 41, 42, 43, 44, 45, 46, 47, 48, 49, 50, 51, 52, 53, 54, 55, 56, 57, 58, 59, 64, 65, 66, 67, 68, 69, 70, 71, 72, 73, 74, 75, 76, 77, 78, 79, 80, 81, 82, 83] (by decide +kernel) (by decide +kernel)
set_option maxRecDepth 20000 in
theorem gX5_versionAt_X5_oldestUnseen : GoodIn wsX5_versionAt (wsV RX5 167 RX5 yX5_oldestUnseen wsX5_oldestUnseen) := goodIn_app (goodIn_of _ (by decide +kernel)) ggX5_versionAt_X5_oldestUnseen
set_option maxRecDepth 20000 in
theorem ggX5_versionAt_X5_valueAheadOf : GoodIn wsX5_versionAt wsX5_valueAheadOf := goodIn_r _ [63, 20, 21, 22, 23, 24, 25, 26, 27, 28, 29, 30, 31, 32, 33, 34, 35, 36, 37, 38, 39, 40, 41, 42, 43, 44, 64, 65, 66, 67, 68, 69, 70, 71, 84, 85, 75, 76, 77, 78, 72, 73, 74] (by decide +kernel) (by decide +kernel)
set_option maxRecDepth 20000 in
theorem gX5_versionAt_X5_valueAheadOf : GoodIn wsX5_versionAt (wsV RX5 170 RX5 yX5_valueAheadOf wsX5_valueAheadOf) := goodIn_app (goodIn_of _ (by decide +kernel)) ggX5_versionAt_X5_valueAheadOf
theorem dX5_versionAt_0 : decode cX5_versionAt 0 = .ok (.aload_n 0, 1) := by decide +kernel
theorem dX5_versionAt_1 : decode cX5_versionAt 1 = .ok (.iload_n 2, 1) := by decide +kernel
theorem dX5_versionAt_2 : decode cX5_versionAt 2 = .ok (.invokevirtual 85, 3) := by decide +kernel
theorem dX5_versionAt_5 : decode cX5_versionAt 5 = .ok (.astore_n 3, 1) := by decide +kernel
theorem dX5_versionAt_6 : decode cX5_versionAt 6 = .ok (.aload_n 0, 1) := by decide +kernel
theorem dX5_versionAt_7 : decode cX5_versionAt 7 = .ok (.iload_n 1, 1) := by decide +kernel
theorem dX5_versionAt_8 : decode cX5_versionAt 8 = .ok (.invokevirtual 148, 3) := by decide +kernel
theorem dX5_versionAt_11 : decode cX5_versionAt 11 = .ok (.aload_n 0, 1) := by decide +kernel
theorem dX5_versionAt_12 : decode cX5_versionAt 12 = .ok (.aload_n 0, 1) := by decide +kernel
theorem dX5_versionAt_13 : decode cX5_versionAt 13 = .ok (.aload_n 3, 1) := by decide +kernel
theorem dX5_versionAt_14 : decode cX5_versionAt 14 = .ok (.iload_n 1, 1) := by decide +kernel
theorem dX5_versionAt_15 : decode cX5_versionAt 15 = .ok (.aconst_null, 1) := by decide +kernel
theorem dX5_versionAt_16 : decode cX5_versionAt 16 = .ok (.invokevirtual 167, 3) := by decide +kernel
theorem dX5_versionAt_19 : decode cX5_versionAt 19 = .ok (.aload_n 3, 1) := by decide +kernel
theorem dX5_versionAt_20 : decode cX5_versionAt 20 = .ok (.invokevirtual 170, 3) := by decide +kernel
theorem dX5_versionAt_23 : decode cX5_versionAt 23 = .ok (.ireturn, 1) := by decide +kernel
set_option maxRecDepth 20000 in
theorem ggX5_lockOf_X5_rowNumbered : GoodIn wsX5_lockOf wsX5_rowNumbered := goodIn_ca (goodIn_r _ [5, 6, 7, 8, 49, 50, 51, 52, 53, 54, 55, 56] (by decide +kernel) (by decide +kernel)) (goodIn_sub (fun _ h => List.mem_cons_of_mem _ (List.mem_append_right _ h)) (by decide +kernel))
set_option maxRecDepth 20000 in
theorem gX5_lockOf_X5_rowNumbered : GoodIn wsX5_lockOf (wsV RX5 85 RX5 yX5_rowNumbered wsX5_rowNumbered) := goodIn_app (goodIn_of _ (by decide +kernel)) ggX5_lockOf_X5_rowNumbered
set_option maxRecDepth 20000 in
theorem ggX5_lockOf_X5_lockerOf : GoodIn wsX5_lockOf wsX5_lockerOf := goodIn_r _ [12, 13, 14, 15, 16, 17, 18, 19, 20, 21, 22, 23, 24, 25, 26, 27, 28, 29, 30, 31, 32, 33, 34, 35, 36, 37, 38, 39, 40, 41, 42, 43, 49, 50, 51, 52, 53, 54, 55, 56, 57, 58, 59, 60, 44, 45, 46, 47, 48, 61, 62, 63] (by decide +kernel) (by decide +kernel)
set_option maxRecDepth 20000 in
theorem gX5_lockOf_X5_lockerOf : GoodIn wsX5_lockOf (wsV RX5 174 RX5 yX5_lockerOf wsX5_lockerOf) := goodIn_app (goodIn_of _ (by decide +kernel)) ggX5_lockOf_X5_lockerOf
theorem dX5_lockOf_0 : decode cX5_lockOf 0 = .ok (.aload_n 0, 1) := by decide +kernel
theorem dX5_lockOf_1 : decode cX5_lockOf 1 = .ok (.aload_n 0, 1) := by decide +kernel
theorem dX5_lockOf_2 : decode cX5_lockOf 2 = .ok (.iload_n 1, 1) := by decide +kernel
theorem dX5_lockOf_3 : decode cX5_lockOf 3 = .ok (.invokevirtual 85, 3) := by decide +kernel
theorem dX5_lockOf_6 : decode cX5_lockOf 6 = .ok (.invokevirtual 174, 3) := by decide +kernel
theorem dX5_lockOf_9 : decode cX5_lockOf 9 = .ok (.astore_n 2, 1) := by decide +kernel
theorem dX5_lockOf_10 : decode cX5_lockOf 10 = .ok (.aload_n 2, 1) := by decide +kernel
theorem dX5_lockOf_11 : decode cX5_lockOf 11 = .ok (.ifnonnull 7, 3) := by decide +kernel
theorem dX5_lockOf_14 : decode cX5_lockOf 14 = .ok (.iconst (-1), 1) := by decide +kernel
theorem dX5_lockOf_15 : decode cX5_lockOf 15 = .ok (.goto 7, 3) := by decide +kernel
theorem dX5_lockOf_18 : decode cX5_lockOf 18 = .ok (.aload_n 2, 1) := by decide +kernel
theorem dX5_lockOf_19 : decode cX5_lockOf 19 = .ok (.getfield 78, 3) := by decide +kernel
theorem dX5_lockOf_22 : decode cX5_lockOf 22 = .ok (.ireturn, 1) := by decide +kernel
set_option maxRecDepth 20000 in
theorem ggX5_slotOf_X5_slotNumbered : GoodIn wsX5_slotOf wsX5_slotNumbered := goodIn_ca (goodIn_r _ [5, 6, 7, 8, 16, 17, 18, 19, 20, 21, 22, 23, 24] (by decide +kernel) (by decide +kernel)) (goodIn_sub (fun _ h => List.mem_cons_of_mem _ (List.mem_append_right _ h)) (by decide +kernel))
set_option maxRecDepth 20000 in
theorem gX5_slotOf_X5_slotNumbered : GoodIn wsX5_slotOf (wsV RX5 178 RX5 yX5_slotNumbered wsX5_slotNumbered) := goodIn_app (goodIn_of _ (by decide +kernel)) ggX5_slotOf_X5_slotNumbered
theorem dX5_slotOf_0 : decode cX5_slotOf 0 = .ok (.aload_n 0, 1) := by decide +kernel
theorem dX5_slotOf_1 : decode cX5_slotOf 1 = .ok (.iload_n 1, 1) := by decide +kernel
theorem dX5_slotOf_2 : decode cX5_slotOf 2 = .ok (.iload_n 2, 1) := by decide +kernel
theorem dX5_slotOf_3 : decode cX5_slotOf 3 = .ok (.invokevirtual 178, 3) := by decide +kernel
theorem dX5_slotOf_6 : decode cX5_slotOf 6 = .ok (.getfield 182, 3) := by decide +kernel
theorem dX5_slotOf_9 : decode cX5_slotOf 9 = .ok (.astore_n 3, 1) := by decide +kernel
theorem dX5_slotOf_10 : decode cX5_slotOf 10 = .ok (.aload_n 3, 1) := by decide +kernel
theorem dX5_slotOf_11 : decode cX5_slotOf 11 = .ok (.ifnonnull 7, 3) := by decide +kernel
theorem dX5_slotOf_14 : decode cX5_slotOf 14 = .ok (.iconst (-1), 1) := by decide +kernel
theorem dX5_slotOf_15 : decode cX5_slotOf 15 = .ok (.goto 7, 3) := by decide +kernel
theorem dX5_slotOf_18 : decode cX5_slotOf 18 = .ok (.aload_n 3, 1) := by decide +kernel
theorem dX5_slotOf_19 : decode cX5_slotOf 19 = .ok (.getfield 78, 3) := by decide +kernel
theorem dX5_slotOf_22 : decode cX5_slotOf 22 = .ok (.ireturn, 1) := by decide +kernel
set_option maxRecDepth 20000 in
theorem ggX5_isMarked_X5_slotNumbered : GoodIn wsX5_isMarked wsX5_slotNumbered := goodIn_ca (goodIn_r _ [5, 6, 7, 8, 11, 12, 13, 14, 15, 16, 17, 18, 19] (by decide +kernel) (by decide +kernel)) (goodIn_sub (fun _ h => List.mem_cons_of_mem _ (List.mem_append_right _ h)) (by decide +kernel))
set_option maxRecDepth 20000 in
theorem gX5_isMarked_X5_slotNumbered : GoodIn wsX5_isMarked (wsV RX5 178 RX5 yX5_slotNumbered wsX5_slotNumbered) := goodIn_app (goodIn_of _ (by decide +kernel)) ggX5_isMarked_X5_slotNumbered
theorem dX5_isMarked_0 : decode cX5_isMarked 0 = .ok (.aload_n 0, 1) := by decide +kernel
theorem dX5_isMarked_1 : decode cX5_isMarked 1 = .ok (.iload_n 1, 1) := by decide +kernel
theorem dX5_isMarked_2 : decode cX5_isMarked 2 = .ok (.iload_n 2, 1) := by decide +kernel
theorem dX5_isMarked_3 : decode cX5_isMarked 3 = .ok (.invokevirtual 178, 3) := by decide +kernel
theorem dX5_isMarked_6 : decode cX5_isMarked 6 = .ok (.getfield 186, 3) := by decide +kernel
theorem dX5_isMarked_9 : decode cX5_isMarked 9 = .ok (.ireturn, 1) := by decide +kernel
theorem dX5_marked_0 : decode cX5_marked 0 = .ok (.aload_n 0, 1) := by decide +kernel
theorem dX5_marked_1 : decode cX5_marked 1 = .ok (.getfield 38, 3) := by decide +kernel
theorem dX5_marked_4 : decode cX5_marked 4 = .ok (.ireturn, 1) := by decide +kernel
set_option maxRecDepth 20000 in
theorem ggX5_records_X5_recordsThere : GoodIn wsX5_records wsX5_recordsThere := goodIn_r _ [5, 6, 7, 8, 9, 10, 11, 12, 13, 14, 15, 16, 17, 18, 19, 20, 21, 22, 23, 24] (by decide +kernel) (by decide +kernel)
set_option maxRecDepth 20000 in
theorem gX5_records_X5_recordsThere : GoodIn wsX5_records (wsV RX5 55 RX5 yX5_recordsThere wsX5_recordsThere) := goodIn_app (goodIn_of _ (by decide +kernel)) ggX5_records_X5_recordsThere
theorem dX5_records_0 : decode cX5_records 0 = .ok (.aload_n 0, 1) := by decide +kernel
theorem dX5_records_1 : decode cX5_records 1 = .ok (.invokevirtual 55, 3) := by decide +kernel
theorem dX5_records_4 : decode cX5_records 4 = .ok (.ireturn, 1) := by decide +kernel
theorem dX5_dropped_0 : decode cX5_dropped 0 = .ok (.aload_n 0, 1) := by decide +kernel
theorem dX5_dropped_1 : decode cX5_dropped 1 = .ok (.getfield 41, 3) := by decide +kernel
theorem dX5_dropped_4 : decode cX5_dropped 4 = .ok (.ireturn, 1) := by decide +kernel
set_option maxRecDepth 20000 in
theorem ggX5_transactionNumbered_Jx4a65c_size_8abf5 : GoodIn wsX5_transactionNumbered wsJx4a65c_size_8abf5 := goodIn_r _ [9, 10, 36, 37, 38] (by decide +kernel) (by decide +kernel)
set_option maxRecDepth 20000 in
theorem gX5_transactionNumbered_Jx4a65c_size_8abf5 : GoodIn wsX5_transactionNumbered (wsV RX5 64 RJx4a65c yJx4a65c_size_8abf5 wsJx4a65c_size_8abf5) := goodIn_app (goodIn_of _ (by decide +kernel)) ggX5_transactionNumbered_Jx4a65c_size_8abf5
set_option maxRecDepth 20000 in
theorem ggX5_transactionNumbered_Jx4a65c_get_915e3 : GoodIn wsX5_transactionNumbered wsJx4a65c_get_915e3 := goodIn_r _ [14, 10, 15, 16, 17, 18, 19, 20, 21, 22, 23, 24, 25, 8, 26, 27, 36, 37, 38] (by decide +kernel) (by decide +kernel)
set_option maxRecDepth 20000 in
theorem gX5_transactionNumbered_Jx4a65c_get_915e3 : GoodIn wsX5_transactionNumbered (wsV RX5 194 RJx4a65c yJx4a65c_get_915e3 wsJx4a65c_get_915e3) := goodIn_app (goodIn_of _ (by decide +kernel)) ggX5_transactionNumbered_Jx4a65c_get_915e3
theorem dX5_transactionNumbered_0 : decode cX5_transactionNumbered 0 = .ok (.iload_n 1, 1) := by decide +kernel
theorem dX5_transactionNumbered_1 : decode cX5_transactionNumbered 1 = .ok (.ifCond .lt 14, 3) := by decide +kernel
theorem dX5_transactionNumbered_4 : decode cX5_transactionNumbered 4 = .ok (.iload_n 1, 1) := by decide +kernel
theorem dX5_transactionNumbered_5 : decode cX5_transactionNumbered 5 = .ok (.aload_n 0, 1) := by decide +kernel
theorem dX5_transactionNumbered_6 : decode cX5_transactionNumbered 6 = .ok (.getfield 24, 3) := by decide +kernel
theorem dX5_transactionNumbered_9 : decode cX5_transactionNumbered 9 = .ok (.invokevirtual 64, 3) := by decide +kernel
theorem dX5_transactionNumbered_12 : decode cX5_transactionNumbered 12 = .ok (.if_icmp .lt 13, 3) := by decide +kernel
theorem dX5_transactionNumbered_15 : decode cX5_transactionNumbered 15 = .ok (.new 189, 3) := by decide +kernel
theorem dX5_transactionNumbered_18 : decode cX5_transactionNumbered 18 = .ok (.dup, 1) := by decide +kernel
theorem dX5_transactionNumbered_19 : decode cX5_transactionNumbered 19 = .ok (.ldc 191, 2) := by decide +kernel
theorem dX5_transactionNumbered_21 : decode cX5_transactionNumbered 21 = .ok (.invokespecial 193, 3) := by decide +kernel
theorem dX5_transactionNumbered_24 : decode cX5_transactionNumbered 24 = .ok (.athrow, 1) := by decide +kernel
theorem dX5_transactionNumbered_25 : decode cX5_transactionNumbered 25 = .ok (.aload_n 0, 1) := by decide +kernel
theorem dX5_transactionNumbered_26 : decode cX5_transactionNumbered 26 = .ok (.getfield 24, 3) := by decide +kernel
theorem dX5_transactionNumbered_29 : decode cX5_transactionNumbered 29 = .ok (.iload_n 1, 1) := by decide +kernel
theorem dX5_transactionNumbered_30 : decode cX5_transactionNumbered 30 = .ok (.invokevirtual 194, 3) := by decide +kernel
theorem dX5_transactionNumbered_33 : decode cX5_transactionNumbered 33 = .ok (.checkcast 69, 3) := by decide +kernel
theorem dX5_transactionNumbered_36 : decode cX5_transactionNumbered 36 = .ok (.areturn, 1) := by decide +kernel
theorem dX5_rowNumbered_0 : decode cX5_rowNumbered 0 = .ok (.iload_n 1, 1) := by decide +kernel
theorem dX5_rowNumbered_1 : decode cX5_rowNumbered 1 = .ok (.ifCond .lt 12, 3) := by decide +kernel
theorem dX5_rowNumbered_4 : decode cX5_rowNumbered 4 = .ok (.iload_n 1, 1) := by decide +kernel
theorem dX5_rowNumbered_5 : decode cX5_rowNumbered 5 = .ok (.aload_n 0, 1) := by decide +kernel
theorem dX5_rowNumbered_6 : decode cX5_rowNumbered 6 = .ok (.getfield 17, 3) := by decide +kernel
theorem dX5_rowNumbered_9 : decode cX5_rowNumbered 9 = .ok (.arraylength, 1) := by decide +kernel
theorem dX5_rowNumbered_10 : decode cX5_rowNumbered 10 = .ok (.if_icmp .lt 13, 3) := by decide +kernel
theorem dX5_rowNumbered_13 : decode cX5_rowNumbered 13 = .ok (.new 189, 3) := by decide +kernel
theorem dX5_rowNumbered_16 : decode cX5_rowNumbered 16 = .ok (.dup, 1) := by decide +kernel
theorem dX5_rowNumbered_17 : decode cX5_rowNumbered 17 = .ok (.ldc 198, 2) := by decide +kernel
theorem dX5_rowNumbered_19 : decode cX5_rowNumbered 19 = .ok (.invokespecial 193, 3) := by decide +kernel
theorem dX5_rowNumbered_22 : decode cX5_rowNumbered 22 = .ok (.athrow, 1) := by decide +kernel
theorem dX5_rowNumbered_23 : decode cX5_rowNumbered 23 = .ok (.aload_n 0, 1) := by decide +kernel
theorem dX5_rowNumbered_24 : decode cX5_rowNumbered 24 = .ok (.getfield 17, 3) := by decide +kernel
theorem dX5_rowNumbered_27 : decode cX5_rowNumbered 27 = .ok (.iload_n 1, 1) := by decide +kernel
theorem dX5_rowNumbered_28 : decode cX5_rowNumbered 28 = .ok (.aaload, 1) := by decide +kernel
theorem dX5_rowNumbered_29 : decode cX5_rowNumbered 29 = .ok (.areturn, 1) := by decide +kernel
theorem dX5_slotNumbered_0 : decode cX5_slotNumbered 0 = .ok (.iload_n 1, 1) := by decide +kernel
theorem dX5_slotNumbered_1 : decode cX5_slotNumbered 1 = .ok (.ifCond .lt 12, 3) := by decide +kernel
theorem dX5_slotNumbered_4 : decode cX5_slotNumbered 4 = .ok (.iload_n 1, 1) := by decide +kernel
theorem dX5_slotNumbered_5 : decode cX5_slotNumbered 5 = .ok (.aload_n 0, 1) := by decide +kernel
theorem dX5_slotNumbered_6 : decode cX5_slotNumbered 6 = .ok (.getfield 11, 3) := by decide +kernel
theorem dX5_slotNumbered_9 : decode cX5_slotNumbered 9 = .ok (.arraylength, 1) := by decide +kernel
theorem dX5_slotNumbered_10 : decode cX5_slotNumbered 10 = .ok (.if_icmp .lt 13, 3) := by decide +kernel
theorem dX5_slotNumbered_13 : decode cX5_slotNumbered 13 = .ok (.new 189, 3) := by decide +kernel
theorem dX5_slotNumbered_16 : decode cX5_slotNumbered 16 = .ok (.dup, 1) := by decide +kernel
theorem dX5_slotNumbered_17 : decode cX5_slotNumbered 17 = .ok (.ldc 200, 2) := by decide +kernel
theorem dX5_slotNumbered_19 : decode cX5_slotNumbered 19 = .ok (.invokespecial 193, 3) := by decide +kernel
theorem dX5_slotNumbered_22 : decode cX5_slotNumbered 22 = .ok (.athrow, 1) := by decide +kernel
theorem dX5_slotNumbered_23 : decode cX5_slotNumbered 23 = .ok (.aload_n 0, 1) := by decide +kernel
theorem dX5_slotNumbered_24 : decode cX5_slotNumbered 24 = .ok (.getfield 11, 3) := by decide +kernel
theorem dX5_slotNumbered_27 : decode cX5_slotNumbered 27 = .ok (.iload_n 1, 1) := by decide +kernel
theorem dX5_slotNumbered_28 : decode cX5_slotNumbered 28 = .ok (.aaload, 1) := by decide +kernel
theorem dX5_slotNumbered_29 : decode cX5_slotNumbered 29 = .ok (.getfield 202, 3) := by decide +kernel
theorem dX5_slotNumbered_32 : decode cX5_slotNumbered 32 = .ok (.astore_n 3, 1) := by decide +kernel
theorem dX5_slotNumbered_33 : decode cX5_slotNumbered 33 = .ok (.iload_n 2, 1) := by decide +kernel
theorem dX5_slotNumbered_34 : decode cX5_slotNumbered 34 = .ok (.ifCond .lt 9, 3) := by decide +kernel
theorem dX5_slotNumbered_37 : decode cX5_slotNumbered 37 = .ok (.iload_n 2, 1) := by decide +kernel
theorem dX5_slotNumbered_38 : decode cX5_slotNumbered 38 = .ok (.aload_n 3, 1) := by decide +kernel
theorem dX5_slotNumbered_39 : decode cX5_slotNumbered 39 = .ok (.arraylength, 1) := by decide +kernel
theorem dX5_slotNumbered_40 : decode cX5_slotNumbered 40 = .ok (.if_icmp .lt 13, 3) := by decide +kernel
theorem dX5_slotNumbered_43 : decode cX5_slotNumbered 43 = .ok (.new 189, 3) := by decide +kernel
theorem dX5_slotNumbered_46 : decode cX5_slotNumbered 46 = .ok (.dup, 1) := by decide +kernel
theorem dX5_slotNumbered_47 : decode cX5_slotNumbered 47 = .ok (.ldc 206, 2) := by decide +kernel
theorem dX5_slotNumbered_49 : decode cX5_slotNumbered 49 = .ok (.invokespecial 193, 3) := by decide +kernel
theorem dX5_slotNumbered_52 : decode cX5_slotNumbered 52 = .ok (.athrow, 1) := by decide +kernel
theorem dX5_slotNumbered_53 : decode cX5_slotNumbered 53 = .ok (.aload_n 3, 1) := by decide +kernel
theorem dX5_slotNumbered_54 : decode cX5_slotNumbered 54 = .ok (.iload_n 2, 1) := by decide +kernel
theorem dX5_slotNumbered_55 : decode cX5_slotNumbered 55 = .ok (.aaload, 1) := by decide +kernel
theorem dX5_slotNumbered_56 : decode cX5_slotNumbered 56 = .ok (.areturn, 1) := by decide +kernel
theorem dX5_refuseIfEnded_0 : decode cX5_refuseIfEnded 0 = .ok (.aload_n 1, 1) := by decide +kernel
theorem dX5_refuseIfEnded_1 : decode cX5_refuseIfEnded 1 = .ok (.getfield 160, 3) := by decide +kernel
theorem dX5_refuseIfEnded_4 : decode cX5_refuseIfEnded 4 = .ok (.ifCond .ne 13, 3) := by decide +kernel
theorem dX5_refuseIfEnded_7 : decode cX5_refuseIfEnded 7 = .ok (.new 59, 3) := by decide +kernel
theorem dX5_refuseIfEnded_10 : decode cX5_refuseIfEnded 10 = .ok (.dup, 1) := by decide +kernel
theorem dX5_refuseIfEnded_11 : decode cX5_refuseIfEnded 11 = .ok (.ldc 208, 2) := by decide +kernel
theorem dX5_refuseIfEnded_13 : decode cX5_refuseIfEnded 13 = .ok (.invokespecial 63, 3) := by decide +kernel
theorem dX5_refuseIfEnded_16 : decode cX5_refuseIfEnded 16 = .ok (.athrow, 1) := by decide +kernel
theorem dX5_refuseIfEnded_17 : decode cX5_refuseIfEnded 17 = .ok (.return_, 1) := by decide +kernel
theorem dX5_refuseIfNotYet_0 : decode cX5_refuseIfNotYet 0 = .ok (.iload_n 1, 1) := by decide +kernel
theorem dX5_refuseIfNotYet_1 : decode cX5_refuseIfNotYet 1 = .ok (.ifCond .lt 11, 3) := by decide +kernel
theorem dX5_refuseIfNotYet_4 : decode cX5_refuseIfNotYet 4 = .ok (.iload_n 1, 1) := by decide +kernel
theorem dX5_refuseIfNotYet_5 : decode cX5_refuseIfNotYet 5 = .ok (.aload_n 0, 1) := by decide +kernel
theorem dX5_refuseIfNotYet_6 : decode cX5_refuseIfNotYet 6 = .ok (.getfield 35, 3) := by decide +kernel
theorem dX5_refuseIfNotYet_9 : decode cX5_refuseIfNotYet 9 = .ok (.if_icmp .le 13, 3) := by decide +kernel
theorem dX5_refuseIfNotYet_12 : decode cX5_refuseIfNotYet 12 = .ok (.new 48, 3) := by decide +kernel
theorem dX5_refuseIfNotYet_15 : decode cX5_refuseIfNotYet 15 = .ok (.dup, 1) := by decide +kernel
theorem dX5_refuseIfNotYet_16 : decode cX5_refuseIfNotYet 16 = .ok (.ldc 210, 2) := by decide +kernel
theorem dX5_refuseIfNotYet_18 : decode cX5_refuseIfNotYet 18 = .ok (.invokespecial 52, 3) := by decide +kernel
theorem dX5_refuseIfNotYet_21 : decode cX5_refuseIfNotYet 21 = .ok (.athrow, 1) := by decide +kernel
theorem dX5_refuseIfNotYet_22 : decode cX5_refuseIfNotYet 22 = .ok (.return_, 1) := by decide +kernel
set_option maxRecDepth 20000 in
theorem ggX5_refuseIfLockedByAnother_X5_lockerOf : GoodIn wsX5_refuseIfLockedByAnother wsX5_lockerOf := goodIn_r _ [7, 8, 9, 10, 11, 12, 13, 14, 15, 16, 17, 18, 19, 20, 21, 22, 23, 24, 25, 26, 27, 28, 29, 30, 31, 32, 33, 34, 35, 36, 37, 38, 39, 40, 41, 42, 43, 44, 45, 46, 47, 48, 49, 50, 51, 52, 53, 54, 55, 56, 57, 58] (by decide +kernel) (by decide +kernel)
set_option maxRecDepth 20000 in
theorem gX5_refuseIfLockedByAnother_X5_lockerOf : GoodIn wsX5_refuseIfLockedByAnother (wsV RX5 174 RX5 yX5_lockerOf wsX5_lockerOf) := goodIn_app (goodIn_of _ (by decide +kernel)) ggX5_refuseIfLockedByAnother_X5_lockerOf
theorem dX5_refuseIfLockedByAnother_0 : decode cX5_refuseIfLockedByAnother 0 = .ok (.aload_n 0, 1) := by decide +kernel
theorem dX5_refuseIfLockedByAnother_1 : decode cX5_refuseIfLockedByAnother 1 = .ok (.aload_n 1, 1) := by decide +kernel
theorem dX5_refuseIfLockedByAnother_2 : decode cX5_refuseIfLockedByAnother 2 = .ok (.invokevirtual 174, 3) := by decide +kernel
theorem dX5_refuseIfLockedByAnother_5 : decode cX5_refuseIfLockedByAnother 5 = .ok (.astore_n 3, 1) := by decide +kernel
theorem dX5_refuseIfLockedByAnother_6 : decode cX5_refuseIfLockedByAnother 6 = .ok (.aload_n 3, 1) := by decide +kernel
theorem dX5_refuseIfLockedByAnother_7 : decode cX5_refuseIfLockedByAnother 7 = .ok (.ifnull 18, 3) := by decide +kernel
theorem dX5_refuseIfLockedByAnother_10 : decode cX5_refuseIfLockedByAnother 10 = .ok (.aload_n 3, 1) := by decide +kernel
theorem dX5_refuseIfLockedByAnother_11 : decode cX5_refuseIfLockedByAnother 11 = .ok (.aload_n 2, 1) := by decide +kernel
theorem dX5_refuseIfLockedByAnother_12 : decode cX5_refuseIfLockedByAnother 12 = .ok (.if_acmp .eq 13, 3) := by decide +kernel
theorem dX5_refuseIfLockedByAnother_15 : decode cX5_refuseIfLockedByAnother 15 = .ok (.new 59, 3) := by decide +kernel
theorem dX5_refuseIfLockedByAnother_18 : decode cX5_refuseIfLockedByAnother 18 = .ok (.dup, 1) := by decide +kernel
theorem dX5_refuseIfLockedByAnother_19 : decode cX5_refuseIfLockedByAnother 19 = .ok (.ldc 212, 2) := by decide +kernel
theorem dX5_refuseIfLockedByAnother_21 : decode cX5_refuseIfLockedByAnother 21 = .ok (.invokespecial 63, 3) := by decide +kernel
theorem dX5_refuseIfLockedByAnother_24 : decode cX5_refuseIfLockedByAnother 24 = .ok (.athrow, 1) := by decide +kernel
theorem dX5_refuseIfLockedByAnother_25 : decode cX5_refuseIfLockedByAnother 25 = .ok (.return_, 1) := by decide +kernel
set_option maxRecDepth 20000 in
theorem ggX5_refuseIfNoSpace_Jx4a65c_size_8abf5 : GoodIn wsX5_refuseIfNoSpace wsJx4a65c_size_8abf5 := goodIn_r _ [10, 11, 56, 57, 58] (by decide +kernel) (by decide +kernel)
set_option maxRecDepth 20000 in
theorem gX5_refuseIfNoSpace_Jx4a65c_size_8abf5 : GoodIn wsX5_refuseIfNoSpace (wsV RX5 64 RJx4a65c yJx4a65c_size_8abf5 wsJx4a65c_size_8abf5) := goodIn_app (goodIn_of _ (by decide +kernel)) ggX5_refuseIfNoSpace_Jx4a65c_size_8abf5
set_option maxRecDepth 20000 in
theorem ggX5_refuseIfNoSpace_X5_isSpaceFull : GoodIn wsX5_refuseIfNoSpace wsX5_isSpaceFull := goodIn_r _ [16, 4, 3, 17, 6, 7, 8, 9, 10, 11, 18, 19, 20, 15, 21, 39, 40, 41, 42, 43, 44, 45, 46, 56, 57, 58] (by decide +kernel) (by decide +kernel)
set_option maxRecDepth 20000 in
theorem gX5_refuseIfNoSpace_X5_isSpaceFull : GoodIn wsX5_refuseIfNoSpace (wsV RX5 122 RX5 yX5_isSpaceFull wsX5_isSpaceFull) := goodIn_app (goodIn_of _ (by decide +kernel)) ggX5_refuseIfNoSpace_X5_isSpaceFull
set_option maxRecDepth 20000 in
theorem ggX5_refuseIfNoSpace_Jx4a65c_get_915e3 : GoodIn wsX5_refuseIfNoSpace wsJx4a65c_get_915e3 := goodIn_r _ [25, 11, 26, 27, 28, 29, 30, 31, 32, 33, 34, 35, 36, 9, 37, 38, 56, 57, 58] (by decide +kernel) (by decide +kernel)
set_option maxRecDepth 20000 in
theorem gX5_refuseIfNoSpace_Jx4a65c_get_915e3 : GoodIn wsX5_refuseIfNoSpace (wsV RX5 194 RJx4a65c yJx4a65c_get_915e3 wsJx4a65c_get_915e3) := goodIn_app (goodIn_of _ (by decide +kernel)) ggX5_refuseIfNoSpace_Jx4a65c_get_915e3
theorem dX5_refuseIfNoSpace_0 : decode cX5_refuseIfNoSpace 0 = .ok (.aload_n 0, 1) := by decide +kernel
theorem dX5_refuseIfNoSpace_1 : decode cX5_refuseIfNoSpace 1 = .ok (.getfield 28, 3) := by decide +kernel
theorem dX5_refuseIfNoSpace_4 : decode cX5_refuseIfNoSpace 4 = .ok (.invokevirtual 64, 3) := by decide +kernel
theorem dX5_refuseIfNoSpace_7 : decode cX5_refuseIfNoSpace 7 = .ok (.sipush 512, 3) := by decide +kernel
theorem dX5_refuseIfNoSpace_10 : decode cX5_refuseIfNoSpace 10 = .ok (.if_icmp .lt 13, 3) := by decide +kernel
theorem dX5_refuseIfNoSpace_13 : decode cX5_refuseIfNoSpace 13 = .ok (.new 59, 3) := by decide +kernel
theorem dX5_refuseIfNoSpace_16 : decode cX5_refuseIfNoSpace 16 = .ok (.dup, 1) := by decide +kernel
theorem dX5_refuseIfNoSpace_17 : decode cX5_refuseIfNoSpace 17 = .ok (.ldc 214, 2) := by decide +kernel
theorem dX5_refuseIfNoSpace_19 : decode cX5_refuseIfNoSpace 19 = .ok (.invokespecial 63, 3) := by decide +kernel
theorem dX5_refuseIfNoSpace_22 : decode cX5_refuseIfNoSpace 22 = .ok (.athrow, 1) := by decide +kernel
theorem dX5_refuseIfNoSpace_23 : decode cX5_refuseIfNoSpace 23 = .ok (.aload_n 0, 1) := by decide +kernel
theorem dX5_refuseIfNoSpace_24 : decode cX5_refuseIfNoSpace 24 = .ok (.invokevirtual 122, 3) := by decide +kernel
theorem dX5_refuseIfNoSpace_27 : decode cX5_refuseIfNoSpace 27 = .ok (.ifCond .eq 36, 3) := by decide +kernel
theorem dX5_refuseIfNoSpace_30 : decode cX5_refuseIfNoSpace 30 = .ok (.aload_n 0, 1) := by decide +kernel
theorem dX5_refuseIfNoSpace_31 : decode cX5_refuseIfNoSpace 31 = .ok (.getfield 28, 3) := by decide +kernel
theorem dX5_refuseIfNoSpace_34 : decode cX5_refuseIfNoSpace 34 = .ok (.aload_n 0, 1) := by decide +kernel
theorem dX5_refuseIfNoSpace_35 : decode cX5_refuseIfNoSpace 35 = .ok (.getfield 41, 3) := by decide +kernel
theorem dX5_refuseIfNoSpace_38 : decode cX5_refuseIfNoSpace 38 = .ok (.invokevirtual 194, 3) := by decide +kernel
theorem dX5_refuseIfNoSpace_41 : decode cX5_refuseIfNoSpace 41 = .ok (.checkcast 126, 3) := by decide +kernel
theorem dX5_refuseIfNoSpace_44 : decode cX5_refuseIfNoSpace 44 = .ok (.getfield 216, 3) := by decide +kernel
theorem dX5_refuseIfNoSpace_47 : decode cX5_refuseIfNoSpace 47 = .ok (.getfield 160, 3) := by decide +kernel
theorem dX5_refuseIfNoSpace_50 : decode cX5_refuseIfNoSpace 50 = .ok (.ifCond .eq 13, 3) := by decide +kernel
theorem dX5_refuseIfNoSpace_53 : decode cX5_refuseIfNoSpace 53 = .ok (.new 59, 3) := by decide +kernel
theorem dX5_refuseIfNoSpace_56 : decode cX5_refuseIfNoSpace 56 = .ok (.dup, 1) := by decide +kernel
theorem dX5_refuseIfNoSpace_57 : decode cX5_refuseIfNoSpace 57 = .ok (.ldc 219, 2) := by decide +kernel
theorem dX5_refuseIfNoSpace_59 : decode cX5_refuseIfNoSpace 59 = .ok (.invokespecial 63, 3) := by decide +kernel
theorem dX5_refuseIfNoSpace_62 : decode cX5_refuseIfNoSpace 62 = .ok (.athrow, 1) := by decide +kernel
theorem dX5_refuseIfNoSpace_63 : decode cX5_refuseIfNoSpace 63 = .ok (.return_, 1) := by decide +kernel
set_option maxRecDepth 20000 in
theorem ggX5_recordsThere_Jx4a65c_size_8abf5 : GoodIn wsX5_recordsThere wsJx4a65c_size_8abf5 := goodIn_r _ [7, 8, 17, 18, 19] (by decide +kernel) (by decide +kernel)
set_option maxRecDepth 20000 in
theorem gX5_recordsThere_Jx4a65c_size_8abf5 : GoodIn wsX5_recordsThere (wsV RX5 64 RJx4a65c yJx4a65c_size_8abf5 wsJx4a65c_size_8abf5) := goodIn_app (goodIn_of _ (by decide +kernel)) ggX5_recordsThere_Jx4a65c_size_8abf5
theorem dX5_recordsThere_0 : decode cX5_recordsThere 0 = .ok (.aload_n 0, 1) := by decide +kernel
theorem dX5_recordsThere_1 : decode cX5_recordsThere 1 = .ok (.getfield 28, 3) := by decide +kernel
theorem dX5_recordsThere_4 : decode cX5_recordsThere 4 = .ok (.invokevirtual 64, 3) := by decide +kernel
theorem dX5_recordsThere_7 : decode cX5_recordsThere 7 = .ok (.aload_n 0, 1) := by decide +kernel
theorem dX5_recordsThere_8 : decode cX5_recordsThere 8 = .ok (.getfield 41, 3) := by decide +kernel
theorem dX5_recordsThere_11 : decode cX5_recordsThere 11 = .ok (.isub, 1) := by decide +kernel
theorem dX5_recordsThere_12 : decode cX5_recordsThere 12 = .ok (.ireturn, 1) := by decide +kernel
set_option maxRecDepth 20000 in
theorem ggX5_isSpaceFull_Jx4a65c_size_8abf5 : GoodIn wsX5_isSpaceFull wsJx4a65c_size_8abf5 := goodIn_r _ [8, 9, 23, 24, 25] (by decide +kernel) (by decide +kernel)
set_option maxRecDepth 20000 in
theorem gX5_isSpaceFull_Jx4a65c_size_8abf5 : GoodIn wsX5_isSpaceFull (wsV RX5 64 RJx4a65c yJx4a65c_size_8abf5 wsJx4a65c_size_8abf5) := goodIn_app (goodIn_of _ (by decide +kernel)) ggX5_isSpaceFull_Jx4a65c_size_8abf5
set_option maxRecDepth 20000 in
theorem ggX5_isSpaceFull_X5_recordsThere : GoodIn wsX5_isSpaceFull wsX5_recordsThere := goodIn_r _ [14, 2, 1, 4, 5, 6, 7, 8, 9, 15, 16, 17, 18, 19, 20, 21, 22, 23, 24, 25] (by decide +kernel) (by decide +kernel)
set_option maxRecDepth 20000 in
theorem gX5_isSpaceFull_X5_recordsThere : GoodIn wsX5_isSpaceFull (wsV RX5 55 RX5 yX5_recordsThere wsX5_recordsThere) := goodIn_app (goodIn_of _ (by decide +kernel)) ggX5_isSpaceFull_X5_recordsThere
theorem dX5_isSpaceFull_0 : decode cX5_isSpaceFull 0 = .ok (.aload_n 0, 1) := by decide +kernel
theorem dX5_isSpaceFull_1 : decode cX5_isSpaceFull 1 = .ok (.getfield 41, 3) := by decide +kernel
theorem dX5_isSpaceFull_4 : decode cX5_isSpaceFull 4 = .ok (.aload_n 0, 1) := by decide +kernel
theorem dX5_isSpaceFull_5 : decode cX5_isSpaceFull 5 = .ok (.getfield 28, 3) := by decide +kernel
theorem dX5_isSpaceFull_8 : decode cX5_isSpaceFull 8 = .ok (.invokevirtual 64, 3) := by decide +kernel
theorem dX5_isSpaceFull_11 : decode cX5_isSpaceFull 11 = .ok (.if_icmp .ge 18, 3) := by decide +kernel
theorem dX5_isSpaceFull_14 : decode cX5_isSpaceFull 14 = .ok (.aload_n 0, 1) := by decide +kernel
theorem dX5_isSpaceFull_15 : decode cX5_isSpaceFull 15 = .ok (.invokevirtual 55, 3) := by decide +kernel
theorem dX5_isSpaceFull_18 : decode cX5_isSpaceFull 18 = .ok (.aload_n 0, 1) := by decide +kernel
theorem dX5_isSpaceFull_19 : decode cX5_isSpaceFull 19 = .ok (.getfield 31, 3) := by decide +kernel
theorem dX5_isSpaceFull_22 : decode cX5_isSpaceFull 22 = .ok (.if_icmp .lt 7, 3) := by decide +kernel
theorem dX5_isSpaceFull_25 : decode cX5_isSpaceFull 25 = .ok (.iconst 1, 1) := by decide +kernel
theorem dX5_isSpaceFull_26 : decode cX5_isSpaceFull 26 = .ok (.goto 4, 3) := by decide +kernel
theorem dX5_isSpaceFull_29 : decode cX5_isSpaceFull 29 = .ok (.iconst 0, 1) := by decide +kernel
theorem dX5_isSpaceFull_30 : decode cX5_isSpaceFull 30 = .ok (.ireturn, 1) := by decide +kernel
set_option maxRecDepth 20000 in
theorem ggX5_undoDownTo_Jx4a65c_size_8abf5 : GoodIn wsX5_undoDownTo wsJx4a65c_size_8abf5 := goodIn_r _ [7, 8, 51, 52, 53] (by decide +kernel) (by decide +kernel)
set_option maxRecDepth 20000 in
theorem gX5_undoDownTo_Jx4a65c_size_8abf5 : GoodIn wsX5_undoDownTo (wsV RX5 64 RJx4a65c yJx4a65c_size_8abf5 wsJx4a65c_size_8abf5) := goodIn_app (goodIn_of _ (by decide +kernel)) ggX5_undoDownTo_Jx4a65c_size_8abf5
set_option maxRecDepth 20000 in
theorem ggX5_undoDownTo_Jx4a65c_get_915e3 : GoodIn wsX5_undoDownTo wsJx4a65c_get_915e3 := goodIn_r _ [12, 8, 13, 14, 15, 16, 17, 18, 19, 20, 21, 22, 23, 6, 24, 25, 51, 52, 53] (by decide +kernel) (by decide +kernel)
set_option maxRecDepth 20000 in
theorem gX5_undoDownTo_Jx4a65c_get_915e3 : GoodIn wsX5_undoDownTo (wsV RX5 194 RJx4a65c yJx4a65c_get_915e3 wsJx4a65c_get_915e3) := goodIn_app (goodIn_of _ (by decide +kernel)) ggX5_undoDownTo_Jx4a65c_get_915e3
set_option maxRecDepth 20000 in
theorem ggX5_undoDownTo_X1_takeBack : GoodIn wsX5_undoDownTo wsX1_takeBack := goodIn_r _ [29, 30, 31, 32, 33, 47, 48, 49, 50, 54, 55, 42, 43, 44, 45, 46] (by decide +kernel) (by decide +kernel)
set_option maxRecDepth 20000 in
theorem gX5_undoDownTo_X1_takeBack_n224 : GoodIn wsX5_undoDownTo (wsX1_takeBack) := ggX5_undoDownTo_X1_takeBack
theorem dX5_undoDownTo_0 : decode cX5_undoDownTo 0 = .ok (.iconst 0, 1) := by decide +kernel
theorem dX5_undoDownTo_1 : decode cX5_undoDownTo 1 = .ok (.istore_n 3, 1) := by decide +kernel
theorem dX5_undoDownTo_2 : decode cX5_undoDownTo 2 = .ok (.aload_n 0, 1) := by decide +kernel
theorem dX5_undoDownTo_3 : decode cX5_undoDownTo 3 = .ok (.getfield 28, 3) := by decide +kernel
theorem dX5_undoDownTo_6 : decode cX5_undoDownTo 6 = .ok (.invokevirtual 64, 3) := by decide +kernel
theorem dX5_undoDownTo_9 : decode cX5_undoDownTo 9 = .ok (.iconst 1, 1) := by decide +kernel
theorem dX5_undoDownTo_10 : decode cX5_undoDownTo 10 = .ok (.isub, 1) := by decide +kernel
theorem dX5_undoDownTo_11 : decode cX5_undoDownTo 11 = .ok (.istore 4, 2) := by decide +kernel
theorem dX5_undoDownTo_13 : decode cX5_undoDownTo 13 = .ok (.iload 4, 2) := by decide +kernel
theorem dX5_undoDownTo_15 : decode cX5_undoDownTo 15 = .ok (.ifCond .lt 56, 3) := by decide +kernel
theorem dX5_undoDownTo_18 : decode cX5_undoDownTo 18 = .ok (.aload_n 1, 1) := by decide +kernel
theorem dX5_undoDownTo_19 : decode cX5_undoDownTo 19 = .ok (.getfield 151, 3) := by decide +kernel
theorem dX5_undoDownTo_22 : decode cX5_undoDownTo 22 = .ok (.iload_n 2, 1) := by decide +kernel
theorem dX5_undoDownTo_23 : decode cX5_undoDownTo 23 = .ok (.if_icmp .le 48, 3) := by decide +kernel
theorem dX5_undoDownTo_26 : decode cX5_undoDownTo 26 = .ok (.aload_n 0, 1) := by decide +kernel
theorem dX5_undoDownTo_27 : decode cX5_undoDownTo 27 = .ok (.getfield 28, 3) := by decide +kernel
theorem dX5_undoDownTo_30 : decode cX5_undoDownTo 30 = .ok (.iload 4, 2) := by decide +kernel
theorem dX5_undoDownTo_32 : decode cX5_undoDownTo 32 = .ok (.invokevirtual 194, 3) := by decide +kernel
theorem dX5_undoDownTo_35 : decode cX5_undoDownTo 35 = .ok (.checkcast 126, 3) := by decide +kernel
theorem dX5_undoDownTo_38 : decode cX5_undoDownTo 38 = .ok (.astore 5, 2) := by decide +kernel
theorem dX5_undoDownTo_40 : decode cX5_undoDownTo 40 = .ok (.aload 5, 2) := by decide +kernel
theorem dX5_undoDownTo_42 : decode cX5_undoDownTo 42 = .ok (.getfield 216, 3) := by decide +kernel
theorem dX5_undoDownTo_45 : decode cX5_undoDownTo 45 = .ok (.aload_n 1, 1) := by decide +kernel
theorem dX5_undoDownTo_46 : decode cX5_undoDownTo 46 = .ok (.if_acmp .ne 19, 3) := by decide +kernel
theorem dX5_undoDownTo_49 : decode cX5_undoDownTo 49 = .ok (.aload 5, 2) := by decide +kernel
theorem dX5_undoDownTo_51 : decode cX5_undoDownTo 51 = .ok (.getfield 221, 3) := by decide +kernel
theorem dX5_undoDownTo_54 : decode cX5_undoDownTo 54 = .ok (.ifCond .ne 11, 3) := by decide +kernel
theorem dX5_undoDownTo_57 : decode cX5_undoDownTo 57 = .ok (.aload 5, 2) := by decide +kernel
theorem dX5_undoDownTo_59 : decode cX5_undoDownTo 59 = .ok (.invokevirtual 224, 3) := by decide +kernel
theorem dX5_undoDownTo_62 : decode cX5_undoDownTo 62 = .ok (.iinc 3 1, 3) := by decide +kernel
theorem dX5_undoDownTo_65 : decode cX5_undoDownTo 65 = .ok (.iinc 4 (-1), 3) := by decide +kernel
theorem dX5_undoDownTo_68 : decode cX5_undoDownTo 68 = .ok (.goto (-55), 3) := by decide +kernel
theorem dX5_undoDownTo_71 : decode cX5_undoDownTo 71 = .ok (.iload_n 3, 1) := by decide +kernel
theorem dX5_undoDownTo_72 : decode cX5_undoDownTo 72 = .ok (.ireturn, 1) := by decide +kernel
set_option maxRecDepth 20000 in
theorem ggX5_lockerOf_Jx4a65c_size_8abf5 : GoodIn wsX5_lockerOf wsJx4a65c_size_8abf5 := goodIn_r _ [7, 8, 49, 50, 51] (by decide +kernel) (by decide +kernel)
set_option maxRecDepth 20000 in
theorem gX5_lockerOf_Jx4a65c_size_8abf5 : GoodIn wsX5_lockerOf (wsV RX5 64 RJx4a65c yJx4a65c_size_8abf5 wsJx4a65c_size_8abf5) := goodIn_app (goodIn_of _ (by decide +kernel)) ggX5_lockerOf_Jx4a65c_size_8abf5
set_option maxRecDepth 20000 in
theorem ggX5_lockerOf_Jx4a65c_get_915e3 : GoodIn wsX5_lockerOf wsJx4a65c_get_915e3 := goodIn_r _ [12, 8, 13, 14, 15, 16, 17, 18, 19, 20, 21, 22, 23, 6, 24, 25, 49, 50, 51] (by decide +kernel) (by decide +kernel)
set_option maxRecDepth 20000 in
theorem gX5_lockerOf_Jx4a65c_get_915e3 : GoodIn wsX5_lockerOf (wsV RX5 194 RJx4a65c yJx4a65c_get_915e3 wsJx4a65c_get_915e3) := goodIn_app (goodIn_of _ (by decide +kernel)) ggX5_lockerOf_Jx4a65c_get_915e3
set_option maxRecDepth 20000 in
theorem ggX5_lockerOf_X1_stands : GoodIn wsX5_lockerOf wsX1_stands := goodIn_r _ [29, 30, 31, 40, 41, 42, 43] (by decide +kernel) (by decide +kernel)
set_option maxRecDepth 20000 in
theorem gX5_lockerOf_X1_stands_n227 : GoodIn wsX5_lockerOf (wsX1_stands) := ggX5_lockerOf_X1_stands
theorem dX5_lockerOf_0 : decode cX5_lockerOf 0 = .ok (.aload_n 0, 1) := by decide +kernel
theorem dX5_lockerOf_1 : decode cX5_lockerOf 1 = .ok (.getfield 28, 3) := by decide +kernel
theorem dX5_lockerOf_4 : decode cX5_lockerOf 4 = .ok (.invokevirtual 64, 3) := by decide +kernel
theorem dX5_lockerOf_7 : decode cX5_lockerOf 7 = .ok (.iconst 1, 1) := by decide +kernel
theorem dX5_lockerOf_8 : decode cX5_lockerOf 8 = .ok (.isub, 1) := by decide +kernel
theorem dX5_lockerOf_9 : decode cX5_lockerOf 9 = .ok (.istore_n 2, 1) := by decide +kernel
theorem dX5_lockerOf_10 : decode cX5_lockerOf 10 = .ok (.iload_n 2, 1) := by decide +kernel
theorem dX5_lockerOf_11 : decode cX5_lockerOf 11 = .ok (.ifCond .lt 48, 3) := by decide +kernel
theorem dX5_lockerOf_14 : decode cX5_lockerOf 14 = .ok (.aload_n 0, 1) := by decide +kernel
theorem dX5_lockerOf_15 : decode cX5_lockerOf 15 = .ok (.getfield 28, 3) := by decide +kernel
theorem dX5_lockerOf_18 : decode cX5_lockerOf 18 = .ok (.iload_n 2, 1) := by decide +kernel
theorem dX5_lockerOf_19 : decode cX5_lockerOf 19 = .ok (.invokevirtual 194, 3) := by decide +kernel
theorem dX5_lockerOf_22 : decode cX5_lockerOf 22 = .ok (.checkcast 126, 3) := by decide +kernel
theorem dX5_lockerOf_25 : decode cX5_lockerOf 25 = .ok (.astore_n 3, 1) := by decide +kernel
theorem dX5_lockerOf_26 : decode cX5_lockerOf 26 = .ok (.aload_n 3, 1) := by decide +kernel
theorem dX5_lockerOf_27 : decode cX5_lockerOf 27 = .ok (.aload_n 1, 1) := by decide +kernel
theorem dX5_lockerOf_28 : decode cX5_lockerOf 28 = .ok (.invokevirtual 227, 3) := by decide +kernel
theorem dX5_lockerOf_31 : decode cX5_lockerOf 31 = .ok (.ifCond .eq 22, 3) := by decide +kernel
theorem dX5_lockerOf_34 : decode cX5_lockerOf 34 = .ok (.aload_n 3, 1) := by decide +kernel
theorem dX5_lockerOf_35 : decode cX5_lockerOf 35 = .ok (.getfield 216, 3) := by decide +kernel
theorem dX5_lockerOf_38 : decode cX5_lockerOf 38 = .ok (.getfield 160, 3) := by decide +kernel
theorem dX5_lockerOf_41 : decode cX5_lockerOf 41 = .ok (.ifCond .eq 10, 3) := by decide +kernel
theorem dX5_lockerOf_44 : decode cX5_lockerOf 44 = .ok (.aload_n 3, 1) := by decide +kernel
theorem dX5_lockerOf_45 : decode cX5_lockerOf 45 = .ok (.getfield 216, 3) := by decide +kernel
theorem dX5_lockerOf_48 : decode cX5_lockerOf 48 = .ok (.goto 4, 3) := by decide +kernel
theorem dX5_lockerOf_51 : decode cX5_lockerOf 51 = .ok (.aconst_null, 1) := by decide +kernel
theorem dX5_lockerOf_52 : decode cX5_lockerOf 52 = .ok (.areturn, 1) := by decide +kernel
theorem dX5_lockerOf_53 : decode cX5_lockerOf 53 = .ok (.iinc 2 (-1), 3) := by decide +kernel
theorem dX5_lockerOf_56 : decode cX5_lockerOf 56 = .ok (.goto (-46), 3) := by decide +kernel
theorem dX5_lockerOf_59 : decode cX5_lockerOf 59 = .ok (.aconst_null, 1) := by decide +kernel
theorem dX5_lockerOf_60 : decode cX5_lockerOf 60 = .ok (.areturn, 1) := by decide +kernel
set_option maxRecDepth 20000 in
theorem ggX5_readFromRecords_X5_oldestUnseen : GoodIn wsX5_readFromRecords wsX5_oldestUnseen := goodIn_r _ [8, 9, 10, 11, 12, 13, 14, 15, 16, 17, 18, 19, 20, 21, 22, 23, 24, 25, 26, 27, 28, 29, 30, 31, 32, 33, 34, 35, 36, 37, 38, 39, 40, 41, 42, 43, 44, 45, 46, 47, 48, 68, 69, 70, 71, 72, 73, 74, 75, 78, 79, 80, 81, 82, 83, 84, 85, 86, 87, 88, 89] (by decide +kernel) (by decide +kernel)
set_option maxRecDepth 20000 in
theorem gX5_readFromRecords_X5_oldestUnseen : GoodIn wsX5_readFromRecords (wsV RX5 167 RX5 yX5_oldestUnseen wsX5_oldestUnseen) := goodIn_app (goodIn_of _ (by decide +kernel)) ggX5_readFromRecords_X5_oldestUnseen
set_option maxRecDepth 20000 in
theorem ggX5_readFromRecords_X5_clean : GoodIn wsX5_readFromRecords wsX5_clean := goodIn_r _ [52, 53, 54, 55, 56, 57, 58, 59, 60, 61, 62, 63, 68, 69, 70, 71, 72, 73, 74, 75, 90, 91, 92, 85, 86, 87, 88, 89] (by decide +kernel) (by decide +kernel)
set_option maxRecDepth 20000 in
theorem gX5_readFromRecords_X5_clean : GoodIn wsX5_readFromRecords (wsV RX5 114 RX5 yX5_clean wsX5_clean) := goodIn_app (goodIn_of _ (by decide +kernel)) ggX5_readFromRecords_X5_clean
set_option maxRecDepth 20000 in
theorem ggX5_readFromRecords_X5_valueAheadOf : GoodIn wsX5_readFromRecords wsX5_valueAheadOf := goodIn_r _ [67, 9, 10, 11, 12, 13, 14, 15, 16, 17, 18, 19, 20, 21, 22, 23, 24, 25, 26, 27, 28, 29, 30, 31, 32, 33, 68, 69, 70, 71, 72, 73, 74, 75, 76, 77, 81, 82, 83, 84, 78, 79, 80] (by decide +kernel) (by decide +kernel)
set_option maxRecDepth 20000 in
theorem gX5_readFromRecords_X5_valueAheadOf : GoodIn wsX5_readFromRecords (wsV RX5 170 RX5 yX5_valueAheadOf wsX5_valueAheadOf) := goodIn_app (goodIn_of _ (by decide +kernel)) ggX5_readFromRecords_X5_valueAheadOf
theorem dX5_readFromRecords_0 : decode cX5_readFromRecords 0 = .ok (.aload_n 0, 1) := by decide +kernel
theorem dX5_readFromRecords_1 : decode cX5_readFromRecords 1 = .ok (.aload_n 1, 1) := by decide +kernel
theorem dX5_readFromRecords_2 : decode cX5_readFromRecords 2 = .ok (.iload_n 2, 1) := by decide +kernel
theorem dX5_readFromRecords_3 : decode cX5_readFromRecords 3 = .ok (.aload_n 3, 1) := by decide +kernel
theorem dX5_readFromRecords_4 : decode cX5_readFromRecords 4 = .ok (.invokevirtual 167, 3) := by decide +kernel
theorem dX5_readFromRecords_7 : decode cX5_readFromRecords 7 = .ok (.istore 4, 2) := by decide +kernel
theorem dX5_readFromRecords_9 : decode cX5_readFromRecords 9 = .ok (.iload 4, 2) := by decide +kernel
theorem dX5_readFromRecords_11 : decode cX5_readFromRecords 11 = .ok (.aload_n 0, 1) := by decide +kernel
theorem dX5_readFromRecords_12 : decode cX5_readFromRecords 12 = .ok (.getfield 41, 3) := by decide +kernel
theorem dX5_readFromRecords_15 : decode cX5_readFromRecords 15 = .ok (.if_icmp .ge 13, 3) := by decide +kernel
theorem dX5_readFromRecords_18 : decode cX5_readFromRecords 18 = .ok (.new 231, 3) := by decide +kernel
theorem dX5_readFromRecords_21 : decode cX5_readFromRecords 21 = .ok (.dup, 1) := by decide +kernel
theorem dX5_readFromRecords_22 : decode cX5_readFromRecords 22 = .ok (.ldc 233, 2) := by decide +kernel
theorem dX5_readFromRecords_24 : decode cX5_readFromRecords 24 = .ok (.invokespecial 235, 3) := by decide +kernel
theorem dX5_readFromRecords_27 : decode cX5_readFromRecords 27 = .ok (.athrow, 1) := by decide +kernel
theorem dX5_readFromRecords_28 : decode cX5_readFromRecords 28 = .ok (.aload_n 0, 1) := by decide +kernel
theorem dX5_readFromRecords_29 : decode cX5_readFromRecords 29 = .ok (.aload_n 1, 1) := by decide +kernel
theorem dX5_readFromRecords_30 : decode cX5_readFromRecords 30 = .ok (.getfield 104, 3) := by decide +kernel
theorem dX5_readFromRecords_33 : decode cX5_readFromRecords 33 = .ok (.invokevirtual 114, 3) := by decide +kernel
theorem dX5_readFromRecords_36 : decode cX5_readFromRecords 36 = .ok (.aload_n 0, 1) := by decide +kernel
theorem dX5_readFromRecords_37 : decode cX5_readFromRecords 37 = .ok (.iload 4, 2) := by decide +kernel
theorem dX5_readFromRecords_39 : decode cX5_readFromRecords 39 = .ok (.aload_n 1, 1) := by decide +kernel
theorem dX5_readFromRecords_40 : decode cX5_readFromRecords 40 = .ok (.invokevirtual 170, 3) := by decide +kernel
theorem dX5_readFromRecords_43 : decode cX5_readFromRecords 43 = .ok (.ireturn, 1) := by decide +kernel
set_option maxRecDepth 20000 in
theorem ggX5_oldestUnseen_Jx4a65c_size_8abf5 : GoodIn wsX5_oldestUnseen wsJx4a65c_size_8abf5 := goodIn_r _ [7, 8, 49, 50, 51] (by decide +kernel) (by decide +kernel)
set_option maxRecDepth 20000 in
theorem gX5_oldestUnseen_Jx4a65c_size_8abf5 : GoodIn wsX5_oldestUnseen (wsV RX5 64 RJx4a65c yJx4a65c_size_8abf5 wsJx4a65c_size_8abf5) := goodIn_app (goodIn_of _ (by decide +kernel)) ggX5_oldestUnseen_Jx4a65c_size_8abf5
set_option maxRecDepth 20000 in
theorem ggX5_oldestUnseen_Jx4a65c_get_915e3 : GoodIn wsX5_oldestUnseen wsJx4a65c_get_915e3 := goodIn_r _ [12, 8, 13, 14, 15, 16, 17, 18, 19, 20, 21, 22, 23, 6, 24, 25, 49, 50, 51] (by decide +kernel) (by decide +kernel)
set_option maxRecDepth 20000 in
theorem gX5_oldestUnseen_Jx4a65c_get_915e3 : GoodIn wsX5_oldestUnseen (wsV RX5 194 RJx4a65c yJx4a65c_get_915e3 wsJx4a65c_get_915e3) := goodIn_app (goodIn_of _ (by decide +kernel)) ggX5_oldestUnseen_Jx4a65c_get_915e3
set_option maxRecDepth 20000 in
theorem ggX5_oldestUnseen_X1_stands : GoodIn wsX5_oldestUnseen wsX1_stands := goodIn_r _ [29, 30, 31, 52, 53, 54, 55] (by decide +kernel) (by decide +kernel)
set_option maxRecDepth 20000 in
theorem gX5_oldestUnseen_X1_stands_n227 : GoodIn wsX5_oldestUnseen (wsX1_stands) := ggX5_oldestUnseen_X1_stands
set_option maxRecDepth 20000 in
theorem ggX5_oldestUnseen_X1_isSeen : GoodIn wsX5_oldestUnseen wsX1_isSeen := goodIn_r _ [34, 35, 36, 37, 38, 39, 40, 52, 53, 54, 55, 56, 57, 58, 59, 60] (by decide +kernel) (by decide +kernel)
set_option maxRecDepth 20000 in
theorem gX5_oldestUnseen_X1_isSeen_n236 : GoodIn wsX5_oldestUnseen (wsX1_isSeen) := ggX5_oldestUnseen_X1_isSeen
theorem dX5_oldestUnseen_0 : decode cX5_oldestUnseen 0 = .ok (.aload_n 0, 1) := by decide +kernel
theorem dX5_oldestUnseen_1 : decode cX5_oldestUnseen 1 = .ok (.getfield 28, 3) := by decide +kernel
theorem dX5_oldestUnseen_4 : decode cX5_oldestUnseen 4 = .ok (.invokevirtual 64, 3) := by decide +kernel
theorem dX5_oldestUnseen_7 : decode cX5_oldestUnseen 7 = .ok (.istore 4, 2) := by decide +kernel
theorem dX5_oldestUnseen_9 : decode cX5_oldestUnseen 9 = .ok (.aload_n 0, 1) := by decide +kernel
theorem dX5_oldestUnseen_10 : decode cX5_oldestUnseen 10 = .ok (.getfield 28, 3) := by decide +kernel
theorem dX5_oldestUnseen_13 : decode cX5_oldestUnseen 13 = .ok (.invokevirtual 64, 3) := by decide +kernel
theorem dX5_oldestUnseen_16 : decode cX5_oldestUnseen 16 = .ok (.iconst 1, 1) := by decide +kernel
theorem dX5_oldestUnseen_17 : decode cX5_oldestUnseen 17 = .ok (.isub, 1) := by decide +kernel
theorem dX5_oldestUnseen_18 : decode cX5_oldestUnseen 18 = .ok (.istore 5, 2) := by decide +kernel
theorem dX5_oldestUnseen_20 : decode cX5_oldestUnseen 20 = .ok (.iload 5, 2) := by decide +kernel
theorem dX5_oldestUnseen_22 : decode cX5_oldestUnseen 22 = .ok (.ifCond .lt 49, 3) := by decide +kernel
theorem dX5_oldestUnseen_25 : decode cX5_oldestUnseen 25 = .ok (.aload_n 0, 1) := by decide +kernel
theorem dX5_oldestUnseen_26 : decode cX5_oldestUnseen 26 = .ok (.getfield 28, 3) := by decide +kernel
theorem dX5_oldestUnseen_29 : decode cX5_oldestUnseen 29 = .ok (.iload 5, 2) := by decide +kernel
theorem dX5_oldestUnseen_31 : decode cX5_oldestUnseen 31 = .ok (.invokevirtual 194, 3) := by decide +kernel
theorem dX5_oldestUnseen_34 : decode cX5_oldestUnseen 34 = .ok (.checkcast 126, 3) := by decide +kernel
theorem dX5_oldestUnseen_37 : decode cX5_oldestUnseen 37 = .ok (.astore 6, 2) := by decide +kernel
theorem dX5_oldestUnseen_39 : decode cX5_oldestUnseen 39 = .ok (.aload 6, 2) := by decide +kernel
theorem dX5_oldestUnseen_41 : decode cX5_oldestUnseen 41 = .ok (.aload_n 1, 1) := by decide +kernel
theorem dX5_oldestUnseen_42 : decode cX5_oldestUnseen 42 = .ok (.invokevirtual 227, 3) := by decide +kernel
theorem dX5_oldestUnseen_45 : decode cX5_oldestUnseen 45 = .ok (.ifCond .eq 20, 3) := by decide +kernel
theorem dX5_oldestUnseen_48 : decode cX5_oldestUnseen 48 = .ok (.aload 6, 2) := by decide +kernel
theorem dX5_oldestUnseen_50 : decode cX5_oldestUnseen 50 = .ok (.iload_n 2, 1) := by decide +kernel
theorem dX5_oldestUnseen_51 : decode cX5_oldestUnseen 51 = .ok (.aload_n 3, 1) := by decide +kernel
theorem dX5_oldestUnseen_52 : decode cX5_oldestUnseen 52 = .ok (.invokevirtual 236, 3) := by decide +kernel
theorem dX5_oldestUnseen_55 : decode cX5_oldestUnseen 55 = .ok (.ifCond .eq 6, 3) := by decide +kernel
theorem dX5_oldestUnseen_58 : decode cX5_oldestUnseen 58 = .ok (.iload 4, 2) := by decide +kernel
theorem dX5_oldestUnseen_60 : decode cX5_oldestUnseen 60 = .ok (.ireturn, 1) := by decide +kernel
theorem dX5_oldestUnseen_61 : decode cX5_oldestUnseen 61 = .ok (.iload 5, 2) := by decide +kernel
theorem dX5_oldestUnseen_63 : decode cX5_oldestUnseen 63 = .ok (.istore 4, 2) := by decide +kernel
theorem dX5_oldestUnseen_65 : decode cX5_oldestUnseen 65 = .ok (.iinc 5 (-1), 3) := by decide +kernel
theorem dX5_oldestUnseen_68 : decode cX5_oldestUnseen 68 = .ok (.goto (-48), 3) := by decide +kernel
theorem dX5_oldestUnseen_71 : decode cX5_oldestUnseen 71 = .ok (.iload 4, 2) := by decide +kernel
theorem dX5_oldestUnseen_73 : decode cX5_oldestUnseen 73 = .ok (.ireturn, 1) := by decide +kernel
set_option maxRecDepth 20000 in
theorem ggX5_valueAheadOf_Jx4a65c_size_8abf5 : GoodIn wsX5_valueAheadOf wsJx4a65c_size_8abf5 := goodIn_r _ [7, 8, 40, 41, 42] (by decide +kernel) (by decide +kernel)
set_option maxRecDepth 20000 in
theorem gX5_valueAheadOf_Jx4a65c_size_8abf5 : GoodIn wsX5_valueAheadOf (wsV RX5 64 RJx4a65c yJx4a65c_size_8abf5 wsJx4a65c_size_8abf5) := goodIn_app (goodIn_of _ (by decide +kernel)) ggX5_valueAheadOf_Jx4a65c_size_8abf5
set_option maxRecDepth 20000 in
theorem ggX5_valueAheadOf_Jx4a65c_get_915e3 : GoodIn wsX5_valueAheadOf wsJx4a65c_get_915e3 := goodIn_r _ [12, 8, 13, 14, 15, 16, 17, 18, 19, 20, 21, 22, 23, 6, 24, 25, 40, 41, 42] (by decide +kernel) (by decide +kernel)
set_option maxRecDepth 20000 in
theorem gX5_valueAheadOf_Jx4a65c_get_915e3 : GoodIn wsX5_valueAheadOf (wsV RX5 194 RJx4a65c yJx4a65c_get_915e3 wsJx4a65c_get_915e3) := goodIn_app (goodIn_of _ (by decide +kernel)) ggX5_valueAheadOf_Jx4a65c_get_915e3
theorem dX5_valueAheadOf_0 : decode cX5_valueAheadOf 0 = .ok (.iload_n 1, 1) := by decide +kernel
theorem dX5_valueAheadOf_1 : decode cX5_valueAheadOf 1 = .ok (.ifCond .lt 14, 3) := by decide +kernel
theorem dX5_valueAheadOf_4 : decode cX5_valueAheadOf 4 = .ok (.iload_n 1, 1) := by decide +kernel
theorem dX5_valueAheadOf_5 : decode cX5_valueAheadOf 5 = .ok (.aload_n 0, 1) := by decide +kernel
theorem dX5_valueAheadOf_6 : decode cX5_valueAheadOf 6 = .ok (.getfield 28, 3) := by decide +kernel
theorem dX5_valueAheadOf_9 : decode cX5_valueAheadOf 9 = .ok (.invokevirtual 64, 3) := by decide +kernel
theorem dX5_valueAheadOf_12 : decode cX5_valueAheadOf 12 = .ok (.if_icmp .lt 8, 3) := by decide +kernel
theorem dX5_valueAheadOf_15 : decode cX5_valueAheadOf 15 = .ok (.aload_n 2, 1) := by decide +kernel
theorem dX5_valueAheadOf_16 : decode cX5_valueAheadOf 16 = .ok (.getfield 128, 3) := by decide +kernel
theorem dX5_valueAheadOf_19 : decode cX5_valueAheadOf 19 = .ok (.ireturn, 1) := by decide +kernel
theorem dX5_valueAheadOf_20 : decode cX5_valueAheadOf 20 = .ok (.aload_n 0, 1) := by decide +kernel
theorem dX5_valueAheadOf_21 : decode cX5_valueAheadOf 21 = .ok (.getfield 28, 3) := by decide +kernel
theorem dX5_valueAheadOf_24 : decode cX5_valueAheadOf 24 = .ok (.iload_n 1, 1) := by decide +kernel
theorem dX5_valueAheadOf_25 : decode cX5_valueAheadOf 25 = .ok (.invokevirtual 194, 3) := by decide +kernel
theorem dX5_valueAheadOf_28 : decode cX5_valueAheadOf 28 = .ok (.checkcast 126, 3) := by decide +kernel
theorem dX5_valueAheadOf_31 : decode cX5_valueAheadOf 31 = .ok (.getfield 138, 3) := by decide +kernel
theorem dX5_valueAheadOf_34 : decode cX5_valueAheadOf 34 = .ok (.ireturn, 1) := by decide +kernel
set_option maxRecDepth 20000 in
theorem ggX5_clean_X0_markEnded : GoodIn wsX5_clean wsX0_markEnded := goodIn_r _ [5, 6, 7, 8, 9, 10, 11, 20, 21, 22, 23, 24, 25, 26, 27] (by decide +kernel) (by decide +kernel)
set_option maxRecDepth 20000 in
theorem gX5_clean_X0_markEnded_n240 : GoodIn wsX5_clean (wsX0_markEnded) := ggX5_clean_X0_markEnded
theorem dX5_clean_0 : decode cX5_clean 0 = .ok (.aload_n 0, 1) := by decide +kernel
theorem dX5_clean_1 : decode cX5_clean 1 = .ok (.dup, 1) := by decide +kernel
theorem dX5_clean_2 : decode cX5_clean 2 = .ok (.getfield 38, 3) := by decide +kernel
theorem dX5_clean_5 : decode cX5_clean 5 = .ok (.aload_n 1, 1) := by decide +kernel
theorem dX5_clean_6 : decode cX5_clean 6 = .ok (.invokevirtual 240, 3) := by decide +kernel
theorem dX5_clean_9 : decode cX5_clean 9 = .ok (.iadd, 1) := by decide +kernel
theorem dX5_clean_10 : decode cX5_clean 10 = .ok (.putfield 38, 3) := by decide +kernel
theorem dX5_clean_13 : decode cX5_clean 13 = .ok (.return_, 1) := by decide +kernel
theorem dX6_init_0 : decode cX6_init 0 = .ok (.aload_n 0, 1) := by decide +kernel
theorem dX6_init_1 : decode cX6_init 1 = .ok (.invokespecial 1, 3) := by decide +kernel
theorem dX6_init_4 : decode cX6_init 4 = .ok (.aload_n 0, 1) := by decide +kernel
theorem dX6_init_5 : decode cX6_init 5 = .ok (.bipush 12, 2) := by decide +kernel
theorem dX6_init_7 : decode cX6_init 7 = .ok (.newarray .int, 2) := by decide +kernel
theorem dX6_init_9 : decode cX6_init 9 = .ok (.putfield 7, 3) := by decide +kernel
theorem dX6_init_12 : decode cX6_init 12 = .ok (.aload_n 0, 1) := by decide +kernel
theorem dX6_init_13 : decode cX6_init 13 = .ok (.bipush 12, 2) := by decide +kernel
theorem dX6_init_15 : decode cX6_init 15 = .ok (.putfield 13, 3) := by decide +kernel
theorem dX6_init_18 : decode cX6_init 18 = .ok (.aload_n 0, 1) := by decide +kernel
theorem dX6_init_19 : decode cX6_init 19 = .ok (.bipush 60, 2) := by decide +kernel
theorem dX6_init_21 : decode cX6_init 21 = .ok (.newarray .int, 2) := by decide +kernel
theorem dX6_init_23 : decode cX6_init 23 = .ok (.putfield 17, 3) := by decide +kernel
theorem dX6_init_26 : decode cX6_init 26 = .ok (.aload_n 0, 1) := by decide +kernel
theorem dX6_init_27 : decode cX6_init 27 = .ok (.bipush 60, 2) := by decide +kernel
theorem dX6_init_29 : decode cX6_init 29 = .ok (.newarray .int, 2) := by decide +kernel
theorem dX6_init_31 : decode cX6_init 31 = .ok (.putfield 20, 3) := by decide +kernel
theorem dX6_init_34 : decode cX6_init 34 = .ok (.aload_n 0, 1) := by decide +kernel
theorem dX6_init_35 : decode cX6_init 35 = .ok (.bipush 60, 2) := by decide +kernel
theorem dX6_init_37 : decode cX6_init 37 = .ok (.newarray .int, 2) := by decide +kernel
theorem dX6_init_39 : decode cX6_init 39 = .ok (.putfield 23, 3) := by decide +kernel
theorem dX6_init_42 : decode cX6_init 42 = .ok (.aload_n 0, 1) := by decide +kernel
theorem dX6_init_43 : decode cX6_init 43 = .ok (.sipush 2000, 3) := by decide +kernel
theorem dX6_init_46 : decode cX6_init 46 = .ok (.newarray .int, 2) := by decide +kernel
theorem dX6_init_48 : decode cX6_init 48 = .ok (.putfield 26, 3) := by decide +kernel
theorem dX6_init_51 : decode cX6_init 51 = .ok (.aload_n 0, 1) := by decide +kernel
theorem dX6_init_52 : decode cX6_init 52 = .ok (.sipush 2000, 3) := by decide +kernel
theorem dX6_init_55 : decode cX6_init 55 = .ok (.newarray .int, 2) := by decide +kernel
theorem dX6_init_57 : decode cX6_init 57 = .ok (.putfield 29, 3) := by decide +kernel
theorem dX6_init_60 : decode cX6_init 60 = .ok (.aload_n 0, 1) := by decide +kernel
theorem dX6_init_61 : decode cX6_init 61 = .ok (.sipush 2000, 3) := by decide +kernel
theorem dX6_init_64 : decode cX6_init 64 = .ok (.newarray .int, 2) := by decide +kernel
theorem dX6_init_66 : decode cX6_init 66 = .ok (.putfield 32, 3) := by decide +kernel
theorem dX6_init_69 : decode cX6_init 69 = .ok (.aload_n 0, 1) := by decide +kernel
theorem dX6_init_70 : decode cX6_init 70 = .ok (.sipush 2000, 3) := by decide +kernel
theorem dX6_init_73 : decode cX6_init 73 = .ok (.newarray .boolean, 2) := by decide +kernel
theorem dX6_init_75 : decode cX6_init 75 = .ok (.putfield 35, 3) := by decide +kernel
theorem dX6_init_78 : decode cX6_init 78 = .ok (.aload_n 0, 1) := by decide +kernel
theorem dX6_init_79 : decode cX6_init 79 = .ok (.bipush 6, 2) := by decide +kernel
theorem dX6_init_81 : decode cX6_init 81 = .ok (.newarray .int, 2) := by decide +kernel
theorem dX6_init_83 : decode cX6_init 83 = .ok (.putfield 39, 3) := by decide +kernel
theorem dX6_init_86 : decode cX6_init 86 = .ok (.aload_n 0, 1) := by decide +kernel
theorem dX6_init_87 : decode cX6_init 87 = .ok (.bipush 6, 2) := by decide +kernel
theorem dX6_init_89 : decode cX6_init 89 = .ok (.newarray .boolean, 2) := by decide +kernel
theorem dX6_init_91 : decode cX6_init 91 = .ok (.putfield 42, 3) := by decide +kernel
theorem dX6_init_94 : decode cX6_init 94 = .ok (.iconst 0, 1) := by decide +kernel
theorem dX6_init_95 : decode cX6_init 95 = .ok (.istore_n 1, 1) := by decide +kernel
theorem dX6_init_96 : decode cX6_init 96 = .ok (.iload_n 1, 1) := by decide +kernel
theorem dX6_init_97 : decode cX6_init 97 = .ok (.bipush 6, 2) := by decide +kernel
theorem dX6_init_99 : decode cX6_init 99 = .ok (.if_icmp .ge 16, 3) := by decide +kernel
theorem dX6_init_102 : decode cX6_init 102 = .ok (.aload_n 0, 1) := by decide +kernel
theorem dX6_init_103 : decode cX6_init 103 = .ok (.getfield 39, 3) := by decide +kernel
theorem dX6_init_106 : decode cX6_init 106 = .ok (.iload_n 1, 1) := by decide +kernel
theorem dX6_init_107 : decode cX6_init 107 = .ok (.iconst (-1), 1) := by decide +kernel
theorem dX6_init_108 : decode cX6_init 108 = .ok (.iastore, 1) := by decide +kernel
theorem dX6_init_109 : decode cX6_init 109 = .ok (.iinc 1 1, 3) := by decide +kernel
theorem dX6_init_112 : decode cX6_init 112 = .ok (.goto (-16), 3) := by decide +kernel
theorem dX6_init_115 : decode cX6_init 115 = .ok (.return_, 1) := by decide +kernel
theorem dX6_thrown_0 : decode cX6_thrown 0 = .ok (.aload_n 0, 1) := by decide +kernel
theorem dX6_thrown_1 : decode cX6_thrown 1 = .ok (.getfield 45, 3) := by decide +kernel
theorem dX6_thrown_4 : decode cX6_thrown 4 = .ok (.ireturn, 1) := by decide +kernel
theorem dX6_can_0 : decode cX6_can 0 = .ok (.aload_n 0, 1) := by decide +kernel
theorem dX6_can_1 : decode cX6_can 1 = .ok (.iload_n 1, 1) := by decide +kernel
theorem dX6_can_2 : decode cX6_can 2 = .ok (.putfield 45, 3) := by decide +kernel
theorem dX6_can_5 : decode cX6_can 5 = .ok (.iload_n 1, 1) := by decide +kernel
theorem dX6_can_6 : decode cX6_can 6 = .ok (.ifCond .ne 7, 3) := by decide +kernel
theorem dX6_can_9 : decode cX6_can 9 = .ok (.iconst 1, 1) := by decide +kernel
theorem dX6_can_10 : decode cX6_can 10 = .ok (.goto 4, 3) := by decide +kernel
theorem dX6_can_13 : decode cX6_can 13 = .ok (.iconst 0, 1) := by decide +kernel
theorem dX6_can_14 : decode cX6_can 14 = .ok (.ireturn, 1) := by decide +kernel
theorem dX6_isIn_0 : decode cX6_isIn 0 = .ok (.iload_n 0, 1) := by decide +kernel
theorem dX6_isIn_1 : decode cX6_isIn 1 = .ok (.iload_n 1, 1) := by decide +kernel
theorem dX6_isIn_2 : decode cX6_isIn 2 = .ok (.if_icmp .lt 12, 3) := by decide +kernel
theorem dX6_isIn_5 : decode cX6_isIn 5 = .ok (.iload_n 0, 1) := by decide +kernel
theorem dX6_isIn_6 : decode cX6_isIn 6 = .ok (.iload_n 2, 1) := by decide +kernel
theorem dX6_isIn_7 : decode cX6_isIn 7 = .ok (.if_icmp .gt 7, 3) := by decide +kernel
theorem dX6_isIn_10 : decode cX6_isIn 10 = .ok (.iconst 1, 1) := by decide +kernel
theorem dX6_isIn_11 : decode cX6_isIn 11 = .ok (.goto 4, 3) := by decide +kernel
theorem dX6_isIn_14 : decode cX6_isIn 14 = .ok (.iconst 0, 1) := by decide +kernel
theorem dX6_isIn_15 : decode cX6_isIn 15 = .ok (.ireturn, 1) := by decide +kernel
set_option maxRecDepth 20000 in
theorem ggX6_isRow_X6_isIn : GoodIn wsX6_isRow wsX6_isIn := goodIn_r _ [4] (by decide +kernel) (by decide +kernel)
set_option maxRecDepth 20000 in
theorem gX6_isRow_X6_isIn : GoodIn wsX6_isRow (va_wsS RX6 48 yX6_isIn wsX6_isIn) := goodIn_app (goodIn_of _ (by decide +kernel)) ggX6_isRow_X6_isIn
theorem dX6_isRow_0 : decode cX6_isRow 0 = .ok (.iload_n 0, 1) := by decide +kernel
theorem dX6_isRow_1 : decode cX6_isRow 1 = .ok (.iconst 0, 1) := by decide +kernel
theorem dX6_isRow_2 : decode cX6_isRow 2 = .ok (.bipush 11, 2) := by decide +kernel
theorem dX6_isRow_4 : decode cX6_isRow 4 = .ok (.invokestatic 48, 3) := by decide +kernel
theorem dX6_isRow_7 : decode cX6_isRow 7 = .ok (.ireturn, 1) := by decide +kernel
set_option maxRecDepth 20000 in
theorem ggX6_isTransaction_X6_isIn : GoodIn wsX6_isTransaction wsX6_isIn := goodIn_r _ [5] (by decide +kernel) (by decide +kernel)
set_option maxRecDepth 20000 in
theorem gX6_isTransaction_X6_isIn : GoodIn wsX6_isTransaction (va_wsS RX6 48 yX6_isIn wsX6_isIn) := goodIn_app (goodIn_of _ (by decide +kernel)) ggX6_isTransaction_X6_isIn
theorem dX6_isTransaction_0 : decode cX6_isTransaction 0 = .ok (.iload_n 1, 1) := by decide +kernel
theorem dX6_isTransaction_1 : decode cX6_isTransaction 1 = .ok (.iconst 0, 1) := by decide +kernel
theorem dX6_isTransaction_2 : decode cX6_isTransaction 2 = .ok (.aload_n 0, 1) := by decide +kernel
theorem dX6_isTransaction_3 : decode cX6_isTransaction 3 = .ok (.getfield 52, 3) := by decide +kernel
theorem dX6_isTransaction_6 : decode cX6_isTransaction 6 = .ok (.iconst 1, 1) := by decide +kernel
theorem dX6_isTransaction_7 : decode cX6_isTransaction 7 = .ok (.isub, 1) := by decide +kernel
theorem dX6_isTransaction_8 : decode cX6_isTransaction 8 = .ok (.invokestatic 48, 3) := by decide +kernel
theorem dX6_isTransaction_11 : decode cX6_isTransaction 11 = .ok (.ireturn, 1) := by decide +kernel
theorem dX6_isActive_0 : decode cX6_isActive 0 = .ok (.aload_n 0, 1) := by decide +kernel
theorem dX6_isActive_1 : decode cX6_isActive 1 = .ok (.getfield 17, 3) := by decide +kernel
theorem dX6_isActive_4 : decode cX6_isActive 4 = .ok (.iload_n 1, 1) := by decide +kernel
theorem dX6_isActive_5 : decode cX6_isActive 5 = .ok (.iaload, 1) := by decide +kernel
theorem dX6_isActive_6 : decode cX6_isActive 6 = .ok (.ifCond .ne 7, 3) := by decide +kernel
theorem dX6_isActive_9 : decode cX6_isActive 9 = .ok (.iconst 1, 1) := by decide +kernel
theorem dX6_isActive_10 : decode cX6_isActive 10 = .ok (.goto 4, 3) := by decide +kernel
theorem dX6_isActive_13 : decode cX6_isActive 13 = .ok (.iconst 0, 1) := by decide +kernel
theorem dX6_isActive_14 : decode cX6_isActive 14 = .ok (.ireturn, 1) := by decide +kernel
set_option maxRecDepth 20000 in
theorem ggX6_setSpace_X6_isIn : GoodIn wsX6_setSpace wsX6_isIn := goodIn_r _ [7] (by decide +kernel) (by decide +kernel)
set_option maxRecDepth 20000 in
theorem gX6_setSpace_X6_isIn : GoodIn wsX6_setSpace (va_wsS RX6 48 yX6_isIn wsX6_isIn) := goodIn_app (goodIn_of _ (by decide +kernel)) ggX6_setSpace_X6_isIn
set_option maxRecDepth 20000 in
theorem ggX6_setSpace_X6_can : GoodIn wsX6_setSpace wsX6_can := goodIn_r _ [11, 12, 13, 14, 15, 16, 17, 18, 19, 20, 21, 22, 23, 24, 25, 26, 27, 28, 29, 30] (by decide +kernel) (by decide +kernel)
set_option maxRecDepth 20000 in
theorem gX6_setSpace_X6_can : GoodIn wsX6_setSpace (wsV RX6 61 RX6 yX6_can wsX6_can) := goodIn_app (goodIn_of _ (by decide +kernel)) ggX6_setSpace_X6_can
theorem dX6_setSpace_0 : decode cX6_setSpace 0 = .ok (.aload_n 0, 1) := by decide +kernel
theorem dX6_setSpace_1 : decode cX6_setSpace 1 = .ok (.iload_n 1, 1) := by decide +kernel
theorem dX6_setSpace_2 : decode cX6_setSpace 2 = .ok (.iconst 1, 1) := by decide +kernel
theorem dX6_setSpace_3 : decode cX6_setSpace 3 = .ok (.bipush 30, 2) := by decide +kernel
theorem dX6_setSpace_5 : decode cX6_setSpace 5 = .ok (.invokestatic 48, 3) := by decide +kernel
theorem dX6_setSpace_8 : decode cX6_setSpace 8 = .ok (.ifCond .ne 7, 3) := by decide +kernel
theorem dX6_setSpace_11 : decode cX6_setSpace 11 = .ok (.iconst 1, 1) := by decide +kernel
theorem dX6_setSpace_12 : decode cX6_setSpace 12 = .ok (.goto 21, 3) := by decide +kernel
theorem dX6_setSpace_15 : decode cX6_setSpace 15 = .ok (.aload_n 0, 1) := by decide +kernel
theorem dX6_setSpace_16 : decode cX6_setSpace 16 = .ok (.getfield 55, 3) := by decide +kernel
theorem dX6_setSpace_19 : decode cX6_setSpace 19 = .ok (.aload_n 0, 1) := by decide +kernel
theorem dX6_setSpace_20 : decode cX6_setSpace 20 = .ok (.getfield 58, 3) := by decide +kernel
theorem dX6_setSpace_23 : decode cX6_setSpace 23 = .ok (.isub, 1) := by decide +kernel
theorem dX6_setSpace_24 : decode cX6_setSpace 24 = .ok (.iload_n 1, 1) := by decide +kernel
theorem dX6_setSpace_25 : decode cX6_setSpace 25 = .ok (.if_icmp .le 7, 3) := by decide +kernel
theorem dX6_setSpace_28 : decode cX6_setSpace 28 = .ok (.iconst 2, 1) := by decide +kernel
theorem dX6_setSpace_29 : decode cX6_setSpace 29 = .ok (.goto 4, 3) := by decide +kernel
theorem dX6_setSpace_32 : decode cX6_setSpace 32 = .ok (.iconst 0, 1) := by decide +kernel
theorem dX6_setSpace_33 : decode cX6_setSpace 33 = .ok (.invokevirtual 61, 3) := by decide +kernel
theorem dX6_setSpace_36 : decode cX6_setSpace 36 = .ok (.ifCond .ne 5, 3) := by decide +kernel
theorem dX6_setSpace_39 : decode cX6_setSpace 39 = .ok (.iconst 0, 1) := by decide +kernel
theorem dX6_setSpace_40 : decode cX6_setSpace 40 = .ok (.ireturn, 1) := by decide +kernel
theorem dX6_setSpace_41 : decode cX6_setSpace 41 = .ok (.aload_n 0, 1) := by decide +kernel
theorem dX6_setSpace_42 : decode cX6_setSpace 42 = .ok (.getfield 13, 3) := by decide +kernel
theorem dX6_setSpace_45 : decode cX6_setSpace 45 = .ok (.istore_n 2, 1) := by decide +kernel
theorem dX6_setSpace_46 : decode cX6_setSpace 46 = .ok (.aload_n 0, 1) := by decide +kernel
theorem dX6_setSpace_47 : decode cX6_setSpace 47 = .ok (.iload_n 1, 1) := by decide +kernel
theorem dX6_setSpace_48 : decode cX6_setSpace 48 = .ok (.putfield 13, 3) := by decide +kernel
theorem dX6_setSpace_51 : decode cX6_setSpace 51 = .ok (.iload_n 2, 1) := by decide +kernel
theorem dX6_setSpace_52 : decode cX6_setSpace 52 = .ok (.ireturn, 1) := by decide +kernel
set_option maxRecDepth 20000 in
theorem ggX6_begin_X6_can : GoodIn wsX6_begin wsX6_can := goodIn_r _ [8, 9, 10, 11, 12, 13, 14, 15, 16, 17, 18, 19, 20, 21, 22, 23, 24, 25, 26, 27] (by decide +kernel) (by decide +kernel)
set_option maxRecDepth 20000 in
theorem gX6_begin_X6_can : GoodIn wsX6_begin (wsV RX6 61 RX6 yX6_can wsX6_can) := goodIn_app (goodIn_of _ (by decide +kernel)) ggX6_begin_X6_can
theorem dX6_begin_0 : decode cX6_begin 0 = .ok (.aload_n 0, 1) := by decide +kernel
theorem dX6_begin_1 : decode cX6_begin 1 = .ok (.aload_n 0, 1) := by decide +kernel
theorem dX6_begin_2 : decode cX6_begin 2 = .ok (.getfield 52, 3) := by decide +kernel
theorem dX6_begin_5 : decode cX6_begin 5 = .ok (.bipush 60, 2) := by decide +kernel
theorem dX6_begin_7 : decode cX6_begin 7 = .ok (.if_icmp .ne 7, 3) := by decide +kernel
theorem dX6_begin_10 : decode cX6_begin 10 = .ok (.iconst 1, 1) := by decide +kernel
theorem dX6_begin_11 : decode cX6_begin 11 = .ok (.goto 4, 3) := by decide +kernel
theorem dX6_begin_14 : decode cX6_begin 14 = .ok (.iconst 0, 1) := by decide +kernel
theorem dX6_begin_15 : decode cX6_begin 15 = .ok (.invokevirtual 61, 3) := by decide +kernel
theorem dX6_begin_18 : decode cX6_begin 18 = .ok (.ifCond .ne 5, 3) := by decide +kernel
theorem dX6_begin_21 : decode cX6_begin 21 = .ok (.iconst 0, 1) := by decide +kernel
theorem dX6_begin_22 : decode cX6_begin 22 = .ok (.ireturn, 1) := by decide +kernel
theorem dX6_begin_23 : decode cX6_begin 23 = .ok (.aload_n 0, 1) := by decide +kernel
theorem dX6_begin_24 : decode cX6_begin 24 = .ok (.getfield 20, 3) := by decide +kernel
theorem dX6_begin_27 : decode cX6_begin 27 = .ok (.aload_n 0, 1) := by decide +kernel
theorem dX6_begin_28 : decode cX6_begin 28 = .ok (.getfield 52, 3) := by decide +kernel
theorem dX6_begin_31 : decode cX6_begin 31 = .ok (.aload_n 0, 1) := by decide +kernel
theorem dX6_begin_32 : decode cX6_begin 32 = .ok (.getfield 65, 3) := by decide +kernel
theorem dX6_begin_35 : decode cX6_begin 35 = .ok (.iastore, 1) := by decide +kernel
theorem dX6_begin_36 : decode cX6_begin 36 = .ok (.aload_n 0, 1) := by decide +kernel
theorem dX6_begin_37 : decode cX6_begin 37 = .ok (.dup, 1) := by decide +kernel
theorem dX6_begin_38 : decode cX6_begin 38 = .ok (.getfield 52, 3) := by decide +kernel
theorem dX6_begin_41 : decode cX6_begin 41 = .ok (.iconst 1, 1) := by decide +kernel
theorem dX6_begin_42 : decode cX6_begin 42 = .ok (.iadd, 1) := by decide +kernel
theorem dX6_begin_43 : decode cX6_begin 43 = .ok (.putfield 52, 3) := by decide +kernel
theorem dX6_begin_46 : decode cX6_begin 46 = .ok (.aload_n 0, 1) := by decide +kernel
theorem dX6_begin_47 : decode cX6_begin 47 = .ok (.getfield 52, 3) := by decide +kernel
theorem dX6_begin_50 : decode cX6_begin 50 = .ok (.iconst 1, 1) := by decide +kernel
theorem dX6_begin_51 : decode cX6_begin 51 = .ok (.isub, 1) := by decide +kernel
theorem dX6_begin_52 : decode cX6_begin 52 = .ok (.ireturn, 1) := by decide +kernel
set_option maxRecDepth 20000 in
theorem ggX6_lockOn_X6_isActive : GoodIn wsX6_lockOn wsX6_isActive := goodIn_r _ [9, 10, 11, 12, 13, 14, 15, 16, 17, 18, 19, 20, 21, 22, 23, 24, 25, 26, 27, 28] (by decide +kernel) (by decide +kernel)
set_option maxRecDepth 20000 in
theorem gX6_lockOn_X6_isActive : GoodIn wsX6_lockOn (wsV RX6 68 RX6 yX6_isActive wsX6_isActive) := goodIn_app (goodIn_of _ (by decide +kernel)) ggX6_lockOn_X6_isActive
theorem dX6_lockOn_0 : decode cX6_lockOn 0 = .ok (.iconst (-1), 1) := by decide +kernel
theorem dX6_lockOn_1 : decode cX6_lockOn 1 = .ok (.istore_n 2, 1) := by decide +kernel
theorem dX6_lockOn_2 : decode cX6_lockOn 2 = .ok (.iconst 0, 1) := by decide +kernel
theorem dX6_lockOn_3 : decode cX6_lockOn 3 = .ok (.istore_n 3, 1) := by decide +kernel
theorem dX6_lockOn_4 : decode cX6_lockOn 4 = .ok (.iload_n 3, 1) := by decide +kernel
theorem dX6_lockOn_5 : decode cX6_lockOn 5 = .ok (.aload_n 0, 1) := by decide +kernel
theorem dX6_lockOn_6 : decode cX6_lockOn 6 = .ok (.getfield 55, 3) := by decide +kernel
theorem dX6_lockOn_9 : decode cX6_lockOn 9 = .ok (.if_icmp .ge 39, 3) := by decide +kernel
theorem dX6_lockOn_12 : decode cX6_lockOn 12 = .ok (.aload_n 0, 1) := by decide +kernel
theorem dX6_lockOn_13 : decode cX6_lockOn 13 = .ok (.getfield 29, 3) := by decide +kernel
theorem dX6_lockOn_16 : decode cX6_lockOn 16 = .ok (.iload_n 3, 1) := by decide +kernel
theorem dX6_lockOn_17 : decode cX6_lockOn 17 = .ok (.iaload, 1) := by decide +kernel
theorem dX6_lockOn_18 : decode cX6_lockOn 18 = .ok (.iload_n 1, 1) := by decide +kernel
theorem dX6_lockOn_19 : decode cX6_lockOn 19 = .ok (.if_icmp .ne 21, 3) := by decide +kernel
theorem dX6_lockOn_22 : decode cX6_lockOn 22 = .ok (.aload_n 0, 1) := by decide +kernel
theorem dX6_lockOn_23 : decode cX6_lockOn 23 = .ok (.getfield 35, 3) := by decide +kernel
theorem dX6_lockOn_26 : decode cX6_lockOn 26 = .ok (.iload_n 3, 1) := by decide +kernel
theorem dX6_lockOn_27 : decode cX6_lockOn 27 = .ok (.baload, 1) := by decide +kernel
theorem dX6_lockOn_28 : decode cX6_lockOn 28 = .ok (.ifCond .ne 12, 3) := by decide +kernel
theorem dX6_lockOn_31 : decode cX6_lockOn 31 = .ok (.aload_n 0, 1) := by decide +kernel
theorem dX6_lockOn_32 : decode cX6_lockOn 32 = .ok (.getfield 26, 3) := by decide +kernel
theorem dX6_lockOn_35 : decode cX6_lockOn 35 = .ok (.iload_n 3, 1) := by decide +kernel
theorem dX6_lockOn_36 : decode cX6_lockOn 36 = .ok (.iaload, 1) := by decide +kernel
theorem dX6_lockOn_37 : decode cX6_lockOn 37 = .ok (.goto 4, 3) := by decide +kernel
theorem dX6_lockOn_40 : decode cX6_lockOn 40 = .ok (.iload_n 2, 1) := by decide +kernel
theorem dX6_lockOn_41 : decode cX6_lockOn 41 = .ok (.istore_n 2, 1) := by decide +kernel
theorem dX6_lockOn_42 : decode cX6_lockOn 42 = .ok (.iinc 3 1, 3) := by decide +kernel
theorem dX6_lockOn_45 : decode cX6_lockOn 45 = .ok (.goto (-41), 3) := by decide +kernel
theorem dX6_lockOn_48 : decode cX6_lockOn 48 = .ok (.iload_n 2, 1) := by decide +kernel
theorem dX6_lockOn_49 : decode cX6_lockOn 49 = .ok (.iconst (-1), 1) := by decide +kernel
theorem dX6_lockOn_50 : decode cX6_lockOn 50 = .ok (.if_icmp .eq 15, 3) := by decide +kernel
theorem dX6_lockOn_53 : decode cX6_lockOn 53 = .ok (.aload_n 0, 1) := by decide +kernel
theorem dX6_lockOn_54 : decode cX6_lockOn 54 = .ok (.iload_n 2, 1) := by decide +kernel
theorem dX6_lockOn_55 : decode cX6_lockOn 55 = .ok (.invokevirtual 68, 3) := by decide +kernel
theorem dX6_lockOn_58 : decode cX6_lockOn 58 = .ok (.ifCond .eq 7, 3) := by decide +kernel
theorem dX6_lockOn_61 : decode cX6_lockOn 61 = .ok (.iload_n 2, 1) := by decide +kernel
theorem dX6_lockOn_62 : decode cX6_lockOn 62 = .ok (.goto 4, 3) := by decide +kernel
theorem dX6_lockOn_65 : decode cX6_lockOn 65 = .ok (.iconst (-1), 1) := by decide +kernel
theorem dX6_lockOn_66 : decode cX6_lockOn 66 = .ok (.ireturn, 1) := by decide +kernel
set_option maxRecDepth 20000 in
theorem ggX6_cleans_X6_isActive : GoodIn wsX6_cleans wsX6_isActive := goodIn_r _ [8, 9, 10, 11, 12, 13, 14, 15, 16, 17, 18, 19, 20, 21, 22, 23, 24, 25, 26, 27] (by decide +kernel) (by decide +kernel)
set_option maxRecDepth 20000 in
theorem gX6_cleans_X6_isActive : GoodIn wsX6_cleans (wsV RX6 68 RX6 yX6_isActive wsX6_isActive) := goodIn_app (goodIn_of _ (by decide +kernel)) ggX6_cleans_X6_isActive
theorem dX6_cleans_0 : decode cX6_cleans 0 = .ok (.iconst 2, 1) := by decide +kernel
theorem dX6_cleans_1 : decode cX6_cleans 1 = .ok (.iload_n 1, 1) := by decide +kernel
theorem dX6_cleans_2 : decode cX6_cleans 2 = .ok (.imul, 1) := by decide +kernel
theorem dX6_cleans_3 : decode cX6_cleans 3 = .ok (.istore_n 2, 1) := by decide +kernel
theorem dX6_cleans_4 : decode cX6_cleans 4 = .ok (.iload_n 2, 1) := by decide +kernel
theorem dX6_cleans_5 : decode cX6_cleans 5 = .ok (.iconst 2, 1) := by decide +kernel
theorem dX6_cleans_6 : decode cX6_cleans 6 = .ok (.iload_n 1, 1) := by decide +kernel
theorem dX6_cleans_7 : decode cX6_cleans 7 = .ok (.imul, 1) := by decide +kernel
theorem dX6_cleans_8 : decode cX6_cleans 8 = .ok (.iconst 2, 1) := by decide +kernel
theorem dX6_cleans_9 : decode cX6_cleans 9 = .ok (.iadd, 1) := by decide +kernel
theorem dX6_cleans_10 : decode cX6_cleans 10 = .ok (.if_icmp .ge 58, 3) := by decide +kernel
theorem dX6_cleans_13 : decode cX6_cleans 13 = .ok (.aload_n 0, 1) := by decide +kernel
theorem dX6_cleans_14 : decode cX6_cleans 14 = .ok (.getfield 39, 3) := by decide +kernel
theorem dX6_cleans_17 : decode cX6_cleans 17 = .ok (.iload_n 2, 1) := by decide +kernel
theorem dX6_cleans_18 : decode cX6_cleans 18 = .ok (.iaload, 1) := by decide +kernel
theorem dX6_cleans_19 : decode cX6_cleans 19 = .ok (.iconst (-1), 1) := by decide +kernel
theorem dX6_cleans_20 : decode cX6_cleans 20 = .ok (.if_icmp .eq 42, 3) := by decide +kernel
theorem dX6_cleans_23 : decode cX6_cleans 23 = .ok (.aload_n 0, 1) := by decide +kernel
theorem dX6_cleans_24 : decode cX6_cleans 24 = .ok (.aload_n 0, 1) := by decide +kernel
theorem dX6_cleans_25 : decode cX6_cleans 25 = .ok (.getfield 39, 3) := by decide +kernel
theorem dX6_cleans_28 : decode cX6_cleans 28 = .ok (.iload_n 2, 1) := by decide +kernel
theorem dX6_cleans_29 : decode cX6_cleans 29 = .ok (.iaload, 1) := by decide +kernel
theorem dX6_cleans_30 : decode cX6_cleans 30 = .ok (.invokevirtual 68, 3) := by decide +kernel
theorem dX6_cleans_33 : decode cX6_cleans 33 = .ok (.ifCond .ne 29, 3) := by decide +kernel
theorem dX6_cleans_36 : decode cX6_cleans 36 = .ok (.aload_n 0, 1) := by decide +kernel
theorem dX6_cleans_37 : decode cX6_cleans 37 = .ok (.getfield 42, 3) := by decide +kernel
theorem dX6_cleans_40 : decode cX6_cleans 40 = .ok (.iload_n 2, 1) := by decide +kernel
theorem dX6_cleans_41 : decode cX6_cleans 41 = .ok (.baload, 1) := by decide +kernel
theorem dX6_cleans_42 : decode cX6_cleans 42 = .ok (.ifCond .ne 20, 3) := by decide +kernel
theorem dX6_cleans_45 : decode cX6_cleans 45 = .ok (.aload_n 0, 1) := by decide +kernel
theorem dX6_cleans_46 : decode cX6_cleans 46 = .ok (.getfield 42, 3) := by decide +kernel
theorem dX6_cleans_49 : decode cX6_cleans 49 = .ok (.iload_n 2, 1) := by decide +kernel
theorem dX6_cleans_50 : decode cX6_cleans 50 = .ok (.iconst 1, 1) := by decide +kernel
theorem dX6_cleans_51 : decode cX6_cleans 51 = .ok (.bastore, 1) := by decide +kernel
theorem dX6_cleans_52 : decode cX6_cleans 52 = .ok (.aload_n 0, 1) := by decide +kernel
theorem dX6_cleans_53 : decode cX6_cleans 53 = .ok (.dup, 1) := by decide +kernel
theorem dX6_cleans_54 : decode cX6_cleans 54 = .ok (.getfield 71, 3) := by decide +kernel
theorem dX6_cleans_57 : decode cX6_cleans 57 = .ok (.iconst 1, 1) := by decide +kernel
theorem dX6_cleans_58 : decode cX6_cleans 58 = .ok (.iadd, 1) := by decide +kernel
theorem dX6_cleans_59 : decode cX6_cleans 59 = .ok (.putfield 71, 3) := by decide +kernel
theorem dX6_cleans_62 : decode cX6_cleans 62 = .ok (.iinc 2 1, 3) := by decide +kernel
theorem dX6_cleans_65 : decode cX6_cleans 65 = .ok (.goto (-61), 3) := by decide +kernel
theorem dX6_cleans_68 : decode cX6_cleans 68 = .ok (.return_, 1) := by decide +kernel
set_option maxRecDepth 20000 in
theorem ggX6_slotFor_X6_isActive : GoodIn wsX6_slotFor wsX6_isActive := goodIn_r _ [6, 7, 8, 9, 10, 11, 12, 13, 14, 15, 16, 17, 18, 19, 20, 21, 22, 23, 24, 25] (by decide +kernel) (by decide +kernel)
set_option maxRecDepth 20000 in
theorem gX6_slotFor_X6_isActive : GoodIn wsX6_slotFor (wsV RX6 68 RX6 yX6_isActive wsX6_isActive) := goodIn_app (goodIn_of _ (by decide +kernel)) ggX6_slotFor_X6_isActive
theorem dX6_slotFor_0 : decode cX6_slotFor 0 = .ok (.iconst (-1), 1) := by decide +kernel
theorem dX6_slotFor_1 : decode cX6_slotFor 1 = .ok (.istore_n 3, 1) := by decide +kernel
theorem dX6_slotFor_2 : decode cX6_slotFor 2 = .ok (.iconst (-1), 1) := by decide +kernel
theorem dX6_slotFor_3 : decode cX6_slotFor 3 = .ok (.istore 4, 2) := by decide +kernel
theorem dX6_slotFor_5 : decode cX6_slotFor 5 = .ok (.iconst 2, 1) := by decide +kernel
theorem dX6_slotFor_6 : decode cX6_slotFor 6 = .ok (.iload_n 2, 1) := by decide +kernel
theorem dX6_slotFor_7 : decode cX6_slotFor 7 = .ok (.imul, 1) := by decide +kernel
theorem dX6_slotFor_8 : decode cX6_slotFor 8 = .ok (.iconst 2, 1) := by decide +kernel
theorem dX6_slotFor_9 : decode cX6_slotFor 9 = .ok (.iadd, 1) := by decide +kernel
theorem dX6_slotFor_10 : decode cX6_slotFor 10 = .ok (.iconst 1, 1) := by decide +kernel
theorem dX6_slotFor_11 : decode cX6_slotFor 11 = .ok (.isub, 1) := by decide +kernel
theorem dX6_slotFor_12 : decode cX6_slotFor 12 = .ok (.istore 5, 2) := by decide +kernel
theorem dX6_slotFor_14 : decode cX6_slotFor 14 = .ok (.iload 5, 2) := by decide +kernel
theorem dX6_slotFor_16 : decode cX6_slotFor 16 = .ok (.iconst 2, 1) := by decide +kernel
theorem dX6_slotFor_17 : decode cX6_slotFor 17 = .ok (.iload_n 2, 1) := by decide +kernel
theorem dX6_slotFor_18 : decode cX6_slotFor 18 = .ok (.imul, 1) := by decide +kernel
theorem dX6_slotFor_19 : decode cX6_slotFor 19 = .ok (.if_icmp .lt 61, 3) := by decide +kernel
theorem dX6_slotFor_22 : decode cX6_slotFor 22 = .ok (.aload_n 0, 1) := by decide +kernel
theorem dX6_slotFor_23 : decode cX6_slotFor 23 = .ok (.getfield 39, 3) := by decide +kernel
theorem dX6_slotFor_26 : decode cX6_slotFor 26 = .ok (.iload 5, 2) := by decide +kernel
theorem dX6_slotFor_28 : decode cX6_slotFor 28 = .ok (.iaload, 1) := by decide +kernel
theorem dX6_slotFor_29 : decode cX6_slotFor 29 = .ok (.iload_n 1, 1) := by decide +kernel
theorem dX6_slotFor_30 : decode cX6_slotFor 30 = .ok (.if_icmp .ne 8, 3) := by decide +kernel
theorem dX6_slotFor_33 : decode cX6_slotFor 33 = .ok (.iload 5, 2) := by decide +kernel
theorem dX6_slotFor_35 : decode cX6_slotFor 35 = .ok (.goto 4, 3) := by decide +kernel
theorem dX6_slotFor_38 : decode cX6_slotFor 38 = .ok (.iload_n 3, 1) := by decide +kernel
theorem dX6_slotFor_39 : decode cX6_slotFor 39 = .ok (.istore_n 3, 1) := by decide +kernel
theorem dX6_slotFor_40 : decode cX6_slotFor 40 = .ok (.aload_n 0, 1) := by decide +kernel
theorem dX6_slotFor_41 : decode cX6_slotFor 41 = .ok (.getfield 39, 3) := by decide +kernel
theorem dX6_slotFor_44 : decode cX6_slotFor 44 = .ok (.iload 5, 2) := by decide +kernel
theorem dX6_slotFor_46 : decode cX6_slotFor 46 = .ok (.iaload, 1) := by decide +kernel
theorem dX6_slotFor_47 : decode cX6_slotFor 47 = .ok (.iconst (-1), 1) := by decide +kernel
theorem dX6_slotFor_48 : decode cX6_slotFor 48 = .ok (.if_icmp .eq 17, 3) := by decide +kernel
theorem dX6_slotFor_51 : decode cX6_slotFor 51 = .ok (.aload_n 0, 1) := by decide +kernel
theorem dX6_slotFor_52 : decode cX6_slotFor 52 = .ok (.aload_n 0, 1) := by decide +kernel
theorem dX6_slotFor_53 : decode cX6_slotFor 53 = .ok (.getfield 39, 3) := by decide +kernel
theorem dX6_slotFor_56 : decode cX6_slotFor 56 = .ok (.iload 5, 2) := by decide +kernel
theorem dX6_slotFor_58 : decode cX6_slotFor 58 = .ok (.iaload, 1) := by decide +kernel
theorem dX6_slotFor_59 : decode cX6_slotFor 59 = .ok (.invokevirtual 68, 3) := by decide +kernel
theorem dX6_slotFor_62 : decode cX6_slotFor 62 = .ok (.ifCond .ne 8, 3) := by decide +kernel
theorem dX6_slotFor_65 : decode cX6_slotFor 65 = .ok (.iload 5, 2) := by decide +kernel
theorem dX6_slotFor_67 : decode cX6_slotFor 67 = .ok (.goto 5, 3) := by decide +kernel
theorem dX6_slotFor_70 : decode cX6_slotFor 70 = .ok (.iload 4, 2) := by decide +kernel
theorem dX6_slotFor_72 : decode cX6_slotFor 72 = .ok (.istore 4, 2) := by decide +kernel
theorem dX6_slotFor_74 : decode cX6_slotFor 74 = .ok (.iinc 5 (-1), 3) := by decide +kernel
theorem dX6_slotFor_77 : decode cX6_slotFor 77 = .ok (.goto (-63), 3) := by decide +kernel
theorem dX6_slotFor_80 : decode cX6_slotFor 80 = .ok (.iload_n 3, 1) := by decide +kernel
theorem dX6_slotFor_81 : decode cX6_slotFor 81 = .ok (.iconst (-1), 1) := by decide +kernel
theorem dX6_slotFor_82 : decode cX6_slotFor 82 = .ok (.if_icmp .ne 8, 3) := by decide +kernel
theorem dX6_slotFor_85 : decode cX6_slotFor 85 = .ok (.iload 4, 2) := by decide +kernel
theorem dX6_slotFor_87 : decode cX6_slotFor 87 = .ok (.goto 4, 3) := by decide +kernel
theorem dX6_slotFor_90 : decode cX6_slotFor 90 = .ok (.iload_n 3, 1) := by decide +kernel
theorem dX6_slotFor_91 : decode cX6_slotFor 91 = .ok (.ireturn, 1) := by decide +kernel
set_option maxRecDepth 20000 in
theorem ggX6_hasSpace_X6_isActive : GoodIn wsX6_hasSpace wsX6_isActive := goodIn_r _ [9, 10, 11, 12, 13, 14, 15, 16, 17, 18, 19, 20, 21, 22, 23, 24, 25, 26, 27, 28] (by decide +kernel) (by decide +kernel)
set_option maxRecDepth 20000 in
theorem gX6_hasSpace_X6_isActive : GoodIn wsX6_hasSpace (wsV RX6 68 RX6 yX6_isActive wsX6_isActive) := goodIn_app (goodIn_of _ (by decide +kernel)) ggX6_hasSpace_X6_isActive
theorem dX6_hasSpace_0 : decode cX6_hasSpace 0 = .ok (.aload_n 0, 1) := by decide +kernel
theorem dX6_hasSpace_1 : decode cX6_hasSpace 1 = .ok (.getfield 55, 3) := by decide +kernel
theorem dX6_hasSpace_4 : decode cX6_hasSpace 4 = .ok (.aload_n 0, 1) := by decide +kernel
theorem dX6_hasSpace_5 : decode cX6_hasSpace 5 = .ok (.getfield 58, 3) := by decide +kernel
theorem dX6_hasSpace_8 : decode cX6_hasSpace 8 = .ok (.isub, 1) := by decide +kernel
theorem dX6_hasSpace_9 : decode cX6_hasSpace 9 = .ok (.aload_n 0, 1) := by decide +kernel
theorem dX6_hasSpace_10 : decode cX6_hasSpace 10 = .ok (.getfield 13, 3) := by decide +kernel
theorem dX6_hasSpace_13 : decode cX6_hasSpace 13 = .ok (.if_icmp .lt 19, 3) := by decide +kernel
theorem dX6_hasSpace_16 : decode cX6_hasSpace 16 = .ok (.aload_n 0, 1) := by decide +kernel
theorem dX6_hasSpace_17 : decode cX6_hasSpace 17 = .ok (.aload_n 0, 1) := by decide +kernel
theorem dX6_hasSpace_18 : decode cX6_hasSpace 18 = .ok (.getfield 26, 3) := by decide +kernel
theorem dX6_hasSpace_21 : decode cX6_hasSpace 21 = .ok (.aload_n 0, 1) := by decide +kernel
theorem dX6_hasSpace_22 : decode cX6_hasSpace 22 = .ok (.getfield 58, 3) := by decide +kernel
theorem dX6_hasSpace_25 : decode cX6_hasSpace 25 = .ok (.iaload, 1) := by decide +kernel
theorem dX6_hasSpace_26 : decode cX6_hasSpace 26 = .ok (.invokevirtual 68, 3) := by decide +kernel
theorem dX6_hasSpace_29 : decode cX6_hasSpace 29 = .ok (.ifCond .ne 7, 3) := by decide +kernel
theorem dX6_hasSpace_32 : decode cX6_hasSpace 32 = .ok (.iconst 1, 1) := by decide +kernel
theorem dX6_hasSpace_33 : decode cX6_hasSpace 33 = .ok (.goto 4, 3) := by decide +kernel
theorem dX6_hasSpace_36 : decode cX6_hasSpace 36 = .ok (.iconst 0, 1) := by decide +kernel
theorem dX6_hasSpace_37 : decode cX6_hasSpace 37 = .ok (.ireturn, 1) := by decide +kernel
set_option maxRecDepth 20000 in
theorem ggX6_write_X6_isTransaction : GoodIn wsX6_write wsX6_isTransaction := goodIn_r _ [16, 17, 18, 19, 15, 20, 52, 53, 54, 55, 56, 57, 58, 59, 60, 61, 62, 63, 64, 65, 66, 67, 68, 69] (by decide +kernel) (by decide +kernel)
set_option maxRecDepth 20000 in
theorem gX6_write_X6_isTransaction : GoodIn wsX6_write (wsV RX6 74 RX6 yX6_isTransaction wsX6_isTransaction) := goodIn_app (goodIn_of _ (by decide +kernel)) ggX6_write_X6_isTransaction
set_option maxRecDepth 20000 in
theorem ggX6_write_X6_isRow : GoodIn wsX6_write wsX6_isRow := goodIn_r _ [23, 18, 19, 15, 20] (by decide +kernel) (by decide +kernel)
set_option maxRecDepth 20000 in
theorem gX6_write_X6_isRow : GoodIn wsX6_write (va_wsS RX6 77 yX6_isRow wsX6_isRow) := goodIn_app (goodIn_of _ (by decide +kernel)) ggX6_write_X6_isRow
set_option maxRecDepth 20000 in
theorem ggX6_write_X6_isIn : GoodIn wsX6_write wsX6_isIn := goodIn_r _ [20] (by decide +kernel) (by decide +kernel)
set_option maxRecDepth 20000 in
theorem gX6_write_X6_isIn : GoodIn wsX6_write (va_wsS RX6 48 yX6_isIn wsX6_isIn) := goodIn_app (goodIn_of _ (by decide +kernel)) ggX6_write_X6_isIn
set_option maxRecDepth 20000 in
theorem ggX6_write_X6_isActive : GoodIn wsX6_write wsX6_isActive := goodIn_r _ [27, 28, 52, 53, 54, 55, 56, 57, 58, 59, 60, 61, 62, 63, 64, 65, 66, 67, 68, 69] (by decide +kernel) (by decide +kernel)
set_option maxRecDepth 20000 in
theorem gX6_write_X6_isActive : GoodIn wsX6_write (wsV RX6 68 RX6 yX6_isActive wsX6_isActive) := goodIn_app (goodIn_of _ (by decide +kernel)) ggX6_write_X6_isActive
set_option maxRecDepth 20000 in
theorem ggX6_write_X6_lockOn : GoodIn wsX6_write wsX6_lockOn := goodIn_r _ [32, 7, 10, 33, 9, 24, 25, 26, 15, 27, 28, 52, 53, 54, 55, 56, 57, 58, 59, 60, 61, 62, 63, 64, 65, 66, 67, 68, 69] (by decide +kernel) (by decide +kernel)
set_option maxRecDepth 20000 in
theorem gX6_write_X6_lockOn : GoodIn wsX6_write (wsV RX6 82 RX6 yX6_lockOn wsX6_lockOn) := goodIn_app (goodIn_of _ (by decide +kernel)) ggX6_write_X6_lockOn
set_option maxRecDepth 20000 in
theorem ggX6_write_X6_slotFor : GoodIn wsX6_write wsX6_slotFor := goodIn_r _ [37, 4, 24, 25, 26, 15, 27, 28, 52, 53, 54, 55, 56, 57, 58, 59, 60, 61, 62, 63, 64, 65, 66, 67, 68, 69] (by decide +kernel) (by decide +kernel)
set_option maxRecDepth 20000 in
theorem gX6_write_X6_slotFor : GoodIn wsX6_write (wsV RX6 86 RX6 yX6_slotFor wsX6_slotFor) := goodIn_app (goodIn_of _ (by decide +kernel)) ggX6_write_X6_slotFor
set_option maxRecDepth 20000 in
theorem ggX6_write_X6_hasSpace : GoodIn wsX6_write wsX6_hasSpace := goodIn_r _ [41, 7, 6, 8, 9, 24, 25, 26, 15, 27, 28, 52, 53, 54, 55, 56, 57, 58, 59, 60, 61, 62, 63, 64, 65, 66, 67, 68, 69] (by decide +kernel) (by decide +kernel)
set_option maxRecDepth 20000 in
theorem gX6_write_X6_hasSpace : GoodIn wsX6_write (wsV RX6 90 RX6 yX6_hasSpace wsX6_hasSpace) := goodIn_app (goodIn_of _ (by decide +kernel)) ggX6_write_X6_hasSpace
set_option maxRecDepth 20000 in
theorem ggX6_write_X6_can : GoodIn wsX6_write wsX6_can := goodIn_r _ [45, 46, 52, 53, 54, 55, 56, 57, 58, 59, 60, 61, 62, 63, 64, 65, 66, 67, 68, 69] (by decide +kernel) (by decide +kernel)
set_option maxRecDepth 20000 in
theorem gX6_write_X6_can : GoodIn wsX6_write (wsV RX6 61 RX6 yX6_can wsX6_can) := goodIn_app (goodIn_of _ (by decide +kernel)) ggX6_write_X6_can
set_option maxRecDepth 20000 in
theorem ggX6_write_X6_cleans : GoodIn wsX6_write wsX6_cleans := goodIn_r _ [50, 4, 5, 51, 24, 25, 26, 15, 27, 28, 52, 53, 54, 55, 56, 57, 58, 59, 60, 61, 62, 63, 64, 65, 66, 67, 68, 69] (by decide +kernel) (by decide +kernel)
set_option maxRecDepth 20000 in
theorem gX6_write_X6_cleans : GoodIn wsX6_write (wsV RX6 94 RX6 yX6_cleans wsX6_cleans) := goodIn_app (goodIn_of _ (by decide +kernel)) ggX6_write_X6_cleans
theorem dX6_write_0 : decode cX6_write 0 = .ok (.aload_n 0, 1) := by decide +kernel
theorem dX6_write_1 : decode cX6_write 1 = .ok (.iload_n 1, 1) := by decide +kernel
theorem dX6_write_2 : decode cX6_write 2 = .ok (.invokevirtual 74, 3) := by decide +kernel
theorem dX6_write_5 : decode cX6_write 5 = .ok (.ifCond .eq 14, 3) := by decide +kernel
theorem dX6_write_8 : decode cX6_write 8 = .ok (.iload_n 2, 1) := by decide +kernel
theorem dX6_write_9 : decode cX6_write 9 = .ok (.invokestatic 77, 3) := by decide +kernel
theorem dX6_write_12 : decode cX6_write 12 = .ok (.ifCond .eq 7, 3) := by decide +kernel
theorem dX6_write_15 : decode cX6_write 15 = .ok (.iconst 1, 1) := by decide +kernel
theorem dX6_write_16 : decode cX6_write 16 = .ok (.goto 4, 3) := by decide +kernel
theorem dX6_write_19 : decode cX6_write 19 = .ok (.iconst 0, 1) := by decide +kernel
theorem dX6_write_20 : decode cX6_write 20 = .ok (.istore 4, 2) := by decide +kernel
theorem dX6_write_22 : decode cX6_write 22 = .ok (.iload_n 3, 1) := by decide +kernel
theorem dX6_write_23 : decode cX6_write 23 = .ok (.ldc 80, 2) := by decide +kernel
theorem dX6_write_25 : decode cX6_write 25 = .ok (.ldc 81, 2) := by decide +kernel
theorem dX6_write_27 : decode cX6_write 27 = .ok (.invokestatic 48, 3) := by decide +kernel
theorem dX6_write_30 : decode cX6_write 30 = .ok (.istore 5, 2) := by decide +kernel
theorem dX6_write_32 : decode cX6_write 32 = .ok (.iload 4, 2) := by decide +kernel
theorem dX6_write_34 : decode cX6_write 34 = .ok (.ifCond .eq 20, 3) := by decide +kernel
theorem dX6_write_37 : decode cX6_write 37 = .ok (.iload 5, 2) := by decide +kernel
theorem dX6_write_39 : decode cX6_write 39 = .ok (.ifCond .eq 15, 3) := by decide +kernel
theorem dX6_write_42 : decode cX6_write 42 = .ok (.aload_n 0, 1) := by decide +kernel
theorem dX6_write_43 : decode cX6_write 43 = .ok (.iload_n 1, 1) := by decide +kernel
theorem dX6_write_44 : decode cX6_write 44 = .ok (.invokevirtual 68, 3) := by decide +kernel
theorem dX6_write_47 : decode cX6_write 47 = .ok (.ifCond .eq 7, 3) := by decide +kernel
theorem dX6_write_50 : decode cX6_write 50 = .ok (.iconst 1, 1) := by decide +kernel
theorem dX6_write_51 : decode cX6_write 51 = .ok (.goto 4, 3) := by decide +kernel
theorem dX6_write_54 : decode cX6_write 54 = .ok (.iconst 0, 1) := by decide +kernel
theorem dX6_write_55 : decode cX6_write 55 = .ok (.istore 6, 2) := by decide +kernel
theorem dX6_write_57 : decode cX6_write 57 = .ok (.iload 6, 2) := by decide +kernel
theorem dX6_write_59 : decode cX6_write 59 = .ok (.ifCond .eq 11, 3) := by decide +kernel
theorem dX6_write_62 : decode cX6_write 62 = .ok (.aload_n 0, 1) := by decide +kernel
theorem dX6_write_63 : decode cX6_write 63 = .ok (.iload_n 2, 1) := by decide +kernel
theorem dX6_write_64 : decode cX6_write 64 = .ok (.invokevirtual 82, 3) := by decide +kernel
theorem dX6_write_67 : decode cX6_write 67 = .ok (.goto 4, 3) := by decide +kernel
theorem dX6_write_70 : decode cX6_write 70 = .ok (.iconst (-1), 1) := by decide +kernel
theorem dX6_write_71 : decode cX6_write 71 = .ok (.istore 7, 2) := by decide +kernel
theorem dX6_write_73 : decode cX6_write 73 = .ok (.iload 6, 2) := by decide +kernel
theorem dX6_write_75 : decode cX6_write 75 = .ok (.ifCond .eq 38, 3) := by decide +kernel
theorem dX6_write_78 : decode cX6_write 78 = .ok (.iload 7, 2) := by decide +kernel
theorem dX6_write_80 : decode cX6_write 80 = .ok (.iconst (-1), 1) := by decide +kernel
theorem dX6_write_81 : decode cX6_write 81 = .ok (.if_icmp .eq 9, 3) := by decide +kernel
theorem dX6_write_84 : decode cX6_write 84 = .ok (.iload 7, 2) := by decide +kernel
theorem dX6_write_86 : decode cX6_write 86 = .ok (.iload_n 1, 1) := by decide +kernel
theorem dX6_write_87 : decode cX6_write 87 = .ok (.if_icmp .ne 26, 3) := by decide +kernel
theorem dX6_write_90 : decode cX6_write 90 = .ok (.aload_n 0, 1) := by decide +kernel
theorem dX6_write_91 : decode cX6_write 91 = .ok (.iload_n 1, 1) := by decide +kernel
theorem dX6_write_92 : decode cX6_write 92 = .ok (.iload_n 2, 1) := by decide +kernel
theorem dX6_write_93 : decode cX6_write 93 = .ok (.iconst 4, 1) := by decide +kernel
theorem dX6_write_94 : decode cX6_write 94 = .ok (.idiv, 1) := by decide +kernel
theorem dX6_write_95 : decode cX6_write 95 = .ok (.invokevirtual 86, 3) := by decide +kernel
theorem dX6_write_98 : decode cX6_write 98 = .ok (.iconst (-1), 1) := by decide +kernel
theorem dX6_write_99 : decode cX6_write 99 = .ok (.if_icmp .eq 14, 3) := by decide +kernel
theorem dX6_write_102 : decode cX6_write 102 = .ok (.aload_n 0, 1) := by decide +kernel
theorem dX6_write_103 : decode cX6_write 103 = .ok (.invokevirtual 90, 3) := by decide +kernel
theorem dX6_write_106 : decode cX6_write 106 = .ok (.ifCond .eq 7, 3) := by decide +kernel
theorem dX6_write_109 : decode cX6_write 109 = .ok (.iconst 1, 1) := by decide +kernel
theorem dX6_write_110 : decode cX6_write 110 = .ok (.goto 4, 3) := by decide +kernel
theorem dX6_write_113 : decode cX6_write 113 = .ok (.iconst 0, 1) := by decide +kernel
theorem dX6_write_114 : decode cX6_write 114 = .ok (.istore 6, 2) := by decide +kernel
theorem dX6_write_116 : decode cX6_write 116 = .ok (.aload_n 0, 1) := by decide +kernel
theorem dX6_write_117 : decode cX6_write 117 = .ok (.iload 4, 2) := by decide +kernel
theorem dX6_write_119 : decode cX6_write 119 = .ok (.ifCond .ne 7, 3) := by decide +kernel
theorem dX6_write_122 : decode cX6_write 122 = .ok (.iconst 1, 1) := by decide +kernel
theorem dX6_write_123 : decode cX6_write 123 = .ok (.goto 22, 3) := by decide +kernel
theorem dX6_write_126 : decode cX6_write 126 = .ok (.iload 5, 2) := by decide +kernel
theorem dX6_write_128 : decode cX6_write 128 = .ok (.ifCond .ne 7, 3) := by decide +kernel
theorem dX6_write_131 : decode cX6_write 131 = .ok (.iconst 2, 1) := by decide +kernel
theorem dX6_write_132 : decode cX6_write 132 = .ok (.goto 13, 3) := by decide +kernel
theorem dX6_write_135 : decode cX6_write 135 = .ok (.iload 6, 2) := by decide +kernel
theorem dX6_write_137 : decode cX6_write 137 = .ok (.ifCond .eq 7, 3) := by decide +kernel
theorem dX6_write_140 : decode cX6_write 140 = .ok (.iconst 0, 1) := by decide +kernel
theorem dX6_write_141 : decode cX6_write 141 = .ok (.goto 4, 3) := by decide +kernel
theorem dX6_write_144 : decode cX6_write 144 = .ok (.iconst 3, 1) := by decide +kernel
theorem dX6_write_145 : decode cX6_write 145 = .ok (.invokevirtual 61, 3) := by decide +kernel
theorem dX6_write_148 : decode cX6_write 148 = .ok (.ifCond .ne 5, 3) := by decide +kernel
theorem dX6_write_151 : decode cX6_write 151 = .ok (.iconst 0, 1) := by decide +kernel
theorem dX6_write_152 : decode cX6_write 152 = .ok (.ireturn, 1) := by decide +kernel
theorem dX6_write_153 : decode cX6_write 153 = .ok (.aload_n 0, 1) := by decide +kernel
theorem dX6_write_154 : decode cX6_write 154 = .ok (.getfield 7, 3) := by decide +kernel
theorem dX6_write_157 : decode cX6_write 157 = .ok (.iload_n 2, 1) := by decide +kernel
theorem dX6_write_158 : decode cX6_write 158 = .ok (.iaload, 1) := by decide +kernel
theorem dX6_write_159 : decode cX6_write 159 = .ok (.istore 8, 2) := by decide +kernel
theorem dX6_write_161 : decode cX6_write 161 = .ok (.aload_n 0, 1) := by decide +kernel
theorem dX6_write_162 : decode cX6_write 162 = .ok (.iload_n 1, 1) := by decide +kernel
theorem dX6_write_163 : decode cX6_write 163 = .ok (.iload_n 2, 1) := by decide +kernel
theorem dX6_write_164 : decode cX6_write 164 = .ok (.iconst 4, 1) := by decide +kernel
theorem dX6_write_165 : decode cX6_write 165 = .ok (.idiv, 1) := by decide +kernel
theorem dX6_write_166 : decode cX6_write 166 = .ok (.invokevirtual 86, 3) := by decide +kernel
theorem dX6_write_169 : decode cX6_write 169 = .ok (.istore 9, 2) := by decide +kernel
theorem dX6_write_171 : decode cX6_write 171 = .ok (.aload_n 0, 1) := by decide +kernel
theorem dX6_write_172 : decode cX6_write 172 = .ok (.iload_n 2, 1) := by decide +kernel
theorem dX6_write_173 : decode cX6_write 173 = .ok (.iconst 4, 1) := by decide +kernel
theorem dX6_write_174 : decode cX6_write 174 = .ok (.idiv, 1) := by decide +kernel
theorem dX6_write_175 : decode cX6_write 175 = .ok (.invokevirtual 94, 3) := by decide +kernel
theorem dX6_write_178 : decode cX6_write 178 = .ok (.aload_n 0, 1) := by decide +kernel
theorem dX6_write_179 : decode cX6_write 179 = .ok (.getfield 39, 3) := by decide +kernel
theorem dX6_write_182 : decode cX6_write 182 = .ok (.iload 9, 2) := by decide +kernel
theorem dX6_write_184 : decode cX6_write 184 = .ok (.iload_n 1, 1) := by decide +kernel
theorem dX6_write_185 : decode cX6_write 185 = .ok (.iastore, 1) := by decide +kernel
theorem dX6_write_186 : decode cX6_write 186 = .ok (.aload_n 0, 1) := by decide +kernel
theorem dX6_write_187 : decode cX6_write 187 = .ok (.getfield 42, 3) := by decide +kernel
theorem dX6_write_190 : decode cX6_write 190 = .ok (.iload 9, 2) := by decide +kernel
theorem dX6_write_192 : decode cX6_write 192 = .ok (.iconst 0, 1) := by decide +kernel
theorem dX6_write_193 : decode cX6_write 193 = .ok (.bastore, 1) := by decide +kernel
theorem dX6_write_194 : decode cX6_write 194 = .ok (.aload_n 0, 1) := by decide +kernel
theorem dX6_write_195 : decode cX6_write 195 = .ok (.dup, 1) := by decide +kernel
theorem dX6_write_196 : decode cX6_write 196 = .ok (.getfield 58, 3) := by decide +kernel
theorem dX6_write_199 : decode cX6_write 199 = .ok (.aload_n 0, 1) := by decide +kernel
theorem dX6_write_200 : decode cX6_write 200 = .ok (.getfield 55, 3) := by decide +kernel
theorem dX6_write_203 : decode cX6_write 203 = .ok (.aload_n 0, 1) := by decide +kernel
theorem dX6_write_204 : decode cX6_write 204 = .ok (.getfield 58, 3) := by decide +kernel
theorem dX6_write_207 : decode cX6_write 207 = .ok (.isub, 1) := by decide +kernel
theorem dX6_write_208 : decode cX6_write 208 = .ok (.aload_n 0, 1) := by decide +kernel
theorem dX6_write_209 : decode cX6_write 209 = .ok (.getfield 13, 3) := by decide +kernel
theorem dX6_write_212 : decode cX6_write 212 = .ok (.if_icmp .ne 7, 3) := by decide +kernel
theorem dX6_write_215 : decode cX6_write 215 = .ok (.iconst 1, 1) := by decide +kernel
theorem dX6_write_216 : decode cX6_write 216 = .ok (.goto 4, 3) := by decide +kernel
theorem dX6_write_219 : decode cX6_write 219 = .ok (.iconst 0, 1) := by decide +kernel
theorem dX6_write_220 : decode cX6_write 220 = .ok (.iadd, 1) := by decide +kernel
theorem dX6_write_221 : decode cX6_write 221 = .ok (.putfield 58, 3) := by decide +kernel
theorem dX6_write_224 : decode cX6_write 224 = .ok (.aload_n 0, 1) := by decide +kernel
theorem dX6_write_225 : decode cX6_write 225 = .ok (.getfield 26, 3) := by decide +kernel
theorem dX6_write_228 : decode cX6_write 228 = .ok (.aload_n 0, 1) := by decide +kernel
theorem dX6_write_229 : decode cX6_write 229 = .ok (.getfield 55, 3) := by decide +kernel
theorem dX6_write_232 : decode cX6_write 232 = .ok (.iload_n 1, 1) := by decide +kernel
theorem dX6_write_233 : decode cX6_write 233 = .ok (.iastore, 1) := by decide +kernel
theorem dX6_write_234 : decode cX6_write 234 = .ok (.aload_n 0, 1) := by decide +kernel
theorem dX6_write_235 : decode cX6_write 235 = .ok (.getfield 29, 3) := by decide +kernel
theorem dX6_write_238 : decode cX6_write 238 = .ok (.aload_n 0, 1) := by decide +kernel
theorem dX6_write_239 : decode cX6_write 239 = .ok (.getfield 55, 3) := by decide +kernel
theorem dX6_write_242 : decode cX6_write 242 = .ok (.iload_n 2, 1) := by decide +kernel
theorem dX6_write_243 : decode cX6_write 243 = .ok (.iastore, 1) := by decide +kernel
theorem dX6_write_244 : decode cX6_write 244 = .ok (.aload_n 0, 1) := by decide +kernel
theorem dX6_write_245 : decode cX6_write 245 = .ok (.getfield 32, 3) := by decide +kernel
theorem dX6_write_248 : decode cX6_write 248 = .ok (.aload_n 0, 1) := by decide +kernel
theorem dX6_write_249 : decode cX6_write 249 = .ok (.getfield 55, 3) := by decide +kernel
theorem dX6_write_252 : decode cX6_write 252 = .ok (.iload 8, 2) := by decide +kernel
theorem dX6_write_254 : decode cX6_write 254 = .ok (.iastore, 1) := by decide +kernel
theorem dX6_write_255 : decode cX6_write 255 = .ok (.aload_n 0, 1) := by decide +kernel
theorem dX6_write_256 : decode cX6_write 256 = .ok (.dup, 1) := by decide +kernel
theorem dX6_write_257 : decode cX6_write 257 = .ok (.getfield 55, 3) := by decide +kernel
theorem dX6_write_260 : decode cX6_write 260 = .ok (.iconst 1, 1) := by decide +kernel
theorem dX6_write_261 : decode cX6_write 261 = .ok (.iadd, 1) := by decide +kernel
theorem dX6_write_262 : decode cX6_write 262 = .ok (.putfield 55, 3) := by decide +kernel
theorem dX6_write_265 : decode cX6_write 265 = .ok (.aload_n 0, 1) := by decide +kernel
theorem dX6_write_266 : decode cX6_write 266 = .ok (.getfield 7, 3) := by decide +kernel
theorem dX6_write_269 : decode cX6_write 269 = .ok (.iload_n 2, 1) := by decide +kernel
theorem dX6_write_270 : decode cX6_write 270 = .ok (.iload_n 3, 1) := by decide +kernel
theorem dX6_write_271 : decode cX6_write 271 = .ok (.iastore, 1) := by decide +kernel
theorem dX6_write_272 : decode cX6_write 272 = .ok (.iload 8, 2) := by decide +kernel
theorem dX6_write_274 : decode cX6_write 274 = .ok (.ireturn, 1) := by decide +kernel
theorem dX6_valueAt_0 : decode cX6_valueAt 0 = .ok (.aload_n 0, 1) := by decide +kernel
theorem dX6_valueAt_1 : decode cX6_valueAt 1 = .ok (.getfield 7, 3) := by decide +kernel
theorem dX6_valueAt_4 : decode cX6_valueAt 4 = .ok (.iload_n 2, 1) := by decide +kernel
theorem dX6_valueAt_5 : decode cX6_valueAt 5 = .ok (.iaload, 1) := by decide +kernel
theorem dX6_valueAt_6 : decode cX6_valueAt 6 = .ok (.istore 4, 2) := by decide +kernel
theorem dX6_valueAt_8 : decode cX6_valueAt 8 = .ok (.aload_n 0, 1) := by decide +kernel
theorem dX6_valueAt_9 : decode cX6_valueAt 9 = .ok (.iconst 0, 1) := by decide +kernel
theorem dX6_valueAt_10 : decode cX6_valueAt 10 = .ok (.putfield 98, 3) := by decide +kernel
theorem dX6_valueAt_13 : decode cX6_valueAt 13 = .ok (.iconst 1, 1) := by decide +kernel
theorem dX6_valueAt_14 : decode cX6_valueAt 14 = .ok (.istore 5, 2) := by decide +kernel
theorem dX6_valueAt_16 : decode cX6_valueAt 16 = .ok (.aload_n 0, 1) := by decide +kernel
theorem dX6_valueAt_17 : decode cX6_valueAt 17 = .ok (.getfield 55, 3) := by decide +kernel
theorem dX6_valueAt_20 : decode cX6_valueAt 20 = .ok (.iconst 1, 1) := by decide +kernel
theorem dX6_valueAt_21 : decode cX6_valueAt 21 = .ok (.isub, 1) := by decide +kernel
theorem dX6_valueAt_22 : decode cX6_valueAt 22 = .ok (.istore 6, 2) := by decide +kernel
theorem dX6_valueAt_24 : decode cX6_valueAt 24 = .ok (.iload 6, 2) := by decide +kernel
theorem dX6_valueAt_26 : decode cX6_valueAt 26 = .ok (.ifCond .lt 134, 3) := by decide +kernel
theorem dX6_valueAt_29 : decode cX6_valueAt 29 = .ok (.iload 5, 2) := by decide +kernel
theorem dX6_valueAt_31 : decode cX6_valueAt 31 = .ok (.ifCond .eq 129, 3) := by decide +kernel
theorem dX6_valueAt_34 : decode cX6_valueAt 34 = .ok (.aload_n 0, 1) := by decide +kernel
theorem dX6_valueAt_35 : decode cX6_valueAt 35 = .ok (.getfield 29, 3) := by decide +kernel
theorem dX6_valueAt_38 : decode cX6_valueAt 38 = .ok (.iload 6, 2) := by decide +kernel
theorem dX6_valueAt_40 : decode cX6_valueAt 40 = .ok (.iaload, 1) := by decide +kernel
theorem dX6_valueAt_41 : decode cX6_valueAt 41 = .ok (.iload_n 2, 1) := by decide +kernel
theorem dX6_valueAt_42 : decode cX6_valueAt 42 = .ok (.if_icmp .ne 112, 3) := by decide +kernel
theorem dX6_valueAt_45 : decode cX6_valueAt 45 = .ok (.aload_n 0, 1) := by decide +kernel
theorem dX6_valueAt_46 : decode cX6_valueAt 46 = .ok (.getfield 35, 3) := by decide +kernel
theorem dX6_valueAt_49 : decode cX6_valueAt 49 = .ok (.iload 6, 2) := by decide +kernel
theorem dX6_valueAt_51 : decode cX6_valueAt 51 = .ok (.baload, 1) := by decide +kernel
theorem dX6_valueAt_52 : decode cX6_valueAt 52 = .ok (.ifCond .ne 102, 3) := by decide +kernel
theorem dX6_valueAt_55 : decode cX6_valueAt 55 = .ok (.aload_n 0, 1) := by decide +kernel
theorem dX6_valueAt_56 : decode cX6_valueAt 56 = .ok (.getfield 26, 3) := by decide +kernel
theorem dX6_valueAt_59 : decode cX6_valueAt 59 = .ok (.iload 6, 2) := by decide +kernel
theorem dX6_valueAt_61 : decode cX6_valueAt 61 = .ok (.iaload, 1) := by decide +kernel
theorem dX6_valueAt_62 : decode cX6_valueAt 62 = .ok (.iload_n 3, 1) := by decide +kernel
theorem dX6_valueAt_63 : decode cX6_valueAt 63 = .ok (.if_icmp .eq 39, 3) := by decide +kernel
theorem dX6_valueAt_66 : decode cX6_valueAt 66 = .ok (.aload_n 0, 1) := by decide +kernel
theorem dX6_valueAt_67 : decode cX6_valueAt 67 = .ok (.getfield 17, 3) := by decide +kernel
theorem dX6_valueAt_70 : decode cX6_valueAt 70 = .ok (.aload_n 0, 1) := by decide +kernel
theorem dX6_valueAt_71 : decode cX6_valueAt 71 = .ok (.getfield 26, 3) := by decide +kernel
theorem dX6_valueAt_74 : decode cX6_valueAt 74 = .ok (.iload 6, 2) := by decide +kernel
theorem dX6_valueAt_76 : decode cX6_valueAt 76 = .ok (.iaload, 1) := by decide +kernel
theorem dX6_valueAt_77 : decode cX6_valueAt 77 = .ok (.iaload, 1) := by decide +kernel
theorem dX6_valueAt_78 : decode cX6_valueAt 78 = .ok (.iconst 1, 1) := by decide +kernel
theorem dX6_valueAt_79 : decode cX6_valueAt 79 = .ok (.if_icmp .ne 19, 3) := by decide +kernel
theorem dX6_valueAt_82 : decode cX6_valueAt 82 = .ok (.aload_n 0, 1) := by decide +kernel
theorem dX6_valueAt_83 : decode cX6_valueAt 83 = .ok (.getfield 23, 3) := by decide +kernel
theorem dX6_valueAt_86 : decode cX6_valueAt 86 = .ok (.aload_n 0, 1) := by decide +kernel
theorem dX6_valueAt_87 : decode cX6_valueAt 87 = .ok (.getfield 26, 3) := by decide +kernel
theorem dX6_valueAt_90 : decode cX6_valueAt 90 = .ok (.iload 6, 2) := by decide +kernel
theorem dX6_valueAt_92 : decode cX6_valueAt 92 = .ok (.iaload, 1) := by decide +kernel
theorem dX6_valueAt_93 : decode cX6_valueAt 93 = .ok (.iaload, 1) := by decide +kernel
theorem dX6_valueAt_94 : decode cX6_valueAt 94 = .ok (.iload_n 1, 1) := by decide +kernel
theorem dX6_valueAt_95 : decode cX6_valueAt 95 = .ok (.if_icmp .le 7, 3) := by decide +kernel
theorem dX6_valueAt_98 : decode cX6_valueAt 98 = .ok (.iconst 1, 1) := by decide +kernel
theorem dX6_valueAt_99 : decode cX6_valueAt 99 = .ok (.goto 4, 3) := by decide +kernel
theorem dX6_valueAt_102 : decode cX6_valueAt 102 = .ok (.iconst 0, 1) := by decide +kernel
theorem dX6_valueAt_103 : decode cX6_valueAt 103 = .ok (.istore 5, 2) := by decide +kernel
theorem dX6_valueAt_105 : decode cX6_valueAt 105 = .ok (.iload 5, 2) := by decide +kernel
theorem dX6_valueAt_107 : decode cX6_valueAt 107 = .ok (.ifCond .eq 13, 3) := by decide +kernel
theorem dX6_valueAt_110 : decode cX6_valueAt 110 = .ok (.aload_n 0, 1) := by decide +kernel
theorem dX6_valueAt_111 : decode cX6_valueAt 111 = .ok (.getfield 32, 3) := by decide +kernel
theorem dX6_valueAt_114 : decode cX6_valueAt 114 = .ok (.iload 6, 2) := by decide +kernel
theorem dX6_valueAt_116 : decode cX6_valueAt 116 = .ok (.iaload, 1) := by decide +kernel
theorem dX6_valueAt_117 : decode cX6_valueAt 117 = .ok (.goto 5, 3) := by decide +kernel
theorem dX6_valueAt_120 : decode cX6_valueAt 120 = .ok (.iload 4, 2) := by decide +kernel
theorem dX6_valueAt_122 : decode cX6_valueAt 122 = .ok (.istore 4, 2) := by decide +kernel
theorem dX6_valueAt_124 : decode cX6_valueAt 124 = .ok (.aload_n 0, 1) := by decide +kernel
theorem dX6_valueAt_125 : decode cX6_valueAt 125 = .ok (.aload_n 0, 1) := by decide +kernel
theorem dX6_valueAt_126 : decode cX6_valueAt 126 = .ok (.getfield 98, 3) := by decide +kernel
theorem dX6_valueAt_129 : decode cX6_valueAt 129 = .ok (.ifCond .ne 17, 3) := by decide +kernel
theorem dX6_valueAt_132 : decode cX6_valueAt 132 = .ok (.iload 5, 2) := by decide +kernel
theorem dX6_valueAt_134 : decode cX6_valueAt 134 = .ok (.ifCond .eq 16, 3) := by decide +kernel
theorem dX6_valueAt_137 : decode cX6_valueAt 137 = .ok (.iload 6, 2) := by decide +kernel
theorem dX6_valueAt_139 : decode cX6_valueAt 139 = .ok (.aload_n 0, 1) := by decide +kernel
theorem dX6_valueAt_140 : decode cX6_valueAt 140 = .ok (.getfield 58, 3) := by decide +kernel
theorem dX6_valueAt_143 : decode cX6_valueAt 143 = .ok (.if_icmp .ge 7, 3) := by decide +kernel
theorem dX6_valueAt_146 : decode cX6_valueAt 146 = .ok (.iconst 1, 1) := by decide +kernel
theorem dX6_valueAt_147 : decode cX6_valueAt 147 = .ok (.goto 4, 3) := by decide +kernel
theorem dX6_valueAt_150 : decode cX6_valueAt 150 = .ok (.iconst 0, 1) := by decide +kernel
theorem dX6_valueAt_151 : decode cX6_valueAt 151 = .ok (.putfield 98, 3) := by decide +kernel
theorem dX6_valueAt_154 : decode cX6_valueAt 154 = .ok (.iinc 6 (-1), 3) := by decide +kernel
theorem dX6_valueAt_157 : decode cX6_valueAt 157 = .ok (.goto (-133), 3) := by decide +kernel
theorem dX6_valueAt_160 : decode cX6_valueAt 160 = .ok (.iload 4, 2) := by decide +kernel
theorem dX6_valueAt_162 : decode cX6_valueAt 162 = .ok (.ireturn, 1) := by decide +kernel
set_option maxRecDepth 20000 in
theorem ggX6_read_X6_isTransaction : GoodIn wsX6_read wsX6_isTransaction := goodIn_r _ [7, 8, 9, 10, 6, 11, 44, 45, 46, 47, 48, 49, 50, 51, 52, 53, 54, 55, 56, 57, 58, 59, 60, 61] (by decide +kernel) (by decide +kernel)
set_option maxRecDepth 20000 in
theorem gX6_read_X6_isTransaction : GoodIn wsX6_read (wsV RX6 74 RX6 yX6_isTransaction wsX6_isTransaction) := goodIn_app (goodIn_of _ (by decide +kernel)) ggX6_read_X6_isTransaction
set_option maxRecDepth 20000 in
theorem ggX6_read_X6_isRow : GoodIn wsX6_read wsX6_isRow := goodIn_r _ [14, 9, 10, 6, 11] (by decide +kernel) (by decide +kernel)
set_option maxRecDepth 20000 in
theorem gX6_read_X6_isRow : GoodIn wsX6_read (va_wsS RX6 77 yX6_isRow wsX6_isRow) := goodIn_app (goodIn_of _ (by decide +kernel)) ggX6_read_X6_isRow
set_option maxRecDepth 20000 in
theorem ggX6_read_X6_isActive : GoodIn wsX6_read wsX6_isActive := goodIn_r _ [18, 19, 44, 45, 46, 47, 48, 49, 50, 51, 52, 53, 54, 55, 56, 57, 58, 59, 60, 61] (by decide +kernel) (by decide +kernel)
set_option maxRecDepth 20000 in
theorem gX6_read_X6_isActive : GoodIn wsX6_read (wsV RX6 68 RX6 yX6_isActive wsX6_isActive) := goodIn_app (goodIn_of _ (by decide +kernel)) ggX6_read_X6_isActive
set_option maxRecDepth 20000 in
theorem ggX6_read_X6_can : GoodIn wsX6_read wsX6_can := goodIn_r _ [23, 24, 44, 45, 46, 47, 48, 49, 50, 51, 52, 53, 54, 55, 56, 57, 58, 59, 60, 61] (by decide +kernel) (by decide +kernel)
set_option maxRecDepth 20000 in
theorem gX6_read_X6_can : GoodIn wsX6_read (wsV RX6 61 RX6 yX6_can wsX6_can) := goodIn_app (goodIn_of _ (by decide +kernel)) ggX6_read_X6_can
set_option maxRecDepth 20000 in
theorem ggX6_read_X6_valueAt : GoodIn wsX6_read wsX6_valueAt := goodIn_r _ [28, 29, 2, 30, 31, 32, 33, 19, 34, 35, 36, 44, 45, 46, 47, 48, 49, 50, 51, 52, 53, 54, 55, 56, 57, 58, 59, 60, 61] (by decide +kernel) (by decide +kernel)
set_option maxRecDepth 20000 in
theorem gX6_read_X6_valueAt : GoodIn wsX6_read (wsV RX6 102 RX6 yX6_valueAt wsX6_valueAt) := goodIn_app (goodIn_of _ (by decide +kernel)) ggX6_read_X6_valueAt
set_option maxRecDepth 20000 in
theorem ggX6_read_X6_cleans : GoodIn wsX6_read wsX6_cleans := goodIn_r _ [40, 41, 42, 43, 15, 16, 17, 6, 18, 19, 44, 45, 46, 47, 48, 49, 50, 51, 52, 53, 54, 55, 56, 57, 58, 59, 60, 61] (by decide +kernel) (by decide +kernel)
set_option maxRecDepth 20000 in
theorem gX6_read_X6_cleans : GoodIn wsX6_read (wsV RX6 94 RX6 yX6_cleans wsX6_cleans) := goodIn_app (goodIn_of _ (by decide +kernel)) ggX6_read_X6_cleans
theorem dX6_read_0 : decode cX6_read 0 = .ok (.aload_n 0, 1) := by decide +kernel
theorem dX6_read_1 : decode cX6_read 1 = .ok (.iload_n 1, 1) := by decide +kernel
theorem dX6_read_2 : decode cX6_read 2 = .ok (.invokevirtual 74, 3) := by decide +kernel
theorem dX6_read_5 : decode cX6_read 5 = .ok (.ifCond .eq 14, 3) := by decide +kernel
theorem dX6_read_8 : decode cX6_read 8 = .ok (.iload_n 2, 1) := by decide +kernel
theorem dX6_read_9 : decode cX6_read 9 = .ok (.invokestatic 77, 3) := by decide +kernel
theorem dX6_read_12 : decode cX6_read 12 = .ok (.ifCond .eq 7, 3) := by decide +kernel
theorem dX6_read_15 : decode cX6_read 15 = .ok (.iconst 1, 1) := by decide +kernel
theorem dX6_read_16 : decode cX6_read 16 = .ok (.goto 4, 3) := by decide +kernel
theorem dX6_read_19 : decode cX6_read 19 = .ok (.iconst 0, 1) := by decide +kernel
theorem dX6_read_20 : decode cX6_read 20 = .ok (.istore_n 3, 1) := by decide +kernel
theorem dX6_read_21 : decode cX6_read 21 = .ok (.aload_n 0, 1) := by decide +kernel
theorem dX6_read_22 : decode cX6_read 22 = .ok (.iload_n 3, 1) := by decide +kernel
theorem dX6_read_23 : decode cX6_read 23 = .ok (.ifCond .ne 7, 3) := by decide +kernel
theorem dX6_read_26 : decode cX6_read 26 = .ok (.iconst 1, 1) := by decide +kernel
theorem dX6_read_27 : decode cX6_read 27 = .ok (.goto 16, 3) := by decide +kernel
theorem dX6_read_30 : decode cX6_read 30 = .ok (.aload_n 0, 1) := by decide +kernel
theorem dX6_read_31 : decode cX6_read 31 = .ok (.iload_n 1, 1) := by decide +kernel
theorem dX6_read_32 : decode cX6_read 32 = .ok (.invokevirtual 68, 3) := by decide +kernel
theorem dX6_read_35 : decode cX6_read 35 = .ok (.ifCond .eq 7, 3) := by decide +kernel
theorem dX6_read_38 : decode cX6_read 38 = .ok (.iconst 0, 1) := by decide +kernel
theorem dX6_read_39 : decode cX6_read 39 = .ok (.goto 4, 3) := by decide +kernel
theorem dX6_read_42 : decode cX6_read 42 = .ok (.iconst 2, 1) := by decide +kernel
theorem dX6_read_43 : decode cX6_read 43 = .ok (.invokevirtual 61, 3) := by decide +kernel
theorem dX6_read_46 : decode cX6_read 46 = .ok (.ifCond .ne 5, 3) := by decide +kernel
theorem dX6_read_49 : decode cX6_read 49 = .ok (.iconst 0, 1) := by decide +kernel
theorem dX6_read_50 : decode cX6_read 50 = .ok (.ireturn, 1) := by decide +kernel
theorem dX6_read_51 : decode cX6_read 51 = .ok (.aload_n 0, 1) := by decide +kernel
theorem dX6_read_52 : decode cX6_read 52 = .ok (.aload_n 0, 1) := by decide +kernel
theorem dX6_read_53 : decode cX6_read 53 = .ok (.getfield 20, 3) := by decide +kernel
theorem dX6_read_56 : decode cX6_read 56 = .ok (.iload_n 1, 1) := by decide +kernel
theorem dX6_read_57 : decode cX6_read 57 = .ok (.iaload, 1) := by decide +kernel
theorem dX6_read_58 : decode cX6_read 58 = .ok (.iload_n 2, 1) := by decide +kernel
theorem dX6_read_59 : decode cX6_read 59 = .ok (.iload_n 1, 1) := by decide +kernel
theorem dX6_read_60 : decode cX6_read 60 = .ok (.invokevirtual 102, 3) := by decide +kernel
theorem dX6_read_63 : decode cX6_read 63 = .ok (.istore 4, 2) := by decide +kernel
theorem dX6_read_65 : decode cX6_read 65 = .ok (.aload_n 0, 1) := by decide +kernel
theorem dX6_read_66 : decode cX6_read 66 = .ok (.aload_n 0, 1) := by decide +kernel
theorem dX6_read_67 : decode cX6_read 67 = .ok (.getfield 98, 3) := by decide +kernel
theorem dX6_read_70 : decode cX6_read 70 = .ok (.ifCond .eq 7, 3) := by decide +kernel
theorem dX6_read_73 : decode cX6_read 73 = .ok (.iconst 3, 1) := by decide +kernel
theorem dX6_read_74 : decode cX6_read 74 = .ok (.goto 4, 3) := by decide +kernel
theorem dX6_read_77 : decode cX6_read 77 = .ok (.iconst 0, 1) := by decide +kernel
theorem dX6_read_78 : decode cX6_read 78 = .ok (.invokevirtual 61, 3) := by decide +kernel
theorem dX6_read_81 : decode cX6_read 81 = .ok (.ifCond .ne 5, 3) := by decide +kernel
theorem dX6_read_84 : decode cX6_read 84 = .ok (.iconst 0, 1) := by decide +kernel
theorem dX6_read_85 : decode cX6_read 85 = .ok (.ireturn, 1) := by decide +kernel
theorem dX6_read_86 : decode cX6_read 86 = .ok (.aload_n 0, 1) := by decide +kernel
theorem dX6_read_87 : decode cX6_read 87 = .ok (.iload_n 2, 1) := by decide +kernel
theorem dX6_read_88 : decode cX6_read 88 = .ok (.iconst 4, 1) := by decide +kernel
theorem dX6_read_89 : decode cX6_read 89 = .ok (.idiv, 1) := by decide +kernel
theorem dX6_read_90 : decode cX6_read 90 = .ok (.invokevirtual 94, 3) := by decide +kernel
theorem dX6_read_93 : decode cX6_read 93 = .ok (.iload 4, 2) := by decide +kernel
theorem dX6_read_95 : decode cX6_read 95 = .ok (.ireturn, 1) := by decide +kernel
set_option maxRecDepth 20000 in
theorem ggX6_readAt_X6_isRow : GoodIn wsX6_readAt wsX6_isRow := goodIn_r _ [6, 7, 8, 5, 9] (by decide +kernel) (by decide +kernel)
set_option maxRecDepth 20000 in
theorem gX6_readAt_X6_isRow : GoodIn wsX6_readAt (va_wsS RX6 77 yX6_isRow wsX6_isRow) := goodIn_app (goodIn_of _ (by decide +kernel)) ggX6_readAt_X6_isRow
set_option maxRecDepth 20000 in
theorem ggX6_readAt_X6_isIn : GoodIn wsX6_readAt wsX6_isIn := goodIn_r _ [9] (by decide +kernel) (by decide +kernel)
set_option maxRecDepth 20000 in
theorem gX6_readAt_X6_isIn : GoodIn wsX6_readAt (va_wsS RX6 48 yX6_isIn wsX6_isIn) := goodIn_app (goodIn_of _ (by decide +kernel)) ggX6_readAt_X6_isIn
set_option maxRecDepth 20000 in
theorem ggX6_readAt_X6_can : GoodIn wsX6_readAt wsX6_can := goodIn_r _ [13, 14, 39, 40, 41, 42, 43, 44, 45, 46, 47, 48, 49, 50, 51, 52, 53, 54, 55, 56] (by decide +kernel) (by decide +kernel)
set_option maxRecDepth 20000 in
theorem gX6_readAt_X6_can : GoodIn wsX6_readAt (wsV RX6 61 RX6 yX6_can wsX6_can) := goodIn_app (goodIn_of _ (by decide +kernel)) ggX6_readAt_X6_can
set_option maxRecDepth 20000 in
theorem ggX6_readAt_X6_valueAt : GoodIn wsX6_readAt wsX6_valueAt := goodIn_r _ [18, 19, 2, 20, 21, 22, 23, 24, 25, 26, 27, 39, 40, 41, 42, 43, 44, 45, 46, 47, 48, 49, 50, 51, 52, 53, 54, 55, 56] (by decide +kernel) (by decide +kernel)
set_option maxRecDepth 20000 in
theorem gX6_readAt_X6_valueAt : GoodIn wsX6_readAt (wsV RX6 102 RX6 yX6_valueAt wsX6_valueAt) := goodIn_app (goodIn_of _ (by decide +kernel)) ggX6_readAt_X6_valueAt
set_option maxRecDepth 20000 in
theorem ggX6_readAt_X6_cleans : GoodIn wsX6_readAt wsX6_cleans := goodIn_r _ [31, 32, 33, 34, 35, 36, 37, 5, 38, 24, 39, 40, 41, 42, 43, 44, 45, 46, 47, 48, 49, 50, 51, 52, 53, 54, 55, 56] (by decide +kernel) (by decide +kernel)
set_option maxRecDepth 20000 in
theorem gX6_readAt_X6_cleans : GoodIn wsX6_readAt (wsV RX6 94 RX6 yX6_cleans wsX6_cleans) := goodIn_app (goodIn_of _ (by decide +kernel)) ggX6_readAt_X6_cleans
theorem dX6_readAt_0 : decode cX6_readAt 0 = .ok (.aload_n 0, 1) := by decide +kernel
theorem dX6_readAt_1 : decode cX6_readAt 1 = .ok (.iload_n 2, 1) := by decide +kernel
theorem dX6_readAt_2 : decode cX6_readAt 2 = .ok (.invokestatic 77, 3) := by decide +kernel
theorem dX6_readAt_5 : decode cX6_readAt 5 = .ok (.ifCond .ne 7, 3) := by decide +kernel
theorem dX6_readAt_8 : decode cX6_readAt 8 = .ok (.iconst 1, 1) := by decide +kernel
theorem dX6_readAt_9 : decode cX6_readAt 9 = .ok (.goto 20, 3) := by decide +kernel
theorem dX6_readAt_12 : decode cX6_readAt 12 = .ok (.iload_n 1, 1) := by decide +kernel
theorem dX6_readAt_13 : decode cX6_readAt 13 = .ok (.iconst 0, 1) := by decide +kernel
theorem dX6_readAt_14 : decode cX6_readAt 14 = .ok (.aload_n 0, 1) := by decide +kernel
theorem dX6_readAt_15 : decode cX6_readAt 15 = .ok (.getfield 65, 3) := by decide +kernel
theorem dX6_readAt_18 : decode cX6_readAt 18 = .ok (.invokestatic 48, 3) := by decide +kernel
theorem dX6_readAt_21 : decode cX6_readAt 21 = .ok (.ifCond .eq 7, 3) := by decide +kernel
theorem dX6_readAt_24 : decode cX6_readAt 24 = .ok (.iconst 0, 1) := by decide +kernel
theorem dX6_readAt_25 : decode cX6_readAt 25 = .ok (.goto 4, 3) := by decide +kernel
theorem dX6_readAt_28 : decode cX6_readAt 28 = .ok (.iconst 2, 1) := by decide +kernel
theorem dX6_readAt_29 : decode cX6_readAt 29 = .ok (.invokevirtual 61, 3) := by decide +kernel
theorem dX6_readAt_32 : decode cX6_readAt 32 = .ok (.ifCond .ne 5, 3) := by decide +kernel
theorem dX6_readAt_35 : decode cX6_readAt 35 = .ok (.iconst 0, 1) := by decide +kernel
theorem dX6_readAt_36 : decode cX6_readAt 36 = .ok (.ireturn, 1) := by decide +kernel
theorem dX6_readAt_37 : decode cX6_readAt 37 = .ok (.aload_n 0, 1) := by decide +kernel
theorem dX6_readAt_38 : decode cX6_readAt 38 = .ok (.iload_n 1, 1) := by decide +kernel
theorem dX6_readAt_39 : decode cX6_readAt 39 = .ok (.iload_n 2, 1) := by decide +kernel
theorem dX6_readAt_40 : decode cX6_readAt 40 = .ok (.iconst (-1), 1) := by decide +kernel
theorem dX6_readAt_41 : decode cX6_readAt 41 = .ok (.invokevirtual 102, 3) := by decide +kernel
theorem dX6_readAt_44 : decode cX6_readAt 44 = .ok (.istore_n 3, 1) := by decide +kernel
theorem dX6_readAt_45 : decode cX6_readAt 45 = .ok (.aload_n 0, 1) := by decide +kernel
theorem dX6_readAt_46 : decode cX6_readAt 46 = .ok (.aload_n 0, 1) := by decide +kernel
theorem dX6_readAt_47 : decode cX6_readAt 47 = .ok (.getfield 98, 3) := by decide +kernel
theorem dX6_readAt_50 : decode cX6_readAt 50 = .ok (.ifCond .eq 7, 3) := by decide +kernel
theorem dX6_readAt_53 : decode cX6_readAt 53 = .ok (.iconst 3, 1) := by decide +kernel
theorem dX6_readAt_54 : decode cX6_readAt 54 = .ok (.goto 4, 3) := by decide +kernel
theorem dX6_readAt_57 : decode cX6_readAt 57 = .ok (.iconst 0, 1) := by decide +kernel
theorem dX6_readAt_58 : decode cX6_readAt 58 = .ok (.invokevirtual 61, 3) := by decide +kernel
theorem dX6_readAt_61 : decode cX6_readAt 61 = .ok (.ifCond .ne 5, 3) := by decide +kernel
theorem dX6_readAt_64 : decode cX6_readAt 64 = .ok (.iconst 0, 1) := by decide +kernel
theorem dX6_readAt_65 : decode cX6_readAt 65 = .ok (.ireturn, 1) := by decide +kernel
theorem dX6_readAt_66 : decode cX6_readAt 66 = .ok (.aload_n 0, 1) := by decide +kernel
theorem dX6_readAt_67 : decode cX6_readAt 67 = .ok (.iload_n 2, 1) := by decide +kernel
theorem dX6_readAt_68 : decode cX6_readAt 68 = .ok (.iconst 4, 1) := by decide +kernel
theorem dX6_readAt_69 : decode cX6_readAt 69 = .ok (.idiv, 1) := by decide +kernel
theorem dX6_readAt_70 : decode cX6_readAt 70 = .ok (.invokevirtual 94, 3) := by decide +kernel
theorem dX6_readAt_73 : decode cX6_readAt 73 = .ok (.iload_n 3, 1) := by decide +kernel
theorem dX6_readAt_74 : decode cX6_readAt 74 = .ok (.ireturn, 1) := by decide +kernel
theorem dX6_standing_0 : decode cX6_standing 0 = .ok (.iconst 0, 1) := by decide +kernel
theorem dX6_standing_1 : decode cX6_standing 1 = .ok (.istore_n 2, 1) := by decide +kernel
theorem dX6_standing_2 : decode cX6_standing 2 = .ok (.iconst 0, 1) := by decide +kernel
theorem dX6_standing_3 : decode cX6_standing 3 = .ok (.istore_n 3, 1) := by decide +kernel
theorem dX6_standing_4 : decode cX6_standing 4 = .ok (.iload_n 3, 1) := by decide +kernel
theorem dX6_standing_5 : decode cX6_standing 5 = .ok (.aload_n 0, 1) := by decide +kernel
theorem dX6_standing_6 : decode cX6_standing 6 = .ok (.getfield 55, 3) := by decide +kernel
theorem dX6_standing_9 : decode cX6_standing 9 = .ok (.if_icmp .ge 36, 3) := by decide +kernel
theorem dX6_standing_12 : decode cX6_standing 12 = .ok (.iload_n 2, 1) := by decide +kernel
theorem dX6_standing_13 : decode cX6_standing 13 = .ok (.aload_n 0, 1) := by decide +kernel
theorem dX6_standing_14 : decode cX6_standing 14 = .ok (.getfield 26, 3) := by decide +kernel
theorem dX6_standing_17 : decode cX6_standing 17 = .ok (.iload_n 3, 1) := by decide +kernel
theorem dX6_standing_18 : decode cX6_standing 18 = .ok (.iaload, 1) := by decide +kernel
theorem dX6_standing_19 : decode cX6_standing 19 = .ok (.iload_n 1, 1) := by decide +kernel
theorem dX6_standing_20 : decode cX6_standing 20 = .ok (.if_icmp .ne 16, 3) := by decide +kernel
theorem dX6_standing_23 : decode cX6_standing 23 = .ok (.aload_n 0, 1) := by decide +kernel
theorem dX6_standing_24 : decode cX6_standing 24 = .ok (.getfield 35, 3) := by decide +kernel
theorem dX6_standing_27 : decode cX6_standing 27 = .ok (.iload_n 3, 1) := by decide +kernel
theorem dX6_standing_28 : decode cX6_standing 28 = .ok (.baload, 1) := by decide +kernel
theorem dX6_standing_29 : decode cX6_standing 29 = .ok (.ifCond .ne 7, 3) := by decide +kernel
theorem dX6_standing_32 : decode cX6_standing 32 = .ok (.iconst 1, 1) := by decide +kernel
theorem dX6_standing_33 : decode cX6_standing 33 = .ok (.goto 4, 3) := by decide +kernel
theorem dX6_standing_36 : decode cX6_standing 36 = .ok (.iconst 0, 1) := by decide +kernel
theorem dX6_standing_37 : decode cX6_standing 37 = .ok (.iadd, 1) := by decide +kernel
theorem dX6_standing_38 : decode cX6_standing 38 = .ok (.istore_n 2, 1) := by decide +kernel
theorem dX6_standing_39 : decode cX6_standing 39 = .ok (.iinc 3 1, 3) := by decide +kernel
theorem dX6_standing_42 : decode cX6_standing 42 = .ok (.goto (-38), 3) := by decide +kernel
theorem dX6_standing_45 : decode cX6_standing 45 = .ok (.iload_n 2, 1) := by decide +kernel
theorem dX6_standing_46 : decode cX6_standing 46 = .ok (.ireturn, 1) := by decide +kernel
set_option maxRecDepth 20000 in
theorem ggX6_isOpen_X6_isTransaction : GoodIn wsX6_isOpen wsX6_isTransaction := goodIn_r _ [5, 6, 7, 8, 4, 9, 20, 21, 22, 23, 24, 25, 26, 27, 28, 29, 30, 31, 32, 33, 34, 35, 36, 37] (by decide +kernel) (by decide +kernel)
set_option maxRecDepth 20000 in
theorem gX6_isOpen_X6_isTransaction : GoodIn wsX6_isOpen (wsV RX6 74 RX6 yX6_isTransaction wsX6_isTransaction) := goodIn_app (goodIn_of _ (by decide +kernel)) ggX6_isOpen_X6_isTransaction
set_option maxRecDepth 20000 in
theorem ggX6_isOpen_X6_isActive : GoodIn wsX6_isOpen wsX6_isActive := goodIn_r _ [13, 14, 20, 21, 22, 23, 24, 25, 26, 27, 28, 29, 30, 31, 32, 33, 34, 35, 36, 37] (by decide +kernel) (by decide +kernel)
set_option maxRecDepth 20000 in
theorem gX6_isOpen_X6_isActive : GoodIn wsX6_isOpen (wsV RX6 68 RX6 yX6_isActive wsX6_isActive) := goodIn_app (goodIn_of _ (by decide +kernel)) ggX6_isOpen_X6_isActive
set_option maxRecDepth 20000 in
theorem ggX6_isOpen_X6_can : GoodIn wsX6_isOpen wsX6_can := goodIn_r _ [18, 19, 20, 21, 22, 23, 24, 25, 26, 27, 28, 29, 30, 31, 32, 33, 34, 35, 36, 37] (by decide +kernel) (by decide +kernel)
set_option maxRecDepth 20000 in
theorem gX6_isOpen_X6_can : GoodIn wsX6_isOpen (wsV RX6 61 RX6 yX6_can wsX6_can) := goodIn_app (goodIn_of _ (by decide +kernel)) ggX6_isOpen_X6_can
theorem dX6_isOpen_0 : decode cX6_isOpen 0 = .ok (.aload_n 0, 1) := by decide +kernel
theorem dX6_isOpen_1 : decode cX6_isOpen 1 = .ok (.aload_n 0, 1) := by decide +kernel
theorem dX6_isOpen_2 : decode cX6_isOpen 2 = .ok (.iload_n 1, 1) := by decide +kernel
theorem dX6_isOpen_3 : decode cX6_isOpen 3 = .ok (.invokevirtual 74, 3) := by decide +kernel
theorem dX6_isOpen_6 : decode cX6_isOpen 6 = .ok (.ifCond .ne 7, 3) := by decide +kernel
theorem dX6_isOpen_9 : decode cX6_isOpen 9 = .ok (.iconst 1, 1) := by decide +kernel
theorem dX6_isOpen_10 : decode cX6_isOpen 10 = .ok (.goto 16, 3) := by decide +kernel
theorem dX6_isOpen_13 : decode cX6_isOpen 13 = .ok (.aload_n 0, 1) := by decide +kernel
theorem dX6_isOpen_14 : decode cX6_isOpen 14 = .ok (.iload_n 1, 1) := by decide +kernel
theorem dX6_isOpen_15 : decode cX6_isOpen 15 = .ok (.invokevirtual 68, 3) := by decide +kernel
theorem dX6_isOpen_18 : decode cX6_isOpen 18 = .ok (.ifCond .eq 7, 3) := by decide +kernel
theorem dX6_isOpen_21 : decode cX6_isOpen 21 = .ok (.iconst 0, 1) := by decide +kernel
theorem dX6_isOpen_22 : decode cX6_isOpen 22 = .ok (.goto 4, 3) := by decide +kernel
theorem dX6_isOpen_25 : decode cX6_isOpen 25 = .ok (.iconst 2, 1) := by decide +kernel
theorem dX6_isOpen_26 : decode cX6_isOpen 26 = .ok (.invokevirtual 61, 3) := by decide +kernel
theorem dX6_isOpen_29 : decode cX6_isOpen 29 = .ok (.ireturn, 1) := by decide +kernel
set_option maxRecDepth 20000 in
theorem ggX6_save_X6_isOpen : GoodIn wsX6_save wsX6_isOpen := goodIn_r _ [5, 6, 7, 8, 4, 9, 10, 11, 12, 13, 14, 15, 16, 17, 18, 19, 20, 21, 22, 23, 31, 32, 33, 34, 35, 36, 37, 38, 39, 40, 41, 42, 43, 44, 45, 46, 47, 48] (by decide +kernel) (by decide +kernel)
set_option maxRecDepth 20000 in
theorem gX6_save_X6_isOpen : GoodIn wsX6_save (wsV RX6 106 RX6 yX6_isOpen wsX6_isOpen) := goodIn_app (goodIn_of _ (by decide +kernel)) ggX6_save_X6_isOpen
set_option maxRecDepth 20000 in
theorem ggX6_save_X6_standing : GoodIn wsX6_save wsX6_standing := goodIn_r _ [27, 28, 29, 30, 31, 32, 33, 34, 35, 36, 37, 38, 39, 40, 41, 42, 43, 44, 45, 46, 47, 48] (by decide +kernel) (by decide +kernel)
set_option maxRecDepth 20000 in
theorem gX6_save_X6_standing : GoodIn wsX6_save (wsV RX6 109 RX6 yX6_standing wsX6_standing) := goodIn_app (goodIn_of _ (by decide +kernel)) ggX6_save_X6_standing
theorem dX6_save_0 : decode cX6_save 0 = .ok (.aload_n 0, 1) := by decide +kernel
theorem dX6_save_1 : decode cX6_save 1 = .ok (.iload_n 1, 1) := by decide +kernel
theorem dX6_save_2 : decode cX6_save 2 = .ok (.invokevirtual 106, 3) := by decide +kernel
theorem dX6_save_5 : decode cX6_save 5 = .ok (.ifCond .eq 11, 3) := by decide +kernel
theorem dX6_save_8 : decode cX6_save 8 = .ok (.aload_n 0, 1) := by decide +kernel
theorem dX6_save_9 : decode cX6_save 9 = .ok (.iload_n 1, 1) := by decide +kernel
theorem dX6_save_10 : decode cX6_save 10 = .ok (.invokevirtual 109, 3) := by decide +kernel
theorem dX6_save_13 : decode cX6_save 13 = .ok (.goto 4, 3) := by decide +kernel
theorem dX6_save_16 : decode cX6_save 16 = .ok (.iconst 0, 1) := by decide +kernel
theorem dX6_save_17 : decode cX6_save 17 = .ok (.ireturn, 1) := by decide +kernel
theorem dX6_undoes_0 : decode cX6_undoes 0 = .ok (.iload_n 2, 1) := by decide +kernel
theorem dX6_undoes_1 : decode cX6_undoes 1 = .ok (.istore_n 3, 1) := by decide +kernel
theorem dX6_undoes_2 : decode cX6_undoes 2 = .ok (.aload_n 0, 1) := by decide +kernel
theorem dX6_undoes_3 : decode cX6_undoes 3 = .ok (.getfield 55, 3) := by decide +kernel
theorem dX6_undoes_6 : decode cX6_undoes 6 = .ok (.iconst 1, 1) := by decide +kernel
theorem dX6_undoes_7 : decode cX6_undoes 7 = .ok (.isub, 1) := by decide +kernel
theorem dX6_undoes_8 : decode cX6_undoes 8 = .ok (.istore 4, 2) := by decide +kernel
theorem dX6_undoes_10 : decode cX6_undoes 10 = .ok (.iload 4, 2) := by decide +kernel
theorem dX6_undoes_12 : decode cX6_undoes 12 = .ok (.ifCond .lt 64, 3) := by decide +kernel
theorem dX6_undoes_15 : decode cX6_undoes 15 = .ok (.iload_n 3, 1) := by decide +kernel
theorem dX6_undoes_16 : decode cX6_undoes 16 = .ok (.ifCond .le 60, 3) := by decide +kernel
theorem dX6_undoes_19 : decode cX6_undoes 19 = .ok (.aload_n 0, 1) := by decide +kernel
theorem dX6_undoes_20 : decode cX6_undoes 20 = .ok (.getfield 26, 3) := by decide +kernel
theorem dX6_undoes_23 : decode cX6_undoes 23 = .ok (.iload 4, 2) := by decide +kernel
theorem dX6_undoes_25 : decode cX6_undoes 25 = .ok (.iaload, 1) := by decide +kernel
theorem dX6_undoes_26 : decode cX6_undoes 26 = .ok (.iload_n 1, 1) := by decide +kernel
theorem dX6_undoes_27 : decode cX6_undoes 27 = .ok (.if_icmp .ne 43, 3) := by decide +kernel
theorem dX6_undoes_30 : decode cX6_undoes 30 = .ok (.aload_n 0, 1) := by decide +kernel
theorem dX6_undoes_31 : decode cX6_undoes 31 = .ok (.getfield 35, 3) := by decide +kernel
theorem dX6_undoes_34 : decode cX6_undoes 34 = .ok (.iload 4, 2) := by decide +kernel
theorem dX6_undoes_36 : decode cX6_undoes 36 = .ok (.baload, 1) := by decide +kernel
theorem dX6_undoes_37 : decode cX6_undoes 37 = .ok (.ifCond .ne 33, 3) := by decide +kernel
theorem dX6_undoes_40 : decode cX6_undoes 40 = .ok (.aload_n 0, 1) := by decide +kernel
theorem dX6_undoes_41 : decode cX6_undoes 41 = .ok (.getfield 35, 3) := by decide +kernel
theorem dX6_undoes_44 : decode cX6_undoes 44 = .ok (.iload 4, 2) := by decide +kernel
theorem dX6_undoes_46 : decode cX6_undoes 46 = .ok (.iconst 1, 1) := by decide +kernel
theorem dX6_undoes_47 : decode cX6_undoes 47 = .ok (.bastore, 1) := by decide +kernel
theorem dX6_undoes_48 : decode cX6_undoes 48 = .ok (.aload_n 0, 1) := by decide +kernel
theorem dX6_undoes_49 : decode cX6_undoes 49 = .ok (.getfield 7, 3) := by decide +kernel
theorem dX6_undoes_52 : decode cX6_undoes 52 = .ok (.aload_n 0, 1) := by decide +kernel
theorem dX6_undoes_53 : decode cX6_undoes 53 = .ok (.getfield 29, 3) := by decide +kernel
theorem dX6_undoes_56 : decode cX6_undoes 56 = .ok (.iload 4, 2) := by decide +kernel
theorem dX6_undoes_58 : decode cX6_undoes 58 = .ok (.iaload, 1) := by decide +kernel
theorem dX6_undoes_59 : decode cX6_undoes 59 = .ok (.aload_n 0, 1) := by decide +kernel
theorem dX6_undoes_60 : decode cX6_undoes 60 = .ok (.getfield 32, 3) := by decide +kernel
theorem dX6_undoes_63 : decode cX6_undoes 63 = .ok (.iload 4, 2) := by decide +kernel
theorem dX6_undoes_65 : decode cX6_undoes 65 = .ok (.iaload, 1) := by decide +kernel
theorem dX6_undoes_66 : decode cX6_undoes 66 = .ok (.iastore, 1) := by decide +kernel
theorem dX6_undoes_67 : decode cX6_undoes 67 = .ok (.iinc 3 (-1), 3) := by decide +kernel
theorem dX6_undoes_70 : decode cX6_undoes 70 = .ok (.iinc 4 (-1), 3) := by decide +kernel
theorem dX6_undoes_73 : decode cX6_undoes 73 = .ok (.goto (-63), 3) := by decide +kernel
theorem dX6_undoes_76 : decode cX6_undoes 76 = .ok (.return_, 1) := by decide +kernel
set_option maxRecDepth 20000 in
theorem ggX6_undoTo_X6_isOpen : GoodIn wsX6_undoTo wsX6_isOpen := goodIn_r _ [5, 6, 7, 8, 4, 9, 10, 11, 12, 13, 14, 15, 16, 17, 18, 19, 20, 21, 22, 23, 38, 39, 40, 41, 42, 43, 44, 45, 46, 47, 48, 49, 50, 51, 52, 53, 54, 55] (by decide +kernel) (by decide +kernel)
set_option maxRecDepth 20000 in
theorem gX6_undoTo_X6_isOpen : GoodIn wsX6_undoTo (wsV RX6 106 RX6 yX6_isOpen wsX6_isOpen) := goodIn_app (goodIn_of _ (by decide +kernel)) ggX6_undoTo_X6_isOpen
set_option maxRecDepth 20000 in
theorem ggX6_undoTo_X6_standing : GoodIn wsX6_undoTo wsX6_standing := goodIn_r _ [27, 28, 29, 30, 38, 39, 40, 41, 42, 43, 44, 45, 46, 47, 48, 49, 50, 51, 52, 53, 54, 55] (by decide +kernel) (by decide +kernel)
set_option maxRecDepth 20000 in
theorem gX6_undoTo_X6_standing : GoodIn wsX6_undoTo (wsV RX6 109 RX6 yX6_standing wsX6_standing) := goodIn_app (goodIn_of _ (by decide +kernel)) ggX6_undoTo_X6_standing
set_option maxRecDepth 20000 in
theorem ggX6_undoTo_X6_isIn : GoodIn wsX6_undoTo wsX6_isIn := goodIn_r _ [13] (by decide +kernel) (by decide +kernel)
set_option maxRecDepth 20000 in
theorem gX6_undoTo_X6_isIn : GoodIn wsX6_undoTo (va_wsS RX6 48 yX6_isIn wsX6_isIn) := goodIn_app (goodIn_of _ (by decide +kernel)) ggX6_undoTo_X6_isIn
set_option maxRecDepth 20000 in
theorem ggX6_undoTo_X6_can : GoodIn wsX6_undoTo wsX6_can := goodIn_r _ [22, 23, 38, 39, 40, 41, 42, 43, 44, 45, 46, 47, 48, 49, 50, 51, 52, 53, 54, 55] (by decide +kernel) (by decide +kernel)
set_option maxRecDepth 20000 in
theorem gX6_undoTo_X6_can : GoodIn wsX6_undoTo (wsV RX6 61 RX6 yX6_can wsX6_can) := goodIn_app (goodIn_of _ (by decide +kernel)) ggX6_undoTo_X6_can
set_option maxRecDepth 20000 in
theorem ggX6_undoTo_X6_undoes : GoodIn wsX6_undoTo wsX6_undoes := goodIn_r _ [34, 28, 29, 30, 35, 36, 37, 38, 39, 40, 41, 42, 43, 44, 45, 46, 47, 48, 49, 50, 51, 52, 53, 54, 55] (by decide +kernel) (by decide +kernel)
set_option maxRecDepth 20000 in
theorem gX6_undoTo_X6_undoes : GoodIn wsX6_undoTo (wsV RX6 112 RX6 yX6_undoes wsX6_undoes) := goodIn_app (goodIn_of _ (by decide +kernel)) ggX6_undoTo_X6_undoes
theorem dX6_undoTo_0 : decode cX6_undoTo 0 = .ok (.aload_n 0, 1) := by decide +kernel
theorem dX6_undoTo_1 : decode cX6_undoTo 1 = .ok (.iload_n 1, 1) := by decide +kernel
theorem dX6_undoTo_2 : decode cX6_undoTo 2 = .ok (.invokevirtual 106, 3) := by decide +kernel
theorem dX6_undoTo_5 : decode cX6_undoTo 5 = .ok (.ifCond .ne 5, 3) := by decide +kernel
theorem dX6_undoTo_8 : decode cX6_undoTo 8 = .ok (.iconst 0, 1) := by decide +kernel
theorem dX6_undoTo_9 : decode cX6_undoTo 9 = .ok (.ireturn, 1) := by decide +kernel
theorem dX6_undoTo_10 : decode cX6_undoTo 10 = .ok (.aload_n 0, 1) := by decide +kernel
theorem dX6_undoTo_11 : decode cX6_undoTo 11 = .ok (.iload_n 1, 1) := by decide +kernel
theorem dX6_undoTo_12 : decode cX6_undoTo 12 = .ok (.invokevirtual 109, 3) := by decide +kernel
theorem dX6_undoTo_15 : decode cX6_undoTo 15 = .ok (.istore_n 3, 1) := by decide +kernel
theorem dX6_undoTo_16 : decode cX6_undoTo 16 = .ok (.aload_n 0, 1) := by decide +kernel
theorem dX6_undoTo_17 : decode cX6_undoTo 17 = .ok (.iload_n 2, 1) := by decide +kernel
theorem dX6_undoTo_18 : decode cX6_undoTo 18 = .ok (.iconst 0, 1) := by decide +kernel
theorem dX6_undoTo_19 : decode cX6_undoTo 19 = .ok (.iload_n 3, 1) := by decide +kernel
theorem dX6_undoTo_20 : decode cX6_undoTo 20 = .ok (.invokestatic 48, 3) := by decide +kernel
theorem dX6_undoTo_23 : decode cX6_undoTo 23 = .ok (.ifCond .eq 7, 3) := by decide +kernel
theorem dX6_undoTo_26 : decode cX6_undoTo 26 = .ok (.iconst 0, 1) := by decide +kernel
theorem dX6_undoTo_27 : decode cX6_undoTo 27 = .ok (.goto 4, 3) := by decide +kernel
theorem dX6_undoTo_30 : decode cX6_undoTo 30 = .ok (.iconst 3, 1) := by decide +kernel
theorem dX6_undoTo_31 : decode cX6_undoTo 31 = .ok (.invokevirtual 61, 3) := by decide +kernel
theorem dX6_undoTo_34 : decode cX6_undoTo 34 = .ok (.ifCond .ne 5, 3) := by decide +kernel
theorem dX6_undoTo_37 : decode cX6_undoTo 37 = .ok (.iconst 0, 1) := by decide +kernel
theorem dX6_undoTo_38 : decode cX6_undoTo 38 = .ok (.ireturn, 1) := by decide +kernel
theorem dX6_undoTo_39 : decode cX6_undoTo 39 = .ok (.aload_n 0, 1) := by decide +kernel
theorem dX6_undoTo_40 : decode cX6_undoTo 40 = .ok (.iload_n 1, 1) := by decide +kernel
theorem dX6_undoTo_41 : decode cX6_undoTo 41 = .ok (.iload_n 3, 1) := by decide +kernel
theorem dX6_undoTo_42 : decode cX6_undoTo 42 = .ok (.iload_n 2, 1) := by decide +kernel
theorem dX6_undoTo_43 : decode cX6_undoTo 43 = .ok (.isub, 1) := by decide +kernel
theorem dX6_undoTo_44 : decode cX6_undoTo 44 = .ok (.invokevirtual 112, 3) := by decide +kernel
theorem dX6_undoTo_47 : decode cX6_undoTo 47 = .ok (.iload_n 3, 1) := by decide +kernel
theorem dX6_undoTo_48 : decode cX6_undoTo 48 = .ok (.iload_n 2, 1) := by decide +kernel
theorem dX6_undoTo_49 : decode cX6_undoTo 49 = .ok (.isub, 1) := by decide +kernel
theorem dX6_undoTo_50 : decode cX6_undoTo 50 = .ok (.ireturn, 1) := by decide +kernel
set_option maxRecDepth 20000 in
theorem ggX6_undo_X6_isOpen : GoodIn wsX6_undo wsX6_isOpen := goodIn_r _ [6, 7, 8, 9, 5, 10, 11, 12, 13, 14, 15, 16, 17, 18, 1, 19, 20, 21, 22, 23, 38, 39, 40, 41, 42, 43, 44, 45, 46, 47, 48, 49, 50, 51, 52, 53, 54, 55] (by decide +kernel) (by decide +kernel)
set_option maxRecDepth 20000 in
theorem gX6_undo_X6_isOpen : GoodIn wsX6_undo (wsV RX6 106 RX6 yX6_isOpen wsX6_isOpen) := goodIn_app (goodIn_of _ (by decide +kernel)) ggX6_undo_X6_isOpen
set_option maxRecDepth 20000 in
theorem ggX6_undo_X6_standing : GoodIn wsX6_undo wsX6_standing := goodIn_r _ [27, 28, 29, 30, 38, 39, 40, 41, 42, 43, 44, 45, 46, 47, 48, 49, 50, 51, 52, 53, 54, 55] (by decide +kernel) (by decide +kernel)
set_option maxRecDepth 20000 in
theorem gX6_undo_X6_standing : GoodIn wsX6_undo (wsV RX6 109 RX6 yX6_standing wsX6_standing) := goodIn_app (goodIn_of _ (by decide +kernel)) ggX6_undo_X6_standing
set_option maxRecDepth 20000 in
theorem ggX6_undo_X6_undoes : GoodIn wsX6_undo wsX6_undoes := goodIn_r _ [34, 28, 29, 30, 35, 36, 37, 38, 39, 40, 41, 42, 43, 44, 45, 46, 47, 48, 49, 50, 51, 52, 53, 54, 55] (by decide +kernel) (by decide +kernel)
set_option maxRecDepth 20000 in
theorem gX6_undo_X6_undoes : GoodIn wsX6_undo (wsV RX6 112 RX6 yX6_undoes wsX6_undoes) := goodIn_app (goodIn_of _ (by decide +kernel)) ggX6_undo_X6_undoes
theorem dX6_undo_0 : decode cX6_undo 0 = .ok (.aload_n 0, 1) := by decide +kernel
theorem dX6_undo_1 : decode cX6_undo 1 = .ok (.iload_n 1, 1) := by decide +kernel
theorem dX6_undo_2 : decode cX6_undo 2 = .ok (.invokevirtual 106, 3) := by decide +kernel
theorem dX6_undo_5 : decode cX6_undo 5 = .ok (.ifCond .ne 5, 3) := by decide +kernel
theorem dX6_undo_8 : decode cX6_undo 8 = .ok (.iconst 0, 1) := by decide +kernel
theorem dX6_undo_9 : decode cX6_undo 9 = .ok (.ireturn, 1) := by decide +kernel
theorem dX6_undo_10 : decode cX6_undo 10 = .ok (.aload_n 0, 1) := by decide +kernel
theorem dX6_undo_11 : decode cX6_undo 11 = .ok (.iload_n 1, 1) := by decide +kernel
theorem dX6_undo_12 : decode cX6_undo 12 = .ok (.invokevirtual 109, 3) := by decide +kernel
theorem dX6_undo_15 : decode cX6_undo 15 = .ok (.istore_n 2, 1) := by decide +kernel
theorem dX6_undo_16 : decode cX6_undo 16 = .ok (.aload_n 0, 1) := by decide +kernel
theorem dX6_undo_17 : decode cX6_undo 17 = .ok (.iload_n 1, 1) := by decide +kernel
theorem dX6_undo_18 : decode cX6_undo 18 = .ok (.iload_n 2, 1) := by decide +kernel
theorem dX6_undo_19 : decode cX6_undo 19 = .ok (.invokevirtual 112, 3) := by decide +kernel
theorem dX6_undo_22 : decode cX6_undo 22 = .ok (.aload_n 0, 1) := by decide +kernel
theorem dX6_undo_23 : decode cX6_undo 23 = .ok (.getfield 17, 3) := by decide +kernel
theorem dX6_undo_26 : decode cX6_undo 26 = .ok (.iload_n 1, 1) := by decide +kernel
theorem dX6_undo_27 : decode cX6_undo 27 = .ok (.iconst 2, 1) := by decide +kernel
theorem dX6_undo_28 : decode cX6_undo 28 = .ok (.iastore, 1) := by decide +kernel
theorem dX6_undo_29 : decode cX6_undo 29 = .ok (.iload_n 2, 1) := by decide +kernel
theorem dX6_undo_30 : decode cX6_undo 30 = .ok (.ireturn, 1) := by decide +kernel
set_option maxRecDepth 20000 in
theorem ggX6_commit_X6_isOpen : GoodIn wsX6_commit wsX6_isOpen := goodIn_r _ [8, 9, 10, 11, 7, 12, 13, 14, 15, 16, 17, 18, 19, 20, 2, 21, 22, 23, 24, 25, 26, 27, 28, 29, 30, 31, 32, 33, 34, 35, 36, 37, 38, 39, 40, 41, 42, 43] (by decide +kernel) (by decide +kernel)
set_option maxRecDepth 20000 in
theorem gX6_commit_X6_isOpen : GoodIn wsX6_commit (wsV RX6 106 RX6 yX6_isOpen wsX6_isOpen) := goodIn_app (goodIn_of _ (by decide +kernel)) ggX6_commit_X6_isOpen
theorem dX6_commit_0 : decode cX6_commit 0 = .ok (.aload_n 0, 1) := by decide +kernel
theorem dX6_commit_1 : decode cX6_commit 1 = .ok (.iload_n 1, 1) := by decide +kernel
theorem dX6_commit_2 : decode cX6_commit 2 = .ok (.invokevirtual 106, 3) := by decide +kernel
theorem dX6_commit_5 : decode cX6_commit 5 = .ok (.ifCond .ne 5, 3) := by decide +kernel
theorem dX6_commit_8 : decode cX6_commit 8 = .ok (.iconst 0, 1) := by decide +kernel
theorem dX6_commit_9 : decode cX6_commit 9 = .ok (.ireturn, 1) := by decide +kernel
theorem dX6_commit_10 : decode cX6_commit 10 = .ok (.aload_n 0, 1) := by decide +kernel
theorem dX6_commit_11 : decode cX6_commit 11 = .ok (.dup, 1) := by decide +kernel
theorem dX6_commit_12 : decode cX6_commit 12 = .ok (.getfield 65, 3) := by decide +kernel
theorem dX6_commit_15 : decode cX6_commit 15 = .ok (.iconst 1, 1) := by decide +kernel
theorem dX6_commit_16 : decode cX6_commit 16 = .ok (.iadd, 1) := by decide +kernel
theorem dX6_commit_17 : decode cX6_commit 17 = .ok (.putfield 65, 3) := by decide +kernel
theorem dX6_commit_20 : decode cX6_commit 20 = .ok (.aload_n 0, 1) := by decide +kernel
theorem dX6_commit_21 : decode cX6_commit 21 = .ok (.getfield 17, 3) := by decide +kernel
theorem dX6_commit_24 : decode cX6_commit 24 = .ok (.iload_n 1, 1) := by decide +kernel
theorem dX6_commit_25 : decode cX6_commit 25 = .ok (.iconst 1, 1) := by decide +kernel
theorem dX6_commit_26 : decode cX6_commit 26 = .ok (.iastore, 1) := by decide +kernel
theorem dX6_commit_27 : decode cX6_commit 27 = .ok (.aload_n 0, 1) := by decide +kernel
theorem dX6_commit_28 : decode cX6_commit 28 = .ok (.getfield 23, 3) := by decide +kernel
theorem dX6_commit_31 : decode cX6_commit 31 = .ok (.iload_n 1, 1) := by decide +kernel
theorem dX6_commit_32 : decode cX6_commit 32 = .ok (.aload_n 0, 1) := by decide +kernel
theorem dX6_commit_33 : decode cX6_commit 33 = .ok (.getfield 65, 3) := by decide +kernel
theorem dX6_commit_36 : decode cX6_commit 36 = .ok (.iastore, 1) := by decide +kernel
theorem dX6_commit_37 : decode cX6_commit 37 = .ok (.aload_n 0, 1) := by decide +kernel
theorem dX6_commit_38 : decode cX6_commit 38 = .ok (.getfield 65, 3) := by decide +kernel
theorem dX6_commit_41 : decode cX6_commit 41 = .ok (.ireturn, 1) := by decide +kernel
theorem dX6_moment_0 : decode cX6_moment 0 = .ok (.aload_n 0, 1) := by decide +kernel
theorem dX6_moment_1 : decode cX6_moment 1 = .ok (.iconst 0, 1) := by decide +kernel
theorem dX6_moment_2 : decode cX6_moment 2 = .ok (.putfield 45, 3) := by decide +kernel
theorem dX6_moment_5 : decode cX6_moment 5 = .ok (.aload_n 0, 1) := by decide +kernel
theorem dX6_moment_6 : decode cX6_moment 6 = .ok (.getfield 65, 3) := by decide +kernel
theorem dX6_moment_9 : decode cX6_moment 9 = .ok (.ireturn, 1) := by decide +kernel
theorem dX6_transactions_0 : decode cX6_transactions 0 = .ok (.aload_n 0, 1) := by decide +kernel
theorem dX6_transactions_1 : decode cX6_transactions 1 = .ok (.iconst 0, 1) := by decide +kernel
theorem dX6_transactions_2 : decode cX6_transactions 2 = .ok (.putfield 45, 3) := by decide +kernel
theorem dX6_transactions_5 : decode cX6_transactions 5 = .ok (.aload_n 0, 1) := by decide +kernel
theorem dX6_transactions_6 : decode cX6_transactions 6 = .ok (.getfield 52, 3) := by decide +kernel
theorem dX6_transactions_9 : decode cX6_transactions 9 = .ok (.ireturn, 1) := by decide +kernel
set_option maxRecDepth 20000 in
theorem ggX6_now_X6_isRow : GoodIn wsX6_now wsX6_isRow := goodIn_r _ [5, 6, 7, 4, 8] (by decide +kernel) (by decide +kernel)
set_option maxRecDepth 20000 in
theorem gX6_now_X6_isRow : GoodIn wsX6_now (va_wsS RX6 77 yX6_isRow wsX6_isRow) := goodIn_app (goodIn_of _ (by decide +kernel)) ggX6_now_X6_isRow
set_option maxRecDepth 20000 in
theorem ggX6_now_X6_can : GoodIn wsX6_now wsX6_can := goodIn_r _ [12, 13, 14, 15, 16, 17, 18, 19, 20, 21, 22, 23, 24, 25, 26, 27, 28, 29, 30, 31] (by decide +kernel) (by decide +kernel)
set_option maxRecDepth 20000 in
theorem gX6_now_X6_can : GoodIn wsX6_now (wsV RX6 61 RX6 yX6_can wsX6_can) := goodIn_app (goodIn_of _ (by decide +kernel)) ggX6_now_X6_can
theorem dX6_now_0 : decode cX6_now 0 = .ok (.aload_n 0, 1) := by decide +kernel
theorem dX6_now_1 : decode cX6_now 1 = .ok (.iload_n 1, 1) := by decide +kernel
theorem dX6_now_2 : decode cX6_now 2 = .ok (.invokestatic 77, 3) := by decide +kernel
theorem dX6_now_5 : decode cX6_now 5 = .ok (.ifCond .eq 7, 3) := by decide +kernel
theorem dX6_now_8 : decode cX6_now 8 = .ok (.iconst 0, 1) := by decide +kernel
theorem dX6_now_9 : decode cX6_now 9 = .ok (.goto 4, 3) := by decide +kernel
theorem dX6_now_12 : decode cX6_now 12 = .ok (.iconst 1, 1) := by decide +kernel
theorem dX6_now_13 : decode cX6_now 13 = .ok (.invokevirtual 61, 3) := by decide +kernel
theorem dX6_now_16 : decode cX6_now 16 = .ok (.ifCond .eq 12, 3) := by decide +kernel
theorem dX6_now_19 : decode cX6_now 19 = .ok (.aload_n 0, 1) := by decide +kernel
theorem dX6_now_20 : decode cX6_now 20 = .ok (.getfield 7, 3) := by decide +kernel
theorem dX6_now_23 : decode cX6_now 23 = .ok (.iload_n 1, 1) := by decide +kernel
theorem dX6_now_24 : decode cX6_now 24 = .ok (.iaload, 1) := by decide +kernel
theorem dX6_now_25 : decode cX6_now 25 = .ok (.goto 4, 3) := by decide +kernel
theorem dX6_now_28 : decode cX6_now 28 = .ok (.iconst 0, 1) := by decide +kernel
theorem dX6_now_29 : decode cX6_now 29 = .ok (.ireturn, 1) := by decide +kernel
set_option maxRecDepth 20000 in
theorem ggX6_versionAt_X6_isRow : GoodIn wsX6_versionAt wsX6_isRow := goodIn_r _ [5, 6, 7, 4, 8] (by decide +kernel) (by decide +kernel)
set_option maxRecDepth 20000 in
theorem gX6_versionAt_X6_isRow : GoodIn wsX6_versionAt (va_wsS RX6 77 yX6_isRow wsX6_isRow) := goodIn_app (goodIn_of _ (by decide +kernel)) ggX6_versionAt_X6_isRow
set_option maxRecDepth 20000 in
theorem ggX6_versionAt_X6_isIn : GoodIn wsX6_versionAt wsX6_isIn := goodIn_r _ [8] (by decide +kernel) (by decide +kernel)
set_option maxRecDepth 20000 in
theorem gX6_versionAt_X6_isIn : GoodIn wsX6_versionAt (va_wsS RX6 48 yX6_isIn wsX6_isIn) := goodIn_app (goodIn_of _ (by decide +kernel)) ggX6_versionAt_X6_isIn
set_option maxRecDepth 20000 in
theorem ggX6_versionAt_X6_can : GoodIn wsX6_versionAt wsX6_can := goodIn_r _ [12, 13, 28, 29, 30, 31, 32, 33, 34, 35, 36, 37, 38, 39, 40, 41, 42, 43, 44, 45] (by decide +kernel) (by decide +kernel)
set_option maxRecDepth 20000 in
theorem gX6_versionAt_X6_can : GoodIn wsX6_versionAt (wsV RX6 61 RX6 yX6_can wsX6_can) := goodIn_app (goodIn_of _ (by decide +kernel)) ggX6_versionAt_X6_can
set_option maxRecDepth 20000 in
theorem ggX6_versionAt_X6_valueAt : GoodIn wsX6_versionAt wsX6_valueAt := goodIn_r _ [17, 18, 19, 20, 21, 22, 23, 24, 25, 26, 27, 28, 29, 30, 31, 32, 33, 34, 35, 36, 37, 38, 39, 40, 41, 42, 43, 44, 45] (by decide +kernel) (by decide +kernel)
set_option maxRecDepth 20000 in
theorem gX6_versionAt_X6_valueAt : GoodIn wsX6_versionAt (wsV RX6 102 RX6 yX6_valueAt wsX6_valueAt) := goodIn_app (goodIn_of _ (by decide +kernel)) ggX6_versionAt_X6_valueAt
theorem dX6_versionAt_0 : decode cX6_versionAt 0 = .ok (.aload_n 0, 1) := by decide +kernel
theorem dX6_versionAt_1 : decode cX6_versionAt 1 = .ok (.iload_n 2, 1) := by decide +kernel
theorem dX6_versionAt_2 : decode cX6_versionAt 2 = .ok (.invokestatic 77, 3) := by decide +kernel
theorem dX6_versionAt_5 : decode cX6_versionAt 5 = .ok (.ifCond .ne 7, 3) := by decide +kernel
theorem dX6_versionAt_8 : decode cX6_versionAt 8 = .ok (.iconst 1, 1) := by decide +kernel
theorem dX6_versionAt_9 : decode cX6_versionAt 9 = .ok (.goto 20, 3) := by decide +kernel
theorem dX6_versionAt_12 : decode cX6_versionAt 12 = .ok (.iload_n 1, 1) := by decide +kernel
theorem dX6_versionAt_13 : decode cX6_versionAt 13 = .ok (.iconst 0, 1) := by decide +kernel
theorem dX6_versionAt_14 : decode cX6_versionAt 14 = .ok (.aload_n 0, 1) := by decide +kernel
theorem dX6_versionAt_15 : decode cX6_versionAt 15 = .ok (.getfield 65, 3) := by decide +kernel
theorem dX6_versionAt_18 : decode cX6_versionAt 18 = .ok (.invokestatic 48, 3) := by decide +kernel
theorem dX6_versionAt_21 : decode cX6_versionAt 21 = .ok (.ifCond .eq 7, 3) := by decide +kernel
theorem dX6_versionAt_24 : decode cX6_versionAt 24 = .ok (.iconst 0, 1) := by decide +kernel
theorem dX6_versionAt_25 : decode cX6_versionAt 25 = .ok (.goto 4, 3) := by decide +kernel
theorem dX6_versionAt_28 : decode cX6_versionAt 28 = .ok (.iconst 2, 1) := by decide +kernel
theorem dX6_versionAt_29 : decode cX6_versionAt 29 = .ok (.invokevirtual 61, 3) := by decide +kernel
theorem dX6_versionAt_32 : decode cX6_versionAt 32 = .ok (.ifCond .eq 13, 3) := by decide +kernel
theorem dX6_versionAt_35 : decode cX6_versionAt 35 = .ok (.aload_n 0, 1) := by decide +kernel
theorem dX6_versionAt_36 : decode cX6_versionAt 36 = .ok (.iload_n 1, 1) := by decide +kernel
theorem dX6_versionAt_37 : decode cX6_versionAt 37 = .ok (.iload_n 2, 1) := by decide +kernel
theorem dX6_versionAt_38 : decode cX6_versionAt 38 = .ok (.iconst (-1), 1) := by decide +kernel
theorem dX6_versionAt_39 : decode cX6_versionAt 39 = .ok (.invokevirtual 102, 3) := by decide +kernel
theorem dX6_versionAt_42 : decode cX6_versionAt 42 = .ok (.goto 4, 3) := by decide +kernel
theorem dX6_versionAt_45 : decode cX6_versionAt 45 = .ok (.iconst 0, 1) := by decide +kernel
theorem dX6_versionAt_46 : decode cX6_versionAt 46 = .ok (.ireturn, 1) := by decide +kernel
set_option maxRecDepth 20000 in
theorem ggX6_lockOf_X6_isRow : GoodIn wsX6_lockOf wsX6_isRow := goodIn_r _ [4, 5, 6, 3, 7] (by decide +kernel) (by decide +kernel)
set_option maxRecDepth 20000 in
theorem gX6_lockOf_X6_isRow : GoodIn wsX6_lockOf (va_wsS RX6 77 yX6_isRow wsX6_isRow) := goodIn_app (goodIn_of _ (by decide +kernel)) ggX6_lockOf_X6_isRow
set_option maxRecDepth 20000 in
theorem ggX6_lockOf_X6_can : GoodIn wsX6_lockOf wsX6_can := goodIn_r _ [11, 12, 26, 27, 28, 29, 30, 31, 32, 33, 34, 35, 36, 37, 38, 39, 40, 41, 42, 43] (by decide +kernel) (by decide +kernel)
set_option maxRecDepth 20000 in
theorem gX6_lockOf_X6_can : GoodIn wsX6_lockOf (wsV RX6 61 RX6 yX6_can wsX6_can) := goodIn_app (goodIn_of _ (by decide +kernel)) ggX6_lockOf_X6_can
set_option maxRecDepth 20000 in
theorem ggX6_lockOf_X6_lockOn : GoodIn wsX6_lockOf wsX6_lockOn := goodIn_r _ [16, 17, 18, 19, 20, 21, 22, 23, 3, 24, 25, 26, 27, 28, 29, 30, 31, 32, 33, 34, 35, 36, 37, 38, 39, 40, 41, 42, 43] (by decide +kernel) (by decide +kernel)
set_option maxRecDepth 20000 in
theorem gX6_lockOf_X6_lockOn : GoodIn wsX6_lockOf (wsV RX6 82 RX6 yX6_lockOn wsX6_lockOn) := goodIn_app (goodIn_of _ (by decide +kernel)) ggX6_lockOf_X6_lockOn
theorem dX6_lockOf_0 : decode cX6_lockOf 0 = .ok (.aload_n 0, 1) := by decide +kernel
theorem dX6_lockOf_1 : decode cX6_lockOf 1 = .ok (.iload_n 1, 1) := by decide +kernel
theorem dX6_lockOf_2 : decode cX6_lockOf 2 = .ok (.invokestatic 77, 3) := by decide +kernel
theorem dX6_lockOf_5 : decode cX6_lockOf 5 = .ok (.ifCond .eq 7, 3) := by decide +kernel
theorem dX6_lockOf_8 : decode cX6_lockOf 8 = .ok (.iconst 0, 1) := by decide +kernel
theorem dX6_lockOf_9 : decode cX6_lockOf 9 = .ok (.goto 4, 3) := by decide +kernel
theorem dX6_lockOf_12 : decode cX6_lockOf 12 = .ok (.iconst 1, 1) := by decide +kernel
theorem dX6_lockOf_13 : decode cX6_lockOf 13 = .ok (.invokevirtual 61, 3) := by decide +kernel
theorem dX6_lockOf_16 : decode cX6_lockOf 16 = .ok (.ifCond .eq 11, 3) := by decide +kernel
theorem dX6_lockOf_19 : decode cX6_lockOf 19 = .ok (.aload_n 0, 1) := by decide +kernel
theorem dX6_lockOf_20 : decode cX6_lockOf 20 = .ok (.iload_n 1, 1) := by decide +kernel
theorem dX6_lockOf_21 : decode cX6_lockOf 21 = .ok (.invokevirtual 82, 3) := by decide +kernel
theorem dX6_lockOf_24 : decode cX6_lockOf 24 = .ok (.goto 4, 3) := by decide +kernel
theorem dX6_lockOf_27 : decode cX6_lockOf 27 = .ok (.iconst 0, 1) := by decide +kernel
theorem dX6_lockOf_28 : decode cX6_lockOf 28 = .ok (.ireturn, 1) := by decide +kernel
set_option maxRecDepth 20000 in
theorem ggX6_isSlot_X6_isIn : GoodIn wsX6_isSlot wsX6_isIn := goodIn_r _ [4] (by decide +kernel) (by decide +kernel)
set_option maxRecDepth 20000 in
theorem gX6_isSlot_X6_isIn : GoodIn wsX6_isSlot (va_wsS RX6 48 yX6_isIn wsX6_isIn) := goodIn_app (goodIn_of _ (by decide +kernel)) ggX6_isSlot_X6_isIn
theorem dX6_isSlot_0 : decode cX6_isSlot 0 = .ok (.iload_n 0, 1) := by decide +kernel
theorem dX6_isSlot_1 : decode cX6_isSlot 1 = .ok (.iconst 0, 1) := by decide +kernel
theorem dX6_isSlot_2 : decode cX6_isSlot 2 = .ok (.iconst 2, 1) := by decide +kernel
theorem dX6_isSlot_3 : decode cX6_isSlot 3 = .ok (.invokestatic 48, 3) := by decide +kernel
theorem dX6_isSlot_6 : decode cX6_isSlot 6 = .ok (.ifCond .eq 16, 3) := by decide +kernel
theorem dX6_isSlot_9 : decode cX6_isSlot 9 = .ok (.iload_n 1, 1) := by decide +kernel
theorem dX6_isSlot_10 : decode cX6_isSlot 10 = .ok (.iconst 0, 1) := by decide +kernel
theorem dX6_isSlot_11 : decode cX6_isSlot 11 = .ok (.iconst 1, 1) := by decide +kernel
theorem dX6_isSlot_12 : decode cX6_isSlot 12 = .ok (.invokestatic 48, 3) := by decide +kernel
theorem dX6_isSlot_15 : decode cX6_isSlot 15 = .ok (.ifCond .eq 7, 3) := by decide +kernel
theorem dX6_isSlot_18 : decode cX6_isSlot 18 = .ok (.iconst 1, 1) := by decide +kernel
theorem dX6_isSlot_19 : decode cX6_isSlot 19 = .ok (.goto 4, 3) := by decide +kernel
theorem dX6_isSlot_22 : decode cX6_isSlot 22 = .ok (.iconst 0, 1) := by decide +kernel
theorem dX6_isSlot_23 : decode cX6_isSlot 23 = .ok (.ireturn, 1) := by decide +kernel
set_option maxRecDepth 20000 in
theorem ggX6_slotOf_X6_isSlot : GoodIn wsX6_slotOf wsX6_isSlot := goodIn_r _ [5, 6, 7, 4, 8] (by decide +kernel) (by decide +kernel)
set_option maxRecDepth 20000 in
theorem gX6_slotOf_X6_isSlot : GoodIn wsX6_slotOf (va_wsS RX6 116 yX6_isSlot wsX6_isSlot) := goodIn_app (goodIn_of _ (by decide +kernel)) ggX6_slotOf_X6_isSlot
set_option maxRecDepth 20000 in
theorem ggX6_slotOf_X6_can : GoodIn wsX6_slotOf wsX6_can := goodIn_r _ [12, 13, 14, 15, 16, 17, 18, 19, 20, 21, 22, 23, 24, 25, 26, 27, 28, 29, 30, 31] (by decide +kernel) (by decide +kernel)
set_option maxRecDepth 20000 in
theorem gX6_slotOf_X6_can : GoodIn wsX6_slotOf (wsV RX6 61 RX6 yX6_can wsX6_can) := goodIn_app (goodIn_of _ (by decide +kernel)) ggX6_slotOf_X6_can
theorem dX6_slotOf_0 : decode cX6_slotOf 0 = .ok (.aload_n 0, 1) := by decide +kernel
theorem dX6_slotOf_1 : decode cX6_slotOf 1 = .ok (.iload_n 1, 1) := by decide +kernel
theorem dX6_slotOf_2 : decode cX6_slotOf 2 = .ok (.iload_n 2, 1) := by decide +kernel
theorem dX6_slotOf_3 : decode cX6_slotOf 3 = .ok (.invokestatic 116, 3) := by decide +kernel
theorem dX6_slotOf_6 : decode cX6_slotOf 6 = .ok (.ifCond .eq 7, 3) := by decide +kernel
theorem dX6_slotOf_9 : decode cX6_slotOf 9 = .ok (.iconst 0, 1) := by decide +kernel
theorem dX6_slotOf_10 : decode cX6_slotOf 10 = .ok (.goto 4, 3) := by decide +kernel
theorem dX6_slotOf_13 : decode cX6_slotOf 13 = .ok (.iconst 1, 1) := by decide +kernel
theorem dX6_slotOf_14 : decode cX6_slotOf 14 = .ok (.invokevirtual 61, 3) := by decide +kernel
theorem dX6_slotOf_17 : decode cX6_slotOf 17 = .ok (.ifCond .eq 16, 3) := by decide +kernel
theorem dX6_slotOf_20 : decode cX6_slotOf 20 = .ok (.aload_n 0, 1) := by decide +kernel
theorem dX6_slotOf_21 : decode cX6_slotOf 21 = .ok (.getfield 39, 3) := by decide +kernel
theorem dX6_slotOf_24 : decode cX6_slotOf 24 = .ok (.iconst 2, 1) := by decide +kernel
theorem dX6_slotOf_25 : decode cX6_slotOf 25 = .ok (.iload_n 1, 1) := by decide +kernel
theorem dX6_slotOf_26 : decode cX6_slotOf 26 = .ok (.imul, 1) := by decide +kernel
theorem dX6_slotOf_27 : decode cX6_slotOf 27 = .ok (.iload_n 2, 1) := by decide +kernel
theorem dX6_slotOf_28 : decode cX6_slotOf 28 = .ok (.iadd, 1) := by decide +kernel
theorem dX6_slotOf_29 : decode cX6_slotOf 29 = .ok (.iaload, 1) := by decide +kernel
theorem dX6_slotOf_30 : decode cX6_slotOf 30 = .ok (.goto 4, 3) := by decide +kernel
theorem dX6_slotOf_33 : decode cX6_slotOf 33 = .ok (.iconst 0, 1) := by decide +kernel
theorem dX6_slotOf_34 : decode cX6_slotOf 34 = .ok (.ireturn, 1) := by decide +kernel
set_option maxRecDepth 20000 in
theorem ggX6_isMarked_X6_isSlot : GoodIn wsX6_isMarked wsX6_isSlot := goodIn_r _ [5, 6, 7, 4, 8] (by decide +kernel) (by decide +kernel)
set_option maxRecDepth 20000 in
theorem gX6_isMarked_X6_isSlot : GoodIn wsX6_isMarked (va_wsS RX6 116 yX6_isSlot wsX6_isSlot) := goodIn_app (goodIn_of _ (by decide +kernel)) ggX6_isMarked_X6_isSlot
set_option maxRecDepth 20000 in
theorem ggX6_isMarked_X6_can : GoodIn wsX6_isMarked wsX6_can := goodIn_r _ [12, 13, 14, 15, 16, 17, 18, 19, 20, 21, 22, 23, 24, 25, 26, 27, 28, 29, 30, 31] (by decide +kernel) (by decide +kernel)
set_option maxRecDepth 20000 in
theorem gX6_isMarked_X6_can : GoodIn wsX6_isMarked (wsV RX6 61 RX6 yX6_can wsX6_can) := goodIn_app (goodIn_of _ (by decide +kernel)) ggX6_isMarked_X6_can
theorem dX6_isMarked_0 : decode cX6_isMarked 0 = .ok (.aload_n 0, 1) := by decide +kernel
theorem dX6_isMarked_1 : decode cX6_isMarked 1 = .ok (.iload_n 1, 1) := by decide +kernel
theorem dX6_isMarked_2 : decode cX6_isMarked 2 = .ok (.iload_n 2, 1) := by decide +kernel
theorem dX6_isMarked_3 : decode cX6_isMarked 3 = .ok (.invokestatic 116, 3) := by decide +kernel
theorem dX6_isMarked_6 : decode cX6_isMarked 6 = .ok (.ifCond .eq 7, 3) := by decide +kernel
theorem dX6_isMarked_9 : decode cX6_isMarked 9 = .ok (.iconst 0, 1) := by decide +kernel
theorem dX6_isMarked_10 : decode cX6_isMarked 10 = .ok (.goto 4, 3) := by decide +kernel
theorem dX6_isMarked_13 : decode cX6_isMarked 13 = .ok (.iconst 1, 1) := by decide +kernel
theorem dX6_isMarked_14 : decode cX6_isMarked 14 = .ok (.invokevirtual 61, 3) := by decide +kernel
theorem dX6_isMarked_17 : decode cX6_isMarked 17 = .ok (.ifCond .eq 20, 3) := by decide +kernel
theorem dX6_isMarked_20 : decode cX6_isMarked 20 = .ok (.aload_n 0, 1) := by decide +kernel
theorem dX6_isMarked_21 : decode cX6_isMarked 21 = .ok (.getfield 42, 3) := by decide +kernel
theorem dX6_isMarked_24 : decode cX6_isMarked 24 = .ok (.iconst 2, 1) := by decide +kernel
theorem dX6_isMarked_25 : decode cX6_isMarked 25 = .ok (.iload_n 1, 1) := by decide +kernel
theorem dX6_isMarked_26 : decode cX6_isMarked 26 = .ok (.imul, 1) := by decide +kernel
theorem dX6_isMarked_27 : decode cX6_isMarked 27 = .ok (.iload_n 2, 1) := by decide +kernel
theorem dX6_isMarked_28 : decode cX6_isMarked 28 = .ok (.iadd, 1) := by decide +kernel
theorem dX6_isMarked_29 : decode cX6_isMarked 29 = .ok (.baload, 1) := by decide +kernel
theorem dX6_isMarked_30 : decode cX6_isMarked 30 = .ok (.ifCond .eq 7, 3) := by decide +kernel
theorem dX6_isMarked_33 : decode cX6_isMarked 33 = .ok (.iconst 1, 1) := by decide +kernel
theorem dX6_isMarked_34 : decode cX6_isMarked 34 = .ok (.goto 4, 3) := by decide +kernel
theorem dX6_isMarked_37 : decode cX6_isMarked 37 = .ok (.iconst 0, 1) := by decide +kernel
theorem dX6_isMarked_38 : decode cX6_isMarked 38 = .ok (.ireturn, 1) := by decide +kernel
theorem dX6_marked_0 : decode cX6_marked 0 = .ok (.aload_n 0, 1) := by decide +kernel
theorem dX6_marked_1 : decode cX6_marked 1 = .ok (.iconst 0, 1) := by decide +kernel
theorem dX6_marked_2 : decode cX6_marked 2 = .ok (.putfield 45, 3) := by decide +kernel
theorem dX6_marked_5 : decode cX6_marked 5 = .ok (.aload_n 0, 1) := by decide +kernel
theorem dX6_marked_6 : decode cX6_marked 6 = .ok (.getfield 71, 3) := by decide +kernel
theorem dX6_marked_9 : decode cX6_marked 9 = .ok (.ireturn, 1) := by decide +kernel
theorem dX6_records_0 : decode cX6_records 0 = .ok (.aload_n 0, 1) := by decide +kernel
theorem dX6_records_1 : decode cX6_records 1 = .ok (.iconst 0, 1) := by decide +kernel
theorem dX6_records_2 : decode cX6_records 2 = .ok (.putfield 45, 3) := by decide +kernel
theorem dX6_records_5 : decode cX6_records 5 = .ok (.aload_n 0, 1) := by decide +kernel
theorem dX6_records_6 : decode cX6_records 6 = .ok (.getfield 55, 3) := by decide +kernel
theorem dX6_records_9 : decode cX6_records 9 = .ok (.aload_n 0, 1) := by decide +kernel
theorem dX6_records_10 : decode cX6_records 10 = .ok (.getfield 58, 3) := by decide +kernel
theorem dX6_records_13 : decode cX6_records 13 = .ok (.isub, 1) := by decide +kernel
theorem dX6_records_14 : decode cX6_records 14 = .ok (.ireturn, 1) := by decide +kernel
theorem dX6_dropped_0 : decode cX6_dropped 0 = .ok (.aload_n 0, 1) := by decide +kernel
theorem dX6_dropped_1 : decode cX6_dropped 1 = .ok (.iconst 0, 1) := by decide +kernel
theorem dX6_dropped_2 : decode cX6_dropped 2 = .ok (.putfield 45, 3) := by decide +kernel
theorem dX6_dropped_5 : decode cX6_dropped 5 = .ok (.aload_n 0, 1) := by decide +kernel
theorem dX6_dropped_6 : decode cX6_dropped 6 = .ok (.getfield 58, 3) := by decide +kernel
theorem dX6_dropped_9 : decode cX6_dropped 9 = .ok (.ireturn, 1) := by decide +kernel
theorem dJ9_max_7cf53_0 : decode cJ9_max_7cf53 0 = .ok (.iload_n 0, 1) := by decide +kernel
theorem dJ9_max_7cf53_1 : decode cJ9_max_7cf53 1 = .ok (.iload_n 1, 1) := by decide +kernel
theorem dJ9_max_7cf53_2 : decode cJ9_max_7cf53 2 = .ok (.if_icmp .lt 7, 3) := by decide +kernel
theorem dJ9_max_7cf53_5 : decode cJ9_max_7cf53 5 = .ok (.iload_n 0, 1) := by decide +kernel
theorem dJ9_max_7cf53_6 : decode cJ9_max_7cf53 6 = .ok (.goto 4, 3) := by decide +kernel
theorem dJ9_max_7cf53_9 : decode cJ9_max_7cf53 9 = .ok (.iload_n 1, 1) := by decide +kernel
theorem dJ9_max_7cf53_10 : decode cJ9_max_7cf53 10 = .ok (.ireturn, 1) := by decide +kernel
theorem dJ9_min_7cf53_0 : decode cJ9_min_7cf53 0 = .ok (.iload_n 0, 1) := by decide +kernel
theorem dJ9_min_7cf53_1 : decode cJ9_min_7cf53 1 = .ok (.iload_n 1, 1) := by decide +kernel
theorem dJ9_min_7cf53_2 : decode cJ9_min_7cf53 2 = .ok (.if_icmp .gt 7, 3) := by decide +kernel
theorem dJ9_min_7cf53_5 : decode cJ9_min_7cf53 5 = .ok (.iload_n 0, 1) := by decide +kernel
theorem dJ9_min_7cf53_6 : decode cJ9_min_7cf53 6 = .ok (.goto 4, 3) := by decide +kernel
theorem dJ9_min_7cf53_9 : decode cJ9_min_7cf53 9 = .ok (.iload_n 1, 1) := by decide +kernel
theorem dJ9_min_7cf53_10 : decode cJ9_min_7cf53 10 = .ok (.ireturn, 1) := by decide +kernel
theorem dJxa1e45_init_da8c8_0 : decode cJxa1e45_init_da8c8 0 = .ok (.aload_n 0, 1) := by decide +kernel
theorem dJxa1e45_init_da8c8_1 : decode cJxa1e45_init_da8c8 1 = .ok (.invokespecial 1, 3) := by decide +kernel
theorem dJxa1e45_init_da8c8_4 : decode cJxa1e45_init_da8c8 4 = .ok (.return_, 1) := by decide +kernel
set_option maxRecDepth 20000 in
theorem ggJxc12de_init_da8c8_Jxa1e45_init_da8c8 : GoodIn wsJxc12de_init_da8c8 wsJxa1e45_init_da8c8 := goodIn_r _ [5, 6, 7, 8] (by decide +kernel) (by decide +kernel)
set_option maxRecDepth 20000 in
theorem gJxc12de_init_da8c8_Jxa1e45_init_da8c8 : GoodIn wsJxc12de_init_da8c8 (wsJxa1e45_init_da8c8) := ggJxc12de_init_da8c8_Jxa1e45_init_da8c8
theorem dJxc12de_init_da8c8_0 : decode cJxc12de_init_da8c8 0 = .ok (.aload_n 0, 1) := by decide +kernel
theorem dJxc12de_init_da8c8_1 : decode cJxc12de_init_da8c8 1 = .ok (.invokespecial 1, 3) := by decide +kernel
theorem dJxc12de_init_da8c8_4 : decode cJxc12de_init_da8c8 4 = .ok (.aload_n 0, 1) := by decide +kernel
theorem dJxc12de_init_da8c8_5 : decode cJxc12de_init_da8c8 5 = .ok (.iconst 0, 1) := by decide +kernel
theorem dJxc12de_init_da8c8_6 : decode cJxc12de_init_da8c8 6 = .ok (.putfield 7, 3) := by decide +kernel
theorem dJxc12de_init_da8c8_9 : decode cJxc12de_init_da8c8 9 = .ok (.return_, 1) := by decide +kernel
set_option maxRecDepth 20000 in
theorem ggJx4a65c_init_da8c8_Jxc12de_init_da8c8 : GoodIn wsJx4a65c_init_da8c8 wsJxc12de_init_da8c8 := goodIn_r _ [6, 7, 8, 9, 10, 11, 12, 13, 14, 15, 16, 17] (by decide +kernel) (by decide +kernel)
set_option maxRecDepth 20000 in
theorem gJx4a65c_init_da8c8_Jxc12de_init_da8c8 : GoodIn wsJx4a65c_init_da8c8 (wsJxc12de_init_da8c8) := ggJx4a65c_init_da8c8_Jxc12de_init_da8c8
theorem dJx4a65c_init_da8c8_0 : decode cJx4a65c_init_da8c8 0 = .ok (.aload_n 0, 1) := by decide +kernel
theorem dJx4a65c_init_da8c8_1 : decode cJx4a65c_init_da8c8 1 = .ok (.invokespecial 1, 3) := by decide +kernel
theorem dJx4a65c_init_da8c8_4 : decode cJx4a65c_init_da8c8 4 = .ok (.aload_n 0, 1) := by decide +kernel
theorem dJx4a65c_init_da8c8_5 : decode cJx4a65c_init_da8c8 5 = .ok (.getstatic 39, 3) := by decide +kernel
theorem dJx4a65c_init_da8c8_8 : decode cJx4a65c_init_da8c8 8 = .ok (.putfield 9, 3) := by decide +kernel
theorem dJx4a65c_init_da8c8_11 : decode cJx4a65c_init_da8c8 11 = .ok (.return_, 1) := by decide +kernel
set_option maxRecDepth 20000 in
theorem ggJx4a65c_grow_92f84_J8_newLength_cabcc : GoodIn wsJx4a65c_grow_92f84 wsJ8_newLength_cabcc := goodIn_r _ [11, 12, 4, 5, 6, 13, 14, 15, 10, 16] (by decide +kernel) (by decide +kernel)
set_option maxRecDepth 20000 in
theorem gJx4a65c_grow_92f84_J8_newLength_cabcc : GoodIn wsJx4a65c_grow_92f84 (va_wsS RJx4a65c 73 yJ8_newLength_cabcc wsJ8_newLength_cabcc) := goodIn_app (goodIn_of _ (by decide +kernel)) ggJx4a65c_grow_92f84_J8_newLength_cabcc
set_option maxRecDepth 20000 in
theorem ggJx4a65c_grow_92f84_J7_copyOf_1904c : GoodIn wsJx4a65c_grow_92f84 wsJ7_copyOf_1904c := goodIn_r _ [20, 21, 22, 23, 24, 25, 26, 19, 27, 28, 29, 30, 31, 5, 32, 33, 34, 35, 36] (by decide +kernel) (by decide +kernel)
set_option maxRecDepth 20000 in
theorem gJx4a65c_grow_92f84_J7_copyOf_1904c : GoodIn wsJx4a65c_grow_92f84 (va_wsS RJx4a65c 66 yJ7_copyOf_1904c wsJ7_copyOf_1904c) := goodIn_app (goodIn_of _ (by decide +kernel)) ggJx4a65c_grow_92f84_J7_copyOf_1904c
theorem dJx4a65c_grow_92f84_0 : decode cJx4a65c_grow_92f84 0 = .ok (.aload_n 0, 1) := by decide +kernel
theorem dJx4a65c_grow_92f84_1 : decode cJx4a65c_grow_92f84 1 = .ok (.getfield 9, 3) := by decide +kernel
theorem dJx4a65c_grow_92f84_4 : decode cJx4a65c_grow_92f84 4 = .ok (.arraylength, 1) := by decide +kernel
theorem dJx4a65c_grow_92f84_5 : decode cJx4a65c_grow_92f84 5 = .ok (.istore_n 2, 1) := by decide +kernel
theorem dJx4a65c_grow_92f84_6 : decode cJx4a65c_grow_92f84 6 = .ok (.iload_n 2, 1) := by decide +kernel
theorem dJx4a65c_grow_92f84_7 : decode cJx4a65c_grow_92f84 7 = .ok (.ifCond .gt 13, 3) := by decide +kernel
theorem dJx4a65c_grow_92f84_10 : decode cJx4a65c_grow_92f84 10 = .ok (.aload_n 0, 1) := by decide +kernel
theorem dJx4a65c_grow_92f84_11 : decode cJx4a65c_grow_92f84 11 = .ok (.getfield 9, 3) := by decide +kernel
theorem dJx4a65c_grow_92f84_14 : decode cJx4a65c_grow_92f84 14 = .ok (.getstatic 39, 3) := by decide +kernel
theorem dJx4a65c_grow_92f84_17 : decode cJx4a65c_grow_92f84 17 = .ok (.if_acmp .eq 28, 3) := by decide +kernel
theorem dJx4a65c_grow_92f84_20 : decode cJx4a65c_grow_92f84 20 = .ok (.iload_n 2, 1) := by decide +kernel
theorem dJx4a65c_grow_92f84_21 : decode cJx4a65c_grow_92f84 21 = .ok (.iload_n 1, 1) := by decide +kernel
theorem dJx4a65c_grow_92f84_22 : decode cJx4a65c_grow_92f84 22 = .ok (.iload_n 2, 1) := by decide +kernel
theorem dJx4a65c_grow_92f84_23 : decode cJx4a65c_grow_92f84 23 = .ok (.isub, 1) := by decide +kernel
theorem dJx4a65c_grow_92f84_24 : decode cJx4a65c_grow_92f84 24 = .ok (.iload_n 2, 1) := by decide +kernel
theorem dJx4a65c_grow_92f84_25 : decode cJx4a65c_grow_92f84 25 = .ok (.iconst 1, 1) := by decide +kernel
theorem dJx4a65c_grow_92f84_26 : decode cJx4a65c_grow_92f84 26 = .ok (.ishr, 1) := by decide +kernel
theorem dJx4a65c_grow_92f84_27 : decode cJx4a65c_grow_92f84 27 = .ok (.invokestatic 73, 3) := by decide +kernel
theorem dJx4a65c_grow_92f84_30 : decode cJx4a65c_grow_92f84 30 = .ok (.istore_n 3, 1) := by decide +kernel
theorem dJx4a65c_grow_92f84_31 : decode cJx4a65c_grow_92f84 31 = .ok (.aload_n 0, 1) := by decide +kernel
theorem dJx4a65c_grow_92f84_32 : decode cJx4a65c_grow_92f84 32 = .ok (.aload_n 0, 1) := by decide +kernel
theorem dJx4a65c_grow_92f84_33 : decode cJx4a65c_grow_92f84 33 = .ok (.getfield 9, 3) := by decide +kernel
theorem dJx4a65c_grow_92f84_36 : decode cJx4a65c_grow_92f84 36 = .ok (.iload_n 3, 1) := by decide +kernel
theorem dJx4a65c_grow_92f84_37 : decode cJx4a65c_grow_92f84 37 = .ok (.invokestatic 66, 3) := by decide +kernel
theorem dJx4a65c_grow_92f84_40 : decode cJx4a65c_grow_92f84 40 = .ok (.dup_x1, 1) := by decide +kernel
theorem dJx4a65c_grow_92f84_41 : decode cJx4a65c_grow_92f84 41 = .ok (.putfield 9, 3) := by decide +kernel
theorem dJx4a65c_grow_92f84_44 : decode cJx4a65c_grow_92f84 44 = .ok (.areturn, 1) := by decide +kernel
theorem dJx4a65c_grow_92f84_45 : decode cJx4a65c_grow_92f84 45 = .ok (.aload_n 0, 1) := by decide +kernel
theorem dJx4a65c_grow_92f84_46 : decode cJx4a65c_grow_92f84 46 = .ok (.bipush 10, 2) := by decide +kernel
theorem dJx4a65c_grow_92f84_48 : decode cJx4a65c_grow_92f84 48 = .ok (.iload_n 1, 1) := by decide +kernel
theorem dJx4a65c_grow_92f84_49 : decode cJx4a65c_grow_92f84 49 = .ok (.invokestatic 79, 3) := by decide +kernel
theorem dJx4a65c_grow_92f84_52 : decode cJx4a65c_grow_92f84 52 = .ok (.anewarray 7, 3) := by decide +kernel
theorem dJx4a65c_grow_92f84_55 : decode cJx4a65c_grow_92f84 55 = .ok (.dup_x1, 1) := by decide +kernel
theorem dJx4a65c_grow_92f84_56 : decode cJx4a65c_grow_92f84 56 = .ok (.putfield 9, 3) := by decide +kernel
theorem dJx4a65c_grow_92f84_59 : decode cJx4a65c_grow_92f84 59 = .ok (.areturn, 1) := by decide +kernel
set_option maxRecDepth 20000 in
theorem ggJx4a65c_grow_d5877_Jx4a65c_grow_92f84 : GoodIn wsJx4a65c_grow_d5877 wsJx4a65c_grow_92f84 := goodIn_r _ [6, 7, 8, 9, 10, 11, 12, 13, 14, 15, 16, 17, 18, 19, 20, 21, 22, 23, 24, 25, 26, 27, 28, 29, 30, 31, 32, 33, 34, 35, 36, 37, 38, 39, 40, 41, 42, 43, 44, 45] (by decide +kernel) (by decide +kernel)
set_option maxRecDepth 20000 in
theorem gJx4a65c_grow_d5877_Jx4a65c_grow_92f84 : GoodIn wsJx4a65c_grow_d5877 (wsV RJx4a65c 69 RJx4a65c yJx4a65c_grow_92f84 wsJx4a65c_grow_92f84) := goodIn_app (goodIn_of _ (by decide +kernel)) ggJx4a65c_grow_d5877_Jx4a65c_grow_92f84
theorem dJx4a65c_grow_d5877_0 : decode cJx4a65c_grow_d5877 0 = .ok (.aload_n 0, 1) := by decide +kernel
theorem dJx4a65c_grow_d5877_1 : decode cJx4a65c_grow_d5877 1 = .ok (.aload_n 0, 1) := by decide +kernel
theorem dJx4a65c_grow_d5877_2 : decode cJx4a65c_grow_d5877 2 = .ok (.getfield 48, 3) := by decide +kernel
theorem dJx4a65c_grow_d5877_5 : decode cJx4a65c_grow_d5877 5 = .ok (.iconst 1, 1) := by decide +kernel
theorem dJx4a65c_grow_d5877_6 : decode cJx4a65c_grow_d5877 6 = .ok (.iadd, 1) := by decide +kernel
theorem dJx4a65c_grow_d5877_7 : decode cJx4a65c_grow_d5877 7 = .ok (.invokevirtual 69, 3) := by decide +kernel
theorem dJx4a65c_grow_d5877_10 : decode cJx4a65c_grow_d5877 10 = .ok (.areturn, 1) := by decide +kernel
theorem dJx4a65c_size_8abf5_0 : decode cJx4a65c_size_8abf5 0 = .ok (.aload_n 0, 1) := by decide +kernel
theorem dJx4a65c_size_8abf5_1 : decode cJx4a65c_size_8abf5 1 = .ok (.getfield 48, 3) := by decide +kernel
theorem dJx4a65c_size_8abf5_4 : decode cJx4a65c_size_8abf5 4 = .ok (.ireturn, 1) := by decide +kernel
theorem dJx4a65c_elementData_915e3_0 : decode cJx4a65c_elementData_915e3 0 = .ok (.aload_n 0, 1) := by decide +kernel
theorem dJx4a65c_elementData_915e3_1 : decode cJx4a65c_elementData_915e3 1 = .ok (.getfield 9, 3) := by decide +kernel
theorem dJx4a65c_elementData_915e3_4 : decode cJx4a65c_elementData_915e3 4 = .ok (.iload_n 1, 1) := by decide +kernel
theorem dJx4a65c_elementData_915e3_5 : decode cJx4a65c_elementData_915e3 5 = .ok (.aaload, 1) := by decide +kernel
theorem dJx4a65c_elementData_915e3_6 : decode cJx4a65c_elementData_915e3 6 = .ok (.areturn, 1) := by decide +kernel
set_option maxRecDepth 20000 in
theorem ggJx4a65c_get_915e3_J15_checkIndex_7cf53 : GoodIn wsJx4a65c_get_915e3 wsJ15_checkIndex_7cf53 := goodIn_r _ [5, 6, 7, 8, 9] (by decide +kernel) (by decide +kernel)
set_option maxRecDepth 20000 in
theorem gJx4a65c_get_915e3_J15_checkIndex_7cf53 : GoodIn wsJx4a65c_get_915e3 (va_wsS RJx4a65c 118 yJ15_checkIndex_7cf53 wsJ15_checkIndex_7cf53) := goodIn_app (goodIn_of _ (by decide +kernel)) ggJx4a65c_get_915e3_J15_checkIndex_7cf53
set_option maxRecDepth 20000 in
theorem ggJx4a65c_get_915e3_Jx4a65c_elementData_915e3 : GoodIn wsJx4a65c_get_915e3 wsJx4a65c_elementData_915e3 := goodIn_r _ [14, 15, 16, 17, 18] (by decide +kernel) (by decide +kernel)
set_option maxRecDepth 20000 in
theorem gJx4a65c_get_915e3_Jx4a65c_elementData_915e3 : GoodIn wsJx4a65c_get_915e3 (wsV RJx4a65c 123 RJx4a65c yJx4a65c_elementData_915e3 wsJx4a65c_elementData_915e3) := goodIn_app (goodIn_of _ (by decide +kernel)) ggJx4a65c_get_915e3_Jx4a65c_elementData_915e3
theorem dJx4a65c_get_915e3_0 : decode cJx4a65c_get_915e3 0 = .ok (.iload_n 1, 1) := by decide +kernel
theorem dJx4a65c_get_915e3_1 : decode cJx4a65c_get_915e3 1 = .ok (.aload_n 0, 1) := by decide +kernel
theorem dJx4a65c_get_915e3_2 : decode cJx4a65c_get_915e3 2 = .ok (.getfield 48, 3) := by decide +kernel
theorem dJx4a65c_get_915e3_5 : decode cJx4a65c_get_915e3 5 = .ok (.invokestatic 118, 3) := by decide +kernel
theorem dJx4a65c_get_915e3_8 : decode cJx4a65c_get_915e3 8 = .ok (.pop, 1) := by decide +kernel
theorem dJx4a65c_get_915e3_9 : decode cJx4a65c_get_915e3 9 = .ok (.aload_n 0, 1) := by decide +kernel
theorem dJx4a65c_get_915e3_10 : decode cJx4a65c_get_915e3 10 = .ok (.iload_n 1, 1) := by decide +kernel
theorem dJx4a65c_get_915e3_11 : decode cJx4a65c_get_915e3 11 = .ok (.invokevirtual 123, 3) := by decide +kernel
theorem dJx4a65c_get_915e3_14 : decode cJx4a65c_get_915e3 14 = .ok (.areturn, 1) := by decide +kernel
set_option maxRecDepth 20000 in
theorem ggJx4a65c_add_72be8_Jx4a65c_grow_d5877 : GoodIn wsJx4a65c_add_72be8 wsJx4a65c_grow_d5877 := goodIn_r _ [6, 1, 7, 8, 9, 5, 10, 11, 12, 13, 14, 15, 16, 17, 18, 19, 20, 21, 22, 23, 24, 25, 26, 27, 28, 29, 30, 31, 32, 33, 34, 35, 36, 37, 38, 39, 40, 41, 42, 43, 44, 45, 46, 47, 48, 49] (by decide +kernel) (by decide +kernel)
set_option maxRecDepth 20000 in
theorem gJx4a65c_add_72be8_Jx4a65c_grow_d5877 : GoodIn wsJx4a65c_add_72be8 (wsV RJx4a65c 129 RJx4a65c yJx4a65c_grow_d5877 wsJx4a65c_grow_d5877) := goodIn_app (goodIn_of _ (by decide +kernel)) ggJx4a65c_add_72be8_Jx4a65c_grow_d5877
theorem dJx4a65c_add_72be8_0 : decode cJx4a65c_add_72be8 0 = .ok (.iload_n 3, 1) := by decide +kernel
theorem dJx4a65c_add_72be8_1 : decode cJx4a65c_add_72be8 1 = .ok (.aload_n 2, 1) := by decide +kernel
theorem dJx4a65c_add_72be8_2 : decode cJx4a65c_add_72be8 2 = .ok (.arraylength, 1) := by decide +kernel
theorem dJx4a65c_add_72be8_3 : decode cJx4a65c_add_72be8 3 = .ok (.if_icmp .ne 8, 3) := by decide +kernel
theorem dJx4a65c_add_72be8_6 : decode cJx4a65c_add_72be8 6 = .ok (.aload_n 0, 1) := by decide +kernel
theorem dJx4a65c_add_72be8_7 : decode cJx4a65c_add_72be8 7 = .ok (.invokevirtual 129, 3) := by decide +kernel
theorem dJx4a65c_add_72be8_10 : decode cJx4a65c_add_72be8 10 = .ok (.astore_n 2, 1) := by decide +kernel
theorem dJx4a65c_add_72be8_11 : decode cJx4a65c_add_72be8 11 = .ok (.aload_n 2, 1) := by decide +kernel
theorem dJx4a65c_add_72be8_12 : decode cJx4a65c_add_72be8 12 = .ok (.iload_n 3, 1) := by decide +kernel
theorem dJx4a65c_add_72be8_13 : decode cJx4a65c_add_72be8 13 = .ok (.aload_n 1, 1) := by decide +kernel
theorem dJx4a65c_add_72be8_14 : decode cJx4a65c_add_72be8 14 = .ok (.aastore, 1) := by decide +kernel
theorem dJx4a65c_add_72be8_15 : decode cJx4a65c_add_72be8 15 = .ok (.aload_n 0, 1) := by decide +kernel
theorem dJx4a65c_add_72be8_16 : decode cJx4a65c_add_72be8 16 = .ok (.iload_n 3, 1) := by decide +kernel
theorem dJx4a65c_add_72be8_17 : decode cJx4a65c_add_72be8 17 = .ok (.iconst 1, 1) := by decide +kernel
theorem dJx4a65c_add_72be8_18 : decode cJx4a65c_add_72be8 18 = .ok (.iadd, 1) := by decide +kernel
theorem dJx4a65c_add_72be8_19 : decode cJx4a65c_add_72be8 19 = .ok (.putfield 48, 3) := by decide +kernel
theorem dJx4a65c_add_72be8_22 : decode cJx4a65c_add_72be8 22 = .ok (.return_, 1) := by decide +kernel
set_option maxRecDepth 20000 in
theorem ggJx4a65c_add_9ea2d_Jx4a65c_add_72be8 : GoodIn wsJx4a65c_add_9ea2d wsJx4a65c_add_72be8 := goodIn_r _ [9, 4, 10, 11, 12, 8, 13, 14, 15, 16, 17, 3, 18, 19, 20, 21, 22, 23, 24, 25, 26, 27, 28, 29, 30, 31, 32, 33, 34, 35, 36, 37, 38, 39, 40, 41, 42, 43, 44, 45, 46, 47, 48, 49, 50, 51, 52, 53, 54, 55] (by decide +kernel) (by decide +kernel)
set_option maxRecDepth 20000 in
theorem gJx4a65c_add_9ea2d_Jx4a65c_add_72be8 : GoodIn wsJx4a65c_add_9ea2d (wsV RJx4a65c 131 RJx4a65c yJx4a65c_add_72be8 wsJx4a65c_add_72be8) := goodIn_app (goodIn_of _ (by decide +kernel)) ggJx4a65c_add_9ea2d_Jx4a65c_add_72be8
theorem dJx4a65c_add_9ea2d_0 : decode cJx4a65c_add_9ea2d 0 = .ok (.aload_n 0, 1) := by decide +kernel
theorem dJx4a65c_add_9ea2d_1 : decode cJx4a65c_add_9ea2d 1 = .ok (.dup, 1) := by decide +kernel
theorem dJx4a65c_add_9ea2d_2 : decode cJx4a65c_add_9ea2d 2 = .ok (.getfield 63, 3) := by decide +kernel
theorem dJx4a65c_add_9ea2d_5 : decode cJx4a65c_add_9ea2d 5 = .ok (.iconst 1, 1) := by decide +kernel
theorem dJx4a65c_add_9ea2d_6 : decode cJx4a65c_add_9ea2d 6 = .ok (.iadd, 1) := by decide +kernel
theorem dJx4a65c_add_9ea2d_7 : decode cJx4a65c_add_9ea2d 7 = .ok (.putfield 63, 3) := by decide +kernel
theorem dJx4a65c_add_9ea2d_10 : decode cJx4a65c_add_9ea2d 10 = .ok (.aload_n 0, 1) := by decide +kernel
theorem dJx4a65c_add_9ea2d_11 : decode cJx4a65c_add_9ea2d 11 = .ok (.aload_n 1, 1) := by decide +kernel
theorem dJx4a65c_add_9ea2d_12 : decode cJx4a65c_add_9ea2d 12 = .ok (.aload_n 0, 1) := by decide +kernel
theorem dJx4a65c_add_9ea2d_13 : decode cJx4a65c_add_9ea2d 13 = .ok (.getfield 9, 3) := by decide +kernel
theorem dJx4a65c_add_9ea2d_16 : decode cJx4a65c_add_9ea2d 16 = .ok (.aload_n 0, 1) := by decide +kernel
theorem dJx4a65c_add_9ea2d_17 : decode cJx4a65c_add_9ea2d 17 = .ok (.getfield 48, 3) := by decide +kernel
theorem dJx4a65c_add_9ea2d_20 : decode cJx4a65c_add_9ea2d 20 = .ok (.invokevirtual 131, 3) := by decide +kernel
theorem dJx4a65c_add_9ea2d_23 : decode cJx4a65c_add_9ea2d 23 = .ok (.iconst 1, 1) := by decide +kernel
theorem dJx4a65c_add_9ea2d_24 : decode cJx4a65c_add_9ea2d 24 = .ok (.ireturn, 1) := by decide +kernel
set_option maxRecDepth 20000 in
theorem ggJ7_copyOf_1904c_J7_copyOf_6403c : GoodIn wsJ7_copyOf_1904c wsJ7_copyOf_6403c := goodIn_r _ [8, 9, 10, 11, 12, 13, 14, 15, 16, 17, 18] (by decide +kernel) (by decide +kernel)
set_option maxRecDepth 20000 in
theorem gJ7_copyOf_1904c_J7_copyOf_6403c : GoodIn wsJ7_copyOf_1904c (va_wsS RJ7 300 yJ7_copyOf_6403c wsJ7_copyOf_6403c) := goodIn_app (goodIn_of _ (by decide +kernel)) ggJ7_copyOf_1904c_J7_copyOf_6403c
theorem dJ7_copyOf_1904c_0 : decode cJ7_copyOf_1904c 0 = .ok (.aload_n 0, 1) := by decide +kernel
theorem dJ7_copyOf_1904c_1 : decode cJ7_copyOf_1904c 1 = .ok (.iload_n 1, 1) := by decide +kernel
theorem dJ7_copyOf_1904c_2 : decode cJ7_copyOf_1904c 2 = .ok (.aload_n 0, 1) := by decide +kernel
theorem dJ7_copyOf_1904c_3 : decode cJ7_copyOf_1904c 3 = .ok (.invokevirtual 86, 3) := by decide +kernel
theorem dJ7_copyOf_1904c_6 : decode cJ7_copyOf_1904c 6 = .ok (.invokestatic 300, 3) := by decide +kernel
theorem dJ7_copyOf_1904c_9 : decode cJ7_copyOf_1904c 9 = .ok (.areturn, 1) := by decide +kernel
theorem dJ7_copyOf_6403c_0 : decode cJ7_copyOf_6403c 0 = .ok (.aload_n 2, 1) := by decide +kernel
theorem dJ7_copyOf_6403c_1 : decode cJ7_copyOf_6403c 1 = .ok (.ldc 110, 2) := by decide +kernel
theorem dJ7_copyOf_6403c_3 : decode cJ7_copyOf_6403c 3 = .ok (.if_acmp .ne 10, 3) := by decide +kernel
theorem dJ7_copyOf_6403c_6 : decode cJ7_copyOf_6403c 6 = .ok (.iload_n 1, 1) := by decide +kernel
theorem dJ7_copyOf_6403c_7 : decode cJ7_copyOf_6403c 7 = .ok (.anewarray 2, 3) := by decide +kernel
theorem dJ7_copyOf_6403c_10 : decode cJ7_copyOf_6403c 10 = .ok (.goto 14, 3) := by decide +kernel
theorem dJ7_copyOf_6403c_13 : decode cJ7_copyOf_6403c 13 = .ok (.aload_n 2, 1) := by decide +kernel
theorem dJ7_copyOf_6403c_14 : decode cJ7_copyOf_6403c 14 = .ok (.invokevirtual 90, 3) := by decide +kernel
theorem dJ7_copyOf_6403c_17 : decode cJ7_copyOf_6403c 17 = .ok (.iload_n 1, 1) := by decide +kernel
theorem dJ7_copyOf_6403c_18 : decode cJ7_copyOf_6403c 18 = .ok (.invokestatic 95, 3) := by decide +kernel
theorem dJ7_copyOf_6403c_21 : decode cJ7_copyOf_6403c 21 = .ok (.checkcast 110, 3) := by decide +kernel
theorem dJ7_copyOf_6403c_24 : decode cJ7_copyOf_6403c 24 = .ok (.astore_n 3, 1) := by decide +kernel
theorem dJ7_copyOf_6403c_25 : decode cJ7_copyOf_6403c 25 = .ok (.aload_n 0, 1) := by decide +kernel
theorem dJ7_copyOf_6403c_26 : decode cJ7_copyOf_6403c 26 = .ok (.iconst 0, 1) := by decide +kernel
theorem dJ7_copyOf_6403c_27 : decode cJ7_copyOf_6403c 27 = .ok (.aload_n 3, 1) := by decide +kernel
theorem dJ7_copyOf_6403c_28 : decode cJ7_copyOf_6403c 28 = .ok (.iconst 0, 1) := by decide +kernel
theorem dJ7_copyOf_6403c_29 : decode cJ7_copyOf_6403c 29 = .ok (.aload_n 0, 1) := by decide +kernel
theorem dJ7_copyOf_6403c_30 : decode cJ7_copyOf_6403c 30 = .ok (.arraylength, 1) := by decide +kernel
theorem dJ7_copyOf_6403c_31 : decode cJ7_copyOf_6403c 31 = .ok (.iload_n 1, 1) := by decide +kernel
theorem dJ7_copyOf_6403c_32 : decode cJ7_copyOf_6403c 32 = .ok (.invokestatic 304, 3) := by decide +kernel
theorem dJ7_copyOf_6403c_35 : decode cJ7_copyOf_6403c 35 = .ok (.invokestatic 150, 3) := by decide +kernel
theorem dJ7_copyOf_6403c_38 : decode cJ7_copyOf_6403c 38 = .ok (.aload_n 3, 1) := by decide +kernel
theorem dJ7_copyOf_6403c_39 : decode cJ7_copyOf_6403c 39 = .ok (.areturn, 1) := by decide +kernel
set_option maxRecDepth 20000 in
theorem ggJ15_checkIndex_7cf53_J3_checkIndex_8e157 : GoodIn wsJ15_checkIndex_7cf53 wsJ3_checkIndex_8e157 := goodIn_r _ [4] (by decide +kernel) (by decide +kernel)
set_option maxRecDepth 20000 in
theorem gJ15_checkIndex_7cf53_J3_checkIndex_8e157 : GoodIn wsJ15_checkIndex_7cf53 (va_wsS RJ15 105 yJ3_checkIndex_8e157 wsJ3_checkIndex_8e157) := goodIn_app (goodIn_of _ (by decide +kernel)) ggJ15_checkIndex_7cf53_J3_checkIndex_8e157
theorem dJ15_checkIndex_7cf53_0 : decode cJ15_checkIndex_7cf53 0 = .ok (.iload_n 0, 1) := by decide +kernel
theorem dJ15_checkIndex_7cf53_1 : decode cJ15_checkIndex_7cf53 1 = .ok (.iload_n 1, 1) := by decide +kernel
theorem dJ15_checkIndex_7cf53_2 : decode cJ15_checkIndex_7cf53 2 = .ok (.aconst_null, 1) := by decide +kernel
theorem dJ15_checkIndex_7cf53_3 : decode cJ15_checkIndex_7cf53 3 = .ok (.invokestatic 105, 3) := by decide +kernel
theorem dJ15_checkIndex_7cf53_6 : decode cJ15_checkIndex_7cf53 6 = .ok (.ireturn, 1) := by decide +kernel
set_option maxRecDepth 20000 in
theorem ggJ8_newLength_cabcc_J8_hugeLength_7cf53 : GoodIn wsJ8_newLength_cabcc wsJ8_hugeLength_7cf53 := goodIn_r _ [9, 5] (by decide +kernel) (by decide +kernel)
set_option maxRecDepth 20000 in
theorem gJ8_newLength_cabcc_J8_hugeLength_7cf53 : GoodIn wsJ8_newLength_cabcc (va_wsS RJ8 201 yJ8_hugeLength_7cf53 wsJ8_hugeLength_7cf53) := goodIn_app (goodIn_of _ (by decide +kernel)) ggJ8_newLength_cabcc_J8_hugeLength_7cf53
theorem dJ8_newLength_cabcc_0 : decode cJ8_newLength_cabcc 0 = .ok (.iload_n 0, 1) := by decide +kernel
theorem dJ8_newLength_cabcc_1 : decode cJ8_newLength_cabcc 1 = .ok (.iload_n 1, 1) := by decide +kernel
theorem dJ8_newLength_cabcc_2 : decode cJ8_newLength_cabcc 2 = .ok (.iload_n 2, 1) := by decide +kernel
theorem dJ8_newLength_cabcc_3 : decode cJ8_newLength_cabcc 3 = .ok (.invokestatic 194, 3) := by decide +kernel
theorem dJ8_newLength_cabcc_6 : decode cJ8_newLength_cabcc 6 = .ok (.iadd, 1) := by decide +kernel
theorem dJ8_newLength_cabcc_7 : decode cJ8_newLength_cabcc 7 = .ok (.istore_n 3, 1) := by decide +kernel
theorem dJ8_newLength_cabcc_8 : decode cJ8_newLength_cabcc 8 = .ok (.iconst 0, 1) := by decide +kernel
theorem dJ8_newLength_cabcc_9 : decode cJ8_newLength_cabcc 9 = .ok (.iload_n 3, 1) := by decide +kernel
theorem dJ8_newLength_cabcc_10 : decode cJ8_newLength_cabcc 10 = .ok (.if_icmp .ge 11, 3) := by decide +kernel
theorem dJ8_newLength_cabcc_13 : decode cJ8_newLength_cabcc 13 = .ok (.iload_n 3, 1) := by decide +kernel
theorem dJ8_newLength_cabcc_14 : decode cJ8_newLength_cabcc 14 = .ok (.ldc 200, 2) := by decide +kernel
theorem dJ8_newLength_cabcc_16 : decode cJ8_newLength_cabcc 16 = .ok (.if_icmp .gt 5, 3) := by decide +kernel
theorem dJ8_newLength_cabcc_19 : decode cJ8_newLength_cabcc 19 = .ok (.iload_n 3, 1) := by decide +kernel
theorem dJ8_newLength_cabcc_20 : decode cJ8_newLength_cabcc 20 = .ok (.ireturn, 1) := by decide +kernel
theorem dJ8_newLength_cabcc_21 : decode cJ8_newLength_cabcc 21 = .ok (.iload_n 0, 1) := by decide +kernel
theorem dJ8_newLength_cabcc_22 : decode cJ8_newLength_cabcc 22 = .ok (.iload_n 1, 1) := by decide +kernel
theorem dJ8_newLength_cabcc_23 : decode cJ8_newLength_cabcc 23 = .ok (.invokestatic 201, 3) := by decide +kernel
theorem dJ8_newLength_cabcc_26 : decode cJ8_newLength_cabcc 26 = .ok (.ireturn, 1) := by decide +kernel
theorem dJ8_hugeLength_7cf53_0 : decode cJ8_hugeLength_7cf53 0 = .ok (.iload_n 0, 1) := by decide +kernel
theorem dJ8_hugeLength_7cf53_1 : decode cJ8_hugeLength_7cf53 1 = .ok (.iload_n 1, 1) := by decide +kernel
theorem dJ8_hugeLength_7cf53_2 : decode cJ8_hugeLength_7cf53 2 = .ok (.iadd, 1) := by decide +kernel
theorem dJ8_hugeLength_7cf53_3 : decode cJ8_hugeLength_7cf53 3 = .ok (.istore_n 2, 1) := by decide +kernel
theorem dJ8_hugeLength_7cf53_4 : decode cJ8_hugeLength_7cf53 4 = .ok (.iload_n 2, 1) := by decide +kernel
theorem dJ8_hugeLength_7cf53_5 : decode cJ8_hugeLength_7cf53 5 = .ok (.ifCond .ge 44, 3) := by decide +kernel
theorem dJ8_hugeLength_7cf53_8 : decode cJ8_hugeLength_7cf53 8 = .ok (.new 204, 3) := by decide +kernel
theorem dJ8_hugeLength_7cf53_11 : decode cJ8_hugeLength_7cf53 11 = .ok (.dup, 1) := by decide +kernel
theorem dJ8_hugeLength_7cf53_12 : decode cJ8_hugeLength_7cf53 12 = .ok (.new 89, 3) := by decide +kernel
theorem dJ8_hugeLength_7cf53_15 : decode cJ8_hugeLength_7cf53 15 = .ok (.dup, 1) := by decide +kernel
theorem dJ8_hugeLength_7cf53_16 : decode cJ8_hugeLength_7cf53 16 = .ok (.invokespecial 91, 3) := by decide +kernel
theorem dJ8_hugeLength_7cf53_19 : decode cJ8_hugeLength_7cf53 19 = .ok (.ldc 206, 2) := by decide +kernel
theorem dJ8_hugeLength_7cf53_21 : decode cJ8_hugeLength_7cf53 21 = .ok (.invokevirtual 94, 3) := by decide +kernel
theorem dJ8_hugeLength_7cf53_24 : decode cJ8_hugeLength_7cf53 24 = .ok (.iload_n 0, 1) := by decide +kernel
theorem dJ8_hugeLength_7cf53_25 : decode cJ8_hugeLength_7cf53 25 = .ok (.invokevirtual 98, 3) := by decide +kernel
theorem dJ8_hugeLength_7cf53_28 : decode cJ8_hugeLength_7cf53 28 = .ok (.ldc 208, 2) := by decide +kernel
theorem dJ8_hugeLength_7cf53_30 : decode cJ8_hugeLength_7cf53 30 = .ok (.invokevirtual 94, 3) := by decide +kernel
theorem dJ8_hugeLength_7cf53_33 : decode cJ8_hugeLength_7cf53 33 = .ok (.iload_n 1, 1) := by decide +kernel
theorem dJ8_hugeLength_7cf53_34 : decode cJ8_hugeLength_7cf53 34 = .ok (.invokevirtual 98, 3) := by decide +kernel
theorem dJ8_hugeLength_7cf53_37 : decode cJ8_hugeLength_7cf53 37 = .ok (.ldc 210, 2) := by decide +kernel
theorem dJ8_hugeLength_7cf53_39 : decode cJ8_hugeLength_7cf53 39 = .ok (.invokevirtual 94, 3) := by decide +kernel
theorem dJ8_hugeLength_7cf53_42 : decode cJ8_hugeLength_7cf53 42 = .ok (.invokevirtual 101, 3) := by decide +kernel
theorem dJ8_hugeLength_7cf53_45 : decode cJ8_hugeLength_7cf53 45 = .ok (.invokespecial 212, 3) := by decide +kernel
theorem dJ8_hugeLength_7cf53_48 : decode cJ8_hugeLength_7cf53 48 = .ok (.athrow, 1) := by decide +kernel
theorem dJ8_hugeLength_7cf53_49 : decode cJ8_hugeLength_7cf53 49 = .ok (.iload_n 2, 1) := by decide +kernel
theorem dJ8_hugeLength_7cf53_50 : decode cJ8_hugeLength_7cf53 50 = .ok (.ldc 200, 2) := by decide +kernel
theorem dJ8_hugeLength_7cf53_52 : decode cJ8_hugeLength_7cf53 52 = .ok (.if_icmp .gt 6, 3) := by decide +kernel
theorem dJ8_hugeLength_7cf53_55 : decode cJ8_hugeLength_7cf53 55 = .ok (.ldc 200, 2) := by decide +kernel
theorem dJ8_hugeLength_7cf53_57 : decode cJ8_hugeLength_7cf53 57 = .ok (.ireturn, 1) := by decide +kernel
theorem dJ8_hugeLength_7cf53_58 : decode cJ8_hugeLength_7cf53 58 = .ok (.iload_n 2, 1) := by decide +kernel
theorem dJ8_hugeLength_7cf53_59 : decode cJ8_hugeLength_7cf53 59 = .ok (.ireturn, 1) := by decide +kernel
theorem dJ3_checkIndex_8e157_0 : decode cJ3_checkIndex_8e157 0 = .ok (.iload_n 0, 1) := by decide +kernel
theorem dJ3_checkIndex_8e157_1 : decode cJ3_checkIndex_8e157 1 = .ok (.ifCond .lt 8, 3) := by decide +kernel
theorem dJ3_checkIndex_8e157_4 : decode cJ3_checkIndex_8e157 4 = .ok (.iload_n 0, 1) := by decide +kernel
theorem dJ3_checkIndex_8e157_5 : decode cJ3_checkIndex_8e157 5 = .ok (.iload_n 1, 1) := by decide +kernel
theorem dJ3_checkIndex_8e157_6 : decode cJ3_checkIndex_8e157 6 = .ok (.if_icmp .lt 10, 3) := by decide +kernel
theorem dJ3_checkIndex_8e157_9 : decode cJ3_checkIndex_8e157 9 = .ok (.aload_n 2, 1) := by decide +kernel
theorem dJ3_checkIndex_8e157_10 : decode cJ3_checkIndex_8e157 10 = .ok (.iload_n 0, 1) := by decide +kernel
theorem dJ3_checkIndex_8e157_11 : decode cJ3_checkIndex_8e157 11 = .ok (.iload_n 1, 1) := by decide +kernel
theorem dJ3_checkIndex_8e157_12 : decode cJ3_checkIndex_8e157 12 = .ok (.invokestatic 95, 3) := by decide +kernel
theorem dJ3_checkIndex_8e157_15 : decode cJ3_checkIndex_8e157 15 = .ok (.athrow, 1) := by decide +kernel
theorem dJ3_checkIndex_8e157_16 : decode cJ3_checkIndex_8e157 16 = .ok (.iload_n 0, 1) := by decide +kernel
theorem dJ3_checkIndex_8e157_17 : decode cJ3_checkIndex_8e157 17 = .ok (.ireturn, 1) := by decide +kernel
set_option maxRecDepth 20000 in
theorem ggL_setSpace_X5_setSpace : GoodIn wsL_setSpace wsX5_setSpace := goodIn_ca (goodIn_ca (goodIn_r _ [7, 8, 9, 10, 11, 12, 13, 14, 15, 6, 16, 17, 18, 19, 20, 21, 22, 23, 24, 25, 26, 27, 28, 29, 30, 31, 32, 33, 34, 35] (by decide +kernel) (by decide +kernel)) (goodIn_sub (fun _ h => List.mem_cons_of_mem _ (List.mem_append_left _ (List.mem_append_right _ h))) (by decide +kernel))) (goodIn_sub (fun _ h => List.mem_cons_of_mem _ (List.mem_append_right _ h)) (by decide +kernel))
set_option maxRecDepth 20000 in
theorem gL_setSpace_X5_setSpace : GoodIn wsL_setSpace (wsV RL 7 RX5 yX5_setSpace wsX5_setSpace) := goodIn_app (goodIn_of _ (by decide +kernel)) ggL_setSpace_X5_setSpace
theorem dL_setSpace_0 : decode cL_setSpace 0 = .ok (.aload_n 2, 1) := by decide +kernel
theorem dL_setSpace_1 : decode cL_setSpace 1 = .ok (.iconst 0, 1) := by decide +kernel
theorem dL_setSpace_2 : decode cL_setSpace 2 = .ok (.aload_n 0, 1) := by decide +kernel
theorem dL_setSpace_3 : decode cL_setSpace 3 = .ok (.iload_n 1, 1) := by decide +kernel
theorem dL_setSpace_4 : decode cL_setSpace 4 = .ok (.invokevirtual 7, 3) := by decide +kernel
theorem dL_setSpace_7 : decode cL_setSpace 7 = .ok (.i2l, 1) := by decide +kernel
theorem dL_setSpace_8 : decode cL_setSpace 8 = .ok (.lastore, 1) := by decide +kernel
theorem dL_setSpace_9 : decode cL_setSpace 9 = .ok (.goto 9, 3) := by decide +kernel
theorem dL_setSpace_12 : decode cL_setSpace 12 = .ok (.astore_n 3, 1) := by decide +kernel
theorem dL_setSpace_13 : decode cL_setSpace 13 = .ok (.iconst 1, 1) := by decide +kernel
theorem dL_setSpace_14 : decode cL_setSpace 14 = .ok (.ireturn, 1) := by decide +kernel
theorem dL_setSpace_15 : decode cL_setSpace 15 = .ok (.astore_n 3, 1) := by decide +kernel
theorem dL_setSpace_16 : decode cL_setSpace 16 = .ok (.iconst 2, 1) := by decide +kernel
theorem dL_setSpace_17 : decode cL_setSpace 17 = .ok (.ireturn, 1) := by decide +kernel
theorem dL_setSpace_18 : decode cL_setSpace 18 = .ok (.iconst 0, 1) := by decide +kernel
theorem dL_setSpace_19 : decode cL_setSpace 19 = .ok (.ireturn, 1) := by decide +kernel
set_option maxRecDepth 20000 in
theorem ggL_begin_X5_begin : GoodIn wsL_begin wsX5_begin := goodIn_ca (goodIn_r _ [6, 7, 8, 9, 10, 11, 12, 13, 14, 15, 16, 17, 18, 19, 20, 21, 22, 23, 24, 25, 26, 27, 28, 29, 30, 31, 32, 33, 34, 35, 36, 37, 38, 39, 40, 41, 42, 43, 44, 45, 46, 47, 48, 49, 50, 51, 52, 53, 54, 55, 56, 57, 58, 59, 60, 61, 62, 63, 64, 65, 66, 67, 68, 69, 70, 71, 72, 73, 74, 75, 76, 77, 78, 79, 80, 81, 82, 83, 84, 85, 86, 87, 88, 89, 90, 91, 92, 93, 94, 95, 96, 97, 98, 99] (by decide +kernel) (by decide +kernel)) (goodIn_sub (fun _ h => List.mem_cons_of_mem _ (List.mem_append_right _ h)) (by decide +kernel))
set_option maxRecDepth 20000 in
theorem gL_begin_X5_begin : GoodIn wsL_begin (wsV RL 17 RX5 yX5_begin wsX5_begin) := goodIn_app (goodIn_of _ (by decide +kernel)) ggL_begin_X5_begin
theorem dL_begin_0 : decode cL_begin 0 = .ok (.aload_n 1, 1) := by decide +kernel
theorem dL_begin_1 : decode cL_begin 1 = .ok (.iconst 0, 1) := by decide +kernel
theorem dL_begin_2 : decode cL_begin 2 = .ok (.aload_n 0, 1) := by decide +kernel
theorem dL_begin_3 : decode cL_begin 3 = .ok (.invokevirtual 17, 3) := by decide +kernel
theorem dL_begin_6 : decode cL_begin 6 = .ok (.i2l, 1) := by decide +kernel
theorem dL_begin_7 : decode cL_begin 7 = .ok (.lastore, 1) := by decide +kernel
theorem dL_begin_8 : decode cL_begin 8 = .ok (.goto 6, 3) := by decide +kernel
theorem dL_begin_11 : decode cL_begin 11 = .ok (.astore_n 2, 1) := by decide +kernel
theorem dL_begin_12 : decode cL_begin 12 = .ok (.iconst 1, 1) := by decide +kernel
theorem dL_begin_13 : decode cL_begin 13 = .ok (.ireturn, 1) := by decide +kernel
theorem dL_begin_14 : decode cL_begin 14 = .ok (.iconst 0, 1) := by decide +kernel
theorem dL_begin_15 : decode cL_begin 15 = .ok (.ireturn, 1) := by decide +kernel
set_option maxRecDepth 20000 in
theorem ggL_write_X5_write : GoodIn wsL_write wsX5_write := goodIn_ca (goodIn_ca (goodIn_ca (goodIn_r _ [8, 9, 10, 11, 12, 13, 14, 15, 16, 17, 18, 19, 20, 21, 22, 7, 23, 24, 25, 26, 27, 28, 29, 30, 31, 32, 33, 34, 35, 36, 37, 38, 39, 40, 41, 42, 43, 44, 45, 46, 47, 48, 49, 50, 51, 52, 53, 54, 55, 56, 57, 58, 59, 60, 61, 62, 63, 64, 65, 66, 67, 68, 69, 70, 71, 72, 73, 74, 75, 76, 77, 78, 79, 80, 81, 82, 83, 84, 85, 86, 87, 88, 89, 90, 91, 92, 93, 94, 95, 96, 97, 98, 99, 100, 101, 102, 103, 104, 105, 106, 107, 108, 109, 110, 111, 112, 113, 114, 115, 116, 117, 118, 119, 120, 121, 122, 123, 124, 125, 126, 127, 128, 129, 130, 131, 132, 133, 134, 135, 136, 137, 138, 139, 140, 141, 142, 143, 144, 145, 146, 147, 148, 149, 150, 151, 152, 153, 154, 155, 156, 157, 158, 159, 160, 161, 162, 163, 164, 165, 166, 167, 168, 169, 170, 171, 172, 173, 174, 175, 176, 177, 178, 179, 180, 181, 182, 183, 184, 185, 186, 187, 188, 189, 190, 191, 192, 193, 194, 195, 196] (by decide +kernel) (by decide +kernel)) (goodIn_sub (fun _ h => List.mem_cons_of_mem _ (List.mem_append_left _ (List.mem_append_left _ (List.mem_append_right _ h)))) (by decide +kernel))) (goodIn_sub (fun _ h => List.mem_cons_of_mem _ (List.mem_append_left _ (List.mem_append_right _ h))) (by decide +kernel))) (goodIn_sub (fun _ h => List.mem_cons_of_mem _ (List.mem_append_right _ h)) (by decide +kernel))
set_option maxRecDepth 20000 in
theorem gL_write_X5_write : GoodIn wsL_write (wsV RL 21 RX5 yX5_write wsX5_write) := goodIn_app (goodIn_of _ (by decide +kernel)) ggL_write_X5_write
theorem dL_write_0 : decode cL_write 0 = .ok (.aload 4, 2) := by decide +kernel
theorem dL_write_2 : decode cL_write 2 = .ok (.iconst 0, 1) := by decide +kernel
theorem dL_write_3 : decode cL_write 3 = .ok (.aload_n 0, 1) := by decide +kernel
theorem dL_write_4 : decode cL_write 4 = .ok (.iload_n 1, 1) := by decide +kernel
theorem dL_write_5 : decode cL_write 5 = .ok (.iload_n 2, 1) := by decide +kernel
theorem dL_write_6 : decode cL_write 6 = .ok (.iload_n 3, 1) := by decide +kernel
theorem dL_write_7 : decode cL_write 7 = .ok (.invokevirtual 21, 3) := by decide +kernel
theorem dL_write_10 : decode cL_write 10 = .ok (.i2l, 1) := by decide +kernel
theorem dL_write_11 : decode cL_write 11 = .ok (.lastore, 1) := by decide +kernel
theorem dL_write_12 : decode cL_write 12 = .ok (.goto 15, 3) := by decide +kernel
theorem dL_write_15 : decode cL_write 15 = .ok (.astore 5, 2) := by decide +kernel
theorem dL_write_17 : decode cL_write 17 = .ok (.iconst 1, 1) := by decide +kernel
theorem dL_write_18 : decode cL_write 18 = .ok (.ireturn, 1) := by decide +kernel
theorem dL_write_19 : decode cL_write 19 = .ok (.astore 5, 2) := by decide +kernel
theorem dL_write_21 : decode cL_write 21 = .ok (.iconst 2, 1) := by decide +kernel
theorem dL_write_22 : decode cL_write 22 = .ok (.ireturn, 1) := by decide +kernel
theorem dL_write_23 : decode cL_write 23 = .ok (.astore 5, 2) := by decide +kernel
theorem dL_write_25 : decode cL_write 25 = .ok (.iconst 3, 1) := by decide +kernel
theorem dL_write_26 : decode cL_write 26 = .ok (.ireturn, 1) := by decide +kernel
theorem dL_write_27 : decode cL_write 27 = .ok (.iconst 0, 1) := by decide +kernel
theorem dL_write_28 : decode cL_write 28 = .ok (.ireturn, 1) := by decide +kernel
set_option maxRecDepth 20000 in
theorem ggL_read_X5_read : GoodIn wsL_read wsX5_read := goodIn_ca (goodIn_ca (goodIn_ca (goodIn_r _ [8, 9, 10, 11, 7, 12, 13, 14, 15, 16, 17, 18, 19, 20, 21, 22, 23, 24, 25, 26, 27, 28, 29, 30, 31, 32, 33, 34, 35, 36, 37, 38, 39, 40, 41, 42, 43, 44, 45, 46, 47, 48, 49, 50, 51, 52, 53, 54, 55, 56, 57, 58, 59, 60, 61, 62, 63, 64, 65, 66, 67, 68, 69, 70, 71, 72, 73, 74, 75, 76, 77, 78, 79, 80, 81, 82, 83, 84, 85, 86, 87, 88, 89, 90, 91, 92, 93, 94, 95, 96, 97, 98, 99, 100, 101, 102, 103, 104, 105, 106, 107, 108, 109, 110, 111, 112, 113, 114, 115, 116, 117, 118, 119, 120, 121, 122] (by decide +kernel) (by decide +kernel)) (goodIn_sub (fun _ h => List.mem_cons_of_mem _ (List.mem_append_left _ (List.mem_append_left _ (List.mem_append_right _ h)))) (by decide +kernel))) (goodIn_sub (fun _ h => List.mem_cons_of_mem _ (List.mem_append_left _ (List.mem_append_right _ h))) (by decide +kernel))) (goodIn_sub (fun _ h => List.mem_cons_of_mem _ (List.mem_append_right _ h)) (by decide +kernel))
set_option maxRecDepth 20000 in
theorem gL_read_X5_read : GoodIn wsL_read (wsV RL 27 RX5 yX5_read wsX5_read) := goodIn_app (goodIn_of _ (by decide +kernel)) ggL_read_X5_read
theorem dL_read_0 : decode cL_read 0 = .ok (.aload_n 3, 1) := by decide +kernel
theorem dL_read_1 : decode cL_read 1 = .ok (.iconst 0, 1) := by decide +kernel
theorem dL_read_2 : decode cL_read 2 = .ok (.aload_n 0, 1) := by decide +kernel
theorem dL_read_3 : decode cL_read 3 = .ok (.iload_n 1, 1) := by decide +kernel
theorem dL_read_4 : decode cL_read 4 = .ok (.iload_n 2, 1) := by decide +kernel
theorem dL_read_5 : decode cL_read 5 = .ok (.invokevirtual 27, 3) := by decide +kernel
theorem dL_read_8 : decode cL_read 8 = .ok (.i2l, 1) := by decide +kernel
theorem dL_read_9 : decode cL_read 9 = .ok (.lastore, 1) := by decide +kernel
theorem dL_read_10 : decode cL_read 10 = .ok (.goto 15, 3) := by decide +kernel
theorem dL_read_13 : decode cL_read 13 = .ok (.astore 4, 2) := by decide +kernel
theorem dL_read_15 : decode cL_read 15 = .ok (.iconst 1, 1) := by decide +kernel
theorem dL_read_16 : decode cL_read 16 = .ok (.ireturn, 1) := by decide +kernel
theorem dL_read_17 : decode cL_read 17 = .ok (.astore 4, 2) := by decide +kernel
theorem dL_read_19 : decode cL_read 19 = .ok (.iconst 2, 1) := by decide +kernel
theorem dL_read_20 : decode cL_read 20 = .ok (.ireturn, 1) := by decide +kernel
theorem dL_read_21 : decode cL_read 21 = .ok (.astore 4, 2) := by decide +kernel
theorem dL_read_23 : decode cL_read 23 = .ok (.iconst 3, 1) := by decide +kernel
theorem dL_read_24 : decode cL_read 24 = .ok (.ireturn, 1) := by decide +kernel
theorem dL_read_25 : decode cL_read 25 = .ok (.iconst 0, 1) := by decide +kernel
theorem dL_read_26 : decode cL_read 26 = .ok (.ireturn, 1) := by decide +kernel
set_option maxRecDepth 20000 in
theorem ggL_readAt_X5_readAt : GoodIn wsL_readAt wsX5_readAt := goodIn_ca (goodIn_ca (goodIn_ca (goodIn_r _ [8, 9, 10, 11, 7, 12, 13, 14, 15, 16, 17, 18, 19, 20, 21, 22, 23, 24, 25, 26, 27, 28, 29, 30, 31, 32, 33, 34, 35, 36, 37, 38, 39, 40, 41, 42, 43, 44, 45, 46, 47, 48, 49, 50, 51, 52, 53, 54, 55, 56, 57, 58, 59, 60, 61, 62, 63, 64, 65, 66, 67, 68, 69, 70, 71, 72, 73, 74, 75, 76, 77, 78, 79, 80, 81, 82, 83, 84, 85, 86, 87, 88, 89, 90, 91, 92, 93, 94, 95, 96, 97, 98, 99, 100, 101, 102, 103, 104, 105, 106, 107, 108, 109, 110, 111, 112, 113, 114, 115, 116, 117] (by decide +kernel) (by decide +kernel)) (goodIn_sub (fun _ h => List.mem_cons_of_mem _ (List.mem_append_left _ (List.mem_append_left _ (List.mem_append_right _ h)))) (by decide +kernel))) (goodIn_sub (fun _ h => List.mem_cons_of_mem _ (List.mem_append_left _ (List.mem_append_right _ h))) (by decide +kernel))) (goodIn_sub (fun _ h => List.mem_cons_of_mem _ (List.mem_append_right _ h)) (by decide +kernel))
set_option maxRecDepth 20000 in
theorem gL_readAt_X5_readAt : GoodIn wsL_readAt (wsV RL 33 RX5 yX5_readAt wsX5_readAt) := goodIn_app (goodIn_of _ (by decide +kernel)) ggL_readAt_X5_readAt
theorem dL_readAt_0 : decode cL_readAt 0 = .ok (.aload_n 3, 1) := by decide +kernel
theorem dL_readAt_1 : decode cL_readAt 1 = .ok (.iconst 0, 1) := by decide +kernel
theorem dL_readAt_2 : decode cL_readAt 2 = .ok (.aload_n 0, 1) := by decide +kernel
theorem dL_readAt_3 : decode cL_readAt 3 = .ok (.iload_n 1, 1) := by decide +kernel
theorem dL_readAt_4 : decode cL_readAt 4 = .ok (.iload_n 2, 1) := by decide +kernel
theorem dL_readAt_5 : decode cL_readAt 5 = .ok (.invokevirtual 33, 3) := by decide +kernel
theorem dL_readAt_8 : decode cL_readAt 8 = .ok (.i2l, 1) := by decide +kernel
theorem dL_readAt_9 : decode cL_readAt 9 = .ok (.lastore, 1) := by decide +kernel
theorem dL_readAt_10 : decode cL_readAt 10 = .ok (.goto 15, 3) := by decide +kernel
theorem dL_readAt_13 : decode cL_readAt 13 = .ok (.astore 4, 2) := by decide +kernel
theorem dL_readAt_15 : decode cL_readAt 15 = .ok (.iconst 1, 1) := by decide +kernel
theorem dL_readAt_16 : decode cL_readAt 16 = .ok (.ireturn, 1) := by decide +kernel
theorem dL_readAt_17 : decode cL_readAt 17 = .ok (.astore 4, 2) := by decide +kernel
theorem dL_readAt_19 : decode cL_readAt 19 = .ok (.iconst 2, 1) := by decide +kernel
theorem dL_readAt_20 : decode cL_readAt 20 = .ok (.ireturn, 1) := by decide +kernel
theorem dL_readAt_21 : decode cL_readAt 21 = .ok (.astore 4, 2) := by decide +kernel
theorem dL_readAt_23 : decode cL_readAt 23 = .ok (.iconst 3, 1) := by decide +kernel
theorem dL_readAt_24 : decode cL_readAt 24 = .ok (.ireturn, 1) := by decide +kernel
theorem dL_readAt_25 : decode cL_readAt 25 = .ok (.iconst 0, 1) := by decide +kernel
theorem dL_readAt_26 : decode cL_readAt 26 = .ok (.ireturn, 1) := by decide +kernel
set_option maxRecDepth 20000 in
theorem ggL_save_X5_save : GoodIn wsL_save wsX5_save := goodIn_ca (goodIn_ca (goodIn_r _ [7, 8, 9, 10, 6, 11, 12, 13, 14, 15, 16, 17, 18, 19, 20, 21, 22, 23, 24, 25, 26, 27, 28, 29, 30, 31, 32, 33, 34, 35, 36, 37, 38, 39, 40, 41, 42, 43, 44, 45, 46, 47, 48, 49, 50, 51, 52, 53, 54, 55, 56, 57, 58, 59, 60] (by decide +kernel) (by decide +kernel)) (goodIn_sub (fun _ h => List.mem_cons_of_mem _ (List.mem_append_left _ (List.mem_append_right _ h))) (by decide +kernel))) (goodIn_sub (fun _ h => List.mem_cons_of_mem _ (List.mem_append_right _ h)) (by decide +kernel))
set_option maxRecDepth 20000 in
theorem gL_save_X5_save : GoodIn wsL_save (wsV RL 36 RX5 yX5_save wsX5_save) := goodIn_app (goodIn_of _ (by decide +kernel)) ggL_save_X5_save
theorem dL_save_0 : decode cL_save 0 = .ok (.aload_n 2, 1) := by decide +kernel
theorem dL_save_1 : decode cL_save 1 = .ok (.iconst 0, 1) := by decide +kernel
theorem dL_save_2 : decode cL_save 2 = .ok (.aload_n 0, 1) := by decide +kernel
theorem dL_save_3 : decode cL_save 3 = .ok (.iload_n 1, 1) := by decide +kernel
theorem dL_save_4 : decode cL_save 4 = .ok (.invokevirtual 36, 3) := by decide +kernel
theorem dL_save_7 : decode cL_save 7 = .ok (.i2l, 1) := by decide +kernel
theorem dL_save_8 : decode cL_save 8 = .ok (.lastore, 1) := by decide +kernel
theorem dL_save_9 : decode cL_save 9 = .ok (.goto 9, 3) := by decide +kernel
theorem dL_save_12 : decode cL_save 12 = .ok (.astore_n 3, 1) := by decide +kernel
theorem dL_save_13 : decode cL_save 13 = .ok (.iconst 1, 1) := by decide +kernel
theorem dL_save_14 : decode cL_save 14 = .ok (.ireturn, 1) := by decide +kernel
theorem dL_save_15 : decode cL_save 15 = .ok (.astore_n 3, 1) := by decide +kernel
theorem dL_save_16 : decode cL_save 16 = .ok (.iconst 2, 1) := by decide +kernel
theorem dL_save_17 : decode cL_save 17 = .ok (.ireturn, 1) := by decide +kernel
theorem dL_save_18 : decode cL_save 18 = .ok (.iconst 0, 1) := by decide +kernel
theorem dL_save_19 : decode cL_save 19 = .ok (.ireturn, 1) := by decide +kernel
set_option maxRecDepth 20000 in
theorem ggL_undoTo_X5_undoTo : GoodIn wsL_undoTo wsX5_undoTo := goodIn_ca (goodIn_ca (goodIn_ca (goodIn_r _ [8, 9, 10, 11, 12, 13, 7, 14, 15, 16, 17, 18, 19, 20, 21, 22, 23, 24, 25, 26, 27, 28, 29, 30, 31, 32, 33, 34, 35, 36, 37, 38, 39, 40, 41, 42, 43, 44, 45, 46, 47, 48, 49, 50, 51, 52, 53, 54, 55, 56, 57, 58, 59, 60, 61, 62, 63, 64, 65, 66, 67, 68, 69, 70, 71, 72, 73, 74, 75, 76, 77, 78, 79, 80, 81, 82, 83] (by decide +kernel) (by decide +kernel)) (goodIn_sub (fun _ h => List.mem_cons_of_mem _ (List.mem_append_left _ (List.mem_append_left _ (List.mem_append_right _ h)))) (by decide +kernel))) (goodIn_sub (fun _ h => List.mem_cons_of_mem _ (List.mem_append_left _ (List.mem_append_right _ h))) (by decide +kernel))) (goodIn_sub (fun _ h => List.mem_cons_of_mem _ (List.mem_append_right _ h)) (by decide +kernel))
set_option maxRecDepth 20000 in
theorem gL_undoTo_X5_undoTo : GoodIn wsL_undoTo (wsV RL 39 RX5 yX5_undoTo wsX5_undoTo) := goodIn_app (goodIn_of _ (by decide +kernel)) ggL_undoTo_X5_undoTo
theorem dL_undoTo_0 : decode cL_undoTo 0 = .ok (.aload_n 3, 1) := by decide +kernel
theorem dL_undoTo_1 : decode cL_undoTo 1 = .ok (.iconst 0, 1) := by decide +kernel
theorem dL_undoTo_2 : decode cL_undoTo 2 = .ok (.aload_n 0, 1) := by decide +kernel
theorem dL_undoTo_3 : decode cL_undoTo 3 = .ok (.iload_n 1, 1) := by decide +kernel
theorem dL_undoTo_4 : decode cL_undoTo 4 = .ok (.iload_n 2, 1) := by decide +kernel
theorem dL_undoTo_5 : decode cL_undoTo 5 = .ok (.invokevirtual 39, 3) := by decide +kernel
theorem dL_undoTo_8 : decode cL_undoTo 8 = .ok (.i2l, 1) := by decide +kernel
theorem dL_undoTo_9 : decode cL_undoTo 9 = .ok (.lastore, 1) := by decide +kernel
theorem dL_undoTo_10 : decode cL_undoTo 10 = .ok (.goto 15, 3) := by decide +kernel
theorem dL_undoTo_13 : decode cL_undoTo 13 = .ok (.astore 4, 2) := by decide +kernel
theorem dL_undoTo_15 : decode cL_undoTo 15 = .ok (.iconst 1, 1) := by decide +kernel
theorem dL_undoTo_16 : decode cL_undoTo 16 = .ok (.ireturn, 1) := by decide +kernel
theorem dL_undoTo_17 : decode cL_undoTo 17 = .ok (.astore 4, 2) := by decide +kernel
theorem dL_undoTo_19 : decode cL_undoTo 19 = .ok (.iconst 2, 1) := by decide +kernel
theorem dL_undoTo_20 : decode cL_undoTo 20 = .ok (.ireturn, 1) := by decide +kernel
theorem dL_undoTo_21 : decode cL_undoTo 21 = .ok (.astore 4, 2) := by decide +kernel
theorem dL_undoTo_23 : decode cL_undoTo 23 = .ok (.iconst 3, 1) := by decide +kernel
theorem dL_undoTo_24 : decode cL_undoTo 24 = .ok (.ireturn, 1) := by decide +kernel
theorem dL_undoTo_25 : decode cL_undoTo 25 = .ok (.iconst 0, 1) := by decide +kernel
theorem dL_undoTo_26 : decode cL_undoTo 26 = .ok (.ireturn, 1) := by decide +kernel
set_option maxRecDepth 20000 in
theorem ggL_undo_X5_undo : GoodIn wsL_undo wsX5_undo := goodIn_ca (goodIn_ca (goodIn_r _ [7, 8, 9, 10, 6, 11, 12, 13, 14, 15, 16, 17, 18, 19, 20, 21, 22, 23, 24, 25, 26, 27, 28, 29, 30, 31, 32, 33, 34, 35, 36, 37, 38, 39, 40, 41, 42, 43, 44, 45, 46, 47, 48, 49, 50, 51, 52, 53, 54, 55, 56, 57, 58, 59, 60, 61, 62, 63, 64, 65, 66, 67, 68, 69, 70, 71, 72, 73, 74, 75, 76, 77, 78, 79, 80] (by decide +kernel) (by decide +kernel)) (goodIn_sub (fun _ h => List.mem_cons_of_mem _ (List.mem_append_left _ (List.mem_append_right _ h))) (by decide +kernel))) (goodIn_sub (fun _ h => List.mem_cons_of_mem _ (List.mem_append_right _ h)) (by decide +kernel))
set_option maxRecDepth 20000 in
theorem gL_undo_X5_undo : GoodIn wsL_undo (wsV RL 42 RX5 yX5_undo wsX5_undo) := goodIn_app (goodIn_of _ (by decide +kernel)) ggL_undo_X5_undo
theorem dL_undo_0 : decode cL_undo 0 = .ok (.aload_n 2, 1) := by decide +kernel
theorem dL_undo_1 : decode cL_undo 1 = .ok (.iconst 0, 1) := by decide +kernel
theorem dL_undo_2 : decode cL_undo 2 = .ok (.aload_n 0, 1) := by decide +kernel
theorem dL_undo_3 : decode cL_undo 3 = .ok (.iload_n 1, 1) := by decide +kernel
theorem dL_undo_4 : decode cL_undo 4 = .ok (.invokevirtual 42, 3) := by decide +kernel
theorem dL_undo_7 : decode cL_undo 7 = .ok (.i2l, 1) := by decide +kernel
theorem dL_undo_8 : decode cL_undo 8 = .ok (.lastore, 1) := by decide +kernel
theorem dL_undo_9 : decode cL_undo 9 = .ok (.goto 9, 3) := by decide +kernel
theorem dL_undo_12 : decode cL_undo 12 = .ok (.astore_n 3, 1) := by decide +kernel
theorem dL_undo_13 : decode cL_undo 13 = .ok (.iconst 1, 1) := by decide +kernel
theorem dL_undo_14 : decode cL_undo 14 = .ok (.ireturn, 1) := by decide +kernel
theorem dL_undo_15 : decode cL_undo 15 = .ok (.astore_n 3, 1) := by decide +kernel
theorem dL_undo_16 : decode cL_undo 16 = .ok (.iconst 2, 1) := by decide +kernel
theorem dL_undo_17 : decode cL_undo 17 = .ok (.ireturn, 1) := by decide +kernel
theorem dL_undo_18 : decode cL_undo 18 = .ok (.iconst 0, 1) := by decide +kernel
theorem dL_undo_19 : decode cL_undo 19 = .ok (.ireturn, 1) := by decide +kernel
set_option maxRecDepth 20000 in
theorem ggL_commit_X5_commit : GoodIn wsL_commit wsX5_commit := goodIn_ca (goodIn_ca (goodIn_r _ [7, 8, 9, 10, 11, 6, 12, 13, 14, 15, 16, 17, 18, 19, 20, 21, 22, 23, 24, 25, 26, 27, 28, 29, 30, 31, 32, 33, 34, 35, 36, 37, 38, 39, 40, 41, 42, 43, 44, 45, 46, 47, 48, 49, 50, 51, 52, 53, 54, 55, 56, 57, 58, 59, 60, 61] (by decide +kernel) (by decide +kernel)) (goodIn_sub (fun _ h => List.mem_cons_of_mem _ (List.mem_append_left _ (List.mem_append_right _ h))) (by decide +kernel))) (goodIn_sub (fun _ h => List.mem_cons_of_mem _ (List.mem_append_right _ h)) (by decide +kernel))
set_option maxRecDepth 20000 in
theorem gL_commit_X5_commit : GoodIn wsL_commit (wsV RL 45 RX5 yX5_commit wsX5_commit) := goodIn_app (goodIn_of _ (by decide +kernel)) ggL_commit_X5_commit
theorem dL_commit_0 : decode cL_commit 0 = .ok (.aload_n 2, 1) := by decide +kernel
theorem dL_commit_1 : decode cL_commit 1 = .ok (.iconst 0, 1) := by decide +kernel
theorem dL_commit_2 : decode cL_commit 2 = .ok (.aload_n 0, 1) := by decide +kernel
theorem dL_commit_3 : decode cL_commit 3 = .ok (.iload_n 1, 1) := by decide +kernel
theorem dL_commit_4 : decode cL_commit 4 = .ok (.invokevirtual 45, 3) := by decide +kernel
theorem dL_commit_7 : decode cL_commit 7 = .ok (.i2l, 1) := by decide +kernel
theorem dL_commit_8 : decode cL_commit 8 = .ok (.lastore, 1) := by decide +kernel
theorem dL_commit_9 : decode cL_commit 9 = .ok (.goto 9, 3) := by decide +kernel
theorem dL_commit_12 : decode cL_commit 12 = .ok (.astore_n 3, 1) := by decide +kernel
theorem dL_commit_13 : decode cL_commit 13 = .ok (.iconst 1, 1) := by decide +kernel
theorem dL_commit_14 : decode cL_commit 14 = .ok (.ireturn, 1) := by decide +kernel
theorem dL_commit_15 : decode cL_commit 15 = .ok (.astore_n 3, 1) := by decide +kernel
theorem dL_commit_16 : decode cL_commit 16 = .ok (.iconst 2, 1) := by decide +kernel
theorem dL_commit_17 : decode cL_commit 17 = .ok (.ireturn, 1) := by decide +kernel
theorem dL_commit_18 : decode cL_commit 18 = .ok (.iconst 0, 1) := by decide +kernel
theorem dL_commit_19 : decode cL_commit 19 = .ok (.ireturn, 1) := by decide +kernel
set_option maxRecDepth 20000 in
theorem ggL_now_X5_now : GoodIn wsL_now wsX5_now := goodIn_ca (goodIn_r _ [6, 7, 8, 9, 5, 10, 11, 12, 13, 14, 15, 16, 17, 18, 19, 20, 21, 22, 23] (by decide +kernel) (by decide +kernel)) (goodIn_sub (fun _ h => List.mem_cons_of_mem _ (List.mem_append_right _ h)) (by decide +kernel))
set_option maxRecDepth 20000 in
theorem gL_now_X5_now : GoodIn wsL_now (wsV RL 48 RX5 yX5_now wsX5_now) := goodIn_app (goodIn_of _ (by decide +kernel)) ggL_now_X5_now
theorem dL_now_0 : decode cL_now 0 = .ok (.aload_n 2, 1) := by decide +kernel
theorem dL_now_1 : decode cL_now 1 = .ok (.iconst 0, 1) := by decide +kernel
theorem dL_now_2 : decode cL_now 2 = .ok (.aload_n 0, 1) := by decide +kernel
theorem dL_now_3 : decode cL_now 3 = .ok (.iload_n 1, 1) := by decide +kernel
theorem dL_now_4 : decode cL_now 4 = .ok (.invokevirtual 48, 3) := by decide +kernel
theorem dL_now_7 : decode cL_now 7 = .ok (.i2l, 1) := by decide +kernel
theorem dL_now_8 : decode cL_now 8 = .ok (.lastore, 1) := by decide +kernel
theorem dL_now_9 : decode cL_now 9 = .ok (.goto 6, 3) := by decide +kernel
theorem dL_now_12 : decode cL_now 12 = .ok (.astore_n 3, 1) := by decide +kernel
theorem dL_now_13 : decode cL_now 13 = .ok (.iconst 1, 1) := by decide +kernel
theorem dL_now_14 : decode cL_now 14 = .ok (.ireturn, 1) := by decide +kernel
theorem dL_now_15 : decode cL_now 15 = .ok (.iconst 0, 1) := by decide +kernel
theorem dL_now_16 : decode cL_now 16 = .ok (.ireturn, 1) := by decide +kernel
set_option maxRecDepth 20000 in
theorem ggL_versionAt_X5_versionAt : GoodIn wsL_versionAt wsX5_versionAt := goodIn_ca (goodIn_ca (goodIn_r _ [7, 8, 9, 10, 6, 11, 12, 13, 14, 15, 16, 17, 18, 19, 20, 21, 22, 23, 24, 25, 26, 27, 28, 29, 30, 31, 32, 33, 34, 35, 36, 37, 38, 39, 40, 41, 42, 43, 44, 45, 46, 47, 48, 49, 50, 51, 52, 53, 54, 55, 56, 57, 58, 59, 60, 61, 62, 63, 64, 65, 66, 67, 68, 69, 70, 71, 72, 73, 74, 75, 76, 77, 78, 79, 80, 81, 82, 83, 84, 85, 86, 87, 88, 89, 90, 91] (by decide +kernel) (by decide +kernel)) (goodIn_sub (fun _ h => List.mem_cons_of_mem _ (List.mem_append_left _ (List.mem_append_right _ h))) (by decide +kernel))) (goodIn_sub (fun _ h => List.mem_cons_of_mem _ (List.mem_append_right _ h)) (by decide +kernel))
set_option maxRecDepth 20000 in
theorem gL_versionAt_X5_versionAt : GoodIn wsL_versionAt (wsV RL 51 RX5 yX5_versionAt wsX5_versionAt) := goodIn_app (goodIn_of _ (by decide +kernel)) ggL_versionAt_X5_versionAt
theorem dL_versionAt_0 : decode cL_versionAt 0 = .ok (.aload_n 3, 1) := by decide +kernel
theorem dL_versionAt_1 : decode cL_versionAt 1 = .ok (.iconst 0, 1) := by decide +kernel
theorem dL_versionAt_2 : decode cL_versionAt 2 = .ok (.aload_n 0, 1) := by decide +kernel
theorem dL_versionAt_3 : decode cL_versionAt 3 = .ok (.iload_n 1, 1) := by decide +kernel
theorem dL_versionAt_4 : decode cL_versionAt 4 = .ok (.iload_n 2, 1) := by decide +kernel
theorem dL_versionAt_5 : decode cL_versionAt 5 = .ok (.invokevirtual 51, 3) := by decide +kernel
theorem dL_versionAt_8 : decode cL_versionAt 8 = .ok (.i2l, 1) := by decide +kernel
theorem dL_versionAt_9 : decode cL_versionAt 9 = .ok (.lastore, 1) := by decide +kernel
theorem dL_versionAt_10 : decode cL_versionAt 10 = .ok (.goto 11, 3) := by decide +kernel
theorem dL_versionAt_13 : decode cL_versionAt 13 = .ok (.astore 4, 2) := by decide +kernel
theorem dL_versionAt_15 : decode cL_versionAt 15 = .ok (.iconst 1, 1) := by decide +kernel
theorem dL_versionAt_16 : decode cL_versionAt 16 = .ok (.ireturn, 1) := by decide +kernel
theorem dL_versionAt_17 : decode cL_versionAt 17 = .ok (.astore 4, 2) := by decide +kernel
theorem dL_versionAt_19 : decode cL_versionAt 19 = .ok (.iconst 2, 1) := by decide +kernel
theorem dL_versionAt_20 : decode cL_versionAt 20 = .ok (.ireturn, 1) := by decide +kernel
theorem dL_versionAt_21 : decode cL_versionAt 21 = .ok (.iconst 0, 1) := by decide +kernel
theorem dL_versionAt_22 : decode cL_versionAt 22 = .ok (.ireturn, 1) := by decide +kernel
set_option maxRecDepth 20000 in
theorem ggL_lockOf_X5_lockOf : GoodIn wsL_lockOf wsX5_lockOf := goodIn_ca (goodIn_r _ [6, 7, 8, 9, 5, 10, 11, 12, 13, 14, 15, 16, 17, 18, 19, 20, 21, 22, 23, 24, 25, 26, 27, 28, 29, 30, 31, 32, 33, 34, 35, 36, 37, 38, 39, 40, 41, 42, 43, 44, 45, 46, 47, 48, 49, 50, 51, 52, 53, 54, 55, 56, 57, 58, 59, 60, 61, 62, 63, 64, 65, 66, 67, 68] (by decide +kernel) (by decide +kernel)) (goodIn_sub (fun _ h => List.mem_cons_of_mem _ (List.mem_append_right _ h)) (by decide +kernel))
set_option maxRecDepth 20000 in
theorem gL_lockOf_X5_lockOf : GoodIn wsL_lockOf (wsV RL 54 RX5 yX5_lockOf wsX5_lockOf) := goodIn_app (goodIn_of _ (by decide +kernel)) ggL_lockOf_X5_lockOf
theorem dL_lockOf_0 : decode cL_lockOf 0 = .ok (.aload_n 2, 1) := by decide +kernel
theorem dL_lockOf_1 : decode cL_lockOf 1 = .ok (.iconst 0, 1) := by decide +kernel
theorem dL_lockOf_2 : decode cL_lockOf 2 = .ok (.aload_n 0, 1) := by decide +kernel
theorem dL_lockOf_3 : decode cL_lockOf 3 = .ok (.iload_n 1, 1) := by decide +kernel
theorem dL_lockOf_4 : decode cL_lockOf 4 = .ok (.invokevirtual 54, 3) := by decide +kernel
theorem dL_lockOf_7 : decode cL_lockOf 7 = .ok (.i2l, 1) := by decide +kernel
theorem dL_lockOf_8 : decode cL_lockOf 8 = .ok (.lastore, 1) := by decide +kernel
theorem dL_lockOf_9 : decode cL_lockOf 9 = .ok (.goto 6, 3) := by decide +kernel
theorem dL_lockOf_12 : decode cL_lockOf 12 = .ok (.astore_n 3, 1) := by decide +kernel
theorem dL_lockOf_13 : decode cL_lockOf 13 = .ok (.iconst 1, 1) := by decide +kernel
theorem dL_lockOf_14 : decode cL_lockOf 14 = .ok (.ireturn, 1) := by decide +kernel
theorem dL_lockOf_15 : decode cL_lockOf 15 = .ok (.iconst 0, 1) := by decide +kernel
theorem dL_lockOf_16 : decode cL_lockOf 16 = .ok (.ireturn, 1) := by decide +kernel
set_option maxRecDepth 20000 in
theorem ggL_slotOf_X5_slotOf : GoodIn wsL_slotOf wsX5_slotOf := goodIn_ca (goodIn_r _ [6, 7, 8, 9, 5, 10, 11, 12, 13, 14, 15, 16, 17, 18, 19, 20, 21, 22, 23, 24, 25, 26, 27, 28, 29] (by decide +kernel) (by decide +kernel)) (goodIn_sub (fun _ h => List.mem_cons_of_mem _ (List.mem_append_right _ h)) (by decide +kernel))
set_option maxRecDepth 20000 in
theorem gL_slotOf_X5_slotOf : GoodIn wsL_slotOf (wsV RL 57 RX5 yX5_slotOf wsX5_slotOf) := goodIn_app (goodIn_of _ (by decide +kernel)) ggL_slotOf_X5_slotOf
theorem dL_slotOf_0 : decode cL_slotOf 0 = .ok (.aload_n 3, 1) := by decide +kernel
theorem dL_slotOf_1 : decode cL_slotOf 1 = .ok (.iconst 0, 1) := by decide +kernel
theorem dL_slotOf_2 : decode cL_slotOf 2 = .ok (.aload_n 0, 1) := by decide +kernel
theorem dL_slotOf_3 : decode cL_slotOf 3 = .ok (.iload_n 1, 1) := by decide +kernel
theorem dL_slotOf_4 : decode cL_slotOf 4 = .ok (.iload_n 2, 1) := by decide +kernel
theorem dL_slotOf_5 : decode cL_slotOf 5 = .ok (.invokevirtual 57, 3) := by decide +kernel
theorem dL_slotOf_8 : decode cL_slotOf 8 = .ok (.i2l, 1) := by decide +kernel
theorem dL_slotOf_9 : decode cL_slotOf 9 = .ok (.lastore, 1) := by decide +kernel
theorem dL_slotOf_10 : decode cL_slotOf 10 = .ok (.goto 7, 3) := by decide +kernel
theorem dL_slotOf_13 : decode cL_slotOf 13 = .ok (.astore 4, 2) := by decide +kernel
theorem dL_slotOf_15 : decode cL_slotOf 15 = .ok (.iconst 1, 1) := by decide +kernel
theorem dL_slotOf_16 : decode cL_slotOf 16 = .ok (.ireturn, 1) := by decide +kernel
theorem dL_slotOf_17 : decode cL_slotOf 17 = .ok (.iconst 0, 1) := by decide +kernel
theorem dL_slotOf_18 : decode cL_slotOf 18 = .ok (.ireturn, 1) := by decide +kernel
set_option maxRecDepth 20000 in
theorem ggL_isMarked_X5_isMarked : GoodIn wsL_isMarked wsX5_isMarked := goodIn_ca (goodIn_r _ [6, 7, 8, 9, 5, 10, 11, 12, 13, 14, 15, 16, 17, 18, 19, 20, 21, 22, 23, 24] (by decide +kernel) (by decide +kernel)) (goodIn_sub (fun _ h => List.mem_cons_of_mem _ (List.mem_append_right _ h)) (by decide +kernel))
set_option maxRecDepth 20000 in
theorem gL_isMarked_X5_isMarked : GoodIn wsL_isMarked (wsV RL 60 RX5 yX5_isMarked wsX5_isMarked) := goodIn_app (goodIn_of _ (by decide +kernel)) ggL_isMarked_X5_isMarked
theorem dL_isMarked_0 : decode cL_isMarked 0 = .ok (.aload_n 3, 1) := by decide +kernel
theorem dL_isMarked_1 : decode cL_isMarked 1 = .ok (.iconst 0, 1) := by decide +kernel
theorem dL_isMarked_2 : decode cL_isMarked 2 = .ok (.aload_n 0, 1) := by decide +kernel
theorem dL_isMarked_3 : decode cL_isMarked 3 = .ok (.iload_n 1, 1) := by decide +kernel
theorem dL_isMarked_4 : decode cL_isMarked 4 = .ok (.iload_n 2, 1) := by decide +kernel
theorem dL_isMarked_5 : decode cL_isMarked 5 = .ok (.invokevirtual 60, 3) := by decide +kernel
theorem dL_isMarked_8 : decode cL_isMarked 8 = .ok (.ifCond .eq 7, 3) := by decide +kernel
theorem dL_isMarked_11 : decode cL_isMarked 11 = .ok (.lconst 1, 1) := by decide +kernel
theorem dL_isMarked_12 : decode cL_isMarked 12 = .ok (.goto 4, 3) := by decide +kernel
theorem dL_isMarked_15 : decode cL_isMarked 15 = .ok (.lconst 0, 1) := by decide +kernel
theorem dL_isMarked_16 : decode cL_isMarked 16 = .ok (.lastore, 1) := by decide +kernel
theorem dL_isMarked_17 : decode cL_isMarked 17 = .ok (.goto 7, 3) := by decide +kernel
theorem dL_isMarked_20 : decode cL_isMarked 20 = .ok (.astore 4, 2) := by decide +kernel
theorem dL_isMarked_22 : decode cL_isMarked 22 = .ok (.iconst 1, 1) := by decide +kernel
theorem dL_isMarked_23 : decode cL_isMarked 23 = .ok (.ireturn, 1) := by decide +kernel
theorem dL_isMarked_24 : decode cL_isMarked 24 = .ok (.iconst 0, 1) := by decide +kernel
theorem dL_isMarked_25 : decode cL_isMarked 25 = .ok (.ireturn, 1) := by decide +kernel
set_option maxRecDepth 20000 in
theorem ggL_law_X5_init : GoodIn wsL_law wsX5_init := goodIn_r _ [9, 10, 11, 12, 13, 14, 15, 16, 17, 18, 19, 20, 21, 22, 23, 24, 25, 26, 27, 28, 29, 30, 31, 32, 33, 34, 35, 36, 37, 38, 39, 40, 41, 42, 43, 44, 45, 46, 47, 48, 49, 50, 51, 52, 53, 54, 55, 56, 57, 58, 59, 60, 61, 537, 538, 539, 540, 541, 542, 543, 544, 563, 564, 565, 566, 567, 568, 569, 570] (by decide +kernel) (by decide +kernel)
set_option maxRecDepth 20000 in
theorem gL_law_X5_init : GoodIn wsL_law (wsX5_init) := ggL_law_X5_init
set_option maxRecDepth 20000 in
theorem ggL_law_X6_init : GoodIn wsL_law wsX6_init := goodIn_r _ [64, 65, 11, 12, 66, 67, 68, 69, 70, 71, 72, 73, 74, 75, 76, 77, 78, 545, 546, 547, 548, 549, 550, 551, 552, 553, 554, 555, 556, 557, 558, 559, 560, 561, 562] (by decide +kernel) (by decide +kernel)
set_option maxRecDepth 20000 in
theorem gL_law_X6_init : GoodIn wsL_law (wsX6_init) := ggL_law_X6_init
set_option maxRecDepth 20000 in
theorem ggL_law_L_setSpace : GoodIn wsL_law wsL_setSpace := goodIn_ca (goodIn_ca (goodIn_r _ [82, 83, 84, 85, 86, 87, 2, 88, 89, 90, 91, 92, 22, 93, 94, 95, 96, 21, 25, 97, 98, 99, 19, 100, 101, 537, 538, 539, 540, 541, 542, 543, 544, 563, 564, 565] (by decide +kernel) (by decide +kernel)) (goodIn_sub (fun _ h => List.mem_append_left _ (List.mem_append_left _ (List.mem_append_left _ (List.mem_append_right _ h)))) (by decide +kernel))) (goodIn_sub (fun _ h => List.mem_append_left _ (List.mem_append_left _ (List.mem_append_right _ h))) (by decide +kernel))
set_option maxRecDepth 20000 in
theorem gL_law_L_setSpace : GoodIn wsL_law (va_wsS RL 68 yL_setSpace wsL_setSpace) := goodIn_app (goodIn_of _ (by decide +kernel)) ggL_law_L_setSpace
set_option maxRecDepth 20000 in
theorem ggL_law_X6_setSpace : GoodIn wsL_law wsX6_setSpace := goodIn_r _ [105, 106, 107, 68, 108, 109, 5, 110, 111, 112, 113, 114, 115, 545, 546, 547, 548, 549, 550, 551, 552, 553, 554, 555, 556, 557, 558, 559, 560, 561, 562] (by decide +kernel) (by decide +kernel)
set_option maxRecDepth 20000 in
theorem gL_law_X6_setSpace : GoodIn wsL_law (wsV RL 73 RX6 yX6_setSpace wsX6_setSpace) := goodIn_app (goodIn_of _ (by decide +kernel)) ggL_law_X6_setSpace
set_option maxRecDepth 20000 in
theorem ggL_law_X6_thrown : GoodIn wsL_law wsX6_thrown := goodIn_r _ [119, 115, 545, 546, 547, 548, 549, 550, 551, 552, 553, 554, 555, 556, 557, 558, 559, 560, 561, 562] (by decide +kernel) (by decide +kernel)
set_option maxRecDepth 20000 in
theorem gL_law_X6_thrown : GoodIn wsL_law (wsV RL 74 RX6 yX6_thrown wsX6_thrown) := goodIn_app (goodIn_of _ (by decide +kernel)) ggL_law_X6_thrown
set_option maxRecDepth 20000 in
theorem ggL_law_L_begin : GoodIn wsL_law wsL_begin := goodIn_ca (goodIn_r _ [122, 84, 123, 124, 125, 2, 126, 91, 92, 20, 127, 128, 129, 23, 97, 98, 99, 19, 100, 101, 130, 131, 132, 11, 12, 133, 134, 135, 136, 137, 138, 139, 140, 141, 142, 143, 34, 144, 145, 146, 147, 148, 149, 150, 151, 152, 153, 154, 155, 33, 156, 157, 158, 159, 160, 161, 162, 163, 164, 165, 166, 167, 168, 169, 170, 171, 172, 173, 174, 175, 176, 177, 178, 179, 180, 181, 182, 183, 184, 185, 186, 187, 188, 189, 537, 538, 539, 540, 541, 542, 543, 544, 571, 572, 573, 574, 575, 563, 564, 565] (by decide +kernel) (by decide +kernel)) (goodIn_sub (fun _ h => List.mem_append_left _ (List.mem_append_left _ (List.mem_append_right _ h))) (by decide +kernel))
set_option maxRecDepth 20000 in
theorem gL_law_L_begin : GoodIn wsL_law (va_wsS RL 77 yL_begin wsL_begin) := goodIn_app (goodIn_of _ (by decide +kernel)) ggL_law_L_begin
set_option maxRecDepth 20000 in
theorem ggL_law_X6_begin : GoodIn wsL_law wsX6_begin := goodIn_r _ [193, 194, 70, 195, 111, 112, 113, 5, 114, 115, 545, 546, 547, 548, 549, 550, 551, 552, 553, 554, 555, 556, 557, 558, 559, 560, 561, 562] (by decide +kernel) (by decide +kernel)
set_option maxRecDepth 20000 in
theorem gL_law_X6_begin : GoodIn wsL_law (wsV RL 80 RX6 yX6_begin wsX6_begin) := goodIn_app (goodIn_of _ (by decide +kernel)) ggL_law_X6_begin
set_option maxRecDepth 20000 in
theorem ggL_law_L_write : GoodIn wsL_law wsL_write := goodIn_ca (goodIn_ca (goodIn_ca (goodIn_r _ [198, 199, 83, 84, 200, 201, 202, 2, 203, 89, 90, 91, 92, 204, 205, 25, 206, 207, 208, 21, 209, 210, 211, 212, 213, 214, 20, 215, 97, 98, 99, 19, 100, 101, 216, 217, 218, 219, 220, 221, 222, 223, 224, 225, 226, 227, 228, 229, 230, 231, 34, 232, 233, 234, 235, 16, 236, 237, 238, 239, 240, 241, 242, 243, 244, 245, 246, 247, 248, 249, 250, 251, 252, 253, 254, 255, 256, 257, 258, 259, 260, 261, 22, 93, 94, 95, 96, 262, 27, 263, 264, 49, 265, 51, 266, 267, 55, 268, 269, 270, 271, 24, 272, 273, 274, 275, 276, 277, 56, 278, 279, 280, 11, 12, 281, 282, 138, 139, 140, 141, 142, 143, 144, 145, 146, 147, 148, 149, 150, 151, 152, 153, 154, 155, 33, 156, 157, 158, 159, 160, 161, 162, 163, 164, 165, 166, 167, 168, 169, 170, 171, 172, 173, 174, 175, 176, 177, 178, 179, 180, 181, 182, 183, 184, 185, 186, 187, 188, 189, 283, 284, 285, 567, 568, 537, 538, 539, 540, 541, 542, 543, 544, 576, 577, 578, 579, 563, 564, 565, 571, 572, 573, 574, 575, 566, 569, 570] (by decide +kernel) (by decide +kernel)) (goodIn_sub (fun _ h => List.mem_append_left _ (List.mem_append_left _ (List.mem_append_left _ (List.mem_append_right _ h)))) (by decide +kernel))) (goodIn_sub (fun _ h => List.mem_append_left _ (List.mem_append_left _ (List.mem_append_right _ h))) (by decide +kernel))) (goodIn_sub (fun _ h => List.mem_append_left _ (List.mem_append_right _ h)) (by decide +kernel))
set_option maxRecDepth 20000 in
theorem gL_law_L_write : GoodIn wsL_law (va_wsS RL 81 yL_write wsL_write) := goodIn_app (goodIn_of _ (by decide +kernel)) ggL_law_L_write
set_option maxRecDepth 20000 in
theorem ggL_law_X6_write : GoodIn wsL_law wsX6_write := goodIn_r _ [289, 290, 291, 67, 77, 78, 107, 106, 68, 72, 73, 74, 292, 293, 294, 5, 295, 194, 108, 109, 110, 296, 297, 298, 299, 300, 301, 302, 69, 303, 304, 305, 306, 76, 307, 308, 309, 310, 311, 312, 313, 314, 111, 112, 113, 114, 115, 315, 316, 317, 318, 319, 545, 546, 547, 548, 549, 550, 551, 552, 553, 554, 555, 556, 557, 558, 559, 560, 561, 562] (by decide +kernel) (by decide +kernel)
set_option maxRecDepth 20000 in
theorem gL_law_X6_write : GoodIn wsL_law (wsV RL 84 RX6 yX6_write wsX6_write) := goodIn_app (goodIn_of _ (by decide +kernel)) ggL_law_X6_write
set_option maxRecDepth 20000 in
theorem ggL_law_L_read : GoodIn wsL_law wsL_read := goodIn_ca (goodIn_ca (goodIn_ca (goodIn_r _ [322, 199, 84, 323, 324, 325, 326, 2, 327, 209, 210, 211, 212, 213, 214, 20, 215, 97, 98, 99, 19, 100, 101, 216, 217, 218, 219, 220, 221, 222, 223, 224, 225, 226, 227, 228, 229, 230, 231, 34, 232, 233, 234, 235, 16, 236, 237, 238, 239, 91, 92, 328, 329, 330, 331, 332, 333, 25, 334, 335, 336, 337, 21, 248, 249, 208, 250, 251, 252, 253, 338, 339, 340, 281, 341, 129, 342, 343, 134, 268, 269, 270, 271, 24, 272, 27, 273, 274, 49, 265, 51, 266, 267, 55, 344, 345, 346, 347, 571, 572, 573, 574, 575, 537, 538, 539, 540, 541, 542, 543, 544, 563, 564, 565, 567, 568, 576, 577, 578, 579, 566, 569, 570] (by decide +kernel) (by decide +kernel)) (goodIn_sub (fun _ h => List.mem_append_left _ (List.mem_append_right _ h)) (by decide +kernel))) (goodIn_sub (fun _ h => List.mem_append_left _ (List.mem_append_left _ (List.mem_append_right _ h))) (by decide +kernel))) (goodIn_sub (fun _ h => List.mem_append_right _ h) (by decide +kernel))
set_option maxRecDepth 20000 in
theorem gL_law_L_read : GoodIn wsL_law (va_wsS RL 85 yL_read wsL_read) := goodIn_app (goodIn_of _ (by decide +kernel)) ggL_law_L_read
set_option maxRecDepth 20000 in
theorem ggL_law_X6_read : GoodIn wsL_law wsX6_read := goodIn_r _ [351, 70, 352, 292, 293, 294, 5, 295, 194, 108, 109, 110, 296, 297, 298, 299, 300, 301, 302, 69, 111, 112, 113, 114, 115, 353, 354, 355, 356, 67, 106, 73, 76, 72, 71, 74, 107, 315, 316, 317, 318, 77, 78, 319, 545, 546, 547, 548, 549, 550, 551, 552, 553, 554, 555, 556, 557, 558, 559, 560, 561, 562] (by decide +kernel) (by decide +kernel)
set_option maxRecDepth 20000 in
theorem gL_law_X6_read : GoodIn wsL_law (wsV RL 88 RX6 yX6_read wsX6_read) := goodIn_app (goodIn_of _ (by decide +kernel)) ggL_law_X6_read
set_option maxRecDepth 20000 in
theorem ggL_law_L_readAt : GoodIn wsL_law wsL_readAt := goodIn_ca (goodIn_ca (goodIn_ca (goodIn_r _ [359, 199, 83, 323, 360, 361, 362, 2, 363, 232, 233, 234, 235, 213, 214, 16, 364, 365, 366, 367, 89, 90, 23, 328, 329, 330, 331, 332, 333, 25, 334, 335, 336, 337, 21, 248, 97, 98, 99, 19, 100, 101, 216, 217, 218, 219, 220, 221, 222, 223, 224, 225, 226, 227, 228, 229, 230, 231, 34, 249, 208, 250, 251, 252, 253, 338, 339, 340, 281, 341, 129, 342, 343, 134, 268, 269, 270, 271, 24, 272, 27, 273, 274, 49, 265, 51, 266, 267, 55, 344, 345, 346, 347, 537, 538, 539, 540, 541, 542, 543, 544, 567, 568, 563, 564, 565, 576, 577, 578, 579, 571, 572, 573, 574, 575, 566, 569, 570] (by decide +kernel) (by decide +kernel)) (goodIn_sub (fun _ h => List.mem_append_left _ (List.mem_append_right _ h)) (by decide +kernel))) (goodIn_sub (fun _ h => List.mem_append_left _ (List.mem_append_left _ (List.mem_append_left _ (List.mem_append_right _ h)))) (by decide +kernel))) (goodIn_sub (fun _ h => List.mem_append_right _ h) (by decide +kernel))
set_option maxRecDepth 20000 in
theorem gL_law_L_readAt : GoodIn wsL_law (va_wsS RL 89 yL_readAt wsL_readAt) := goodIn_app (goodIn_of _ (by decide +kernel)) ggL_law_L_readAt
set_option maxRecDepth 20000 in
theorem ggL_law_X6_readAt : GoodIn wsL_law wsX6_readAt := goodIn_r _ [371, 195, 352, 296, 297, 5, 298, 108, 109, 110, 111, 112, 113, 114, 115, 353, 354, 355, 356, 67, 106, 73, 76, 72, 69, 71, 74, 107, 315, 316, 317, 318, 77, 78, 319, 299, 300, 301, 302, 545, 546, 547, 548, 549, 550, 551, 552, 553, 554, 555, 556, 557, 558, 559, 560, 561, 562] (by decide +kernel) (by decide +kernel)
set_option maxRecDepth 20000 in
theorem gL_law_X6_readAt : GoodIn wsL_law (wsV RL 91 RX6 yX6_readAt wsX6_readAt) := goodIn_app (goodIn_of _ (by decide +kernel)) ggL_law_X6_readAt
set_option maxRecDepth 20000 in
theorem ggL_law_L_save : GoodIn wsL_law wsL_save := goodIn_ca (goodIn_ca (goodIn_r _ [374, 199, 84, 375, 376, 377, 2, 378, 209, 210, 211, 212, 213, 214, 20, 215, 97, 98, 99, 19, 100, 101, 216, 217, 218, 219, 220, 221, 222, 223, 224, 225, 226, 227, 228, 229, 230, 231, 34, 236, 237, 238, 239, 91, 92, 571, 572, 573, 574, 575, 537, 538, 539, 540, 541, 542, 543, 544, 563, 564, 565] (by decide +kernel) (by decide +kernel)) (goodIn_sub (fun _ h => List.mem_append_left _ (List.mem_append_right _ h)) (by decide +kernel))) (goodIn_sub (fun _ h => List.mem_append_left _ (List.mem_append_left _ (List.mem_append_right _ h))) (by decide +kernel))
set_option maxRecDepth 20000 in
theorem gL_law_L_save : GoodIn wsL_law (va_wsS RL 92 yL_save wsL_save) := goodIn_app (goodIn_of _ (by decide +kernel)) ggL_law_L_save
set_option maxRecDepth 20000 in
theorem ggL_law_X6_save : GoodIn wsL_law wsX6_save := goodIn_r _ [382, 383, 384, 385, 5, 386, 292, 293, 294, 295, 194, 108, 109, 110, 299, 300, 301, 302, 69, 111, 112, 113, 114, 115, 387, 388, 389, 390, 106, 72, 76, 545, 546, 547, 548, 549, 550, 551, 552, 553, 554, 555, 556, 557, 558, 559, 560, 561, 562] (by decide +kernel) (by decide +kernel)
set_option maxRecDepth 20000 in
theorem gL_law_X6_save : GoodIn wsL_law (wsV RL 94 RX6 yX6_save wsX6_save) := goodIn_app (goodIn_of _ (by decide +kernel)) ggL_law_X6_save
set_option maxRecDepth 20000 in
theorem ggL_law_L_undoTo : GoodIn wsL_law wsL_undoTo := goodIn_ca (goodIn_ca (goodIn_ca (goodIn_r _ [393, 199, 84, 83, 394, 395, 396, 2, 397, 89, 90, 209, 210, 211, 212, 213, 214, 20, 215, 97, 98, 99, 19, 100, 101, 216, 217, 218, 219, 220, 221, 222, 223, 224, 225, 226, 227, 228, 229, 230, 231, 34, 236, 237, 238, 239, 91, 92, 398, 399, 400, 401, 21, 248, 402, 208, 403, 404, 252, 282, 253, 281, 571, 572, 573, 574, 575, 537, 538, 539, 540, 541, 542, 543, 544, 563, 564, 565, 576, 577, 578, 579, 567, 568] (by decide +kernel) (by decide +kernel)) (goodIn_sub (fun _ h => List.mem_append_left _ (List.mem_append_left _ (List.mem_append_left _ (List.mem_append_right _ h)))) (by decide +kernel))) (goodIn_sub (fun _ h => List.mem_append_left _ (List.mem_append_right _ h)) (by decide +kernel))) (goodIn_sub (fun _ h => List.mem_append_left _ (List.mem_append_left _ (List.mem_append_right _ h))) (by decide +kernel))
set_option maxRecDepth 20000 in
theorem gL_law_L_undoTo : GoodIn wsL_law (va_wsS RL 95 yL_undoTo wsL_undoTo) := goodIn_app (goodIn_of _ (by decide +kernel)) ggL_law_L_undoTo
set_option maxRecDepth 20000 in
theorem ggL_law_X6_undoTo : GoodIn wsL_law wsX6_undoTo := goodIn_r _ [408, 383, 384, 385, 5, 386, 292, 293, 294, 295, 194, 108, 109, 110, 299, 300, 301, 302, 69, 111, 112, 113, 114, 115, 387, 388, 389, 390, 106, 72, 76, 409, 410, 411, 412, 67, 73, 74, 545, 546, 547, 548, 549, 550, 551, 552, 553, 554, 555, 556, 557, 558, 559, 560, 561, 562] (by decide +kernel) (by decide +kernel)
set_option maxRecDepth 20000 in
theorem gL_law_X6_undoTo : GoodIn wsL_law (wsV RL 97 RX6 yX6_undoTo wsX6_undoTo) := goodIn_app (goodIn_of _ (by decide +kernel)) ggL_law_X6_undoTo
set_option maxRecDepth 20000 in
theorem ggL_law_L_undo : GoodIn wsL_law wsL_undo := goodIn_ca (goodIn_ca (goodIn_r _ [415, 199, 84, 416, 417, 418, 2, 419, 209, 210, 211, 212, 213, 214, 20, 215, 97, 98, 99, 19, 100, 101, 216, 217, 218, 219, 220, 221, 222, 223, 224, 225, 226, 227, 228, 229, 230, 231, 34, 236, 237, 238, 239, 91, 92, 398, 399, 400, 401, 21, 248, 402, 208, 403, 404, 252, 282, 253, 281, 571, 572, 573, 574, 575, 537, 538, 539, 540, 541, 542, 543, 544, 563, 564, 565, 576, 577, 578, 579, 567, 568] (by decide +kernel) (by decide +kernel)) (goodIn_sub (fun _ h => List.mem_append_left _ (List.mem_append_right _ h)) (by decide +kernel))) (goodIn_sub (fun _ h => List.mem_append_left _ (List.mem_append_left _ (List.mem_append_right _ h))) (by decide +kernel))
set_option maxRecDepth 20000 in
theorem gL_law_L_undo : GoodIn wsL_law (va_wsS RL 98 yL_undo wsL_undo) := goodIn_app (goodIn_of _ (by decide +kernel)) ggL_law_L_undo
set_option maxRecDepth 20000 in
theorem ggL_law_X6_undo : GoodIn wsL_law wsX6_undo := goodIn_r _ [423, 69, 383, 384, 385, 5, 386, 292, 293, 294, 295, 194, 108, 109, 110, 299, 300, 301, 302, 111, 112, 113, 114, 115, 387, 388, 389, 390, 106, 72, 76, 409, 410, 411, 412, 67, 73, 74, 545, 546, 547, 548, 549, 550, 551, 552, 553, 554, 555, 556, 557, 558, 559, 560, 561, 562] (by decide +kernel) (by decide +kernel)
set_option maxRecDepth 20000 in
theorem gL_law_X6_undo : GoodIn wsL_law (wsV RL 100 RX6 yX6_undo wsX6_undo) := goodIn_app (goodIn_of _ (by decide +kernel)) ggL_law_X6_undo
set_option maxRecDepth 20000 in
theorem ggL_law_L_commit : GoodIn wsL_law wsL_commit := goodIn_ca (goodIn_ca (goodIn_r _ [426, 199, 84, 427, 428, 429, 2, 430, 23, 209, 210, 211, 212, 213, 214, 20, 215, 97, 98, 99, 19, 100, 101, 216, 217, 218, 219, 220, 221, 222, 223, 224, 225, 226, 227, 228, 229, 230, 231, 34, 236, 237, 238, 239, 91, 92, 537, 538, 539, 540, 541, 542, 543, 544, 571, 572, 573, 574, 575, 563, 564, 565] (by decide +kernel) (by decide +kernel)) (goodIn_sub (fun _ h => List.mem_append_left _ (List.mem_append_right _ h)) (by decide +kernel))) (goodIn_sub (fun _ h => List.mem_append_left _ (List.mem_append_left _ (List.mem_append_right _ h))) (by decide +kernel))
set_option maxRecDepth 20000 in
theorem gL_law_L_commit : GoodIn wsL_law (va_wsS RL 101 yL_commit wsL_commit) := goodIn_app (goodIn_of _ (by decide +kernel)) ggL_law_L_commit
set_option maxRecDepth 20000 in
theorem ggL_law_X6_commit : GoodIn wsL_law wsX6_commit := goodIn_r _ [434, 195, 69, 71, 383, 384, 385, 5, 386, 292, 293, 294, 295, 194, 108, 109, 110, 299, 300, 301, 302, 111, 112, 113, 114, 115, 545, 546, 547, 548, 549, 550, 551, 552, 553, 554, 555, 556, 557, 558, 559, 560, 561, 562] (by decide +kernel) (by decide +kernel)
set_option maxRecDepth 20000 in
theorem gL_law_X6_commit : GoodIn wsL_law (wsV RL 103 RX6 yX6_commit wsX6_commit) := goodIn_app (goodIn_of _ (by decide +kernel)) ggL_law_X6_commit
set_option maxRecDepth 20000 in
theorem ggL_law_X5_moment : GoodIn wsL_law wsX5_moment := goodIn_r _ [438, 23, 537, 538, 539, 540, 541, 542, 543, 544] (by decide +kernel) (by decide +kernel)
set_option maxRecDepth 20000 in
theorem gL_law_X5_moment : GoodIn wsL_law (wsV RL 104 RX5 yX5_moment wsX5_moment) := goodIn_app (goodIn_of _ (by decide +kernel)) ggL_law_X5_moment
set_option maxRecDepth 20000 in
theorem ggL_law_X6_moment : GoodIn wsL_law wsX6_moment := goodIn_r _ [442, 115, 195, 545, 546, 547, 548, 549, 550, 551, 552, 553, 554, 555, 556, 557, 558, 559, 560, 561, 562] (by decide +kernel) (by decide +kernel)
set_option maxRecDepth 20000 in
theorem gL_law_X6_moment : GoodIn wsL_law (wsV RL 107 RX6 yX6_moment wsX6_moment) := goodIn_app (goodIn_of _ (by decide +kernel)) ggL_law_X6_moment
set_option maxRecDepth 20000 in
theorem ggL_law_X5_transactions : GoodIn wsL_law wsX5_transactions := goodIn_r _ [446, 20, 97, 98, 99, 19, 100, 101, 537, 538, 539, 540, 541, 542, 543, 544, 563, 564, 565] (by decide +kernel) (by decide +kernel)
set_option maxRecDepth 20000 in
theorem gL_law_X5_transactions : GoodIn wsL_law (wsV RL 108 RX5 yX5_transactions wsX5_transactions) := goodIn_app (goodIn_of _ (by decide +kernel)) ggL_law_X5_transactions
set_option maxRecDepth 20000 in
theorem ggL_law_X6_transactions : GoodIn wsL_law wsX6_transactions := goodIn_r _ [450, 115, 194, 545, 546, 547, 548, 549, 550, 551, 552, 553, 554, 555, 556, 557, 558, 559, 560, 561, 562] (by decide +kernel) (by decide +kernel)
set_option maxRecDepth 20000 in
theorem gL_law_X6_transactions : GoodIn wsL_law (wsV RL 111 RX6 yX6_transactions wsX6_transactions) := goodIn_app (goodIn_of _ (by decide +kernel)) ggL_law_X6_transactions
set_option maxRecDepth 20000 in
theorem ggL_law_L_now : GoodIn wsL_law wsL_now := goodIn_ca (goodIn_r _ [453, 199, 454, 455, 456, 2, 457, 232, 233, 234, 235, 213, 214, 16, 567, 568, 537, 538, 539, 540, 541, 542, 543, 544] (by decide +kernel) (by decide +kernel)) (goodIn_sub (fun _ h => List.mem_append_left _ (List.mem_append_right _ h)) (by decide +kernel))
set_option maxRecDepth 20000 in
theorem gL_law_L_now : GoodIn wsL_law (va_wsS RL 112 yL_now wsL_now) := goodIn_app (goodIn_of _ (by decide +kernel)) ggL_law_L_now
set_option maxRecDepth 20000 in
theorem ggL_law_X6_now : GoodIn wsL_law wsX6_now := goodIn_r _ [461, 67, 296, 297, 5, 298, 108, 109, 110, 111, 112, 113, 114, 115, 545, 546, 547, 548, 549, 550, 551, 552, 553, 554, 555, 556, 557, 558, 559, 560, 561, 562] (by decide +kernel) (by decide +kernel)
set_option maxRecDepth 20000 in
theorem gL_law_X6_now : GoodIn wsL_law (wsV RL 114 RX6 yX6_now wsX6_now) := goodIn_app (goodIn_of _ (by decide +kernel)) ggL_law_X6_now
set_option maxRecDepth 20000 in
theorem ggL_law_L_versionAt : GoodIn wsL_law wsL_versionAt := goodIn_ca (goodIn_ca (goodIn_r _ [464, 199, 83, 465, 466, 467, 2, 468, 232, 233, 234, 235, 213, 214, 16, 364, 365, 366, 367, 89, 90, 23, 334, 335, 336, 337, 21, 248, 97, 98, 99, 19, 100, 101, 216, 217, 218, 219, 220, 221, 222, 223, 224, 225, 226, 227, 228, 229, 230, 231, 34, 249, 208, 250, 251, 252, 253, 338, 339, 340, 281, 341, 129, 342, 343, 134, 344, 345, 346, 347, 537, 538, 539, 540, 541, 542, 543, 544, 563, 564, 565, 576, 577, 578, 579, 571, 572, 573, 574, 575, 567, 568] (by decide +kernel) (by decide +kernel)) (goodIn_sub (fun _ h => List.mem_append_left _ (List.mem_append_right _ h)) (by decide +kernel))) (goodIn_sub (fun _ h => List.mem_append_left _ (List.mem_append_left _ (List.mem_append_left _ (List.mem_append_right _ h)))) (by decide +kernel))
set_option maxRecDepth 20000 in
theorem gL_law_L_versionAt : GoodIn wsL_law (va_wsS RL 115 yL_versionAt wsL_versionAt) := goodIn_app (goodIn_of _ (by decide +kernel)) ggL_law_L_versionAt
set_option maxRecDepth 20000 in
theorem ggL_law_X6_versionAt : GoodIn wsL_law wsX6_versionAt := goodIn_r _ [472, 195, 296, 297, 5, 298, 108, 109, 110, 111, 112, 113, 114, 115, 353, 354, 355, 356, 67, 352, 106, 73, 76, 72, 69, 71, 74, 107, 545, 546, 547, 548, 549, 550, 551, 552, 553, 554, 555, 556, 557, 558, 559, 560, 561, 562] (by decide +kernel) (by decide +kernel)
set_option maxRecDepth 20000 in
theorem gL_law_X6_versionAt : GoodIn wsL_law (wsV RL 117 RX6 yX6_versionAt wsX6_versionAt) := goodIn_app (goodIn_of _ (by decide +kernel)) ggL_law_X6_versionAt
set_option maxRecDepth 20000 in
theorem ggL_law_L_lockOf : GoodIn wsL_law wsL_lockOf := goodIn_ca (goodIn_r _ [475, 199, 476, 477, 478, 2, 479, 232, 233, 234, 235, 213, 214, 16, 244, 245, 246, 247, 21, 248, 97, 98, 99, 19, 100, 101, 216, 217, 218, 219, 220, 221, 222, 223, 224, 225, 226, 227, 228, 229, 230, 231, 34, 249, 208, 250, 251, 252, 253, 571, 572, 573, 574, 575, 537, 538, 539, 540, 541, 542, 543, 544, 576, 577, 578, 579, 563, 564, 565] (by decide +kernel) (by decide +kernel)) (goodIn_sub (fun _ h => List.mem_append_left _ (List.mem_append_right _ h)) (by decide +kernel))
set_option maxRecDepth 20000 in
theorem gL_law_L_lockOf : GoodIn wsL_law (va_wsS RL 118 yL_lockOf wsL_lockOf) := goodIn_app (goodIn_of _ (by decide +kernel)) ggL_law_L_lockOf
set_option maxRecDepth 20000 in
theorem ggL_law_X6_lockOf : GoodIn wsL_law wsX6_lockOf := goodIn_r _ [483, 296, 297, 5, 298, 108, 109, 110, 111, 112, 113, 114, 115, 303, 304, 305, 306, 106, 73, 76, 72, 299, 300, 301, 302, 69, 545, 546, 547, 548, 549, 550, 551, 552, 553, 554, 555, 556, 557, 558, 559, 560, 561, 562] (by decide +kernel) (by decide +kernel)
set_option maxRecDepth 20000 in
theorem gL_law_X6_lockOf : GoodIn wsL_law (wsV RL 120 RX6 yX6_lockOf wsX6_lockOf) := goodIn_app (goodIn_of _ (by decide +kernel)) ggL_law_X6_lockOf
set_option maxRecDepth 20000 in
theorem ggL_law_L_slotOf : GoodIn wsL_law wsL_slotOf := goodIn_ca (goodIn_r _ [486, 199, 487, 488, 489, 2, 490, 491, 492, 493, 494, 213, 214, 14, 569, 570, 571, 572, 573, 574, 575, 537, 538, 539, 540, 541, 542, 543, 544, 566] (by decide +kernel) (by decide +kernel)) (goodIn_sub (fun _ h => List.mem_append_left _ (List.mem_append_right _ h)) (by decide +kernel))
set_option maxRecDepth 20000 in
theorem gL_law_L_slotOf : GoodIn wsL_law (va_wsS RL 121 yL_slotOf wsL_slotOf) := goodIn_app (goodIn_of _ (by decide +kernel)) ggL_law_L_slotOf
set_option maxRecDepth 20000 in
theorem ggL_law_X6_slotOf : GoodIn wsL_law wsX6_slotOf := goodIn_r _ [498, 77, 499, 500, 5, 501, 108, 109, 110, 111, 112, 113, 114, 115, 545, 546, 547, 548, 549, 550, 551, 552, 553, 554, 555, 556, 557, 558, 559, 560, 561, 562] (by decide +kernel) (by decide +kernel)
set_option maxRecDepth 20000 in
theorem gL_law_X6_slotOf : GoodIn wsL_law (wsV RL 123 RX6 yX6_slotOf wsX6_slotOf) := goodIn_app (goodIn_of _ (by decide +kernel)) ggL_law_X6_slotOf
set_option maxRecDepth 20000 in
theorem ggL_law_L_isMarked : GoodIn wsL_law wsL_isMarked := goodIn_ca (goodIn_r _ [504, 199, 505, 506, 507, 2, 508, 491, 492, 493, 494, 213, 214, 14, 569, 570, 537, 538, 539, 540, 541, 542, 543, 544, 566] (by decide +kernel) (by decide +kernel)) (goodIn_sub (fun _ h => List.mem_append_left _ (List.mem_append_right _ h)) (by decide +kernel))
set_option maxRecDepth 20000 in
theorem gL_law_L_isMarked : GoodIn wsL_law (va_wsS RL 124 yL_isMarked wsL_isMarked) := goodIn_app (goodIn_of _ (by decide +kernel)) ggL_law_L_isMarked
set_option maxRecDepth 20000 in
theorem ggL_law_X6_isMarked : GoodIn wsL_law wsX6_isMarked := goodIn_r _ [512, 78, 499, 500, 5, 501, 108, 109, 110, 111, 112, 113, 114, 115, 545, 546, 547, 548, 549, 550, 551, 552, 553, 554, 555, 556, 557, 558, 559, 560, 561, 562] (by decide +kernel) (by decide +kernel)
set_option maxRecDepth 20000 in
theorem gL_law_X6_isMarked : GoodIn wsL_law (wsV RL 126 RX6 yX6_isMarked wsX6_isMarked) := goodIn_app (goodIn_of _ (by decide +kernel)) ggL_law_X6_isMarked
set_option maxRecDepth 20000 in
theorem ggL_law_X5_marked : GoodIn wsL_law wsX5_marked := goodIn_r _ [516, 24, 537, 538, 539, 540, 541, 542, 543, 544] (by decide +kernel) (by decide +kernel)
set_option maxRecDepth 20000 in
theorem gL_law_X5_marked : GoodIn wsL_law (wsV RL 127 RX5 yX5_marked wsX5_marked) := goodIn_app (goodIn_of _ (by decide +kernel)) ggL_law_X5_marked
set_option maxRecDepth 20000 in
theorem ggL_law_X6_marked : GoodIn wsL_law wsX6_marked := goodIn_r _ [520, 115, 319, 545, 546, 547, 548, 549, 550, 551, 552, 553, 554, 555, 556, 557, 558, 559, 560, 561, 562] (by decide +kernel) (by decide +kernel)
set_option maxRecDepth 20000 in
theorem gL_law_X6_marked : GoodIn wsL_law (wsV RL 130 RX6 yX6_marked wsX6_marked) := goodIn_app (goodIn_of _ (by decide +kernel)) ggL_law_X6_marked
set_option maxRecDepth 20000 in
theorem ggL_law_X5_records : GoodIn wsL_law wsX5_records := goodIn_r _ [524, 93, 94, 95, 2, 96, 21, 25, 97, 98, 99, 19, 100, 101, 537, 538, 539, 540, 541, 542, 543, 544, 563, 564, 565] (by decide +kernel) (by decide +kernel)
set_option maxRecDepth 20000 in
theorem gL_law_X5_records : GoodIn wsL_law (wsV RL 131 RX5 yX5_records wsX5_records) := goodIn_app (goodIn_of _ (by decide +kernel)) ggL_law_X5_records
set_option maxRecDepth 20000 in
theorem ggL_law_X6_records : GoodIn wsL_law wsX6_records := goodIn_r _ [528, 115, 106, 107, 545, 546, 547, 548, 549, 550, 551, 552, 553, 554, 555, 556, 557, 558, 559, 560, 561, 562] (by decide +kernel) (by decide +kernel)
set_option maxRecDepth 20000 in
theorem gL_law_X6_records : GoodIn wsL_law (wsV RL 134 RX6 yX6_records wsX6_records) := goodIn_app (goodIn_of _ (by decide +kernel)) ggL_law_X6_records
set_option maxRecDepth 20000 in
theorem ggL_law_X5_dropped : GoodIn wsL_law wsX5_dropped := goodIn_r _ [532, 25, 537, 538, 539, 540, 541, 542, 543, 544] (by decide +kernel) (by decide +kernel)
set_option maxRecDepth 20000 in
theorem gL_law_X5_dropped : GoodIn wsL_law (wsV RL 135 RX5 yX5_dropped wsX5_dropped) := goodIn_app (goodIn_of _ (by decide +kernel)) ggL_law_X5_dropped
set_option maxRecDepth 20000 in
theorem ggL_law_X6_dropped : GoodIn wsL_law wsX6_dropped := goodIn_r _ [536, 115, 107, 545, 546, 547, 548, 549, 550, 551, 552, 553, 554, 555, 556, 557, 558, 559, 560, 561, 562] (by decide +kernel) (by decide +kernel)
set_option maxRecDepth 20000 in
theorem gL_law_X6_dropped : GoodIn wsL_law (wsV RL 138 RX6 yX6_dropped wsX6_dropped) := goodIn_app (goodIn_of _ (by decide +kernel)) ggL_law_X6_dropped
theorem dL_law_0 : decode cL_law 0 = .ok (.new 8, 3) := by decide +kernel
theorem dL_law_3 : decode cL_law 3 = .ok (.dup, 1) := by decide +kernel
theorem dL_law_4 : decode cL_law 4 = .ok (.invokespecial 64, 3) := by decide +kernel
theorem dL_law_7 : decode cL_law 7 = .ok (.astore_n 1, 1) := by decide +kernel
theorem dL_law_8 : decode cL_law 8 = .ok (.new 65, 3) := by decide +kernel
theorem dL_law_11 : decode cL_law 11 = .ok (.dup, 1) := by decide +kernel
theorem dL_law_12 : decode cL_law 12 = .ok (.invokespecial 67, 3) := by decide +kernel
theorem dL_law_15 : decode cL_law 15 = .ok (.astore_n 2, 1) := by decide +kernel
theorem dL_law_16 : decode cL_law 16 = .ok (.iconst 1, 1) := by decide +kernel
theorem dL_law_17 : decode cL_law 17 = .ok (.newarray .long, 2) := by decide +kernel
theorem dL_law_19 : decode cL_law 19 = .ok (.astore_n 3, 1) := by decide +kernel
theorem dL_law_20 : decode cL_law 20 = .ok (.iconst 0, 1) := by decide +kernel
theorem dL_law_21 : decode cL_law 21 = .ok (.istore 4, 2) := by decide +kernel
theorem dL_law_23 : decode cL_law 23 = .ok (.iload 4, 2) := by decide +kernel
theorem dL_law_25 : decode cL_law 25 = .ok (.aload_n 0, 1) := by decide +kernel
theorem dL_law_26 : decode cL_law 26 = .ok (.arraylength, 1) := by decide +kernel
theorem dL_law_27 : decode cL_law 27 = .ok (.iconst 4, 1) := by decide +kernel
theorem dL_law_28 : decode cL_law 28 = .ok (.isub, 1) := by decide +kernel
theorem dL_law_29 : decode cL_law 29 = .ok (.if_icmp .gt 1045, 3) := by decide +kernel
theorem dL_law_32 : decode cL_law 32 = .ok (.aload_n 0, 1) := by decide +kernel
theorem dL_law_33 : decode cL_law 33 = .ok (.iload 4, 2) := by decide +kernel
theorem dL_law_35 : decode cL_law 35 = .ok (.iaload, 1) := by decide +kernel
theorem dL_law_36 : decode cL_law 36 = .ok (.bipush 31, 2) := by decide +kernel
theorem dL_law_38 : decode cL_law 38 = .ok (.iand, 1) := by decide +kernel
theorem dL_law_39 : decode cL_law 39 = .ok (.tableswitch 1029 0 18 #[89, 145, 189, 269, 337, 405, 461, 529, 585, 641, 654, 667, 723, 791, 847, 915, 990, 1003, 1016], 89) := by decide +kernel
theorem dL_law_128 : decode cL_law 128 = .ok (.aload_n 1, 1) := by decide +kernel
theorem dL_law_129 : decode cL_law 129 = .ok (.aload_n 0, 1) := by decide +kernel
theorem dL_law_130 : decode cL_law 130 = .ok (.iload 4, 2) := by decide +kernel
theorem dL_law_132 : decode cL_law 132 = .ok (.iconst 1, 1) := by decide +kernel
theorem dL_law_133 : decode cL_law 133 = .ok (.iadd, 1) := by decide +kernel
theorem dL_law_134 : decode cL_law 134 = .ok (.iaload, 1) := by decide +kernel
theorem dL_law_135 : decode cL_law 135 = .ok (.aload_n 3, 1) := by decide +kernel
theorem dL_law_136 : decode cL_law 136 = .ok (.invokestatic 68, 3) := by decide +kernel
theorem dL_law_139 : decode cL_law 139 = .ok (.istore 5, 2) := by decide +kernel
theorem dL_law_141 : decode cL_law 141 = .ok (.aload_n 2, 1) := by decide +kernel
theorem dL_law_142 : decode cL_law 142 = .ok (.aload_n 0, 1) := by decide +kernel
theorem dL_law_143 : decode cL_law 143 = .ok (.iload 4, 2) := by decide +kernel
theorem dL_law_145 : decode cL_law 145 = .ok (.iconst 1, 1) := by decide +kernel
theorem dL_law_146 : decode cL_law 146 = .ok (.iadd, 1) := by decide +kernel
theorem dL_law_147 : decode cL_law 147 = .ok (.iaload, 1) := by decide +kernel
theorem dL_law_148 : decode cL_law 148 = .ok (.invokevirtual 73, 3) := by decide +kernel
theorem dL_law_151 : decode cL_law 151 = .ok (.istore 6, 2) := by decide +kernel
theorem dL_law_153 : decode cL_law 153 = .ok (.aload_n 2, 1) := by decide +kernel
theorem dL_law_154 : decode cL_law 154 = .ok (.invokevirtual 74, 3) := by decide +kernel
theorem dL_law_157 : decode cL_law 157 = .ok (.iload 5, 2) := by decide +kernel
theorem dL_law_159 : decode cL_law 159 = .ok (.if_icmp .eq 5, 3) := by decide +kernel
theorem dL_law_162 : decode cL_law 162 = .ok (.iconst 0, 1) := by decide +kernel
theorem dL_law_163 : decode cL_law 163 = .ok (.ireturn, 1) := by decide +kernel
theorem dL_law_164 : decode cL_law 164 = .ok (.iload 5, 2) := by decide +kernel
theorem dL_law_166 : decode cL_law 166 = .ok (.ifCond .ne 15, 3) := by decide +kernel
theorem dL_law_169 : decode cL_law 169 = .ok (.aload_n 3, 1) := by decide +kernel
theorem dL_law_170 : decode cL_law 170 = .ok (.iconst 0, 1) := by decide +kernel
theorem dL_law_171 : decode cL_law 171 = .ok (.laload, 1) := by decide +kernel
theorem dL_law_172 : decode cL_law 172 = .ok (.iload 6, 2) := by decide +kernel
theorem dL_law_174 : decode cL_law 174 = .ok (.i2l, 1) := by decide +kernel
theorem dL_law_175 : decode cL_law 175 = .ok (.lcmp, 1) := by decide +kernel
theorem dL_law_176 : decode cL_law 176 = .ok (.ifCond .eq 5, 3) := by decide +kernel
theorem dL_law_179 : decode cL_law 179 = .ok (.iconst 0, 1) := by decide +kernel
theorem dL_law_180 : decode cL_law 180 = .ok (.ireturn, 1) := by decide +kernel
theorem dL_law_181 : decode cL_law 181 = .ok (.goto 887, 3) := by decide +kernel
theorem dL_law_184 : decode cL_law 184 = .ok (.aload_n 1, 1) := by decide +kernel
theorem dL_law_185 : decode cL_law 185 = .ok (.aload_n 3, 1) := by decide +kernel
theorem dL_law_186 : decode cL_law 186 = .ok (.invokestatic 77, 3) := by decide +kernel
theorem dL_law_189 : decode cL_law 189 = .ok (.istore 5, 2) := by decide +kernel
theorem dL_law_191 : decode cL_law 191 = .ok (.aload_n 2, 1) := by decide +kernel
theorem dL_law_192 : decode cL_law 192 = .ok (.invokevirtual 80, 3) := by decide +kernel
theorem dL_law_195 : decode cL_law 195 = .ok (.istore 6, 2) := by decide +kernel
theorem dL_law_197 : decode cL_law 197 = .ok (.aload_n 2, 1) := by decide +kernel
theorem dL_law_198 : decode cL_law 198 = .ok (.invokevirtual 74, 3) := by decide +kernel
theorem dL_law_201 : decode cL_law 201 = .ok (.iload 5, 2) := by decide +kernel
theorem dL_law_203 : decode cL_law 203 = .ok (.if_icmp .eq 5, 3) := by decide +kernel
theorem dL_law_206 : decode cL_law 206 = .ok (.iconst 0, 1) := by decide +kernel
theorem dL_law_207 : decode cL_law 207 = .ok (.ireturn, 1) := by decide +kernel
theorem dL_law_208 : decode cL_law 208 = .ok (.iload 5, 2) := by decide +kernel
theorem dL_law_210 : decode cL_law 210 = .ok (.ifCond .ne 15, 3) := by decide +kernel
theorem dL_law_213 : decode cL_law 213 = .ok (.aload_n 3, 1) := by decide +kernel
theorem dL_law_214 : decode cL_law 214 = .ok (.iconst 0, 1) := by decide +kernel
theorem dL_law_215 : decode cL_law 215 = .ok (.laload, 1) := by decide +kernel
theorem dL_law_216 : decode cL_law 216 = .ok (.iload 6, 2) := by decide +kernel
theorem dL_law_218 : decode cL_law 218 = .ok (.i2l, 1) := by decide +kernel
theorem dL_law_219 : decode cL_law 219 = .ok (.lcmp, 1) := by decide +kernel
theorem dL_law_220 : decode cL_law 220 = .ok (.ifCond .eq 5, 3) := by decide +kernel
theorem dL_law_223 : decode cL_law 223 = .ok (.iconst 0, 1) := by decide +kernel
theorem dL_law_224 : decode cL_law 224 = .ok (.ireturn, 1) := by decide +kernel
theorem dL_law_225 : decode cL_law 225 = .ok (.goto 843, 3) := by decide +kernel
theorem dL_law_228 : decode cL_law 228 = .ok (.aload_n 1, 1) := by decide +kernel
theorem dL_law_229 : decode cL_law 229 = .ok (.aload_n 0, 1) := by decide +kernel
theorem dL_law_230 : decode cL_law 230 = .ok (.iload 4, 2) := by decide +kernel
theorem dL_law_232 : decode cL_law 232 = .ok (.iconst 1, 1) := by decide +kernel
theorem dL_law_233 : decode cL_law 233 = .ok (.iadd, 1) := by decide +kernel
theorem dL_law_234 : decode cL_law 234 = .ok (.iaload, 1) := by decide +kernel
theorem dL_law_235 : decode cL_law 235 = .ok (.aload_n 0, 1) := by decide +kernel
theorem dL_law_236 : decode cL_law 236 = .ok (.iload 4, 2) := by decide +kernel
theorem dL_law_238 : decode cL_law 238 = .ok (.iconst 2, 1) := by decide +kernel
theorem dL_law_239 : decode cL_law 239 = .ok (.iadd, 1) := by decide +kernel
theorem dL_law_240 : decode cL_law 240 = .ok (.iaload, 1) := by decide +kernel
theorem dL_law_241 : decode cL_law 241 = .ok (.aload_n 0, 1) := by decide +kernel
theorem dL_law_242 : decode cL_law 242 = .ok (.iload 4, 2) := by decide +kernel
theorem dL_law_244 : decode cL_law 244 = .ok (.iconst 3, 1) := by decide +kernel
theorem dL_law_245 : decode cL_law 245 = .ok (.iadd, 1) := by decide +kernel
theorem dL_law_246 : decode cL_law 246 = .ok (.iaload, 1) := by decide +kernel
theorem dL_law_247 : decode cL_law 247 = .ok (.aload_n 3, 1) := by decide +kernel
theorem dL_law_248 : decode cL_law 248 = .ok (.invokestatic 81, 3) := by decide +kernel
theorem dL_law_251 : decode cL_law 251 = .ok (.istore 5, 2) := by decide +kernel
theorem dL_law_253 : decode cL_law 253 = .ok (.aload_n 2, 1) := by decide +kernel
theorem dL_law_254 : decode cL_law 254 = .ok (.aload_n 0, 1) := by decide +kernel
theorem dL_law_255 : decode cL_law 255 = .ok (.iload 4, 2) := by decide +kernel
theorem dL_law_257 : decode cL_law 257 = .ok (.iconst 1, 1) := by decide +kernel
theorem dL_law_258 : decode cL_law 258 = .ok (.iadd, 1) := by decide +kernel
theorem dL_law_259 : decode cL_law 259 = .ok (.iaload, 1) := by decide +kernel
theorem dL_law_260 : decode cL_law 260 = .ok (.aload_n 0, 1) := by decide +kernel
theorem dL_law_261 : decode cL_law 261 = .ok (.iload 4, 2) := by decide +kernel
theorem dL_law_263 : decode cL_law 263 = .ok (.iconst 2, 1) := by decide +kernel
theorem dL_law_264 : decode cL_law 264 = .ok (.iadd, 1) := by decide +kernel
theorem dL_law_265 : decode cL_law 265 = .ok (.iaload, 1) := by decide +kernel
theorem dL_law_266 : decode cL_law 266 = .ok (.aload_n 0, 1) := by decide +kernel
theorem dL_law_267 : decode cL_law 267 = .ok (.iload 4, 2) := by decide +kernel
theorem dL_law_269 : decode cL_law 269 = .ok (.iconst 3, 1) := by decide +kernel
theorem dL_law_270 : decode cL_law 270 = .ok (.iadd, 1) := by decide +kernel
theorem dL_law_271 : decode cL_law 271 = .ok (.iaload, 1) := by decide +kernel
theorem dL_law_272 : decode cL_law 272 = .ok (.invokevirtual 84, 3) := by decide +kernel
theorem dL_law_275 : decode cL_law 275 = .ok (.istore 6, 2) := by decide +kernel
theorem dL_law_277 : decode cL_law 277 = .ok (.aload_n 2, 1) := by decide +kernel
theorem dL_law_278 : decode cL_law 278 = .ok (.invokevirtual 74, 3) := by decide +kernel
theorem dL_law_281 : decode cL_law 281 = .ok (.iload 5, 2) := by decide +kernel
theorem dL_law_283 : decode cL_law 283 = .ok (.if_icmp .eq 5, 3) := by decide +kernel
theorem dL_law_286 : decode cL_law 286 = .ok (.iconst 0, 1) := by decide +kernel
theorem dL_law_287 : decode cL_law 287 = .ok (.ireturn, 1) := by decide +kernel
theorem dL_law_288 : decode cL_law 288 = .ok (.iload 5, 2) := by decide +kernel
theorem dL_law_290 : decode cL_law 290 = .ok (.ifCond .ne 15, 3) := by decide +kernel
theorem dL_law_293 : decode cL_law 293 = .ok (.aload_n 3, 1) := by decide +kernel
theorem dL_law_294 : decode cL_law 294 = .ok (.iconst 0, 1) := by decide +kernel
theorem dL_law_295 : decode cL_law 295 = .ok (.laload, 1) := by decide +kernel
theorem dL_law_296 : decode cL_law 296 = .ok (.iload 6, 2) := by decide +kernel
theorem dL_law_298 : decode cL_law 298 = .ok (.i2l, 1) := by decide +kernel
theorem dL_law_299 : decode cL_law 299 = .ok (.lcmp, 1) := by decide +kernel
theorem dL_law_300 : decode cL_law 300 = .ok (.ifCond .eq 5, 3) := by decide +kernel
theorem dL_law_303 : decode cL_law 303 = .ok (.iconst 0, 1) := by decide +kernel
theorem dL_law_304 : decode cL_law 304 = .ok (.ireturn, 1) := by decide +kernel
theorem dL_law_305 : decode cL_law 305 = .ok (.goto 763, 3) := by decide +kernel
theorem dL_law_308 : decode cL_law 308 = .ok (.aload_n 1, 1) := by decide +kernel
theorem dL_law_309 : decode cL_law 309 = .ok (.aload_n 0, 1) := by decide +kernel
theorem dL_law_310 : decode cL_law 310 = .ok (.iload 4, 2) := by decide +kernel
theorem dL_law_312 : decode cL_law 312 = .ok (.iconst 1, 1) := by decide +kernel
theorem dL_law_313 : decode cL_law 313 = .ok (.iadd, 1) := by decide +kernel
theorem dL_law_314 : decode cL_law 314 = .ok (.iaload, 1) := by decide +kernel
theorem dL_law_315 : decode cL_law 315 = .ok (.aload_n 0, 1) := by decide +kernel
theorem dL_law_316 : decode cL_law 316 = .ok (.iload 4, 2) := by decide +kernel
theorem dL_law_318 : decode cL_law 318 = .ok (.iconst 2, 1) := by decide +kernel
theorem dL_law_319 : decode cL_law 319 = .ok (.iadd, 1) := by decide +kernel
theorem dL_law_320 : decode cL_law 320 = .ok (.iaload, 1) := by decide +kernel
theorem dL_law_321 : decode cL_law 321 = .ok (.aload_n 3, 1) := by decide +kernel
theorem dL_law_322 : decode cL_law 322 = .ok (.invokestatic 85, 3) := by decide +kernel
theorem dL_law_325 : decode cL_law 325 = .ok (.istore 5, 2) := by decide +kernel
theorem dL_law_327 : decode cL_law 327 = .ok (.aload_n 2, 1) := by decide +kernel
theorem dL_law_328 : decode cL_law 328 = .ok (.aload_n 0, 1) := by decide +kernel
theorem dL_law_329 : decode cL_law 329 = .ok (.iload 4, 2) := by decide +kernel
theorem dL_law_331 : decode cL_law 331 = .ok (.iconst 1, 1) := by decide +kernel
theorem dL_law_332 : decode cL_law 332 = .ok (.iadd, 1) := by decide +kernel
theorem dL_law_333 : decode cL_law 333 = .ok (.iaload, 1) := by decide +kernel
theorem dL_law_334 : decode cL_law 334 = .ok (.aload_n 0, 1) := by decide +kernel
theorem dL_law_335 : decode cL_law 335 = .ok (.iload 4, 2) := by decide +kernel
theorem dL_law_337 : decode cL_law 337 = .ok (.iconst 2, 1) := by decide +kernel
theorem dL_law_338 : decode cL_law 338 = .ok (.iadd, 1) := by decide +kernel
theorem dL_law_339 : decode cL_law 339 = .ok (.iaload, 1) := by decide +kernel
theorem dL_law_340 : decode cL_law 340 = .ok (.invokevirtual 88, 3) := by decide +kernel
theorem dL_law_343 : decode cL_law 343 = .ok (.istore 6, 2) := by decide +kernel
theorem dL_law_345 : decode cL_law 345 = .ok (.aload_n 2, 1) := by decide +kernel
theorem dL_law_346 : decode cL_law 346 = .ok (.invokevirtual 74, 3) := by decide +kernel
theorem dL_law_349 : decode cL_law 349 = .ok (.iload 5, 2) := by decide +kernel
theorem dL_law_351 : decode cL_law 351 = .ok (.if_icmp .eq 5, 3) := by decide +kernel
theorem dL_law_354 : decode cL_law 354 = .ok (.iconst 0, 1) := by decide +kernel
theorem dL_law_355 : decode cL_law 355 = .ok (.ireturn, 1) := by decide +kernel
theorem dL_law_356 : decode cL_law 356 = .ok (.iload 5, 2) := by decide +kernel
theorem dL_law_358 : decode cL_law 358 = .ok (.ifCond .ne 15, 3) := by decide +kernel
theorem dL_law_361 : decode cL_law 361 = .ok (.aload_n 3, 1) := by decide +kernel
theorem dL_law_362 : decode cL_law 362 = .ok (.iconst 0, 1) := by decide +kernel
theorem dL_law_363 : decode cL_law 363 = .ok (.laload, 1) := by decide +kernel
theorem dL_law_364 : decode cL_law 364 = .ok (.iload 6, 2) := by decide +kernel
theorem dL_law_366 : decode cL_law 366 = .ok (.i2l, 1) := by decide +kernel
theorem dL_law_367 : decode cL_law 367 = .ok (.lcmp, 1) := by decide +kernel
theorem dL_law_368 : decode cL_law 368 = .ok (.ifCond .eq 5, 3) := by decide +kernel
theorem dL_law_371 : decode cL_law 371 = .ok (.iconst 0, 1) := by decide +kernel
theorem dL_law_372 : decode cL_law 372 = .ok (.ireturn, 1) := by decide +kernel
theorem dL_law_373 : decode cL_law 373 = .ok (.goto 695, 3) := by decide +kernel
theorem dL_law_376 : decode cL_law 376 = .ok (.aload_n 1, 1) := by decide +kernel
theorem dL_law_377 : decode cL_law 377 = .ok (.aload_n 0, 1) := by decide +kernel
theorem dL_law_378 : decode cL_law 378 = .ok (.iload 4, 2) := by decide +kernel
theorem dL_law_380 : decode cL_law 380 = .ok (.iconst 1, 1) := by decide +kernel
theorem dL_law_381 : decode cL_law 381 = .ok (.iadd, 1) := by decide +kernel
theorem dL_law_382 : decode cL_law 382 = .ok (.iaload, 1) := by decide +kernel
theorem dL_law_383 : decode cL_law 383 = .ok (.aload_n 0, 1) := by decide +kernel
theorem dL_law_384 : decode cL_law 384 = .ok (.iload 4, 2) := by decide +kernel
theorem dL_law_386 : decode cL_law 386 = .ok (.iconst 2, 1) := by decide +kernel
theorem dL_law_387 : decode cL_law 387 = .ok (.iadd, 1) := by decide +kernel
theorem dL_law_388 : decode cL_law 388 = .ok (.iaload, 1) := by decide +kernel
theorem dL_law_389 : decode cL_law 389 = .ok (.aload_n 3, 1) := by decide +kernel
theorem dL_law_390 : decode cL_law 390 = .ok (.invokestatic 89, 3) := by decide +kernel
theorem dL_law_393 : decode cL_law 393 = .ok (.istore 5, 2) := by decide +kernel
theorem dL_law_395 : decode cL_law 395 = .ok (.aload_n 2, 1) := by decide +kernel
theorem dL_law_396 : decode cL_law 396 = .ok (.aload_n 0, 1) := by decide +kernel
theorem dL_law_397 : decode cL_law 397 = .ok (.iload 4, 2) := by decide +kernel
theorem dL_law_399 : decode cL_law 399 = .ok (.iconst 1, 1) := by decide +kernel
theorem dL_law_400 : decode cL_law 400 = .ok (.iadd, 1) := by decide +kernel
theorem dL_law_401 : decode cL_law 401 = .ok (.iaload, 1) := by decide +kernel
theorem dL_law_402 : decode cL_law 402 = .ok (.aload_n 0, 1) := by decide +kernel
theorem dL_law_403 : decode cL_law 403 = .ok (.iload 4, 2) := by decide +kernel
theorem dL_law_405 : decode cL_law 405 = .ok (.iconst 2, 1) := by decide +kernel
theorem dL_law_406 : decode cL_law 406 = .ok (.iadd, 1) := by decide +kernel
theorem dL_law_407 : decode cL_law 407 = .ok (.iaload, 1) := by decide +kernel
theorem dL_law_408 : decode cL_law 408 = .ok (.invokevirtual 91, 3) := by decide +kernel
theorem dL_law_411 : decode cL_law 411 = .ok (.istore 6, 2) := by decide +kernel
theorem dL_law_413 : decode cL_law 413 = .ok (.aload_n 2, 1) := by decide +kernel
theorem dL_law_414 : decode cL_law 414 = .ok (.invokevirtual 74, 3) := by decide +kernel
theorem dL_law_417 : decode cL_law 417 = .ok (.iload 5, 2) := by decide +kernel
theorem dL_law_419 : decode cL_law 419 = .ok (.if_icmp .eq 5, 3) := by decide +kernel
theorem dL_law_422 : decode cL_law 422 = .ok (.iconst 0, 1) := by decide +kernel
theorem dL_law_423 : decode cL_law 423 = .ok (.ireturn, 1) := by decide +kernel
theorem dL_law_424 : decode cL_law 424 = .ok (.iload 5, 2) := by decide +kernel
theorem dL_law_426 : decode cL_law 426 = .ok (.ifCond .ne 15, 3) := by decide +kernel
theorem dL_law_429 : decode cL_law 429 = .ok (.aload_n 3, 1) := by decide +kernel
theorem dL_law_430 : decode cL_law 430 = .ok (.iconst 0, 1) := by decide +kernel
theorem dL_law_431 : decode cL_law 431 = .ok (.laload, 1) := by decide +kernel
theorem dL_law_432 : decode cL_law 432 = .ok (.iload 6, 2) := by decide +kernel
theorem dL_law_434 : decode cL_law 434 = .ok (.i2l, 1) := by decide +kernel
theorem dL_law_435 : decode cL_law 435 = .ok (.lcmp, 1) := by decide +kernel
theorem dL_law_436 : decode cL_law 436 = .ok (.ifCond .eq 5, 3) := by decide +kernel
theorem dL_law_439 : decode cL_law 439 = .ok (.iconst 0, 1) := by decide +kernel
theorem dL_law_440 : decode cL_law 440 = .ok (.ireturn, 1) := by decide +kernel
theorem dL_law_441 : decode cL_law 441 = .ok (.goto 627, 3) := by decide +kernel
theorem dL_law_444 : decode cL_law 444 = .ok (.aload_n 1, 1) := by decide +kernel
theorem dL_law_445 : decode cL_law 445 = .ok (.aload_n 0, 1) := by decide +kernel
theorem dL_law_446 : decode cL_law 446 = .ok (.iload 4, 2) := by decide +kernel
theorem dL_law_448 : decode cL_law 448 = .ok (.iconst 1, 1) := by decide +kernel
theorem dL_law_449 : decode cL_law 449 = .ok (.iadd, 1) := by decide +kernel
theorem dL_law_450 : decode cL_law 450 = .ok (.iaload, 1) := by decide +kernel
theorem dL_law_451 : decode cL_law 451 = .ok (.aload_n 3, 1) := by decide +kernel
theorem dL_law_452 : decode cL_law 452 = .ok (.invokestatic 92, 3) := by decide +kernel
theorem dL_law_455 : decode cL_law 455 = .ok (.istore 5, 2) := by decide +kernel
theorem dL_law_457 : decode cL_law 457 = .ok (.aload_n 2, 1) := by decide +kernel
theorem dL_law_458 : decode cL_law 458 = .ok (.aload_n 0, 1) := by decide +kernel
theorem dL_law_459 : decode cL_law 459 = .ok (.iload 4, 2) := by decide +kernel
theorem dL_law_461 : decode cL_law 461 = .ok (.iconst 1, 1) := by decide +kernel
theorem dL_law_462 : decode cL_law 462 = .ok (.iadd, 1) := by decide +kernel
theorem dL_law_463 : decode cL_law 463 = .ok (.iaload, 1) := by decide +kernel
theorem dL_law_464 : decode cL_law 464 = .ok (.invokevirtual 94, 3) := by decide +kernel
theorem dL_law_467 : decode cL_law 467 = .ok (.istore 6, 2) := by decide +kernel
theorem dL_law_469 : decode cL_law 469 = .ok (.aload_n 2, 1) := by decide +kernel
theorem dL_law_470 : decode cL_law 470 = .ok (.invokevirtual 74, 3) := by decide +kernel
theorem dL_law_473 : decode cL_law 473 = .ok (.iload 5, 2) := by decide +kernel
theorem dL_law_475 : decode cL_law 475 = .ok (.if_icmp .eq 5, 3) := by decide +kernel
theorem dL_law_478 : decode cL_law 478 = .ok (.iconst 0, 1) := by decide +kernel
theorem dL_law_479 : decode cL_law 479 = .ok (.ireturn, 1) := by decide +kernel
theorem dL_law_480 : decode cL_law 480 = .ok (.iload 5, 2) := by decide +kernel
theorem dL_law_482 : decode cL_law 482 = .ok (.ifCond .ne 15, 3) := by decide +kernel
theorem dL_law_485 : decode cL_law 485 = .ok (.aload_n 3, 1) := by decide +kernel
theorem dL_law_486 : decode cL_law 486 = .ok (.iconst 0, 1) := by decide +kernel
theorem dL_law_487 : decode cL_law 487 = .ok (.laload, 1) := by decide +kernel
theorem dL_law_488 : decode cL_law 488 = .ok (.iload 6, 2) := by decide +kernel
theorem dL_law_490 : decode cL_law 490 = .ok (.i2l, 1) := by decide +kernel
theorem dL_law_491 : decode cL_law 491 = .ok (.lcmp, 1) := by decide +kernel
theorem dL_law_492 : decode cL_law 492 = .ok (.ifCond .eq 5, 3) := by decide +kernel
theorem dL_law_495 : decode cL_law 495 = .ok (.iconst 0, 1) := by decide +kernel
theorem dL_law_496 : decode cL_law 496 = .ok (.ireturn, 1) := by decide +kernel
theorem dL_law_497 : decode cL_law 497 = .ok (.goto 571, 3) := by decide +kernel
theorem dL_law_500 : decode cL_law 500 = .ok (.aload_n 1, 1) := by decide +kernel
theorem dL_law_501 : decode cL_law 501 = .ok (.aload_n 0, 1) := by decide +kernel
theorem dL_law_502 : decode cL_law 502 = .ok (.iload 4, 2) := by decide +kernel
theorem dL_law_504 : decode cL_law 504 = .ok (.iconst 1, 1) := by decide +kernel
theorem dL_law_505 : decode cL_law 505 = .ok (.iadd, 1) := by decide +kernel
theorem dL_law_506 : decode cL_law 506 = .ok (.iaload, 1) := by decide +kernel
theorem dL_law_507 : decode cL_law 507 = .ok (.aload_n 0, 1) := by decide +kernel
theorem dL_law_508 : decode cL_law 508 = .ok (.iload 4, 2) := by decide +kernel
theorem dL_law_510 : decode cL_law 510 = .ok (.iconst 2, 1) := by decide +kernel
theorem dL_law_511 : decode cL_law 511 = .ok (.iadd, 1) := by decide +kernel
theorem dL_law_512 : decode cL_law 512 = .ok (.iaload, 1) := by decide +kernel
theorem dL_law_513 : decode cL_law 513 = .ok (.aload_n 3, 1) := by decide +kernel
theorem dL_law_514 : decode cL_law 514 = .ok (.invokestatic 95, 3) := by decide +kernel
theorem dL_law_517 : decode cL_law 517 = .ok (.istore 5, 2) := by decide +kernel
theorem dL_law_519 : decode cL_law 519 = .ok (.aload_n 2, 1) := by decide +kernel
theorem dL_law_520 : decode cL_law 520 = .ok (.aload_n 0, 1) := by decide +kernel
theorem dL_law_521 : decode cL_law 521 = .ok (.iload 4, 2) := by decide +kernel
theorem dL_law_523 : decode cL_law 523 = .ok (.iconst 1, 1) := by decide +kernel
theorem dL_law_524 : decode cL_law 524 = .ok (.iadd, 1) := by decide +kernel
theorem dL_law_525 : decode cL_law 525 = .ok (.iaload, 1) := by decide +kernel
theorem dL_law_526 : decode cL_law 526 = .ok (.aload_n 0, 1) := by decide +kernel
theorem dL_law_527 : decode cL_law 527 = .ok (.iload 4, 2) := by decide +kernel
theorem dL_law_529 : decode cL_law 529 = .ok (.iconst 2, 1) := by decide +kernel
theorem dL_law_530 : decode cL_law 530 = .ok (.iadd, 1) := by decide +kernel
theorem dL_law_531 : decode cL_law 531 = .ok (.iaload, 1) := by decide +kernel
theorem dL_law_532 : decode cL_law 532 = .ok (.invokevirtual 97, 3) := by decide +kernel
theorem dL_law_535 : decode cL_law 535 = .ok (.istore 6, 2) := by decide +kernel
theorem dL_law_537 : decode cL_law 537 = .ok (.aload_n 2, 1) := by decide +kernel
theorem dL_law_538 : decode cL_law 538 = .ok (.invokevirtual 74, 3) := by decide +kernel
theorem dL_law_541 : decode cL_law 541 = .ok (.iload 5, 2) := by decide +kernel
theorem dL_law_543 : decode cL_law 543 = .ok (.if_icmp .eq 5, 3) := by decide +kernel
theorem dL_law_546 : decode cL_law 546 = .ok (.iconst 0, 1) := by decide +kernel
theorem dL_law_547 : decode cL_law 547 = .ok (.ireturn, 1) := by decide +kernel
theorem dL_law_548 : decode cL_law 548 = .ok (.iload 5, 2) := by decide +kernel
theorem dL_law_550 : decode cL_law 550 = .ok (.ifCond .ne 15, 3) := by decide +kernel
theorem dL_law_553 : decode cL_law 553 = .ok (.aload_n 3, 1) := by decide +kernel
theorem dL_law_554 : decode cL_law 554 = .ok (.iconst 0, 1) := by decide +kernel
theorem dL_law_555 : decode cL_law 555 = .ok (.laload, 1) := by decide +kernel
theorem dL_law_556 : decode cL_law 556 = .ok (.iload 6, 2) := by decide +kernel
theorem dL_law_558 : decode cL_law 558 = .ok (.i2l, 1) := by decide +kernel
theorem dL_law_559 : decode cL_law 559 = .ok (.lcmp, 1) := by decide +kernel
theorem dL_law_560 : decode cL_law 560 = .ok (.ifCond .eq 5, 3) := by decide +kernel
theorem dL_law_563 : decode cL_law 563 = .ok (.iconst 0, 1) := by decide +kernel
theorem dL_law_564 : decode cL_law 564 = .ok (.ireturn, 1) := by decide +kernel
theorem dL_law_565 : decode cL_law 565 = .ok (.goto 503, 3) := by decide +kernel
theorem dL_law_568 : decode cL_law 568 = .ok (.aload_n 1, 1) := by decide +kernel
theorem dL_law_569 : decode cL_law 569 = .ok (.aload_n 0, 1) := by decide +kernel
theorem dL_law_570 : decode cL_law 570 = .ok (.iload 4, 2) := by decide +kernel
theorem dL_law_572 : decode cL_law 572 = .ok (.iconst 1, 1) := by decide +kernel
theorem dL_law_573 : decode cL_law 573 = .ok (.iadd, 1) := by decide +kernel
theorem dL_law_574 : decode cL_law 574 = .ok (.iaload, 1) := by decide +kernel
theorem dL_law_575 : decode cL_law 575 = .ok (.aload_n 3, 1) := by decide +kernel
theorem dL_law_576 : decode cL_law 576 = .ok (.invokestatic 98, 3) := by decide +kernel
theorem dL_law_579 : decode cL_law 579 = .ok (.istore 5, 2) := by decide +kernel
theorem dL_law_581 : decode cL_law 581 = .ok (.aload_n 2, 1) := by decide +kernel
theorem dL_law_582 : decode cL_law 582 = .ok (.aload_n 0, 1) := by decide +kernel
theorem dL_law_583 : decode cL_law 583 = .ok (.iload 4, 2) := by decide +kernel
theorem dL_law_585 : decode cL_law 585 = .ok (.iconst 1, 1) := by decide +kernel
theorem dL_law_586 : decode cL_law 586 = .ok (.iadd, 1) := by decide +kernel
theorem dL_law_587 : decode cL_law 587 = .ok (.iaload, 1) := by decide +kernel
theorem dL_law_588 : decode cL_law 588 = .ok (.invokevirtual 100, 3) := by decide +kernel
theorem dL_law_591 : decode cL_law 591 = .ok (.istore 6, 2) := by decide +kernel
theorem dL_law_593 : decode cL_law 593 = .ok (.aload_n 2, 1) := by decide +kernel
theorem dL_law_594 : decode cL_law 594 = .ok (.invokevirtual 74, 3) := by decide +kernel
theorem dL_law_597 : decode cL_law 597 = .ok (.iload 5, 2) := by decide +kernel
theorem dL_law_599 : decode cL_law 599 = .ok (.if_icmp .eq 5, 3) := by decide +kernel
theorem dL_law_602 : decode cL_law 602 = .ok (.iconst 0, 1) := by decide +kernel
theorem dL_law_603 : decode cL_law 603 = .ok (.ireturn, 1) := by decide +kernel
theorem dL_law_604 : decode cL_law 604 = .ok (.iload 5, 2) := by decide +kernel
theorem dL_law_606 : decode cL_law 606 = .ok (.ifCond .ne 15, 3) := by decide +kernel
theorem dL_law_609 : decode cL_law 609 = .ok (.aload_n 3, 1) := by decide +kernel
theorem dL_law_610 : decode cL_law 610 = .ok (.iconst 0, 1) := by decide +kernel
theorem dL_law_611 : decode cL_law 611 = .ok (.laload, 1) := by decide +kernel
theorem dL_law_612 : decode cL_law 612 = .ok (.iload 6, 2) := by decide +kernel
theorem dL_law_614 : decode cL_law 614 = .ok (.i2l, 1) := by decide +kernel
theorem dL_law_615 : decode cL_law 615 = .ok (.lcmp, 1) := by decide +kernel
theorem dL_law_616 : decode cL_law 616 = .ok (.ifCond .eq 5, 3) := by decide +kernel
theorem dL_law_619 : decode cL_law 619 = .ok (.iconst 0, 1) := by decide +kernel
theorem dL_law_620 : decode cL_law 620 = .ok (.ireturn, 1) := by decide +kernel
theorem dL_law_621 : decode cL_law 621 = .ok (.goto 447, 3) := by decide +kernel
theorem dL_law_624 : decode cL_law 624 = .ok (.aload_n 1, 1) := by decide +kernel
theorem dL_law_625 : decode cL_law 625 = .ok (.aload_n 0, 1) := by decide +kernel
theorem dL_law_626 : decode cL_law 626 = .ok (.iload 4, 2) := by decide +kernel
theorem dL_law_628 : decode cL_law 628 = .ok (.iconst 1, 1) := by decide +kernel
theorem dL_law_629 : decode cL_law 629 = .ok (.iadd, 1) := by decide +kernel
theorem dL_law_630 : decode cL_law 630 = .ok (.iaload, 1) := by decide +kernel
theorem dL_law_631 : decode cL_law 631 = .ok (.aload_n 3, 1) := by decide +kernel
theorem dL_law_632 : decode cL_law 632 = .ok (.invokestatic 101, 3) := by decide +kernel
theorem dL_law_635 : decode cL_law 635 = .ok (.istore 5, 2) := by decide +kernel
theorem dL_law_637 : decode cL_law 637 = .ok (.aload_n 2, 1) := by decide +kernel
theorem dL_law_638 : decode cL_law 638 = .ok (.aload_n 0, 1) := by decide +kernel
theorem dL_law_639 : decode cL_law 639 = .ok (.iload 4, 2) := by decide +kernel
theorem dL_law_641 : decode cL_law 641 = .ok (.iconst 1, 1) := by decide +kernel
theorem dL_law_642 : decode cL_law 642 = .ok (.iadd, 1) := by decide +kernel
theorem dL_law_643 : decode cL_law 643 = .ok (.iaload, 1) := by decide +kernel
theorem dL_law_644 : decode cL_law 644 = .ok (.invokevirtual 103, 3) := by decide +kernel
theorem dL_law_647 : decode cL_law 647 = .ok (.istore 6, 2) := by decide +kernel
theorem dL_law_649 : decode cL_law 649 = .ok (.aload_n 2, 1) := by decide +kernel
theorem dL_law_650 : decode cL_law 650 = .ok (.invokevirtual 74, 3) := by decide +kernel
theorem dL_law_653 : decode cL_law 653 = .ok (.iload 5, 2) := by decide +kernel
theorem dL_law_655 : decode cL_law 655 = .ok (.if_icmp .eq 5, 3) := by decide +kernel
theorem dL_law_658 : decode cL_law 658 = .ok (.iconst 0, 1) := by decide +kernel
theorem dL_law_659 : decode cL_law 659 = .ok (.ireturn, 1) := by decide +kernel
theorem dL_law_660 : decode cL_law 660 = .ok (.iload 5, 2) := by decide +kernel
theorem dL_law_662 : decode cL_law 662 = .ok (.ifCond .ne 15, 3) := by decide +kernel
theorem dL_law_665 : decode cL_law 665 = .ok (.aload_n 3, 1) := by decide +kernel
theorem dL_law_666 : decode cL_law 666 = .ok (.iconst 0, 1) := by decide +kernel
theorem dL_law_667 : decode cL_law 667 = .ok (.laload, 1) := by decide +kernel
theorem dL_law_668 : decode cL_law 668 = .ok (.iload 6, 2) := by decide +kernel
theorem dL_law_670 : decode cL_law 670 = .ok (.i2l, 1) := by decide +kernel
theorem dL_law_671 : decode cL_law 671 = .ok (.lcmp, 1) := by decide +kernel
theorem dL_law_672 : decode cL_law 672 = .ok (.ifCond .eq 5, 3) := by decide +kernel
theorem dL_law_675 : decode cL_law 675 = .ok (.iconst 0, 1) := by decide +kernel
theorem dL_law_676 : decode cL_law 676 = .ok (.ireturn, 1) := by decide +kernel
theorem dL_law_677 : decode cL_law 677 = .ok (.goto 391, 3) := by decide +kernel
theorem dL_law_680 : decode cL_law 680 = .ok (.aload_n 1, 1) := by decide +kernel
theorem dL_law_681 : decode cL_law 681 = .ok (.invokevirtual 104, 3) := by decide +kernel
theorem dL_law_684 : decode cL_law 684 = .ok (.aload_n 2, 1) := by decide +kernel
theorem dL_law_685 : decode cL_law 685 = .ok (.invokevirtual 107, 3) := by decide +kernel
theorem dL_law_688 : decode cL_law 688 = .ok (.if_icmp .eq 380, 3) := by decide +kernel
theorem dL_law_691 : decode cL_law 691 = .ok (.iconst 0, 1) := by decide +kernel
theorem dL_law_692 : decode cL_law 692 = .ok (.ireturn, 1) := by decide +kernel
theorem dL_law_693 : decode cL_law 693 = .ok (.aload_n 1, 1) := by decide +kernel
theorem dL_law_694 : decode cL_law 694 = .ok (.invokevirtual 108, 3) := by decide +kernel
theorem dL_law_697 : decode cL_law 697 = .ok (.aload_n 2, 1) := by decide +kernel
theorem dL_law_698 : decode cL_law 698 = .ok (.invokevirtual 111, 3) := by decide +kernel
theorem dL_law_701 : decode cL_law 701 = .ok (.if_icmp .eq 367, 3) := by decide +kernel
theorem dL_law_704 : decode cL_law 704 = .ok (.iconst 0, 1) := by decide +kernel
theorem dL_law_705 : decode cL_law 705 = .ok (.ireturn, 1) := by decide +kernel
theorem dL_law_706 : decode cL_law 706 = .ok (.aload_n 1, 1) := by decide +kernel
theorem dL_law_707 : decode cL_law 707 = .ok (.aload_n 0, 1) := by decide +kernel
theorem dL_law_708 : decode cL_law 708 = .ok (.iload 4, 2) := by decide +kernel
theorem dL_law_710 : decode cL_law 710 = .ok (.iconst 1, 1) := by decide +kernel
theorem dL_law_711 : decode cL_law 711 = .ok (.iadd, 1) := by decide +kernel
theorem dL_law_712 : decode cL_law 712 = .ok (.iaload, 1) := by decide +kernel
theorem dL_law_713 : decode cL_law 713 = .ok (.aload_n 3, 1) := by decide +kernel
theorem dL_law_714 : decode cL_law 714 = .ok (.invokestatic 112, 3) := by decide +kernel
theorem dL_law_717 : decode cL_law 717 = .ok (.istore 5, 2) := by decide +kernel
theorem dL_law_719 : decode cL_law 719 = .ok (.aload_n 2, 1) := by decide +kernel
theorem dL_law_720 : decode cL_law 720 = .ok (.aload_n 0, 1) := by decide +kernel
theorem dL_law_721 : decode cL_law 721 = .ok (.iload 4, 2) := by decide +kernel
theorem dL_law_723 : decode cL_law 723 = .ok (.iconst 1, 1) := by decide +kernel
theorem dL_law_724 : decode cL_law 724 = .ok (.iadd, 1) := by decide +kernel
theorem dL_law_725 : decode cL_law 725 = .ok (.iaload, 1) := by decide +kernel
theorem dL_law_726 : decode cL_law 726 = .ok (.invokevirtual 114, 3) := by decide +kernel
theorem dL_law_729 : decode cL_law 729 = .ok (.istore 6, 2) := by decide +kernel
theorem dL_law_731 : decode cL_law 731 = .ok (.aload_n 2, 1) := by decide +kernel
theorem dL_law_732 : decode cL_law 732 = .ok (.invokevirtual 74, 3) := by decide +kernel
theorem dL_law_735 : decode cL_law 735 = .ok (.iload 5, 2) := by decide +kernel
theorem dL_law_737 : decode cL_law 737 = .ok (.if_icmp .eq 5, 3) := by decide +kernel
theorem dL_law_740 : decode cL_law 740 = .ok (.iconst 0, 1) := by decide +kernel
theorem dL_law_741 : decode cL_law 741 = .ok (.ireturn, 1) := by decide +kernel
theorem dL_law_742 : decode cL_law 742 = .ok (.iload 5, 2) := by decide +kernel
theorem dL_law_744 : decode cL_law 744 = .ok (.ifCond .ne 15, 3) := by decide +kernel
theorem dL_law_747 : decode cL_law 747 = .ok (.aload_n 3, 1) := by decide +kernel
theorem dL_law_748 : decode cL_law 748 = .ok (.iconst 0, 1) := by decide +kernel
theorem dL_law_749 : decode cL_law 749 = .ok (.laload, 1) := by decide +kernel
theorem dL_law_750 : decode cL_law 750 = .ok (.iload 6, 2) := by decide +kernel
theorem dL_law_752 : decode cL_law 752 = .ok (.i2l, 1) := by decide +kernel
theorem dL_law_753 : decode cL_law 753 = .ok (.lcmp, 1) := by decide +kernel
theorem dL_law_754 : decode cL_law 754 = .ok (.ifCond .eq 5, 3) := by decide +kernel
theorem dL_law_757 : decode cL_law 757 = .ok (.iconst 0, 1) := by decide +kernel
theorem dL_law_758 : decode cL_law 758 = .ok (.ireturn, 1) := by decide +kernel
theorem dL_law_759 : decode cL_law 759 = .ok (.goto 309, 3) := by decide +kernel
theorem dL_law_762 : decode cL_law 762 = .ok (.aload_n 1, 1) := by decide +kernel
theorem dL_law_763 : decode cL_law 763 = .ok (.aload_n 0, 1) := by decide +kernel
theorem dL_law_764 : decode cL_law 764 = .ok (.iload 4, 2) := by decide +kernel
theorem dL_law_766 : decode cL_law 766 = .ok (.iconst 1, 1) := by decide +kernel
theorem dL_law_767 : decode cL_law 767 = .ok (.iadd, 1) := by decide +kernel
theorem dL_law_768 : decode cL_law 768 = .ok (.iaload, 1) := by decide +kernel
theorem dL_law_769 : decode cL_law 769 = .ok (.aload_n 0, 1) := by decide +kernel
theorem dL_law_770 : decode cL_law 770 = .ok (.iload 4, 2) := by decide +kernel
theorem dL_law_772 : decode cL_law 772 = .ok (.iconst 2, 1) := by decide +kernel
theorem dL_law_773 : decode cL_law 773 = .ok (.iadd, 1) := by decide +kernel
theorem dL_law_774 : decode cL_law 774 = .ok (.iaload, 1) := by decide +kernel
theorem dL_law_775 : decode cL_law 775 = .ok (.aload_n 3, 1) := by decide +kernel
theorem dL_law_776 : decode cL_law 776 = .ok (.invokestatic 115, 3) := by decide +kernel
theorem dL_law_779 : decode cL_law 779 = .ok (.istore 5, 2) := by decide +kernel
theorem dL_law_781 : decode cL_law 781 = .ok (.aload_n 2, 1) := by decide +kernel
theorem dL_law_782 : decode cL_law 782 = .ok (.aload_n 0, 1) := by decide +kernel
theorem dL_law_783 : decode cL_law 783 = .ok (.iload 4, 2) := by decide +kernel
theorem dL_law_785 : decode cL_law 785 = .ok (.iconst 1, 1) := by decide +kernel
theorem dL_law_786 : decode cL_law 786 = .ok (.iadd, 1) := by decide +kernel
theorem dL_law_787 : decode cL_law 787 = .ok (.iaload, 1) := by decide +kernel
theorem dL_law_788 : decode cL_law 788 = .ok (.aload_n 0, 1) := by decide +kernel
theorem dL_law_789 : decode cL_law 789 = .ok (.iload 4, 2) := by decide +kernel
theorem dL_law_791 : decode cL_law 791 = .ok (.iconst 2, 1) := by decide +kernel
theorem dL_law_792 : decode cL_law 792 = .ok (.iadd, 1) := by decide +kernel
theorem dL_law_793 : decode cL_law 793 = .ok (.iaload, 1) := by decide +kernel
theorem dL_law_794 : decode cL_law 794 = .ok (.invokevirtual 117, 3) := by decide +kernel
theorem dL_law_797 : decode cL_law 797 = .ok (.istore 6, 2) := by decide +kernel
theorem dL_law_799 : decode cL_law 799 = .ok (.aload_n 2, 1) := by decide +kernel
theorem dL_law_800 : decode cL_law 800 = .ok (.invokevirtual 74, 3) := by decide +kernel
theorem dL_law_803 : decode cL_law 803 = .ok (.iload 5, 2) := by decide +kernel
theorem dL_law_805 : decode cL_law 805 = .ok (.if_icmp .eq 5, 3) := by decide +kernel
theorem dL_law_808 : decode cL_law 808 = .ok (.iconst 0, 1) := by decide +kernel
theorem dL_law_809 : decode cL_law 809 = .ok (.ireturn, 1) := by decide +kernel
theorem dL_law_810 : decode cL_law 810 = .ok (.iload 5, 2) := by decide +kernel
theorem dL_law_812 : decode cL_law 812 = .ok (.ifCond .ne 15, 3) := by decide +kernel
theorem dL_law_815 : decode cL_law 815 = .ok (.aload_n 3, 1) := by decide +kernel
theorem dL_law_816 : decode cL_law 816 = .ok (.iconst 0, 1) := by decide +kernel
theorem dL_law_817 : decode cL_law 817 = .ok (.laload, 1) := by decide +kernel
theorem dL_law_818 : decode cL_law 818 = .ok (.iload 6, 2) := by decide +kernel
theorem dL_law_820 : decode cL_law 820 = .ok (.i2l, 1) := by decide +kernel
theorem dL_law_821 : decode cL_law 821 = .ok (.lcmp, 1) := by decide +kernel
theorem dL_law_822 : decode cL_law 822 = .ok (.ifCond .eq 5, 3) := by decide +kernel
theorem dL_law_825 : decode cL_law 825 = .ok (.iconst 0, 1) := by decide +kernel
theorem dL_law_826 : decode cL_law 826 = .ok (.ireturn, 1) := by decide +kernel
theorem dL_law_827 : decode cL_law 827 = .ok (.goto 241, 3) := by decide +kernel
theorem dL_law_830 : decode cL_law 830 = .ok (.aload_n 1, 1) := by decide +kernel
theorem dL_law_831 : decode cL_law 831 = .ok (.aload_n 0, 1) := by decide +kernel
theorem dL_law_832 : decode cL_law 832 = .ok (.iload 4, 2) := by decide +kernel
theorem dL_law_834 : decode cL_law 834 = .ok (.iconst 1, 1) := by decide +kernel
theorem dL_law_835 : decode cL_law 835 = .ok (.iadd, 1) := by decide +kernel
theorem dL_law_836 : decode cL_law 836 = .ok (.iaload, 1) := by decide +kernel
theorem dL_law_837 : decode cL_law 837 = .ok (.aload_n 3, 1) := by decide +kernel
theorem dL_law_838 : decode cL_law 838 = .ok (.invokestatic 118, 3) := by decide +kernel
theorem dL_law_841 : decode cL_law 841 = .ok (.istore 5, 2) := by decide +kernel
theorem dL_law_843 : decode cL_law 843 = .ok (.aload_n 2, 1) := by decide +kernel
theorem dL_law_844 : decode cL_law 844 = .ok (.aload_n 0, 1) := by decide +kernel
theorem dL_law_845 : decode cL_law 845 = .ok (.iload 4, 2) := by decide +kernel
theorem dL_law_847 : decode cL_law 847 = .ok (.iconst 1, 1) := by decide +kernel
theorem dL_law_848 : decode cL_law 848 = .ok (.iadd, 1) := by decide +kernel
theorem dL_law_849 : decode cL_law 849 = .ok (.iaload, 1) := by decide +kernel
theorem dL_law_850 : decode cL_law 850 = .ok (.invokevirtual 120, 3) := by decide +kernel
theorem dL_law_853 : decode cL_law 853 = .ok (.istore 6, 2) := by decide +kernel
theorem dL_law_855 : decode cL_law 855 = .ok (.aload_n 2, 1) := by decide +kernel
theorem dL_law_856 : decode cL_law 856 = .ok (.invokevirtual 74, 3) := by decide +kernel
theorem dL_law_859 : decode cL_law 859 = .ok (.iload 5, 2) := by decide +kernel
theorem dL_law_861 : decode cL_law 861 = .ok (.if_icmp .eq 5, 3) := by decide +kernel
theorem dL_law_864 : decode cL_law 864 = .ok (.iconst 0, 1) := by decide +kernel
theorem dL_law_865 : decode cL_law 865 = .ok (.ireturn, 1) := by decide +kernel
theorem dL_law_866 : decode cL_law 866 = .ok (.iload 5, 2) := by decide +kernel
theorem dL_law_868 : decode cL_law 868 = .ok (.ifCond .ne 15, 3) := by decide +kernel
theorem dL_law_871 : decode cL_law 871 = .ok (.aload_n 3, 1) := by decide +kernel
theorem dL_law_872 : decode cL_law 872 = .ok (.iconst 0, 1) := by decide +kernel
theorem dL_law_873 : decode cL_law 873 = .ok (.laload, 1) := by decide +kernel
theorem dL_law_874 : decode cL_law 874 = .ok (.iload 6, 2) := by decide +kernel
theorem dL_law_876 : decode cL_law 876 = .ok (.i2l, 1) := by decide +kernel
theorem dL_law_877 : decode cL_law 877 = .ok (.lcmp, 1) := by decide +kernel
theorem dL_law_878 : decode cL_law 878 = .ok (.ifCond .eq 5, 3) := by decide +kernel
theorem dL_law_881 : decode cL_law 881 = .ok (.iconst 0, 1) := by decide +kernel
theorem dL_law_882 : decode cL_law 882 = .ok (.ireturn, 1) := by decide +kernel
theorem dL_law_883 : decode cL_law 883 = .ok (.goto 185, 3) := by decide +kernel
theorem dL_law_886 : decode cL_law 886 = .ok (.aload_n 1, 1) := by decide +kernel
theorem dL_law_887 : decode cL_law 887 = .ok (.aload_n 0, 1) := by decide +kernel
theorem dL_law_888 : decode cL_law 888 = .ok (.iload 4, 2) := by decide +kernel
theorem dL_law_890 : decode cL_law 890 = .ok (.iconst 1, 1) := by decide +kernel
theorem dL_law_891 : decode cL_law 891 = .ok (.iadd, 1) := by decide +kernel
theorem dL_law_892 : decode cL_law 892 = .ok (.iaload, 1) := by decide +kernel
theorem dL_law_893 : decode cL_law 893 = .ok (.aload_n 0, 1) := by decide +kernel
theorem dL_law_894 : decode cL_law 894 = .ok (.iload 4, 2) := by decide +kernel
theorem dL_law_896 : decode cL_law 896 = .ok (.iconst 2, 1) := by decide +kernel
theorem dL_law_897 : decode cL_law 897 = .ok (.iadd, 1) := by decide +kernel
theorem dL_law_898 : decode cL_law 898 = .ok (.iaload, 1) := by decide +kernel
theorem dL_law_899 : decode cL_law 899 = .ok (.aload_n 3, 1) := by decide +kernel
theorem dL_law_900 : decode cL_law 900 = .ok (.invokestatic 121, 3) := by decide +kernel
theorem dL_law_903 : decode cL_law 903 = .ok (.istore 5, 2) := by decide +kernel
theorem dL_law_905 : decode cL_law 905 = .ok (.aload_n 2, 1) := by decide +kernel
theorem dL_law_906 : decode cL_law 906 = .ok (.aload_n 0, 1) := by decide +kernel
theorem dL_law_907 : decode cL_law 907 = .ok (.iload 4, 2) := by decide +kernel
theorem dL_law_909 : decode cL_law 909 = .ok (.iconst 1, 1) := by decide +kernel
theorem dL_law_910 : decode cL_law 910 = .ok (.iadd, 1) := by decide +kernel
theorem dL_law_911 : decode cL_law 911 = .ok (.iaload, 1) := by decide +kernel
theorem dL_law_912 : decode cL_law 912 = .ok (.aload_n 0, 1) := by decide +kernel
theorem dL_law_913 : decode cL_law 913 = .ok (.iload 4, 2) := by decide +kernel
theorem dL_law_915 : decode cL_law 915 = .ok (.iconst 2, 1) := by decide +kernel
theorem dL_law_916 : decode cL_law 916 = .ok (.iadd, 1) := by decide +kernel
theorem dL_law_917 : decode cL_law 917 = .ok (.iaload, 1) := by decide +kernel
theorem dL_law_918 : decode cL_law 918 = .ok (.invokevirtual 123, 3) := by decide +kernel
theorem dL_law_921 : decode cL_law 921 = .ok (.istore 6, 2) := by decide +kernel
theorem dL_law_923 : decode cL_law 923 = .ok (.aload_n 2, 1) := by decide +kernel
theorem dL_law_924 : decode cL_law 924 = .ok (.invokevirtual 74, 3) := by decide +kernel
theorem dL_law_927 : decode cL_law 927 = .ok (.iload 5, 2) := by decide +kernel
theorem dL_law_929 : decode cL_law 929 = .ok (.if_icmp .eq 5, 3) := by decide +kernel
theorem dL_law_932 : decode cL_law 932 = .ok (.iconst 0, 1) := by decide +kernel
theorem dL_law_933 : decode cL_law 933 = .ok (.ireturn, 1) := by decide +kernel
theorem dL_law_934 : decode cL_law 934 = .ok (.iload 5, 2) := by decide +kernel
theorem dL_law_936 : decode cL_law 936 = .ok (.ifCond .ne 15, 3) := by decide +kernel
theorem dL_law_939 : decode cL_law 939 = .ok (.aload_n 3, 1) := by decide +kernel
theorem dL_law_940 : decode cL_law 940 = .ok (.iconst 0, 1) := by decide +kernel
theorem dL_law_941 : decode cL_law 941 = .ok (.laload, 1) := by decide +kernel
theorem dL_law_942 : decode cL_law 942 = .ok (.iload 6, 2) := by decide +kernel
theorem dL_law_944 : decode cL_law 944 = .ok (.i2l, 1) := by decide +kernel
theorem dL_law_945 : decode cL_law 945 = .ok (.lcmp, 1) := by decide +kernel
theorem dL_law_946 : decode cL_law 946 = .ok (.ifCond .eq 5, 3) := by decide +kernel
theorem dL_law_949 : decode cL_law 949 = .ok (.iconst 0, 1) := by decide +kernel
theorem dL_law_950 : decode cL_law 950 = .ok (.ireturn, 1) := by decide +kernel
theorem dL_law_951 : decode cL_law 951 = .ok (.goto 117, 3) := by decide +kernel
theorem dL_law_954 : decode cL_law 954 = .ok (.aload_n 1, 1) := by decide +kernel
theorem dL_law_955 : decode cL_law 955 = .ok (.aload_n 0, 1) := by decide +kernel
theorem dL_law_956 : decode cL_law 956 = .ok (.iload 4, 2) := by decide +kernel
theorem dL_law_958 : decode cL_law 958 = .ok (.iconst 1, 1) := by decide +kernel
theorem dL_law_959 : decode cL_law 959 = .ok (.iadd, 1) := by decide +kernel
theorem dL_law_960 : decode cL_law 960 = .ok (.iaload, 1) := by decide +kernel
theorem dL_law_961 : decode cL_law 961 = .ok (.aload_n 0, 1) := by decide +kernel
theorem dL_law_962 : decode cL_law 962 = .ok (.iload 4, 2) := by decide +kernel
theorem dL_law_964 : decode cL_law 964 = .ok (.iconst 2, 1) := by decide +kernel
theorem dL_law_965 : decode cL_law 965 = .ok (.iadd, 1) := by decide +kernel
theorem dL_law_966 : decode cL_law 966 = .ok (.iaload, 1) := by decide +kernel
theorem dL_law_967 : decode cL_law 967 = .ok (.aload_n 3, 1) := by decide +kernel
theorem dL_law_968 : decode cL_law 968 = .ok (.invokestatic 124, 3) := by decide +kernel
theorem dL_law_971 : decode cL_law 971 = .ok (.istore 5, 2) := by decide +kernel
theorem dL_law_973 : decode cL_law 973 = .ok (.aload_n 2, 1) := by decide +kernel
theorem dL_law_974 : decode cL_law 974 = .ok (.aload_n 0, 1) := by decide +kernel
theorem dL_law_975 : decode cL_law 975 = .ok (.iload 4, 2) := by decide +kernel
theorem dL_law_977 : decode cL_law 977 = .ok (.iconst 1, 1) := by decide +kernel
theorem dL_law_978 : decode cL_law 978 = .ok (.iadd, 1) := by decide +kernel
theorem dL_law_979 : decode cL_law 979 = .ok (.iaload, 1) := by decide +kernel
theorem dL_law_980 : decode cL_law 980 = .ok (.aload_n 0, 1) := by decide +kernel
theorem dL_law_981 : decode cL_law 981 = .ok (.iload 4, 2) := by decide +kernel
theorem dL_law_983 : decode cL_law 983 = .ok (.iconst 2, 1) := by decide +kernel
theorem dL_law_984 : decode cL_law 984 = .ok (.iadd, 1) := by decide +kernel
theorem dL_law_985 : decode cL_law 985 = .ok (.iaload, 1) := by decide +kernel
theorem dL_law_986 : decode cL_law 986 = .ok (.invokevirtual 126, 3) := by decide +kernel
theorem dL_law_989 : decode cL_law 989 = .ok (.istore 6, 2) := by decide +kernel
theorem dL_law_991 : decode cL_law 991 = .ok (.aload_n 2, 1) := by decide +kernel
theorem dL_law_992 : decode cL_law 992 = .ok (.invokevirtual 74, 3) := by decide +kernel
theorem dL_law_995 : decode cL_law 995 = .ok (.iload 5, 2) := by decide +kernel
theorem dL_law_997 : decode cL_law 997 = .ok (.if_icmp .eq 5, 3) := by decide +kernel
theorem dL_law_1000 : decode cL_law 1000 = .ok (.iconst 0, 1) := by decide +kernel
theorem dL_law_1001 : decode cL_law 1001 = .ok (.ireturn, 1) := by decide +kernel
theorem dL_law_1002 : decode cL_law 1002 = .ok (.iload 5, 2) := by decide +kernel
theorem dL_law_1004 : decode cL_law 1004 = .ok (.ifCond .ne 22, 3) := by decide +kernel
theorem dL_law_1007 : decode cL_law 1007 = .ok (.aload_n 3, 1) := by decide +kernel
theorem dL_law_1008 : decode cL_law 1008 = .ok (.iconst 0, 1) := by decide +kernel
theorem dL_law_1009 : decode cL_law 1009 = .ok (.laload, 1) := by decide +kernel
theorem dL_law_1010 : decode cL_law 1010 = .ok (.iload 6, 2) := by decide +kernel
theorem dL_law_1012 : decode cL_law 1012 = .ok (.ifCond .eq 7, 3) := by decide +kernel
theorem dL_law_1015 : decode cL_law 1015 = .ok (.lconst 1, 1) := by decide +kernel
theorem dL_law_1016 : decode cL_law 1016 = .ok (.goto 4, 3) := by decide +kernel
theorem dL_law_1019 : decode cL_law 1019 = .ok (.lconst 0, 1) := by decide +kernel
theorem dL_law_1020 : decode cL_law 1020 = .ok (.lcmp, 1) := by decide +kernel
theorem dL_law_1021 : decode cL_law 1021 = .ok (.ifCond .eq 5, 3) := by decide +kernel
theorem dL_law_1024 : decode cL_law 1024 = .ok (.iconst 0, 1) := by decide +kernel
theorem dL_law_1025 : decode cL_law 1025 = .ok (.ireturn, 1) := by decide +kernel
theorem dL_law_1026 : decode cL_law 1026 = .ok (.goto 42, 3) := by decide +kernel
theorem dL_law_1029 : decode cL_law 1029 = .ok (.aload_n 1, 1) := by decide +kernel
theorem dL_law_1030 : decode cL_law 1030 = .ok (.invokevirtual 127, 3) := by decide +kernel
theorem dL_law_1033 : decode cL_law 1033 = .ok (.aload_n 2, 1) := by decide +kernel
theorem dL_law_1034 : decode cL_law 1034 = .ok (.invokevirtual 130, 3) := by decide +kernel
theorem dL_law_1037 : decode cL_law 1037 = .ok (.if_icmp .eq 31, 3) := by decide +kernel
theorem dL_law_1040 : decode cL_law 1040 = .ok (.iconst 0, 1) := by decide +kernel
theorem dL_law_1041 : decode cL_law 1041 = .ok (.ireturn, 1) := by decide +kernel
theorem dL_law_1042 : decode cL_law 1042 = .ok (.aload_n 1, 1) := by decide +kernel
theorem dL_law_1043 : decode cL_law 1043 = .ok (.invokevirtual 131, 3) := by decide +kernel
theorem dL_law_1046 : decode cL_law 1046 = .ok (.aload_n 2, 1) := by decide +kernel
theorem dL_law_1047 : decode cL_law 1047 = .ok (.invokevirtual 134, 3) := by decide +kernel
theorem dL_law_1050 : decode cL_law 1050 = .ok (.if_icmp .eq 18, 3) := by decide +kernel
theorem dL_law_1053 : decode cL_law 1053 = .ok (.iconst 0, 1) := by decide +kernel
theorem dL_law_1054 : decode cL_law 1054 = .ok (.ireturn, 1) := by decide +kernel
theorem dL_law_1055 : decode cL_law 1055 = .ok (.aload_n 1, 1) := by decide +kernel
theorem dL_law_1056 : decode cL_law 1056 = .ok (.invokevirtual 135, 3) := by decide +kernel
theorem dL_law_1059 : decode cL_law 1059 = .ok (.aload_n 2, 1) := by decide +kernel
theorem dL_law_1060 : decode cL_law 1060 = .ok (.invokevirtual 138, 3) := by decide +kernel
theorem dL_law_1063 : decode cL_law 1063 = .ok (.if_icmp .eq 5, 3) := by decide +kernel
theorem dL_law_1066 : decode cL_law 1066 = .ok (.iconst 0, 1) := by decide +kernel
theorem dL_law_1067 : decode cL_law 1067 = .ok (.ireturn, 1) := by decide +kernel
theorem dL_law_1068 : decode cL_law 1068 = .ok (.iinc 4 4, 3) := by decide +kernel
theorem dL_law_1071 : decode cL_law 1071 = .ok (.goto (-1048), 3) := by decide +kernel
theorem dL_law_1074 : decode cL_law 1074 = .ok (.iconst 1, 1) := by decide +kernel
theorem dL_law_1075 : decode cL_law 1075 = .ok (.ireturn, 1) := by decide +kernel
abbrev vwCl : List vw_C := [(RJx4a65c, TJx4a65c, 3), (RX0, TX0, 1), (RX1, TX1, 4), (RX2, TX2, 2), (RX3, TX3, 2), (RX4, TX4, 5), (RX5, TX5, 8), (RX6, TX6, 18)]
/-! ===== END printed: names ===== -/
