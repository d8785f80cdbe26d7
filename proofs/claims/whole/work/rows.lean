section
-- ===== PART A: goes FIRST, ahead of the names: the tables' words, and 'selects' of the private methods out of them =====
/-- a private method of a class that the tables say can be made, by its rows of tables_1 -/
def lw_okq (q : MethodName × Nat) : Prop := (q.1.cls ≠ "java/lang/invoke/MethodHandle" ∧ q.1.cls ≠ "java/lang/invoke/VarHandle") ∧ Cond.instantiable q.1.cls q.2 ∈ tables_1 ∧ Cond.privateMethod q.1 ∈ tables_1 ∧ Cond.instanceMethod q.1 ∈ tables_1
theorem lw_p0 : lw_okq (⟨"UndoCellar", "recordsThere", "()I"⟩, 8) := ⟨⟨by decide +kernel, by decide +kernel⟩, List.mem_of_getElem? (i := 25) (by decide +kernel), List.mem_of_getElem? (i := 151) (by decide +kernel), List.mem_of_getElem? (i := 152) (by decide +kernel)⟩
theorem lw_p1 : lw_okq (⟨"java/lang/Throwable", "fillInStackTrace", "(I)Ljava/lang/Throwable;"⟩, 6) := ⟨⟨by decide +kernel, by decide +kernel⟩, List.mem_of_getElem? (i := 207) (by decide +kernel), List.mem_of_getElem? (i := 205) (by decide +kernel), List.mem_of_getElem? (i := 206) (by decide +kernel)⟩
theorem lw_p2 : lw_okq (⟨"java/util/ArrayList", "add", "(Ljava/lang/Object;[Ljava/lang/Object;I)V"⟩, 3) := ⟨⟨by decide +kernel, by decide +kernel⟩, List.mem_of_getElem? (i := 37) (by decide +kernel), List.mem_of_getElem? (i := 294) (by decide +kernel), List.mem_of_getElem? (i := 295) (by decide +kernel)⟩
theorem lw_p3 : lw_okq (⟨"java/util/ArrayList", "grow", "()[Ljava/lang/Object;"⟩, 3) := ⟨⟨by decide +kernel, by decide +kernel⟩, List.mem_of_getElem? (i := 37) (by decide +kernel), List.mem_of_getElem? (i := 298) (by decide +kernel), List.mem_of_getElem? (i := 299) (by decide +kernel)⟩
theorem lw_p4 : lw_okq (⟨"java/util/ArrayList", "grow", "(I)[Ljava/lang/Object;"⟩, 3) := ⟨⟨by decide +kernel, by decide +kernel⟩, List.mem_of_getElem? (i := 37) (by decide +kernel), List.mem_of_getElem? (i := 302) (by decide +kernel), List.mem_of_getElem? (i := 303) (by decide +kernel)⟩
theorem lw_p5 : lw_okq (⟨"UndoCellar", "transactionNumbered", "(I)LUndoCellar$Transaction;"⟩, 8) := ⟨⟨by decide +kernel, by decide +kernel⟩, List.mem_of_getElem? (i := 25) (by decide +kernel), List.mem_of_getElem? (i := 357) (by decide +kernel), List.mem_of_getElem? (i := 358) (by decide +kernel)⟩
theorem lw_p6 : lw_okq (⟨"UndoCellar", "rowNumbered", "(I)LUndoCellar$Row;"⟩, 8) := ⟨⟨by decide +kernel, by decide +kernel⟩, List.mem_of_getElem? (i := 25) (by decide +kernel), List.mem_of_getElem? (i := 391) (by decide +kernel), List.mem_of_getElem? (i := 392) (by decide +kernel)⟩
theorem lw_p7 : lw_okq (⟨"UndoCellar", "refuseIfEnded", "(LUndoCellar$Transaction;)V"⟩, 8) := ⟨⟨by decide +kernel, by decide +kernel⟩, List.mem_of_getElem? (i := 25) (by decide +kernel), List.mem_of_getElem? (i := 399) (by decide +kernel), List.mem_of_getElem? (i := 400) (by decide +kernel)⟩
theorem lw_p8 : lw_okq (⟨"UndoCellar", "refuseIfLockedByAnother", "(LUndoCellar$Row;LUndoCellar$Transaction;)V"⟩, 8) := ⟨⟨by decide +kernel, by decide +kernel⟩, List.mem_of_getElem? (i := 25) (by decide +kernel), List.mem_of_getElem? (i := 404) (by decide +kernel), List.mem_of_getElem? (i := 405) (by decide +kernel)⟩
theorem lw_p9 : lw_okq (⟨"UndoCellar", "lockerOf", "(LUndoCellar$Row;)LUndoCellar$Transaction;"⟩, 8) := ⟨⟨by decide +kernel, by decide +kernel⟩, List.mem_of_getElem? (i := 25) (by decide +kernel), List.mem_of_getElem? (i := 408) (by decide +kernel), List.mem_of_getElem? (i := 409) (by decide +kernel)⟩
theorem lw_p10 : lw_okq (⟨"UndoCellar$Change", "stands", "(LUndoCellar$Row;)Z"⟩, 4) := ⟨⟨by decide +kernel, by decide +kernel⟩, List.mem_of_getElem? (i := 415) (by decide +kernel), List.mem_of_getElem? (i := 413) (by decide +kernel), List.mem_of_getElem? (i := 414) (by decide +kernel)⟩
theorem lw_p11 : lw_okq (⟨"UndoCellar", "refuseIfNoSpace", "()V"⟩, 8) := ⟨⟨by decide +kernel, by decide +kernel⟩, List.mem_of_getElem? (i := 25) (by decide +kernel), List.mem_of_getElem? (i := 419) (by decide +kernel), List.mem_of_getElem? (i := 420) (by decide +kernel)⟩
theorem lw_p12 : lw_okq (⟨"UndoCellar", "isSpaceFull", "()Z"⟩, 8) := ⟨⟨by decide +kernel, by decide +kernel⟩, List.mem_of_getElem? (i := 25) (by decide +kernel), List.mem_of_getElem? (i := 424) (by decide +kernel), List.mem_of_getElem? (i := 425) (by decide +kernel)⟩
theorem lw_p13 : lw_okq (⟨"UndoCellar$Block", "slotFor", "(LUndoCellar$Transaction;)LUndoCellar$Slot;"⟩, 1) := ⟨⟨by decide +kernel, by decide +kernel⟩, List.mem_of_getElem? (i := 62) (by decide +kernel), List.mem_of_getElem? (i := 429) (by decide +kernel), List.mem_of_getElem? (i := 430) (by decide +kernel)⟩
theorem lw_p14 : lw_okq (⟨"UndoCellar$Slot", "isEnded", "()Z"⟩, 2) := ⟨⟨by decide +kernel, by decide +kernel⟩, List.mem_of_getElem? (i := 69) (by decide +kernel), List.mem_of_getElem? (i := 433) (by decide +kernel), List.mem_of_getElem? (i := 434) (by decide +kernel)⟩
theorem lw_p15 : lw_okq (⟨"UndoCellar", "clean", "(LUndoCellar$Block;)V"⟩, 8) := ⟨⟨by decide +kernel, by decide +kernel⟩, List.mem_of_getElem? (i := 25) (by decide +kernel), List.mem_of_getElem? (i := 438) (by decide +kernel), List.mem_of_getElem? (i := 439) (by decide +kernel)⟩
def lw_privs_1 : List (MethodName × Nat) := [(⟨"UndoCellar", "recordsThere", "()I"⟩, 8), (⟨"java/lang/Throwable", "fillInStackTrace", "(I)Ljava/lang/Throwable;"⟩, 6), (⟨"java/util/ArrayList", "add", "(Ljava/lang/Object;[Ljava/lang/Object;I)V"⟩, 3), (⟨"java/util/ArrayList", "grow", "()[Ljava/lang/Object;"⟩, 3), (⟨"java/util/ArrayList", "grow", "(I)[Ljava/lang/Object;"⟩, 3), (⟨"UndoCellar", "transactionNumbered", "(I)LUndoCellar$Transaction;"⟩, 8), (⟨"UndoCellar", "rowNumbered", "(I)LUndoCellar$Row;"⟩, 8), (⟨"UndoCellar", "refuseIfEnded", "(LUndoCellar$Transaction;)V"⟩, 8), (⟨"UndoCellar", "refuseIfLockedByAnother", "(LUndoCellar$Row;LUndoCellar$Transaction;)V"⟩, 8), (⟨"UndoCellar", "lockerOf", "(LUndoCellar$Row;)LUndoCellar$Transaction;"⟩, 8), (⟨"UndoCellar$Change", "stands", "(LUndoCellar$Row;)Z"⟩, 4), (⟨"UndoCellar", "refuseIfNoSpace", "()V"⟩, 8), (⟨"UndoCellar", "isSpaceFull", "()Z"⟩, 8), (⟨"UndoCellar$Block", "slotFor", "(LUndoCellar$Transaction;)LUndoCellar$Slot;"⟩, 1), (⟨"UndoCellar$Slot", "isEnded", "()Z"⟩, 2), (⟨"UndoCellar", "clean", "(LUndoCellar$Block;)V"⟩, 8)]
theorem lw_r1 : ∀ q ∈ lw_privs_1, lw_okq q := List.forall_mem_cons.mpr ⟨lw_p0, List.forall_mem_cons.mpr ⟨lw_p1, List.forall_mem_cons.mpr ⟨lw_p2, List.forall_mem_cons.mpr ⟨lw_p3, List.forall_mem_cons.mpr ⟨lw_p4, List.forall_mem_cons.mpr ⟨lw_p5, List.forall_mem_cons.mpr ⟨lw_p6, List.forall_mem_cons.mpr ⟨lw_p7, List.forall_mem_cons.mpr ⟨lw_p8, List.forall_mem_cons.mpr ⟨lw_p9, List.forall_mem_cons.mpr ⟨lw_p10, List.forall_mem_cons.mpr ⟨lw_p11, List.forall_mem_cons.mpr ⟨lw_p12, List.forall_mem_cons.mpr ⟨lw_p13, List.forall_mem_cons.mpr ⟨lw_p14, List.forall_mem_cons.mpr ⟨lw_p15, fun _ h => absurd h List.not_mem_nil⟩⟩⟩⟩⟩⟩⟩⟩⟩⟩⟩⟩⟩⟩⟩⟩
theorem lw_p16 : lw_okq (⟨"UndoCellar$Block", "markEnded", "()I"⟩, 1) := ⟨⟨by decide +kernel, by decide +kernel⟩, List.mem_of_getElem? (i := 62) (by decide +kernel), List.mem_of_getElem? (i := 442) (by decide +kernel), List.mem_of_getElem? (i := 443) (by decide +kernel)⟩
theorem lw_p17 : lw_okq (⟨"UndoCellar$Slot", "give", "(LUndoCellar$Transaction;)V"⟩, 2) := ⟨⟨by decide +kernel, by decide +kernel⟩, List.mem_of_getElem? (i := 69) (by decide +kernel), List.mem_of_getElem? (i := 446) (by decide +kernel), List.mem_of_getElem? (i := 447) (by decide +kernel)⟩
theorem lw_p18 : lw_okq (⟨"UndoCellar$Change", "make", "(I)V"⟩, 4) := ⟨⟨by decide +kernel, by decide +kernel⟩, List.mem_of_getElem? (i := 415) (by decide +kernel), List.mem_of_getElem? (i := 470) (by decide +kernel), List.mem_of_getElem? (i := 471) (by decide +kernel)⟩
theorem lw_p19 : lw_okq (⟨"UndoCellar", "readFromRecords", "(LUndoCellar$Row;ILUndoCellar$Transaction;)I"⟩, 8) := ⟨⟨by decide +kernel, by decide +kernel⟩, List.mem_of_getElem? (i := 25) (by decide +kernel), List.mem_of_getElem? (i := 482) (by decide +kernel), List.mem_of_getElem? (i := 483) (by decide +kernel)⟩
theorem lw_p20 : lw_okq (⟨"UndoCellar", "oldestUnseen", "(LUndoCellar$Row;ILUndoCellar$Transaction;)I"⟩, 8) := ⟨⟨by decide +kernel, by decide +kernel⟩, List.mem_of_getElem? (i := 25) (by decide +kernel), List.mem_of_getElem? (i := 486) (by decide +kernel), List.mem_of_getElem? (i := 487) (by decide +kernel)⟩
theorem lw_p21 : lw_okq (⟨"UndoCellar$Change", "isSeen", "(ILUndoCellar$Transaction;)Z"⟩, 4) := ⟨⟨by decide +kernel, by decide +kernel⟩, List.mem_of_getElem? (i := 415) (by decide +kernel), List.mem_of_getElem? (i := 490) (by decide +kernel), List.mem_of_getElem? (i := 491) (by decide +kernel)⟩
theorem lw_p22 : lw_okq (⟨"UndoCellar$Transaction", "isCommittedBy", "(I)Z"⟩, 5) := ⟨⟨by decide +kernel, by decide +kernel⟩, List.mem_of_getElem? (i := 261) (by decide +kernel), List.mem_of_getElem? (i := 494) (by decide +kernel), List.mem_of_getElem? (i := 495) (by decide +kernel)⟩
theorem lw_p23 : lw_okq (⟨"UndoCellar", "valueAheadOf", "(ILUndoCellar$Row;)I"⟩, 8) := ⟨⟨by decide +kernel, by decide +kernel⟩, List.mem_of_getElem? (i := 25) (by decide +kernel), List.mem_of_getElem? (i := 514) (by decide +kernel), List.mem_of_getElem? (i := 515) (by decide +kernel)⟩
theorem lw_p24 : lw_okq (⟨"UndoCellar", "refuseIfNotYet", "(I)V"⟩, 8) := ⟨⟨by decide +kernel, by decide +kernel⟩, List.mem_of_getElem? (i := 25) (by decide +kernel), List.mem_of_getElem? (i := 525) (by decide +kernel), List.mem_of_getElem? (i := 526) (by decide +kernel)⟩
theorem lw_p25 : lw_okq (⟨"UndoCellar", "undoDownTo", "(LUndoCellar$Transaction;I)I"⟩, 8) := ⟨⟨by decide +kernel, by decide +kernel⟩, List.mem_of_getElem? (i := 25) (by decide +kernel), List.mem_of_getElem? (i := 545) (by decide +kernel), List.mem_of_getElem? (i := 546) (by decide +kernel)⟩
theorem lw_p26 : lw_okq (⟨"UndoCellar$Change", "takeBack", "()V"⟩, 4) := ⟨⟨by decide +kernel, by decide +kernel⟩, List.mem_of_getElem? (i := 415) (by decide +kernel), List.mem_of_getElem? (i := 549) (by decide +kernel), List.mem_of_getElem? (i := 550) (by decide +kernel)⟩
theorem lw_p27 : lw_okq (⟨"UndoCellar", "slotNumbered", "(II)LUndoCellar$Slot;"⟩, 8) := ⟨⟨by decide +kernel, by decide +kernel⟩, List.mem_of_getElem? (i := 25) (by decide +kernel), List.mem_of_getElem? (i := 595) (by decide +kernel), List.mem_of_getElem? (i := 596) (by decide +kernel)⟩
theorem lw_p28 : lw_okq (⟨"UndoCellarModel", "can", "(I)Z"⟩, 18) := ⟨⟨by decide +kernel, by decide +kernel⟩, List.mem_of_getElem? (i := 608) (by decide +kernel), List.mem_of_getElem? (i := 682) (by decide +kernel), List.mem_of_getElem? (i := 683) (by decide +kernel)⟩
theorem lw_p29 : lw_okq (⟨"UndoCellarModel", "isTransaction", "(I)Z"⟩, 18) := ⟨⟨by decide +kernel, by decide +kernel⟩, List.mem_of_getElem? (i := 608) (by decide +kernel), List.mem_of_getElem? (i := 694) (by decide +kernel), List.mem_of_getElem? (i := 695) (by decide +kernel)⟩
theorem lw_p30 : lw_okq (⟨"UndoCellarModel", "isActive", "(I)Z"⟩, 18) := ⟨⟨by decide +kernel, by decide +kernel⟩, List.mem_of_getElem? (i := 608) (by decide +kernel), List.mem_of_getElem? (i := 703) (by decide +kernel), List.mem_of_getElem? (i := 704) (by decide +kernel)⟩
theorem lw_p31 : lw_okq (⟨"UndoCellarModel", "lockOn", "(I)I"⟩, 18) := ⟨⟨by decide +kernel, by decide +kernel⟩, List.mem_of_getElem? (i := 608) (by decide +kernel), List.mem_of_getElem? (i := 707) (by decide +kernel), List.mem_of_getElem? (i := 708) (by decide +kernel)⟩
def lw_privs_2 : List (MethodName × Nat) := [(⟨"UndoCellar$Block", "markEnded", "()I"⟩, 1), (⟨"UndoCellar$Slot", "give", "(LUndoCellar$Transaction;)V"⟩, 2), (⟨"UndoCellar$Change", "make", "(I)V"⟩, 4), (⟨"UndoCellar", "readFromRecords", "(LUndoCellar$Row;ILUndoCellar$Transaction;)I"⟩, 8), (⟨"UndoCellar", "oldestUnseen", "(LUndoCellar$Row;ILUndoCellar$Transaction;)I"⟩, 8), (⟨"UndoCellar$Change", "isSeen", "(ILUndoCellar$Transaction;)Z"⟩, 4), (⟨"UndoCellar$Transaction", "isCommittedBy", "(I)Z"⟩, 5), (⟨"UndoCellar", "valueAheadOf", "(ILUndoCellar$Row;)I"⟩, 8), (⟨"UndoCellar", "refuseIfNotYet", "(I)V"⟩, 8), (⟨"UndoCellar", "undoDownTo", "(LUndoCellar$Transaction;I)I"⟩, 8), (⟨"UndoCellar$Change", "takeBack", "()V"⟩, 4), (⟨"UndoCellar", "slotNumbered", "(II)LUndoCellar$Slot;"⟩, 8), (⟨"UndoCellarModel", "can", "(I)Z"⟩, 18), (⟨"UndoCellarModel", "isTransaction", "(I)Z"⟩, 18), (⟨"UndoCellarModel", "isActive", "(I)Z"⟩, 18), (⟨"UndoCellarModel", "lockOn", "(I)I"⟩, 18)]
theorem lw_r2 : ∀ q ∈ lw_privs_2, lw_okq q := List.forall_mem_cons.mpr ⟨lw_p16, List.forall_mem_cons.mpr ⟨lw_p17, List.forall_mem_cons.mpr ⟨lw_p18, List.forall_mem_cons.mpr ⟨lw_p19, List.forall_mem_cons.mpr ⟨lw_p20, List.forall_mem_cons.mpr ⟨lw_p21, List.forall_mem_cons.mpr ⟨lw_p22, List.forall_mem_cons.mpr ⟨lw_p23, List.forall_mem_cons.mpr ⟨lw_p24, List.forall_mem_cons.mpr ⟨lw_p25, List.forall_mem_cons.mpr ⟨lw_p26, List.forall_mem_cons.mpr ⟨lw_p27, List.forall_mem_cons.mpr ⟨lw_p28, List.forall_mem_cons.mpr ⟨lw_p29, List.forall_mem_cons.mpr ⟨lw_p30, List.forall_mem_cons.mpr ⟨lw_p31, fun _ h => absurd h List.not_mem_nil⟩⟩⟩⟩⟩⟩⟩⟩⟩⟩⟩⟩⟩⟩⟩⟩
theorem lw_p32 : lw_okq (⟨"UndoCellarModel", "slotFor", "(II)I"⟩, 18) := ⟨⟨by decide +kernel, by decide +kernel⟩, List.mem_of_getElem? (i := 608) (by decide +kernel), List.mem_of_getElem? (i := 711) (by decide +kernel), List.mem_of_getElem? (i := 712) (by decide +kernel)⟩
theorem lw_p33 : lw_okq (⟨"UndoCellarModel", "hasSpace", "()Z"⟩, 18) := ⟨⟨by decide +kernel, by decide +kernel⟩, List.mem_of_getElem? (i := 608) (by decide +kernel), List.mem_of_getElem? (i := 715) (by decide +kernel), List.mem_of_getElem? (i := 716) (by decide +kernel)⟩
theorem lw_p34 : lw_okq (⟨"UndoCellarModel", "cleans", "(I)V"⟩, 18) := ⟨⟨by decide +kernel, by decide +kernel⟩, List.mem_of_getElem? (i := 608) (by decide +kernel), List.mem_of_getElem? (i := 719) (by decide +kernel), List.mem_of_getElem? (i := 720) (by decide +kernel)⟩
theorem lw_p35 : lw_okq (⟨"UndoCellarModel", "valueAt", "(III)I"⟩, 18) := ⟨⟨by decide +kernel, by decide +kernel⟩, List.mem_of_getElem? (i := 608) (by decide +kernel), List.mem_of_getElem? (i := 727) (by decide +kernel), List.mem_of_getElem? (i := 728) (by decide +kernel)⟩
theorem lw_p36 : lw_okq (⟨"UndoCellarModel", "isOpen", "(I)Z"⟩, 18) := ⟨⟨by decide +kernel, by decide +kernel⟩, List.mem_of_getElem? (i := 608) (by decide +kernel), List.mem_of_getElem? (i := 739) (by decide +kernel), List.mem_of_getElem? (i := 740) (by decide +kernel)⟩
theorem lw_p37 : lw_okq (⟨"UndoCellarModel", "standing", "(I)I"⟩, 18) := ⟨⟨by decide +kernel, by decide +kernel⟩, List.mem_of_getElem? (i := 608) (by decide +kernel), List.mem_of_getElem? (i := 743) (by decide +kernel), List.mem_of_getElem? (i := 744) (by decide +kernel)⟩
theorem lw_p38 : lw_okq (⟨"UndoCellarModel", "undoes", "(II)V"⟩, 18) := ⟨⟨by decide +kernel, by decide +kernel⟩, List.mem_of_getElem? (i := 608) (by decide +kernel), List.mem_of_getElem? (i := 751) (by decide +kernel), List.mem_of_getElem? (i := 752) (by decide +kernel)⟩
def lw_privs_3 : List (MethodName × Nat) := [(⟨"UndoCellarModel", "slotFor", "(II)I"⟩, 18), (⟨"UndoCellarModel", "hasSpace", "()Z"⟩, 18), (⟨"UndoCellarModel", "cleans", "(I)V"⟩, 18), (⟨"UndoCellarModel", "valueAt", "(III)I"⟩, 18), (⟨"UndoCellarModel", "isOpen", "(I)Z"⟩, 18), (⟨"UndoCellarModel", "standing", "(I)I"⟩, 18), (⟨"UndoCellarModel", "undoes", "(II)V"⟩, 18)]
theorem lw_r3 : ∀ q ∈ lw_privs_3, lw_okq q := List.forall_mem_cons.mpr ⟨lw_p32, List.forall_mem_cons.mpr ⟨lw_p33, List.forall_mem_cons.mpr ⟨lw_p34, List.forall_mem_cons.mpr ⟨lw_p35, List.forall_mem_cons.mpr ⟨lw_p36, List.forall_mem_cons.mpr ⟨lw_p37, List.forall_mem_cons.mpr ⟨lw_p38, fun _ h => absurd h List.not_mem_nil⟩⟩⟩⟩⟩⟩⟩
def lw_privs : List (MethodName × Nat) := lw_privs_1 ++ (lw_privs_2 ++ (lw_privs_3))
def lw_tbl : List Cond := k2_sels lw_privs ++ tables_1
theorem lw_privs_ok : ∀ q ∈ lw_privs, lw_okq q := by
  show ∀ q ∈ lw_privs_1 ++ (lw_privs_2 ++ (lw_privs_3)), lw_okq q
  exact List.forall_mem_append.mpr ⟨lw_r1, List.forall_mem_append.mpr ⟨lw_r2, lw_r3⟩⟩
end
section
/-! ===== BEGIN words of one list among another's, by their places ===== -/
theorem goodIn_r {big : List Cond} (ws : List Cond) (ps : List Nat) (hp : ws = ps.filterMap (fun i => big[i]?)) (h : ws.all goodWord = true) : GoodIn big ws := by
  intro w hw
  have h1 := List.all_eq_true.mp h w hw
  rw [hp] at hw
  obtain ⟨i, -, hi⟩ := List.mem_filterMap.mp hw
  have hm : w ∈ big := by first | exact List.mem_of_getElem? hi | exact List.getElem?_mem hi
  exact ⟨hm, good_of_word h1⟩
theorem goodIn_app {big a b : List Cond} (ha : GoodIn big a) (hb : GoodIn big b) : GoodIn big (a ++ b) := fun w h => (List.mem_append.mp h).elim (ha w) (hb w)
theorem goodIn_ca {big a b : List Cond} {c : Cond} (ha : GoodIn big (c :: a)) (hb : GoodIn big b) : GoodIn big (c :: (a ++ b)) := fun w h => (List.mem_cons.mp h).elim (fun e => ha w (List.mem_cons.mpr (Or.inl e))) (fun h => (List.mem_append.mp h).elim (fun h => ha w (List.mem_cons.mpr (Or.inr h))) (hb w))
theorem goodIn_sub {big ws : List Cond} (hm : ∀ w ∈ ws, w ∈ big) (h : ws.all goodWord = true) : GoodIn big ws := fun w hw => ⟨hm w hw, good_of_word (List.all_eq_true.mp h w hw)⟩
/-! ===== END ===== -/

/-! ===== BEGIN exceptions that leave a method, and their catching by the caller (launches without stack traces) ===== -/
section VXA
/-! The laws vx_back, vx_callV, vx_callS, vx_callSW, vx_throw0, vx_throwS follow proofs of the library, with one case more: JvmDerived/Free/Laws.lean (Back.of_free), Shelf42/LK1.lean (callV, callS), Shelf/KitTraced.lean (throwNew0V, throwNewS). -/
/-- where a method has thrown q: the class by its name, the cell, what was written, the world -/
def vx_T (XC : String → State → State → Prop) (st : State) (q : Addr) (t : State) (mc ms : Nat) (free : Addr → Prop) : Prop :=
  ∃ (E : String) (ce : Cell) (L : List Loc), XC E st t ∧ t.heap[q]? = some ce ∧ ce.vm = .none ∧ st.vm.findClass E = some ce.cls ∧ st.WarmedH t.vm ∧ st.sameButNew ({ t with vm := st.vm } : State) L mc ms ∧ ∀ z ∈ L, free z.base
def vx_Q (Qc : Array Value → State → Outcome → State → Prop) (XC : String → State → State → Prop) (mc ms : Nat) (free : Addr → Prop) : Array Value → State → Outcome → State → Prop := fun a st o t =>
  (Qc a st o t ∧ ∃ L, FrameEnd st o t L mc ms ∧ ∀ q ∈ L, free q.base) ∨ ∃ q, o = .threw q ∧ vx_T XC st q t mc ms free
/-- a callee that returns or throws -/
def vx_Met (l : Launch) (y : MethodName) (ws : List Cond) (rm : Room) (Pc : Array Value → State → Prop) (Qc : Array Value → State → Outcome → State → Prop) (XC : String → State → State → Prop) (mc ms : Nat) (free : Addr → Prop) : Prop :=
  MetFree l y (headSpec ws rm) Pc (fun _ _ _ _ _ => True) (vx_Q Qc XC mc ms free)
def vx_Post (XC : String → State → State → Prop) (mc ms : Nat) (free : Addr → Prop) : Pt → Array Value → Addr → Pt → Prop := fun A a q B =>
  ∃ (g : JFrame) (mk : MethodId) (t : State) (L : List Loc) (E : String) (ce : Cell), B.U.heap = t.heap ∧ B.U.vm = t.vm ∧ XC E (A.U.calling g mk a) t ∧ t.heap[q]? = some ce ∧ ce.vm = .none ∧ A.U.vm.findClass E = some ce.cls ∧ B.locs = A.locs ++ L ∧ (∀ z ∈ L, free z.base) ∧ B.cells = A.cells + mc ∧ B.slots = A.slots + ms
def vx_Back (l : Launch) (R : Room) (p : Program) (e : Env) (below : List Frame) (s : State) (sargs : Array Value) (y : MethodName) (len W9 : Nat)
    (Pre : Pt → Array Value → Prop) (Post : Pt → Array Value → Option Value → Pt → Prop) (PostX : Pt → Array Value → Addr → Pt → Prop) : Prop :=
  ∀ (m : MethodId) (meth : Method) (c : Code) (A : Pt) (g : JFrame) (ig : Instr) (mk : MethodId) (a : Array Value),
    Stand p l e R s m sargs below meth c A.U A.locs A.cells A.slots → g.method = m → g.locals.size = c.maxLocals → decode c.code g.pc = .ok (ig, len) →
    2 * g.monitorRoom + (g.stack.map fun v => v.category).sum ≤ W9 → A.U.methodNamed? y = some mk → Pre A a →
    (∃ (v : Option Value) (B : Pt), Stand p l e R s m sargs below meth c B.U B.locs B.cells B.slots ∧ Post A a v B ∧
      Steps p.tables e below (doInvoke e (A.U.setTop g) [] mk a).1 (B.U.setTop { g with pc := g.pc + len, stack := v.toList ++ g.stack })) ∨
    (∃ (q : Addr) (B : Pt), Stand p l e R s m sargs below meth c B.U B.locs B.cells B.slots ∧ PostX A a q B ∧
      Steps p.tables e below (doInvoke e (A.U.setTop g) [] mk a).1 ((B.U.setTop g).pushFrame (.throwing q)))
section Payer
variable {l : Launch} {R : Room} {p : Program} {e : Env} {below : List Frame} {s : State} {sargs : Array Value} {y : MethodName} {len W9 : Nat}
theorem vx_back {ws : List Cond} {rm : Room} {Pc : Array Value → State → Prop} {Qc : Array Value → State → Outcome → State → Prop} {XC : String → State → State → Prop} {mc ms : Nat} {free : Addr → Prop} {bytes : ByteArray} {maxL : Nat} {ret : Option FieldType}
    (hM : vx_Met l y ws rm Pc Qc XC mc ms free) (hblind : FrameBlind Pc) (hrc : rm.cells = mc) (hrs : rm.slots = ms)
    (hframes : rm.frames + 1 ≤ R.frames) (hlocals : W9 + (maxL + 11) + rm.locals ≤ R.locals)
    (hws : ∀ w ∈ ws, ∀ a' U, s.WarmedH U.vm → w.before a' U = true) (hcode : Cond.code y bytes maxL ret ∈ ws) (hinit : ∀ a' U, s.WarmedH U.vm → (Cond.initialized y.cls).before a' U = true) :
    vx_Back l R p e below s sargs y len W9 (PreOf R mc ms Pc) (PostOf Qc mc ms free) (vx_Post XC mc ms free) := by
  intro m meth c A g ig mk a X hg hsize hdg hW hn hp
  have h1 : (headSpec ws rm).pre.before a A.U = true := atoms_intro fun w hw => hws w hw _ _ X.warmed
  have h2 : (Cond.code y bytes maxL ret).before a A.U = true := hws _ hcode _ _ X.warmed
  have h3 : (Cond.initialized y.cls).before a A.U = true := hinit _ _ X.warmed
  have h4 : A.cells + (headSpec ws rm).room.cells ≤ R.cells := by rw [show (headSpec ws rm).room.cells = mc from hrc]; exact hp.1
  have h5 : A.slots + (headSpec ws rm).room.slots ≤ R.slots := by rw [show (headSpec ws rm).room.slots = ms from hrs]; exact hp.2.1
  have hPc : Pc a (A.U.calling g mk a) := hblind _ _ _ _ hp.2.2
  obtain ⟨U, Ls, c0, s0⟩ := A
  dsimp only [Pt.U, Pt.locs, Pt.cells, Pt.slots] at h1 h2 h3 h4 h5 X hn hPc ⊢
  obtain ⟨methY, cY, hmY, hcY, -, hlY, -, -, -, -⟩ := Cond.code_spec hn h2
  obtain ⟨kY, hkY, -⟩ := className_of_methodNamed hn
  have hinitY : kY.init = .initialized := Cond.initialized_spec (findClass_of_methodNamed hn) hkY h3
  have h : At U g.method c below := by rw [hg]; exact X.here
  have hlocals9 : W9 + (maxL + 11) + (headSpec ws rm).room.locals ≤ R.locals := hlocals
  have happ : (headSpec ws rm).appliesLoose y e.platform (U.calling g mk a) = true :=
    Spec.appliesLoose_calling (g := g) h hdg hn hkY hinitY
      (X.room_calling (g := g) (R' := (headSpec ws rm).room) hsize hmY hcY hframes (by rw [hlY]; omega) h4 h5) h1
  obtain ⟨mid, hmid⟩ := h.above
  have hfr : (U.setTop g).frames = (.java g :: mid) ++ below := by rw [State.frames_setTop' g h.top, hmid]; rfl
  obtain ⟨o, s₂, hsteps, -, hend, hq⟩ := Steps.callFree hM p X.admits X.cas X.clock (acts := []) hfr happ hPc trivial
  have hq' : vx_Q Qc XC mc ms free a (U.calling g mk a) o s₂ := hq
  rw [State.frames_setTop' g h.top] at hend
  obtain ⟨g₀, hg0⟩ := Option.isSome_iff_exists.mp h.top
  obtain ⟨r, hr⟩ := State.topJava?_eq_some.mp hg0
  have hr' : (({ U with heap := s₂.heap, slotsUsed := s₂.slotsUsed } : State).setVm s₂.vm).frames = .java g₀ :: r := hr
  rcases hq' with ⟨hqc, L, hfe, hL⟩ | ⟨q, rfl, E, ce, L, hx, hce, hcv, hcl, hW₂, hsm, hL⟩
  · obtain ⟨⟨v, rfl⟩, hW₂, e2, q2, q3, q4, q5, q6⟩ := id hfe
    have e3 : s₂ = ({ (U.calling g mk a).setFrames s₂.frames with heap := s₂.heap, slotsUsed := s₂.slotsUsed } : State).setVm s₂.vm := by
      have : s₂ = ({ s₂ with vm := (U.calling g mk a).vm } : State).setVm s₂.vm := rfl
      rw [e2] at this
      exact this
    obtain ⟨c₂, i₂, len₂, hc₂, hd₂, hf₂⟩ := hend
    have hW' : U.WarmedH s₂.vm := hW₂
    have hcc : c₂ = c := by
      have h1 : s₂.code? g.method = U.code? g.method := by
        rw [State.code?_eq, State.code?_eq, hW'.alike.method?]
      exact Option.some.inj (hc₂.symm.trans (h1.trans h.code))
    subst hcc
    have hlen : len₂ = len := by rw [hdg] at hd₂; cases hd₂; rfl
    subst hlen
    have hs₂ : s₂ = (({ U with heap := s₂.heap, slotsUsed := s₂.slotsUsed } : State).setVm s₂.vm).setTop { g with pc := g.pc + len₂, stack := v.toList ++ g.stack } := by
      refine e3.trans ?_
      rw [hf₂, State.calling_eq h.top, State.setFrames_setFrames, State.setTop_of_frames _ hr', hr]
      rfl
    have hsame : U.sameButNew ({ U with heap := s₂.heap, slotsUsed := s₂.slotsUsed } : State) L mc ms := by
      refine ⟨?_, q2, q3, q4, q5, q6⟩
      obtain ⟨t, ht, -⟩ := State.frames_cons hr
      show ({ U with heap := s₂.heap, slotsUsed := s₂.slotsUsed } : State) = { U.setFrames U.frames with heap := s₂.heap, slotsUsed := s₂.slotsUsed }
      rw [State.setFrames_self ht]
    subst hg
    refine Or.inl ⟨v, ⟨(({ U with heap := s₂.heap, slotsUsed := s₂.slotsUsed } : State).setVm s₂.vm), Ls ++ L, c0 + mc, s0 + ms⟩,
      ⟨X.admits, X.cas, X.clock, X.frames, X.room, X.hears, X.method, X.code, (X.here.setHeapUsed s₂.heap s₂.slotsUsed).setVm hW'.alike, X.tail, State.WarmedH.trans X.warmed hW', X.limits, X.bytes, X.same.trans (hsame.setVm s.vm)⟩,
      ⟨g, mk, s₂, L, rfl, rfl, hqc, rfl, hL, rfl, rfl⟩, ?_⟩
    show Steps p.tables e below _ ((({ U with heap := s₂.heap, slotsUsed := s₂.slotsUsed } : State).setVm s₂.vm).setTop { g with pc := g.pc + len₂, stack := v.toList ++ g.stack })
    rw [← hs₂]
    exact hsteps
  · obtain ⟨e2, q2, q3, q4, q5, q6⟩ := id hsm
    have e3 : s₂ = ({ (U.calling g mk a).setFrames s₂.frames with heap := s₂.heap, slotsUsed := s₂.slotsUsed } : State).setVm s₂.vm := by
      have : s₂ = ({ s₂ with vm := (U.calling g mk a).vm } : State).setVm s₂.vm := rfl
      rw [e2] at this
      exact this
    have hf₂ : s₂.frames = .throwing q :: .java g :: U.frames.tail := hend
    have hW' : U.WarmedH s₂.vm := hW₂
    have hs₂ : s₂ = ((({ U with heap := s₂.heap, slotsUsed := s₂.slotsUsed } : State).setVm s₂.vm).setTop g).pushFrame (.throwing q) := by
      refine e3.trans ?_
      rw [hf₂, State.calling_eq h.top, State.setFrames_setFrames, State.pushFrame, State.frames_setTop _ hr', State.setTop_of_frames _ hr', State.setFrames_setFrames, hr]
      rfl
    have hsame : U.sameButNew ({ U with heap := s₂.heap, slotsUsed := s₂.slotsUsed } : State) L mc ms := by
      refine ⟨?_, q2, q3, q4, q5, q6⟩
      obtain ⟨t, ht, -⟩ := State.frames_cons hr
      show ({ U with heap := s₂.heap, slotsUsed := s₂.slotsUsed } : State) = { U.setFrames U.frames with heap := s₂.heap, slotsUsed := s₂.slotsUsed }
      rw [State.setFrames_self ht]
    subst hg
    refine Or.inr ⟨q, ⟨(({ U with heap := s₂.heap, slotsUsed := s₂.slotsUsed } : State).setVm s₂.vm), Ls ++ L, c0 + mc, s0 + ms⟩,
      ⟨X.admits, X.cas, X.clock, X.frames, X.room, X.hears, X.method, X.code, (X.here.setHeapUsed s₂.heap s₂.slotsUsed).setVm hW'.alike, X.tail, State.WarmedH.trans X.warmed hW', X.limits, X.bytes, X.same.trans (hsame.setVm s.vm)⟩,
      ⟨g, mk, s₂, L, E, ce, rfl, rfl, hx, hce, hcv, hcl, rfl, hL, rfl, rfl⟩, ?_⟩
    show Steps p.tables e below _ (((({ U with heap := s₂.heap, slotsUsed := s₂.slotsUsed } : State).setVm s₂.vm).setTop g).pushFrame (.throwing q))
    rw [← hs₂]
    exact hsteps
end Payer
section Calls
variable {p : Program} {l : Launch} {e : Env} {R : Room} {s : State} {m : MethodId} {args : Array Value} {below : List Frame} {meth : Method} {c : Code} {T : State} {locs : List Loc} {cells slots : Nat}
theorem vx_callV (X : Stand p l e R s m args below meth c T locs cells slots) (hexec : p.tables.exec = Jvm.exec) {own C : String} {index : Nat} {y : MethodName} {bytes : ByteArray} {maxL : Nat} {ret : Option FieldType}
    (hown : s.vm.findClass own = some m.cls) (hlink : (Cond.methodLink own index y).before args s = true) (hinst : (Cond.instanceMethod y).before args s = true) (hsel : (Cond.selects C y y).before args s = true)
    (hcode : (Cond.code y bytes maxL ret).before args s = true) (hy : y.cls ≠ "java/lang/invoke/MethodHandle" ∧ y.cls ≠ "java/lang/invoke/VarHandle")
    {W9 : Nat} {Pre : Pt → Array Value → Prop} {Post : Pt → Array Value → Option Value → Pt → Prop} {PostX : Pt → Array Value → Addr → Pt → Prop} (hK : vx_Back l R p e below s args y 3 W9 Pre Post PostX)
    {b : Addr} {cellB : Cell} (hcell : T.heap[b]? = some cellB) (hobj : cellB.vm.isStatics = false) (hcls : s.vm.findClass C = some cellB.cls)
    {g : JFrame} (hg : g.method = m) (hsize : g.locals.size = c.maxLocals) {argsL rest : List Value} (hlen : ∀ sig, parseMethodDescriptor y.desc = some sig → argsL.length = sig.parameters.length)
    (hstack : g.stack = argsL.reverse ++ .ref b :: rest) (hW : 2 * g.monitorRoom + (rest.map fun v => v.category).sum ≤ W9) (hdg : decode c.code g.pc = .ok (.invokevirtual index, 3))
    (hpre : ∀ vm₁, s.WarmedH vm₁ → Pre ⟨T.setVm vm₁, locs, cells, slots⟩ (Value.ref b :: argsL).toArray) :
    (∃ (v : Option Value) (vm₁ : Vm) (B : Pt), s.WarmedH vm₁ ∧ Stand p l e R s m args below meth c B.U B.locs B.cells B.slots ∧ Post ⟨T.setVm vm₁, locs, cells, slots⟩ (Value.ref b :: argsL).toArray v B ∧
      ∀ target, Steps p.tables e below (B.U.setTop { g with pc := g.pc + 3, stack := v.toList ++ rest }) target → Steps p.tables e below (T.setTop g) target) ∨
    (∃ (q : Addr) (vm₁ : Vm) (B : Pt), s.WarmedH vm₁ ∧ Stand p l e R s m args below meth c B.U B.locs B.cells B.slots ∧ PostX ⟨T.setVm vm₁, locs, cells, slots⟩ (Value.ref b :: argsL).toArray q B ∧
      Steps p.tables e below (T.setTop g) ((B.U.setTop { g with stack := rest }).pushFrame (.throwing q))) := by
  obtain ⟨mk, methM, hnamed, hmethM, hstM, habM⟩ := Cond.instanceMethod_spec hinst
  obtain ⟨methM', cM, hmethM', -, -, -, -, -, -, hsigM⟩ := Cond.code_spec hnamed hcode
  cases hmethM.symm.trans hmethM'
  obtain ⟨c2, r2, m2, q1, q2, q3, q4, kP, hkP, hkPi⟩ := Cond.selects_spec hsel
  cases hcls.symm.trans q1
  cases (State.methodFound?_of_named hnamed hy).symm.trans q2
  cases hnamed.symm.trans q3
  have hselP : selectMethod e.platform s.vm cellB.cls mk = .method mk := by rw [Launch.admits_selectMethod X.admits]; exact q4
  obtain ⟨vm₁, X₁, hstep₁⟩ := X.invokevirtual hexec hown hlink hnamed hmethM hstM hkP hkPi hy (a := b) (cell := cellB) hcell
    (fun z h => by rw [h] at hobj; cases hobj) hselP hmethM habM hkP hkPi (g := g) hg (argsL := argsL) (rest := rest) (hlen _ hsigM) hstack hdg
  rcases hK m meth c ⟨T.setVm vm₁, locs, cells, slots⟩ { g with stack := rest } (.invokevirtual index) mk (Value.ref b :: argsL).toArray X₁ hg hsize hdg hW (X₁.named hnamed) (hpre vm₁ X₁.warmed) with ⟨v, B, X', hpost, hsteps⟩ | ⟨q, B, X', hpost, hsteps⟩
  · exact Or.inl ⟨v, vm₁, B, X₁.warmed, X', hpost, fun target h => hstep₁ _ fun acts => by rw [doInvoke_state]; exact hsteps.trans h⟩
  · exact Or.inr ⟨q, vm₁, B, X₁.warmed, X', hpost, hstep₁ _ fun acts => by rw [doInvoke_state]; exact hsteps⟩
theorem vx_callS (X : Stand p l e R s m args below meth c T locs cells slots) (hexec : p.tables.exec = Jvm.exec) {own : String} {index : Nat} {y : MethodName} {bytes : ByteArray} {maxL : Nat} {ret : Option FieldType}
    (hown : s.vm.findClass own = some m.cls) (hlink : (Cond.methodLink own index y).before args s = true) (hstat : (Cond.static y).before args s = true) (hinit : (Cond.initialized y.cls).before args s = true)
    (hcode : (Cond.code y bytes maxL ret).before args s = true) (hy : y.cls ≠ "java/lang/invoke/MethodHandle" ∧ y.cls ≠ "java/lang/invoke/VarHandle")
    {W9 : Nat} {Pre : Pt → Array Value → Prop} {Post : Pt → Array Value → Option Value → Pt → Prop} {PostX : Pt → Array Value → Addr → Pt → Prop} (hK : vx_Back l R p e below s args y 3 W9 Pre Post PostX)
    {g : JFrame} (hg : g.method = m) (hsize : g.locals.size = c.maxLocals) {argsL rest : List Value} (hlen : ∀ sig, parseMethodDescriptor y.desc = some sig → argsL.length = sig.parameters.length)
    (hstack : g.stack = argsL.reverse ++ rest) (hW : 2 * g.monitorRoom + (rest.map fun v => v.category).sum ≤ W9) (hdg : decode c.code g.pc = .ok (.invokestatic index, 3))
    (hpre : ∀ vm₁, s.WarmedH vm₁ → Pre ⟨T.setVm vm₁, locs, cells, slots⟩ argsL.toArray) :
    (∃ (v : Option Value) (vm₁ : Vm) (B : Pt), s.WarmedH vm₁ ∧ Stand p l e R s m args below meth c B.U B.locs B.cells B.slots ∧ Post ⟨T.setVm vm₁, locs, cells, slots⟩ argsL.toArray v B ∧
      ∀ target, Steps p.tables e below (B.U.setTop { g with pc := g.pc + 3, stack := v.toList ++ rest }) target → Steps p.tables e below (T.setTop g) target) ∨
    (∃ (q : Addr) (vm₁ : Vm) (B : Pt), s.WarmedH vm₁ ∧ Stand p l e R s m args below meth c B.U B.locs B.cells B.slots ∧ PostX ⟨T.setVm vm₁, locs, cells, slots⟩ argsL.toArray q B ∧
      Steps p.tables e below (T.setTop g) ((B.U.setTop { g with stack := rest }).pushFrame (.throwing q))) := by
  obtain ⟨mk, hnamed⟩ := Cond.code_named hcode
  obtain ⟨methM, cM, hmethM, -, -, -, -, -, -, hsigM⟩ := Cond.code_spec hnamed hcode
  have hstatic : methM.isStatic = true := Cond.static_spec hnamed hmethM hstat
  obtain ⟨kP, hkP, -⟩ := className_of_methodNamed hnamed
  have hinitP : kP.init = .initialized := Cond.initialized_spec (findClass_of_methodNamed hnamed) hkP hinit
  obtain ⟨vm₁, X₁, hstep₁⟩ := X.invokestatic hexec hown hlink hnamed hmethM hstatic hkP hinitP hy (g := g) hg (argsL := argsL) (rest := rest) (hlen _ hsigM) hstack hdg
  rcases hK m meth c ⟨T.setVm vm₁, locs, cells, slots⟩ { g with stack := rest } (.invokestatic index) mk argsL.toArray X₁ hg hsize hdg hW (X₁.named hnamed) (hpre vm₁ X₁.warmed) with ⟨v, B, X', hpost, hsteps⟩ | ⟨q, B, X', hpost, hsteps⟩
  · exact Or.inl ⟨v, vm₁, B, X₁.warmed, X', hpost, fun target h => hstep₁ _ fun acts => by rw [doInvoke_state]; exact hsteps.trans h⟩
  · exact Or.inr ⟨q, vm₁, B, X₁.warmed, X', hpost, hstep₁ _ fun acts => by rw [doInvoke_state]; exact hsteps⟩
end Calls
theorem vx_cls {s : State} {T : State} {vm₁ : Vm} {E : String} {k : ClassId} (hW : s.WarmedH vm₁) (h : (T.setVm vm₁).vm.findClass E = some k) : s.vm.findClass E = some k := by
  have h1 : vm₁.findClass E = some k := h
  rw [hW.alike.findClass] at h1
  exact h1
/-- the method's frame g, with q thrown over it -/
def vx_W (p : Program) (l : Launch) (e : Env) (R : Room) (s : State) (m : MethodId) (args : Array Value) (below : List Frame) (meth : Method) (c : Code) (H : Heap) (locs : List Loc) (cells slots : Nat) (Q : State → Prop) (g : JFrame) (q : Addr) : Prop :=
  ∀ T : State, T.heap = H → Stand p l e R s m args below meth c T locs cells slots → ∃ t, Steps p.tables e below ((T.setTop g).pushFrame (.throwing q)) t ∧ Q t
def vx_Run (p : Program) (l : Launch) (e : Env) (R : Room) (s : State) (m : MethodId) (args : Array Value) (below : List Frame) (meth : Method) (c : Code) (H : Heap) (locs : List Loc) (cells slots mc ms : Nat) (g : JFrame) (rest : List Value) (Qa : State → Outcome → State → Prop) (XC : String → State → State → Prop) (free : Addr → Prop) : Prop :=
  ∀ T : State, T.heap = H → Stand p l e R s m args below meth c T locs cells slots →
    (∃ (v : Option Value) (st₀ t T' : State) (L : List Loc), st₀.heap = H ∧ Stand p l e R s m args below meth c T' (locs ++ L) (cells + mc) (slots + ms) ∧ (∀ q ∈ L, free q.base) ∧ T'.heap = t.heap ∧ T'.vm = t.vm ∧ Qa st₀ (.returned v) t ∧
      Goes p e below T g T' { g with pc := g.pc + 3, stack := v.toList ++ rest }) ∨
    (∃ (q : Addr) (st₀ t T' : State) (L : List Loc) (E : String) (ce : Cell), st₀.heap = H ∧ Stand p l e R s m args below meth c T' (locs ++ L) (cells + mc) (slots + ms) ∧ (∀ z ∈ L, free z.base) ∧ T'.heap = t.heap ∧ T'.vm = t.vm ∧ XC E st₀ t ∧ t.heap[q]? = some ce ∧ ce.vm = .none ∧ s.vm.findClass E = some ce.cls ∧
      Steps p.tables e below (T.setTop g) ((T'.setTop { g with stack := rest }).pushFrame (.throwing q)))
def vx_X {S : Type} (px : S → Prop) (B : String → S → State → Prop) (A : Nat → Prop) : String → State → State → Prop := fun E st t => ∃ u : S, px u ∧ B E u t ∧ va_F A st t
section Runs
variable {p : Program} {l : Launch} {e : Env} {R : Room} {s : State} {m : MethodId} {args : Array Value} {below : List Frame} {meth : Method} {c : Code} {H : Heap} {locs : List Loc} {cells slots : Nat}
variable {y : MethodName} {bytes cc : ByteArray} {maxL nL mc ms n index : Nat} {ret : Option FieldType} {ws : List Cond} {rm : Room} {Pc : Array Value → State → Prop} {Qc : Array Value → State → Outcome → State → Prop} {XC : String → State → State → Prop} {free : Addr → Prop} {Ts : List Cond} {own C : String} {b : Addr} {As rest : List Value} {g : JFrame}
theorem vx_callBack (cb : CallB R s args own index y bytes maxL ret ws rm mc ms n) (hM : vx_Met l y ws rm Pc Qc XC mc ms free) (hbl : FrameBlind Pc) : vx_Back l R p e below s args y 3 8 (PreOf R mc ms Pc) (PostOf Qc mc ms free) (vx_Post XC mc ms free) := by
  obtain ⟨hrc, hrs, hfr, hlo, hws, hcw, -, hini, -⟩ := cb
  exact vx_back (bytes := bytes) (maxL := maxL) (ret := ret) hM hbl hrc hrs hfr hlo hws hcw (fun a' U hW => word_at hW (Or.inl (by first | rfl | simp [Cond.onTables, Cond.keeps, Cond.steady])) hini)
theorem vx_runV (S : CallFix p m c cc nL s args Ts own) (hM : vx_Met l y ws rm Pc Qc XC mc ms free) (cw : CallW R s args own C index y bytes maxL ret ws rm mc ms n) (hp : PreV s H C b Pc As)
    (hg : g.method = m) (hn : As.length = n) (hsize : g.locals.size = nL) (hstack : g.stack = As.reverse ++ .ref b :: rest) (hW : 2 * g.monitorRoom + (rest.map fun v => v.category).sum ≤ 8) (hdg : decode cc g.pc = .ok (.invokevirtual index, 3)) (hf : cells + mc ≤ R.cells ∧ slots + ms ≤ R.slots) :
    vx_Run p l e R s m args below meth c H locs cells slots mc ms g rest (Qc (Value.ref b :: As).toArray) XC free := by
  have hK : vx_Back l R p e below s args y 3 8 (PreOf R mc ms Pc) (PostOf Qc mc ms free) (vx_Post XC mc ms free) := vx_callBack cw.1 hM hp.1
  obtain ⟨⟨-, -, -, -, -, -, hcode, -, hy, hlen, hl⟩, hin, hse⟩ := cw
  obtain ⟨hx, hb, hml, ho, -⟩ := S
  obtain ⟨-, ⟨cellB, hcB, hoB, hclB⟩, hPc⟩ := hp
  intro T hT X
  rcases vx_callV X hx (C := C) (bytes := bytes) (maxL := maxL) (ret := ret) ho hl hin hse hcode hy hK (by rw [hT]; exact hcB) hoB hclB hg (hsize.trans hml.symm) (argsL := As) (rest := rest) (fun sig h => hn.trans (hlen sig h)) hstack hW (by rw [hb]; exact hdg)
    (fun vm₁ hW₁ => ⟨hf.1, hf.2, hPc (T.setVm vm₁) hT hW₁⟩) with ⟨v, vm₁, ⟨U', l2, c2, s2⟩, hW₁, X', ⟨g', mk, t, L, e1, e2, hq, h1, hL, h2, h3⟩, st⟩ | ⟨q, vm₁, ⟨U', l2, c2, s2⟩, hW₁, X', ⟨g', mk, t, L, E, ce, e1, e2, hq, hce, hcv, hcl, h1, hL, h2, h3⟩, st⟩
  · dsimp only [Pt.U, Pt.locs, Pt.cells, Pt.slots] at X' e1 e2 h1 h2 h3 st
    subst h1; subst h2; subst h3
    exact Or.inl ⟨v, (T.setVm vm₁).calling g' mk (Value.ref b :: As).toArray, t, U', L, hT, X', hL, e1, e2, hq, st⟩
  · dsimp only [Pt.U, Pt.locs, Pt.cells, Pt.slots] at X' e1 e2 h1 h2 h3 st hcl
    subst h1; subst h2; subst h3
    exact Or.inr ⟨q, (T.setVm vm₁).calling g' mk (Value.ref b :: As).toArray, t, U', L, E, ce, hT, X', hL, e1, e2, hq, hce, hcv, vx_cls hW₁ hcl, st⟩
theorem vx_runS (S : CallFix p m c cc nL s args Ts own) (hM : vx_Met l y ws rm Pc Qc XC mc ms free) (cw : CallB R s args own index y bytes maxL ret ws rm mc ms n ∧ (Cond.static y).before args s = true) (hp : PreS s H Pc As)
    (hg : g.method = m) (hn : As.length = n) (hsize : g.locals.size = nL) (hstack : g.stack = As.reverse ++ rest) (hW : 2 * g.monitorRoom + (rest.map fun v => v.category).sum ≤ 8) (hdg : decode cc g.pc = .ok (.invokestatic index, 3)) (hf : cells + mc ≤ R.cells ∧ slots + ms ≤ R.slots) :
    vx_Run p l e R s m args below meth c H locs cells slots mc ms g rest (Qc As.toArray) XC free := by
  have hK : vx_Back l R p e below s args y 3 8 (PreOf R mc ms Pc) (PostOf Qc mc ms free) (vx_Post XC mc ms free) := vx_callBack cw.1 hM hp.1
  obtain ⟨⟨-, -, -, -, -, -, hcode, hini, hy, hlen, hl⟩, hstt⟩ := cw
  obtain ⟨hx, hb, hml, ho, -⟩ := S
  intro T hT X
  rcases vx_callS X hx (bytes := bytes) (maxL := maxL) (ret := ret) ho hl hstt hini hcode hy hK hg (hsize.trans hml.symm) (argsL := As) (rest := rest) (fun sig h => hn.trans (hlen sig h)) hstack hW (by rw [hb]; exact hdg)
    (fun vm₁ hW₁ => ⟨hf.1, hf.2, hp.2 (T.setVm vm₁) hT hW₁⟩) with ⟨v, vm₁, ⟨U', l2, c2, s2⟩, hW₁, X', ⟨g', mk, t, L, e1, e2, hq, h1, hL, h2, h3⟩, st⟩ | ⟨q, vm₁, ⟨U', l2, c2, s2⟩, hW₁, X', ⟨g', mk, t, L, E, ce, e1, e2, hq, hce, hcv, hcl, h1, hL, h2, h3⟩, st⟩
  · dsimp only [Pt.U, Pt.locs, Pt.cells, Pt.slots] at X' e1 e2 h1 h2 h3 st
    subst h1; subst h2; subst h3
    exact Or.inl ⟨v, (T.setVm vm₁).calling g' mk As.toArray, t, U', L, hT, X', hL, e1, e2, hq, st⟩
  · dsimp only [Pt.U, Pt.locs, Pt.cells, Pt.slots] at X' e1 e2 h1 h2 h3 st hcl
    subst h1; subst h2; subst h3
    exact Or.inr ⟨q, (T.setVm vm₁).calling g' mk As.toArray, t, U', L, E, ce, hT, X', hL, e1, e2, hq, hce, hcv, vx_cls hW₁ hcl, st⟩
end Runs
section Rows
variable {p : Program} {l : Launch} {e : Env} {R : Room} {s : State} {m : MethodId} {args : Array Value} {below : List Frame} {meth : Method} {c : Code} {H : Heap} {locs : List Loc} {cells slots : Nat} {Q : State → Prop}
variable {mc ms : Nat} {free : Addr → Prop} {A0 A1 : Nat → Prop} {H0 : Heap} {a : Array Value} {pc : Nat} {ls : Array Slot} {st0 rest : List Value}
theorem vx_keep {st₀ t T' : State} {L : List Loc} (h0 : st₀.heap = H) (e1 : T'.heap = t.heap) (hS : va_S A0 H0 H locs) (hA : ∀ q, q < H.size → A1 q → A0 q) (hf : ∀ q, free q → A0 q) (hL : ∀ q ∈ L, free q.base) (hF : va_F A1 st₀ t) :
    H.size ≤ T'.heap.size ∧ (∀ q : Nat, q < H.size → ¬ A1 q → T'.heap[q]? = H[q]?) ∧ va_S A0 H0 T'.heap (locs ++ L) := by
  obtain ⟨hz, hk⟩ := hF
  rw [h0] at hz hk
  exact ⟨by rw [e1]; exact hz, fun q h1 h2 => by rw [e1]; exact hk q h1 h2,
    ⟨Nat.le_trans hS.1 (by rw [e1]; exact hz), fun q h1 h2 => by rw [e1, hk q (Nat.lt_of_lt_of_le h1 hS.1) (fun z => h2 (hA q (Nat.lt_of_lt_of_le h1 hS.1) z))]; exact hS.2.1 q h1 h2, fun q hq => by
      rcases List.mem_append.mp hq with h | h
      · exact hS.2.2 q h
      · exact hf _ (hL q h)⟩⟩
theorem vx_calli {S SX : Type} {post : Int32 → S → Prop} {px : SX → Prop} {B : S → State → Prop} {BX : String → SX → State → Prop} {AX : Nat → Prop} (hr : vx_Run p l e R s m args below meth c H locs cells slots mc ms (F0 m pc ls st0) rest (va_Qi post B A1 a) (vx_X px BX AX) free) (hS : va_S A0 H0 H locs) (hA : ∀ q, q < H.size → A1 q → A0 q) (hf : ∀ q, free q → A0 q) (hAX : ∀ q, q < H.size → AX q → A0 q)
    (kx : ∀ (E : String) (ce : Cell) (q9 : Addr) (u : SX) (t : State) (H1 : Heap) (locs1 : List Loc), t.heap = H1 → s.vm.Alike t.vm → px u → BX E u t → H.size ≤ H1.size → (∀ q : Nat, q < H.size → ¬ AX q → H1[q]? = H[q]?) → va_S A0 H0 H1 locs1 → H1[q9]? = some ce → ce.vm = .none → s.vm.findClass E = some ce.cls → vx_W p l e R s m args below meth c H1 locs1 (cells + mc) (slots + ms) Q (F0 m pc ls rest) q9)
    (kk : ∀ (r : Int32) (u : S) (t : State) (H1 : Heap) (locs1 : List Loc), t.heap = H1 → s.vm.Alike t.vm → post r u → B u t → H.size ≤ H1.size → (∀ q : Nat, q < H.size → ¬ A1 q → H1[q]? = H[q]?) → va_S A0 H0 H1 locs1 → W p l e R s m args below meth c H1 locs1 (cells + mc) (slots + ms) Q (F0 m (pc + 3) ls (.int r :: rest))) : W p l e R s m args below meth c H locs cells slots Q (F0 m pc ls st0) := by
  intro T hT X
  rcases hr T hT X with ⟨v, st₀, t, T', L, h0, X', hL, e1, e2, ⟨⟨r, u, hv, hp, hb⟩, hF⟩, st⟩ | ⟨q, st₀, t, T', L, E, ce, h0, X', hL, e1, e2, ⟨u, hp, hb, hF⟩, hce, hcv, hcl, st⟩
  · cases hv
    obtain ⟨k1, k2, k3⟩ := vx_keep h0 e1 hS hA hf hL hF
    obtain ⟨t2, a1, b1⟩ := kk r u t T'.heap (locs ++ L) e1.symm (by rw [← e2]; exact X'.warmed.alike) hp hb k1 k2 k3 T' rfl X'
    exact ⟨t2, st t2 a1, b1⟩
  · obtain ⟨k1, k2, k3⟩ := vx_keep h0 e1 hS hAX hf hL hF
    obtain ⟨t2, a1, b1⟩ := kx E ce q u t T'.heap (locs ++ L) e1.symm (by rw [← e2]; exact X'.warmed.alike) hp hb k1 k2 k3 (by rw [e1]; exact hce) hcv hcl T' rfl X'
    exact ⟨t2, st.trans a1, b1⟩
theorem vx_calll {S SX : Type} {post : Int64 → S → Prop} {px : SX → Prop} {B : S → State → Prop} {BX : String → SX → State → Prop} {AX : Nat → Prop} (hr : vx_Run p l e R s m args below meth c H locs cells slots mc ms (F0 m pc ls st0) rest (va_Ql post B A1 a) (vx_X px BX AX) free) (hS : va_S A0 H0 H locs) (hA : ∀ q, q < H.size → A1 q → A0 q) (hf : ∀ q, free q → A0 q) (hAX : ∀ q, q < H.size → AX q → A0 q)
    (kx : ∀ (E : String) (ce : Cell) (q9 : Addr) (u : SX) (t : State) (H1 : Heap) (locs1 : List Loc), t.heap = H1 → s.vm.Alike t.vm → px u → BX E u t → H.size ≤ H1.size → (∀ q : Nat, q < H.size → ¬ AX q → H1[q]? = H[q]?) → va_S A0 H0 H1 locs1 → H1[q9]? = some ce → ce.vm = .none → s.vm.findClass E = some ce.cls → vx_W p l e R s m args below meth c H1 locs1 (cells + mc) (slots + ms) Q (F0 m pc ls rest) q9)
    (kk : ∀ (r : Int64) (u : S) (t : State) (H1 : Heap) (locs1 : List Loc), t.heap = H1 → s.vm.Alike t.vm → post r u → B u t → H.size ≤ H1.size → (∀ q : Nat, q < H.size → ¬ A1 q → H1[q]? = H[q]?) → va_S A0 H0 H1 locs1 → W p l e R s m args below meth c H1 locs1 (cells + mc) (slots + ms) Q (F0 m (pc + 3) ls (.long r :: rest))) : W p l e R s m args below meth c H locs cells slots Q (F0 m pc ls st0) := by
  intro T hT X
  rcases hr T hT X with ⟨v, st₀, t, T', L, h0, X', hL, e1, e2, ⟨⟨r, u, hv, hp, hb⟩, hF⟩, st⟩ | ⟨q, st₀, t, T', L, E, ce, h0, X', hL, e1, e2, ⟨u, hp, hb, hF⟩, hce, hcv, hcl, st⟩
  · cases hv
    obtain ⟨k1, k2, k3⟩ := vx_keep h0 e1 hS hA hf hL hF
    obtain ⟨t2, a1, b1⟩ := kk r u t T'.heap (locs ++ L) e1.symm (by rw [← e2]; exact X'.warmed.alike) hp hb k1 k2 k3 T' rfl X'
    exact ⟨t2, st t2 a1, b1⟩
  · obtain ⟨k1, k2, k3⟩ := vx_keep h0 e1 hS hAX hf hL hF
    obtain ⟨t2, a1, b1⟩ := kx E ce q u t T'.heap (locs ++ L) e1.symm (by rw [← e2]; exact X'.warmed.alike) hp hb k1 k2 k3 (by rw [e1]; exact hce) hcv hcl T' rfl X'
    exact ⟨t2, st.trans a1, b1⟩
theorem vx_callf {S SX : Type} {post : UInt32 → S → Prop} {px : SX → Prop} {B : S → State → Prop} {BX : String → SX → State → Prop} {AX : Nat → Prop} (hr : vx_Run p l e R s m args below meth c H locs cells slots mc ms (F0 m pc ls st0) rest (va_Qf post B A1 a) (vx_X px BX AX) free) (hS : va_S A0 H0 H locs) (hA : ∀ q, q < H.size → A1 q → A0 q) (hf : ∀ q, free q → A0 q) (hAX : ∀ q, q < H.size → AX q → A0 q)
    (kx : ∀ (E : String) (ce : Cell) (q9 : Addr) (u : SX) (t : State) (H1 : Heap) (locs1 : List Loc), t.heap = H1 → s.vm.Alike t.vm → px u → BX E u t → H.size ≤ H1.size → (∀ q : Nat, q < H.size → ¬ AX q → H1[q]? = H[q]?) → va_S A0 H0 H1 locs1 → H1[q9]? = some ce → ce.vm = .none → s.vm.findClass E = some ce.cls → vx_W p l e R s m args below meth c H1 locs1 (cells + mc) (slots + ms) Q (F0 m pc ls rest) q9)
    (kk : ∀ (r : UInt32) (u : S) (t : State) (H1 : Heap) (locs1 : List Loc), t.heap = H1 → s.vm.Alike t.vm → post r u → B u t → H.size ≤ H1.size → (∀ q : Nat, q < H.size → ¬ A1 q → H1[q]? = H[q]?) → va_S A0 H0 H1 locs1 → W p l e R s m args below meth c H1 locs1 (cells + mc) (slots + ms) Q (F0 m (pc + 3) ls (.float r :: rest))) : W p l e R s m args below meth c H locs cells slots Q (F0 m pc ls st0) := by
  intro T hT X
  rcases hr T hT X with ⟨v, st₀, t, T', L, h0, X', hL, e1, e2, ⟨⟨r, u, hv, hp, hb⟩, hF⟩, st⟩ | ⟨q, st₀, t, T', L, E, ce, h0, X', hL, e1, e2, ⟨u, hp, hb, hF⟩, hce, hcv, hcl, st⟩
  · cases hv
    obtain ⟨k1, k2, k3⟩ := vx_keep h0 e1 hS hA hf hL hF
    obtain ⟨t2, a1, b1⟩ := kk r u t T'.heap (locs ++ L) e1.symm (by rw [← e2]; exact X'.warmed.alike) hp hb k1 k2 k3 T' rfl X'
    exact ⟨t2, st t2 a1, b1⟩
  · obtain ⟨k1, k2, k3⟩ := vx_keep h0 e1 hS hAX hf hL hF
    obtain ⟨t2, a1, b1⟩ := kx E ce q u t T'.heap (locs ++ L) e1.symm (by rw [← e2]; exact X'.warmed.alike) hp hb k1 k2 k3 (by rw [e1]; exact hce) hcv hcl T' rfl X'
    exact ⟨t2, st.trans a1, b1⟩
theorem vx_calld {S SX : Type} {post : UInt64 → S → Prop} {px : SX → Prop} {B : S → State → Prop} {BX : String → SX → State → Prop} {AX : Nat → Prop} (hr : vx_Run p l e R s m args below meth c H locs cells slots mc ms (F0 m pc ls st0) rest (va_Qd post B A1 a) (vx_X px BX AX) free) (hS : va_S A0 H0 H locs) (hA : ∀ q, q < H.size → A1 q → A0 q) (hf : ∀ q, free q → A0 q) (hAX : ∀ q, q < H.size → AX q → A0 q)
    (kx : ∀ (E : String) (ce : Cell) (q9 : Addr) (u : SX) (t : State) (H1 : Heap) (locs1 : List Loc), t.heap = H1 → s.vm.Alike t.vm → px u → BX E u t → H.size ≤ H1.size → (∀ q : Nat, q < H.size → ¬ AX q → H1[q]? = H[q]?) → va_S A0 H0 H1 locs1 → H1[q9]? = some ce → ce.vm = .none → s.vm.findClass E = some ce.cls → vx_W p l e R s m args below meth c H1 locs1 (cells + mc) (slots + ms) Q (F0 m pc ls rest) q9)
    (kk : ∀ (r : UInt64) (u : S) (t : State) (H1 : Heap) (locs1 : List Loc), t.heap = H1 → s.vm.Alike t.vm → post r u → B u t → H.size ≤ H1.size → (∀ q : Nat, q < H.size → ¬ A1 q → H1[q]? = H[q]?) → va_S A0 H0 H1 locs1 → W p l e R s m args below meth c H1 locs1 (cells + mc) (slots + ms) Q (F0 m (pc + 3) ls (.double r :: rest))) : W p l e R s m args below meth c H locs cells slots Q (F0 m pc ls st0) := by
  intro T hT X
  rcases hr T hT X with ⟨v, st₀, t, T', L, h0, X', hL, e1, e2, ⟨⟨r, u, hv, hp, hb⟩, hF⟩, st⟩ | ⟨q, st₀, t, T', L, E, ce, h0, X', hL, e1, e2, ⟨u, hp, hb, hF⟩, hce, hcv, hcl, st⟩
  · cases hv
    obtain ⟨k1, k2, k3⟩ := vx_keep h0 e1 hS hA hf hL hF
    obtain ⟨t2, a1, b1⟩ := kk r u t T'.heap (locs ++ L) e1.symm (by rw [← e2]; exact X'.warmed.alike) hp hb k1 k2 k3 T' rfl X'
    exact ⟨t2, st t2 a1, b1⟩
  · obtain ⟨k1, k2, k3⟩ := vx_keep h0 e1 hS hAX hf hL hF
    obtain ⟨t2, a1, b1⟩ := kx E ce q u t T'.heap (locs ++ L) e1.symm (by rw [← e2]; exact X'.warmed.alike) hp hb k1 k2 k3 (by rw [e1]; exact hce) hcv hcl T' rfl X'
    exact ⟨t2, st.trans a1, b1⟩
theorem vx_callv {S SX : Type} {post : S → Prop} {px : SX → Prop} {B : S → State → Prop} {BX : String → SX → State → Prop} {AX : Nat → Prop} (hr : vx_Run p l e R s m args below meth c H locs cells slots mc ms (F0 m pc ls st0) rest (va_Qv post B A1 a) (vx_X px BX AX) free) (hS : va_S A0 H0 H locs) (hA : ∀ q, q < H.size → A1 q → A0 q) (hf : ∀ q, free q → A0 q) (hAX : ∀ q, q < H.size → AX q → A0 q)
    (kx : ∀ (E : String) (ce : Cell) (q9 : Addr) (u : SX) (t : State) (H1 : Heap) (locs1 : List Loc), t.heap = H1 → s.vm.Alike t.vm → px u → BX E u t → H.size ≤ H1.size → (∀ q : Nat, q < H.size → ¬ AX q → H1[q]? = H[q]?) → va_S A0 H0 H1 locs1 → H1[q9]? = some ce → ce.vm = .none → s.vm.findClass E = some ce.cls → vx_W p l e R s m args below meth c H1 locs1 (cells + mc) (slots + ms) Q (F0 m pc ls rest) q9)
    (kk : ∀ (u : S) (t : State) (H1 : Heap) (locs1 : List Loc), t.heap = H1 → s.vm.Alike t.vm → post u → B u t → H.size ≤ H1.size → (∀ q : Nat, q < H.size → ¬ A1 q → H1[q]? = H[q]?) → va_S A0 H0 H1 locs1 → W p l e R s m args below meth c H1 locs1 (cells + mc) (slots + ms) Q (F0 m (pc + 3) ls (rest))) : W p l e R s m args below meth c H locs cells slots Q (F0 m pc ls st0) := by
  intro T hT X
  rcases hr T hT X with ⟨v, st₀, t, T', L, h0, X', hL, e1, e2, ⟨⟨u, hv, hp, hb⟩, hF⟩, st⟩ | ⟨q, st₀, t, T', L, E, ce, h0, X', hL, e1, e2, ⟨u, hp, hb, hF⟩, hce, hcv, hcl, st⟩
  · cases hv
    obtain ⟨k1, k2, k3⟩ := vx_keep h0 e1 hS hA hf hL hF
    obtain ⟨t2, a1, b1⟩ := kk u t T'.heap (locs ++ L) e1.symm (by rw [← e2]; exact X'.warmed.alike) hp hb k1 k2 k3 T' rfl X'
    exact ⟨t2, st t2 a1, b1⟩
  · obtain ⟨k1, k2, k3⟩ := vx_keep h0 e1 hS hAX hf hL hF
    obtain ⟨t2, a1, b1⟩ := kx E ce q u t T'.heap (locs ++ L) e1.symm (by rw [← e2]; exact X'.warmed.alike) hp hb k1 k2 k3 (by rw [e1]; exact hce) hcv hcl T' rfl X'
    exact ⟨t2, st.trans a1, b1⟩
/-- caught by the row x of this method's table; the rows ahead don't take it -/
theorem vx_catch {own name : String} {E : String} {ce : Cell} {q : Addr} (hown : s.vm.findClass own = some m.cls) (pre : List ExceptionTableEntry) (x : ExceptionTableEntry) (suf : List ExceptionTableEntry) (hsplit : c.exceptionTable.toList = pre ++ x :: suf)
    (hpass : ∀ z ∈ pre, covers z pc = false ∨ (z.catchType ≠ 0 ∧ ∃ nm : String, (Cond.classLink own z.catchType nm).before args s = true ∧ va_Nc E nm s)) (hx : covers x pc = true) (h0 : x.catchType ≠ 0)
    (hlink : (Cond.classLink own x.catchType name).before args s = true) (hcast : (Cond.castable E name).before args s = true) (hcell : H[q]? = some ce) (hv : ce.vm = .none) (hcl : s.vm.findClass E = some ce.cls)
    (kk : W p l e R s m args below meth c H locs cells slots Q (F0 m x.handlerPc ls [.ref q])) : vx_W p l e R s m args below meth c H locs cells slots Q (F0 m pc ls rest) q := by
  intro T hT X
  have hpl : e.platform.magicAccessors = ({} : Platform).magicAccessors := by rw [X.admits.platform]
  obtain ⟨c3, c4, hc3, hc4, hasg⟩ := Cond.castable_spec hcast
  cases Option.some.inj (hc3.symm.trans hcl)
  obtain ⟨c5, hc5, hcl5⟩ := Cond.classLink_spec hown hlink e.platform hpl
  cases Option.some.inj (hc4.symm.trans hc5)
  obtain ⟨vm', X', st⟩ := X.thenCaughtThrough q (g := F0 m pc ls rest) rfl (Steps.refl _) (by rw [hT]; exact hcell) (by rw [hv]; rfl) (by obtain ⟨k9, h9, -⟩ := Vm.findClass_spec hcl; exact ⟨k9, h9⟩) pre x suf hsplit
    (fun z hz => by
      rcases hpass z hz with h | ⟨hz0, nm, hl1, hn1⟩
      · exact Or.inl h
      · obtain ⟨c6, hc6, hcl6⟩ := Cond.classLink_spec hown hl1 e.platform hpl
        obtain ⟨a8, b8, h1, h2, h3⟩ := hn1
        cases Option.some.inj (h1.symm.trans hcl)
        cases Option.some.inj (h2.symm.trans hc6)
        exact Or.inr ⟨hz0, _, hcl6, h3⟩) hx (Or.inr ⟨h0, c4, hcl5, hasg⟩)
  obtain ⟨t, a1, b1⟩ := kk (T.setVm vm') hT X'
  exact ⟨t, st.trans a1, b1⟩
end Rows
section Ends
variable {p : Program} {l : Launch} {e : Env} {R : Room} {s : State} {m : MethodId} {args : Array Value} {below : List Frame} {meth : Method} {c : Code} {H : Heap} {locs : List Loc} {cells slots : Nat} {Q : State → Prop}
variable {mc ms : Nat} {free : Addr → Prop} {A0 A1 : Nat → Prop} {H0 : Heap} {a : Array Value} {ls : Array Slot} {st0 rest : List Value}
variable {Qc : Array Value → State → Outcome → State → Prop} {XC : String → State → State → Prop}
/-- what a body that may throw owes at its end -/
def vx_MQ (below : List Frame) (Qc : Array Value → State → Outcome → State → Prop) (XC : String → State → State → Prop) (a : Array Value) (s : State) (mc ms : Nat) (free : Addr → Prop) : State → Prop := fun t =>
  ∃ o, t.status = .running ∧ Ended t below o ∧ vx_Q Qc XC mc ms free a s o t
theorem vx_ret {g : JFrame} {mc ms : Nat} (k : W p l e R s m args below meth c H locs cells slots (MQ below Qc args s mc ms free) g) : W p l e R s m args below meth c H locs cells slots (vx_MQ below Qc XC args s mc ms free) g := by
  intro T hT X
  obtain ⟨t, a1, o, b1, b2, b3, b4⟩ := k T hT X
  exact ⟨t, a1, o, b1, b2, Or.inl ⟨b3, b4⟩⟩
/-- not caught here: it goes on to the caller -/
theorem vx_widen {g : JFrame} {q : Addr} {k n : Nat} (h1 : cells ≤ k) (h2 : slots ≤ n) (kk : vx_W p l e R s m args below meth c H locs k n Q g q) : vx_W p l e R s m args below meth c H locs cells slots Q g q := fun T hT X => kk T hT (stand_widen X h1 h2)
theorem vx_out {pc : Nat} {E : String} {ce : Cell} {q : Addr} {mc ms : Nat} (hout : ∀ x ∈ c.exceptionTable.toList, covers x pc = false) (hlocks : meth.locks = false) (hcell : H[q]? = some ce) (hv : ce.vm = .none) (hcl : s.vm.findClass E = some ce.cls)
    (hx : ∀ t : State, t.heap = H → s.vm.Alike t.vm → XC E s t) (hf : ∀ z ∈ locs, free z.base) (hc : cells ≤ mc) (hs : slots ≤ ms) :
    vx_W p l e R s m args below meth c H locs cells slots (vx_MQ below Qc XC args s mc ms free) (F0 m pc ls rest) q := by
  intro T hT X
  obtain ⟨st1, hrun, hend, hW, hsm⟩ := X.leaveThrown q (g := F0 m pc ls rest) rfl rfl rfl hout hlocks
  have hcell9 : (T.setFrames (.throwing q :: below)).heap[q]? = some ce := by
    show T.heap[q]? = some ce
    rw [hT]; exact hcell
  exact ⟨_, st1, .threw q, hrun, hend, Or.inr ⟨q, rfl, E, ce, locs, hx _ hT hW.alike, hcell9, hv, hcl, hW, hsm.mono hc hs, hf⟩⟩
theorem vx_frame {U : State} {k n : Nat} (h : s.sameButNew ({ U with vm := s.vm } : State) locs k n) : s.heap.size ≤ U.heap.size ∧ ∀ q : Nat, q < s.heap.size → (∀ z ∈ locs, z.base ≠ q) → U.heap[q]? = s.heap[q]? := by
  obtain ⟨-, h2, -, -, -, h6⟩ := h
  refine ⟨h2, fun q hq hz => ?_⟩
  obtain ⟨c9, e1, e2, e3, e4⟩ := h6 q _ (Array.getElem?_eq_getElem hq)
  have hs : c9.slots = (s.heap[q]).slots := Array.ext_getElem? fun i => e4 i fun hm => hz _ hm rfl
  have h9 : c9 = s.heap[q] := by
    rw [hs] at e2
    exact e2
  have e5 : U.heap[q]? = some c9 := e1
  rw [e5, h9, Array.getElem?_eq_getElem hq]
/-- the words of a throw but the four that speak of the heap -/
def vx_no (w : Cond) : Bool := decide (w ≠ .isRef (.static Bundle.tN "UNASSIGNED_STACK" Bundle.steD)) && decide (w ≠ .isRef (.static Bundle.tN "SUPPRESSED_SENTINEL" Bundle.listD)) && decide (w ≠ .laysStatic Bundle.tN "UNASSIGNED_STACK" Bundle.steD) && decide (w ≠ .laysStatic Bundle.tN "SUPPRESSED_SENTINEL" Bundle.listD)
def vx_at0 (own : String) (ic : Nat) (X : String) (names : List String) : List Cond := (Bundle.ownAtoms0 own ic X names).filter vx_no
def vx_atS (own : String) (ic : Nat) (X : String) (names : List String) : List Cond := (Bundle.ownAtoms own ic X names).filter vx_no
/-- a word that the tables alone decide, or a good one -/
def vx_ot (w : Cond) : Bool := w.onTables || goodWord w
theorem vx_ot_at {args a' : Array Value} {s U : State} {w : Cond} (hW : s.WarmedH U.vm) (hvm : s.vm = U.vm) (hg : vx_ot w = true) (h : w.before args s = true) : w.before a' U = true := by
  simp only [vx_ot, Bool.or_eq_true] at hg
  rcases hg with hg | hg
  · exact va_tabs hg hvm h
  · exact word_at hW (good_of_word hg) h
/-- a list's words: the good ones out of the method's own list, the others by premises of their own -/
theorem vx_hat {args : Array Value} {s : State} {L B : List Cond} (h1 : ∀ w ∈ L.filter goodWord, w.before args s = true) (h2 : ∀ w ∈ L.filter (fun w => !goodWord w), w ∈ B) (h3 : ∀ w ∈ B, w.before args s = true) : ∀ w ∈ L, w.before args s = true := by
  intro w hw
  by_cases g : goodWord w = true
  · exact h1 w (List.mem_filter.mpr ⟨hw, g⟩)
  · refine h3 w (h2 w (List.mem_filter.mpr ⟨hw, ?_⟩))
    show (!goodWord w) = true
    cases hgw : goodWord w
    · rfl
    · exact absurd hgw g
theorem vx_c {args : Array Value} {s : State} {w : Cond} {B : List Cond} (h : w.before args s = true) (t : ∀ w ∈ B, w.before args s = true) : ∀ w' ∈ w :: B, w'.before args s = true := fun w' h' => (List.mem_cons.mp h').elim (fun e => by rw [e]; exact h) (t w')
theorem vx_n {args : Array Value} {s : State} : ∀ w ∈ ([] : List Cond), w.before args s = true := fun _ h => nomatch h
theorem vx_own {args : Array Value} {s : State} {L : List Cond} (h1 : ∀ w ∈ L.filter vx_no, w.before args s = true)
    (hU : (Cond.isRef (.static Bundle.tN "UNASSIGNED_STACK" Bundle.steD)).before args s = true) (hN : (Cond.isRef (.static Bundle.tN "SUPPRESSED_SENTINEL" Bundle.listD)).before args s = true)
    (lU : (Cond.laysStatic Bundle.tN "UNASSIGNED_STACK" Bundle.steD).before args s = true) (lN : (Cond.laysStatic Bundle.tN "SUPPRESSED_SENTINEL" Bundle.listD).before args s = true) : ∀ w ∈ L, w.before args s = true := by
  intro w hw
  by_cases e1 : w = .isRef (.static Bundle.tN "UNASSIGNED_STACK" Bundle.steD)
  · rw [e1]; exact hU
  · by_cases e2 : w = .isRef (.static Bundle.tN "SUPPRESSED_SENTINEL" Bundle.listD)
    · rw [e2]; exact hN
    · by_cases e3 : w = .laysStatic Bundle.tN "UNASSIGNED_STACK" Bundle.steD
      · rw [e3]; exact lU
      · by_cases e4 : w = .laysStatic Bundle.tN "SUPPRESSED_SENTINEL" Bundle.listD
        · rw [e4]; exact lN
        · exact h1 w (List.mem_filter.mpr ⟨hw, by unfold vx_no; rw [decide_eq_true e1, decide_eq_true e2, decide_eq_true e3, decide_eq_true e4]; rfl⟩)
/-- where a static field lies, its class's statics cell in H -/
def vx_L (C n d : String) (A : Nat → Prop) (U : State) (H : Heap) : Prop := ∃ (c : ClassId) (k : Class) (i : Nat) (f : Field) (a : Nat) (cell : Cell), U.vm.findClass C = some c ∧ U.fieldFound? C n d = some (c, k, i, f) ∧ f.isStatic = true ∧ k.statics = some a ∧ H[a]? = some cell ∧ cell.vm.isStatics = true ∧ cell.cls = c ∧ f.slot < cell.slots.size ∧ k.staticTypes[f.slot]? = some f.type ∧ ¬ A a
theorem vx_L.moved {C n d : String} {A : Nat → Prop} {u U : State} {H : Heap} (hvm : u.vm.Alike U.vm) (h : vx_L C n d A u H) : vx_L C n d A U H := by
  obtain ⟨c, k, i, f, a, cell, h1, h2, h3, h4, h5, h6, h7, h8, h9, h10⟩ := h
  obtain ⟨k', hi', he⟩ := State.fieldFound?_setVm hvm h2
  exact ⟨c, k', i, f, a, cell, by rw [hvm.findClass]; exact h1, hi', h3, by rw [he]; exact h4, h5, h6, h7, h8, by rw [he]; exact h9, h10⟩
theorem vx_L.kept {C n d : String} {A : Nat → Prop} {U : State} {H H1 : Heap} (h : vx_L C n d A U H) (hq : ∀ a : Nat, a < H.size → ¬ A a → H1[a]? = H[a]?) : vx_L C n d A U H1 := by
  obtain ⟨c, k, i, f, a, cell, h1, h2, h3, h4, h5, h6, h7, h8, h9, h10⟩ := h
  exact ⟨c, k, i, f, a, cell, h1, h2, h3, h4, by rw [hq a (Array.getElem?_eq_some_iff.mp h5).1 h10]; exact h5, h6, h7, h8, h9, h10⟩
theorem vx_L.narrow {C n d : String} {A B : Nat → Prop} {U : State} {H : Heap} (h : vx_L C n d A U H) (hAB : ∀ q, B q → A q) : vx_L C n d B U H := by
  obtain ⟨c, k, i, f, a, cell, h1, h2, h3, h4, h5, h6, h7, h8, h9, h10⟩ := h
  exact ⟨c, k, i, f, a, cell, h1, h2, h3, h4, h5, h6, h7, h8, h9, fun z => h10 (hAB _ z)⟩
theorem vx_L.word {C n d : String} {A : Nat → Prop} {s : State} {args : Array Value} (h : vx_L C n d A s s.heap) : (Cond.laysStatic C n d).before args s = true := by
  obtain ⟨c, k, i, f, a, cell, h1, h2, h3, h4, h5, h6, h7, h8, h9, -⟩ := h
  show (Cond.laysStatic C n d).holds args s none s [] = true
  exact Cond.laysStatic_of h1 h2 h3 h4 h5 h6 h7 h8 h9
/-- .. and what it holds: null or some reference -/
def vx_Zq (C n d : String) (A : Nat → Prop) (U : State) (H : Heap) : Prop := va_Zq C n d A U H ∧ vx_L C n d A U H
theorem vx_Zq.moved {C n d : String} {A : Nat → Prop} {u U : State} {H : Heap} (hvm : u.vm.Alike U.vm) (h : vx_Zq C n d A u H) : vx_Zq C n d A U H := ⟨va_Zq.moved hvm h.1, vx_L.moved hvm h.2⟩
theorem vx_Zq.kept {C n d : String} {A : Nat → Prop} {U : State} {H H1 : Heap} (h : vx_Zq C n d A U H) (hq : ∀ a : Nat, a < H.size → ¬ A a → H1[a]? = H[a]?) : vx_Zq C n d A U H1 := ⟨va_Zq.kept h.1 hq, vx_L.kept h.2 hq⟩
theorem vx_Zq.narrow {C n d : String} {A B : Nat → Prop} {U : State} {H : Heap} (h : vx_Zq C n d A U H) (hAB : ∀ q, B q → A q) : vx_Zq C n d B U H := ⟨va_Zq.narrow h.1 hAB, vx_L.narrow h.2 hAB⟩
theorem vx_Zqof {args : Array Value} {s : State} {C n d : String} {A : Nat → Prop} (hl : (Cond.laysStatic C n d).before args s = true) (hini : (Cond.initialized C).before args s = true) (h : (Cond.isRef (.static C n d)).before args s = true) (hA : ∀ a : Nat, a < s.heap.size → ¬ A a) : vx_Zq C n d A s s.heap := by
  refine ⟨va_Zqof hl hini h hA, ?_⟩
  obtain ⟨c, k, i, f, a, cell, h1, h2, h3, h4, h5, h6, h7, h8, h9⟩ := Cond.laysStatic_spec hl
  exact ⟨c, k, i, f, a, cell, h1, h2, h3, h4, h5, h6, h7, h8, h9, hA a (Array.getElem?_eq_some_iff.mp h5).1⟩
theorem vx_isRef {C n d : String} {v : Value} {A : Nat → Prop} {s : State} {args : Array Value} (h : va_Z C n d v A s s.heap) (hv : v.isRef = true) : (Cond.isRef (.static C n d)).before args s = true := by
  obtain ⟨cf, kf, fi, f, a, cell, h1, h2, h3, h4, h5, h6, h7, -⟩ := h
  have he : (Term.static C n d).eval args s none [] s = some v := by
    simp [Term.eval, State.fieldNamed?, h1, h2, h4, h5, h6, h7]
  simp only [Cond.before, Cond.holds, Cond.value, he]
  cases v <;> simp_all [Value.isRef]
theorem vx_isRefq {C n d : String} {A : Nat → Prop} {s : State} {args : Array Value} (h : va_Zq C n d A s s.heap) : (Cond.isRef (.static C n d)).before args s = true := by
  rcases h with h | ⟨t, h⟩
  · exact vx_isRef h rfl
  · exact vx_isRef h rfl
/-- the same frame, seen from here: as if the method were called anew in this heap -/
theorem vx_rebase {T : State} (X : Stand p l e R s m args below meth c T locs cells slots) {R' : Room} (hf : R'.frames ≤ R.frames) (hl : R'.locals ≤ R.locals) (hc : cells + R'.cells ≤ R.cells) (hs : slots + R'.slots ≤ R.slots) :
    Stand p l e R' ((T.setVm s.vm).setFrames (.invoking m args :: below)) m args below meth c T [] 0 0 := by
  have htop : (T.setVm s.vm).topJava?.isSome := X.here.top
  have hF : ((T.setVm s.vm).setFrames (.invoking m args :: below)).frames = .invoking m args :: below := State.frames_setFrames _ (State.cur_lt_of_top htop)
  obtain ⟨g₀, hg0⟩ := Option.isSome_iff_exists.mp htop
  obtain ⟨r, hr⟩ := State.topJava?_eq_some.mp hg0
  have hl9 : e.platform.stackLimits (T.setVm s.vm).me = e.platform.stackLimits s.me := X.limits
  have hb9 : (T.setVm s.vm).me.stackBytes = s.me.stackBytes := X.bytes
  refine ⟨X.admits, X.cas, X.clock, hF, ?_, X.hears, X.method, X.code, X.here, X.tail, X.warmed, ?_, ?_, ?_⟩
  · have h := X.room
    have hU : ((T.setVm s.vm).setFrames (.invoking m args :: below)).localsInUse = s.localsInUse := by
      rw [State.localsInUse_invoking hF (meth := meth) (c := c) X.method X.code, State.localsInUse_invoking X.frames X.method X.code]
    simp only [State.hasRoom, Bool.and_eq_true, decide_eq_true_eq] at h ⊢
    obtain ⟨⟨⟨⟨h1, h2, h3, h4, h5, h6⟩, h7⟩, h8⟩, h9⟩ := h
    rw [X.frames, List.length_cons] at h2 h3
    have q1 := X.heapSize
    have q2 := X.used
    simp only [hF, hU, List.length_cons, State.stackLimits_setFrames, State.stackBytes_setFrames, hl9, hb9]
    refine ⟨⟨⟨⟨by omega, by omega, by omega, by omega, by omega, h6⟩, ?_⟩, ?_⟩, X.book⟩
    · show T.heap.size + R'.cells ≤ e.platform.maxCells
      omega
    · show T.slotsUsed + R'.slots ≤ e.platform.maxSlots
      omega
  · rw [State.stackLimits_setFrames]; rfl
  · rw [State.stackBytes_setFrames]; rfl
  · refine ⟨?_, Nat.le_refl _, Nat.le_refl _, ?_, ?_, fun a c9 h9 => ⟨c9, h9, rfl, rfl, fun _ _ => rfl⟩⟩
    · obtain ⟨t, ht, -⟩ := State.frames_cons hr
      show T.setVm s.vm = { ((T.setVm s.vm).setFrames (.invoking m args :: below)).setFrames (T.setVm s.vm).frames with heap := T.heap, slotsUsed := T.slotsUsed }
      rw [State.setFrames_setFrames, State.setFrames_self ht]
      rfl
    · show T.slotsUsed = T.slotsUsed + ((T.heap.toList.drop T.heap.size).map (·.slots.size)).sum
      rw [List.drop_eq_nil_of_le (Nat.le_of_eq Array.length_toList)]
      rfl
    · show ((T.heap.toList.drop T.heap.size).map (·.slots.size)).sum ≤ 0
      rw [List.drop_eq_nil_of_le (Nat.le_of_eq Array.length_toList)]
      exact Nat.le_refl _
/-- 'throw new E()': new; dup; invokespecial; athrow -/
theorem vx_throw0 {cc : ByteArray} {pc : Nat} (hexec : p.tables.exec = Jvm.exec) (hb : c.code = cc) (hl : l.stackTraces = false) {own cls : String} {names : List String} {ik ic mc ms : Nat} {A : Nat → Prop}
    (hown : s.vm.findClass own = some m.cls) (hcls : Bundle.fit cls = true) (hnames : ∀ n ∈ names, Bundle.fit n = true)
    (hk : (Cond.classLink own ik cls).before args s = true) (hini : (Cond.initialized cls).before args s = true) (hat : ∀ w ∈ vx_at0 own ic cls names, w.before args s = true)
    (hgood : ∀ w ∈ Cond.classLink own ik cls :: Cond.initialized cls :: vx_at0 own ic cls names, vx_ot w = true)
    (hU : vx_Zq Bundle.tN "UNASSIGNED_STACK" Bundle.steD A s s.heap) (hN : vx_Zq Bundle.tN "SUPPRESSED_SENTINEL" Bundle.listD A s s.heap) (hS : va_S A s.heap H locs) (hsize : ls.size = c.maxLocals)
    (d0 : decode cc pc = .ok (.new ik, 3)) (d3 : decode cc (pc + 3) = .ok (.dup, 1)) (d4 : decode cc (pc + 4) = .ok (.invokespecial ic, 3)) (d7 : decode cc (pc + 7) = .ok (.athrow, 1))
    (hout : ∀ x ∈ c.exceptionTable.toList, covers x (pc + 7) = false)
    (hRframes : names.length + 3 < R.frames) (hRlocals : (rest.map fun v => v.category).sum + (13 * (names.length + 1) + 42) ≤ R.locals) (hRcells : cells + 1 ≤ R.cells) (hRslots : slots + 6 ≤ R.slots) (hlocks : meth.locks = false)
    (hx : ∀ t : State, s.vm.Alike t.vm → H.size ≤ t.heap.size → (∀ q : Nat, q < H.size → t.heap[q]? = H[q]?) → XC cls s t)
    (hf : ∀ z ∈ locs, free z.base) (hc : cells + 1 ≤ mc) (hs : slots + 6 ≤ ms) :
    W p l e R s m args below meth c H locs cells slots (vx_MQ below Qc XC args s mc ms free) (F0 m pc ls rest) := by
  intro T hT X
  have htr : e.platform.stackTraces = false := (show e.platform.stackTraces = l.stackTraces by rw [X.admits.platform]).trans hl
  have Y := vx_rebase X (R' := { frames := R.frames, locals := R.locals, cells := 1, slots := 6 }) (Nat.le_refl _) (Nat.le_refl _) hRcells hRslots
  obtain ⟨s', hA⟩ : ∃ z, z = (T.setVm s.vm).setFrames (.invoking m args :: below) := ⟨_, rfl⟩
  rw [← hA] at Y
  have hvm : s'.vm = s.vm := by rw [hA]; rfl
  have hhp : s'.heap = H := by rw [hA]; exact hT
  have hW0 : s.WarmedH s'.vm := by rw [hvm]; exact State.WarmedH.refl s
  have hat' : ∀ w ∈ vx_at0 own ic cls names, w.before args s' = true := fun w hw => vx_ot_at hW0 hvm.symm (hgood w (List.mem_cons_of_mem _ (List.mem_cons_of_mem _ hw))) (hat w hw)
  have hk' : (Cond.classLink own ik cls).before args s' = true := vx_ot_at hW0 hvm.symm (hgood _ List.mem_cons_self) hk
  have hini' : (Cond.initialized cls).before args s' = true := vx_ot_at hW0 hvm.symm (hgood _ (List.mem_cons_of_mem _ List.mem_cons_self)) hini
  have hU' : vx_Zq Bundle.tN "UNASSIGNED_STACK" Bundle.steD A s' s'.heap := by rw [hhp]; exact vx_Zq.moved hW0.alike (hU.kept hS.2.1)
  have hN' : vx_Zq Bundle.tN "SUPPRESSED_SENTINEL" Bundle.listD A s' s'.heap := by rw [hhp]; exact vx_Zq.moved hW0.alike (hN.kept hS.2.1)
  have h : ∀ w ∈ Bundle.ownAtoms0 own ic cls names, w.before args s' = true := vx_own hat' (vx_isRefq hU'.1) (vx_isRefq hN'.1) hU'.2.word hN'.2.word
  have hown' : s'.vm.findClass own = some m.cls := by rw [hvm]; exact hown
  have hins : (Cond.instantiable cls 6).before args s' = true := h _ (by simp [Bundle.ownAtoms0])
  obtain ⟨vm₁, cX, kX, hfX, hkX, -, -, X₁, st1⟩ := Y.newCold hexec (own := own) (C := cls) (index := ik) (n := 6) hown' hk' hins hini'
    (g := F0 m pc ls rest) rfl (by rw [hb]; exact d0) (Nat.le_refl _) (Nat.le_refl _)
  generalize hT1 : (T.setVm vm₁).pushCell { cls := cX, slots := kX.instanceTypes.map defaultValue, vm := .none } = T1 at X₁ st1
  have hcat : (Value.ref T.heap.size).category = 1 := rfl
  have hcellA : T1.heap[T.heap.size]? = some (freshCell cX kX) := by rw [← hT1]; exact State.heap_pushCell_size _ _
  have d3' : decode c.code (pc + 3) = .ok (.dup, 1) := by rw [hb]; exact d3
  obtain ⟨U, hsteps, hrun, hend, hW, hsame, ce, hce, hO⟩ := X₁.ctorThrow0 hexec htr (own := own) (cls := cls) (names := names) (ic := ic) hown' hcls hnames h (fun x hx => nomatch hx) hfX hkX hcellA (by rw [hhp, hT]; exact Nat.le_refl _)
    (g := { method := m, pc := pc + 4, locals := ls, stack := .ref T.heap.size :: .ref T.heap.size :: rest, locked := none }) rfl hsize rfl rfl (rest := rest) rfl
    (by rw [hb]; exact d4) (by rw [hb]; exact d7) hout hRframes (by simp only [List.map_cons, List.sum_cons, hcat]; omega) hlocks
  obtain ⟨f1, f2⟩ := vx_frame hsame
  rw [hhp] at f1 f2
  have hWs : s.WarmedH U.vm := State.WarmedH.trans hW0 hW
  have hcl : s.vm.findClass cls = some ce.cls := by
    have h9 := hO.cls
    rw [hvm] at h9
    exact h9
  have hall : s.sameButNew ({ U with vm := s.vm } : State) locs mc ms := by
    subst hA
    obtain ⟨e1, e2⟩ := hsame
    rw [State.setFrames_setFrames] at e1
    have h2 : (T.setVm s.vm).sameButNew ({ U with vm := s.vm } : State) [] (0 + 1) (0 + 6) := ⟨e1, e2⟩
    have h3 := X.same.trans h2
    rw [List.append_nil] at h3
    exact h3.mono hc hs
  refine ⟨U, ?_, .threw T.heap.size, hrun, hend, Or.inr ⟨T.heap.size, rfl, cls, ce, locs, hx U hWs.alike f1 (fun q hq => f2 q hq (fun z hz => nomatch hz)), hce, hO.vm, hcl, hWs, hall, hf⟩⟩
  refine st1 _ ?_
  show Steps p.tables e below (T1.setTop { method := m, pc := pc + 3, locals := ls, stack := .ref T.heap.size :: rest, locked := none }) _
  jvm_step X₁.here [X₁.here.top, hexec, d3', Value.category]
  exact hsteps
/-- 'throw new E("text")': new; dup; ldc; invokespecial; athrow -/
theorem vx_throwS {cc : ByteArray} {pc : Nat} (hexec : p.tables.exec = Jvm.exec) (hb : c.code = cc) (hl : l.stackTraces = false) {own cls text : String} {names : List String} {ik is ic mc ms sa : Nat} {A : Nat → Prop}
    (hown : s.vm.findClass own = some m.cls) (hcls : Bundle.fit cls = true) (hnames : ∀ n ∈ names, Bundle.fit n = true)
    (hk : (Cond.classLink own ik cls).before args s = true) (hini : (Cond.initialized cls).before args s = true) (hstr : vk_R own is text sa s) (hat : ∀ w ∈ vx_atS own ic cls names, w.before args s = true)
    (hgood : ∀ w ∈ Cond.classLink own ik cls :: Cond.initialized cls :: vx_atS own ic cls names, vx_ot w = true)
    (hU : vx_Zq Bundle.tN "UNASSIGNED_STACK" Bundle.steD A s s.heap) (hN : vx_Zq Bundle.tN "SUPPRESSED_SENTINEL" Bundle.listD A s s.heap) (hS : va_S A s.heap H locs) (hsize : ls.size = c.maxLocals)
    (d0 : decode cc pc = .ok (.new ik, 3)) (d3 : decode cc (pc + 3) = .ok (.dup, 1)) (d4 : decode cc (pc + 4) = .ok (.ldc is, 2)) (d6 : decode cc (pc + 6) = .ok (.invokespecial ic, 3)) (d9 : decode cc (pc + 9) = .ok (.athrow, 1))
    (hout : ∀ x ∈ c.exceptionTable.toList, covers x (pc + 9) = false)
    (hRframes : names.length + 3 < R.frames) (hRlocals : (rest.map fun v => v.category).sum + (13 * (names.length + 1) + 43) ≤ R.locals) (hRcells : cells + 1 ≤ R.cells) (hRslots : slots + 6 ≤ R.slots) (hlocks : meth.locks = false)
    (hx : ∀ t : State, s.vm.Alike t.vm → H.size ≤ t.heap.size → (∀ q : Nat, q < H.size → t.heap[q]? = H[q]?) → XC cls s t)
    (hf : ∀ z ∈ locs, free z.base) (hc : cells + 1 ≤ mc) (hs : slots + 6 ≤ ms) :
    W p l e R s m args below meth c H locs cells slots (vx_MQ below Qc XC args s mc ms free) (F0 m pc ls rest) := by
  intro T hT X
  have htr : e.platform.stackTraces = false := (show e.platform.stackTraces = l.stackTraces by rw [X.admits.platform]).trans hl
  have Y := vx_rebase X (R' := { frames := R.frames, locals := R.locals, cells := 1, slots := 6 }) (Nat.le_refl _) (Nat.le_refl _) hRcells hRslots
  obtain ⟨s', hA⟩ : ∃ z, z = (T.setVm s.vm).setFrames (.invoking m args :: below) := ⟨_, rfl⟩
  rw [← hA] at Y
  have hvm : s'.vm = s.vm := by rw [hA]; rfl
  have hhp : s'.heap = H := by rw [hA]; exact hT
  have hW0 : s.WarmedH s'.vm := by rw [hvm]; exact State.WarmedH.refl s
  have hat' : ∀ w ∈ vx_atS own ic cls names, w.before args s' = true := fun w hw => vx_ot_at hW0 hvm.symm (hgood w (List.mem_cons_of_mem _ (List.mem_cons_of_mem _ hw))) (hat w hw)
  have hk' : (Cond.classLink own ik cls).before args s' = true := vx_ot_at hW0 hvm.symm (hgood _ List.mem_cons_self) hk
  have hini' : (Cond.initialized cls).before args s' = true := vx_ot_at hW0 hvm.symm (hgood _ (List.mem_cons_of_mem _ List.mem_cons_self)) hini
  have hU' : vx_Zq Bundle.tN "UNASSIGNED_STACK" Bundle.steD A s' s'.heap := by rw [hhp]; exact vx_Zq.moved hW0.alike (hU.kept hS.2.1)
  have hN' : vx_Zq Bundle.tN "SUPPRESSED_SENTINEL" Bundle.listD A s' s'.heap := by rw [hhp]; exact vx_Zq.moved hW0.alike (hN.kept hS.2.1)
  have h : ∀ w ∈ Bundle.ownAtoms own ic cls names, w.before args s' = true := vx_own hat' (vx_isRefq hU'.1) (vx_isRefq hN'.1) hU'.2.word hN'.2.word
  have hown' : s'.vm.findClass own = some m.cls := by rw [hvm]; exact hown
  have hins : (Cond.instantiable cls 6).before args s' = true := h _ (by simp [Bundle.ownAtoms])
  obtain ⟨vm₁, cX, kX, hfX, hkX, -, -, X₁, st1⟩ := Y.newCold hexec (own := own) (C := cls) (index := ik) (n := 6) hown' hk' hins hini'
    (g := F0 m pc ls rest) rfl (by rw [hb]; exact d0) (Nat.le_refl _) (Nat.le_refl _)
  generalize hT1 : (T.setVm vm₁).pushCell { cls := cX, slots := kX.instanceTypes.map defaultValue, vm := .none } = T1 at X₁ st1
  have hcat : (Value.ref T.heap.size).category = 1 := rfl
  have hcellA : T1.heap[T.heap.size]? = some (freshCell cX kX) := by rw [← hT1]; exact State.heap_pushCell_size _ _
  have d3' : decode c.code (pc + 3) = .ok (.dup, 1) := by rw [hb]; exact d3
  have d4' : decode c.code (pc + 4) = .ok (.ldc is, 2) := by rw [hb]; exact d4
  have hstr' : vk_R own is text sa s' := vk_R.warm hW0 hstr
  obtain ⟨U, hsteps, hrun, hend, hW, hsame, ce, hce, hO⟩ := X₁.ctorThrowS hexec htr (own := own) (cls := cls) (names := names) (ic := ic) hown' hcls hnames h (fun x hx => nomatch hx) hfX hkX hcellA (by rw [hhp, hT]; exact Nat.le_refl _) (msg := .ref sa) rfl
    (g := { method := m, pc := pc + 6, locals := ls, stack := .ref sa :: .ref T.heap.size :: .ref T.heap.size :: rest, locked := none }) rfl hsize rfl rfl (rest := rest) rfl
    (by rw [hb]; exact d6) (by rw [hb]; exact d9) hout hRframes (by simp only [List.map_cons, List.sum_cons, hcat]; omega) hlocks
  obtain ⟨f1, f2⟩ := vx_frame hsame
  rw [hhp] at f1 f2
  have hWs : s.WarmedH U.vm := State.WarmedH.trans hW0 hW
  have hcl : s.vm.findClass cls = some ce.cls := by
    have h9 := hO.cls
    rw [hvm] at h9
    exact h9
  have hall : s.sameButNew ({ U with vm := s.vm } : State) locs mc ms := by
    subst hA
    obtain ⟨e1, e2⟩ := hsame
    rw [State.setFrames_setFrames] at e1
    have h2 : (T.setVm s.vm).sameButNew ({ U with vm := s.vm } : State) [] (0 + 1) (0 + 6) := ⟨e1, e2⟩
    have h3 := X.same.trans h2
    rw [List.append_nil] at h3
    exact h3.mono hc hs
  refine ⟨U, ?_, .threw T.heap.size, hrun, hend, Or.inr ⟨T.heap.size, rfl, cls, ce, locs, hx U hWs.alike f1 (fun q hq => f2 q hq (fun z hz => nomatch hz)), hce, hO.vm, hcl, hWs, hall, hf⟩⟩
  refine st1 _ ?_
  show Steps p.tables e below (T1.setTop { method := m, pc := pc + 3, locals := ls, stack := .ref T.heap.size :: rest, locked := none }) _
  jvm_step X₁.here [X₁.here.top, hexec, d3', Value.category]
  exact X₁.ldcString hexec (own := own) (text := text) (index := is) (a := sa) hown' hstr'.1 hstr'.2
    (g := { method := m, pc := pc + 4, locals := ls, stack := .ref T.heap.size :: .ref T.heap.size :: rest, locked := none }) rfl d4' _ hsteps
/-- 'throw new E("text")', the text by a wide index -/
theorem vx_throwSW {cc : ByteArray} {pc : Nat} (hexec : p.tables.exec = Jvm.exec) (hb : c.code = cc) (hl : l.stackTraces = false) {own cls text : String} {names : List String} {ik is ic mc ms sa : Nat} {A : Nat → Prop}
    (hown : s.vm.findClass own = some m.cls) (hcls : Bundle.fit cls = true) (hnames : ∀ n ∈ names, Bundle.fit n = true)
    (hk : (Cond.classLink own ik cls).before args s = true) (hini : (Cond.initialized cls).before args s = true) (hstr : vk_R own is text sa s) (hat : ∀ w ∈ vx_atS own ic cls names, w.before args s = true)
    (hgood : ∀ w ∈ Cond.classLink own ik cls :: Cond.initialized cls :: vx_atS own ic cls names, vx_ot w = true)
    (hU : vx_Zq Bundle.tN "UNASSIGNED_STACK" Bundle.steD A s s.heap) (hN : vx_Zq Bundle.tN "SUPPRESSED_SENTINEL" Bundle.listD A s s.heap) (hS : va_S A s.heap H locs) (hsize : ls.size = c.maxLocals)
    (d0 : decode cc pc = .ok (.new ik, 3)) (d3 : decode cc (pc + 3) = .ok (.dup, 1)) (d4 : decode cc (pc + 4) = .ok (.ldc_w is, 3)) (d7 : decode cc (pc + 7) = .ok (.invokespecial ic, 3)) (d10 : decode cc (pc + 10) = .ok (.athrow, 1))
    (hout : ∀ x ∈ c.exceptionTable.toList, covers x (pc + 10) = false)
    (hRframes : names.length + 3 < R.frames) (hRlocals : (rest.map fun v => v.category).sum + (13 * (names.length + 1) + 43) ≤ R.locals) (hRcells : cells + 1 ≤ R.cells) (hRslots : slots + 6 ≤ R.slots) (hlocks : meth.locks = false)
    (hx : ∀ t : State, s.vm.Alike t.vm → H.size ≤ t.heap.size → (∀ q : Nat, q < H.size → t.heap[q]? = H[q]?) → XC cls s t)
    (hf : ∀ z ∈ locs, free z.base) (hc : cells + 1 ≤ mc) (hs : slots + 6 ≤ ms) :
    W p l e R s m args below meth c H locs cells slots (vx_MQ below Qc XC args s mc ms free) (F0 m pc ls rest) := by
  intro T hT X
  have htr : e.platform.stackTraces = false := (show e.platform.stackTraces = l.stackTraces by rw [X.admits.platform]).trans hl
  have Y := vx_rebase X (R' := { frames := R.frames, locals := R.locals, cells := 1, slots := 6 }) (Nat.le_refl _) (Nat.le_refl _) hRcells hRslots
  obtain ⟨s', hA⟩ : ∃ z, z = (T.setVm s.vm).setFrames (.invoking m args :: below) := ⟨_, rfl⟩
  rw [← hA] at Y
  have hvm : s'.vm = s.vm := by rw [hA]; rfl
  have hhp : s'.heap = H := by rw [hA]; exact hT
  have hW0 : s.WarmedH s'.vm := by rw [hvm]; exact State.WarmedH.refl s
  have hat' : ∀ w ∈ vx_atS own ic cls names, w.before args s' = true := fun w hw => vx_ot_at hW0 hvm.symm (hgood w (List.mem_cons_of_mem _ (List.mem_cons_of_mem _ hw))) (hat w hw)
  have hk' : (Cond.classLink own ik cls).before args s' = true := vx_ot_at hW0 hvm.symm (hgood _ List.mem_cons_self) hk
  have hini' : (Cond.initialized cls).before args s' = true := vx_ot_at hW0 hvm.symm (hgood _ (List.mem_cons_of_mem _ List.mem_cons_self)) hini
  have hU' : vx_Zq Bundle.tN "UNASSIGNED_STACK" Bundle.steD A s' s'.heap := by rw [hhp]; exact vx_Zq.moved hW0.alike (hU.kept hS.2.1)
  have hN' : vx_Zq Bundle.tN "SUPPRESSED_SENTINEL" Bundle.listD A s' s'.heap := by rw [hhp]; exact vx_Zq.moved hW0.alike (hN.kept hS.2.1)
  have h : ∀ w ∈ Bundle.ownAtoms own ic cls names, w.before args s' = true := vx_own hat' (vx_isRefq hU'.1) (vx_isRefq hN'.1) hU'.2.word hN'.2.word
  have hown' : s'.vm.findClass own = some m.cls := by rw [hvm]; exact hown
  have hins : (Cond.instantiable cls 6).before args s' = true := h _ (by simp [Bundle.ownAtoms])
  obtain ⟨vm₁, cX, kX, hfX, hkX, -, -, X₁, st1⟩ := Y.newCold hexec (own := own) (C := cls) (index := ik) (n := 6) hown' hk' hins hini'
    (g := F0 m pc ls rest) rfl (by rw [hb]; exact d0) (Nat.le_refl _) (Nat.le_refl _)
  generalize hT1 : (T.setVm vm₁).pushCell { cls := cX, slots := kX.instanceTypes.map defaultValue, vm := .none } = T1 at X₁ st1
  have hcat : (Value.ref T.heap.size).category = 1 := rfl
  have hcellA : T1.heap[T.heap.size]? = some (freshCell cX kX) := by rw [← hT1]; exact State.heap_pushCell_size _ _
  have d3' : decode c.code (pc + 3) = .ok (.dup, 1) := by rw [hb]; exact d3
  have d4' : decode c.code (pc + 4) = .ok (.ldc_w is, 3) := by rw [hb]; exact d4
  have hstr' : vk_R own is text sa s' := vk_R.warm hW0 hstr
  obtain ⟨U, hsteps, hrun, hend, hW, hsame, ce, hce, hO⟩ := X₁.ctorThrowS hexec htr (own := own) (cls := cls) (names := names) (ic := ic) hown' hcls hnames h (fun x hx => nomatch hx) hfX hkX hcellA (by rw [hhp, hT]; exact Nat.le_refl _) (msg := .ref sa) rfl
    (g := { method := m, pc := pc + 7, locals := ls, stack := .ref sa :: .ref T.heap.size :: .ref T.heap.size :: rest, locked := none }) rfl hsize rfl rfl (rest := rest) rfl
    (by rw [hb]; exact d7) (by rw [hb]; exact d10) hout hRframes (by simp only [List.map_cons, List.sum_cons, hcat]; omega) hlocks
  obtain ⟨f1, f2⟩ := vx_frame hsame
  rw [hhp] at f1 f2
  have hWs : s.WarmedH U.vm := State.WarmedH.trans hW0 hW
  have hcl : s.vm.findClass cls = some ce.cls := by
    have h9 := hO.cls
    rw [hvm] at h9
    exact h9
  have hall : s.sameButNew ({ U with vm := s.vm } : State) locs mc ms := by
    subst hA
    obtain ⟨e1, e2⟩ := hsame
    rw [State.setFrames_setFrames] at e1
    have h2 : (T.setVm s.vm).sameButNew ({ U with vm := s.vm } : State) [] (0 + 1) (0 + 6) := ⟨e1, e2⟩
    have h3 := X.same.trans h2
    rw [List.append_nil] at h3
    exact h3.mono hc hs
  refine ⟨U, ?_, .threw T.heap.size, hrun, hend, Or.inr ⟨T.heap.size, rfl, cls, ce, locs, hx U hWs.alike f1 (fun q hq => f2 q hq (fun z hz => nomatch hz)), hce, hO.vm, hcl, hWs, hall, hf⟩⟩
  refine st1 _ ?_
  show Steps p.tables e below (T1.setTop { method := m, pc := pc + 3, locals := ls, stack := .ref T.heap.size :: rest, locked := none }) _
  jvm_step X₁.here [X₁.here.top, hexec, d3', Value.category]
  exact X₁.ldcStringW hexec (own := own) (text := text) (index := is) (a := sa) hown' hstr'.1 hstr'.2
    (g := { method := m, pc := pc + 4, locals := ls, stack := .ref T.heap.size :: .ref T.heap.size :: rest, locked := none }) rfl d4' _ hsteps
end Ends
section Bodies
variable {l : Launch}
theorem vx_ofW {y : MethodName} {ws ws' : List Cond} {rm : Room} {Pc : Array Value → State → Prop} {Qc : Array Value → State → Outcome → State → Prop} {XC : String → State → State → Prop} {mc ms : Nat} {free : Addr → Prop} {cc : ByteArray} {maxL : Nat} {ret : Option FieldType}
    (hy : plainName y.cls = true) (hw : ws = Cond.code y cc maxL ret :: ws')
    (body : ∀ p e s m args below meth c s₁, BodyLoose p l y (headSpec ws rm) cc maxL ret e s m args below meth c s₁ → c.maxLocals = maxL → (∀ x ∈ c.exceptionTable.toList, False) → Pc args s →
      W p l e (headSpec ws rm).room s m args below meth c s.heap [] 0 0 (vx_MQ below Qc XC args s mc ms free) (entryFrame m args maxL)) : vx_Met l y ws rm Pc Qc XC mc ms free := by
  refine MetFree.of_bodyS (code := cc) (maxLocals := maxL) (ret := ret) hy ?_ ?_
  · intro args s m h hn
    obtain ⟨meth, c, h1, h2, h3, h4, h5, h6, -, -⟩ := Cond.code_spec hn (atoms_spec (ws := ws) h _ (by rw [hw]; exact List.mem_cons_self))
    exact ⟨meth, c, h1, h2, h3, h4, h5, h6⟩
  · intro p e s m args below meth c s₁ B hml hP _
    have hh0 : s₁.heap = s.heap := by rw [B.state]; rfl
    have ht : ∀ x ∈ c.exceptionTable.toList, False := by
      obtain ⟨meth9, c9, h1, h2, -, -, -, -, h7, -⟩ := Cond.code_spec B.named (atoms_spec (ws := ws) B.pre _ (by rw [hw]; exact List.mem_cons_self))
      cases Option.some.inj (h1.symm.trans B.method)
      cases Option.some.inj (h2.symm.trans (Stand.of_body B).code)
      intro x hx
      rw [Array.isEmpty_iff.mp h7] at hx
      cases hx
    obtain ⟨t, a1, o, b1, b2, b3⟩ := body p e s m args below meth c s₁ B hml ht hP s₁ hh0 (Stand.of_body B)
    exact ⟨t, o, a1, b1, b2, b3⟩
/-- the table of a body with handlers -/
theorem vx_table {p : Program} {x y : MethodName} {S : Spec} {cc bytes : ByteArray} {maxL maxL' : Nat} {ret ret' : Option FieldType} {e : Env} {s s₁ : State} {m : MethodId} {args : Array Value} {below : List Frame} {meth : Method} {c : Code} {hh : List (Nat × Nat × Nat × Nat)}
    (B : BodyLoose p l y S cc maxL ret e s m args below meth c s₁) (h : (Cond.codeWith y bytes maxL' ret' hh).before args s = true) : c.exceptionTable.toList = tableOf hh := by
  obtain ⟨m9, meth9, c9, hn9, h1, h2, -, -, h6, -⟩ := Cond.codeWith_spec h
  cases Option.some.inj (hn9.symm.trans B.named)
  cases Option.some.inj (h1.symm.trans B.method)
  cases Option.some.inj (h2.symm.trans (Stand.of_body B).code)
  rw [← h6, table_eq]
end Bodies
end VXA
/-! ===== END ===== -/
/-! ===== BEGIN a static call of a method with an exception table ===== -/
section VXS
variable {p : Program} {l : Launch} {e : Env} {R : Room} {s : State} {m : MethodId} {args : Array Value} {below : List Frame} {meth : Method} {c : Code} {T : State} {H : Heap} {locs : List Loc} {cells slots : Nat}
abbrev vx_CSW (R : Room) (s : State) (args : Array Value) (own : String) (index : Nat) (y : MethodName) (bytes : ByteArray) (maxL : Nat) (ret : Option FieldType) (hh : List (Nat × Nat × Nat × Nat)) (ws : List Cond) (rm : Room) (mc ms n : Nat) : Prop :=
  (rm.cells = mc ∧ rm.slots = ms ∧ rm.frames + 1 ≤ R.frames ∧ 8 + (maxL + 11) + rm.locals ≤ R.locals ∧ (∀ w ∈ ws, ∀ (a' : Array Value) (U : State), s.WarmedH U.vm → w.before a' U = true) ∧ Cond.codeWith y bytes maxL ret hh ∈ ws) ∧
  (Cond.codeWith y bytes maxL ret hh).before args s = true ∧ (Cond.initialized y.cls).before args s = true ∧ (y.cls ≠ "java/lang/invoke/MethodHandle" ∧ y.cls ≠ "java/lang/invoke/VarHandle") ∧
  (∀ sig, parseMethodDescriptor y.desc = some sig → n = sig.parameters.length) ∧ (Cond.methodLink own index y).before args s = true ∧ (Cond.static y).before args s = true
theorem vx_cwSW {own : String} {index maxL mc ms : Nat} {y : MethodName} {bytes : ByteArray} {ret : Option FieldType} {hh : List (Nat × Nat × Nat × Nat)} {Ts ws ws' : List Cond} {rm : Room} (n : Nat) (ht : ∀ w ∈ Ts, w.before args s = true) (hT : GoodIn Ts (va_wsS own index y ws)) (hw : ws = Cond.codeWith y bytes maxL ret hh :: ws') (hrc : rm.cells = mc) (hrs : rm.slots = ms)
    (hd : y.cls ≠ "java/lang/invoke/MethodHandle" ∧ y.cls ≠ "java/lang/invoke/VarHandle" ∧ (parseMethodDescriptor y.desc).map (fun d => d.parameters.length) = some n) (hR : rm.frames + 1 ≤ R.frames ∧ 8 + (maxL + 11) + rm.locals ≤ R.locals) :
    vx_CSW R s args own index y bytes maxL ret hh ws rm mc ms n := by
  have ok : ∀ w ∈ va_wsS own index y ws, w.before args s = true := fun w h => ht w (hT w h).1
  have hG : GoodIn Ts ws := fun w h => hT w (by unfold va_wsS; exact List.mem_append_right _ h)
  have hc : Cond.codeWith y bytes maxL ret hh ∈ ws := by rw [hw]; exact List.mem_cons_self
  refine ⟨⟨hrc, hrs, hR.1, hR.2, pay_in ht hG, hc⟩, ht _ (hG _ hc).1, ok _ (by simp [va_wsS]), ⟨hd.1, hd.2.1⟩, fun sig h => ?_, ok _ (by simp [va_wsS]), ok _ (by simp [va_wsS])⟩
  have h2 := hd.2.2
  rw [h] at h2
  exact (Option.some.inj h2).symm
theorem vx_callSW (X : Stand p l e R s m args below meth c T locs cells slots) (hexec : p.tables.exec = Jvm.exec) {own : String} {index : Nat} {y : MethodName} {bytes : ByteArray} {maxL : Nat} {ret : Option FieldType} {hh : List (Nat × Nat × Nat × Nat)}
    (hown : s.vm.findClass own = some m.cls) (hlink : (Cond.methodLink own index y).before args s = true) (hstat : (Cond.static y).before args s = true) (hinit : (Cond.initialized y.cls).before args s = true)
    (hcode : (Cond.codeWith y bytes maxL ret hh).before args s = true) (hy : y.cls ≠ "java/lang/invoke/MethodHandle" ∧ y.cls ≠ "java/lang/invoke/VarHandle")
    {W9 : Nat} {Pre : Pt → Array Value → Prop} {Post : Pt → Array Value → Option Value → Pt → Prop} (hK : Back l R p e below s args y 3 W9 Pre Post)
    {g : JFrame} (hg : g.method = m) (hsize : g.locals.size = c.maxLocals) {argsL rest : List Value} (hlen : ∀ sig, parseMethodDescriptor y.desc = some sig → argsL.length = sig.parameters.length)
    (hstack : g.stack = argsL.reverse ++ rest) (hW : 2 * g.monitorRoom + (rest.map fun v => v.category).sum ≤ W9) (hdg : decode c.code g.pc = .ok (.invokestatic index, 3))
    (hpre : ∀ vm₁, s.WarmedH vm₁ → Pre ⟨T.setVm vm₁, locs, cells, slots⟩ argsL.toArray) :
    ∃ (v : Option Value) (vm₁ : Vm) (B : Pt), s.WarmedH vm₁ ∧ Stand p l e R s m args below meth c B.U B.locs B.cells B.slots ∧ Post ⟨T.setVm vm₁, locs, cells, slots⟩ argsL.toArray v B ∧
      ∀ target, Steps p.tables e below (B.U.setTop { g with pc := g.pc + 3, stack := v.toList ++ rest }) target → Steps p.tables e below (T.setTop g) target := by
  obtain ⟨mk, methM, cM, hnamed, hmethM, -, -, -, -, -, -, hsigM⟩ := Cond.codeWith_spec hcode
  have hstatic : methM.isStatic = true := Cond.static_spec hnamed hmethM hstat
  obtain ⟨kP, hkP, -⟩ := className_of_methodNamed hnamed
  have hinitP : kP.init = .initialized := Cond.initialized_spec (findClass_of_methodNamed hnamed) hkP hinit
  obtain ⟨vm₁, X₁, hstep₁⟩ := X.invokestatic hexec hown hlink hnamed hmethM hstatic hkP hinitP hy (g := g) hg (argsL := argsL) (rest := rest) (hlen _ hsigM) hstack hdg
  obtain ⟨v, B, X', hpost, hsteps⟩ := hK m meth c ⟨T.setVm vm₁, locs, cells, slots⟩ { g with stack := rest } (.invokestatic index) mk argsL.toArray X₁ hg hsize hdg hW (X₁.named hnamed) (hpre vm₁ X₁.warmed)
  exact ⟨v, vm₁, B, X₁.warmed, X', hpost, fun target h => hstep₁ _ fun acts => by rw [doInvoke_state]; exact hsteps.trans h⟩
theorem vx_runSW {y : MethodName} {bytes cc : ByteArray} {maxL nL mc ms n index : Nat} {ret : Option FieldType} {hh : List (Nat × Nat × Nat × Nat)} {ws : List Cond} {rm : Room} {Pc : Array Value → State → Prop} {Qc : Array Value → State → Outcome → State → Prop} {free : Addr → Prop} {Ts : List Cond} {own : String} {As rest : List Value} {g : JFrame}
    (S : CallFix p m c cc nL s args Ts own) (hM : Met l y ws rm Pc Qc mc ms free) (cw : vx_CSW R s args own index y bytes maxL ret hh ws rm mc ms n) (hp : PreS s H Pc As)
    (hg : g.method = m) (hn : As.length = n) (hsize : g.locals.size = nL) (hstack : g.stack = As.reverse ++ rest) (hW : 2 * g.monitorRoom + (rest.map fun v => v.category).sum ≤ 8) (hdg : decode cc g.pc = .ok (.invokestatic index, 3)) (hf : cells + mc ≤ R.cells ∧ slots + ms ≤ R.slots) :
    va_Run p l e R s m args below meth c H locs cells slots mc ms g rest (Qc As.toArray) (free) := by
  obtain ⟨⟨hrc, hrs, hfr, hlo, hws, hcw⟩, hcode, hini, hy, hlen, hl, hstt⟩ := cw
  have hK : Back l R p e below s args y 3 8 (PreOf R mc ms Pc) (PostOf Qc mc ms free) := va_backW (hh := hh) (bytes := bytes) (maxL := maxL) (ret := ret) hM hp.1 hrc hrs hfr hlo hws hcw (fun a' U hW => word_at hW (Or.inl (by first | rfl | simp [Cond.onTables, Cond.keeps, Cond.steady])) hini)
  obtain ⟨hx, hb, hml, ho, -⟩ := S
  intro T hT X
  obtain ⟨v, vm₁, ⟨U', l2, c2, s2⟩, hW₁, X', ⟨g', mk, t, L, e1, e2, hq, h1, hL, h2, h3⟩, st⟩ := vx_callSW X hx (hh := hh) (bytes := bytes) (maxL := maxL) (ret := ret) ho hl hstt hini hcode hy hK hg (hsize.trans hml.symm) (argsL := As) (rest := rest) (fun sig h => hn.trans (hlen sig h)) hstack hW (by rw [hb]; exact hdg)
    (fun vm₁ hW₁ => ⟨hf.1, hf.2, hp.2 (T.setVm vm₁) hT hW₁⟩)
  dsimp only [Pt.U, Pt.locs, Pt.cells, Pt.slots] at X' e1 e2 h1 h2 h3 st
  subst h1; subst h2; subst h3
  exact ⟨v, (T.setVm vm₁).calling g' mk As.toArray, t, U', L, hT, X', hL, e1, e2, hq, st⟩
/-- not caught here, past rows that name other classes: it goes on to the caller -/
theorem vx_outP {p : Program} {l : Launch} {e : Env} {R : Room} {s : State} {m : MethodId} {args : Array Value} {below : List Frame} {meth : Method} {c : Code} {H : Heap} {locs : List Loc} {cells slots : Nat} {free : Addr → Prop} {ls : Array Slot} {rest : List Value} {Qc : Array Value → State → Outcome → State → Prop} {XC : String → State → State → Prop}
    {pc : Nat} {own E : String} {ce : Cell} {q : Addr} {mc ms : Nat} (hown : s.vm.findClass own = some m.cls) (hlocks : meth.locks = false)
    (hpass : ∀ z ∈ c.exceptionTable.toList, covers z pc = false ∨ (z.catchType ≠ 0 ∧ ∃ nm : String, (Cond.classLink own z.catchType nm).before args s = true ∧ va_Nc E nm s)) (hcell : H[q]? = some ce) (hv : ce.vm = .none) (hcl : s.vm.findClass E = some ce.cls)
    (hx : ∀ t : State, t.heap = H → s.vm.Alike t.vm → XC E s t) (hf : ∀ z ∈ locs, free z.base) (hc : cells ≤ mc) (hs : slots ≤ ms) :
    vx_W p l e R s m args below meth c H locs cells slots (vx_MQ below Qc XC args s mc ms free) (F0 m pc ls rest) q := by
  intro T hT X
  have hpl : e.platform.magicAccessors = ({} : Platform).magicAccessors := by rw [X.admits.platform]
  obtain ⟨vm', hW', X', st⟩ := X.outThrough hlocks q (g := F0 m pc ls rest) rfl rfl rfl (cell := ce) (by rw [hT]; exact hcell) (by rw [hv]; rfl)
    (by obtain ⟨k9, h9, -⟩ := Vm.findClass_spec hcl; exact ⟨k9, h9⟩) (fun z hz => by
      rcases hpass z hz with h | ⟨hz0, nm, hl1, hn1⟩
      · exact Or.inl h
      · obtain ⟨c6, hc6, hcl6⟩ := Cond.classLink_spec hown hl1 e.platform hpl
        obtain ⟨a8, b8, h1, h2, h3⟩ := hn1
        cases Option.some.inj (h1.symm.trans hcl)
        cases Option.some.inj (h2.symm.trans hc6)
        exact Or.inr ⟨hz0, _, hcl6, h3⟩)
  obtain ⟨g₀, hfr⟩ := X'.frames_eq
  have hcell9 : ((T.setVm vm').setFrames (.throwing q :: below)).heap[q]? = some ce := by
    show T.heap[q]? = some ce
    rw [hT]; exact hcell
  have hend : Ended ((T.setVm vm').setFrames (.throwing q :: below)) below (.threw q) := State.frames_setFrames _ (State.cur_lt_of_frames hfr)
  refine ⟨(T.setVm vm').setFrames (.throwing q :: below), ?_, .threw q, X'.here.running, hend, Or.inr ⟨q, rfl, E, ce, locs, hx _ hT (X'.ends _).1.alike, hcell9, hv, hcl, (X'.ends _).1, (X'.ends _).2.mono hc hs, hf⟩⟩
  rw [X.pushThrowing_eq]
  exact st
/-- a thing of a world lies in the heap -/
theorem vx_lt {D : va_G} {cl : List vw_C} {ws : va_W} {H1 : Heap} (h : va_P D cl ws H1) {k : Nat} {q : Nat × va_E} (hk : ws[k]? = some q) : q.1 < H1.size := (h k q hk).lt
end VXS
/-! ===== END ===== -/
/-! ===== BEGIN methods with a table of their own: called by a name, returning or throwing ===== -/
section VXH
/-! vx_backW, vx_callVX, vx_callSX, vx_callVW, vx_runVW, vx_runVX, vx_runSX, vx_ofWH follow the same proofs as their sisters above (Free/Laws.lean, Shelf42/LK1.lean); vx_outP calls Shelf42/NT130.lean (outThrough). -/
section
variable {l : Launch} {R : Room} {p : Program} {e : Env} {below : List Frame} {s : State} {sargs : Array Value} {y : MethodName} {len W9 : Nat}
theorem vx_backW {ws : List Cond} {rm : Room} {Pc : Array Value → State → Prop} {Qc : Array Value → State → Outcome → State → Prop} {XC : String → State → State → Prop} {mc ms : Nat} {free : Addr → Prop} {bytes : ByteArray} {maxL : Nat} {ret : Option FieldType} {hh : List (Nat × Nat × Nat × Nat)}
    (hM : vx_Met l y ws rm Pc Qc XC mc ms free) (hblind : FrameBlind Pc) (hrc : rm.cells = mc) (hrs : rm.slots = ms)
    (hframes : rm.frames + 1 ≤ R.frames) (hlocals : W9 + (maxL + 11) + rm.locals ≤ R.locals)
    (hws : ∀ w ∈ ws, ∀ a' U, s.WarmedH U.vm → w.before a' U = true) (hcode : Cond.codeWith y bytes maxL ret hh ∈ ws) (hinit : ∀ a' U, s.WarmedH U.vm → (Cond.initialized y.cls).before a' U = true) :
    vx_Back l R p e below s sargs y len W9 (PreOf R mc ms Pc) (PostOf Qc mc ms free) (vx_Post XC mc ms free) := by
  intro m meth c A g ig mk a X hg hsize hdg hW hn hp
  have h1 : (headSpec ws rm).pre.before a A.U = true := atoms_intro fun w hw => hws w hw _ _ X.warmed
  have h2 : (Cond.codeWith y bytes maxL ret hh).before a A.U = true := hws _ hcode _ _ X.warmed
  have h3 : (Cond.initialized y.cls).before a A.U = true := hinit _ _ X.warmed
  have h4 : A.cells + (headSpec ws rm).room.cells ≤ R.cells := by rw [show (headSpec ws rm).room.cells = mc from hrc]; exact hp.1
  have h5 : A.slots + (headSpec ws rm).room.slots ≤ R.slots := by rw [show (headSpec ws rm).room.slots = ms from hrs]; exact hp.2.1
  have hPc : Pc a (A.U.calling g mk a) := hblind _ _ _ _ hp.2.2
  obtain ⟨U, Ls, c0, s0⟩ := A
  dsimp only [Pt.U, Pt.locs, Pt.cells, Pt.slots] at h1 h2 h3 h4 h5 X hn hPc ⊢
  obtain ⟨m9, methY, cY, hn9, hmY, hcY, -, hlY, -⟩ := Cond.codeWith_spec h2
  cases Option.some.inj (hn9.symm.trans hn)
  obtain ⟨kY, hkY, -⟩ := className_of_methodNamed hn
  have hinitY : kY.init = .initialized := Cond.initialized_spec (findClass_of_methodNamed hn) hkY h3
  have h : At U g.method c below := by rw [hg]; exact X.here
  have hlocals9 : W9 + (maxL + 11) + (headSpec ws rm).room.locals ≤ R.locals := hlocals
  have happ : (headSpec ws rm).appliesLoose y e.platform (U.calling g mk a) = true :=
    Spec.appliesLoose_calling (g := g) h hdg hn hkY hinitY
      (X.room_calling (g := g) (R' := (headSpec ws rm).room) hsize hmY hcY hframes (by rw [hlY]; omega) h4 h5) h1
  obtain ⟨mid, hmid⟩ := h.above
  have hfr : (U.setTop g).frames = (.java g :: mid) ++ below := by rw [State.frames_setTop' g h.top, hmid]; rfl
  obtain ⟨o, s₂, hsteps, -, hend, hq⟩ := Steps.callFree hM p X.admits X.cas X.clock (acts := []) hfr happ hPc trivial
  have hq' : vx_Q Qc XC mc ms free a (U.calling g mk a) o s₂ := hq
  rw [State.frames_setTop' g h.top] at hend
  obtain ⟨g₀, hg0⟩ := Option.isSome_iff_exists.mp h.top
  obtain ⟨r, hr⟩ := State.topJava?_eq_some.mp hg0
  have hr' : (({ U with heap := s₂.heap, slotsUsed := s₂.slotsUsed } : State).setVm s₂.vm).frames = .java g₀ :: r := hr
  rcases hq' with ⟨hqc, L, hfe, hL⟩ | ⟨q, rfl, E, ce, L, hx, hce, hcv, hcl, hW₂, hsm, hL⟩
  · obtain ⟨⟨v, rfl⟩, hW₂, e2, q2, q3, q4, q5, q6⟩ := id hfe
    have e3 : s₂ = ({ (U.calling g mk a).setFrames s₂.frames with heap := s₂.heap, slotsUsed := s₂.slotsUsed } : State).setVm s₂.vm := by
      have : s₂ = ({ s₂ with vm := (U.calling g mk a).vm } : State).setVm s₂.vm := rfl
      rw [e2] at this
      exact this
    obtain ⟨c₂, i₂, len₂, hc₂, hd₂, hf₂⟩ := hend
    have hW' : U.WarmedH s₂.vm := hW₂
    have hcc : c₂ = c := by
      have h1 : s₂.code? g.method = U.code? g.method := by
        rw [State.code?_eq, State.code?_eq, hW'.alike.method?]
      exact Option.some.inj (hc₂.symm.trans (h1.trans h.code))
    subst hcc
    have hlen : len₂ = len := by rw [hdg] at hd₂; cases hd₂; rfl
    subst hlen
    have hs₂ : s₂ = (({ U with heap := s₂.heap, slotsUsed := s₂.slotsUsed } : State).setVm s₂.vm).setTop { g with pc := g.pc + len₂, stack := v.toList ++ g.stack } := by
      refine e3.trans ?_
      rw [hf₂, State.calling_eq h.top, State.setFrames_setFrames, State.setTop_of_frames _ hr', hr]
      rfl
    have hsame : U.sameButNew ({ U with heap := s₂.heap, slotsUsed := s₂.slotsUsed } : State) L mc ms := by
      refine ⟨?_, q2, q3, q4, q5, q6⟩
      obtain ⟨t, ht, -⟩ := State.frames_cons hr
      show ({ U with heap := s₂.heap, slotsUsed := s₂.slotsUsed } : State) = { U.setFrames U.frames with heap := s₂.heap, slotsUsed := s₂.slotsUsed }
      rw [State.setFrames_self ht]
    subst hg
    refine Or.inl ⟨v, ⟨(({ U with heap := s₂.heap, slotsUsed := s₂.slotsUsed } : State).setVm s₂.vm), Ls ++ L, c0 + mc, s0 + ms⟩,
      ⟨X.admits, X.cas, X.clock, X.frames, X.room, X.hears, X.method, X.code, (X.here.setHeapUsed s₂.heap s₂.slotsUsed).setVm hW'.alike, X.tail, State.WarmedH.trans X.warmed hW', X.limits, X.bytes, X.same.trans (hsame.setVm s.vm)⟩,
      ⟨g, mk, s₂, L, rfl, rfl, hqc, rfl, hL, rfl, rfl⟩, ?_⟩
    show Steps p.tables e below _ ((({ U with heap := s₂.heap, slotsUsed := s₂.slotsUsed } : State).setVm s₂.vm).setTop { g with pc := g.pc + len₂, stack := v.toList ++ g.stack })
    rw [← hs₂]
    exact hsteps
  · obtain ⟨e2, q2, q3, q4, q5, q6⟩ := id hsm
    have e3 : s₂ = ({ (U.calling g mk a).setFrames s₂.frames with heap := s₂.heap, slotsUsed := s₂.slotsUsed } : State).setVm s₂.vm := by
      have : s₂ = ({ s₂ with vm := (U.calling g mk a).vm } : State).setVm s₂.vm := rfl
      rw [e2] at this
      exact this
    have hf₂ : s₂.frames = .throwing q :: .java g :: U.frames.tail := hend
    have hW' : U.WarmedH s₂.vm := hW₂
    have hs₂ : s₂ = ((({ U with heap := s₂.heap, slotsUsed := s₂.slotsUsed } : State).setVm s₂.vm).setTop g).pushFrame (.throwing q) := by
      refine e3.trans ?_
      rw [hf₂, State.calling_eq h.top, State.setFrames_setFrames, State.pushFrame, State.frames_setTop _ hr', State.setTop_of_frames _ hr', State.setFrames_setFrames, hr]
      rfl
    have hsame : U.sameButNew ({ U with heap := s₂.heap, slotsUsed := s₂.slotsUsed } : State) L mc ms := by
      refine ⟨?_, q2, q3, q4, q5, q6⟩
      obtain ⟨t, ht, -⟩ := State.frames_cons hr
      show ({ U with heap := s₂.heap, slotsUsed := s₂.slotsUsed } : State) = { U.setFrames U.frames with heap := s₂.heap, slotsUsed := s₂.slotsUsed }
      rw [State.setFrames_self ht]
    subst hg
    refine Or.inr ⟨q, ⟨(({ U with heap := s₂.heap, slotsUsed := s₂.slotsUsed } : State).setVm s₂.vm), Ls ++ L, c0 + mc, s0 + ms⟩,
      ⟨X.admits, X.cas, X.clock, X.frames, X.room, X.hears, X.method, X.code, (X.here.setHeapUsed s₂.heap s₂.slotsUsed).setVm hW'.alike, X.tail, State.WarmedH.trans X.warmed hW', X.limits, X.bytes, X.same.trans (hsame.setVm s.vm)⟩,
      ⟨g, mk, s₂, L, E, ce, rfl, rfl, hx, hce, hcv, hcl, rfl, hL, rfl, rfl⟩, ?_⟩
    show Steps p.tables e below _ (((({ U with heap := s₂.heap, slotsUsed := s₂.slotsUsed } : State).setVm s₂.vm).setTop g).pushFrame (.throwing q))
    rw [← hs₂]
    exact hsteps
end
variable {p : Program} {l : Launch} {e : Env} {R : Room} {s : State} {m : MethodId} {args : Array Value} {below : List Frame} {meth : Method} {c : Code} {T : State} {H : Heap} {locs : List Loc} {cells slots : Nat}
theorem vx_callVX (X : Stand p l e R s m args below meth c T locs cells slots) (hexec : p.tables.exec = Jvm.exec) {own C : String} {index : Nat} {y : MethodName} {bytes : ByteArray} {maxL : Nat} {ret : Option FieldType} {hh : List (Nat × Nat × Nat × Nat)}
    (hown : s.vm.findClass own = some m.cls) (hlink : (Cond.methodLink own index y).before args s = true) (hinst : (Cond.instanceMethod y).before args s = true) (hsel : (Cond.selects C y y).before args s = true)
    (hcode : (Cond.codeWith y bytes maxL ret hh).before args s = true) (hy : y.cls ≠ "java/lang/invoke/MethodHandle" ∧ y.cls ≠ "java/lang/invoke/VarHandle")
    {W9 : Nat} {Pre : Pt → Array Value → Prop} {Post : Pt → Array Value → Option Value → Pt → Prop} {PostX : Pt → Array Value → Addr → Pt → Prop} (hK : vx_Back l R p e below s args y 3 W9 Pre Post PostX)
    {b : Addr} {cellB : Cell} (hcell : T.heap[b]? = some cellB) (hobj : cellB.vm.isStatics = false) (hcls : s.vm.findClass C = some cellB.cls)
    {g : JFrame} (hg : g.method = m) (hsize : g.locals.size = c.maxLocals) {argsL rest : List Value} (hlen : ∀ sig, parseMethodDescriptor y.desc = some sig → argsL.length = sig.parameters.length)
    (hstack : g.stack = argsL.reverse ++ .ref b :: rest) (hW : 2 * g.monitorRoom + (rest.map fun v => v.category).sum ≤ W9) (hdg : decode c.code g.pc = .ok (.invokevirtual index, 3))
    (hpre : ∀ vm₁, s.WarmedH vm₁ → Pre ⟨T.setVm vm₁, locs, cells, slots⟩ (Value.ref b :: argsL).toArray) :
    (∃ (v : Option Value) (vm₁ : Vm) (B : Pt), s.WarmedH vm₁ ∧ Stand p l e R s m args below meth c B.U B.locs B.cells B.slots ∧ Post ⟨T.setVm vm₁, locs, cells, slots⟩ (Value.ref b :: argsL).toArray v B ∧
      ∀ target, Steps p.tables e below (B.U.setTop { g with pc := g.pc + 3, stack := v.toList ++ rest }) target → Steps p.tables e below (T.setTop g) target) ∨
    (∃ (q : Addr) (vm₁ : Vm) (B : Pt), s.WarmedH vm₁ ∧ Stand p l e R s m args below meth c B.U B.locs B.cells B.slots ∧ PostX ⟨T.setVm vm₁, locs, cells, slots⟩ (Value.ref b :: argsL).toArray q B ∧
      Steps p.tables e below (T.setTop g) ((B.U.setTop { g with stack := rest }).pushFrame (.throwing q))) := by
  obtain ⟨mk, methM, hnamed, hmethM, hstM, habM⟩ := Cond.instanceMethod_spec hinst
  obtain ⟨m8, methM', cM, hn8, hmethM', -, -, -, -, -, -, hsigM⟩ := Cond.codeWith_spec hcode
  cases Option.some.inj (hn8.symm.trans hnamed)
  cases hmethM.symm.trans hmethM'
  obtain ⟨c2, r2, m2, q1, q2, q3, q4, kP, hkP, hkPi⟩ := Cond.selects_spec hsel
  cases hcls.symm.trans q1
  cases (State.methodFound?_of_named hnamed hy).symm.trans q2
  cases hnamed.symm.trans q3
  have hselP : selectMethod e.platform s.vm cellB.cls mk = .method mk := by rw [Launch.admits_selectMethod X.admits]; exact q4
  obtain ⟨vm₁, X₁, hstep₁⟩ := X.invokevirtual hexec hown hlink hnamed hmethM hstM hkP hkPi hy (a := b) (cell := cellB) hcell
    (fun z h => by rw [h] at hobj; cases hobj) hselP hmethM habM hkP hkPi (g := g) hg (argsL := argsL) (rest := rest) (hlen _ hsigM) hstack hdg
  rcases hK m meth c ⟨T.setVm vm₁, locs, cells, slots⟩ { g with stack := rest } (.invokevirtual index) mk (Value.ref b :: argsL).toArray X₁ hg hsize hdg hW (X₁.named hnamed) (hpre vm₁ X₁.warmed) with ⟨v, B, X', hpost, hsteps⟩ | ⟨q, B, X', hpost, hsteps⟩
  · exact Or.inl ⟨v, vm₁, B, X₁.warmed, X', hpost, fun target h => hstep₁ _ fun acts => by rw [doInvoke_state]; exact hsteps.trans h⟩
  · exact Or.inr ⟨q, vm₁, B, X₁.warmed, X', hpost, hstep₁ _ fun acts => by rw [doInvoke_state]; exact hsteps⟩
theorem vx_callSX (X : Stand p l e R s m args below meth c T locs cells slots) (hexec : p.tables.exec = Jvm.exec) {own : String} {index : Nat} {y : MethodName} {bytes : ByteArray} {maxL : Nat} {ret : Option FieldType} {hh : List (Nat × Nat × Nat × Nat)}
    (hown : s.vm.findClass own = some m.cls) (hlink : (Cond.methodLink own index y).before args s = true) (hstat : (Cond.static y).before args s = true) (hinit : (Cond.initialized y.cls).before args s = true)
    (hcode : (Cond.codeWith y bytes maxL ret hh).before args s = true) (hy : y.cls ≠ "java/lang/invoke/MethodHandle" ∧ y.cls ≠ "java/lang/invoke/VarHandle")
    {W9 : Nat} {Pre : Pt → Array Value → Prop} {Post : Pt → Array Value → Option Value → Pt → Prop} {PostX : Pt → Array Value → Addr → Pt → Prop} (hK : vx_Back l R p e below s args y 3 W9 Pre Post PostX)
    {g : JFrame} (hg : g.method = m) (hsize : g.locals.size = c.maxLocals) {argsL rest : List Value} (hlen : ∀ sig, parseMethodDescriptor y.desc = some sig → argsL.length = sig.parameters.length)
    (hstack : g.stack = argsL.reverse ++ rest) (hW : 2 * g.monitorRoom + (rest.map fun v => v.category).sum ≤ W9) (hdg : decode c.code g.pc = .ok (.invokestatic index, 3))
    (hpre : ∀ vm₁, s.WarmedH vm₁ → Pre ⟨T.setVm vm₁, locs, cells, slots⟩ argsL.toArray) :
    (∃ (v : Option Value) (vm₁ : Vm) (B : Pt), s.WarmedH vm₁ ∧ Stand p l e R s m args below meth c B.U B.locs B.cells B.slots ∧ Post ⟨T.setVm vm₁, locs, cells, slots⟩ argsL.toArray v B ∧
      ∀ target, Steps p.tables e below (B.U.setTop { g with pc := g.pc + 3, stack := v.toList ++ rest }) target → Steps p.tables e below (T.setTop g) target) ∨
    (∃ (q : Addr) (vm₁ : Vm) (B : Pt), s.WarmedH vm₁ ∧ Stand p l e R s m args below meth c B.U B.locs B.cells B.slots ∧ PostX ⟨T.setVm vm₁, locs, cells, slots⟩ argsL.toArray q B ∧
      Steps p.tables e below (T.setTop g) ((B.U.setTop { g with stack := rest }).pushFrame (.throwing q))) := by
  obtain ⟨mk, methM, cM, hnamed, hmethM, -, -, -, -, -, -, hsigM⟩ := Cond.codeWith_spec hcode
  have hstatic : methM.isStatic = true := Cond.static_spec hnamed hmethM hstat
  obtain ⟨kP, hkP, -⟩ := className_of_methodNamed hnamed
  have hinitP : kP.init = .initialized := Cond.initialized_spec (findClass_of_methodNamed hnamed) hkP hinit
  obtain ⟨vm₁, X₁, hstep₁⟩ := X.invokestatic hexec hown hlink hnamed hmethM hstatic hkP hinitP hy (g := g) hg (argsL := argsL) (rest := rest) (hlen _ hsigM) hstack hdg
  rcases hK m meth c ⟨T.setVm vm₁, locs, cells, slots⟩ { g with stack := rest } (.invokestatic index) mk argsL.toArray X₁ hg hsize hdg hW (X₁.named hnamed) (hpre vm₁ X₁.warmed) with ⟨v, B, X', hpost, hsteps⟩ | ⟨q, B, X', hpost, hsteps⟩
  · exact Or.inl ⟨v, vm₁, B, X₁.warmed, X', hpost, fun target h => hstep₁ _ fun acts => by rw [doInvoke_state]; exact hsteps.trans h⟩
  · exact Or.inr ⟨q, vm₁, B, X₁.warmed, X', hpost, hstep₁ _ fun acts => by rw [doInvoke_state]; exact hsteps⟩
theorem vx_callVW (X : Stand p l e R s m args below meth c T locs cells slots) (hexec : p.tables.exec = Jvm.exec) {own C : String} {index : Nat} {y : MethodName} {bytes : ByteArray} {maxL : Nat} {ret : Option FieldType} {hh : List (Nat × Nat × Nat × Nat)}
    (hown : s.vm.findClass own = some m.cls) (hlink : (Cond.methodLink own index y).before args s = true) (hinst : (Cond.instanceMethod y).before args s = true) (hsel : (Cond.selects C y y).before args s = true)
    (hcode : (Cond.codeWith y bytes maxL ret hh).before args s = true) (hy : y.cls ≠ "java/lang/invoke/MethodHandle" ∧ y.cls ≠ "java/lang/invoke/VarHandle")
    {W9 : Nat} {Pre : Pt → Array Value → Prop} {Post : Pt → Array Value → Option Value → Pt → Prop} (hK : Back l R p e below s args y 3 W9 Pre Post)
    {b : Addr} {cellB : Cell} (hcell : T.heap[b]? = some cellB) (hobj : cellB.vm.isStatics = false) (hcls : s.vm.findClass C = some cellB.cls)
    {g : JFrame} (hg : g.method = m) (hsize : g.locals.size = c.maxLocals) {argsL rest : List Value} (hlen : ∀ sig, parseMethodDescriptor y.desc = some sig → argsL.length = sig.parameters.length)
    (hstack : g.stack = argsL.reverse ++ .ref b :: rest) (hW : 2 * g.monitorRoom + (rest.map fun v => v.category).sum ≤ W9) (hdg : decode c.code g.pc = .ok (.invokevirtual index, 3))
    (hpre : ∀ vm₁, s.WarmedH vm₁ → Pre ⟨T.setVm vm₁, locs, cells, slots⟩ (Value.ref b :: argsL).toArray) :
    ∃ (v : Option Value) (vm₁ : Vm) (B : Pt), s.WarmedH vm₁ ∧ Stand p l e R s m args below meth c B.U B.locs B.cells B.slots ∧ Post ⟨T.setVm vm₁, locs, cells, slots⟩ (Value.ref b :: argsL).toArray v B ∧
      ∀ target, Steps p.tables e below (B.U.setTop { g with pc := g.pc + 3, stack := v.toList ++ rest }) target → Steps p.tables e below (T.setTop g) target := by
  obtain ⟨mk, methM, hnamed, hmethM, hstM, habM⟩ := Cond.instanceMethod_spec hinst
  obtain ⟨m8, methM', cM, hn8, hmethM', -, -, -, -, -, -, hsigM⟩ := Cond.codeWith_spec hcode
  cases Option.some.inj (hn8.symm.trans hnamed)
  cases hmethM.symm.trans hmethM'
  obtain ⟨c2, r2, m2, q1, q2, q3, q4, kP, hkP, hkPi⟩ := Cond.selects_spec hsel
  cases hcls.symm.trans q1
  cases (State.methodFound?_of_named hnamed hy).symm.trans q2
  cases hnamed.symm.trans q3
  have hselP : selectMethod e.platform s.vm cellB.cls mk = .method mk := by rw [Launch.admits_selectMethod X.admits]; exact q4
  obtain ⟨vm₁, X₁, hstep₁⟩ := X.invokevirtual hexec hown hlink hnamed hmethM hstM hkP hkPi hy (a := b) (cell := cellB) hcell
    (fun z h => by rw [h] at hobj; cases hobj) hselP hmethM habM hkP hkPi (g := g) hg (argsL := argsL) (rest := rest) (hlen _ hsigM) hstack hdg
  obtain ⟨v, B, X', hpost, hsteps⟩ := hK m meth c ⟨T.setVm vm₁, locs, cells, slots⟩ { g with stack := rest } (.invokevirtual index) mk (Value.ref b :: argsL).toArray X₁ hg hsize hdg hW (X₁.named hnamed) (hpre vm₁ X₁.warmed)
  exact ⟨v, vm₁, B, X₁.warmed, X', hpost, fun target h => hstep₁ _ fun acts => by rw [doInvoke_state]; exact hsteps.trans h⟩
abbrev vx_CVW (R : Room) (s : State) (args : Array Value) (own C : String) (index : Nat) (y : MethodName) (bytes : ByteArray) (maxL : Nat) (ret : Option FieldType) (hh : List (Nat × Nat × Nat × Nat)) (ws : List Cond) (rm : Room) (mc ms n : Nat) : Prop :=
  (rm.cells = mc ∧ rm.slots = ms ∧ rm.frames + 1 ≤ R.frames ∧ 8 + (maxL + 11) + rm.locals ≤ R.locals ∧ (∀ w ∈ ws, ∀ (a' : Array Value) (U : State), s.WarmedH U.vm → w.before a' U = true) ∧ Cond.codeWith y bytes maxL ret hh ∈ ws) ∧
  (Cond.codeWith y bytes maxL ret hh).before args s = true ∧ (Cond.initialized y.cls).before args s = true ∧ (y.cls ≠ "java/lang/invoke/MethodHandle" ∧ y.cls ≠ "java/lang/invoke/VarHandle") ∧
  (∀ sig, parseMethodDescriptor y.desc = some sig → n = sig.parameters.length) ∧ (Cond.methodLink own index y).before args s = true ∧ (Cond.instanceMethod y).before args s = true ∧ (Cond.selects C y y).before args s = true
theorem vx_cwVW {own C : String} {index maxL mc ms : Nat} {y : MethodName} {bytes : ByteArray} {ret : Option FieldType} {hh : List (Nat × Nat × Nat × Nat)} {Ts ws ws' : List Cond} {rm : Room} (n : Nat) (ht : ∀ w ∈ Ts, w.before args s = true) (hT : GoodIn Ts (wsV own index C y ws)) (hw : ws = Cond.codeWith y bytes maxL ret hh :: ws') (hrc : rm.cells = mc) (hrs : rm.slots = ms)
    (hd : y.cls = C ∧ y.cls ≠ "java/lang/invoke/MethodHandle" ∧ y.cls ≠ "java/lang/invoke/VarHandle" ∧ (parseMethodDescriptor y.desc).map (fun d => d.parameters.length) = some n) (hR : rm.frames + 1 ≤ R.frames ∧ 8 + (maxL + 11) + rm.locals ≤ R.locals) :
    vx_CVW R s args own C index y bytes maxL ret hh ws rm mc ms n := by
  obtain ⟨hC, hd⟩ := hd
  subst hC
  have ok : ∀ w ∈ wsV own index y.cls y ws, w.before args s = true := fun w h => ht w (hT w h).1
  have hG : GoodIn Ts ws := fun w h => hT w (by unfold wsV; exact List.mem_append_right _ h)
  have hc : Cond.codeWith y bytes maxL ret hh ∈ ws := by rw [hw]; exact List.mem_cons_self
  refine ⟨⟨hrc, hrs, hR.1, hR.2, pay_in ht hG, hc⟩, ht _ (hG _ hc).1, ok _ (by simp [wsV]), ⟨hd.1, hd.2.1⟩, fun sig h => ?_, ok _ (by simp [wsV]), ok _ (by simp [wsV]), ok _ (by simp [wsV])⟩
  have h2 := hd.2.2
  rw [h] at h2
  exact (Option.some.inj h2).symm
theorem vx_runVW {y : MethodName} {bytes cc : ByteArray} {maxL nL mc ms n index : Nat} {ret : Option FieldType} {hh : List (Nat × Nat × Nat × Nat)} {ws : List Cond} {rm : Room} {Pc : Array Value → State → Prop} {Qc : Array Value → State → Outcome → State → Prop} {free : Addr → Prop} {Ts : List Cond} {own C : String} {b : Addr} {As rest : List Value} {g : JFrame}
    (S : CallFix p m c cc nL s args Ts own) (hM : Met l y ws rm Pc Qc mc ms free) (cw : vx_CVW R s args own C index y bytes maxL ret hh ws rm mc ms n) (hp : PreV s H C b Pc As)
    (hg : g.method = m) (hn : As.length = n) (hsize : g.locals.size = nL) (hstack : g.stack = As.reverse ++ .ref b :: rest) (hW : 2 * g.monitorRoom + (rest.map fun v => v.category).sum ≤ 8) (hdg : decode cc g.pc = .ok (.invokevirtual index, 3)) (hf : cells + mc ≤ R.cells ∧ slots + ms ≤ R.slots) :
    va_Run p l e R s m args below meth c H locs cells slots mc ms g rest (Qc (Value.ref b :: As).toArray) free := by
  obtain ⟨⟨hrc, hrs, hfr, hlo, hws, hcw⟩, hcode, hini, hy, hlen, hl, hin, hse⟩ := cw
  have hK : Back l R p e below s args y 3 8 (PreOf R mc ms Pc) (PostOf Qc mc ms free) := va_backW (hh := hh) (bytes := bytes) (maxL := maxL) (ret := ret) hM hp.1 hrc hrs hfr hlo hws hcw (fun a' U hW => word_at hW (Or.inl (by first | rfl | simp [Cond.onTables, Cond.keeps, Cond.steady])) hini)
  obtain ⟨hx, hb, hml, ho, -⟩ := S
  obtain ⟨-, ⟨cellB, hcB, hoB, hclB⟩, hPc⟩ := hp
  intro T hT X
  obtain ⟨v, vm₁, ⟨U', l2, c2, s2⟩, hW₁, X', ⟨g', mk, t, L, e1, e2, hq, h1, hL, h2, h3⟩, st⟩ := vx_callVW X hx (C := C) (hh := hh) (bytes := bytes) (maxL := maxL) (ret := ret) ho hl hin hse hcode hy hK (by rw [hT]; exact hcB) hoB hclB hg (hsize.trans hml.symm) (argsL := As) (rest := rest) (fun sig h => hn.trans (hlen sig h)) hstack hW (by rw [hb]; exact hdg)
    (fun vm₁ hW₁ => ⟨hf.1, hf.2, hPc (T.setVm vm₁) hT hW₁⟩)
  dsimp only [Pt.U, Pt.locs, Pt.cells, Pt.slots] at X' e1 e2 h1 h2 h3 st
  subst h1; subst h2; subst h3
  exact ⟨v, (T.setVm vm₁).calling g' mk (Value.ref b :: As).toArray, t, U', L, hT, X', hL, e1, e2, hq, st⟩
section
variable {y : MethodName} {bytes cc : ByteArray} {maxL nL mc ms n index : Nat} {ret : Option FieldType} {ws : List Cond} {rm : Room} {Pc : Array Value → State → Prop} {Qc : Array Value → State → Outcome → State → Prop} {XC : String → State → State → Prop} {free : Addr → Prop} {Ts : List Cond} {own C : String} {b : Addr} {As rest : List Value} {g : JFrame}
theorem vx_runVX {hh : List (Nat × Nat × Nat × Nat)} (S : CallFix p m c cc nL s args Ts own) (hM : vx_Met l y ws rm Pc Qc XC mc ms free) (cw : vx_CVW R s args own C index y bytes maxL ret hh ws rm mc ms n) (hp : PreV s H C b Pc As)
    (hg : g.method = m) (hn : As.length = n) (hsize : g.locals.size = nL) (hstack : g.stack = As.reverse ++ .ref b :: rest) (hW : 2 * g.monitorRoom + (rest.map fun v => v.category).sum ≤ 8) (hdg : decode cc g.pc = .ok (.invokevirtual index, 3)) (hf : cells + mc ≤ R.cells ∧ slots + ms ≤ R.slots) :
    vx_Run p l e R s m args below meth c H locs cells slots mc ms g rest (Qc (Value.ref b :: As).toArray) XC free := by
  obtain ⟨⟨hrc, hrs, hfr, hlo, hws, hcw⟩, hcode, hini, hy, hlen, hl, hin, hse⟩ := cw
  have hK : vx_Back l R p e below s args y 3 8 (PreOf R mc ms Pc) (PostOf Qc mc ms free) (vx_Post XC mc ms free) := vx_backW (hh := hh) (bytes := bytes) (maxL := maxL) (ret := ret) hM hp.1 hrc hrs hfr hlo hws hcw (fun a' U hW => word_at hW (Or.inl (by first | rfl | simp [Cond.onTables, Cond.keeps, Cond.steady])) hini)
  obtain ⟨hx, hb, hml, ho, -⟩ := S
  obtain ⟨-, ⟨cellB, hcB, hoB, hclB⟩, hPc⟩ := hp
  intro T hT X
  rcases vx_callVX X hx (C := C) (hh := hh) (bytes := bytes) (maxL := maxL) (ret := ret) ho hl hin hse hcode hy hK (by rw [hT]; exact hcB) hoB hclB hg (hsize.trans hml.symm) (argsL := As) (rest := rest) (fun sig h => hn.trans (hlen sig h)) hstack hW (by rw [hb]; exact hdg)
    (fun vm₁ hW₁ => ⟨hf.1, hf.2, hPc (T.setVm vm₁) hT hW₁⟩) with ⟨v, vm₁, ⟨U', l2, c2, s2⟩, hW₁, X', ⟨g', mk, t, L, e1, e2, hq, h1, hL, h2, h3⟩, st⟩ | ⟨q, vm₁, ⟨U', l2, c2, s2⟩, hW₁, X', ⟨g', mk, t, L, E, ce, e1, e2, hq, hce, hcv, hcl, h1, hL, h2, h3⟩, st⟩
  · dsimp only [Pt.U, Pt.locs, Pt.cells, Pt.slots] at X' e1 e2 h1 h2 h3 st
    subst h1; subst h2; subst h3
    exact Or.inl ⟨v, (T.setVm vm₁).calling g' mk (Value.ref b :: As).toArray, t, U', L, hT, X', hL, e1, e2, hq, st⟩
  · dsimp only [Pt.U, Pt.locs, Pt.cells, Pt.slots] at X' e1 e2 h1 h2 h3 st hcl
    subst h1; subst h2; subst h3
    exact Or.inr ⟨q, (T.setVm vm₁).calling g' mk (Value.ref b :: As).toArray, t, U', L, E, ce, hT, X', hL, e1, e2, hq, hce, hcv, vx_cls hW₁ hcl, st⟩
theorem vx_runSX {hh : List (Nat × Nat × Nat × Nat)} (S : CallFix p m c cc nL s args Ts own) (hM : vx_Met l y ws rm Pc Qc XC mc ms free) (cw : vx_CSW R s args own index y bytes maxL ret hh ws rm mc ms n) (hp : PreS s H Pc As)
    (hg : g.method = m) (hn : As.length = n) (hsize : g.locals.size = nL) (hstack : g.stack = As.reverse ++ rest) (hW : 2 * g.monitorRoom + (rest.map fun v => v.category).sum ≤ 8) (hdg : decode cc g.pc = .ok (.invokestatic index, 3)) (hf : cells + mc ≤ R.cells ∧ slots + ms ≤ R.slots) :
    vx_Run p l e R s m args below meth c H locs cells slots mc ms g rest (Qc As.toArray) XC free := by
  obtain ⟨⟨hrc, hrs, hfr, hlo, hws, hcw⟩, hcode, hini, hy, hlen, hl, hstt⟩ := cw
  have hK : vx_Back l R p e below s args y 3 8 (PreOf R mc ms Pc) (PostOf Qc mc ms free) (vx_Post XC mc ms free) := vx_backW (hh := hh) (bytes := bytes) (maxL := maxL) (ret := ret) hM hp.1 hrc hrs hfr hlo hws hcw (fun a' U hW => word_at hW (Or.inl (by first | rfl | simp [Cond.onTables, Cond.keeps, Cond.steady])) hini)
  obtain ⟨hx, hb, hml, ho, -⟩ := S
  intro T hT X
  rcases vx_callSX X hx (hh := hh) (bytes := bytes) (maxL := maxL) (ret := ret) ho hl hstt hini hcode hy hK hg (hsize.trans hml.symm) (argsL := As) (rest := rest) (fun sig h => hn.trans (hlen sig h)) hstack hW (by rw [hb]; exact hdg)
    (fun vm₁ hW₁ => ⟨hf.1, hf.2, hp.2 (T.setVm vm₁) hT hW₁⟩) with ⟨v, vm₁, ⟨U', l2, c2, s2⟩, hW₁, X', ⟨g', mk, t, L, e1, e2, hq, h1, hL, h2, h3⟩, st⟩ | ⟨q, vm₁, ⟨U', l2, c2, s2⟩, hW₁, X', ⟨g', mk, t, L, E, ce, e1, e2, hq, hce, hcv, hcl, h1, hL, h2, h3⟩, st⟩
  · dsimp only [Pt.U, Pt.locs, Pt.cells, Pt.slots] at X' e1 e2 h1 h2 h3 st
    subst h1; subst h2; subst h3
    exact Or.inl ⟨v, (T.setVm vm₁).calling g' mk As.toArray, t, U', L, hT, X', hL, e1, e2, hq, st⟩
  · dsimp only [Pt.U, Pt.locs, Pt.cells, Pt.slots] at X' e1 e2 h1 h2 h3 st hcl
    subst h1; subst h2; subst h3
    exact Or.inr ⟨q, (T.setVm vm₁).calling g' mk As.toArray, t, U', L, E, ce, hT, X', hL, e1, e2, hq, hce, hcv, vx_cls hW₁ hcl, st⟩
end
end VXH
theorem vx_ofWH {l : Launch} {y : MethodName} {ws ws' : List Cond} {rm : Room} {Pc : Array Value → State → Prop} {Qc : Array Value → State → Outcome → State → Prop} {XC : String → State → State → Prop} {mc ms : Nat} {free : Addr → Prop} {cc : ByteArray} {maxL : Nat} {ret : Option FieldType} {hh : List (Nat × Nat × Nat × Nat)}
    (hy : plainName y.cls = true) (hw : ws = Cond.codeWith y cc maxL ret hh :: ws')
    (body : ∀ p e s m args below meth c s₁, BodyLoose p l y (headSpec ws rm) cc maxL ret e s m args below meth c s₁ → c.maxLocals = maxL → Pc args s →
      W p l e (headSpec ws rm).room s m args below meth c s.heap [] 0 0 (vx_MQ below Qc XC args s mc ms free) (entryFrame m args maxL)) : vx_Met l y ws rm Pc Qc XC mc ms free := by
  refine MetFree.of_bodyS (code := cc) (maxLocals := maxL) (ret := ret) hy ?_ ?_
  · intro args s m h hn
    obtain ⟨m9, meth, c, hn9, h1, h2, h3, h4, -, h5, h6, -⟩ := Cond.codeWith_spec (atoms_spec (ws := ws) h _ (by rw [hw]; exact List.mem_cons_self))
    cases hn.symm.trans hn9
    exact ⟨meth, c, h1, h2, h3, h4, h5, h6⟩
  · intro p e s m args below meth c s₁ B hml hP _
    have hh0 : s₁.heap = s.heap := by rw [B.state]; rfl
    obtain ⟨t, a1, o, b1, b2, b3⟩ := body p e s m args below meth c s₁ B hml hP s₁ hh0 (Stand.of_body B)
    exact ⟨t, o, a1, b1, b2, b3⟩
/-! ===== END ===== -/
end
section
/-! ===== BEGIN printed: names, fields, word lists, decode rows ===== -/
def RX0 : String := "UndoCellar$Block"
def TX0 : u_T := fun k => match k with
  | _ => ("UndoCellar$Block", "slots", "[LUndoCellar$Slot;", true)
def tyX0 : Nat → FieldType := fun k => match k with
  | _ => .array (.object "UndoCellar$Slot")
abbrev wsX00 : List Cond := u_ws RX0 TX0 1
theorem nmX0 : ∀ a, a < 1 → ∀ b, b < 1 → a ≠ b → (TX0 a).2.1 ≠ (TX0 b).2.1 := by decide +kernel
theorem tyX0_ok : ∀ k, k < 1 → parseFieldDescriptor (TX0 k).2.2.1 = some (tyX0 k) := by decide +kernel
abbrev cX0_init : ByteArray := prog_2_method_1_code
def yX0_init : MethodName := ⟨RX0, "<init>", "()V"⟩
abbrev cX0_slotFor : ByteArray := prog_2_method_2_code
def yX0_slotFor : MethodName := ⟨RX0, "slotFor", "(LUndoCellar$Transaction;)LUndoCellar$Slot;"⟩
abbrev cX0_markEnded : ByteArray := prog_2_method_3_code
def yX0_markEnded : MethodName := ⟨RX0, "markEnded", "()I"⟩
def RX1 : String := "UndoCellar$Change"
def TX1 : u_T := fun k => match k with
  | 0 => ("UndoCellar$Change", "transaction", "LUndoCellar$Transaction;", true)
  | 1 => ("UndoCellar$Change", "row", "LUndoCellar$Row;", true)
  | 2 => ("UndoCellar$Change", "ahead", "I", true)
  | _ => ("UndoCellar$Change", "isVoid", "Z", false)
def tyX1 : Nat → FieldType := fun k => match k with
  | 0 => .object "UndoCellar$Transaction"
  | 1 => .object "UndoCellar$Row"
  | 2 => .int
  | _ => .boolean
abbrev wsX10 : List Cond := u_ws RX1 TX1 4
theorem nmX1 : ∀ a, a < 4 → ∀ b, b < 4 → a ≠ b → (TX1 a).2.1 ≠ (TX1 b).2.1 := by decide +kernel
theorem tyX1_ok : ∀ k, k < 4 → parseFieldDescriptor (TX1 k).2.2.1 = some (tyX1 k) := by decide +kernel
abbrev cX1_init : ByteArray := prog_3_method_1_code
def yX1_init : MethodName := ⟨RX1, "<init>", "(LUndoCellar$Transaction;LUndoCellar$Row;I)V"⟩
abbrev cX1_stands : ByteArray := prog_3_method_2_code
def yX1_stands : MethodName := ⟨RX1, "stands", "(LUndoCellar$Row;)Z"⟩
abbrev cX1_isSeen : ByteArray := prog_3_method_3_code
def yX1_isSeen : MethodName := ⟨RX1, "isSeen", "(ILUndoCellar$Transaction;)Z"⟩
abbrev cX1_make : ByteArray := prog_3_method_4_code
def yX1_make : MethodName := ⟨RX1, "make", "(I)V"⟩
abbrev cX1_takeBack : ByteArray := prog_3_method_5_code
def yX1_takeBack : MethodName := ⟨RX1, "takeBack", "()V"⟩
def RX2 : String := "UndoCellar$Row"
def TX2 : u_T := fun k => match k with
  | 0 => ("UndoCellar$Row", "block", "LUndoCellar$Block;", true)
  | _ => ("UndoCellar$Row", "value", "I", false)
def tyX2 : Nat → FieldType := fun k => match k with
  | 0 => .object "UndoCellar$Block"
  | _ => .int
abbrev wsX20 : List Cond := u_ws RX2 TX2 2
theorem nmX2 : ∀ a, a < 2 → ∀ b, b < 2 → a ≠ b → (TX2 a).2.1 ≠ (TX2 b).2.1 := by decide +kernel
theorem tyX2_ok : ∀ k, k < 2 → parseFieldDescriptor (TX2 k).2.2.1 = some (tyX2 k) := by decide +kernel
abbrev cX2_init : ByteArray := prog_4_method_1_code
def yX2_init : MethodName := ⟨RX2, "<init>", "(LUndoCellar$Block;)V"⟩
def RX3 : String := "UndoCellar$Slot"
def TX3 : u_T := fun k => match k with
  | 0 => ("UndoCellar$Slot", "holder", "LUndoCellar$Transaction;", false)
  | _ => ("UndoCellar$Slot", "marked", "Z", false)
def tyX3 : Nat → FieldType := fun k => match k with
  | 0 => .object "UndoCellar$Transaction"
  | _ => .boolean
abbrev wsX30 : List Cond := u_ws RX3 TX3 2
theorem nmX3 : ∀ a, a < 2 → ∀ b, b < 2 → a ≠ b → (TX3 a).2.1 ≠ (TX3 b).2.1 := by decide +kernel
theorem tyX3_ok : ∀ k, k < 2 → parseFieldDescriptor (TX3 k).2.2.1 = some (tyX3 k) := by decide +kernel
abbrev cX3_init : ByteArray := prog_5_method_1_code
def yX3_init : MethodName := ⟨RX3, "<init>", "()V"⟩
abbrev cX3_isEnded : ByteArray := prog_5_method_2_code
def yX3_isEnded : MethodName := ⟨RX3, "isEnded", "()Z"⟩
abbrev cX3_give : ByteArray := prog_5_method_3_code
def yX3_give : MethodName := ⟨RX3, "give", "(LUndoCellar$Transaction;)V"⟩
def RX4 : String := "UndoCellar$Transaction"
def TX4 : u_T := fun k => match k with
  | 0 => ("UndoCellar$Transaction", "number", "I", true)
  | 1 => ("UndoCellar$Transaction", "beganAt", "I", true)
  | 2 => ("UndoCellar$Transaction", "active", "Z", false)
  | 3 => ("UndoCellar$Transaction", "committedAt", "I", false)
  | _ => ("UndoCellar$Transaction", "standing", "I", false)
def tyX4 : Nat → FieldType := fun k => match k with
  | 0 => .int
  | 1 => .int
  | 2 => .boolean
  | 3 => .int
  | _ => .int
abbrev wsX40 : List Cond := u_ws RX4 TX4 5
theorem nmX4 : ∀ a, a < 5 → ∀ b, b < 5 → a ≠ b → (TX4 a).2.1 ≠ (TX4 b).2.1 := by decide +kernel
theorem tyX4_ok : ∀ k, k < 5 → parseFieldDescriptor (TX4 k).2.2.1 = some (tyX4 k) := by decide +kernel
abbrev cX4_init : ByteArray := prog_6_method_1_code
def yX4_init : MethodName := ⟨RX4, "<init>", "(II)V"⟩
abbrev cX4_isCommittedBy : ByteArray := prog_6_method_2_code
def yX4_isCommittedBy : MethodName := ⟨RX4, "isCommittedBy", "(I)Z"⟩
def RX5 : String := "UndoCellar"
def TX5 : u_T := fun k => match k with
  | 0 => ("UndoCellar", "blocks", "[LUndoCellar$Block;", true)
  | 1 => ("UndoCellar", "rows", "[LUndoCellar$Row;", true)
  | 2 => ("UndoCellar", "begun", "Ljava/util/ArrayList;", true)
  | 3 => ("UndoCellar", "changes", "Ljava/util/ArrayList;", true)
  | 4 => ("UndoCellar", "space", "I", false)
  | 5 => ("UndoCellar", "momentOfNow", "I", false)
  | 6 => ("UndoCellar", "markedSoFar", "I", false)
  | _ => ("UndoCellar", "droppedSoFar", "I", false)
def tyX5 : Nat → FieldType := fun k => match k with
  | 0 => .array (.object "UndoCellar$Block")
  | 1 => .array (.object "UndoCellar$Row")
  | 2 => .object "java/util/ArrayList"
  | 3 => .object "java/util/ArrayList"
  | 4 => .int
  | 5 => .int
  | 6 => .int
  | _ => .int
abbrev wsX50 : List Cond := u_ws RX5 TX5 8
theorem nmX5 : ∀ a, a < 8 → ∀ b, b < 8 → a ≠ b → (TX5 a).2.1 ≠ (TX5 b).2.1 := by decide +kernel
theorem tyX5_ok : ∀ k, k < 8 → parseFieldDescriptor (TX5 k).2.2.1 = some (tyX5 k) := by decide +kernel
abbrev cX5_init : ByteArray := prog_1_method_1_code
def yX5_init : MethodName := ⟨RX5, "<init>", "()V"⟩
abbrev cX5_setSpace : ByteArray := prog_1_method_2_code
def yX5_setSpace : MethodName := ⟨RX5, "setSpace", "(I)I"⟩
abbrev cX5_begin : ByteArray := prog_1_method_3_code
def yX5_begin : MethodName := ⟨RX5, "begin", "()I"⟩
abbrev cX5_write : ByteArray := prog_1_method_4_code
def yX5_write : MethodName := ⟨RX5, "write", "(III)I"⟩
abbrev cX5_read : ByteArray := prog_1_method_5_code
def yX5_read : MethodName := ⟨RX5, "read", "(II)I"⟩
abbrev cX5_readAt : ByteArray := prog_1_method_6_code
def yX5_readAt : MethodName := ⟨RX5, "readAt", "(II)I"⟩
abbrev cX5_save : ByteArray := prog_1_method_7_code
def yX5_save : MethodName := ⟨RX5, "save", "(I)I"⟩
abbrev cX5_undoTo : ByteArray := prog_1_method_8_code
def yX5_undoTo : MethodName := ⟨RX5, "undoTo", "(II)I"⟩
abbrev cX5_undo : ByteArray := prog_1_method_9_code
def yX5_undo : MethodName := ⟨RX5, "undo", "(I)I"⟩
abbrev cX5_commit : ByteArray := prog_1_method_10_code
def yX5_commit : MethodName := ⟨RX5, "commit", "(I)I"⟩
abbrev cX5_moment : ByteArray := prog_1_method_11_code
def yX5_moment : MethodName := ⟨RX5, "moment", "()I"⟩
abbrev cX5_transactions : ByteArray := prog_1_method_12_code
def yX5_transactions : MethodName := ⟨RX5, "transactions", "()I"⟩
abbrev cX5_now : ByteArray := prog_1_method_13_code
def yX5_now : MethodName := ⟨RX5, "now", "(I)I"⟩
abbrev cX5_versionAt : ByteArray := prog_1_method_14_code
def yX5_versionAt : MethodName := ⟨RX5, "versionAt", "(II)I"⟩
abbrev cX5_lockOf : ByteArray := prog_1_method_15_code
def yX5_lockOf : MethodName := ⟨RX5, "lockOf", "(I)I"⟩
abbrev cX5_slotOf : ByteArray := prog_1_method_16_code
def yX5_slotOf : MethodName := ⟨RX5, "slotOf", "(II)I"⟩
abbrev cX5_isMarked : ByteArray := prog_1_method_17_code
def yX5_isMarked : MethodName := ⟨RX5, "isMarked", "(II)Z"⟩
abbrev cX5_marked : ByteArray := prog_1_method_18_code
def yX5_marked : MethodName := ⟨RX5, "marked", "()I"⟩
abbrev cX5_records : ByteArray := prog_1_method_19_code
def yX5_records : MethodName := ⟨RX5, "records", "()I"⟩
abbrev cX5_dropped : ByteArray := prog_1_method_20_code
def yX5_dropped : MethodName := ⟨RX5, "dropped", "()I"⟩
abbrev cX5_transactionNumbered : ByteArray := prog_1_method_21_code
def yX5_transactionNumbered : MethodName := ⟨RX5, "transactionNumbered", "(I)LUndoCellar$Transaction;"⟩
abbrev cX5_rowNumbered : ByteArray := prog_1_method_22_code
def yX5_rowNumbered : MethodName := ⟨RX5, "rowNumbered", "(I)LUndoCellar$Row;"⟩
abbrev cX5_slotNumbered : ByteArray := prog_1_method_23_code
def yX5_slotNumbered : MethodName := ⟨RX5, "slotNumbered", "(II)LUndoCellar$Slot;"⟩
abbrev cX5_refuseIfEnded : ByteArray := prog_1_method_24_code
def yX5_refuseIfEnded : MethodName := ⟨RX5, "refuseIfEnded", "(LUndoCellar$Transaction;)V"⟩
abbrev cX5_refuseIfNotYet : ByteArray := prog_1_method_25_code
def yX5_refuseIfNotYet : MethodName := ⟨RX5, "refuseIfNotYet", "(I)V"⟩
abbrev cX5_refuseIfLockedByAnother : ByteArray := prog_1_method_26_code
def yX5_refuseIfLockedByAnother : MethodName := ⟨RX5, "refuseIfLockedByAnother", "(LUndoCellar$Row;LUndoCellar$Transaction;)V"⟩
abbrev cX5_refuseIfNoSpace : ByteArray := prog_1_method_27_code
def yX5_refuseIfNoSpace : MethodName := ⟨RX5, "refuseIfNoSpace", "()V"⟩
abbrev cX5_recordsThere : ByteArray := prog_1_method_28_code
def yX5_recordsThere : MethodName := ⟨RX5, "recordsThere", "()I"⟩
abbrev cX5_isSpaceFull : ByteArray := prog_1_method_29_code
def yX5_isSpaceFull : MethodName := ⟨RX5, "isSpaceFull", "()Z"⟩
abbrev cX5_undoDownTo : ByteArray := prog_1_method_30_code
def yX5_undoDownTo : MethodName := ⟨RX5, "undoDownTo", "(LUndoCellar$Transaction;I)I"⟩
abbrev cX5_lockerOf : ByteArray := prog_1_method_31_code
def yX5_lockerOf : MethodName := ⟨RX5, "lockerOf", "(LUndoCellar$Row;)LUndoCellar$Transaction;"⟩
abbrev cX5_readFromRecords : ByteArray := prog_1_method_32_code
def yX5_readFromRecords : MethodName := ⟨RX5, "readFromRecords", "(LUndoCellar$Row;ILUndoCellar$Transaction;)I"⟩
abbrev cX5_oldestUnseen : ByteArray := prog_1_method_33_code
def yX5_oldestUnseen : MethodName := ⟨RX5, "oldestUnseen", "(LUndoCellar$Row;ILUndoCellar$Transaction;)I"⟩
abbrev cX5_valueAheadOf : ByteArray := prog_1_method_34_code
def yX5_valueAheadOf : MethodName := ⟨RX5, "valueAheadOf", "(ILUndoCellar$Row;)I"⟩
abbrev cX5_clean : ByteArray := prog_1_method_35_code
def yX5_clean : MethodName := ⟨RX5, "clean", "(LUndoCellar$Block;)V"⟩
def RX6 : String := "UndoCellarModel"
def TX6 : u_T := fun k => match k with
  | 0 => ("UndoCellarModel", "value", "[I", true)
  | 1 => ("UndoCellarModel", "size", "I", false)
  | 2 => ("UndoCellarModel", "moment", "I", false)
  | 3 => ("UndoCellarModel", "transactions", "I", false)
  | 4 => ("UndoCellarModel", "state", "[I", true)
  | 5 => ("UndoCellarModel", "asOf", "[I", true)
  | 6 => ("UndoCellarModel", "committedAt", "[I", true)
  | 7 => ("UndoCellarModel", "changes", "I", false)
  | 8 => ("UndoCellarModel", "by", "[I", true)
  | 9 => ("UndoCellarModel", "row", "[I", true)
  | 10 => ("UndoCellarModel", "ahead", "[I", true)
  | 11 => ("UndoCellarModel", "isVoid", "[Z", true)
  | 12 => ("UndoCellarModel", "dropped", "I", false)
  | 13 => ("UndoCellarModel", "slot", "[I", true)
  | 14 => ("UndoCellarModel", "isEnded", "[Z", true)
  | 15 => ("UndoCellarModel", "marks", "I", false)
  | 16 => ("UndoCellarModel", "isLate", "Z", false)
  | _ => ("UndoCellarModel", "thrown", "I", false)
def tyX6 : Nat → FieldType := fun k => match k with
  | 0 => .array .int
  | 1 => .int
  | 2 => .int
  | 3 => .int
  | 4 => .array .int
  | 5 => .array .int
  | 6 => .array .int
  | 7 => .int
  | 8 => .array .int
  | 9 => .array .int
  | 10 => .array .int
  | 11 => .array .boolean
  | 12 => .int
  | 13 => .array .int
  | 14 => .array .boolean
  | 15 => .int
  | 16 => .boolean
  | _ => .int
abbrev wsX60 : List Cond := u_ws RX6 TX6 18
theorem nmX6 : ∀ a, a < 18 → ∀ b, b < 18 → a ≠ b → (TX6 a).2.1 ≠ (TX6 b).2.1 := by decide +kernel
theorem tyX6_ok : ∀ k, k < 18 → parseFieldDescriptor (TX6 k).2.2.1 = some (tyX6 k) := by decide +kernel
abbrev cX6_init : ByteArray := prog_8_method_1_code
def yX6_init : MethodName := ⟨RX6, "<init>", "()V"⟩
abbrev cX6_thrown : ByteArray := prog_8_method_2_code
def yX6_thrown : MethodName := ⟨RX6, "thrown", "()I"⟩
abbrev cX6_can : ByteArray := prog_8_method_3_code
def yX6_can : MethodName := ⟨RX6, "can", "(I)Z"⟩
abbrev cX6_isIn : ByteArray := prog_8_method_4_code
def yX6_isIn : MethodName := ⟨RX6, "isIn", "(III)Z"⟩
abbrev cX6_isRow : ByteArray := prog_8_method_5_code
def yX6_isRow : MethodName := ⟨RX6, "isRow", "(I)Z"⟩
abbrev cX6_isTransaction : ByteArray := prog_8_method_6_code
def yX6_isTransaction : MethodName := ⟨RX6, "isTransaction", "(I)Z"⟩
abbrev cX6_isActive : ByteArray := prog_8_method_7_code
def yX6_isActive : MethodName := ⟨RX6, "isActive", "(I)Z"⟩
abbrev cX6_setSpace : ByteArray := prog_8_method_8_code
def yX6_setSpace : MethodName := ⟨RX6, "setSpace", "(I)I"⟩
abbrev cX6_begin : ByteArray := prog_8_method_9_code
def yX6_begin : MethodName := ⟨RX6, "begin", "()I"⟩
abbrev cX6_lockOn : ByteArray := prog_8_method_10_code
def yX6_lockOn : MethodName := ⟨RX6, "lockOn", "(I)I"⟩
abbrev cX6_cleans : ByteArray := prog_8_method_11_code
def yX6_cleans : MethodName := ⟨RX6, "cleans", "(I)V"⟩
abbrev cX6_slotFor : ByteArray := prog_8_method_12_code
def yX6_slotFor : MethodName := ⟨RX6, "slotFor", "(II)I"⟩
abbrev cX6_hasSpace : ByteArray := prog_8_method_13_code
def yX6_hasSpace : MethodName := ⟨RX6, "hasSpace", "()Z"⟩
abbrev cX6_write : ByteArray := prog_8_method_14_code
def yX6_write : MethodName := ⟨RX6, "write", "(III)I"⟩
abbrev cX6_valueAt : ByteArray := prog_8_method_15_code
def yX6_valueAt : MethodName := ⟨RX6, "valueAt", "(III)I"⟩
abbrev cX6_read : ByteArray := prog_8_method_16_code
def yX6_read : MethodName := ⟨RX6, "read", "(II)I"⟩
abbrev cX6_readAt : ByteArray := prog_8_method_17_code
def yX6_readAt : MethodName := ⟨RX6, "readAt", "(II)I"⟩
abbrev cX6_standing : ByteArray := prog_8_method_18_code
def yX6_standing : MethodName := ⟨RX6, "standing", "(I)I"⟩
abbrev cX6_isOpen : ByteArray := prog_8_method_19_code
def yX6_isOpen : MethodName := ⟨RX6, "isOpen", "(I)Z"⟩
abbrev cX6_save : ByteArray := prog_8_method_20_code
def yX6_save : MethodName := ⟨RX6, "save", "(I)I"⟩
abbrev cX6_undoes : ByteArray := prog_8_method_21_code
def yX6_undoes : MethodName := ⟨RX6, "undoes", "(II)V"⟩
abbrev cX6_undoTo : ByteArray := prog_8_method_22_code
def yX6_undoTo : MethodName := ⟨RX6, "undoTo", "(II)I"⟩
abbrev cX6_undo : ByteArray := prog_8_method_23_code
def yX6_undo : MethodName := ⟨RX6, "undo", "(I)I"⟩
abbrev cX6_commit : ByteArray := prog_8_method_24_code
def yX6_commit : MethodName := ⟨RX6, "commit", "(I)I"⟩
abbrev cX6_moment : ByteArray := prog_8_method_25_code
def yX6_moment : MethodName := ⟨RX6, "moment", "()I"⟩
abbrev cX6_transactions : ByteArray := prog_8_method_26_code
def yX6_transactions : MethodName := ⟨RX6, "transactions", "()I"⟩
abbrev cX6_now : ByteArray := prog_8_method_27_code
def yX6_now : MethodName := ⟨RX6, "now", "(I)I"⟩
abbrev cX6_versionAt : ByteArray := prog_8_method_28_code
def yX6_versionAt : MethodName := ⟨RX6, "versionAt", "(II)I"⟩
abbrev cX6_lockOf : ByteArray := prog_8_method_29_code
def yX6_lockOf : MethodName := ⟨RX6, "lockOf", "(I)I"⟩
abbrev cX6_isSlot : ByteArray := prog_8_method_30_code
def yX6_isSlot : MethodName := ⟨RX6, "isSlot", "(II)Z"⟩
abbrev cX6_slotOf : ByteArray := prog_8_method_31_code
def yX6_slotOf : MethodName := ⟨RX6, "slotOf", "(II)I"⟩
abbrev cX6_isMarked : ByteArray := prog_8_method_32_code
def yX6_isMarked : MethodName := ⟨RX6, "isMarked", "(II)Z"⟩
abbrev cX6_marked : ByteArray := prog_8_method_33_code
def yX6_marked : MethodName := ⟨RX6, "marked", "()I"⟩
abbrev cX6_records : ByteArray := prog_8_method_34_code
def yX6_records : MethodName := ⟨RX6, "records", "()I"⟩
abbrev cX6_dropped : ByteArray := prog_8_method_35_code
def yX6_dropped : MethodName := ⟨RX6, "dropped", "()I"⟩
def RJx145de : String := "java/io/Serializable"
def TJx145de : u_T := fun k => match k with
  | _ => ("", "", "", false)
def tyJx145de : Nat → FieldType := fun k => match k with
  | _ => .int
abbrev wsJx145de0 : List Cond := u_ws RJx145de TJx145de 0
theorem nmJx145de : ∀ a, a < 0 → ∀ b, b < 0 → a ≠ b → (TJx145de a).2.1 ≠ (TJx145de b).2.1 := by decide +kernel
theorem tyJx145de_ok : ∀ k, k < 0 → parseFieldDescriptor (TJx145de k).2.2.1 = some (tyJx145de k) := by decide +kernel
def RJx8e188 : String := "java/lang/Cloneable"
def TJx8e188 : u_T := fun k => match k with
  | _ => ("", "", "", false)
def tyJx8e188 : Nat → FieldType := fun k => match k with
  | _ => .int
abbrev wsJx8e1880 : List Cond := u_ws RJx8e188 TJx8e188 0
theorem nmJx8e188 : ∀ a, a < 0 → ∀ b, b < 0 → a ≠ b → (TJx8e188 a).2.1 ≠ (TJx8e188 b).2.1 := by decide +kernel
theorem tyJx8e188_ok : ∀ k, k < 0 → parseFieldDescriptor (TJx8e188 k).2.2.1 = some (tyJx8e188 k) := by decide +kernel
def RJxab1ab : String := "java/lang/Iterable"
def TJxab1ab : u_T := fun k => match k with
  | _ => ("", "", "", false)
def tyJxab1ab : Nat → FieldType := fun k => match k with
  | _ => .int
abbrev wsJxab1ab0 : List Cond := u_ws RJxab1ab TJxab1ab 0
theorem nmJxab1ab : ∀ a, a < 0 → ∀ b, b < 0 → a ≠ b → (TJxab1ab a).2.1 ≠ (TJxab1ab b).2.1 := by decide +kernel
theorem tyJxab1ab_ok : ∀ k, k < 0 → parseFieldDescriptor (TJxab1ab k).2.2.1 = some (tyJxab1ab k) := by decide +kernel
def RJ9 : String := "java/lang/Math"
def TJ9 : u_T := fun k => match k with
  | _ => ("", "", "", false)
def tyJ9 : Nat → FieldType := fun k => match k with
  | _ => .int
abbrev wsJ90 : List Cond := u_ws RJ9 TJ9 0
theorem nmJ9 : ∀ a, a < 0 → ∀ b, b < 0 → a ≠ b → (TJ9 a).2.1 ≠ (TJ9 b).2.1 := by decide +kernel
theorem tyJ9_ok : ∀ k, k < 0 → parseFieldDescriptor (TJ9 k).2.2.1 = some (tyJ9 k) := by decide +kernel
abbrev cJ9_max_7cf53 : ByteArray := prog_16_method_65_code
def yJ9_max_7cf53 : MethodName := ⟨RJ9, "max", "(II)I"⟩
abbrev cJ9_min_7cf53 : ByteArray := prog_16_method_69_code
def yJ9_min_7cf53 : MethodName := ⟨RJ9, "min", "(II)I"⟩
def RJ0 : String := "java/lang/String"
def TJ0 : u_T := fun k => match k with
  | _ => ("", "", "", false)
def tyJ0 : Nat → FieldType := fun k => match k with
  | _ => .int
abbrev wsJ00 : List Cond := u_ws RJ0 TJ0 0
theorem nmJ0 : ∀ a, a < 0 → ∀ b, b < 0 → a ≠ b → (TJ0 a).2.1 ≠ (TJ0 b).2.1 := by decide +kernel
theorem tyJ0_ok : ∀ k, k < 0 → parseFieldDescriptor (TJ0 k).2.2.1 = some (tyJ0 k) := by decide +kernel
def RJ10 : String := "java/lang/System"
def TJ10 : u_T := fun k => match k with
  | _ => ("", "", "", false)
def tyJ10 : Nat → FieldType := fun k => match k with
  | _ => .int
abbrev wsJ100 : List Cond := u_ws RJ10 TJ10 0
theorem nmJ10 : ∀ a, a < 0 → ∀ b, b < 0 → a ≠ b → (TJ10 a).2.1 ≠ (TJ10 b).2.1 := by decide +kernel
theorem tyJ10_ok : ∀ k, k < 0 → parseFieldDescriptor (TJ10 k).2.2.1 = some (tyJ10 k) := by decide +kernel
def RJxa1e45 : String := "java/util/AbstractCollection"
def TJxa1e45 : u_T := fun k => match k with
  | _ => ("", "", "", false)
def tyJxa1e45 : Nat → FieldType := fun k => match k with
  | _ => .int
abbrev wsJxa1e450 : List Cond := u_ws RJxa1e45 TJxa1e45 0
theorem nmJxa1e45 : ∀ a, a < 0 → ∀ b, b < 0 → a ≠ b → (TJxa1e45 a).2.1 ≠ (TJxa1e45 b).2.1 := by decide +kernel
theorem tyJxa1e45_ok : ∀ k, k < 0 → parseFieldDescriptor (TJxa1e45 k).2.2.1 = some (tyJxa1e45 k) := by decide +kernel
abbrev cJxa1e45_init_da8c8 : ByteArray := prog_21_method_1_code
def yJxa1e45_init_da8c8 : MethodName := ⟨RJxa1e45, "<init>", "()V"⟩
def RJxc12de : String := "java/util/AbstractList"
def TJxc12de : u_T := fun k => match k with
  | _ => ("", "", "", false)
def tyJxc12de : Nat → FieldType := fun k => match k with
  | _ => .int
abbrev wsJxc12de0 : List Cond := u_ws RJxc12de TJxc12de 0
theorem nmJxc12de : ∀ a, a < 0 → ∀ b, b < 0 → a ≠ b → (TJxc12de a).2.1 ≠ (TJxc12de b).2.1 := by decide +kernel
theorem tyJxc12de_ok : ∀ k, k < 0 → parseFieldDescriptor (TJxc12de k).2.2.1 = some (tyJxc12de k) := by decide +kernel
abbrev cJxc12de_init_da8c8 : ByteArray := prog_22_method_1_code
def yJxc12de_init_da8c8 : MethodName := ⟨RJxc12de, "<init>", "()V"⟩
def RJx4a65c : String := "java/util/ArrayList"
def TJx4a65c : u_T := fun k => match k with
  | 0 => ("java/util/AbstractList", "modCount", "I", false)
  | 1 => ("java/util/ArrayList", "elementData", "[Ljava/lang/Object;", false)
  | _ => ("java/util/ArrayList", "size", "I", false)
def tyJx4a65c : Nat → FieldType := fun k => match k with
  | 0 => .int
  | 1 => .array (.object "java/lang/Object")
  | _ => .int
abbrev wsJx4a65c0 : List Cond := u_ws RJx4a65c TJx4a65c 3
theorem nmJx4a65c : ∀ a, a < 3 → ∀ b, b < 3 → a ≠ b → (TJx4a65c a).2.1 ≠ (TJx4a65c b).2.1 := by decide +kernel
theorem tyJx4a65c_ok : ∀ k, k < 3 → parseFieldDescriptor (TJx4a65c k).2.2.1 = some (tyJx4a65c k) := by decide +kernel
abbrev cJx4a65c_init_da8c8 : ByteArray := prog_23_method_2_code
def yJx4a65c_init_da8c8 : MethodName := ⟨RJx4a65c, "<init>", "()V"⟩
abbrev cJx4a65c_grow_92f84 : ByteArray := prog_23_method_6_code
def yJx4a65c_grow_92f84 : MethodName := ⟨RJx4a65c, "grow", "(I)[Ljava/lang/Object;"⟩
abbrev cJx4a65c_grow_d5877 : ByteArray := prog_23_method_7_code
def yJx4a65c_grow_d5877 : MethodName := ⟨RJx4a65c, "grow", "()[Ljava/lang/Object;"⟩
abbrev cJx4a65c_size_8abf5 : ByteArray := prog_23_method_8_code
def yJx4a65c_size_8abf5 : MethodName := ⟨RJx4a65c, "size", "()I"⟩
abbrev cJx4a65c_elementData_915e3 : ByteArray := prog_23_method_18_code
def yJx4a65c_elementData_915e3 : MethodName := ⟨RJx4a65c, "elementData", "(I)Ljava/lang/Object;"⟩
abbrev cJx4a65c_get_915e3 : ByteArray := prog_23_method_20_code
def yJx4a65c_get_915e3 : MethodName := ⟨RJx4a65c, "get", "(I)Ljava/lang/Object;"⟩
abbrev cJx4a65c_add_72be8 : ByteArray := prog_23_method_24_code
def yJx4a65c_add_72be8 : MethodName := ⟨RJx4a65c, "add", "(Ljava/lang/Object;[Ljava/lang/Object;I)V"⟩
abbrev cJx4a65c_add_9ea2d : ByteArray := prog_23_method_25_code
def yJx4a65c_add_9ea2d : MethodName := ⟨RJx4a65c, "add", "(Ljava/lang/Object;)Z"⟩
def RJ7 : String := "java/util/Arrays"
def TJ7 : u_T := fun k => match k with
  | _ => ("", "", "", false)
def tyJ7 : Nat → FieldType := fun k => match k with
  | _ => .int
abbrev wsJ70 : List Cond := u_ws RJ7 TJ7 0
theorem nmJ7 : ∀ a, a < 0 → ∀ b, b < 0 → a ≠ b → (TJ7 a).2.1 ≠ (TJ7 b).2.1 := by decide +kernel
theorem tyJ7_ok : ∀ k, k < 0 → parseFieldDescriptor (TJ7 k).2.2.1 = some (tyJ7 k) := by decide +kernel
abbrev cJ7_copyOf_1904c : ByteArray := prog_24_method_119_code
def yJ7_copyOf_1904c : MethodName := ⟨RJ7, "copyOf", "([Ljava/lang/Object;I)[Ljava/lang/Object;"⟩
abbrev cJ7_copyOf_6403c : ByteArray := prog_24_method_120_code
def yJ7_copyOf_6403c : MethodName := ⟨RJ7, "copyOf", "([Ljava/lang/Object;ILjava/lang/Class;)[Ljava/lang/Object;"⟩
def RJx5ef63 : String := "java/util/Collection"
def TJx5ef63 : u_T := fun k => match k with
  | _ => ("", "", "", false)
def tyJx5ef63 : Nat → FieldType := fun k => match k with
  | _ => .int
abbrev wsJx5ef630 : List Cond := u_ws RJx5ef63 TJx5ef63 0
theorem nmJx5ef63 : ∀ a, a < 0 → ∀ b, b < 0 → a ≠ b → (TJx5ef63 a).2.1 ≠ (TJx5ef63 b).2.1 := by decide +kernel
theorem tyJx5ef63_ok : ∀ k, k < 0 → parseFieldDescriptor (TJx5ef63 k).2.2.1 = some (tyJx5ef63 k) := by decide +kernel
def RJxbd725 : String := "java/util/List"
def TJxbd725 : u_T := fun k => match k with
  | _ => ("", "", "", false)
def tyJxbd725 : Nat → FieldType := fun k => match k with
  | _ => .int
abbrev wsJxbd7250 : List Cond := u_ws RJxbd725 TJxbd725 0
theorem nmJxbd725 : ∀ a, a < 0 → ∀ b, b < 0 → a ≠ b → (TJxbd725 a).2.1 ≠ (TJxbd725 b).2.1 := by decide +kernel
theorem tyJxbd725_ok : ∀ k, k < 0 → parseFieldDescriptor (TJxbd725 k).2.2.1 = some (tyJxbd725 k) := by decide +kernel
def RJ15 : String := "java/util/Objects"
def TJ15 : u_T := fun k => match k with
  | _ => ("", "", "", false)
def tyJ15 : Nat → FieldType := fun k => match k with
  | _ => .int
abbrev wsJ150 : List Cond := u_ws RJ15 TJ15 0
theorem nmJ15 : ∀ a, a < 0 → ∀ b, b < 0 → a ≠ b → (TJ15 a).2.1 ≠ (TJ15 b).2.1 := by decide +kernel
theorem tyJ15_ok : ∀ k, k < 0 → parseFieldDescriptor (TJ15 k).2.2.1 = some (tyJ15 k) := by decide +kernel
abbrev cJ15_checkIndex_7cf53 : ByteArray := prog_28_method_17_code
def yJ15_checkIndex_7cf53 : MethodName := ⟨RJ15, "checkIndex", "(II)I"⟩
def RJxf0a74 : String := "java/util/RandomAccess"
def TJxf0a74 : u_T := fun k => match k with
  | _ => ("", "", "", false)
def tyJxf0a74 : Nat → FieldType := fun k => match k with
  | _ => .int
abbrev wsJxf0a740 : List Cond := u_ws RJxf0a74 TJxf0a74 0
theorem nmJxf0a74 : ∀ a, a < 0 → ∀ b, b < 0 → a ≠ b → (TJxf0a74 a).2.1 ≠ (TJxf0a74 b).2.1 := by decide +kernel
theorem tyJxf0a74_ok : ∀ k, k < 0 → parseFieldDescriptor (TJxf0a74 k).2.2.1 = some (tyJxf0a74 k) := by decide +kernel
def RJxa66e6 : String := "java/util/SequencedCollection"
def TJxa66e6 : u_T := fun k => match k with
  | _ => ("", "", "", false)
def tyJxa66e6 : Nat → FieldType := fun k => match k with
  | _ => .int
abbrev wsJxa66e60 : List Cond := u_ws RJxa66e6 TJxa66e6 0
theorem nmJxa66e6 : ∀ a, a < 0 → ∀ b, b < 0 → a ≠ b → (TJxa66e6 a).2.1 ≠ (TJxa66e6 b).2.1 := by decide +kernel
theorem tyJxa66e6_ok : ∀ k, k < 0 → parseFieldDescriptor (TJxa66e6 k).2.2.1 = some (tyJxa66e6 k) := by decide +kernel
def RJ8 : String := "jdk/internal/util/ArraysSupport"
def TJ8 : u_T := fun k => match k with
  | _ => ("", "", "", false)
def tyJ8 : Nat → FieldType := fun k => match k with
  | _ => .int
abbrev wsJ80 : List Cond := u_ws RJ8 TJ8 0
theorem nmJ8 : ∀ a, a < 0 → ∀ b, b < 0 → a ≠ b → (TJ8 a).2.1 ≠ (TJ8 b).2.1 := by decide +kernel
theorem tyJ8_ok : ∀ k, k < 0 → parseFieldDescriptor (TJ8 k).2.2.1 = some (tyJ8 k) := by decide +kernel
abbrev cJ8_newLength_cabcc : ByteArray := prog_31_method_27_code
def yJ8_newLength_cabcc : MethodName := ⟨RJ8, "newLength", "(III)I"⟩
abbrev cJ8_hugeLength_7cf53 : ByteArray := prog_31_method_28_code
def yJ8_hugeLength_7cf53 : MethodName := ⟨RJ8, "hugeLength", "(II)I"⟩
def RJ3 : String := "jdk/internal/util/Preconditions"
def TJ3 : u_T := fun k => match k with
  | _ => ("", "", "", false)
def tyJ3 : Nat → FieldType := fun k => match k with
  | _ => .int
abbrev wsJ30 : List Cond := u_ws RJ3 TJ3 0
theorem nmJ3 : ∀ a, a < 0 → ∀ b, b < 0 → a ≠ b → (TJ3 a).2.1 ≠ (TJ3 b).2.1 := by decide +kernel
theorem tyJ3_ok : ∀ k, k < 0 → parseFieldDescriptor (TJ3 k).2.2.1 = some (tyJ3 k) := by decide +kernel
abbrev cJ3_checkIndex_8e157 : ByteArray := prog_32_method_11_code
def yJ3_checkIndex_8e157 : MethodName := ⟨RJ3, "checkIndex", "(IILjava/util/function/BiFunction;)I"⟩
def RL : String := "UndoCellarLaw"
abbrev cL_setSpace : ByteArray := method_3_code
def yL_setSpace : MethodName := ⟨RL, "setSpace", "(LUndoCellar;I[J)I"⟩
abbrev cL_begin : ByteArray := method_4_code
def yL_begin : MethodName := ⟨RL, "begin", "(LUndoCellar;[J)I"⟩
abbrev cL_write : ByteArray := method_5_code
def yL_write : MethodName := ⟨RL, "write", "(LUndoCellar;III[J)I"⟩
abbrev cL_read : ByteArray := method_6_code
def yL_read : MethodName := ⟨RL, "read", "(LUndoCellar;II[J)I"⟩
abbrev cL_readAt : ByteArray := method_7_code
def yL_readAt : MethodName := ⟨RL, "readAt", "(LUndoCellar;II[J)I"⟩
abbrev cL_save : ByteArray := method_8_code
def yL_save : MethodName := ⟨RL, "save", "(LUndoCellar;I[J)I"⟩
abbrev cL_undoTo : ByteArray := method_9_code
def yL_undoTo : MethodName := ⟨RL, "undoTo", "(LUndoCellar;II[J)I"⟩
abbrev cL_undo : ByteArray := method_10_code
def yL_undo : MethodName := ⟨RL, "undo", "(LUndoCellar;I[J)I"⟩
abbrev cL_commit : ByteArray := method_11_code
def yL_commit : MethodName := ⟨RL, "commit", "(LUndoCellar;I[J)I"⟩
abbrev cL_now : ByteArray := method_12_code
def yL_now : MethodName := ⟨RL, "now", "(LUndoCellar;I[J)I"⟩
abbrev cL_versionAt : ByteArray := method_13_code
def yL_versionAt : MethodName := ⟨RL, "versionAt", "(LUndoCellar;II[J)I"⟩
abbrev cL_lockOf : ByteArray := method_14_code
def yL_lockOf : MethodName := ⟨RL, "lockOf", "(LUndoCellar;I[J)I"⟩
abbrev cL_slotOf : ByteArray := method_15_code
def yL_slotOf : MethodName := ⟨RL, "slotOf", "(LUndoCellar;II[J)I"⟩
abbrev cL_isMarked : ByteArray := method_16_code
def yL_isMarked : MethodName := ⟨RL, "isMarked", "(LUndoCellar;II[J)I"⟩
abbrev cL_law : ByteArray := code
def yL_law : MethodName := ⟨RL, "law", "([I)Z"⟩
def wsX3_init : List Cond := .code yX3_init cX3_init 1 none :: ([.methodLink RX3 1 objectInit, .instanceMethod objectInit, .code objectInit ⟨#[0xb1]⟩ 1 none, .fieldLink RX3 7 "UndoCellar$Slot" "holder" "LUndoCellar$Transaction;", .fieldLink RX3 13 "UndoCellar$Slot" "marked" "Z"] ++ wsX30)
def wsX0_init : List Cond := .code yX0_init cX0_init 2 none :: ([.methodLink RX0 3 objectInit, .instanceMethod objectInit, .code objectInit ⟨#[0xb1]⟩ 1 none, .classLink RX0 9 RX3, .fieldLink RX0 11 "UndoCellar$Block" "slots" "[LUndoCellar$Slot;", .instantiable RX3 2, .initialized RX3, .instanceMethod yX3_init, .code yX3_init cX3_init 1 none, .methodLink RX3 1 objectInit, .fieldLink RX3 7 "UndoCellar$Slot" "holder" "LUndoCellar$Transaction;", .fieldLink RX3 13 "UndoCellar$Slot" "marked" "Z"] ++ wsX00 ++ wsX30)
def wsX3_isEnded : List Cond := .code yX3_isEnded cX3_isEnded 1 (some .boolean) :: ([.fieldLink RX3 7 "UndoCellar$Slot" "holder" "LUndoCellar$Transaction;"] ++ wsX30 ++ wsX40)
def wsX0_slotFor : List Cond := .code yX0_slotFor cX0_slotFor 6 (some (.object "UndoCellar$Slot")) :: ([.fieldLink RX0 11 "UndoCellar$Block" "slots" "[LUndoCellar$Slot;", .instanceMethod yX3_isEnded, .initialized RX3, .selects RX3 yX3_isEnded yX3_isEnded, .code yX3_isEnded cX3_isEnded 1 (some .boolean), .fieldLink RX3 7 "UndoCellar$Slot" "holder" "LUndoCellar$Transaction;"] ++ wsX00 ++ wsX30 ++ wsX40)
def wsX0_markEnded : List Cond := .code yX0_markEnded cX0_markEnded 6 (some .int) :: ([.fieldLink RX0 11 "UndoCellar$Block" "slots" "[LUndoCellar$Slot;", .instanceMethod yX3_isEnded, .initialized RX3, .selects RX3 yX3_isEnded yX3_isEnded, .code yX3_isEnded cX3_isEnded 1 (some .boolean), .fieldLink RX3 7 "UndoCellar$Slot" "holder" "LUndoCellar$Transaction;"] ++ wsX00 ++ wsX30 ++ wsX40)
def wsX1_init : List Cond := .code yX1_init cX1_init 4 none :: ([.methodLink RX1 1 objectInit, .instanceMethod objectInit, .code objectInit ⟨#[0xb1]⟩ 1 none, .fieldLink RX1 7 "UndoCellar$Change" "isVoid" "Z", .fieldLink RX1 13 "UndoCellar$Change" "transaction" "LUndoCellar$Transaction;", .fieldLink RX1 17 "UndoCellar$Change" "row" "LUndoCellar$Row;", .fieldLink RX1 21 "UndoCellar$Change" "ahead" "I"] ++ wsX10)
def wsX1_stands : List Cond := .code yX1_stands cX1_stands 2 (some .boolean) :: ([.fieldLink RX1 17 "UndoCellar$Change" "row" "LUndoCellar$Row;", .fieldLink RX1 7 "UndoCellar$Change" "isVoid" "Z"] ++ wsX10)
def wsX4_isCommittedBy : List Cond := .code yX4_isCommittedBy cX4_isCommittedBy 2 (some .boolean) :: ([.fieldLink RX4 15 "UndoCellar$Transaction" "committedAt" "I"] ++ wsX40)
def wsX1_isSeen : List Cond := .code yX1_isSeen cX1_isSeen 3 (some .boolean) :: ([.fieldLink RX1 13 "UndoCellar$Change" "transaction" "LUndoCellar$Transaction;", .instanceMethod yX4_isCommittedBy, .initialized RX4, .selects RX4 yX4_isCommittedBy yX4_isCommittedBy, .code yX4_isCommittedBy cX4_isCommittedBy 2 (some .boolean), .fieldLink RX4 15 "UndoCellar$Transaction" "committedAt" "I"] ++ wsX10 ++ wsX40)
def wsX1_make : List Cond := .code yX1_make cX1_make 2 none :: ([.fieldLink RX1 17 "UndoCellar$Change" "row" "LUndoCellar$Row;", .fieldLink RX1 13 "UndoCellar$Change" "transaction" "LUndoCellar$Transaction;"] ++ wsX10 ++ wsX20 ++ wsX40)
def wsX1_takeBack : List Cond := .code yX1_takeBack cX1_takeBack 1 none :: ([.fieldLink RX1 17 "UndoCellar$Change" "row" "LUndoCellar$Row;", .fieldLink RX1 21 "UndoCellar$Change" "ahead" "I", .fieldLink RX1 7 "UndoCellar$Change" "isVoid" "Z", .fieldLink RX1 13 "UndoCellar$Change" "transaction" "LUndoCellar$Transaction;"] ++ wsX10 ++ wsX20 ++ wsX40)
def wsX2_init : List Cond := .code yX2_init cX2_init 2 none :: ([.methodLink RX2 1 objectInit, .instanceMethod objectInit, .code objectInit ⟨#[0xb1]⟩ 1 none, .fieldLink RX2 7 "UndoCellar$Row" "value" "I", .fieldLink RX2 13 "UndoCellar$Row" "block" "LUndoCellar$Block;"] ++ wsX20)
def wsX3_give : List Cond := .code yX3_give cX3_give 2 none :: ([.fieldLink RX3 7 "UndoCellar$Slot" "holder" "LUndoCellar$Transaction;", .fieldLink RX3 13 "UndoCellar$Slot" "marked" "Z"] ++ wsX30)
def wsX4_init : List Cond := .code yX4_init cX4_init 3 none :: ([.methodLink RX4 3 objectInit, .instanceMethod objectInit, .code objectInit ⟨#[0xb1]⟩ 1 none, .fieldLink RX4 9 "UndoCellar$Transaction" "active" "Z", .fieldLink RX4 15 "UndoCellar$Transaction" "committedAt" "I", .fieldLink RX4 19 "UndoCellar$Transaction" "standing" "I", .fieldLink RX4 22 "UndoCellar$Transaction" "number" "I", .fieldLink RX4 25 "UndoCellar$Transaction" "beganAt" "I"] ++ wsX40)
def wsJxa1e45_init_da8c8 : List Cond := .code yJxa1e45_init_da8c8 cJxa1e45_init_da8c8 1 none :: ([.methodLink RJxa1e45 1 objectInit, .instanceMethod objectInit, .code objectInit ⟨#[0xb1]⟩ 1 none])
def wsJxc12de_init_da8c8 : List Cond := .code yJxc12de_init_da8c8 cJxc12de_init_da8c8 1 none :: ([.fieldLink RJxc12de 7 "java/util/AbstractList" "modCount" "I", .methodLink RJxc12de 1 yJxa1e45_init_da8c8, .instanceMethod yJxa1e45_init_da8c8, .initialized RJxa1e45, .code yJxa1e45_init_da8c8 cJxa1e45_init_da8c8 1 none, .methodLink RJxa1e45 1 objectInit, .instanceMethod objectInit, .code objectInit ⟨#[0xb1]⟩ 1 none] ++ wsJx4a65c0)
def wsJx4a65c_init_da8c8 : List Cond := .code yJx4a65c_init_da8c8 cJx4a65c_init_da8c8 1 none :: ([.fieldLink RJx4a65c 39 "java/util/ArrayList" "DEFAULTCAPACITY_EMPTY_ELEMENTDATA" "[Ljava/lang/Object;", .fieldLink RJx4a65c 9 "java/util/ArrayList" "elementData" "[Ljava/lang/Object;", .methodLink RJx4a65c 1 yJxc12de_init_da8c8, .instanceMethod yJxc12de_init_da8c8, .initialized RJxc12de, .code yJxc12de_init_da8c8 cJxc12de_init_da8c8 1 none, .fieldLink RJxc12de 7 "java/util/AbstractList" "modCount" "I", .methodLink RJxc12de 1 yJxa1e45_init_da8c8, .instanceMethod yJxa1e45_init_da8c8, .initialized RJxa1e45, .code yJxa1e45_init_da8c8 cJxa1e45_init_da8c8 1 none, .methodLink RJxa1e45 1 objectInit, .instanceMethod objectInit, .code objectInit ⟨#[0xb1]⟩ 1 none] ++ wsJx4a65c0)
def wsX5_init_r1 : List Cond := [Cond.methodLink RX5 1 objectInit, Cond.instanceMethod objectInit, Cond.code objectInit ⟨#[0xb1]⟩ 1 none, Cond.classLink RX5 9 RX0, Cond.fieldLink RX5 11 "UndoCellar" "blocks" "[LUndoCellar$Block;", Cond.classLink RX5 15 RX2, Cond.fieldLink RX5 17 "UndoCellar" "rows" "[LUndoCellar$Row;", Cond.classLink RX5 21 RJx4a65c, Cond.instantiable RJx4a65c 3, Cond.initialized RJx4a65c, Cond.fieldLink RX5 24 "UndoCellar" "begun" "Ljava/util/ArrayList;", Cond.fieldLink RX5 28 "UndoCellar" "changes" "Ljava/util/ArrayList;", Cond.fieldLink RX5 31 "UndoCellar" "space" "I", Cond.fieldLink RX5 35 "UndoCellar" "momentOfNow" "I", Cond.fieldLink RX5 38 "UndoCellar" "markedSoFar" "I", Cond.fieldLink RX5 41 "UndoCellar" "droppedSoFar" "I", Cond.instantiable RX0 1, Cond.initialized RX0, Cond.instantiable RX2 2, Cond.initialized RX2, Cond.methodLink RX5 23 yJx4a65c_init_da8c8, Cond.instanceMethod yJx4a65c_init_da8c8, Cond.code yJx4a65c_init_da8c8 cJx4a65c_init_da8c8 1 none, Cond.fieldLink RJx4a65c 39 "java/util/ArrayList" "DEFAULTCAPACITY_EMPTY_ELEMENTDATA" "[Ljava/lang/Object;"]
def wsX5_init_r2 : List Cond := [Cond.fieldLink RJx4a65c 9 "java/util/ArrayList" "elementData" "[Ljava/lang/Object;", Cond.methodLink RJx4a65c 1 yJxc12de_init_da8c8, Cond.instanceMethod yJxc12de_init_da8c8, Cond.initialized RJxc12de, Cond.code yJxc12de_init_da8c8 cJxc12de_init_da8c8 1 none, Cond.fieldLink RJxc12de 7 "java/util/AbstractList" "modCount" "I", Cond.methodLink RJxc12de 1 yJxa1e45_init_da8c8, Cond.instanceMethod yJxa1e45_init_da8c8, Cond.initialized RJxa1e45, Cond.code yJxa1e45_init_da8c8 cJxa1e45_init_da8c8 1 none, Cond.methodLink RJxa1e45 1 objectInit, Cond.instanceMethod yX0_init, Cond.code yX0_init cX0_init 2 none, Cond.methodLink RX0 3 objectInit, Cond.classLink RX0 9 RX3, Cond.fieldLink RX0 11 "UndoCellar$Block" "slots" "[LUndoCellar$Slot;", Cond.instantiable RX3 2, Cond.initialized RX3, Cond.instanceMethod yX3_init, Cond.code yX3_init cX3_init 1 none, Cond.methodLink RX3 1 objectInit, Cond.fieldLink RX3 7 "UndoCellar$Slot" "holder" "LUndoCellar$Transaction;", Cond.fieldLink RX3 13 "UndoCellar$Slot" "marked" "Z", Cond.instanceMethod yX2_init]
def wsX5_init_r3 : List Cond := [Cond.code yX2_init cX2_init 2 none, Cond.methodLink RX2 1 objectInit, Cond.fieldLink RX2 7 "UndoCellar$Row" "value" "I", Cond.fieldLink RX2 13 "UndoCellar$Row" "block" "LUndoCellar$Block;"]
def wsX5_init : List Cond := .code yX5_init cX5_init 2 none :: ((wsX5_init_r1 ++ (wsX5_init_r2 ++ wsX5_init_r3)) ++ wsX50 ++ wsJx4a65c0 ++ wsX00 ++ wsX20 ++ wsX30)
def wsJx4a65c_size_8abf5 : List Cond := .code yJx4a65c_size_8abf5 cJx4a65c_size_8abf5 1 (some .int) :: ([.fieldLink RJx4a65c 48 "java/util/ArrayList" "size" "I"] ++ wsJx4a65c0)
def wsX5_recordsThere : List Cond := .code yX5_recordsThere cX5_recordsThere 1 (some .int) :: ([.fieldLink RX5 28 "UndoCellar" "changes" "Ljava/util/ArrayList;", .fieldLink RX5 41 "UndoCellar" "droppedSoFar" "I", .methodLink RX5 64 yJx4a65c_size_8abf5, .instanceMethod yJx4a65c_size_8abf5, .selects RJx4a65c yJx4a65c_size_8abf5 yJx4a65c_size_8abf5, .initialized RJx4a65c, .code yJx4a65c_size_8abf5 cJx4a65c_size_8abf5 1 (some .int), .fieldLink RJx4a65c 48 "java/util/ArrayList" "size" "I"] ++ wsX50 ++ wsJx4a65c0)
def wsX5_setSpace : List Cond := .code yX5_setSpace cX5_setSpace 3 (some .int) :: ([.classLink RX5 48 "java/lang/IllegalArgumentException", .initialized "java/lang/IllegalArgumentException", .classLink RX5 59 "java/lang/IllegalStateException", .initialized "java/lang/IllegalStateException", .fieldLink RX5 31 "UndoCellar" "space" "I", .methodLink RX5 55 yX5_recordsThere, .instanceMethod yX5_recordsThere, .selects RX5 yX5_recordsThere yX5_recordsThere, .initialized RX5, .code yX5_recordsThere cX5_recordsThere 1 (some .int), .fieldLink RX5 28 "UndoCellar" "changes" "Ljava/util/ArrayList;", .fieldLink RX5 41 "UndoCellar" "droppedSoFar" "I", .methodLink RX5 64 yJx4a65c_size_8abf5, .instanceMethod yJx4a65c_size_8abf5, .selects RJx4a65c yJx4a65c_size_8abf5 yJx4a65c_size_8abf5, .initialized RJx4a65c, .code yJx4a65c_size_8abf5 cJx4a65c_size_8abf5 1 (some .int), .fieldLink RJx4a65c 48 "java/util/ArrayList" "size" "I"] ++ wsX50 ++ wsJx4a65c0 ++ (vx_atS RX5 52 "java/lang/IllegalArgumentException" ["java/lang/RuntimeException", "java/lang/Exception"]).filter goodWord ++ (vx_atS RX5 63 "java/lang/IllegalStateException" ["java/lang/RuntimeException", "java/lang/Exception"]).filter goodWord)
def wsJ8_hugeLength_7cf53 : List Cond := .code yJ8_hugeLength_7cf53 cJ8_hugeLength_7cf53 3 (some .int) :: ([.constant RJ8 200 (2147483639)])
def wsJ8_newLength_cabcc : List Cond := .code yJ8_newLength_cabcc cJ8_newLength_cabcc 4 (some .int) :: ([.methodLink RJ8 194 Lib.Math.max.name, .static Lib.Math.max.name, .initialized "java/lang/Math", .code Lib.Math.max.name Lib.Math.max.code 2 (some .int), .constant RJ8 200 (2147483639), .methodLink RJ8 201 yJ8_hugeLength_7cf53, .static yJ8_hugeLength_7cf53, .initialized RJ8, .code yJ8_hugeLength_7cf53 cJ8_hugeLength_7cf53 3 (some .int)])
def wsJ7_copyOf_6403c : List Cond := .code yJ7_copyOf_6403c cJ7_copyOf_6403c 4 (some (.array (.object "java/lang/Object"))) :: ([.classLink RJ7 110 "[Ljava/lang/Object;", .classLink RJ7 2 "java/lang/Object", .methodLink RJ7 304 Lib.Math.min.name, .static Lib.Math.min.name, .initialized "java/lang/Math", .code Lib.Math.min.name Lib.Math.min.code 2 (some .int), .methodLink RJ7 150 arraycopyName, .native arraycopyName, .static arraycopyName, .initialized "java/lang/System"])
def wsJ7_copyOf_1904c : List Cond := .code yJ7_copyOf_1904c cJ7_copyOf_1904c 2 (some (.array (.object "java/lang/Object"))) :: ([.methodLink RJ7 86 ⟨"java/lang/Object", "getClass", "()Ljava/lang/Class;"⟩, .selects "[Ljava/lang/Object;" ⟨"java/lang/Object", "getClass", "()Ljava/lang/Class;"⟩ ⟨"java/lang/Object", "getClass", "()Ljava/lang/Class;"⟩, .instanceMethod ⟨"java/lang/Object", "getClass", "()Ljava/lang/Class;"⟩, .native ⟨"java/lang/Object", "getClass", "()Ljava/lang/Class;"⟩, .methodLink RJ7 300 yJ7_copyOf_6403c, .static yJ7_copyOf_6403c, .initialized RJ7, .code yJ7_copyOf_6403c cJ7_copyOf_6403c 4 (some (.array (.object "java/lang/Object"))), .classLink RJ7 110 "[Ljava/lang/Object;", .classLink RJ7 2 "java/lang/Object", .methodLink RJ7 304 Lib.Math.min.name, .static Lib.Math.min.name, .initialized "java/lang/Math", .code Lib.Math.min.name Lib.Math.min.code 2 (some .int), .methodLink RJ7 150 arraycopyName, .native arraycopyName, .static arraycopyName, .initialized "java/lang/System"])
def wsJx4a65c_grow_92f84_r1 : List Cond := [Cond.fieldLink RJx4a65c 9 "java/util/ArrayList" "elementData" "[Ljava/lang/Object;", Cond.fieldLink RJx4a65c 39 "java/util/ArrayList" "DEFAULTCAPACITY_EMPTY_ELEMENTDATA" "[Ljava/lang/Object;", Cond.methodLink RJx4a65c 79 Lib.Math.max.name, Cond.static Lib.Math.max.name, Cond.initialized "java/lang/Math", Cond.code Lib.Math.max.name Lib.Math.max.code 2 (some .int), Cond.classLink RJx4a65c 7 "java/lang/Object", Cond.methodLink RJx4a65c 73 yJ8_newLength_cabcc, Cond.static yJ8_newLength_cabcc, Cond.initialized RJ8, Cond.code yJ8_newLength_cabcc cJ8_newLength_cabcc 4 (some .int), Cond.methodLink RJ8 194 Lib.Math.max.name, Cond.constant RJ8 200 (2147483639), Cond.methodLink RJ8 201 yJ8_hugeLength_7cf53, Cond.static yJ8_hugeLength_7cf53, Cond.code yJ8_hugeLength_7cf53 cJ8_hugeLength_7cf53 3 (some .int), Cond.methodLink RJx4a65c 66 yJ7_copyOf_1904c, Cond.static yJ7_copyOf_1904c, Cond.initialized RJ7, Cond.code yJ7_copyOf_1904c cJ7_copyOf_1904c 2 (some (.array (.object "java/lang/Object"))), Cond.methodLink RJ7 86 ⟨"java/lang/Object", "getClass", "()Ljava/lang/Class;"⟩, Cond.selects "[Ljava/lang/Object;" ⟨"java/lang/Object", "getClass", "()Ljava/lang/Class;"⟩ ⟨"java/lang/Object", "getClass", "()Ljava/lang/Class;"⟩, Cond.instanceMethod ⟨"java/lang/Object", "getClass", "()Ljava/lang/Class;"⟩, Cond.native ⟨"java/lang/Object", "getClass", "()Ljava/lang/Class;"⟩]
def wsJx4a65c_grow_92f84_r2 : List Cond := [Cond.methodLink RJ7 300 yJ7_copyOf_6403c, Cond.static yJ7_copyOf_6403c, Cond.code yJ7_copyOf_6403c cJ7_copyOf_6403c 4 (some (.array (.object "java/lang/Object"))), Cond.classLink RJ7 110 "[Ljava/lang/Object;", Cond.classLink RJ7 2 "java/lang/Object", Cond.methodLink RJ7 304 Lib.Math.min.name, Cond.static Lib.Math.min.name, Cond.code Lib.Math.min.name Lib.Math.min.code 2 (some .int), Cond.methodLink RJ7 150 arraycopyName, Cond.native arraycopyName, Cond.static arraycopyName, Cond.initialized "java/lang/System"]
def wsJx4a65c_grow_92f84 : List Cond := .code yJx4a65c_grow_92f84 cJx4a65c_grow_92f84 4 (some (.array (.object "java/lang/Object"))) :: ((wsJx4a65c_grow_92f84_r1 ++ wsJx4a65c_grow_92f84_r2) ++ wsJx4a65c0)
def wsJx4a65c_grow_d5877_r1 : List Cond := [Cond.fieldLink RJx4a65c 48 "java/util/ArrayList" "size" "I", Cond.methodLink RJx4a65c 69 yJx4a65c_grow_92f84, Cond.instanceMethod yJx4a65c_grow_92f84, Cond.selects RJx4a65c yJx4a65c_grow_92f84 yJx4a65c_grow_92f84, Cond.initialized RJx4a65c, Cond.code yJx4a65c_grow_92f84 cJx4a65c_grow_92f84 4 (some (.array (.object "java/lang/Object"))), Cond.fieldLink RJx4a65c 9 "java/util/ArrayList" "elementData" "[Ljava/lang/Object;", Cond.fieldLink RJx4a65c 39 "java/util/ArrayList" "DEFAULTCAPACITY_EMPTY_ELEMENTDATA" "[Ljava/lang/Object;", Cond.methodLink RJx4a65c 79 Lib.Math.max.name, Cond.static Lib.Math.max.name, Cond.initialized "java/lang/Math", Cond.code Lib.Math.max.name Lib.Math.max.code 2 (some .int), Cond.classLink RJx4a65c 7 "java/lang/Object", Cond.methodLink RJx4a65c 73 yJ8_newLength_cabcc, Cond.static yJ8_newLength_cabcc, Cond.initialized RJ8, Cond.code yJ8_newLength_cabcc cJ8_newLength_cabcc 4 (some .int), Cond.methodLink RJ8 194 Lib.Math.max.name, Cond.constant RJ8 200 (2147483639), Cond.methodLink RJ8 201 yJ8_hugeLength_7cf53, Cond.static yJ8_hugeLength_7cf53, Cond.code yJ8_hugeLength_7cf53 cJ8_hugeLength_7cf53 3 (some .int), Cond.methodLink RJx4a65c 66 yJ7_copyOf_1904c, Cond.static yJ7_copyOf_1904c]
def wsJx4a65c_grow_d5877_r2 : List Cond := [Cond.initialized RJ7, Cond.code yJ7_copyOf_1904c cJ7_copyOf_1904c 2 (some (.array (.object "java/lang/Object"))), Cond.methodLink RJ7 86 ⟨"java/lang/Object", "getClass", "()Ljava/lang/Class;"⟩, Cond.selects "[Ljava/lang/Object;" ⟨"java/lang/Object", "getClass", "()Ljava/lang/Class;"⟩ ⟨"java/lang/Object", "getClass", "()Ljava/lang/Class;"⟩, Cond.instanceMethod ⟨"java/lang/Object", "getClass", "()Ljava/lang/Class;"⟩, Cond.native ⟨"java/lang/Object", "getClass", "()Ljava/lang/Class;"⟩, Cond.methodLink RJ7 300 yJ7_copyOf_6403c, Cond.static yJ7_copyOf_6403c, Cond.code yJ7_copyOf_6403c cJ7_copyOf_6403c 4 (some (.array (.object "java/lang/Object"))), Cond.classLink RJ7 110 "[Ljava/lang/Object;", Cond.classLink RJ7 2 "java/lang/Object", Cond.methodLink RJ7 304 Lib.Math.min.name, Cond.static Lib.Math.min.name, Cond.code Lib.Math.min.name Lib.Math.min.code 2 (some .int), Cond.methodLink RJ7 150 arraycopyName, Cond.native arraycopyName, Cond.static arraycopyName, Cond.initialized "java/lang/System"]
def wsJx4a65c_grow_d5877 : List Cond := .code yJx4a65c_grow_d5877 cJx4a65c_grow_d5877 1 (some (.array (.object "java/lang/Object"))) :: ((wsJx4a65c_grow_d5877_r1 ++ wsJx4a65c_grow_d5877_r2) ++ wsJx4a65c0)
def wsJx4a65c_add_72be8_r1 : List Cond := [Cond.fieldLink RJx4a65c 48 "java/util/ArrayList" "size" "I", Cond.methodLink RJx4a65c 129 yJx4a65c_grow_d5877, Cond.instanceMethod yJx4a65c_grow_d5877, Cond.selects RJx4a65c yJx4a65c_grow_d5877 yJx4a65c_grow_d5877, Cond.initialized RJx4a65c, Cond.code yJx4a65c_grow_d5877 cJx4a65c_grow_d5877 1 (some (.array (.object "java/lang/Object"))), Cond.methodLink RJx4a65c 69 yJx4a65c_grow_92f84, Cond.instanceMethod yJx4a65c_grow_92f84, Cond.selects RJx4a65c yJx4a65c_grow_92f84 yJx4a65c_grow_92f84, Cond.code yJx4a65c_grow_92f84 cJx4a65c_grow_92f84 4 (some (.array (.object "java/lang/Object"))), Cond.fieldLink RJx4a65c 9 "java/util/ArrayList" "elementData" "[Ljava/lang/Object;", Cond.fieldLink RJx4a65c 39 "java/util/ArrayList" "DEFAULTCAPACITY_EMPTY_ELEMENTDATA" "[Ljava/lang/Object;", Cond.methodLink RJx4a65c 79 Lib.Math.max.name, Cond.static Lib.Math.max.name, Cond.initialized "java/lang/Math", Cond.code Lib.Math.max.name Lib.Math.max.code 2 (some .int), Cond.classLink RJx4a65c 7 "java/lang/Object", Cond.methodLink RJx4a65c 73 yJ8_newLength_cabcc, Cond.static yJ8_newLength_cabcc, Cond.initialized RJ8, Cond.code yJ8_newLength_cabcc cJ8_newLength_cabcc 4 (some .int), Cond.methodLink RJ8 194 Lib.Math.max.name, Cond.constant RJ8 200 (2147483639), Cond.methodLink RJ8 201 yJ8_hugeLength_7cf53]
def wsJx4a65c_add_72be8_r2 : List Cond := [Cond.static yJ8_hugeLength_7cf53, Cond.code yJ8_hugeLength_7cf53 cJ8_hugeLength_7cf53 3 (some .int), Cond.methodLink RJx4a65c 66 yJ7_copyOf_1904c, Cond.static yJ7_copyOf_1904c, Cond.initialized RJ7, Cond.code yJ7_copyOf_1904c cJ7_copyOf_1904c 2 (some (.array (.object "java/lang/Object"))), Cond.methodLink RJ7 86 ⟨"java/lang/Object", "getClass", "()Ljava/lang/Class;"⟩, Cond.selects "[Ljava/lang/Object;" ⟨"java/lang/Object", "getClass", "()Ljava/lang/Class;"⟩ ⟨"java/lang/Object", "getClass", "()Ljava/lang/Class;"⟩, Cond.instanceMethod ⟨"java/lang/Object", "getClass", "()Ljava/lang/Class;"⟩, Cond.native ⟨"java/lang/Object", "getClass", "()Ljava/lang/Class;"⟩, Cond.methodLink RJ7 300 yJ7_copyOf_6403c, Cond.static yJ7_copyOf_6403c, Cond.code yJ7_copyOf_6403c cJ7_copyOf_6403c 4 (some (.array (.object "java/lang/Object"))), Cond.classLink RJ7 110 "[Ljava/lang/Object;", Cond.classLink RJ7 2 "java/lang/Object", Cond.methodLink RJ7 304 Lib.Math.min.name, Cond.static Lib.Math.min.name, Cond.code Lib.Math.min.name Lib.Math.min.code 2 (some .int), Cond.methodLink RJ7 150 arraycopyName, Cond.native arraycopyName, Cond.static arraycopyName, Cond.initialized "java/lang/System"]
def wsJx4a65c_add_72be8 : List Cond := .code yJx4a65c_add_72be8 cJx4a65c_add_72be8 4 none :: ((wsJx4a65c_add_72be8_r1 ++ wsJx4a65c_add_72be8_r2) ++ wsJx4a65c0)
def wsJx4a65c_add_9ea2d_r1 : List Cond := [Cond.fieldLink RJx4a65c 63 "java/util/ArrayList" "modCount" "I", Cond.sameField "java/util/ArrayList" "java/util/AbstractList" "modCount" "I", Cond.fieldLink RJx4a65c 9 "java/util/ArrayList" "elementData" "[Ljava/lang/Object;", Cond.fieldLink RJx4a65c 48 "java/util/ArrayList" "size" "I", Cond.methodLink RJx4a65c 131 yJx4a65c_add_72be8, Cond.instanceMethod yJx4a65c_add_72be8, Cond.selects RJx4a65c yJx4a65c_add_72be8 yJx4a65c_add_72be8, Cond.initialized RJx4a65c, Cond.code yJx4a65c_add_72be8 cJx4a65c_add_72be8 4 none, Cond.methodLink RJx4a65c 129 yJx4a65c_grow_d5877, Cond.instanceMethod yJx4a65c_grow_d5877, Cond.selects RJx4a65c yJx4a65c_grow_d5877 yJx4a65c_grow_d5877, Cond.code yJx4a65c_grow_d5877 cJx4a65c_grow_d5877 1 (some (.array (.object "java/lang/Object"))), Cond.methodLink RJx4a65c 69 yJx4a65c_grow_92f84, Cond.instanceMethod yJx4a65c_grow_92f84, Cond.selects RJx4a65c yJx4a65c_grow_92f84 yJx4a65c_grow_92f84, Cond.code yJx4a65c_grow_92f84 cJx4a65c_grow_92f84 4 (some (.array (.object "java/lang/Object"))), Cond.fieldLink RJx4a65c 39 "java/util/ArrayList" "DEFAULTCAPACITY_EMPTY_ELEMENTDATA" "[Ljava/lang/Object;", Cond.methodLink RJx4a65c 79 Lib.Math.max.name, Cond.static Lib.Math.max.name, Cond.initialized "java/lang/Math", Cond.code Lib.Math.max.name Lib.Math.max.code 2 (some .int), Cond.classLink RJx4a65c 7 "java/lang/Object", Cond.methodLink RJx4a65c 73 yJ8_newLength_cabcc]
def wsJx4a65c_add_9ea2d_r2 : List Cond := [Cond.static yJ8_newLength_cabcc, Cond.initialized RJ8, Cond.code yJ8_newLength_cabcc cJ8_newLength_cabcc 4 (some .int), Cond.methodLink RJ8 194 Lib.Math.max.name, Cond.constant RJ8 200 (2147483639), Cond.methodLink RJ8 201 yJ8_hugeLength_7cf53, Cond.static yJ8_hugeLength_7cf53, Cond.code yJ8_hugeLength_7cf53 cJ8_hugeLength_7cf53 3 (some .int), Cond.methodLink RJx4a65c 66 yJ7_copyOf_1904c, Cond.static yJ7_copyOf_1904c, Cond.initialized RJ7, Cond.code yJ7_copyOf_1904c cJ7_copyOf_1904c 2 (some (.array (.object "java/lang/Object"))), Cond.methodLink RJ7 86 ⟨"java/lang/Object", "getClass", "()Ljava/lang/Class;"⟩, Cond.selects "[Ljava/lang/Object;" ⟨"java/lang/Object", "getClass", "()Ljava/lang/Class;"⟩ ⟨"java/lang/Object", "getClass", "()Ljava/lang/Class;"⟩, Cond.instanceMethod ⟨"java/lang/Object", "getClass", "()Ljava/lang/Class;"⟩, Cond.native ⟨"java/lang/Object", "getClass", "()Ljava/lang/Class;"⟩, Cond.methodLink RJ7 300 yJ7_copyOf_6403c, Cond.static yJ7_copyOf_6403c, Cond.code yJ7_copyOf_6403c cJ7_copyOf_6403c 4 (some (.array (.object "java/lang/Object"))), Cond.classLink RJ7 110 "[Ljava/lang/Object;", Cond.classLink RJ7 2 "java/lang/Object", Cond.methodLink RJ7 304 Lib.Math.min.name, Cond.static Lib.Math.min.name, Cond.code Lib.Math.min.name Lib.Math.min.code 2 (some .int)]
def wsJx4a65c_add_9ea2d_r3 : List Cond := [Cond.methodLink RJ7 150 arraycopyName, Cond.native arraycopyName, Cond.static arraycopyName, Cond.initialized "java/lang/System"]
def wsJx4a65c_add_9ea2d : List Cond := .code yJx4a65c_add_9ea2d cJx4a65c_add_9ea2d 2 (some .boolean) :: ((wsJx4a65c_add_9ea2d_r1 ++ (wsJx4a65c_add_9ea2d_r2 ++ wsJx4a65c_add_9ea2d_r3)) ++ wsJx4a65c0)
def wsX5_begin_r1 : List Cond := [Cond.classLink RX5 59 "java/lang/IllegalStateException", Cond.initialized "java/lang/IllegalStateException", Cond.fieldLink RX5 24 "UndoCellar" "begun" "Ljava/util/ArrayList;", Cond.classLink RX5 69 RX4, Cond.instantiable RX4 5, Cond.initialized RX4, Cond.fieldLink RX5 35 "UndoCellar" "momentOfNow" "I", Cond.methodLink RX5 64 yJx4a65c_size_8abf5, Cond.instanceMethod yJx4a65c_size_8abf5, Cond.selects RJx4a65c yJx4a65c_size_8abf5 yJx4a65c_size_8abf5, Cond.initialized RJx4a65c, Cond.code yJx4a65c_size_8abf5 cJx4a65c_size_8abf5 1 (some .int), Cond.fieldLink RJx4a65c 48 "java/util/ArrayList" "size" "I", Cond.instanceMethod yX4_init, Cond.code yX4_init cX4_init 3 none, Cond.methodLink RX4 3 objectInit, Cond.instanceMethod objectInit, Cond.code objectInit ⟨#[0xb1]⟩ 1 none, Cond.fieldLink RX4 9 "UndoCellar$Transaction" "active" "Z", Cond.fieldLink RX4 15 "UndoCellar$Transaction" "committedAt" "I", Cond.fieldLink RX4 19 "UndoCellar$Transaction" "standing" "I", Cond.fieldLink RX4 22 "UndoCellar$Transaction" "number" "I", Cond.fieldLink RX4 25 "UndoCellar$Transaction" "beganAt" "I", Cond.methodLink RX5 74 yJx4a65c_add_9ea2d]
def wsX5_begin_r2 : List Cond := [Cond.instanceMethod yJx4a65c_add_9ea2d, Cond.selects RJx4a65c yJx4a65c_add_9ea2d yJx4a65c_add_9ea2d, Cond.code yJx4a65c_add_9ea2d cJx4a65c_add_9ea2d 2 (some .boolean), Cond.fieldLink RJx4a65c 63 "java/util/ArrayList" "modCount" "I", Cond.sameField "java/util/ArrayList" "java/util/AbstractList" "modCount" "I", Cond.fieldLink RJx4a65c 9 "java/util/ArrayList" "elementData" "[Ljava/lang/Object;", Cond.methodLink RJx4a65c 131 yJx4a65c_add_72be8, Cond.instanceMethod yJx4a65c_add_72be8, Cond.selects RJx4a65c yJx4a65c_add_72be8 yJx4a65c_add_72be8, Cond.code yJx4a65c_add_72be8 cJx4a65c_add_72be8 4 none, Cond.methodLink RJx4a65c 129 yJx4a65c_grow_d5877, Cond.instanceMethod yJx4a65c_grow_d5877, Cond.selects RJx4a65c yJx4a65c_grow_d5877 yJx4a65c_grow_d5877, Cond.code yJx4a65c_grow_d5877 cJx4a65c_grow_d5877 1 (some (.array (.object "java/lang/Object"))), Cond.methodLink RJx4a65c 69 yJx4a65c_grow_92f84, Cond.instanceMethod yJx4a65c_grow_92f84, Cond.selects RJx4a65c yJx4a65c_grow_92f84 yJx4a65c_grow_92f84, Cond.code yJx4a65c_grow_92f84 cJx4a65c_grow_92f84 4 (some (.array (.object "java/lang/Object"))), Cond.fieldLink RJx4a65c 39 "java/util/ArrayList" "DEFAULTCAPACITY_EMPTY_ELEMENTDATA" "[Ljava/lang/Object;", Cond.methodLink RJx4a65c 79 Lib.Math.max.name, Cond.static Lib.Math.max.name, Cond.initialized "java/lang/Math", Cond.code Lib.Math.max.name Lib.Math.max.code 2 (some .int), Cond.classLink RJx4a65c 7 "java/lang/Object"]
def wsX5_begin_r3 : List Cond := [Cond.methodLink RJx4a65c 73 yJ8_newLength_cabcc, Cond.static yJ8_newLength_cabcc, Cond.initialized RJ8, Cond.code yJ8_newLength_cabcc cJ8_newLength_cabcc 4 (some .int), Cond.methodLink RJ8 194 Lib.Math.max.name, Cond.constant RJ8 200 (2147483639), Cond.methodLink RJ8 201 yJ8_hugeLength_7cf53, Cond.static yJ8_hugeLength_7cf53, Cond.code yJ8_hugeLength_7cf53 cJ8_hugeLength_7cf53 3 (some .int), Cond.methodLink RJx4a65c 66 yJ7_copyOf_1904c, Cond.static yJ7_copyOf_1904c, Cond.initialized RJ7, Cond.code yJ7_copyOf_1904c cJ7_copyOf_1904c 2 (some (.array (.object "java/lang/Object"))), Cond.methodLink RJ7 86 ⟨"java/lang/Object", "getClass", "()Ljava/lang/Class;"⟩, Cond.selects "[Ljava/lang/Object;" ⟨"java/lang/Object", "getClass", "()Ljava/lang/Class;"⟩ ⟨"java/lang/Object", "getClass", "()Ljava/lang/Class;"⟩, Cond.instanceMethod ⟨"java/lang/Object", "getClass", "()Ljava/lang/Class;"⟩, Cond.native ⟨"java/lang/Object", "getClass", "()Ljava/lang/Class;"⟩, Cond.methodLink RJ7 300 yJ7_copyOf_6403c, Cond.static yJ7_copyOf_6403c, Cond.code yJ7_copyOf_6403c cJ7_copyOf_6403c 4 (some (.array (.object "java/lang/Object"))), Cond.classLink RJ7 110 "[Ljava/lang/Object;", Cond.classLink RJ7 2 "java/lang/Object", Cond.methodLink RJ7 304 Lib.Math.min.name, Cond.static Lib.Math.min.name]
def wsX5_begin_r4 : List Cond := [Cond.code Lib.Math.min.name Lib.Math.min.code 2 (some .int), Cond.methodLink RJ7 150 arraycopyName, Cond.native arraycopyName, Cond.static arraycopyName, Cond.initialized "java/lang/System"]
def wsX5_begin : List Cond := .code yX5_begin cX5_begin 2 (some .int) :: ((wsX5_begin_r1 ++ (wsX5_begin_r2 ++ (wsX5_begin_r3 ++ wsX5_begin_r4))) ++ wsX50 ++ wsX40 ++ wsJx4a65c0 ++ (vx_atS RX5 63 "java/lang/IllegalStateException" ["java/lang/RuntimeException", "java/lang/Exception"]).filter goodWord)
def wsJ3_checkIndex_8e157 : List Cond := .code yJ3_checkIndex_8e157 cJ3_checkIndex_8e157 3 (some .int) :: ([])
def wsJ15_checkIndex_7cf53 : List Cond := .code yJ15_checkIndex_7cf53 cJ15_checkIndex_7cf53 2 (some .int) :: ([.methodLink RJ15 105 yJ3_checkIndex_8e157, .static yJ3_checkIndex_8e157, .initialized RJ3, .code yJ3_checkIndex_8e157 cJ3_checkIndex_8e157 3 (some .int)])
def wsJx4a65c_elementData_915e3 : List Cond := .code yJx4a65c_elementData_915e3 cJx4a65c_elementData_915e3 2 (some (.object "java/lang/Object")) :: ([.fieldLink RJx4a65c 9 "java/util/ArrayList" "elementData" "[Ljava/lang/Object;"] ++ wsJx4a65c0)
def wsJx4a65c_get_915e3 : List Cond := .code yJx4a65c_get_915e3 cJx4a65c_get_915e3 2 (some (.object "java/lang/Object")) :: ([.fieldLink RJx4a65c 48 "java/util/ArrayList" "size" "I", .methodLink RJx4a65c 118 yJ15_checkIndex_7cf53, .static yJ15_checkIndex_7cf53, .initialized RJ15, .code yJ15_checkIndex_7cf53 cJ15_checkIndex_7cf53 2 (some .int), .methodLink RJ15 105 yJ3_checkIndex_8e157, .static yJ3_checkIndex_8e157, .initialized RJ3, .code yJ3_checkIndex_8e157 cJ3_checkIndex_8e157 3 (some .int), .methodLink RJx4a65c 123 yJx4a65c_elementData_915e3, .instanceMethod yJx4a65c_elementData_915e3, .selects RJx4a65c yJx4a65c_elementData_915e3 yJx4a65c_elementData_915e3, .initialized RJx4a65c, .code yJx4a65c_elementData_915e3 cJx4a65c_elementData_915e3 2 (some (.object "java/lang/Object")), .fieldLink RJx4a65c 9 "java/util/ArrayList" "elementData" "[Ljava/lang/Object;"] ++ wsJx4a65c0)
def wsX5_transactionNumbered_r1 : List Cond := [Cond.classLink RX5 189 "java/lang/IndexOutOfBoundsException", Cond.initialized "java/lang/IndexOutOfBoundsException", Cond.fieldLink RX5 24 "UndoCellar" "begun" "Ljava/util/ArrayList;", Cond.classLink RX5 69 "UndoCellar$Transaction", Cond.methodLink RX5 64 yJx4a65c_size_8abf5, Cond.instanceMethod yJx4a65c_size_8abf5, Cond.selects RJx4a65c yJx4a65c_size_8abf5 yJx4a65c_size_8abf5, Cond.initialized RJx4a65c, Cond.code yJx4a65c_size_8abf5 cJx4a65c_size_8abf5 1 (some .int), Cond.fieldLink RJx4a65c 48 "java/util/ArrayList" "size" "I", Cond.methodLink RX5 194 yJx4a65c_get_915e3, Cond.instanceMethod yJx4a65c_get_915e3, Cond.selects RJx4a65c yJx4a65c_get_915e3 yJx4a65c_get_915e3, Cond.code yJx4a65c_get_915e3 cJx4a65c_get_915e3 2 (some (.object "java/lang/Object")), Cond.methodLink RJx4a65c 118 yJ15_checkIndex_7cf53, Cond.static yJ15_checkIndex_7cf53, Cond.initialized RJ15, Cond.code yJ15_checkIndex_7cf53 cJ15_checkIndex_7cf53 2 (some .int), Cond.methodLink RJ15 105 yJ3_checkIndex_8e157, Cond.static yJ3_checkIndex_8e157, Cond.initialized RJ3, Cond.code yJ3_checkIndex_8e157 cJ3_checkIndex_8e157 3 (some .int), Cond.methodLink RJx4a65c 123 yJx4a65c_elementData_915e3, Cond.instanceMethod yJx4a65c_elementData_915e3]
def wsX5_transactionNumbered_r2 : List Cond := [Cond.selects RJx4a65c yJx4a65c_elementData_915e3 yJx4a65c_elementData_915e3, Cond.code yJx4a65c_elementData_915e3 cJx4a65c_elementData_915e3 2 (some (.object "java/lang/Object")), Cond.fieldLink RJx4a65c 9 "java/util/ArrayList" "elementData" "[Ljava/lang/Object;"]
def wsX5_transactionNumbered : List Cond := .code yX5_transactionNumbered cX5_transactionNumbered 2 (some (.object "UndoCellar$Transaction")) :: ((wsX5_transactionNumbered_r1 ++ wsX5_transactionNumbered_r2) ++ wsX50 ++ wsJx4a65c0 ++ (vx_atS RX5 193 "java/lang/IndexOutOfBoundsException" ["java/lang/RuntimeException", "java/lang/Exception"]).filter goodWord)
def wsX5_rowNumbered : List Cond := .code yX5_rowNumbered cX5_rowNumbered 2 (some (.object "UndoCellar$Row")) :: ([.classLink RX5 189 "java/lang/IndexOutOfBoundsException", .initialized "java/lang/IndexOutOfBoundsException", .fieldLink RX5 17 "UndoCellar" "rows" "[LUndoCellar$Row;"] ++ wsX50 ++ (vx_atS RX5 193 "java/lang/IndexOutOfBoundsException" ["java/lang/RuntimeException", "java/lang/Exception"]).filter goodWord)
def wsX5_refuseIfEnded : List Cond := .code yX5_refuseIfEnded cX5_refuseIfEnded 2 none :: ([.classLink RX5 59 "java/lang/IllegalStateException", .initialized "java/lang/IllegalStateException"] ++ wsX40 ++ (vx_atS RX5 63 "java/lang/IllegalStateException" ["java/lang/RuntimeException", "java/lang/Exception"]).filter goodWord)
def wsX5_lockerOf_r1 : List Cond := [Cond.fieldLink RX5 28 "UndoCellar" "changes" "Ljava/util/ArrayList;", Cond.classLink RX5 126 "UndoCellar$Change", Cond.methodLink RX5 64 yJx4a65c_size_8abf5, Cond.instanceMethod yJx4a65c_size_8abf5, Cond.selects RJx4a65c yJx4a65c_size_8abf5 yJx4a65c_size_8abf5, Cond.initialized RJx4a65c, Cond.code yJx4a65c_size_8abf5 cJx4a65c_size_8abf5 1 (some .int), Cond.fieldLink RJx4a65c 48 "java/util/ArrayList" "size" "I", Cond.methodLink RX5 194 yJx4a65c_get_915e3, Cond.instanceMethod yJx4a65c_get_915e3, Cond.selects RJx4a65c yJx4a65c_get_915e3 yJx4a65c_get_915e3, Cond.code yJx4a65c_get_915e3 cJx4a65c_get_915e3 2 (some (.object "java/lang/Object")), Cond.methodLink RJx4a65c 118 yJ15_checkIndex_7cf53, Cond.static yJ15_checkIndex_7cf53, Cond.initialized RJ15, Cond.code yJ15_checkIndex_7cf53 cJ15_checkIndex_7cf53 2 (some .int), Cond.methodLink RJ15 105 yJ3_checkIndex_8e157, Cond.static yJ3_checkIndex_8e157, Cond.initialized RJ3, Cond.code yJ3_checkIndex_8e157 cJ3_checkIndex_8e157 3 (some .int), Cond.methodLink RJx4a65c 123 yJx4a65c_elementData_915e3, Cond.instanceMethod yJx4a65c_elementData_915e3, Cond.selects RJx4a65c yJx4a65c_elementData_915e3 yJx4a65c_elementData_915e3, Cond.code yJx4a65c_elementData_915e3 cJx4a65c_elementData_915e3 2 (some (.object "java/lang/Object"))]
def wsX5_lockerOf_r2 : List Cond := [Cond.fieldLink RJx4a65c 9 "java/util/ArrayList" "elementData" "[Ljava/lang/Object;", Cond.instanceMethod yX1_stands, Cond.initialized RX1, Cond.selects RX1 yX1_stands yX1_stands, Cond.code yX1_stands cX1_stands 2 (some .boolean), Cond.fieldLink RX1 17 "UndoCellar$Change" "row" "LUndoCellar$Row;", Cond.fieldLink RX1 7 "UndoCellar$Change" "isVoid" "Z"]
def wsX5_lockerOf : List Cond := .code yX5_lockerOf cX5_lockerOf 4 (some (.object "UndoCellar$Transaction")) :: ((wsX5_lockerOf_r1 ++ wsX5_lockerOf_r2) ++ wsX50 ++ wsX10 ++ wsX40 ++ wsJx4a65c0)
def wsX5_refuseIfLockedByAnother_r1 : List Cond := [Cond.classLink RX5 59 "java/lang/IllegalStateException", Cond.initialized "java/lang/IllegalStateException", Cond.methodLink RX5 174 yX5_lockerOf, Cond.instanceMethod yX5_lockerOf, Cond.selects RX5 yX5_lockerOf yX5_lockerOf, Cond.initialized RX5, Cond.code yX5_lockerOf cX5_lockerOf 4 (some (.object "UndoCellar$Transaction")), Cond.fieldLink RX5 28 "UndoCellar" "changes" "Ljava/util/ArrayList;", Cond.classLink RX5 126 "UndoCellar$Change", Cond.methodLink RX5 64 yJx4a65c_size_8abf5, Cond.instanceMethod yJx4a65c_size_8abf5, Cond.selects RJx4a65c yJx4a65c_size_8abf5 yJx4a65c_size_8abf5, Cond.initialized RJx4a65c, Cond.code yJx4a65c_size_8abf5 cJx4a65c_size_8abf5 1 (some .int), Cond.fieldLink RJx4a65c 48 "java/util/ArrayList" "size" "I", Cond.methodLink RX5 194 yJx4a65c_get_915e3, Cond.instanceMethod yJx4a65c_get_915e3, Cond.selects RJx4a65c yJx4a65c_get_915e3 yJx4a65c_get_915e3, Cond.code yJx4a65c_get_915e3 cJx4a65c_get_915e3 2 (some (.object "java/lang/Object")), Cond.methodLink RJx4a65c 118 yJ15_checkIndex_7cf53, Cond.static yJ15_checkIndex_7cf53, Cond.initialized RJ15, Cond.code yJ15_checkIndex_7cf53 cJ15_checkIndex_7cf53 2 (some .int), Cond.methodLink RJ15 105 yJ3_checkIndex_8e157]
def wsX5_refuseIfLockedByAnother_r2 : List Cond := [Cond.static yJ3_checkIndex_8e157, Cond.initialized RJ3, Cond.code yJ3_checkIndex_8e157 cJ3_checkIndex_8e157 3 (some .int), Cond.methodLink RJx4a65c 123 yJx4a65c_elementData_915e3, Cond.instanceMethod yJx4a65c_elementData_915e3, Cond.selects RJx4a65c yJx4a65c_elementData_915e3 yJx4a65c_elementData_915e3, Cond.code yJx4a65c_elementData_915e3 cJx4a65c_elementData_915e3 2 (some (.object "java/lang/Object")), Cond.fieldLink RJx4a65c 9 "java/util/ArrayList" "elementData" "[Ljava/lang/Object;", Cond.instanceMethod yX1_stands, Cond.initialized RX1, Cond.selects RX1 yX1_stands yX1_stands, Cond.code yX1_stands cX1_stands 2 (some .boolean), Cond.fieldLink RX1 17 "UndoCellar$Change" "row" "LUndoCellar$Row;", Cond.fieldLink RX1 7 "UndoCellar$Change" "isVoid" "Z"]
def wsX5_refuseIfLockedByAnother : List Cond := .code yX5_refuseIfLockedByAnother cX5_refuseIfLockedByAnother 4 none :: ((wsX5_refuseIfLockedByAnother_r1 ++ wsX5_refuseIfLockedByAnother_r2) ++ wsX50 ++ wsX10 ++ wsX40 ++ wsJx4a65c0 ++ (vx_atS RX5 63 "java/lang/IllegalStateException" ["java/lang/RuntimeException", "java/lang/Exception"]).filter goodWord)
def wsX5_isSpaceFull : List Cond := .code yX5_isSpaceFull cX5_isSpaceFull 1 (some .boolean) :: ([.fieldLink RX5 41 "UndoCellar" "droppedSoFar" "I", .fieldLink RX5 28 "UndoCellar" "changes" "Ljava/util/ArrayList;", .fieldLink RX5 31 "UndoCellar" "space" "I", .methodLink RX5 64 yJx4a65c_size_8abf5, .instanceMethod yJx4a65c_size_8abf5, .selects RJx4a65c yJx4a65c_size_8abf5 yJx4a65c_size_8abf5, .initialized RJx4a65c, .code yJx4a65c_size_8abf5 cJx4a65c_size_8abf5 1 (some .int), .fieldLink RJx4a65c 48 "java/util/ArrayList" "size" "I", .methodLink RX5 55 yX5_recordsThere, .instanceMethod yX5_recordsThere, .selects RX5 yX5_recordsThere yX5_recordsThere, .initialized RX5, .code yX5_recordsThere cX5_recordsThere 1 (some .int)] ++ wsX50 ++ wsJx4a65c0)
def wsX5_refuseIfNoSpace_r1 : List Cond := [Cond.classLink RX5 59 "java/lang/IllegalStateException", Cond.initialized "java/lang/IllegalStateException", Cond.fieldLink RX5 28 "UndoCellar" "changes" "Ljava/util/ArrayList;", Cond.fieldLink RX5 41 "UndoCellar" "droppedSoFar" "I", Cond.classLink RX5 126 "UndoCellar$Change", Cond.methodLink RX5 64 yJx4a65c_size_8abf5, Cond.instanceMethod yJx4a65c_size_8abf5, Cond.selects RJx4a65c yJx4a65c_size_8abf5 yJx4a65c_size_8abf5, Cond.initialized RJx4a65c, Cond.code yJx4a65c_size_8abf5 cJx4a65c_size_8abf5 1 (some .int), Cond.fieldLink RJx4a65c 48 "java/util/ArrayList" "size" "I", Cond.methodLink RX5 122 yX5_isSpaceFull, Cond.instanceMethod yX5_isSpaceFull, Cond.selects RX5 yX5_isSpaceFull yX5_isSpaceFull, Cond.initialized RX5, Cond.code yX5_isSpaceFull cX5_isSpaceFull 1 (some .boolean), Cond.fieldLink RX5 31 "UndoCellar" "space" "I", Cond.methodLink RX5 55 yX5_recordsThere, Cond.instanceMethod yX5_recordsThere, Cond.selects RX5 yX5_recordsThere yX5_recordsThere, Cond.code yX5_recordsThere cX5_recordsThere 1 (some .int), Cond.methodLink RX5 194 yJx4a65c_get_915e3, Cond.instanceMethod yJx4a65c_get_915e3, Cond.selects RJx4a65c yJx4a65c_get_915e3 yJx4a65c_get_915e3]
def wsX5_refuseIfNoSpace_r2 : List Cond := [Cond.code yJx4a65c_get_915e3 cJx4a65c_get_915e3 2 (some (.object "java/lang/Object")), Cond.methodLink RJx4a65c 118 yJ15_checkIndex_7cf53, Cond.static yJ15_checkIndex_7cf53, Cond.initialized RJ15, Cond.code yJ15_checkIndex_7cf53 cJ15_checkIndex_7cf53 2 (some .int), Cond.methodLink RJ15 105 yJ3_checkIndex_8e157, Cond.static yJ3_checkIndex_8e157, Cond.initialized RJ3, Cond.code yJ3_checkIndex_8e157 cJ3_checkIndex_8e157 3 (some .int), Cond.methodLink RJx4a65c 123 yJx4a65c_elementData_915e3, Cond.instanceMethod yJx4a65c_elementData_915e3, Cond.selects RJx4a65c yJx4a65c_elementData_915e3 yJx4a65c_elementData_915e3, Cond.code yJx4a65c_elementData_915e3 cJx4a65c_elementData_915e3 2 (some (.object "java/lang/Object")), Cond.fieldLink RJx4a65c 9 "java/util/ArrayList" "elementData" "[Ljava/lang/Object;"]
def wsX5_refuseIfNoSpace : List Cond := .code yX5_refuseIfNoSpace cX5_refuseIfNoSpace 1 none :: ((wsX5_refuseIfNoSpace_r1 ++ wsX5_refuseIfNoSpace_r2) ++ wsX50 ++ wsX10 ++ wsX40 ++ wsJx4a65c0 ++ (vx_atS RX5 63 "java/lang/IllegalStateException" ["java/lang/RuntimeException", "java/lang/Exception"]).filter goodWord)
def wsX5_clean : List Cond := .code yX5_clean cX5_clean 2 none :: ([.fieldLink RX5 38 "UndoCellar" "markedSoFar" "I", .instanceMethod yX0_markEnded, .initialized RX0, .selects RX0 yX0_markEnded yX0_markEnded, .code yX0_markEnded cX0_markEnded 6 (some .int), .fieldLink RX0 11 "UndoCellar$Block" "slots" "[LUndoCellar$Slot;", .instanceMethod yX3_isEnded, .initialized RX3, .selects RX3 yX3_isEnded yX3_isEnded, .code yX3_isEnded cX3_isEnded 1 (some .boolean), .fieldLink RX3 7 "UndoCellar$Slot" "holder" "LUndoCellar$Transaction;"] ++ wsX50 ++ wsX00 ++ wsX30 ++ wsX40)
def wsX5_write_r1 : List Cond := [Cond.classLink RX5 48 "java/lang/IllegalArgumentException", Cond.initialized "java/lang/IllegalArgumentException", Cond.classLink RX5 59 "java/lang/IllegalStateException", Cond.initialized "java/lang/IllegalStateException", Cond.constant RX5 89 (-1000000), Cond.constant RX5 90 (1000000), Cond.fieldLink RX5 41 "UndoCellar" "droppedSoFar" "I", Cond.classLink RX5 126 RX1, Cond.instantiable RX1 4, Cond.initialized RX1, Cond.fieldLink RX5 28 "UndoCellar" "changes" "Ljava/util/ArrayList;", Cond.methodLink RX5 81 yX5_transactionNumbered, Cond.instanceMethod yX5_transactionNumbered, Cond.selects RX5 yX5_transactionNumbered yX5_transactionNumbered, Cond.initialized RX5, Cond.code yX5_transactionNumbered cX5_transactionNumbered 2 (some (.object "UndoCellar$Transaction")), Cond.classLink RX5 189 "java/lang/IndexOutOfBoundsException", Cond.initialized "java/lang/IndexOutOfBoundsException", Cond.fieldLink RX5 24 "UndoCellar" "begun" "Ljava/util/ArrayList;", Cond.classLink RX5 69 "UndoCellar$Transaction", Cond.methodLink RX5 64 yJx4a65c_size_8abf5, Cond.instanceMethod yJx4a65c_size_8abf5, Cond.selects RJx4a65c yJx4a65c_size_8abf5 yJx4a65c_size_8abf5, Cond.initialized RJx4a65c]
def wsX5_write_r2 : List Cond := [Cond.code yJx4a65c_size_8abf5 cJx4a65c_size_8abf5 1 (some .int), Cond.fieldLink RJx4a65c 48 "java/util/ArrayList" "size" "I", Cond.methodLink RX5 194 yJx4a65c_get_915e3, Cond.instanceMethod yJx4a65c_get_915e3, Cond.selects RJx4a65c yJx4a65c_get_915e3 yJx4a65c_get_915e3, Cond.code yJx4a65c_get_915e3 cJx4a65c_get_915e3 2 (some (.object "java/lang/Object")), Cond.methodLink RJx4a65c 118 yJ15_checkIndex_7cf53, Cond.static yJ15_checkIndex_7cf53, Cond.initialized RJ15, Cond.code yJ15_checkIndex_7cf53 cJ15_checkIndex_7cf53 2 (some .int), Cond.methodLink RJ15 105 yJ3_checkIndex_8e157, Cond.static yJ3_checkIndex_8e157, Cond.initialized RJ3, Cond.code yJ3_checkIndex_8e157 cJ3_checkIndex_8e157 3 (some .int), Cond.methodLink RJx4a65c 123 yJx4a65c_elementData_915e3, Cond.instanceMethod yJx4a65c_elementData_915e3, Cond.selects RJx4a65c yJx4a65c_elementData_915e3 yJx4a65c_elementData_915e3, Cond.code yJx4a65c_elementData_915e3 cJx4a65c_elementData_915e3 2 (some (.object "java/lang/Object")), Cond.fieldLink RJx4a65c 9 "java/util/ArrayList" "elementData" "[Ljava/lang/Object;", Cond.methodLink RX5 85 yX5_rowNumbered, Cond.instanceMethod yX5_rowNumbered, Cond.selects RX5 yX5_rowNumbered yX5_rowNumbered, Cond.code yX5_rowNumbered cX5_rowNumbered 2 (some (.object "UndoCellar$Row")), Cond.fieldLink RX5 17 "UndoCellar" "rows" "[LUndoCellar$Row;"]
def wsX5_write_r3 : List Cond := [Cond.methodLink RX5 93 yX5_refuseIfEnded, Cond.instanceMethod yX5_refuseIfEnded, Cond.selects RX5 yX5_refuseIfEnded yX5_refuseIfEnded, Cond.code yX5_refuseIfEnded cX5_refuseIfEnded 2 none, Cond.methodLink RX5 97 yX5_refuseIfLockedByAnother, Cond.instanceMethod yX5_refuseIfLockedByAnother, Cond.selects RX5 yX5_refuseIfLockedByAnother yX5_refuseIfLockedByAnother, Cond.code yX5_refuseIfLockedByAnother cX5_refuseIfLockedByAnother 4 none, Cond.methodLink RX5 174 yX5_lockerOf, Cond.instanceMethod yX5_lockerOf, Cond.selects RX5 yX5_lockerOf yX5_lockerOf, Cond.code yX5_lockerOf cX5_lockerOf 4 (some (.object "UndoCellar$Transaction")), Cond.classLink RX5 126 "UndoCellar$Change", Cond.instanceMethod yX1_stands, Cond.selects RX1 yX1_stands yX1_stands, Cond.code yX1_stands cX1_stands 2 (some .boolean), Cond.fieldLink RX1 17 "UndoCellar$Change" "row" "LUndoCellar$Row;", Cond.fieldLink RX1 7 "UndoCellar$Change" "isVoid" "Z", Cond.methodLink RX5 101 yX5_refuseIfNoSpace, Cond.instanceMethod yX5_refuseIfNoSpace, Cond.selects RX5 yX5_refuseIfNoSpace yX5_refuseIfNoSpace, Cond.code yX5_refuseIfNoSpace cX5_refuseIfNoSpace 1 none, Cond.methodLink RX5 122 yX5_isSpaceFull, Cond.instanceMethod yX5_isSpaceFull]
def wsX5_write_r4 : List Cond := [Cond.selects RX5 yX5_isSpaceFull yX5_isSpaceFull, Cond.code yX5_isSpaceFull cX5_isSpaceFull 1 (some .boolean), Cond.fieldLink RX5 31 "UndoCellar" "space" "I", Cond.methodLink RX5 55 yX5_recordsThere, Cond.instanceMethod yX5_recordsThere, Cond.selects RX5 yX5_recordsThere yX5_recordsThere, Cond.code yX5_recordsThere cX5_recordsThere 1 (some .int), Cond.instanceMethod yX0_slotFor, Cond.initialized RX0, Cond.selects RX0 yX0_slotFor yX0_slotFor, Cond.code yX0_slotFor cX0_slotFor 6 (some (.object "UndoCellar$Slot")), Cond.fieldLink RX0 11 "UndoCellar$Block" "slots" "[LUndoCellar$Slot;", Cond.instanceMethod yX3_isEnded, Cond.initialized RX3, Cond.selects RX3 yX3_isEnded yX3_isEnded, Cond.code yX3_isEnded cX3_isEnded 1 (some .boolean), Cond.fieldLink RX3 7 "UndoCellar$Slot" "holder" "LUndoCellar$Transaction;", Cond.methodLink RX5 114 yX5_clean, Cond.instanceMethod yX5_clean, Cond.selects RX5 yX5_clean yX5_clean, Cond.code yX5_clean cX5_clean 2 none, Cond.fieldLink RX5 38 "UndoCellar" "markedSoFar" "I", Cond.instanceMethod yX0_markEnded, Cond.selects RX0 yX0_markEnded yX0_markEnded]
def wsX5_write_r5 : List Cond := [Cond.code yX0_markEnded cX0_markEnded 6 (some .int), Cond.instanceMethod yX3_give, Cond.selects RX3 yX3_give yX3_give, Cond.code yX3_give cX3_give 2 none, Cond.fieldLink RX3 13 "UndoCellar$Slot" "marked" "Z", Cond.instanceMethod yX1_init, Cond.code yX1_init cX1_init 4 none, Cond.methodLink RX1 1 objectInit, Cond.instanceMethod objectInit, Cond.code objectInit ⟨#[0xb1]⟩ 1 none, Cond.fieldLink RX1 13 "UndoCellar$Change" "transaction" "LUndoCellar$Transaction;", Cond.fieldLink RX1 21 "UndoCellar$Change" "ahead" "I", Cond.methodLink RX5 74 yJx4a65c_add_9ea2d, Cond.instanceMethod yJx4a65c_add_9ea2d, Cond.selects RJx4a65c yJx4a65c_add_9ea2d yJx4a65c_add_9ea2d, Cond.code yJx4a65c_add_9ea2d cJx4a65c_add_9ea2d 2 (some .boolean), Cond.fieldLink RJx4a65c 63 "java/util/ArrayList" "modCount" "I", Cond.sameField "java/util/ArrayList" "java/util/AbstractList" "modCount" "I", Cond.methodLink RJx4a65c 131 yJx4a65c_add_72be8, Cond.instanceMethod yJx4a65c_add_72be8, Cond.selects RJx4a65c yJx4a65c_add_72be8 yJx4a65c_add_72be8, Cond.code yJx4a65c_add_72be8 cJx4a65c_add_72be8 4 none, Cond.methodLink RJx4a65c 129 yJx4a65c_grow_d5877, Cond.instanceMethod yJx4a65c_grow_d5877]
def wsX5_write_r6 : List Cond := [Cond.selects RJx4a65c yJx4a65c_grow_d5877 yJx4a65c_grow_d5877, Cond.code yJx4a65c_grow_d5877 cJx4a65c_grow_d5877 1 (some (.array (.object "java/lang/Object"))), Cond.methodLink RJx4a65c 69 yJx4a65c_grow_92f84, Cond.instanceMethod yJx4a65c_grow_92f84, Cond.selects RJx4a65c yJx4a65c_grow_92f84 yJx4a65c_grow_92f84, Cond.code yJx4a65c_grow_92f84 cJx4a65c_grow_92f84 4 (some (.array (.object "java/lang/Object"))), Cond.fieldLink RJx4a65c 39 "java/util/ArrayList" "DEFAULTCAPACITY_EMPTY_ELEMENTDATA" "[Ljava/lang/Object;", Cond.methodLink RJx4a65c 79 Lib.Math.max.name, Cond.static Lib.Math.max.name, Cond.initialized "java/lang/Math", Cond.code Lib.Math.max.name Lib.Math.max.code 2 (some .int), Cond.classLink RJx4a65c 7 "java/lang/Object", Cond.methodLink RJx4a65c 73 yJ8_newLength_cabcc, Cond.static yJ8_newLength_cabcc, Cond.initialized RJ8, Cond.code yJ8_newLength_cabcc cJ8_newLength_cabcc 4 (some .int), Cond.methodLink RJ8 194 Lib.Math.max.name, Cond.constant RJ8 200 (2147483639), Cond.methodLink RJ8 201 yJ8_hugeLength_7cf53, Cond.static yJ8_hugeLength_7cf53, Cond.code yJ8_hugeLength_7cf53 cJ8_hugeLength_7cf53 3 (some .int), Cond.methodLink RJx4a65c 66 yJ7_copyOf_1904c, Cond.static yJ7_copyOf_1904c, Cond.initialized RJ7]
def wsX5_write_r7 : List Cond := [Cond.code yJ7_copyOf_1904c cJ7_copyOf_1904c 2 (some (.array (.object "java/lang/Object"))), Cond.methodLink RJ7 86 ⟨"java/lang/Object", "getClass", "()Ljava/lang/Class;"⟩, Cond.selects "[Ljava/lang/Object;" ⟨"java/lang/Object", "getClass", "()Ljava/lang/Class;"⟩ ⟨"java/lang/Object", "getClass", "()Ljava/lang/Class;"⟩, Cond.instanceMethod ⟨"java/lang/Object", "getClass", "()Ljava/lang/Class;"⟩, Cond.native ⟨"java/lang/Object", "getClass", "()Ljava/lang/Class;"⟩, Cond.methodLink RJ7 300 yJ7_copyOf_6403c, Cond.static yJ7_copyOf_6403c, Cond.code yJ7_copyOf_6403c cJ7_copyOf_6403c 4 (some (.array (.object "java/lang/Object"))), Cond.classLink RJ7 110 "[Ljava/lang/Object;", Cond.classLink RJ7 2 "java/lang/Object", Cond.methodLink RJ7 304 Lib.Math.min.name, Cond.static Lib.Math.min.name, Cond.code Lib.Math.min.name Lib.Math.min.code 2 (some .int), Cond.methodLink RJ7 150 arraycopyName, Cond.native arraycopyName, Cond.static arraycopyName, Cond.initialized "java/lang/System", Cond.instanceMethod yX1_make, Cond.selects RX1 yX1_make yX1_make, Cond.code yX1_make cX1_make 2 none]
def wsX5_write : List Cond := .code yX5_write cX5_write 8 (some .int) :: ((wsX5_write_r1 ++ (wsX5_write_r2 ++ (wsX5_write_r3 ++ (wsX5_write_r4 ++ (wsX5_write_r5 ++ (wsX5_write_r6 ++ wsX5_write_r7)))))) ++ wsX20 ++ wsX50 ++ wsX10 ++ wsJx4a65c0 ++ wsX40 ++ wsX00 ++ wsX30 ++ (vx_atS RX5 52 "java/lang/IllegalArgumentException" ["java/lang/RuntimeException", "java/lang/Exception"]).filter goodWord ++ (vx_atS RX5 63 "java/lang/IllegalStateException" ["java/lang/RuntimeException", "java/lang/Exception"]).filter goodWord ++ (vx_atS RX5 193 "java/lang/IndexOutOfBoundsException" ["java/lang/RuntimeException", "java/lang/Exception"]).filter goodWord)
def wsX5_oldestUnseen_r1 : List Cond := [Cond.fieldLink RX5 28 "UndoCellar" "changes" "Ljava/util/ArrayList;", Cond.classLink RX5 126 "UndoCellar$Change", Cond.methodLink RX5 64 yJx4a65c_size_8abf5, Cond.instanceMethod yJx4a65c_size_8abf5, Cond.selects RJx4a65c yJx4a65c_size_8abf5 yJx4a65c_size_8abf5, Cond.initialized RJx4a65c, Cond.code yJx4a65c_size_8abf5 cJx4a65c_size_8abf5 1 (some .int), Cond.fieldLink RJx4a65c 48 "java/util/ArrayList" "size" "I", Cond.methodLink RX5 194 yJx4a65c_get_915e3, Cond.instanceMethod yJx4a65c_get_915e3, Cond.selects RJx4a65c yJx4a65c_get_915e3 yJx4a65c_get_915e3, Cond.code yJx4a65c_get_915e3 cJx4a65c_get_915e3 2 (some (.object "java/lang/Object")), Cond.methodLink RJx4a65c 118 yJ15_checkIndex_7cf53, Cond.static yJ15_checkIndex_7cf53, Cond.initialized RJ15, Cond.code yJ15_checkIndex_7cf53 cJ15_checkIndex_7cf53 2 (some .int), Cond.methodLink RJ15 105 yJ3_checkIndex_8e157, Cond.static yJ3_checkIndex_8e157, Cond.initialized RJ3, Cond.code yJ3_checkIndex_8e157 cJ3_checkIndex_8e157 3 (some .int), Cond.methodLink RJx4a65c 123 yJx4a65c_elementData_915e3, Cond.instanceMethod yJx4a65c_elementData_915e3, Cond.selects RJx4a65c yJx4a65c_elementData_915e3 yJx4a65c_elementData_915e3, Cond.code yJx4a65c_elementData_915e3 cJx4a65c_elementData_915e3 2 (some (.object "java/lang/Object"))]
def wsX5_oldestUnseen_r2 : List Cond := [Cond.fieldLink RJx4a65c 9 "java/util/ArrayList" "elementData" "[Ljava/lang/Object;", Cond.instanceMethod yX1_stands, Cond.initialized RX1, Cond.selects RX1 yX1_stands yX1_stands, Cond.code yX1_stands cX1_stands 2 (some .boolean), Cond.fieldLink RX1 17 "UndoCellar$Change" "row" "LUndoCellar$Row;", Cond.fieldLink RX1 7 "UndoCellar$Change" "isVoid" "Z", Cond.instanceMethod yX1_isSeen, Cond.selects RX1 yX1_isSeen yX1_isSeen, Cond.code yX1_isSeen cX1_isSeen 3 (some .boolean), Cond.fieldLink RX1 13 "UndoCellar$Change" "transaction" "LUndoCellar$Transaction;", Cond.instanceMethod yX4_isCommittedBy, Cond.initialized RX4, Cond.selects RX4 yX4_isCommittedBy yX4_isCommittedBy, Cond.code yX4_isCommittedBy cX4_isCommittedBy 2 (some .boolean), Cond.fieldLink RX4 15 "UndoCellar$Transaction" "committedAt" "I"]
def wsX5_oldestUnseen : List Cond := .code yX5_oldestUnseen cX5_oldestUnseen 7 (some .int) :: ((wsX5_oldestUnseen_r1 ++ wsX5_oldestUnseen_r2) ++ wsX50 ++ wsJx4a65c0 ++ wsX10 ++ wsX40)
def wsX5_valueAheadOf_r1 : List Cond := [Cond.fieldLink RX5 28 "UndoCellar" "changes" "Ljava/util/ArrayList;", Cond.classLink RX5 126 "UndoCellar$Change", Cond.methodLink RX5 64 yJx4a65c_size_8abf5, Cond.instanceMethod yJx4a65c_size_8abf5, Cond.selects RJx4a65c yJx4a65c_size_8abf5 yJx4a65c_size_8abf5, Cond.initialized RJx4a65c, Cond.code yJx4a65c_size_8abf5 cJx4a65c_size_8abf5 1 (some .int), Cond.fieldLink RJx4a65c 48 "java/util/ArrayList" "size" "I", Cond.methodLink RX5 194 yJx4a65c_get_915e3, Cond.instanceMethod yJx4a65c_get_915e3, Cond.selects RJx4a65c yJx4a65c_get_915e3 yJx4a65c_get_915e3, Cond.code yJx4a65c_get_915e3 cJx4a65c_get_915e3 2 (some (.object "java/lang/Object")), Cond.methodLink RJx4a65c 118 yJ15_checkIndex_7cf53, Cond.static yJ15_checkIndex_7cf53, Cond.initialized RJ15, Cond.code yJ15_checkIndex_7cf53 cJ15_checkIndex_7cf53 2 (some .int), Cond.methodLink RJ15 105 yJ3_checkIndex_8e157, Cond.static yJ3_checkIndex_8e157, Cond.initialized RJ3, Cond.code yJ3_checkIndex_8e157 cJ3_checkIndex_8e157 3 (some .int), Cond.methodLink RJx4a65c 123 yJx4a65c_elementData_915e3, Cond.instanceMethod yJx4a65c_elementData_915e3, Cond.selects RJx4a65c yJx4a65c_elementData_915e3 yJx4a65c_elementData_915e3, Cond.code yJx4a65c_elementData_915e3 cJx4a65c_elementData_915e3 2 (some (.object "java/lang/Object"))]
def wsX5_valueAheadOf_r2 : List Cond := [Cond.fieldLink RJx4a65c 9 "java/util/ArrayList" "elementData" "[Ljava/lang/Object;"]
def wsX5_valueAheadOf : List Cond := .code yX5_valueAheadOf cX5_valueAheadOf 3 (some .int) :: ((wsX5_valueAheadOf_r1 ++ wsX5_valueAheadOf_r2) ++ wsX50 ++ wsX20 ++ wsX10 ++ wsJx4a65c0)
def wsX5_readFromRecords_r1 : List Cond := [Cond.classLink RX5 231 "java/util/NoSuchElementException", Cond.initialized "java/util/NoSuchElementException", Cond.fieldLink RX5 41 "UndoCellar" "droppedSoFar" "I", Cond.methodLink RX5 167 yX5_oldestUnseen, Cond.instanceMethod yX5_oldestUnseen, Cond.selects RX5 yX5_oldestUnseen yX5_oldestUnseen, Cond.initialized RX5, Cond.code yX5_oldestUnseen cX5_oldestUnseen 7 (some .int), Cond.fieldLink RX5 28 "UndoCellar" "changes" "Ljava/util/ArrayList;", Cond.classLink RX5 126 "UndoCellar$Change", Cond.methodLink RX5 64 yJx4a65c_size_8abf5, Cond.instanceMethod yJx4a65c_size_8abf5, Cond.selects RJx4a65c yJx4a65c_size_8abf5 yJx4a65c_size_8abf5, Cond.initialized RJx4a65c, Cond.code yJx4a65c_size_8abf5 cJx4a65c_size_8abf5 1 (some .int), Cond.fieldLink RJx4a65c 48 "java/util/ArrayList" "size" "I", Cond.methodLink RX5 194 yJx4a65c_get_915e3, Cond.instanceMethod yJx4a65c_get_915e3, Cond.selects RJx4a65c yJx4a65c_get_915e3 yJx4a65c_get_915e3, Cond.code yJx4a65c_get_915e3 cJx4a65c_get_915e3 2 (some (.object "java/lang/Object")), Cond.methodLink RJx4a65c 118 yJ15_checkIndex_7cf53, Cond.static yJ15_checkIndex_7cf53, Cond.initialized RJ15, Cond.code yJ15_checkIndex_7cf53 cJ15_checkIndex_7cf53 2 (some .int)]
def wsX5_readFromRecords_r2 : List Cond := [Cond.methodLink RJ15 105 yJ3_checkIndex_8e157, Cond.static yJ3_checkIndex_8e157, Cond.initialized RJ3, Cond.code yJ3_checkIndex_8e157 cJ3_checkIndex_8e157 3 (some .int), Cond.methodLink RJx4a65c 123 yJx4a65c_elementData_915e3, Cond.instanceMethod yJx4a65c_elementData_915e3, Cond.selects RJx4a65c yJx4a65c_elementData_915e3 yJx4a65c_elementData_915e3, Cond.code yJx4a65c_elementData_915e3 cJx4a65c_elementData_915e3 2 (some (.object "java/lang/Object")), Cond.fieldLink RJx4a65c 9 "java/util/ArrayList" "elementData" "[Ljava/lang/Object;", Cond.instanceMethod yX1_stands, Cond.initialized RX1, Cond.selects RX1 yX1_stands yX1_stands, Cond.code yX1_stands cX1_stands 2 (some .boolean), Cond.fieldLink RX1 17 "UndoCellar$Change" "row" "LUndoCellar$Row;", Cond.fieldLink RX1 7 "UndoCellar$Change" "isVoid" "Z", Cond.instanceMethod yX1_isSeen, Cond.selects RX1 yX1_isSeen yX1_isSeen, Cond.code yX1_isSeen cX1_isSeen 3 (some .boolean), Cond.fieldLink RX1 13 "UndoCellar$Change" "transaction" "LUndoCellar$Transaction;", Cond.instanceMethod yX4_isCommittedBy, Cond.initialized RX4, Cond.selects RX4 yX4_isCommittedBy yX4_isCommittedBy, Cond.code yX4_isCommittedBy cX4_isCommittedBy 2 (some .boolean), Cond.fieldLink RX4 15 "UndoCellar$Transaction" "committedAt" "I"]
def wsX5_readFromRecords_r3 : List Cond := [Cond.methodLink RX5 114 yX5_clean, Cond.instanceMethod yX5_clean, Cond.selects RX5 yX5_clean yX5_clean, Cond.code yX5_clean cX5_clean 2 none, Cond.fieldLink RX5 38 "UndoCellar" "markedSoFar" "I", Cond.instanceMethod yX0_markEnded, Cond.initialized RX0, Cond.selects RX0 yX0_markEnded yX0_markEnded, Cond.code yX0_markEnded cX0_markEnded 6 (some .int), Cond.fieldLink RX0 11 "UndoCellar$Block" "slots" "[LUndoCellar$Slot;", Cond.instanceMethod yX3_isEnded, Cond.initialized RX3, Cond.selects RX3 yX3_isEnded yX3_isEnded, Cond.code yX3_isEnded cX3_isEnded 1 (some .boolean), Cond.fieldLink RX3 7 "UndoCellar$Slot" "holder" "LUndoCellar$Transaction;", Cond.methodLink RX5 170 yX5_valueAheadOf, Cond.instanceMethod yX5_valueAheadOf, Cond.selects RX5 yX5_valueAheadOf yX5_valueAheadOf, Cond.code yX5_valueAheadOf cX5_valueAheadOf 3 (some .int)]
def wsX5_readFromRecords : List Cond := .code yX5_readFromRecords cX5_readFromRecords 5 (some .int) :: ((wsX5_readFromRecords_r1 ++ (wsX5_readFromRecords_r2 ++ wsX5_readFromRecords_r3)) ++ wsX50 ++ wsX20 ++ wsJx4a65c0 ++ wsX10 ++ wsX40 ++ wsX00 ++ wsX30 ++ (vx_atS RX5 235 "java/util/NoSuchElementException" ["java/lang/RuntimeException", "java/lang/Exception"]).filter goodWord)
def wsX5_read_r1 : List Cond := [Cond.methodLink RX5 81 yX5_transactionNumbered, Cond.instanceMethod yX5_transactionNumbered, Cond.selects RX5 yX5_transactionNumbered yX5_transactionNumbered, Cond.initialized RX5, Cond.code yX5_transactionNumbered cX5_transactionNumbered 2 (some (.object "UndoCellar$Transaction")), Cond.classLink RX5 189 "java/lang/IndexOutOfBoundsException", Cond.initialized "java/lang/IndexOutOfBoundsException", Cond.fieldLink RX5 24 "UndoCellar" "begun" "Ljava/util/ArrayList;", Cond.classLink RX5 69 "UndoCellar$Transaction", Cond.methodLink RX5 64 yJx4a65c_size_8abf5, Cond.instanceMethod yJx4a65c_size_8abf5, Cond.selects RJx4a65c yJx4a65c_size_8abf5 yJx4a65c_size_8abf5, Cond.initialized RJx4a65c, Cond.code yJx4a65c_size_8abf5 cJx4a65c_size_8abf5 1 (some .int), Cond.fieldLink RJx4a65c 48 "java/util/ArrayList" "size" "I", Cond.methodLink RX5 194 yJx4a65c_get_915e3, Cond.instanceMethod yJx4a65c_get_915e3, Cond.selects RJx4a65c yJx4a65c_get_915e3 yJx4a65c_get_915e3, Cond.code yJx4a65c_get_915e3 cJx4a65c_get_915e3 2 (some (.object "java/lang/Object")), Cond.methodLink RJx4a65c 118 yJ15_checkIndex_7cf53, Cond.static yJ15_checkIndex_7cf53, Cond.initialized RJ15, Cond.code yJ15_checkIndex_7cf53 cJ15_checkIndex_7cf53 2 (some .int), Cond.methodLink RJ15 105 yJ3_checkIndex_8e157]
def wsX5_read_r2 : List Cond := [Cond.static yJ3_checkIndex_8e157, Cond.initialized RJ3, Cond.code yJ3_checkIndex_8e157 cJ3_checkIndex_8e157 3 (some .int), Cond.methodLink RJx4a65c 123 yJx4a65c_elementData_915e3, Cond.instanceMethod yJx4a65c_elementData_915e3, Cond.selects RJx4a65c yJx4a65c_elementData_915e3 yJx4a65c_elementData_915e3, Cond.code yJx4a65c_elementData_915e3 cJx4a65c_elementData_915e3 2 (some (.object "java/lang/Object")), Cond.fieldLink RJx4a65c 9 "java/util/ArrayList" "elementData" "[Ljava/lang/Object;", Cond.methodLink RX5 85 yX5_rowNumbered, Cond.instanceMethod yX5_rowNumbered, Cond.selects RX5 yX5_rowNumbered yX5_rowNumbered, Cond.code yX5_rowNumbered cX5_rowNumbered 2 (some (.object "UndoCellar$Row")), Cond.fieldLink RX5 17 "UndoCellar" "rows" "[LUndoCellar$Row;", Cond.methodLink RX5 93 yX5_refuseIfEnded, Cond.instanceMethod yX5_refuseIfEnded, Cond.selects RX5 yX5_refuseIfEnded yX5_refuseIfEnded, Cond.code yX5_refuseIfEnded cX5_refuseIfEnded 2 none, Cond.classLink RX5 59 "java/lang/IllegalStateException", Cond.initialized "java/lang/IllegalStateException", Cond.methodLink RX5 144 yX5_readFromRecords, Cond.instanceMethod yX5_readFromRecords, Cond.selects RX5 yX5_readFromRecords yX5_readFromRecords, Cond.code yX5_readFromRecords cX5_readFromRecords 5 (some .int), Cond.classLink RX5 231 "java/util/NoSuchElementException"]
def wsX5_read_r3 : List Cond := [Cond.initialized "java/util/NoSuchElementException", Cond.fieldLink RX5 41 "UndoCellar" "droppedSoFar" "I", Cond.methodLink RX5 167 yX5_oldestUnseen, Cond.instanceMethod yX5_oldestUnseen, Cond.selects RX5 yX5_oldestUnseen yX5_oldestUnseen, Cond.code yX5_oldestUnseen cX5_oldestUnseen 7 (some .int), Cond.fieldLink RX5 28 "UndoCellar" "changes" "Ljava/util/ArrayList;", Cond.classLink RX5 126 "UndoCellar$Change", Cond.instanceMethod yX1_stands, Cond.initialized RX1, Cond.selects RX1 yX1_stands yX1_stands, Cond.code yX1_stands cX1_stands 2 (some .boolean), Cond.fieldLink RX1 17 "UndoCellar$Change" "row" "LUndoCellar$Row;", Cond.fieldLink RX1 7 "UndoCellar$Change" "isVoid" "Z", Cond.instanceMethod yX1_isSeen, Cond.selects RX1 yX1_isSeen yX1_isSeen, Cond.code yX1_isSeen cX1_isSeen 3 (some .boolean), Cond.fieldLink RX1 13 "UndoCellar$Change" "transaction" "LUndoCellar$Transaction;", Cond.instanceMethod yX4_isCommittedBy, Cond.initialized RX4, Cond.selects RX4 yX4_isCommittedBy yX4_isCommittedBy, Cond.code yX4_isCommittedBy cX4_isCommittedBy 2 (some .boolean), Cond.fieldLink RX4 15 "UndoCellar$Transaction" "committedAt" "I", Cond.methodLink RX5 114 yX5_clean]
def wsX5_read_r4 : List Cond := [Cond.instanceMethod yX5_clean, Cond.selects RX5 yX5_clean yX5_clean, Cond.code yX5_clean cX5_clean 2 none, Cond.fieldLink RX5 38 "UndoCellar" "markedSoFar" "I", Cond.instanceMethod yX0_markEnded, Cond.initialized RX0, Cond.selects RX0 yX0_markEnded yX0_markEnded, Cond.code yX0_markEnded cX0_markEnded 6 (some .int), Cond.fieldLink RX0 11 "UndoCellar$Block" "slots" "[LUndoCellar$Slot;", Cond.instanceMethod yX3_isEnded, Cond.initialized RX3, Cond.selects RX3 yX3_isEnded yX3_isEnded, Cond.code yX3_isEnded cX3_isEnded 1 (some .boolean), Cond.fieldLink RX3 7 "UndoCellar$Slot" "holder" "LUndoCellar$Transaction;", Cond.methodLink RX5 170 yX5_valueAheadOf, Cond.instanceMethod yX5_valueAheadOf, Cond.selects RX5 yX5_valueAheadOf yX5_valueAheadOf, Cond.code yX5_valueAheadOf cX5_valueAheadOf 3 (some .int)]
def wsX5_read : List Cond := .code yX5_read cX5_read 5 (some .int) :: ((wsX5_read_r1 ++ (wsX5_read_r2 ++ (wsX5_read_r3 ++ wsX5_read_r4))) ++ wsX40 ++ wsX50 ++ wsJx4a65c0 ++ wsX20 ++ wsX10 ++ wsX00 ++ wsX30 ++ (vx_atS RX5 193 "java/lang/IndexOutOfBoundsException" ["java/lang/RuntimeException", "java/lang/Exception"]).filter goodWord ++ (vx_atS RX5 63 "java/lang/IllegalStateException" ["java/lang/RuntimeException", "java/lang/Exception"]).filter goodWord ++ (vx_atS RX5 235 "java/util/NoSuchElementException" ["java/lang/RuntimeException", "java/lang/Exception"]).filter goodWord)
def wsX5_refuseIfNotYet : List Cond := .code yX5_refuseIfNotYet cX5_refuseIfNotYet 2 none :: ([.classLink RX5 48 "java/lang/IllegalArgumentException", .initialized "java/lang/IllegalArgumentException", .fieldLink RX5 35 "UndoCellar" "momentOfNow" "I"] ++ wsX50 ++ (vx_atS RX5 52 "java/lang/IllegalArgumentException" ["java/lang/RuntimeException", "java/lang/Exception"]).filter goodWord)
def wsX5_readAt_r1 : List Cond := [Cond.methodLink RX5 85 yX5_rowNumbered, Cond.instanceMethod yX5_rowNumbered, Cond.selects RX5 yX5_rowNumbered yX5_rowNumbered, Cond.initialized RX5, Cond.code yX5_rowNumbered cX5_rowNumbered 2 (some (.object "UndoCellar$Row")), Cond.classLink RX5 189 "java/lang/IndexOutOfBoundsException", Cond.initialized "java/lang/IndexOutOfBoundsException", Cond.fieldLink RX5 17 "UndoCellar" "rows" "[LUndoCellar$Row;", Cond.methodLink RX5 148 yX5_refuseIfNotYet, Cond.instanceMethod yX5_refuseIfNotYet, Cond.selects RX5 yX5_refuseIfNotYet yX5_refuseIfNotYet, Cond.code yX5_refuseIfNotYet cX5_refuseIfNotYet 2 none, Cond.classLink RX5 48 "java/lang/IllegalArgumentException", Cond.initialized "java/lang/IllegalArgumentException", Cond.fieldLink RX5 35 "UndoCellar" "momentOfNow" "I", Cond.methodLink RX5 144 yX5_readFromRecords, Cond.instanceMethod yX5_readFromRecords, Cond.selects RX5 yX5_readFromRecords yX5_readFromRecords, Cond.code yX5_readFromRecords cX5_readFromRecords 5 (some .int), Cond.classLink RX5 231 "java/util/NoSuchElementException", Cond.initialized "java/util/NoSuchElementException", Cond.fieldLink RX5 41 "UndoCellar" "droppedSoFar" "I", Cond.methodLink RX5 167 yX5_oldestUnseen, Cond.instanceMethod yX5_oldestUnseen]
def wsX5_readAt_r2 : List Cond := [Cond.selects RX5 yX5_oldestUnseen yX5_oldestUnseen, Cond.code yX5_oldestUnseen cX5_oldestUnseen 7 (some .int), Cond.fieldLink RX5 28 "UndoCellar" "changes" "Ljava/util/ArrayList;", Cond.classLink RX5 126 "UndoCellar$Change", Cond.methodLink RX5 64 yJx4a65c_size_8abf5, Cond.instanceMethod yJx4a65c_size_8abf5, Cond.selects RJx4a65c yJx4a65c_size_8abf5 yJx4a65c_size_8abf5, Cond.initialized RJx4a65c, Cond.code yJx4a65c_size_8abf5 cJx4a65c_size_8abf5 1 (some .int), Cond.fieldLink RJx4a65c 48 "java/util/ArrayList" "size" "I", Cond.methodLink RX5 194 yJx4a65c_get_915e3, Cond.instanceMethod yJx4a65c_get_915e3, Cond.selects RJx4a65c yJx4a65c_get_915e3 yJx4a65c_get_915e3, Cond.code yJx4a65c_get_915e3 cJx4a65c_get_915e3 2 (some (.object "java/lang/Object")), Cond.methodLink RJx4a65c 118 yJ15_checkIndex_7cf53, Cond.static yJ15_checkIndex_7cf53, Cond.initialized RJ15, Cond.code yJ15_checkIndex_7cf53 cJ15_checkIndex_7cf53 2 (some .int), Cond.methodLink RJ15 105 yJ3_checkIndex_8e157, Cond.static yJ3_checkIndex_8e157, Cond.initialized RJ3, Cond.code yJ3_checkIndex_8e157 cJ3_checkIndex_8e157 3 (some .int), Cond.methodLink RJx4a65c 123 yJx4a65c_elementData_915e3, Cond.instanceMethod yJx4a65c_elementData_915e3]
def wsX5_readAt_r3 : List Cond := [Cond.selects RJx4a65c yJx4a65c_elementData_915e3 yJx4a65c_elementData_915e3, Cond.code yJx4a65c_elementData_915e3 cJx4a65c_elementData_915e3 2 (some (.object "java/lang/Object")), Cond.fieldLink RJx4a65c 9 "java/util/ArrayList" "elementData" "[Ljava/lang/Object;", Cond.instanceMethod yX1_stands, Cond.initialized RX1, Cond.selects RX1 yX1_stands yX1_stands, Cond.code yX1_stands cX1_stands 2 (some .boolean), Cond.fieldLink RX1 17 "UndoCellar$Change" "row" "LUndoCellar$Row;", Cond.fieldLink RX1 7 "UndoCellar$Change" "isVoid" "Z", Cond.instanceMethod yX1_isSeen, Cond.selects RX1 yX1_isSeen yX1_isSeen, Cond.code yX1_isSeen cX1_isSeen 3 (some .boolean), Cond.fieldLink RX1 13 "UndoCellar$Change" "transaction" "LUndoCellar$Transaction;", Cond.instanceMethod yX4_isCommittedBy, Cond.initialized RX4, Cond.selects RX4 yX4_isCommittedBy yX4_isCommittedBy, Cond.code yX4_isCommittedBy cX4_isCommittedBy 2 (some .boolean), Cond.fieldLink RX4 15 "UndoCellar$Transaction" "committedAt" "I", Cond.methodLink RX5 114 yX5_clean, Cond.instanceMethod yX5_clean, Cond.selects RX5 yX5_clean yX5_clean, Cond.code yX5_clean cX5_clean 2 none, Cond.fieldLink RX5 38 "UndoCellar" "markedSoFar" "I", Cond.instanceMethod yX0_markEnded]
def wsX5_readAt_r4 : List Cond := [Cond.initialized RX0, Cond.selects RX0 yX0_markEnded yX0_markEnded, Cond.code yX0_markEnded cX0_markEnded 6 (some .int), Cond.fieldLink RX0 11 "UndoCellar$Block" "slots" "[LUndoCellar$Slot;", Cond.instanceMethod yX3_isEnded, Cond.initialized RX3, Cond.selects RX3 yX3_isEnded yX3_isEnded, Cond.code yX3_isEnded cX3_isEnded 1 (some .boolean), Cond.fieldLink RX3 7 "UndoCellar$Slot" "holder" "LUndoCellar$Transaction;", Cond.methodLink RX5 170 yX5_valueAheadOf, Cond.instanceMethod yX5_valueAheadOf, Cond.selects RX5 yX5_valueAheadOf yX5_valueAheadOf, Cond.code yX5_valueAheadOf cX5_valueAheadOf 3 (some .int)]
def wsX5_readAt : List Cond := .code yX5_readAt cX5_readAt 4 (some .int) :: ((wsX5_readAt_r1 ++ (wsX5_readAt_r2 ++ (wsX5_readAt_r3 ++ wsX5_readAt_r4))) ++ wsX50 ++ wsX20 ++ wsJx4a65c0 ++ wsX10 ++ wsX40 ++ wsX00 ++ wsX30 ++ (vx_atS RX5 193 "java/lang/IndexOutOfBoundsException" ["java/lang/RuntimeException", "java/lang/Exception"]).filter goodWord ++ (vx_atS RX5 52 "java/lang/IllegalArgumentException" ["java/lang/RuntimeException", "java/lang/Exception"]).filter goodWord ++ (vx_atS RX5 235 "java/util/NoSuchElementException" ["java/lang/RuntimeException", "java/lang/Exception"]).filter goodWord)
def wsX5_save_r1 : List Cond := [Cond.methodLink RX5 81 yX5_transactionNumbered, Cond.instanceMethod yX5_transactionNumbered, Cond.selects RX5 yX5_transactionNumbered yX5_transactionNumbered, Cond.initialized RX5, Cond.code yX5_transactionNumbered cX5_transactionNumbered 2 (some (.object "UndoCellar$Transaction")), Cond.classLink RX5 189 "java/lang/IndexOutOfBoundsException", Cond.initialized "java/lang/IndexOutOfBoundsException", Cond.fieldLink RX5 24 "UndoCellar" "begun" "Ljava/util/ArrayList;", Cond.classLink RX5 69 "UndoCellar$Transaction", Cond.methodLink RX5 64 yJx4a65c_size_8abf5, Cond.instanceMethod yJx4a65c_size_8abf5, Cond.selects RJx4a65c yJx4a65c_size_8abf5 yJx4a65c_size_8abf5, Cond.initialized RJx4a65c, Cond.code yJx4a65c_size_8abf5 cJx4a65c_size_8abf5 1 (some .int), Cond.fieldLink RJx4a65c 48 "java/util/ArrayList" "size" "I", Cond.methodLink RX5 194 yJx4a65c_get_915e3, Cond.instanceMethod yJx4a65c_get_915e3, Cond.selects RJx4a65c yJx4a65c_get_915e3 yJx4a65c_get_915e3, Cond.code yJx4a65c_get_915e3 cJx4a65c_get_915e3 2 (some (.object "java/lang/Object")), Cond.methodLink RJx4a65c 118 yJ15_checkIndex_7cf53, Cond.static yJ15_checkIndex_7cf53, Cond.initialized RJ15, Cond.code yJ15_checkIndex_7cf53 cJ15_checkIndex_7cf53 2 (some .int), Cond.methodLink RJ15 105 yJ3_checkIndex_8e157]
def wsX5_save_r2 : List Cond := [Cond.static yJ3_checkIndex_8e157, Cond.initialized RJ3, Cond.code yJ3_checkIndex_8e157 cJ3_checkIndex_8e157 3 (some .int), Cond.methodLink RJx4a65c 123 yJx4a65c_elementData_915e3, Cond.instanceMethod yJx4a65c_elementData_915e3, Cond.selects RJx4a65c yJx4a65c_elementData_915e3 yJx4a65c_elementData_915e3, Cond.code yJx4a65c_elementData_915e3 cJx4a65c_elementData_915e3 2 (some (.object "java/lang/Object")), Cond.fieldLink RJx4a65c 9 "java/util/ArrayList" "elementData" "[Ljava/lang/Object;", Cond.methodLink RX5 93 yX5_refuseIfEnded, Cond.instanceMethod yX5_refuseIfEnded, Cond.selects RX5 yX5_refuseIfEnded yX5_refuseIfEnded, Cond.code yX5_refuseIfEnded cX5_refuseIfEnded 2 none, Cond.classLink RX5 59 "java/lang/IllegalStateException", Cond.initialized "java/lang/IllegalStateException"]
def wsX5_save : List Cond := .code yX5_save cX5_save 3 (some .int) :: ((wsX5_save_r1 ++ wsX5_save_r2) ++ wsX40 ++ wsX50 ++ wsJx4a65c0 ++ (vx_atS RX5 193 "java/lang/IndexOutOfBoundsException" ["java/lang/RuntimeException", "java/lang/Exception"]).filter goodWord ++ (vx_atS RX5 63 "java/lang/IllegalStateException" ["java/lang/RuntimeException", "java/lang/Exception"]).filter goodWord)
def wsX5_undoDownTo_r1 : List Cond := [Cond.fieldLink RX5 28 "UndoCellar" "changes" "Ljava/util/ArrayList;", Cond.classLink RX5 126 "UndoCellar$Change", Cond.methodLink RX5 64 yJx4a65c_size_8abf5, Cond.instanceMethod yJx4a65c_size_8abf5, Cond.selects RJx4a65c yJx4a65c_size_8abf5 yJx4a65c_size_8abf5, Cond.initialized RJx4a65c, Cond.code yJx4a65c_size_8abf5 cJx4a65c_size_8abf5 1 (some .int), Cond.fieldLink RJx4a65c 48 "java/util/ArrayList" "size" "I", Cond.methodLink RX5 194 yJx4a65c_get_915e3, Cond.instanceMethod yJx4a65c_get_915e3, Cond.selects RJx4a65c yJx4a65c_get_915e3 yJx4a65c_get_915e3, Cond.code yJx4a65c_get_915e3 cJx4a65c_get_915e3 2 (some (.object "java/lang/Object")), Cond.methodLink RJx4a65c 118 yJ15_checkIndex_7cf53, Cond.static yJ15_checkIndex_7cf53, Cond.initialized RJ15, Cond.code yJ15_checkIndex_7cf53 cJ15_checkIndex_7cf53 2 (some .int), Cond.methodLink RJ15 105 yJ3_checkIndex_8e157, Cond.static yJ3_checkIndex_8e157, Cond.initialized RJ3, Cond.code yJ3_checkIndex_8e157 cJ3_checkIndex_8e157 3 (some .int), Cond.methodLink RJx4a65c 123 yJx4a65c_elementData_915e3, Cond.instanceMethod yJx4a65c_elementData_915e3, Cond.selects RJx4a65c yJx4a65c_elementData_915e3 yJx4a65c_elementData_915e3, Cond.code yJx4a65c_elementData_915e3 cJx4a65c_elementData_915e3 2 (some (.object "java/lang/Object"))]
def wsX5_undoDownTo_r2 : List Cond := [Cond.fieldLink RJx4a65c 9 "java/util/ArrayList" "elementData" "[Ljava/lang/Object;", Cond.instanceMethod yX1_takeBack, Cond.initialized RX1, Cond.selects RX1 yX1_takeBack yX1_takeBack, Cond.code yX1_takeBack cX1_takeBack 1 none, Cond.fieldLink RX1 17 "UndoCellar$Change" "row" "LUndoCellar$Row;", Cond.fieldLink RX1 21 "UndoCellar$Change" "ahead" "I", Cond.fieldLink RX1 7 "UndoCellar$Change" "isVoid" "Z", Cond.fieldLink RX1 13 "UndoCellar$Change" "transaction" "LUndoCellar$Transaction;"]
def wsX5_undoDownTo : List Cond := .code yX5_undoDownTo cX5_undoDownTo 6 (some .int) :: ((wsX5_undoDownTo_r1 ++ wsX5_undoDownTo_r2) ++ wsX50 ++ wsX40 ++ wsX10 ++ wsJx4a65c0 ++ wsX20)
def wsX5_undoTo_r1 : List Cond := [Cond.classLink RX5 48 "java/lang/IllegalArgumentException", Cond.initialized "java/lang/IllegalArgumentException", Cond.methodLink RX5 81 yX5_transactionNumbered, Cond.instanceMethod yX5_transactionNumbered, Cond.selects RX5 yX5_transactionNumbered yX5_transactionNumbered, Cond.initialized RX5, Cond.code yX5_transactionNumbered cX5_transactionNumbered 2 (some (.object "UndoCellar$Transaction")), Cond.classLink RX5 189 "java/lang/IndexOutOfBoundsException", Cond.initialized "java/lang/IndexOutOfBoundsException", Cond.fieldLink RX5 24 "UndoCellar" "begun" "Ljava/util/ArrayList;", Cond.classLink RX5 69 "UndoCellar$Transaction", Cond.methodLink RX5 64 yJx4a65c_size_8abf5, Cond.instanceMethod yJx4a65c_size_8abf5, Cond.selects RJx4a65c yJx4a65c_size_8abf5 yJx4a65c_size_8abf5, Cond.initialized RJx4a65c, Cond.code yJx4a65c_size_8abf5 cJx4a65c_size_8abf5 1 (some .int), Cond.fieldLink RJx4a65c 48 "java/util/ArrayList" "size" "I", Cond.methodLink RX5 194 yJx4a65c_get_915e3, Cond.instanceMethod yJx4a65c_get_915e3, Cond.selects RJx4a65c yJx4a65c_get_915e3 yJx4a65c_get_915e3, Cond.code yJx4a65c_get_915e3 cJx4a65c_get_915e3 2 (some (.object "java/lang/Object")), Cond.methodLink RJx4a65c 118 yJ15_checkIndex_7cf53, Cond.static yJ15_checkIndex_7cf53, Cond.initialized RJ15]
def wsX5_undoTo_r2 : List Cond := [Cond.code yJ15_checkIndex_7cf53 cJ15_checkIndex_7cf53 2 (some .int), Cond.methodLink RJ15 105 yJ3_checkIndex_8e157, Cond.static yJ3_checkIndex_8e157, Cond.initialized RJ3, Cond.code yJ3_checkIndex_8e157 cJ3_checkIndex_8e157 3 (some .int), Cond.methodLink RJx4a65c 123 yJx4a65c_elementData_915e3, Cond.instanceMethod yJx4a65c_elementData_915e3, Cond.selects RJx4a65c yJx4a65c_elementData_915e3 yJx4a65c_elementData_915e3, Cond.code yJx4a65c_elementData_915e3 cJx4a65c_elementData_915e3 2 (some (.object "java/lang/Object")), Cond.fieldLink RJx4a65c 9 "java/util/ArrayList" "elementData" "[Ljava/lang/Object;", Cond.methodLink RX5 93 yX5_refuseIfEnded, Cond.instanceMethod yX5_refuseIfEnded, Cond.selects RX5 yX5_refuseIfEnded yX5_refuseIfEnded, Cond.code yX5_refuseIfEnded cX5_refuseIfEnded 2 none, Cond.classLink RX5 59 "java/lang/IllegalStateException", Cond.initialized "java/lang/IllegalStateException", Cond.methodLink RX5 156 yX5_undoDownTo, Cond.instanceMethod yX5_undoDownTo, Cond.selects RX5 yX5_undoDownTo yX5_undoDownTo, Cond.code yX5_undoDownTo cX5_undoDownTo 6 (some .int), Cond.fieldLink RX5 28 "UndoCellar" "changes" "Ljava/util/ArrayList;", Cond.classLink RX5 126 "UndoCellar$Change", Cond.instanceMethod yX1_takeBack, Cond.initialized RX1]
def wsX5_undoTo_r3 : List Cond := [Cond.selects RX1 yX1_takeBack yX1_takeBack, Cond.code yX1_takeBack cX1_takeBack 1 none, Cond.fieldLink RX1 17 "UndoCellar$Change" "row" "LUndoCellar$Row;", Cond.fieldLink RX1 21 "UndoCellar$Change" "ahead" "I", Cond.fieldLink RX1 7 "UndoCellar$Change" "isVoid" "Z", Cond.fieldLink RX1 13 "UndoCellar$Change" "transaction" "LUndoCellar$Transaction;"]
def wsX5_undoTo : List Cond := .code yX5_undoTo cX5_undoTo 4 (some .int) :: ((wsX5_undoTo_r1 ++ (wsX5_undoTo_r2 ++ wsX5_undoTo_r3)) ++ wsX40 ++ wsX50 ++ wsJx4a65c0 ++ wsX10 ++ wsX20 ++ (vx_atS RX5 52 "java/lang/IllegalArgumentException" ["java/lang/RuntimeException", "java/lang/Exception"]).filter goodWord ++ (vx_atS RX5 193 "java/lang/IndexOutOfBoundsException" ["java/lang/RuntimeException", "java/lang/Exception"]).filter goodWord ++ (vx_atS RX5 63 "java/lang/IllegalStateException" ["java/lang/RuntimeException", "java/lang/Exception"]).filter goodWord)
def wsX5_undo_r1 : List Cond := [Cond.methodLink RX5 81 yX5_transactionNumbered, Cond.instanceMethod yX5_transactionNumbered, Cond.selects RX5 yX5_transactionNumbered yX5_transactionNumbered, Cond.initialized RX5, Cond.code yX5_transactionNumbered cX5_transactionNumbered 2 (some (.object "UndoCellar$Transaction")), Cond.classLink RX5 189 "java/lang/IndexOutOfBoundsException", Cond.initialized "java/lang/IndexOutOfBoundsException", Cond.fieldLink RX5 24 "UndoCellar" "begun" "Ljava/util/ArrayList;", Cond.classLink RX5 69 "UndoCellar$Transaction", Cond.methodLink RX5 64 yJx4a65c_size_8abf5, Cond.instanceMethod yJx4a65c_size_8abf5, Cond.selects RJx4a65c yJx4a65c_size_8abf5 yJx4a65c_size_8abf5, Cond.initialized RJx4a65c, Cond.code yJx4a65c_size_8abf5 cJx4a65c_size_8abf5 1 (some .int), Cond.fieldLink RJx4a65c 48 "java/util/ArrayList" "size" "I", Cond.methodLink RX5 194 yJx4a65c_get_915e3, Cond.instanceMethod yJx4a65c_get_915e3, Cond.selects RJx4a65c yJx4a65c_get_915e3 yJx4a65c_get_915e3, Cond.code yJx4a65c_get_915e3 cJx4a65c_get_915e3 2 (some (.object "java/lang/Object")), Cond.methodLink RJx4a65c 118 yJ15_checkIndex_7cf53, Cond.static yJ15_checkIndex_7cf53, Cond.initialized RJ15, Cond.code yJ15_checkIndex_7cf53 cJ15_checkIndex_7cf53 2 (some .int), Cond.methodLink RJ15 105 yJ3_checkIndex_8e157]
def wsX5_undo_r2 : List Cond := [Cond.static yJ3_checkIndex_8e157, Cond.initialized RJ3, Cond.code yJ3_checkIndex_8e157 cJ3_checkIndex_8e157 3 (some .int), Cond.methodLink RJx4a65c 123 yJx4a65c_elementData_915e3, Cond.instanceMethod yJx4a65c_elementData_915e3, Cond.selects RJx4a65c yJx4a65c_elementData_915e3 yJx4a65c_elementData_915e3, Cond.code yJx4a65c_elementData_915e3 cJx4a65c_elementData_915e3 2 (some (.object "java/lang/Object")), Cond.fieldLink RJx4a65c 9 "java/util/ArrayList" "elementData" "[Ljava/lang/Object;", Cond.methodLink RX5 93 yX5_refuseIfEnded, Cond.instanceMethod yX5_refuseIfEnded, Cond.selects RX5 yX5_refuseIfEnded yX5_refuseIfEnded, Cond.code yX5_refuseIfEnded cX5_refuseIfEnded 2 none, Cond.classLink RX5 59 "java/lang/IllegalStateException", Cond.initialized "java/lang/IllegalStateException", Cond.methodLink RX5 156 yX5_undoDownTo, Cond.instanceMethod yX5_undoDownTo, Cond.selects RX5 yX5_undoDownTo yX5_undoDownTo, Cond.code yX5_undoDownTo cX5_undoDownTo 6 (some .int), Cond.fieldLink RX5 28 "UndoCellar" "changes" "Ljava/util/ArrayList;", Cond.classLink RX5 126 "UndoCellar$Change", Cond.instanceMethod yX1_takeBack, Cond.initialized RX1, Cond.selects RX1 yX1_takeBack yX1_takeBack, Cond.code yX1_takeBack cX1_takeBack 1 none]
def wsX5_undo_r3 : List Cond := [Cond.fieldLink RX1 17 "UndoCellar$Change" "row" "LUndoCellar$Row;", Cond.fieldLink RX1 21 "UndoCellar$Change" "ahead" "I", Cond.fieldLink RX1 7 "UndoCellar$Change" "isVoid" "Z", Cond.fieldLink RX1 13 "UndoCellar$Change" "transaction" "LUndoCellar$Transaction;"]
def wsX5_undo : List Cond := .code yX5_undo cX5_undo 4 (some .int) :: ((wsX5_undo_r1 ++ (wsX5_undo_r2 ++ wsX5_undo_r3)) ++ wsX40 ++ wsX50 ++ wsJx4a65c0 ++ wsX10 ++ wsX20 ++ (vx_atS RX5 193 "java/lang/IndexOutOfBoundsException" ["java/lang/RuntimeException", "java/lang/Exception"]).filter goodWord ++ (vx_atS RX5 63 "java/lang/IllegalStateException" ["java/lang/RuntimeException", "java/lang/Exception"]).filter goodWord)
def wsX5_commit_r1 : List Cond := [Cond.fieldLink RX5 35 "UndoCellar" "momentOfNow" "I", Cond.methodLink RX5 81 yX5_transactionNumbered, Cond.instanceMethod yX5_transactionNumbered, Cond.selects RX5 yX5_transactionNumbered yX5_transactionNumbered, Cond.initialized RX5, Cond.code yX5_transactionNumbered cX5_transactionNumbered 2 (some (.object "UndoCellar$Transaction")), Cond.classLink RX5 189 "java/lang/IndexOutOfBoundsException", Cond.initialized "java/lang/IndexOutOfBoundsException", Cond.fieldLink RX5 24 "UndoCellar" "begun" "Ljava/util/ArrayList;", Cond.classLink RX5 69 "UndoCellar$Transaction", Cond.methodLink RX5 64 yJx4a65c_size_8abf5, Cond.instanceMethod yJx4a65c_size_8abf5, Cond.selects RJx4a65c yJx4a65c_size_8abf5 yJx4a65c_size_8abf5, Cond.initialized RJx4a65c, Cond.code yJx4a65c_size_8abf5 cJx4a65c_size_8abf5 1 (some .int), Cond.fieldLink RJx4a65c 48 "java/util/ArrayList" "size" "I", Cond.methodLink RX5 194 yJx4a65c_get_915e3, Cond.instanceMethod yJx4a65c_get_915e3, Cond.selects RJx4a65c yJx4a65c_get_915e3 yJx4a65c_get_915e3, Cond.code yJx4a65c_get_915e3 cJx4a65c_get_915e3 2 (some (.object "java/lang/Object")), Cond.methodLink RJx4a65c 118 yJ15_checkIndex_7cf53, Cond.static yJ15_checkIndex_7cf53, Cond.initialized RJ15, Cond.code yJ15_checkIndex_7cf53 cJ15_checkIndex_7cf53 2 (some .int)]
def wsX5_commit_r2 : List Cond := [Cond.methodLink RJ15 105 yJ3_checkIndex_8e157, Cond.static yJ3_checkIndex_8e157, Cond.initialized RJ3, Cond.code yJ3_checkIndex_8e157 cJ3_checkIndex_8e157 3 (some .int), Cond.methodLink RJx4a65c 123 yJx4a65c_elementData_915e3, Cond.instanceMethod yJx4a65c_elementData_915e3, Cond.selects RJx4a65c yJx4a65c_elementData_915e3 yJx4a65c_elementData_915e3, Cond.code yJx4a65c_elementData_915e3 cJx4a65c_elementData_915e3 2 (some (.object "java/lang/Object")), Cond.fieldLink RJx4a65c 9 "java/util/ArrayList" "elementData" "[Ljava/lang/Object;", Cond.methodLink RX5 93 yX5_refuseIfEnded, Cond.instanceMethod yX5_refuseIfEnded, Cond.selects RX5 yX5_refuseIfEnded yX5_refuseIfEnded, Cond.code yX5_refuseIfEnded cX5_refuseIfEnded 2 none, Cond.classLink RX5 59 "java/lang/IllegalStateException", Cond.initialized "java/lang/IllegalStateException"]
def wsX5_commit : List Cond := .code yX5_commit cX5_commit 3 (some .int) :: ((wsX5_commit_r1 ++ wsX5_commit_r2) ++ wsX50 ++ wsX40 ++ wsJx4a65c0 ++ (vx_atS RX5 193 "java/lang/IndexOutOfBoundsException" ["java/lang/RuntimeException", "java/lang/Exception"]).filter goodWord ++ (vx_atS RX5 63 "java/lang/IllegalStateException" ["java/lang/RuntimeException", "java/lang/Exception"]).filter goodWord)
def wsX5_moment : List Cond := .code yX5_moment cX5_moment 1 (some .int) :: ([.fieldLink RX5 35 "UndoCellar" "momentOfNow" "I"] ++ wsX50)
def wsX5_transactions : List Cond := .code yX5_transactions cX5_transactions 1 (some .int) :: ([.fieldLink RX5 24 "UndoCellar" "begun" "Ljava/util/ArrayList;", .methodLink RX5 64 yJx4a65c_size_8abf5, .instanceMethod yJx4a65c_size_8abf5, .selects RJx4a65c yJx4a65c_size_8abf5 yJx4a65c_size_8abf5, .initialized RJx4a65c, .code yJx4a65c_size_8abf5 cJx4a65c_size_8abf5 1 (some .int), .fieldLink RJx4a65c 48 "java/util/ArrayList" "size" "I"] ++ wsX50 ++ wsJx4a65c0)
def wsX5_now : List Cond := .code yX5_now cX5_now 2 (some .int) :: ([.methodLink RX5 85 yX5_rowNumbered, .instanceMethod yX5_rowNumbered, .selects RX5 yX5_rowNumbered yX5_rowNumbered, .initialized RX5, .code yX5_rowNumbered cX5_rowNumbered 2 (some (.object "UndoCellar$Row")), .classLink RX5 189 "java/lang/IndexOutOfBoundsException", .initialized "java/lang/IndexOutOfBoundsException", .fieldLink RX5 17 "UndoCellar" "rows" "[LUndoCellar$Row;"] ++ wsX20 ++ wsX50 ++ (vx_atS RX5 193 "java/lang/IndexOutOfBoundsException" ["java/lang/RuntimeException", "java/lang/Exception"]).filter goodWord)
def wsX5_versionAt_r1 : List Cond := [Cond.methodLink RX5 85 yX5_rowNumbered, Cond.instanceMethod yX5_rowNumbered, Cond.selects RX5 yX5_rowNumbered yX5_rowNumbered, Cond.initialized RX5, Cond.code yX5_rowNumbered cX5_rowNumbered 2 (some (.object "UndoCellar$Row")), Cond.classLink RX5 189 "java/lang/IndexOutOfBoundsException", Cond.initialized "java/lang/IndexOutOfBoundsException", Cond.fieldLink RX5 17 "UndoCellar" "rows" "[LUndoCellar$Row;", Cond.methodLink RX5 148 yX5_refuseIfNotYet, Cond.instanceMethod yX5_refuseIfNotYet, Cond.selects RX5 yX5_refuseIfNotYet yX5_refuseIfNotYet, Cond.code yX5_refuseIfNotYet cX5_refuseIfNotYet 2 none, Cond.classLink RX5 48 "java/lang/IllegalArgumentException", Cond.initialized "java/lang/IllegalArgumentException", Cond.fieldLink RX5 35 "UndoCellar" "momentOfNow" "I", Cond.methodLink RX5 167 yX5_oldestUnseen, Cond.instanceMethod yX5_oldestUnseen, Cond.selects RX5 yX5_oldestUnseen yX5_oldestUnseen, Cond.code yX5_oldestUnseen cX5_oldestUnseen 7 (some .int), Cond.fieldLink RX5 28 "UndoCellar" "changes" "Ljava/util/ArrayList;", Cond.classLink RX5 126 "UndoCellar$Change", Cond.methodLink RX5 64 yJx4a65c_size_8abf5, Cond.instanceMethod yJx4a65c_size_8abf5, Cond.selects RJx4a65c yJx4a65c_size_8abf5 yJx4a65c_size_8abf5]
def wsX5_versionAt_r2 : List Cond := [Cond.initialized RJx4a65c, Cond.code yJx4a65c_size_8abf5 cJx4a65c_size_8abf5 1 (some .int), Cond.fieldLink RJx4a65c 48 "java/util/ArrayList" "size" "I", Cond.methodLink RX5 194 yJx4a65c_get_915e3, Cond.instanceMethod yJx4a65c_get_915e3, Cond.selects RJx4a65c yJx4a65c_get_915e3 yJx4a65c_get_915e3, Cond.code yJx4a65c_get_915e3 cJx4a65c_get_915e3 2 (some (.object "java/lang/Object")), Cond.methodLink RJx4a65c 118 yJ15_checkIndex_7cf53, Cond.static yJ15_checkIndex_7cf53, Cond.initialized RJ15, Cond.code yJ15_checkIndex_7cf53 cJ15_checkIndex_7cf53 2 (some .int), Cond.methodLink RJ15 105 yJ3_checkIndex_8e157, Cond.static yJ3_checkIndex_8e157, Cond.initialized RJ3, Cond.code yJ3_checkIndex_8e157 cJ3_checkIndex_8e157 3 (some .int), Cond.methodLink RJx4a65c 123 yJx4a65c_elementData_915e3, Cond.instanceMethod yJx4a65c_elementData_915e3, Cond.selects RJx4a65c yJx4a65c_elementData_915e3 yJx4a65c_elementData_915e3, Cond.code yJx4a65c_elementData_915e3 cJx4a65c_elementData_915e3 2 (some (.object "java/lang/Object")), Cond.fieldLink RJx4a65c 9 "java/util/ArrayList" "elementData" "[Ljava/lang/Object;", Cond.instanceMethod yX1_stands, Cond.initialized RX1, Cond.selects RX1 yX1_stands yX1_stands, Cond.code yX1_stands cX1_stands 2 (some .boolean)]
def wsX5_versionAt_r3 : List Cond := [Cond.fieldLink RX1 17 "UndoCellar$Change" "row" "LUndoCellar$Row;", Cond.fieldLink RX1 7 "UndoCellar$Change" "isVoid" "Z", Cond.instanceMethod yX1_isSeen, Cond.selects RX1 yX1_isSeen yX1_isSeen, Cond.code yX1_isSeen cX1_isSeen 3 (some .boolean), Cond.fieldLink RX1 13 "UndoCellar$Change" "transaction" "LUndoCellar$Transaction;", Cond.instanceMethod yX4_isCommittedBy, Cond.initialized RX4, Cond.selects RX4 yX4_isCommittedBy yX4_isCommittedBy, Cond.code yX4_isCommittedBy cX4_isCommittedBy 2 (some .boolean), Cond.fieldLink RX4 15 "UndoCellar$Transaction" "committedAt" "I", Cond.methodLink RX5 170 yX5_valueAheadOf, Cond.instanceMethod yX5_valueAheadOf, Cond.selects RX5 yX5_valueAheadOf yX5_valueAheadOf, Cond.code yX5_valueAheadOf cX5_valueAheadOf 3 (some .int)]
def wsX5_versionAt : List Cond := .code yX5_versionAt cX5_versionAt 4 (some .int) :: ((wsX5_versionAt_r1 ++ (wsX5_versionAt_r2 ++ wsX5_versionAt_r3)) ++ wsX50 ++ wsJx4a65c0 ++ wsX10 ++ wsX40 ++ wsX20 ++ (vx_atS RX5 193 "java/lang/IndexOutOfBoundsException" ["java/lang/RuntimeException", "java/lang/Exception"]).filter goodWord ++ (vx_atS RX5 52 "java/lang/IllegalArgumentException" ["java/lang/RuntimeException", "java/lang/Exception"]).filter goodWord)
def wsX5_lockOf_r1 : List Cond := [Cond.methodLink RX5 85 yX5_rowNumbered, Cond.instanceMethod yX5_rowNumbered, Cond.selects RX5 yX5_rowNumbered yX5_rowNumbered, Cond.initialized RX5, Cond.code yX5_rowNumbered cX5_rowNumbered 2 (some (.object "UndoCellar$Row")), Cond.classLink RX5 189 "java/lang/IndexOutOfBoundsException", Cond.initialized "java/lang/IndexOutOfBoundsException", Cond.fieldLink RX5 17 "UndoCellar" "rows" "[LUndoCellar$Row;", Cond.methodLink RX5 174 yX5_lockerOf, Cond.instanceMethod yX5_lockerOf, Cond.selects RX5 yX5_lockerOf yX5_lockerOf, Cond.code yX5_lockerOf cX5_lockerOf 4 (some (.object "UndoCellar$Transaction")), Cond.fieldLink RX5 28 "UndoCellar" "changes" "Ljava/util/ArrayList;", Cond.classLink RX5 126 "UndoCellar$Change", Cond.methodLink RX5 64 yJx4a65c_size_8abf5, Cond.instanceMethod yJx4a65c_size_8abf5, Cond.selects RJx4a65c yJx4a65c_size_8abf5 yJx4a65c_size_8abf5, Cond.initialized RJx4a65c, Cond.code yJx4a65c_size_8abf5 cJx4a65c_size_8abf5 1 (some .int), Cond.fieldLink RJx4a65c 48 "java/util/ArrayList" "size" "I", Cond.methodLink RX5 194 yJx4a65c_get_915e3, Cond.instanceMethod yJx4a65c_get_915e3, Cond.selects RJx4a65c yJx4a65c_get_915e3 yJx4a65c_get_915e3, Cond.code yJx4a65c_get_915e3 cJx4a65c_get_915e3 2 (some (.object "java/lang/Object"))]
def wsX5_lockOf_r2 : List Cond := [Cond.methodLink RJx4a65c 118 yJ15_checkIndex_7cf53, Cond.static yJ15_checkIndex_7cf53, Cond.initialized RJ15, Cond.code yJ15_checkIndex_7cf53 cJ15_checkIndex_7cf53 2 (some .int), Cond.methodLink RJ15 105 yJ3_checkIndex_8e157, Cond.static yJ3_checkIndex_8e157, Cond.initialized RJ3, Cond.code yJ3_checkIndex_8e157 cJ3_checkIndex_8e157 3 (some .int), Cond.methodLink RJx4a65c 123 yJx4a65c_elementData_915e3, Cond.instanceMethod yJx4a65c_elementData_915e3, Cond.selects RJx4a65c yJx4a65c_elementData_915e3 yJx4a65c_elementData_915e3, Cond.code yJx4a65c_elementData_915e3 cJx4a65c_elementData_915e3 2 (some (.object "java/lang/Object")), Cond.fieldLink RJx4a65c 9 "java/util/ArrayList" "elementData" "[Ljava/lang/Object;", Cond.instanceMethod yX1_stands, Cond.initialized RX1, Cond.selects RX1 yX1_stands yX1_stands, Cond.code yX1_stands cX1_stands 2 (some .boolean), Cond.fieldLink RX1 17 "UndoCellar$Change" "row" "LUndoCellar$Row;", Cond.fieldLink RX1 7 "UndoCellar$Change" "isVoid" "Z"]
def wsX5_lockOf : List Cond := .code yX5_lockOf cX5_lockOf 3 (some .int) :: ((wsX5_lockOf_r1 ++ wsX5_lockOf_r2) ++ wsX40 ++ wsX50 ++ wsX10 ++ wsJx4a65c0 ++ (vx_atS RX5 193 "java/lang/IndexOutOfBoundsException" ["java/lang/RuntimeException", "java/lang/Exception"]).filter goodWord)
def wsX5_slotNumbered : List Cond := .code yX5_slotNumbered cX5_slotNumbered 4 (some (.object "UndoCellar$Slot")) :: ([.classLink RX5 189 "java/lang/IndexOutOfBoundsException", .initialized "java/lang/IndexOutOfBoundsException", .fieldLink RX5 11 "UndoCellar" "blocks" "[LUndoCellar$Block;"] ++ wsX50 ++ wsX00 ++ (vx_atS RX5 193 "java/lang/IndexOutOfBoundsException" ["java/lang/RuntimeException", "java/lang/Exception"]).filter goodWord)
def wsX5_slotOf : List Cond := .code yX5_slotOf cX5_slotOf 4 (some .int) :: ([.methodLink RX5 178 yX5_slotNumbered, .instanceMethod yX5_slotNumbered, .selects RX5 yX5_slotNumbered yX5_slotNumbered, .initialized RX5, .code yX5_slotNumbered cX5_slotNumbered 4 (some (.object "UndoCellar$Slot")), .classLink RX5 189 "java/lang/IndexOutOfBoundsException", .initialized "java/lang/IndexOutOfBoundsException", .fieldLink RX5 11 "UndoCellar" "blocks" "[LUndoCellar$Block;"] ++ wsX30 ++ wsX40 ++ wsX50 ++ wsX00 ++ (vx_atS RX5 193 "java/lang/IndexOutOfBoundsException" ["java/lang/RuntimeException", "java/lang/Exception"]).filter goodWord)
def wsX5_isMarked : List Cond := .code yX5_isMarked cX5_isMarked 3 (some .boolean) :: ([.methodLink RX5 178 yX5_slotNumbered, .instanceMethod yX5_slotNumbered, .selects RX5 yX5_slotNumbered yX5_slotNumbered, .initialized RX5, .code yX5_slotNumbered cX5_slotNumbered 4 (some (.object "UndoCellar$Slot")), .classLink RX5 189 "java/lang/IndexOutOfBoundsException", .initialized "java/lang/IndexOutOfBoundsException", .fieldLink RX5 11 "UndoCellar" "blocks" "[LUndoCellar$Block;"] ++ wsX30 ++ wsX50 ++ wsX00 ++ (vx_atS RX5 193 "java/lang/IndexOutOfBoundsException" ["java/lang/RuntimeException", "java/lang/Exception"]).filter goodWord)
def wsX5_marked : List Cond := .code yX5_marked cX5_marked 1 (some .int) :: ([.fieldLink RX5 38 "UndoCellar" "markedSoFar" "I"] ++ wsX50)
def wsX5_records : List Cond := .code yX5_records cX5_records 1 (some .int) :: ([.methodLink RX5 55 yX5_recordsThere, .instanceMethod yX5_recordsThere, .selects RX5 yX5_recordsThere yX5_recordsThere, .initialized RX5, .code yX5_recordsThere cX5_recordsThere 1 (some .int), .fieldLink RX5 28 "UndoCellar" "changes" "Ljava/util/ArrayList;", .fieldLink RX5 41 "UndoCellar" "droppedSoFar" "I", .methodLink RX5 64 yJx4a65c_size_8abf5, .instanceMethod yJx4a65c_size_8abf5, .selects RJx4a65c yJx4a65c_size_8abf5 yJx4a65c_size_8abf5, .initialized RJx4a65c, .code yJx4a65c_size_8abf5 cJx4a65c_size_8abf5 1 (some .int), .fieldLink RJx4a65c 48 "java/util/ArrayList" "size" "I"] ++ wsX50 ++ wsJx4a65c0)
def wsX5_dropped : List Cond := .code yX5_dropped cX5_dropped 1 (some .int) :: ([.fieldLink RX5 41 "UndoCellar" "droppedSoFar" "I"] ++ wsX50)
def wsX6_init : List Cond := .code yX6_init cX6_init 2 none :: ([.methodLink RX6 1 objectInit, .instanceMethod objectInit, .code objectInit ⟨#[0xb1]⟩ 1 none, .arrayClass .int, .fieldLink RX6 7 "UndoCellarModel" "value" "[I", .fieldLink RX6 13 "UndoCellarModel" "size" "I", .fieldLink RX6 17 "UndoCellarModel" "state" "[I", .fieldLink RX6 20 "UndoCellarModel" "asOf" "[I", .fieldLink RX6 23 "UndoCellarModel" "committedAt" "[I", .fieldLink RX6 26 "UndoCellarModel" "by" "[I", .fieldLink RX6 29 "UndoCellarModel" "row" "[I", .fieldLink RX6 32 "UndoCellarModel" "ahead" "[I", .arrayClass .boolean, .fieldLink RX6 35 "UndoCellarModel" "isVoid" "[Z", .fieldLink RX6 39 "UndoCellarModel" "slot" "[I", .fieldLink RX6 42 "UndoCellarModel" "isEnded" "[Z"] ++ wsX60)
def wsX6_thrown : List Cond := .code yX6_thrown cX6_thrown 1 (some .int) :: ([.fieldLink RX6 45 "UndoCellarModel" "thrown" "I"] ++ wsX60)
def wsX6_can : List Cond := .code yX6_can cX6_can 2 (some .boolean) :: ([.fieldLink RX6 45 "UndoCellarModel" "thrown" "I"] ++ wsX60)
def wsX6_isIn : List Cond := .code yX6_isIn cX6_isIn 3 (some .boolean) :: ([])
def wsX6_isRow : List Cond := .code yX6_isRow cX6_isRow 1 (some .boolean) :: ([.methodLink RX6 48 yX6_isIn, .static yX6_isIn, .initialized RX6, .code yX6_isIn cX6_isIn 3 (some .boolean)])
def wsX6_isTransaction : List Cond := .code yX6_isTransaction cX6_isTransaction 2 (some .boolean) :: ([.fieldLink RX6 52 "UndoCellarModel" "transactions" "I", .methodLink RX6 48 yX6_isIn, .static yX6_isIn, .initialized RX6, .code yX6_isIn cX6_isIn 3 (some .boolean)] ++ wsX60)
def wsX6_isActive : List Cond := .code yX6_isActive cX6_isActive 2 (some .boolean) :: ([.fieldLink RX6 17 "UndoCellarModel" "state" "[I"] ++ wsX60)
def wsX6_setSpace : List Cond := .code yX6_setSpace cX6_setSpace 3 (some .int) :: ([.fieldLink RX6 55 "UndoCellarModel" "changes" "I", .fieldLink RX6 58 "UndoCellarModel" "dropped" "I", .fieldLink RX6 13 "UndoCellarModel" "size" "I", .methodLink RX6 48 yX6_isIn, .static yX6_isIn, .initialized RX6, .code yX6_isIn cX6_isIn 3 (some .boolean), .methodLink RX6 61 yX6_can, .instanceMethod yX6_can, .selects RX6 yX6_can yX6_can, .code yX6_can cX6_can 2 (some .boolean), .fieldLink RX6 45 "UndoCellarModel" "thrown" "I"] ++ wsX60)
def wsX6_begin : List Cond := .code yX6_begin cX6_begin 1 (some .int) :: ([.fieldLink RX6 52 "UndoCellarModel" "transactions" "I", .fieldLink RX6 20 "UndoCellarModel" "asOf" "[I", .fieldLink RX6 65 "UndoCellarModel" "moment" "I", .methodLink RX6 61 yX6_can, .instanceMethod yX6_can, .selects RX6 yX6_can yX6_can, .initialized RX6, .code yX6_can cX6_can 2 (some .boolean), .fieldLink RX6 45 "UndoCellarModel" "thrown" "I"] ++ wsX60)
def wsX6_lockOn : List Cond := .code yX6_lockOn cX6_lockOn 4 (some .int) :: ([.fieldLink RX6 55 "UndoCellarModel" "changes" "I", .fieldLink RX6 29 "UndoCellarModel" "row" "[I", .fieldLink RX6 35 "UndoCellarModel" "isVoid" "[Z", .fieldLink RX6 26 "UndoCellarModel" "by" "[I", .methodLink RX6 68 yX6_isActive, .instanceMethod yX6_isActive, .selects RX6 yX6_isActive yX6_isActive, .initialized RX6, .code yX6_isActive cX6_isActive 2 (some .boolean), .fieldLink RX6 17 "UndoCellarModel" "state" "[I"] ++ wsX60)
def wsX6_cleans : List Cond := .code yX6_cleans cX6_cleans 3 none :: ([.fieldLink RX6 39 "UndoCellarModel" "slot" "[I", .fieldLink RX6 42 "UndoCellarModel" "isEnded" "[Z", .fieldLink RX6 71 "UndoCellarModel" "marks" "I", .methodLink RX6 68 yX6_isActive, .instanceMethod yX6_isActive, .selects RX6 yX6_isActive yX6_isActive, .initialized RX6, .code yX6_isActive cX6_isActive 2 (some .boolean), .fieldLink RX6 17 "UndoCellarModel" "state" "[I"] ++ wsX60)
def wsX6_slotFor : List Cond := .code yX6_slotFor cX6_slotFor 6 (some .int) :: ([.fieldLink RX6 39 "UndoCellarModel" "slot" "[I", .methodLink RX6 68 yX6_isActive, .instanceMethod yX6_isActive, .selects RX6 yX6_isActive yX6_isActive, .initialized RX6, .code yX6_isActive cX6_isActive 2 (some .boolean), .fieldLink RX6 17 "UndoCellarModel" "state" "[I"] ++ wsX60)
def wsX6_hasSpace : List Cond := .code yX6_hasSpace cX6_hasSpace 1 (some .boolean) :: ([.fieldLink RX6 55 "UndoCellarModel" "changes" "I", .fieldLink RX6 58 "UndoCellarModel" "dropped" "I", .fieldLink RX6 13 "UndoCellarModel" "size" "I", .fieldLink RX6 26 "UndoCellarModel" "by" "[I", .methodLink RX6 68 yX6_isActive, .instanceMethod yX6_isActive, .selects RX6 yX6_isActive yX6_isActive, .initialized RX6, .code yX6_isActive cX6_isActive 2 (some .boolean), .fieldLink RX6 17 "UndoCellarModel" "state" "[I"] ++ wsX60)
def wsX6_write_r1 : List Cond := [Cond.constant RX6 80 (-1000000), Cond.constant RX6 81 (1000000), Cond.fieldLink RX6 7 "UndoCellarModel" "value" "[I", Cond.fieldLink RX6 39 "UndoCellarModel" "slot" "[I", Cond.fieldLink RX6 42 "UndoCellarModel" "isEnded" "[Z", Cond.fieldLink RX6 58 "UndoCellarModel" "dropped" "I", Cond.fieldLink RX6 55 "UndoCellarModel" "changes" "I", Cond.fieldLink RX6 13 "UndoCellarModel" "size" "I", Cond.fieldLink RX6 26 "UndoCellarModel" "by" "[I", Cond.fieldLink RX6 29 "UndoCellarModel" "row" "[I", Cond.fieldLink RX6 32 "UndoCellarModel" "ahead" "[I", Cond.methodLink RX6 74 yX6_isTransaction, Cond.instanceMethod yX6_isTransaction, Cond.selects RX6 yX6_isTransaction yX6_isTransaction, Cond.initialized RX6, Cond.code yX6_isTransaction cX6_isTransaction 2 (some .boolean), Cond.fieldLink RX6 52 "UndoCellarModel" "transactions" "I", Cond.methodLink RX6 48 yX6_isIn, Cond.static yX6_isIn, Cond.code yX6_isIn cX6_isIn 3 (some .boolean), Cond.methodLink RX6 77 yX6_isRow, Cond.static yX6_isRow, Cond.code yX6_isRow cX6_isRow 1 (some .boolean), Cond.methodLink RX6 68 yX6_isActive]
def wsX6_write_r2 : List Cond := [Cond.instanceMethod yX6_isActive, Cond.selects RX6 yX6_isActive yX6_isActive, Cond.code yX6_isActive cX6_isActive 2 (some .boolean), Cond.fieldLink RX6 17 "UndoCellarModel" "state" "[I", Cond.methodLink RX6 82 yX6_lockOn, Cond.instanceMethod yX6_lockOn, Cond.selects RX6 yX6_lockOn yX6_lockOn, Cond.code yX6_lockOn cX6_lockOn 4 (some .int), Cond.fieldLink RX6 35 "UndoCellarModel" "isVoid" "[Z", Cond.methodLink RX6 86 yX6_slotFor, Cond.instanceMethod yX6_slotFor, Cond.selects RX6 yX6_slotFor yX6_slotFor, Cond.code yX6_slotFor cX6_slotFor 6 (some .int), Cond.methodLink RX6 90 yX6_hasSpace, Cond.instanceMethod yX6_hasSpace, Cond.selects RX6 yX6_hasSpace yX6_hasSpace, Cond.code yX6_hasSpace cX6_hasSpace 1 (some .boolean), Cond.methodLink RX6 61 yX6_can, Cond.instanceMethod yX6_can, Cond.selects RX6 yX6_can yX6_can, Cond.code yX6_can cX6_can 2 (some .boolean), Cond.fieldLink RX6 45 "UndoCellarModel" "thrown" "I", Cond.methodLink RX6 94 yX6_cleans, Cond.instanceMethod yX6_cleans]
def wsX6_write_r3 : List Cond := [Cond.selects RX6 yX6_cleans yX6_cleans, Cond.code yX6_cleans cX6_cleans 3 none, Cond.fieldLink RX6 71 "UndoCellarModel" "marks" "I"]
def wsX6_write : List Cond := .code yX6_write cX6_write 10 (some .int) :: ((wsX6_write_r1 ++ (wsX6_write_r2 ++ wsX6_write_r3)) ++ wsX60)
def wsX6_valueAt : List Cond := .code yX6_valueAt cX6_valueAt 7 (some .int) :: ([.fieldLink RX6 7 "UndoCellarModel" "value" "[I", .fieldLink RX6 98 "UndoCellarModel" "isLate" "Z", .fieldLink RX6 55 "UndoCellarModel" "changes" "I", .fieldLink RX6 29 "UndoCellarModel" "row" "[I", .fieldLink RX6 35 "UndoCellarModel" "isVoid" "[Z", .fieldLink RX6 26 "UndoCellarModel" "by" "[I", .fieldLink RX6 17 "UndoCellarModel" "state" "[I", .fieldLink RX6 23 "UndoCellarModel" "committedAt" "[I", .fieldLink RX6 32 "UndoCellarModel" "ahead" "[I", .fieldLink RX6 58 "UndoCellarModel" "dropped" "I"] ++ wsX60)
def wsX6_read_r1 : List Cond := [Cond.fieldLink RX6 20 "UndoCellarModel" "asOf" "[I", Cond.fieldLink RX6 98 "UndoCellarModel" "isLate" "Z", Cond.methodLink RX6 74 yX6_isTransaction, Cond.instanceMethod yX6_isTransaction, Cond.selects RX6 yX6_isTransaction yX6_isTransaction, Cond.initialized RX6, Cond.code yX6_isTransaction cX6_isTransaction 2 (some .boolean), Cond.fieldLink RX6 52 "UndoCellarModel" "transactions" "I", Cond.methodLink RX6 48 yX6_isIn, Cond.static yX6_isIn, Cond.code yX6_isIn cX6_isIn 3 (some .boolean), Cond.methodLink RX6 77 yX6_isRow, Cond.static yX6_isRow, Cond.code yX6_isRow cX6_isRow 1 (some .boolean), Cond.methodLink RX6 68 yX6_isActive, Cond.instanceMethod yX6_isActive, Cond.selects RX6 yX6_isActive yX6_isActive, Cond.code yX6_isActive cX6_isActive 2 (some .boolean), Cond.fieldLink RX6 17 "UndoCellarModel" "state" "[I", Cond.methodLink RX6 61 yX6_can, Cond.instanceMethod yX6_can, Cond.selects RX6 yX6_can yX6_can, Cond.code yX6_can cX6_can 2 (some .boolean), Cond.fieldLink RX6 45 "UndoCellarModel" "thrown" "I"]
def wsX6_read_r2 : List Cond := [Cond.methodLink RX6 102 yX6_valueAt, Cond.instanceMethod yX6_valueAt, Cond.selects RX6 yX6_valueAt yX6_valueAt, Cond.code yX6_valueAt cX6_valueAt 7 (some .int), Cond.fieldLink RX6 7 "UndoCellarModel" "value" "[I", Cond.fieldLink RX6 55 "UndoCellarModel" "changes" "I", Cond.fieldLink RX6 29 "UndoCellarModel" "row" "[I", Cond.fieldLink RX6 35 "UndoCellarModel" "isVoid" "[Z", Cond.fieldLink RX6 26 "UndoCellarModel" "by" "[I", Cond.fieldLink RX6 23 "UndoCellarModel" "committedAt" "[I", Cond.fieldLink RX6 32 "UndoCellarModel" "ahead" "[I", Cond.fieldLink RX6 58 "UndoCellarModel" "dropped" "I", Cond.methodLink RX6 94 yX6_cleans, Cond.instanceMethod yX6_cleans, Cond.selects RX6 yX6_cleans yX6_cleans, Cond.code yX6_cleans cX6_cleans 3 none, Cond.fieldLink RX6 39 "UndoCellarModel" "slot" "[I", Cond.fieldLink RX6 42 "UndoCellarModel" "isEnded" "[Z", Cond.fieldLink RX6 71 "UndoCellarModel" "marks" "I"]
def wsX6_read : List Cond := .code yX6_read cX6_read 5 (some .int) :: ((wsX6_read_r1 ++ wsX6_read_r2) ++ wsX60)
def wsX6_readAt_r1 : List Cond := [Cond.fieldLink RX6 65 "UndoCellarModel" "moment" "I", Cond.fieldLink RX6 98 "UndoCellarModel" "isLate" "Z", Cond.methodLink RX6 77 yX6_isRow, Cond.static yX6_isRow, Cond.initialized RX6, Cond.code yX6_isRow cX6_isRow 1 (some .boolean), Cond.methodLink RX6 48 yX6_isIn, Cond.static yX6_isIn, Cond.code yX6_isIn cX6_isIn 3 (some .boolean), Cond.methodLink RX6 61 yX6_can, Cond.instanceMethod yX6_can, Cond.selects RX6 yX6_can yX6_can, Cond.code yX6_can cX6_can 2 (some .boolean), Cond.fieldLink RX6 45 "UndoCellarModel" "thrown" "I", Cond.methodLink RX6 102 yX6_valueAt, Cond.instanceMethod yX6_valueAt, Cond.selects RX6 yX6_valueAt yX6_valueAt, Cond.code yX6_valueAt cX6_valueAt 7 (some .int), Cond.fieldLink RX6 7 "UndoCellarModel" "value" "[I", Cond.fieldLink RX6 55 "UndoCellarModel" "changes" "I", Cond.fieldLink RX6 29 "UndoCellarModel" "row" "[I", Cond.fieldLink RX6 35 "UndoCellarModel" "isVoid" "[Z", Cond.fieldLink RX6 26 "UndoCellarModel" "by" "[I", Cond.fieldLink RX6 17 "UndoCellarModel" "state" "[I"]
def wsX6_readAt_r2 : List Cond := [Cond.fieldLink RX6 23 "UndoCellarModel" "committedAt" "[I", Cond.fieldLink RX6 32 "UndoCellarModel" "ahead" "[I", Cond.fieldLink RX6 58 "UndoCellarModel" "dropped" "I", Cond.methodLink RX6 94 yX6_cleans, Cond.instanceMethod yX6_cleans, Cond.selects RX6 yX6_cleans yX6_cleans, Cond.code yX6_cleans cX6_cleans 3 none, Cond.fieldLink RX6 39 "UndoCellarModel" "slot" "[I", Cond.fieldLink RX6 42 "UndoCellarModel" "isEnded" "[Z", Cond.fieldLink RX6 71 "UndoCellarModel" "marks" "I", Cond.methodLink RX6 68 yX6_isActive, Cond.instanceMethod yX6_isActive, Cond.selects RX6 yX6_isActive yX6_isActive, Cond.code yX6_isActive cX6_isActive 2 (some .boolean)]
def wsX6_readAt : List Cond := .code yX6_readAt cX6_readAt 4 (some .int) :: ((wsX6_readAt_r1 ++ wsX6_readAt_r2) ++ wsX60)
def wsX6_standing : List Cond := .code yX6_standing cX6_standing 4 (some .int) :: ([.fieldLink RX6 55 "UndoCellarModel" "changes" "I", .fieldLink RX6 26 "UndoCellarModel" "by" "[I", .fieldLink RX6 35 "UndoCellarModel" "isVoid" "[Z"] ++ wsX60)
def wsX6_isOpen : List Cond := .code yX6_isOpen cX6_isOpen 2 (some .boolean) :: ([.methodLink RX6 74 yX6_isTransaction, .instanceMethod yX6_isTransaction, .selects RX6 yX6_isTransaction yX6_isTransaction, .initialized RX6, .code yX6_isTransaction cX6_isTransaction 2 (some .boolean), .fieldLink RX6 52 "UndoCellarModel" "transactions" "I", .methodLink RX6 48 yX6_isIn, .static yX6_isIn, .code yX6_isIn cX6_isIn 3 (some .boolean), .methodLink RX6 68 yX6_isActive, .instanceMethod yX6_isActive, .selects RX6 yX6_isActive yX6_isActive, .code yX6_isActive cX6_isActive 2 (some .boolean), .fieldLink RX6 17 "UndoCellarModel" "state" "[I", .methodLink RX6 61 yX6_can, .instanceMethod yX6_can, .selects RX6 yX6_can yX6_can, .code yX6_can cX6_can 2 (some .boolean), .fieldLink RX6 45 "UndoCellarModel" "thrown" "I"] ++ wsX60)
def wsX6_save_r1 : List Cond := [Cond.methodLink RX6 106 yX6_isOpen, Cond.instanceMethod yX6_isOpen, Cond.selects RX6 yX6_isOpen yX6_isOpen, Cond.initialized RX6, Cond.code yX6_isOpen cX6_isOpen 2 (some .boolean), Cond.methodLink RX6 74 yX6_isTransaction, Cond.instanceMethod yX6_isTransaction, Cond.selects RX6 yX6_isTransaction yX6_isTransaction, Cond.code yX6_isTransaction cX6_isTransaction 2 (some .boolean), Cond.fieldLink RX6 52 "UndoCellarModel" "transactions" "I", Cond.methodLink RX6 48 yX6_isIn, Cond.static yX6_isIn, Cond.code yX6_isIn cX6_isIn 3 (some .boolean), Cond.methodLink RX6 68 yX6_isActive, Cond.instanceMethod yX6_isActive, Cond.selects RX6 yX6_isActive yX6_isActive, Cond.code yX6_isActive cX6_isActive 2 (some .boolean), Cond.fieldLink RX6 17 "UndoCellarModel" "state" "[I", Cond.methodLink RX6 61 yX6_can, Cond.instanceMethod yX6_can, Cond.selects RX6 yX6_can yX6_can, Cond.code yX6_can cX6_can 2 (some .boolean), Cond.fieldLink RX6 45 "UndoCellarModel" "thrown" "I", Cond.methodLink RX6 109 yX6_standing]
def wsX6_save_r2 : List Cond := [Cond.instanceMethod yX6_standing, Cond.selects RX6 yX6_standing yX6_standing, Cond.code yX6_standing cX6_standing 4 (some .int), Cond.fieldLink RX6 55 "UndoCellarModel" "changes" "I", Cond.fieldLink RX6 26 "UndoCellarModel" "by" "[I", Cond.fieldLink RX6 35 "UndoCellarModel" "isVoid" "[Z"]
def wsX6_save : List Cond := .code yX6_save cX6_save 2 (some .int) :: ((wsX6_save_r1 ++ wsX6_save_r2) ++ wsX60)
def wsX6_undoes : List Cond := .code yX6_undoes cX6_undoes 5 none :: ([.fieldLink RX6 55 "UndoCellarModel" "changes" "I", .fieldLink RX6 26 "UndoCellarModel" "by" "[I", .fieldLink RX6 35 "UndoCellarModel" "isVoid" "[Z", .fieldLink RX6 7 "UndoCellarModel" "value" "[I", .fieldLink RX6 29 "UndoCellarModel" "row" "[I", .fieldLink RX6 32 "UndoCellarModel" "ahead" "[I"] ++ wsX60)
def wsX6_undoTo_r1 : List Cond := [Cond.methodLink RX6 106 yX6_isOpen, Cond.instanceMethod yX6_isOpen, Cond.selects RX6 yX6_isOpen yX6_isOpen, Cond.initialized RX6, Cond.code yX6_isOpen cX6_isOpen 2 (some .boolean), Cond.methodLink RX6 74 yX6_isTransaction, Cond.instanceMethod yX6_isTransaction, Cond.selects RX6 yX6_isTransaction yX6_isTransaction, Cond.code yX6_isTransaction cX6_isTransaction 2 (some .boolean), Cond.fieldLink RX6 52 "UndoCellarModel" "transactions" "I", Cond.methodLink RX6 48 yX6_isIn, Cond.static yX6_isIn, Cond.code yX6_isIn cX6_isIn 3 (some .boolean), Cond.methodLink RX6 68 yX6_isActive, Cond.instanceMethod yX6_isActive, Cond.selects RX6 yX6_isActive yX6_isActive, Cond.code yX6_isActive cX6_isActive 2 (some .boolean), Cond.fieldLink RX6 17 "UndoCellarModel" "state" "[I", Cond.methodLink RX6 61 yX6_can, Cond.instanceMethod yX6_can, Cond.selects RX6 yX6_can yX6_can, Cond.code yX6_can cX6_can 2 (some .boolean), Cond.fieldLink RX6 45 "UndoCellarModel" "thrown" "I", Cond.methodLink RX6 109 yX6_standing]
def wsX6_undoTo_r2 : List Cond := [Cond.instanceMethod yX6_standing, Cond.selects RX6 yX6_standing yX6_standing, Cond.code yX6_standing cX6_standing 4 (some .int), Cond.fieldLink RX6 55 "UndoCellarModel" "changes" "I", Cond.fieldLink RX6 26 "UndoCellarModel" "by" "[I", Cond.fieldLink RX6 35 "UndoCellarModel" "isVoid" "[Z", Cond.methodLink RX6 112 yX6_undoes, Cond.instanceMethod yX6_undoes, Cond.selects RX6 yX6_undoes yX6_undoes, Cond.code yX6_undoes cX6_undoes 5 none, Cond.fieldLink RX6 7 "UndoCellarModel" "value" "[I", Cond.fieldLink RX6 29 "UndoCellarModel" "row" "[I", Cond.fieldLink RX6 32 "UndoCellarModel" "ahead" "[I"]
def wsX6_undoTo : List Cond := .code yX6_undoTo cX6_undoTo 4 (some .int) :: ((wsX6_undoTo_r1 ++ wsX6_undoTo_r2) ++ wsX60)
def wsX6_undo_r1 : List Cond := [Cond.fieldLink RX6 17 "UndoCellarModel" "state" "[I", Cond.methodLink RX6 106 yX6_isOpen, Cond.instanceMethod yX6_isOpen, Cond.selects RX6 yX6_isOpen yX6_isOpen, Cond.initialized RX6, Cond.code yX6_isOpen cX6_isOpen 2 (some .boolean), Cond.methodLink RX6 74 yX6_isTransaction, Cond.instanceMethod yX6_isTransaction, Cond.selects RX6 yX6_isTransaction yX6_isTransaction, Cond.code yX6_isTransaction cX6_isTransaction 2 (some .boolean), Cond.fieldLink RX6 52 "UndoCellarModel" "transactions" "I", Cond.methodLink RX6 48 yX6_isIn, Cond.static yX6_isIn, Cond.code yX6_isIn cX6_isIn 3 (some .boolean), Cond.methodLink RX6 68 yX6_isActive, Cond.instanceMethod yX6_isActive, Cond.selects RX6 yX6_isActive yX6_isActive, Cond.code yX6_isActive cX6_isActive 2 (some .boolean), Cond.methodLink RX6 61 yX6_can, Cond.instanceMethod yX6_can, Cond.selects RX6 yX6_can yX6_can, Cond.code yX6_can cX6_can 2 (some .boolean), Cond.fieldLink RX6 45 "UndoCellarModel" "thrown" "I", Cond.methodLink RX6 109 yX6_standing]
def wsX6_undo_r2 : List Cond := [Cond.instanceMethod yX6_standing, Cond.selects RX6 yX6_standing yX6_standing, Cond.code yX6_standing cX6_standing 4 (some .int), Cond.fieldLink RX6 55 "UndoCellarModel" "changes" "I", Cond.fieldLink RX6 26 "UndoCellarModel" "by" "[I", Cond.fieldLink RX6 35 "UndoCellarModel" "isVoid" "[Z", Cond.methodLink RX6 112 yX6_undoes, Cond.instanceMethod yX6_undoes, Cond.selects RX6 yX6_undoes yX6_undoes, Cond.code yX6_undoes cX6_undoes 5 none, Cond.fieldLink RX6 7 "UndoCellarModel" "value" "[I", Cond.fieldLink RX6 29 "UndoCellarModel" "row" "[I", Cond.fieldLink RX6 32 "UndoCellarModel" "ahead" "[I"]
def wsX6_undo : List Cond := .code yX6_undo cX6_undo 3 (some .int) :: ((wsX6_undo_r1 ++ wsX6_undo_r2) ++ wsX60)
def wsX6_commit_r1 : List Cond := [Cond.fieldLink RX6 65 "UndoCellarModel" "moment" "I", Cond.fieldLink RX6 17 "UndoCellarModel" "state" "[I", Cond.fieldLink RX6 23 "UndoCellarModel" "committedAt" "[I", Cond.methodLink RX6 106 yX6_isOpen, Cond.instanceMethod yX6_isOpen, Cond.selects RX6 yX6_isOpen yX6_isOpen, Cond.initialized RX6, Cond.code yX6_isOpen cX6_isOpen 2 (some .boolean), Cond.methodLink RX6 74 yX6_isTransaction, Cond.instanceMethod yX6_isTransaction, Cond.selects RX6 yX6_isTransaction yX6_isTransaction, Cond.code yX6_isTransaction cX6_isTransaction 2 (some .boolean), Cond.fieldLink RX6 52 "UndoCellarModel" "transactions" "I", Cond.methodLink RX6 48 yX6_isIn, Cond.static yX6_isIn, Cond.code yX6_isIn cX6_isIn 3 (some .boolean), Cond.methodLink RX6 68 yX6_isActive, Cond.instanceMethod yX6_isActive, Cond.selects RX6 yX6_isActive yX6_isActive, Cond.code yX6_isActive cX6_isActive 2 (some .boolean), Cond.methodLink RX6 61 yX6_can, Cond.instanceMethod yX6_can, Cond.selects RX6 yX6_can yX6_can, Cond.code yX6_can cX6_can 2 (some .boolean)]
def wsX6_commit_r2 : List Cond := [Cond.fieldLink RX6 45 "UndoCellarModel" "thrown" "I"]
def wsX6_commit : List Cond := .code yX6_commit cX6_commit 2 (some .int) :: ((wsX6_commit_r1 ++ wsX6_commit_r2) ++ wsX60)
def wsX6_moment : List Cond := .code yX6_moment cX6_moment 1 (some .int) :: ([.fieldLink RX6 45 "UndoCellarModel" "thrown" "I", .fieldLink RX6 65 "UndoCellarModel" "moment" "I"] ++ wsX60)
def wsX6_transactions : List Cond := .code yX6_transactions cX6_transactions 1 (some .int) :: ([.fieldLink RX6 45 "UndoCellarModel" "thrown" "I", .fieldLink RX6 52 "UndoCellarModel" "transactions" "I"] ++ wsX60)
def wsX6_now : List Cond := .code yX6_now cX6_now 2 (some .int) :: ([.fieldLink RX6 7 "UndoCellarModel" "value" "[I", .methodLink RX6 77 yX6_isRow, .static yX6_isRow, .initialized RX6, .code yX6_isRow cX6_isRow 1 (some .boolean), .methodLink RX6 48 yX6_isIn, .static yX6_isIn, .code yX6_isIn cX6_isIn 3 (some .boolean), .methodLink RX6 61 yX6_can, .instanceMethod yX6_can, .selects RX6 yX6_can yX6_can, .code yX6_can cX6_can 2 (some .boolean), .fieldLink RX6 45 "UndoCellarModel" "thrown" "I"] ++ wsX60)
def wsX6_versionAt_r1 : List Cond := [Cond.fieldLink RX6 65 "UndoCellarModel" "moment" "I", Cond.methodLink RX6 77 yX6_isRow, Cond.static yX6_isRow, Cond.initialized RX6, Cond.code yX6_isRow cX6_isRow 1 (some .boolean), Cond.methodLink RX6 48 yX6_isIn, Cond.static yX6_isIn, Cond.code yX6_isIn cX6_isIn 3 (some .boolean), Cond.methodLink RX6 61 yX6_can, Cond.instanceMethod yX6_can, Cond.selects RX6 yX6_can yX6_can, Cond.code yX6_can cX6_can 2 (some .boolean), Cond.fieldLink RX6 45 "UndoCellarModel" "thrown" "I", Cond.methodLink RX6 102 yX6_valueAt, Cond.instanceMethod yX6_valueAt, Cond.selects RX6 yX6_valueAt yX6_valueAt, Cond.code yX6_valueAt cX6_valueAt 7 (some .int), Cond.fieldLink RX6 7 "UndoCellarModel" "value" "[I", Cond.fieldLink RX6 98 "UndoCellarModel" "isLate" "Z", Cond.fieldLink RX6 55 "UndoCellarModel" "changes" "I", Cond.fieldLink RX6 29 "UndoCellarModel" "row" "[I", Cond.fieldLink RX6 35 "UndoCellarModel" "isVoid" "[Z", Cond.fieldLink RX6 26 "UndoCellarModel" "by" "[I", Cond.fieldLink RX6 17 "UndoCellarModel" "state" "[I"]
def wsX6_versionAt_r2 : List Cond := [Cond.fieldLink RX6 23 "UndoCellarModel" "committedAt" "[I", Cond.fieldLink RX6 32 "UndoCellarModel" "ahead" "[I", Cond.fieldLink RX6 58 "UndoCellarModel" "dropped" "I"]
def wsX6_versionAt : List Cond := .code yX6_versionAt cX6_versionAt 3 (some .int) :: ((wsX6_versionAt_r1 ++ wsX6_versionAt_r2) ++ wsX60)
def wsX6_lockOf_r1 : List Cond := [Cond.methodLink RX6 77 yX6_isRow, Cond.static yX6_isRow, Cond.initialized RX6, Cond.code yX6_isRow cX6_isRow 1 (some .boolean), Cond.methodLink RX6 48 yX6_isIn, Cond.static yX6_isIn, Cond.code yX6_isIn cX6_isIn 3 (some .boolean), Cond.methodLink RX6 61 yX6_can, Cond.instanceMethod yX6_can, Cond.selects RX6 yX6_can yX6_can, Cond.code yX6_can cX6_can 2 (some .boolean), Cond.fieldLink RX6 45 "UndoCellarModel" "thrown" "I", Cond.methodLink RX6 82 yX6_lockOn, Cond.instanceMethod yX6_lockOn, Cond.selects RX6 yX6_lockOn yX6_lockOn, Cond.code yX6_lockOn cX6_lockOn 4 (some .int), Cond.fieldLink RX6 55 "UndoCellarModel" "changes" "I", Cond.fieldLink RX6 29 "UndoCellarModel" "row" "[I", Cond.fieldLink RX6 35 "UndoCellarModel" "isVoid" "[Z", Cond.fieldLink RX6 26 "UndoCellarModel" "by" "[I", Cond.methodLink RX6 68 yX6_isActive, Cond.instanceMethod yX6_isActive, Cond.selects RX6 yX6_isActive yX6_isActive, Cond.code yX6_isActive cX6_isActive 2 (some .boolean)]
def wsX6_lockOf_r2 : List Cond := [Cond.fieldLink RX6 17 "UndoCellarModel" "state" "[I"]
def wsX6_lockOf : List Cond := .code yX6_lockOf cX6_lockOf 2 (some .int) :: ((wsX6_lockOf_r1 ++ wsX6_lockOf_r2) ++ wsX60)
def wsX6_isSlot : List Cond := .code yX6_isSlot cX6_isSlot 2 (some .boolean) :: ([.methodLink RX6 48 yX6_isIn, .static yX6_isIn, .initialized RX6, .code yX6_isIn cX6_isIn 3 (some .boolean)])
def wsX6_slotOf : List Cond := .code yX6_slotOf cX6_slotOf 3 (some .int) :: ([.fieldLink RX6 39 "UndoCellarModel" "slot" "[I", .methodLink RX6 116 yX6_isSlot, .static yX6_isSlot, .initialized RX6, .code yX6_isSlot cX6_isSlot 2 (some .boolean), .methodLink RX6 48 yX6_isIn, .static yX6_isIn, .code yX6_isIn cX6_isIn 3 (some .boolean), .methodLink RX6 61 yX6_can, .instanceMethod yX6_can, .selects RX6 yX6_can yX6_can, .code yX6_can cX6_can 2 (some .boolean), .fieldLink RX6 45 "UndoCellarModel" "thrown" "I"] ++ wsX60)
def wsX6_isMarked : List Cond := .code yX6_isMarked cX6_isMarked 3 (some .boolean) :: ([.fieldLink RX6 42 "UndoCellarModel" "isEnded" "[Z", .methodLink RX6 116 yX6_isSlot, .static yX6_isSlot, .initialized RX6, .code yX6_isSlot cX6_isSlot 2 (some .boolean), .methodLink RX6 48 yX6_isIn, .static yX6_isIn, .code yX6_isIn cX6_isIn 3 (some .boolean), .methodLink RX6 61 yX6_can, .instanceMethod yX6_can, .selects RX6 yX6_can yX6_can, .code yX6_can cX6_can 2 (some .boolean), .fieldLink RX6 45 "UndoCellarModel" "thrown" "I"] ++ wsX60)
def wsX6_marked : List Cond := .code yX6_marked cX6_marked 1 (some .int) :: ([.fieldLink RX6 45 "UndoCellarModel" "thrown" "I", .fieldLink RX6 71 "UndoCellarModel" "marks" "I"] ++ wsX60)
def wsX6_records : List Cond := .code yX6_records cX6_records 1 (some .int) :: ([.fieldLink RX6 45 "UndoCellarModel" "thrown" "I", .fieldLink RX6 55 "UndoCellarModel" "changes" "I", .fieldLink RX6 58 "UndoCellarModel" "dropped" "I"] ++ wsX60)
def wsX6_dropped : List Cond := .code yX6_dropped cX6_dropped 1 (some .int) :: ([.fieldLink RX6 45 "UndoCellarModel" "thrown" "I", .fieldLink RX6 58 "UndoCellarModel" "dropped" "I"] ++ wsX60)
def wsJ9_max_7cf53 : List Cond := .code yJ9_max_7cf53 cJ9_max_7cf53 2 (some .int) :: ([])
def wsJ9_min_7cf53 : List Cond := .code yJ9_min_7cf53 cJ9_min_7cf53 2 (some .int) :: ([])
def wsL_setSpace : List Cond := .codeWith yL_setSpace cL_setSpace 4 (some .int) [(0, 9, 12, 13), (0, 9, 15, 15)] :: ([.classLink RL 13 "java/lang/IllegalArgumentException", .classLink RL 15 "java/lang/IllegalStateException", .methodLink RL 7 yX5_setSpace, .instanceMethod yX5_setSpace, .selects RX5 yX5_setSpace yX5_setSpace, .initialized RX5, .code yX5_setSpace cX5_setSpace 3 (some .int), .classLink RX5 48 "java/lang/IllegalArgumentException", .initialized "java/lang/IllegalArgumentException", .classLink RX5 59 "java/lang/IllegalStateException", .initialized "java/lang/IllegalStateException", .fieldLink RX5 31 "UndoCellar" "space" "I", .methodLink RX5 55 yX5_recordsThere, .instanceMethod yX5_recordsThere, .selects RX5 yX5_recordsThere yX5_recordsThere, .code yX5_recordsThere cX5_recordsThere 1 (some .int), .fieldLink RX5 28 "UndoCellar" "changes" "Ljava/util/ArrayList;", .fieldLink RX5 41 "UndoCellar" "droppedSoFar" "I", .methodLink RX5 64 yJx4a65c_size_8abf5, .instanceMethod yJx4a65c_size_8abf5, .selects RJx4a65c yJx4a65c_size_8abf5 yJx4a65c_size_8abf5, .initialized RJx4a65c, .code yJx4a65c_size_8abf5 cJx4a65c_size_8abf5 1 (some .int), .fieldLink RJx4a65c 48 "java/util/ArrayList" "size" "I"] ++ wsX50 ++ wsJx4a65c0 ++ (vx_atS RX5 52 "java/lang/IllegalArgumentException" ["java/lang/RuntimeException", "java/lang/Exception"]).filter goodWord ++ (vx_atS RX5 63 "java/lang/IllegalStateException" ["java/lang/RuntimeException", "java/lang/Exception"]).filter goodWord)
def wsL_begin_r1 : List Cond := [Cond.classLink RL 15 "java/lang/IllegalStateException", Cond.methodLink RL 17 yX5_begin, Cond.instanceMethod yX5_begin, Cond.selects RX5 yX5_begin yX5_begin, Cond.initialized RX5, Cond.code yX5_begin cX5_begin 2 (some .int), Cond.classLink RX5 59 "java/lang/IllegalStateException", Cond.initialized "java/lang/IllegalStateException", Cond.fieldLink RX5 24 "UndoCellar" "begun" "Ljava/util/ArrayList;", Cond.classLink RX5 69 RX4, Cond.instantiable RX4 5, Cond.initialized RX4, Cond.fieldLink RX5 35 "UndoCellar" "momentOfNow" "I", Cond.methodLink RX5 64 yJx4a65c_size_8abf5, Cond.instanceMethod yJx4a65c_size_8abf5, Cond.selects RJx4a65c yJx4a65c_size_8abf5 yJx4a65c_size_8abf5, Cond.initialized RJx4a65c, Cond.code yJx4a65c_size_8abf5 cJx4a65c_size_8abf5 1 (some .int), Cond.fieldLink RJx4a65c 48 "java/util/ArrayList" "size" "I", Cond.instanceMethod yX4_init, Cond.code yX4_init cX4_init 3 none, Cond.methodLink RX4 3 objectInit, Cond.instanceMethod objectInit, Cond.code objectInit ⟨#[0xb1]⟩ 1 none]
def wsL_begin_r2 : List Cond := [Cond.fieldLink RX4 9 "UndoCellar$Transaction" "active" "Z", Cond.fieldLink RX4 15 "UndoCellar$Transaction" "committedAt" "I", Cond.fieldLink RX4 19 "UndoCellar$Transaction" "standing" "I", Cond.fieldLink RX4 22 "UndoCellar$Transaction" "number" "I", Cond.fieldLink RX4 25 "UndoCellar$Transaction" "beganAt" "I", Cond.methodLink RX5 74 yJx4a65c_add_9ea2d, Cond.instanceMethod yJx4a65c_add_9ea2d, Cond.selects RJx4a65c yJx4a65c_add_9ea2d yJx4a65c_add_9ea2d, Cond.code yJx4a65c_add_9ea2d cJx4a65c_add_9ea2d 2 (some .boolean), Cond.fieldLink RJx4a65c 63 "java/util/ArrayList" "modCount" "I", Cond.sameField "java/util/ArrayList" "java/util/AbstractList" "modCount" "I", Cond.fieldLink RJx4a65c 9 "java/util/ArrayList" "elementData" "[Ljava/lang/Object;", Cond.methodLink RJx4a65c 131 yJx4a65c_add_72be8, Cond.instanceMethod yJx4a65c_add_72be8, Cond.selects RJx4a65c yJx4a65c_add_72be8 yJx4a65c_add_72be8, Cond.code yJx4a65c_add_72be8 cJx4a65c_add_72be8 4 none, Cond.methodLink RJx4a65c 129 yJx4a65c_grow_d5877, Cond.instanceMethod yJx4a65c_grow_d5877, Cond.selects RJx4a65c yJx4a65c_grow_d5877 yJx4a65c_grow_d5877, Cond.code yJx4a65c_grow_d5877 cJx4a65c_grow_d5877 1 (some (.array (.object "java/lang/Object"))), Cond.methodLink RJx4a65c 69 yJx4a65c_grow_92f84, Cond.instanceMethod yJx4a65c_grow_92f84, Cond.selects RJx4a65c yJx4a65c_grow_92f84 yJx4a65c_grow_92f84, Cond.code yJx4a65c_grow_92f84 cJx4a65c_grow_92f84 4 (some (.array (.object "java/lang/Object")))]
def wsL_begin_r3 : List Cond := [Cond.fieldLink RJx4a65c 39 "java/util/ArrayList" "DEFAULTCAPACITY_EMPTY_ELEMENTDATA" "[Ljava/lang/Object;", Cond.methodLink RJx4a65c 79 Lib.Math.max.name, Cond.static Lib.Math.max.name, Cond.initialized "java/lang/Math", Cond.code Lib.Math.max.name Lib.Math.max.code 2 (some .int), Cond.classLink RJx4a65c 7 "java/lang/Object", Cond.methodLink RJx4a65c 73 yJ8_newLength_cabcc, Cond.static yJ8_newLength_cabcc, Cond.initialized RJ8, Cond.code yJ8_newLength_cabcc cJ8_newLength_cabcc 4 (some .int), Cond.methodLink RJ8 194 Lib.Math.max.name, Cond.constant RJ8 200 (2147483639), Cond.methodLink RJ8 201 yJ8_hugeLength_7cf53, Cond.static yJ8_hugeLength_7cf53, Cond.code yJ8_hugeLength_7cf53 cJ8_hugeLength_7cf53 3 (some .int), Cond.methodLink RJx4a65c 66 yJ7_copyOf_1904c, Cond.static yJ7_copyOf_1904c, Cond.initialized RJ7, Cond.code yJ7_copyOf_1904c cJ7_copyOf_1904c 2 (some (.array (.object "java/lang/Object"))), Cond.methodLink RJ7 86 ⟨"java/lang/Object", "getClass", "()Ljava/lang/Class;"⟩, Cond.selects "[Ljava/lang/Object;" ⟨"java/lang/Object", "getClass", "()Ljava/lang/Class;"⟩ ⟨"java/lang/Object", "getClass", "()Ljava/lang/Class;"⟩, Cond.instanceMethod ⟨"java/lang/Object", "getClass", "()Ljava/lang/Class;"⟩, Cond.native ⟨"java/lang/Object", "getClass", "()Ljava/lang/Class;"⟩, Cond.methodLink RJ7 300 yJ7_copyOf_6403c]
def wsL_begin_r4 : List Cond := [Cond.static yJ7_copyOf_6403c, Cond.code yJ7_copyOf_6403c cJ7_copyOf_6403c 4 (some (.array (.object "java/lang/Object"))), Cond.classLink RJ7 110 "[Ljava/lang/Object;", Cond.classLink RJ7 2 "java/lang/Object", Cond.methodLink RJ7 304 Lib.Math.min.name, Cond.static Lib.Math.min.name, Cond.code Lib.Math.min.name Lib.Math.min.code 2 (some .int), Cond.methodLink RJ7 150 arraycopyName, Cond.native arraycopyName, Cond.static arraycopyName, Cond.initialized "java/lang/System"]
def wsL_begin : List Cond := .codeWith yL_begin cL_begin 3 (some .int) [(0, 8, 11, 15)] :: ((wsL_begin_r1 ++ (wsL_begin_r2 ++ (wsL_begin_r3 ++ wsL_begin_r4))) ++ wsX50 ++ wsX40 ++ wsJx4a65c0 ++ (vx_atS RX5 63 "java/lang/IllegalStateException" ["java/lang/RuntimeException", "java/lang/Exception"]).filter goodWord)
def wsL_write_r1 : List Cond := [Cond.classLink RL 25 "java/lang/IndexOutOfBoundsException", Cond.classLink RL 13 "java/lang/IllegalArgumentException", Cond.classLink RL 15 "java/lang/IllegalStateException", Cond.methodLink RL 21 yX5_write, Cond.instanceMethod yX5_write, Cond.selects RX5 yX5_write yX5_write, Cond.initialized RX5, Cond.code yX5_write cX5_write 8 (some .int), Cond.classLink RX5 48 "java/lang/IllegalArgumentException", Cond.initialized "java/lang/IllegalArgumentException", Cond.classLink RX5 59 "java/lang/IllegalStateException", Cond.initialized "java/lang/IllegalStateException", Cond.constant RX5 89 (-1000000), Cond.constant RX5 90 (1000000), Cond.fieldLink RX5 41 "UndoCellar" "droppedSoFar" "I", Cond.classLink RX5 126 RX1, Cond.instantiable RX1 4, Cond.initialized RX1, Cond.fieldLink RX5 28 "UndoCellar" "changes" "Ljava/util/ArrayList;", Cond.methodLink RX5 81 yX5_transactionNumbered, Cond.instanceMethod yX5_transactionNumbered, Cond.selects RX5 yX5_transactionNumbered yX5_transactionNumbered, Cond.code yX5_transactionNumbered cX5_transactionNumbered 2 (some (.object "UndoCellar$Transaction")), Cond.classLink RX5 189 "java/lang/IndexOutOfBoundsException"]
def wsL_write_r2 : List Cond := [Cond.initialized "java/lang/IndexOutOfBoundsException", Cond.fieldLink RX5 24 "UndoCellar" "begun" "Ljava/util/ArrayList;", Cond.classLink RX5 69 "UndoCellar$Transaction", Cond.methodLink RX5 64 yJx4a65c_size_8abf5, Cond.instanceMethod yJx4a65c_size_8abf5, Cond.selects RJx4a65c yJx4a65c_size_8abf5 yJx4a65c_size_8abf5, Cond.initialized RJx4a65c, Cond.code yJx4a65c_size_8abf5 cJx4a65c_size_8abf5 1 (some .int), Cond.fieldLink RJx4a65c 48 "java/util/ArrayList" "size" "I", Cond.methodLink RX5 194 yJx4a65c_get_915e3, Cond.instanceMethod yJx4a65c_get_915e3, Cond.selects RJx4a65c yJx4a65c_get_915e3 yJx4a65c_get_915e3, Cond.code yJx4a65c_get_915e3 cJx4a65c_get_915e3 2 (some (.object "java/lang/Object")), Cond.methodLink RJx4a65c 118 yJ15_checkIndex_7cf53, Cond.static yJ15_checkIndex_7cf53, Cond.initialized RJ15, Cond.code yJ15_checkIndex_7cf53 cJ15_checkIndex_7cf53 2 (some .int), Cond.methodLink RJ15 105 yJ3_checkIndex_8e157, Cond.static yJ3_checkIndex_8e157, Cond.initialized RJ3, Cond.code yJ3_checkIndex_8e157 cJ3_checkIndex_8e157 3 (some .int), Cond.methodLink RJx4a65c 123 yJx4a65c_elementData_915e3, Cond.instanceMethod yJx4a65c_elementData_915e3, Cond.selects RJx4a65c yJx4a65c_elementData_915e3 yJx4a65c_elementData_915e3]
def wsL_write_r3 : List Cond := [Cond.code yJx4a65c_elementData_915e3 cJx4a65c_elementData_915e3 2 (some (.object "java/lang/Object")), Cond.fieldLink RJx4a65c 9 "java/util/ArrayList" "elementData" "[Ljava/lang/Object;", Cond.methodLink RX5 85 yX5_rowNumbered, Cond.instanceMethod yX5_rowNumbered, Cond.selects RX5 yX5_rowNumbered yX5_rowNumbered, Cond.code yX5_rowNumbered cX5_rowNumbered 2 (some (.object "UndoCellar$Row")), Cond.fieldLink RX5 17 "UndoCellar" "rows" "[LUndoCellar$Row;", Cond.methodLink RX5 93 yX5_refuseIfEnded, Cond.instanceMethod yX5_refuseIfEnded, Cond.selects RX5 yX5_refuseIfEnded yX5_refuseIfEnded, Cond.code yX5_refuseIfEnded cX5_refuseIfEnded 2 none, Cond.methodLink RX5 97 yX5_refuseIfLockedByAnother, Cond.instanceMethod yX5_refuseIfLockedByAnother, Cond.selects RX5 yX5_refuseIfLockedByAnother yX5_refuseIfLockedByAnother, Cond.code yX5_refuseIfLockedByAnother cX5_refuseIfLockedByAnother 4 none, Cond.methodLink RX5 174 yX5_lockerOf, Cond.instanceMethod yX5_lockerOf, Cond.selects RX5 yX5_lockerOf yX5_lockerOf, Cond.code yX5_lockerOf cX5_lockerOf 4 (some (.object "UndoCellar$Transaction")), Cond.classLink RX5 126 "UndoCellar$Change", Cond.instanceMethod yX1_stands, Cond.selects RX1 yX1_stands yX1_stands, Cond.code yX1_stands cX1_stands 2 (some .boolean), Cond.fieldLink RX1 17 "UndoCellar$Change" "row" "LUndoCellar$Row;"]
def wsL_write_r4 : List Cond := [Cond.fieldLink RX1 7 "UndoCellar$Change" "isVoid" "Z", Cond.methodLink RX5 101 yX5_refuseIfNoSpace, Cond.instanceMethod yX5_refuseIfNoSpace, Cond.selects RX5 yX5_refuseIfNoSpace yX5_refuseIfNoSpace, Cond.code yX5_refuseIfNoSpace cX5_refuseIfNoSpace 1 none, Cond.methodLink RX5 122 yX5_isSpaceFull, Cond.instanceMethod yX5_isSpaceFull, Cond.selects RX5 yX5_isSpaceFull yX5_isSpaceFull, Cond.code yX5_isSpaceFull cX5_isSpaceFull 1 (some .boolean), Cond.fieldLink RX5 31 "UndoCellar" "space" "I", Cond.methodLink RX5 55 yX5_recordsThere, Cond.instanceMethod yX5_recordsThere, Cond.selects RX5 yX5_recordsThere yX5_recordsThere, Cond.code yX5_recordsThere cX5_recordsThere 1 (some .int), Cond.instanceMethod yX0_slotFor, Cond.initialized RX0, Cond.selects RX0 yX0_slotFor yX0_slotFor, Cond.code yX0_slotFor cX0_slotFor 6 (some (.object "UndoCellar$Slot")), Cond.fieldLink RX0 11 "UndoCellar$Block" "slots" "[LUndoCellar$Slot;", Cond.instanceMethod yX3_isEnded, Cond.initialized RX3, Cond.selects RX3 yX3_isEnded yX3_isEnded, Cond.code yX3_isEnded cX3_isEnded 1 (some .boolean), Cond.fieldLink RX3 7 "UndoCellar$Slot" "holder" "LUndoCellar$Transaction;"]
def wsL_write_r5 : List Cond := [Cond.methodLink RX5 114 yX5_clean, Cond.instanceMethod yX5_clean, Cond.selects RX5 yX5_clean yX5_clean, Cond.code yX5_clean cX5_clean 2 none, Cond.fieldLink RX5 38 "UndoCellar" "markedSoFar" "I", Cond.instanceMethod yX0_markEnded, Cond.selects RX0 yX0_markEnded yX0_markEnded, Cond.code yX0_markEnded cX0_markEnded 6 (some .int), Cond.instanceMethod yX3_give, Cond.selects RX3 yX3_give yX3_give, Cond.code yX3_give cX3_give 2 none, Cond.fieldLink RX3 13 "UndoCellar$Slot" "marked" "Z", Cond.instanceMethod yX1_init, Cond.code yX1_init cX1_init 4 none, Cond.methodLink RX1 1 objectInit, Cond.instanceMethod objectInit, Cond.code objectInit ⟨#[0xb1]⟩ 1 none, Cond.fieldLink RX1 13 "UndoCellar$Change" "transaction" "LUndoCellar$Transaction;", Cond.fieldLink RX1 21 "UndoCellar$Change" "ahead" "I", Cond.methodLink RX5 74 yJx4a65c_add_9ea2d, Cond.instanceMethod yJx4a65c_add_9ea2d, Cond.selects RJx4a65c yJx4a65c_add_9ea2d yJx4a65c_add_9ea2d, Cond.code yJx4a65c_add_9ea2d cJx4a65c_add_9ea2d 2 (some .boolean), Cond.fieldLink RJx4a65c 63 "java/util/ArrayList" "modCount" "I"]
def wsL_write_r6 : List Cond := [Cond.sameField "java/util/ArrayList" "java/util/AbstractList" "modCount" "I", Cond.methodLink RJx4a65c 131 yJx4a65c_add_72be8, Cond.instanceMethod yJx4a65c_add_72be8, Cond.selects RJx4a65c yJx4a65c_add_72be8 yJx4a65c_add_72be8, Cond.code yJx4a65c_add_72be8 cJx4a65c_add_72be8 4 none, Cond.methodLink RJx4a65c 129 yJx4a65c_grow_d5877, Cond.instanceMethod yJx4a65c_grow_d5877, Cond.selects RJx4a65c yJx4a65c_grow_d5877 yJx4a65c_grow_d5877, Cond.code yJx4a65c_grow_d5877 cJx4a65c_grow_d5877 1 (some (.array (.object "java/lang/Object"))), Cond.methodLink RJx4a65c 69 yJx4a65c_grow_92f84, Cond.instanceMethod yJx4a65c_grow_92f84, Cond.selects RJx4a65c yJx4a65c_grow_92f84 yJx4a65c_grow_92f84, Cond.code yJx4a65c_grow_92f84 cJx4a65c_grow_92f84 4 (some (.array (.object "java/lang/Object"))), Cond.fieldLink RJx4a65c 39 "java/util/ArrayList" "DEFAULTCAPACITY_EMPTY_ELEMENTDATA" "[Ljava/lang/Object;", Cond.methodLink RJx4a65c 79 Lib.Math.max.name, Cond.static Lib.Math.max.name, Cond.initialized "java/lang/Math", Cond.code Lib.Math.max.name Lib.Math.max.code 2 (some .int), Cond.classLink RJx4a65c 7 "java/lang/Object", Cond.methodLink RJx4a65c 73 yJ8_newLength_cabcc, Cond.static yJ8_newLength_cabcc, Cond.initialized RJ8, Cond.code yJ8_newLength_cabcc cJ8_newLength_cabcc 4 (some .int), Cond.methodLink RJ8 194 Lib.Math.max.name]
def wsL_write_r7 : List Cond := [Cond.constant RJ8 200 (2147483639), Cond.methodLink RJ8 201 yJ8_hugeLength_7cf53, Cond.static yJ8_hugeLength_7cf53, Cond.code yJ8_hugeLength_7cf53 cJ8_hugeLength_7cf53 3 (some .int), Cond.methodLink RJx4a65c 66 yJ7_copyOf_1904c, Cond.static yJ7_copyOf_1904c, Cond.initialized RJ7, Cond.code yJ7_copyOf_1904c cJ7_copyOf_1904c 2 (some (.array (.object "java/lang/Object"))), Cond.methodLink RJ7 86 ⟨"java/lang/Object", "getClass", "()Ljava/lang/Class;"⟩, Cond.selects "[Ljava/lang/Object;" ⟨"java/lang/Object", "getClass", "()Ljava/lang/Class;"⟩ ⟨"java/lang/Object", "getClass", "()Ljava/lang/Class;"⟩, Cond.instanceMethod ⟨"java/lang/Object", "getClass", "()Ljava/lang/Class;"⟩, Cond.native ⟨"java/lang/Object", "getClass", "()Ljava/lang/Class;"⟩, Cond.methodLink RJ7 300 yJ7_copyOf_6403c, Cond.static yJ7_copyOf_6403c, Cond.code yJ7_copyOf_6403c cJ7_copyOf_6403c 4 (some (.array (.object "java/lang/Object"))), Cond.classLink RJ7 110 "[Ljava/lang/Object;", Cond.classLink RJ7 2 "java/lang/Object", Cond.methodLink RJ7 304 Lib.Math.min.name, Cond.static Lib.Math.min.name, Cond.code Lib.Math.min.name Lib.Math.min.code 2 (some .int), Cond.methodLink RJ7 150 arraycopyName, Cond.native arraycopyName, Cond.static arraycopyName, Cond.initialized "java/lang/System"]
def wsL_write_r8 : List Cond := [Cond.instanceMethod yX1_make, Cond.selects RX1 yX1_make yX1_make, Cond.code yX1_make cX1_make 2 none]
def wsL_write : List Cond := .codeWith yL_write cL_write 6 (some .int) [(0, 12, 15, 25), (0, 12, 19, 13), (0, 12, 23, 15)] :: ((wsL_write_r1 ++ (wsL_write_r2 ++ (wsL_write_r3 ++ (wsL_write_r4 ++ (wsL_write_r5 ++ (wsL_write_r6 ++ (wsL_write_r7 ++ wsL_write_r8))))))) ++ wsX20 ++ wsX50 ++ wsX10 ++ wsJx4a65c0 ++ wsX40 ++ wsX00 ++ wsX30 ++ (vx_atS RX5 52 "java/lang/IllegalArgumentException" ["java/lang/RuntimeException", "java/lang/Exception"]).filter goodWord ++ (vx_atS RX5 63 "java/lang/IllegalStateException" ["java/lang/RuntimeException", "java/lang/Exception"]).filter goodWord ++ (vx_atS RX5 193 "java/lang/IndexOutOfBoundsException" ["java/lang/RuntimeException", "java/lang/Exception"]).filter goodWord)
def wsL_read_r1 : List Cond := [Cond.classLink RL 25 "java/lang/IndexOutOfBoundsException", Cond.classLink RL 15 "java/lang/IllegalStateException", Cond.classLink RL 31 "java/util/NoSuchElementException", Cond.methodLink RL 27 yX5_read, Cond.instanceMethod yX5_read, Cond.selects RX5 yX5_read yX5_read, Cond.initialized RX5, Cond.code yX5_read cX5_read 5 (some .int), Cond.methodLink RX5 81 yX5_transactionNumbered, Cond.instanceMethod yX5_transactionNumbered, Cond.selects RX5 yX5_transactionNumbered yX5_transactionNumbered, Cond.code yX5_transactionNumbered cX5_transactionNumbered 2 (some (.object "UndoCellar$Transaction")), Cond.classLink RX5 189 "java/lang/IndexOutOfBoundsException", Cond.initialized "java/lang/IndexOutOfBoundsException", Cond.fieldLink RX5 24 "UndoCellar" "begun" "Ljava/util/ArrayList;", Cond.classLink RX5 69 "UndoCellar$Transaction", Cond.methodLink RX5 64 yJx4a65c_size_8abf5, Cond.instanceMethod yJx4a65c_size_8abf5, Cond.selects RJx4a65c yJx4a65c_size_8abf5 yJx4a65c_size_8abf5, Cond.initialized RJx4a65c, Cond.code yJx4a65c_size_8abf5 cJx4a65c_size_8abf5 1 (some .int), Cond.fieldLink RJx4a65c 48 "java/util/ArrayList" "size" "I", Cond.methodLink RX5 194 yJx4a65c_get_915e3, Cond.instanceMethod yJx4a65c_get_915e3]
def wsL_read_r2 : List Cond := [Cond.selects RJx4a65c yJx4a65c_get_915e3 yJx4a65c_get_915e3, Cond.code yJx4a65c_get_915e3 cJx4a65c_get_915e3 2 (some (.object "java/lang/Object")), Cond.methodLink RJx4a65c 118 yJ15_checkIndex_7cf53, Cond.static yJ15_checkIndex_7cf53, Cond.initialized RJ15, Cond.code yJ15_checkIndex_7cf53 cJ15_checkIndex_7cf53 2 (some .int), Cond.methodLink RJ15 105 yJ3_checkIndex_8e157, Cond.static yJ3_checkIndex_8e157, Cond.initialized RJ3, Cond.code yJ3_checkIndex_8e157 cJ3_checkIndex_8e157 3 (some .int), Cond.methodLink RJx4a65c 123 yJx4a65c_elementData_915e3, Cond.instanceMethod yJx4a65c_elementData_915e3, Cond.selects RJx4a65c yJx4a65c_elementData_915e3 yJx4a65c_elementData_915e3, Cond.code yJx4a65c_elementData_915e3 cJx4a65c_elementData_915e3 2 (some (.object "java/lang/Object")), Cond.fieldLink RJx4a65c 9 "java/util/ArrayList" "elementData" "[Ljava/lang/Object;", Cond.methodLink RX5 85 yX5_rowNumbered, Cond.instanceMethod yX5_rowNumbered, Cond.selects RX5 yX5_rowNumbered yX5_rowNumbered, Cond.code yX5_rowNumbered cX5_rowNumbered 2 (some (.object "UndoCellar$Row")), Cond.fieldLink RX5 17 "UndoCellar" "rows" "[LUndoCellar$Row;", Cond.methodLink RX5 93 yX5_refuseIfEnded, Cond.instanceMethod yX5_refuseIfEnded, Cond.selects RX5 yX5_refuseIfEnded yX5_refuseIfEnded, Cond.code yX5_refuseIfEnded cX5_refuseIfEnded 2 none]
def wsL_read_r3 : List Cond := [Cond.classLink RX5 59 "java/lang/IllegalStateException", Cond.initialized "java/lang/IllegalStateException", Cond.methodLink RX5 144 yX5_readFromRecords, Cond.instanceMethod yX5_readFromRecords, Cond.selects RX5 yX5_readFromRecords yX5_readFromRecords, Cond.code yX5_readFromRecords cX5_readFromRecords 5 (some .int), Cond.classLink RX5 231 "java/util/NoSuchElementException", Cond.initialized "java/util/NoSuchElementException", Cond.fieldLink RX5 41 "UndoCellar" "droppedSoFar" "I", Cond.methodLink RX5 167 yX5_oldestUnseen, Cond.instanceMethod yX5_oldestUnseen, Cond.selects RX5 yX5_oldestUnseen yX5_oldestUnseen, Cond.code yX5_oldestUnseen cX5_oldestUnseen 7 (some .int), Cond.fieldLink RX5 28 "UndoCellar" "changes" "Ljava/util/ArrayList;", Cond.classLink RX5 126 "UndoCellar$Change", Cond.instanceMethod yX1_stands, Cond.initialized RX1, Cond.selects RX1 yX1_stands yX1_stands, Cond.code yX1_stands cX1_stands 2 (some .boolean), Cond.fieldLink RX1 17 "UndoCellar$Change" "row" "LUndoCellar$Row;", Cond.fieldLink RX1 7 "UndoCellar$Change" "isVoid" "Z", Cond.instanceMethod yX1_isSeen, Cond.selects RX1 yX1_isSeen yX1_isSeen, Cond.code yX1_isSeen cX1_isSeen 3 (some .boolean)]
def wsL_read_r4 : List Cond := [Cond.fieldLink RX1 13 "UndoCellar$Change" "transaction" "LUndoCellar$Transaction;", Cond.instanceMethod yX4_isCommittedBy, Cond.initialized RX4, Cond.selects RX4 yX4_isCommittedBy yX4_isCommittedBy, Cond.code yX4_isCommittedBy cX4_isCommittedBy 2 (some .boolean), Cond.fieldLink RX4 15 "UndoCellar$Transaction" "committedAt" "I", Cond.methodLink RX5 114 yX5_clean, Cond.instanceMethod yX5_clean, Cond.selects RX5 yX5_clean yX5_clean, Cond.code yX5_clean cX5_clean 2 none, Cond.fieldLink RX5 38 "UndoCellar" "markedSoFar" "I", Cond.instanceMethod yX0_markEnded, Cond.initialized RX0, Cond.selects RX0 yX0_markEnded yX0_markEnded, Cond.code yX0_markEnded cX0_markEnded 6 (some .int), Cond.fieldLink RX0 11 "UndoCellar$Block" "slots" "[LUndoCellar$Slot;", Cond.instanceMethod yX3_isEnded, Cond.initialized RX3, Cond.selects RX3 yX3_isEnded yX3_isEnded, Cond.code yX3_isEnded cX3_isEnded 1 (some .boolean), Cond.fieldLink RX3 7 "UndoCellar$Slot" "holder" "LUndoCellar$Transaction;", Cond.methodLink RX5 170 yX5_valueAheadOf, Cond.instanceMethod yX5_valueAheadOf, Cond.selects RX5 yX5_valueAheadOf yX5_valueAheadOf]
def wsL_read_r5 : List Cond := [Cond.code yX5_valueAheadOf cX5_valueAheadOf 3 (some .int)]
def wsL_read : List Cond := .codeWith yL_read cL_read 5 (some .int) [(0, 10, 13, 25), (0, 10, 17, 15), (0, 10, 21, 31)] :: ((wsL_read_r1 ++ (wsL_read_r2 ++ (wsL_read_r3 ++ (wsL_read_r4 ++ wsL_read_r5)))) ++ wsX40 ++ wsX50 ++ wsJx4a65c0 ++ wsX20 ++ wsX10 ++ wsX00 ++ wsX30 ++ (vx_atS RX5 193 "java/lang/IndexOutOfBoundsException" ["java/lang/RuntimeException", "java/lang/Exception"]).filter goodWord ++ (vx_atS RX5 63 "java/lang/IllegalStateException" ["java/lang/RuntimeException", "java/lang/Exception"]).filter goodWord ++ (vx_atS RX5 235 "java/util/NoSuchElementException" ["java/lang/RuntimeException", "java/lang/Exception"]).filter goodWord)
def wsL_readAt_r1 : List Cond := [Cond.classLink RL 25 "java/lang/IndexOutOfBoundsException", Cond.classLink RL 13 "java/lang/IllegalArgumentException", Cond.classLink RL 31 "java/util/NoSuchElementException", Cond.methodLink RL 33 yX5_readAt, Cond.instanceMethod yX5_readAt, Cond.selects RX5 yX5_readAt yX5_readAt, Cond.initialized RX5, Cond.code yX5_readAt cX5_readAt 4 (some .int), Cond.methodLink RX5 85 yX5_rowNumbered, Cond.instanceMethod yX5_rowNumbered, Cond.selects RX5 yX5_rowNumbered yX5_rowNumbered, Cond.code yX5_rowNumbered cX5_rowNumbered 2 (some (.object "UndoCellar$Row")), Cond.classLink RX5 189 "java/lang/IndexOutOfBoundsException", Cond.initialized "java/lang/IndexOutOfBoundsException", Cond.fieldLink RX5 17 "UndoCellar" "rows" "[LUndoCellar$Row;", Cond.methodLink RX5 148 yX5_refuseIfNotYet, Cond.instanceMethod yX5_refuseIfNotYet, Cond.selects RX5 yX5_refuseIfNotYet yX5_refuseIfNotYet, Cond.code yX5_refuseIfNotYet cX5_refuseIfNotYet 2 none, Cond.classLink RX5 48 "java/lang/IllegalArgumentException", Cond.initialized "java/lang/IllegalArgumentException", Cond.fieldLink RX5 35 "UndoCellar" "momentOfNow" "I", Cond.methodLink RX5 144 yX5_readFromRecords, Cond.instanceMethod yX5_readFromRecords]
def wsL_readAt_r2 : List Cond := [Cond.selects RX5 yX5_readFromRecords yX5_readFromRecords, Cond.code yX5_readFromRecords cX5_readFromRecords 5 (some .int), Cond.classLink RX5 231 "java/util/NoSuchElementException", Cond.initialized "java/util/NoSuchElementException", Cond.fieldLink RX5 41 "UndoCellar" "droppedSoFar" "I", Cond.methodLink RX5 167 yX5_oldestUnseen, Cond.instanceMethod yX5_oldestUnseen, Cond.selects RX5 yX5_oldestUnseen yX5_oldestUnseen, Cond.code yX5_oldestUnseen cX5_oldestUnseen 7 (some .int), Cond.fieldLink RX5 28 "UndoCellar" "changes" "Ljava/util/ArrayList;", Cond.classLink RX5 126 "UndoCellar$Change", Cond.methodLink RX5 64 yJx4a65c_size_8abf5, Cond.instanceMethod yJx4a65c_size_8abf5, Cond.selects RJx4a65c yJx4a65c_size_8abf5 yJx4a65c_size_8abf5, Cond.initialized RJx4a65c, Cond.code yJx4a65c_size_8abf5 cJx4a65c_size_8abf5 1 (some .int), Cond.fieldLink RJx4a65c 48 "java/util/ArrayList" "size" "I", Cond.methodLink RX5 194 yJx4a65c_get_915e3, Cond.instanceMethod yJx4a65c_get_915e3, Cond.selects RJx4a65c yJx4a65c_get_915e3 yJx4a65c_get_915e3, Cond.code yJx4a65c_get_915e3 cJx4a65c_get_915e3 2 (some (.object "java/lang/Object")), Cond.methodLink RJx4a65c 118 yJ15_checkIndex_7cf53, Cond.static yJ15_checkIndex_7cf53, Cond.initialized RJ15]
def wsL_readAt_r3 : List Cond := [Cond.code yJ15_checkIndex_7cf53 cJ15_checkIndex_7cf53 2 (some .int), Cond.methodLink RJ15 105 yJ3_checkIndex_8e157, Cond.static yJ3_checkIndex_8e157, Cond.initialized RJ3, Cond.code yJ3_checkIndex_8e157 cJ3_checkIndex_8e157 3 (some .int), Cond.methodLink RJx4a65c 123 yJx4a65c_elementData_915e3, Cond.instanceMethod yJx4a65c_elementData_915e3, Cond.selects RJx4a65c yJx4a65c_elementData_915e3 yJx4a65c_elementData_915e3, Cond.code yJx4a65c_elementData_915e3 cJx4a65c_elementData_915e3 2 (some (.object "java/lang/Object")), Cond.fieldLink RJx4a65c 9 "java/util/ArrayList" "elementData" "[Ljava/lang/Object;", Cond.instanceMethod yX1_stands, Cond.initialized RX1, Cond.selects RX1 yX1_stands yX1_stands, Cond.code yX1_stands cX1_stands 2 (some .boolean), Cond.fieldLink RX1 17 "UndoCellar$Change" "row" "LUndoCellar$Row;", Cond.fieldLink RX1 7 "UndoCellar$Change" "isVoid" "Z", Cond.instanceMethod yX1_isSeen, Cond.selects RX1 yX1_isSeen yX1_isSeen, Cond.code yX1_isSeen cX1_isSeen 3 (some .boolean), Cond.fieldLink RX1 13 "UndoCellar$Change" "transaction" "LUndoCellar$Transaction;", Cond.instanceMethod yX4_isCommittedBy, Cond.initialized RX4, Cond.selects RX4 yX4_isCommittedBy yX4_isCommittedBy, Cond.code yX4_isCommittedBy cX4_isCommittedBy 2 (some .boolean)]
def wsL_readAt_r4 : List Cond := [Cond.fieldLink RX4 15 "UndoCellar$Transaction" "committedAt" "I", Cond.methodLink RX5 114 yX5_clean, Cond.instanceMethod yX5_clean, Cond.selects RX5 yX5_clean yX5_clean, Cond.code yX5_clean cX5_clean 2 none, Cond.fieldLink RX5 38 "UndoCellar" "markedSoFar" "I", Cond.instanceMethod yX0_markEnded, Cond.initialized RX0, Cond.selects RX0 yX0_markEnded yX0_markEnded, Cond.code yX0_markEnded cX0_markEnded 6 (some .int), Cond.fieldLink RX0 11 "UndoCellar$Block" "slots" "[LUndoCellar$Slot;", Cond.instanceMethod yX3_isEnded, Cond.initialized RX3, Cond.selects RX3 yX3_isEnded yX3_isEnded, Cond.code yX3_isEnded cX3_isEnded 1 (some .boolean), Cond.fieldLink RX3 7 "UndoCellar$Slot" "holder" "LUndoCellar$Transaction;", Cond.methodLink RX5 170 yX5_valueAheadOf, Cond.instanceMethod yX5_valueAheadOf, Cond.selects RX5 yX5_valueAheadOf yX5_valueAheadOf, Cond.code yX5_valueAheadOf cX5_valueAheadOf 3 (some .int)]
def wsL_readAt : List Cond := .codeWith yL_readAt cL_readAt 5 (some .int) [(0, 10, 13, 25), (0, 10, 17, 13), (0, 10, 21, 31)] :: ((wsL_readAt_r1 ++ (wsL_readAt_r2 ++ (wsL_readAt_r3 ++ wsL_readAt_r4))) ++ wsX50 ++ wsX20 ++ wsJx4a65c0 ++ wsX10 ++ wsX40 ++ wsX00 ++ wsX30 ++ (vx_atS RX5 193 "java/lang/IndexOutOfBoundsException" ["java/lang/RuntimeException", "java/lang/Exception"]).filter goodWord ++ (vx_atS RX5 52 "java/lang/IllegalArgumentException" ["java/lang/RuntimeException", "java/lang/Exception"]).filter goodWord ++ (vx_atS RX5 235 "java/util/NoSuchElementException" ["java/lang/RuntimeException", "java/lang/Exception"]).filter goodWord)
def wsL_save_r1 : List Cond := [Cond.classLink RL 25 "java/lang/IndexOutOfBoundsException", Cond.classLink RL 15 "java/lang/IllegalStateException", Cond.methodLink RL 36 yX5_save, Cond.instanceMethod yX5_save, Cond.selects RX5 yX5_save yX5_save, Cond.initialized RX5, Cond.code yX5_save cX5_save 3 (some .int), Cond.methodLink RX5 81 yX5_transactionNumbered, Cond.instanceMethod yX5_transactionNumbered, Cond.selects RX5 yX5_transactionNumbered yX5_transactionNumbered, Cond.code yX5_transactionNumbered cX5_transactionNumbered 2 (some (.object "UndoCellar$Transaction")), Cond.classLink RX5 189 "java/lang/IndexOutOfBoundsException", Cond.initialized "java/lang/IndexOutOfBoundsException", Cond.fieldLink RX5 24 "UndoCellar" "begun" "Ljava/util/ArrayList;", Cond.classLink RX5 69 "UndoCellar$Transaction", Cond.methodLink RX5 64 yJx4a65c_size_8abf5, Cond.instanceMethod yJx4a65c_size_8abf5, Cond.selects RJx4a65c yJx4a65c_size_8abf5 yJx4a65c_size_8abf5, Cond.initialized RJx4a65c, Cond.code yJx4a65c_size_8abf5 cJx4a65c_size_8abf5 1 (some .int), Cond.fieldLink RJx4a65c 48 "java/util/ArrayList" "size" "I", Cond.methodLink RX5 194 yJx4a65c_get_915e3, Cond.instanceMethod yJx4a65c_get_915e3, Cond.selects RJx4a65c yJx4a65c_get_915e3 yJx4a65c_get_915e3]
def wsL_save_r2 : List Cond := [Cond.code yJx4a65c_get_915e3 cJx4a65c_get_915e3 2 (some (.object "java/lang/Object")), Cond.methodLink RJx4a65c 118 yJ15_checkIndex_7cf53, Cond.static yJ15_checkIndex_7cf53, Cond.initialized RJ15, Cond.code yJ15_checkIndex_7cf53 cJ15_checkIndex_7cf53 2 (some .int), Cond.methodLink RJ15 105 yJ3_checkIndex_8e157, Cond.static yJ3_checkIndex_8e157, Cond.initialized RJ3, Cond.code yJ3_checkIndex_8e157 cJ3_checkIndex_8e157 3 (some .int), Cond.methodLink RJx4a65c 123 yJx4a65c_elementData_915e3, Cond.instanceMethod yJx4a65c_elementData_915e3, Cond.selects RJx4a65c yJx4a65c_elementData_915e3 yJx4a65c_elementData_915e3, Cond.code yJx4a65c_elementData_915e3 cJx4a65c_elementData_915e3 2 (some (.object "java/lang/Object")), Cond.fieldLink RJx4a65c 9 "java/util/ArrayList" "elementData" "[Ljava/lang/Object;", Cond.methodLink RX5 93 yX5_refuseIfEnded, Cond.instanceMethod yX5_refuseIfEnded, Cond.selects RX5 yX5_refuseIfEnded yX5_refuseIfEnded, Cond.code yX5_refuseIfEnded cX5_refuseIfEnded 2 none, Cond.classLink RX5 59 "java/lang/IllegalStateException", Cond.initialized "java/lang/IllegalStateException"]
def wsL_save : List Cond := .codeWith yL_save cL_save 4 (some .int) [(0, 9, 12, 25), (0, 9, 15, 15)] :: ((wsL_save_r1 ++ wsL_save_r2) ++ wsX40 ++ wsX50 ++ wsJx4a65c0 ++ (vx_atS RX5 193 "java/lang/IndexOutOfBoundsException" ["java/lang/RuntimeException", "java/lang/Exception"]).filter goodWord ++ (vx_atS RX5 63 "java/lang/IllegalStateException" ["java/lang/RuntimeException", "java/lang/Exception"]).filter goodWord)
def wsL_undoTo_r1 : List Cond := [Cond.classLink RL 25 "java/lang/IndexOutOfBoundsException", Cond.classLink RL 15 "java/lang/IllegalStateException", Cond.classLink RL 13 "java/lang/IllegalArgumentException", Cond.methodLink RL 39 yX5_undoTo, Cond.instanceMethod yX5_undoTo, Cond.selects RX5 yX5_undoTo yX5_undoTo, Cond.initialized RX5, Cond.code yX5_undoTo cX5_undoTo 4 (some .int), Cond.classLink RX5 48 "java/lang/IllegalArgumentException", Cond.initialized "java/lang/IllegalArgumentException", Cond.methodLink RX5 81 yX5_transactionNumbered, Cond.instanceMethod yX5_transactionNumbered, Cond.selects RX5 yX5_transactionNumbered yX5_transactionNumbered, Cond.code yX5_transactionNumbered cX5_transactionNumbered 2 (some (.object "UndoCellar$Transaction")), Cond.classLink RX5 189 "java/lang/IndexOutOfBoundsException", Cond.initialized "java/lang/IndexOutOfBoundsException", Cond.fieldLink RX5 24 "UndoCellar" "begun" "Ljava/util/ArrayList;", Cond.classLink RX5 69 "UndoCellar$Transaction", Cond.methodLink RX5 64 yJx4a65c_size_8abf5, Cond.instanceMethod yJx4a65c_size_8abf5, Cond.selects RJx4a65c yJx4a65c_size_8abf5 yJx4a65c_size_8abf5, Cond.initialized RJx4a65c, Cond.code yJx4a65c_size_8abf5 cJx4a65c_size_8abf5 1 (some .int), Cond.fieldLink RJx4a65c 48 "java/util/ArrayList" "size" "I"]
def wsL_undoTo_r2 : List Cond := [Cond.methodLink RX5 194 yJx4a65c_get_915e3, Cond.instanceMethod yJx4a65c_get_915e3, Cond.selects RJx4a65c yJx4a65c_get_915e3 yJx4a65c_get_915e3, Cond.code yJx4a65c_get_915e3 cJx4a65c_get_915e3 2 (some (.object "java/lang/Object")), Cond.methodLink RJx4a65c 118 yJ15_checkIndex_7cf53, Cond.static yJ15_checkIndex_7cf53, Cond.initialized RJ15, Cond.code yJ15_checkIndex_7cf53 cJ15_checkIndex_7cf53 2 (some .int), Cond.methodLink RJ15 105 yJ3_checkIndex_8e157, Cond.static yJ3_checkIndex_8e157, Cond.initialized RJ3, Cond.code yJ3_checkIndex_8e157 cJ3_checkIndex_8e157 3 (some .int), Cond.methodLink RJx4a65c 123 yJx4a65c_elementData_915e3, Cond.instanceMethod yJx4a65c_elementData_915e3, Cond.selects RJx4a65c yJx4a65c_elementData_915e3 yJx4a65c_elementData_915e3, Cond.code yJx4a65c_elementData_915e3 cJx4a65c_elementData_915e3 2 (some (.object "java/lang/Object")), Cond.fieldLink RJx4a65c 9 "java/util/ArrayList" "elementData" "[Ljava/lang/Object;", Cond.methodLink RX5 93 yX5_refuseIfEnded, Cond.instanceMethod yX5_refuseIfEnded, Cond.selects RX5 yX5_refuseIfEnded yX5_refuseIfEnded, Cond.code yX5_refuseIfEnded cX5_refuseIfEnded 2 none, Cond.classLink RX5 59 "java/lang/IllegalStateException", Cond.initialized "java/lang/IllegalStateException", Cond.methodLink RX5 156 yX5_undoDownTo]
def wsL_undoTo_r3 : List Cond := [Cond.instanceMethod yX5_undoDownTo, Cond.selects RX5 yX5_undoDownTo yX5_undoDownTo, Cond.code yX5_undoDownTo cX5_undoDownTo 6 (some .int), Cond.fieldLink RX5 28 "UndoCellar" "changes" "Ljava/util/ArrayList;", Cond.classLink RX5 126 "UndoCellar$Change", Cond.instanceMethod yX1_takeBack, Cond.initialized RX1, Cond.selects RX1 yX1_takeBack yX1_takeBack, Cond.code yX1_takeBack cX1_takeBack 1 none, Cond.fieldLink RX1 17 "UndoCellar$Change" "row" "LUndoCellar$Row;", Cond.fieldLink RX1 21 "UndoCellar$Change" "ahead" "I", Cond.fieldLink RX1 7 "UndoCellar$Change" "isVoid" "Z", Cond.fieldLink RX1 13 "UndoCellar$Change" "transaction" "LUndoCellar$Transaction;"]
def wsL_undoTo : List Cond := .codeWith yL_undoTo cL_undoTo 5 (some .int) [(0, 10, 13, 25), (0, 10, 17, 15), (0, 10, 21, 13)] :: ((wsL_undoTo_r1 ++ (wsL_undoTo_r2 ++ wsL_undoTo_r3)) ++ wsX40 ++ wsX50 ++ wsJx4a65c0 ++ wsX10 ++ wsX20 ++ (vx_atS RX5 52 "java/lang/IllegalArgumentException" ["java/lang/RuntimeException", "java/lang/Exception"]).filter goodWord ++ (vx_atS RX5 193 "java/lang/IndexOutOfBoundsException" ["java/lang/RuntimeException", "java/lang/Exception"]).filter goodWord ++ (vx_atS RX5 63 "java/lang/IllegalStateException" ["java/lang/RuntimeException", "java/lang/Exception"]).filter goodWord)
def wsL_undo_r1 : List Cond := [Cond.classLink RL 25 "java/lang/IndexOutOfBoundsException", Cond.classLink RL 15 "java/lang/IllegalStateException", Cond.methodLink RL 42 yX5_undo, Cond.instanceMethod yX5_undo, Cond.selects RX5 yX5_undo yX5_undo, Cond.initialized RX5, Cond.code yX5_undo cX5_undo 4 (some .int), Cond.methodLink RX5 81 yX5_transactionNumbered, Cond.instanceMethod yX5_transactionNumbered, Cond.selects RX5 yX5_transactionNumbered yX5_transactionNumbered, Cond.code yX5_transactionNumbered cX5_transactionNumbered 2 (some (.object "UndoCellar$Transaction")), Cond.classLink RX5 189 "java/lang/IndexOutOfBoundsException", Cond.initialized "java/lang/IndexOutOfBoundsException", Cond.fieldLink RX5 24 "UndoCellar" "begun" "Ljava/util/ArrayList;", Cond.classLink RX5 69 "UndoCellar$Transaction", Cond.methodLink RX5 64 yJx4a65c_size_8abf5, Cond.instanceMethod yJx4a65c_size_8abf5, Cond.selects RJx4a65c yJx4a65c_size_8abf5 yJx4a65c_size_8abf5, Cond.initialized RJx4a65c, Cond.code yJx4a65c_size_8abf5 cJx4a65c_size_8abf5 1 (some .int), Cond.fieldLink RJx4a65c 48 "java/util/ArrayList" "size" "I", Cond.methodLink RX5 194 yJx4a65c_get_915e3, Cond.instanceMethod yJx4a65c_get_915e3, Cond.selects RJx4a65c yJx4a65c_get_915e3 yJx4a65c_get_915e3]
def wsL_undo_r2 : List Cond := [Cond.code yJx4a65c_get_915e3 cJx4a65c_get_915e3 2 (some (.object "java/lang/Object")), Cond.methodLink RJx4a65c 118 yJ15_checkIndex_7cf53, Cond.static yJ15_checkIndex_7cf53, Cond.initialized RJ15, Cond.code yJ15_checkIndex_7cf53 cJ15_checkIndex_7cf53 2 (some .int), Cond.methodLink RJ15 105 yJ3_checkIndex_8e157, Cond.static yJ3_checkIndex_8e157, Cond.initialized RJ3, Cond.code yJ3_checkIndex_8e157 cJ3_checkIndex_8e157 3 (some .int), Cond.methodLink RJx4a65c 123 yJx4a65c_elementData_915e3, Cond.instanceMethod yJx4a65c_elementData_915e3, Cond.selects RJx4a65c yJx4a65c_elementData_915e3 yJx4a65c_elementData_915e3, Cond.code yJx4a65c_elementData_915e3 cJx4a65c_elementData_915e3 2 (some (.object "java/lang/Object")), Cond.fieldLink RJx4a65c 9 "java/util/ArrayList" "elementData" "[Ljava/lang/Object;", Cond.methodLink RX5 93 yX5_refuseIfEnded, Cond.instanceMethod yX5_refuseIfEnded, Cond.selects RX5 yX5_refuseIfEnded yX5_refuseIfEnded, Cond.code yX5_refuseIfEnded cX5_refuseIfEnded 2 none, Cond.classLink RX5 59 "java/lang/IllegalStateException", Cond.initialized "java/lang/IllegalStateException", Cond.methodLink RX5 156 yX5_undoDownTo, Cond.instanceMethod yX5_undoDownTo, Cond.selects RX5 yX5_undoDownTo yX5_undoDownTo, Cond.code yX5_undoDownTo cX5_undoDownTo 6 (some .int)]
def wsL_undo_r3 : List Cond := [Cond.fieldLink RX5 28 "UndoCellar" "changes" "Ljava/util/ArrayList;", Cond.classLink RX5 126 "UndoCellar$Change", Cond.instanceMethod yX1_takeBack, Cond.initialized RX1, Cond.selects RX1 yX1_takeBack yX1_takeBack, Cond.code yX1_takeBack cX1_takeBack 1 none, Cond.fieldLink RX1 17 "UndoCellar$Change" "row" "LUndoCellar$Row;", Cond.fieldLink RX1 21 "UndoCellar$Change" "ahead" "I", Cond.fieldLink RX1 7 "UndoCellar$Change" "isVoid" "Z", Cond.fieldLink RX1 13 "UndoCellar$Change" "transaction" "LUndoCellar$Transaction;"]
def wsL_undo : List Cond := .codeWith yL_undo cL_undo 4 (some .int) [(0, 9, 12, 25), (0, 9, 15, 15)] :: ((wsL_undo_r1 ++ (wsL_undo_r2 ++ wsL_undo_r3)) ++ wsX40 ++ wsX50 ++ wsJx4a65c0 ++ wsX10 ++ wsX20 ++ (vx_atS RX5 193 "java/lang/IndexOutOfBoundsException" ["java/lang/RuntimeException", "java/lang/Exception"]).filter goodWord ++ (vx_atS RX5 63 "java/lang/IllegalStateException" ["java/lang/RuntimeException", "java/lang/Exception"]).filter goodWord)
def wsL_commit_r1 : List Cond := [Cond.classLink RL 25 "java/lang/IndexOutOfBoundsException", Cond.classLink RL 15 "java/lang/IllegalStateException", Cond.methodLink RL 45 yX5_commit, Cond.instanceMethod yX5_commit, Cond.selects RX5 yX5_commit yX5_commit, Cond.initialized RX5, Cond.code yX5_commit cX5_commit 3 (some .int), Cond.fieldLink RX5 35 "UndoCellar" "momentOfNow" "I", Cond.methodLink RX5 81 yX5_transactionNumbered, Cond.instanceMethod yX5_transactionNumbered, Cond.selects RX5 yX5_transactionNumbered yX5_transactionNumbered, Cond.code yX5_transactionNumbered cX5_transactionNumbered 2 (some (.object "UndoCellar$Transaction")), Cond.classLink RX5 189 "java/lang/IndexOutOfBoundsException", Cond.initialized "java/lang/IndexOutOfBoundsException", Cond.fieldLink RX5 24 "UndoCellar" "begun" "Ljava/util/ArrayList;", Cond.classLink RX5 69 "UndoCellar$Transaction", Cond.methodLink RX5 64 yJx4a65c_size_8abf5, Cond.instanceMethod yJx4a65c_size_8abf5, Cond.selects RJx4a65c yJx4a65c_size_8abf5 yJx4a65c_size_8abf5, Cond.initialized RJx4a65c, Cond.code yJx4a65c_size_8abf5 cJx4a65c_size_8abf5 1 (some .int), Cond.fieldLink RJx4a65c 48 "java/util/ArrayList" "size" "I", Cond.methodLink RX5 194 yJx4a65c_get_915e3, Cond.instanceMethod yJx4a65c_get_915e3]
def wsL_commit_r2 : List Cond := [Cond.selects RJx4a65c yJx4a65c_get_915e3 yJx4a65c_get_915e3, Cond.code yJx4a65c_get_915e3 cJx4a65c_get_915e3 2 (some (.object "java/lang/Object")), Cond.methodLink RJx4a65c 118 yJ15_checkIndex_7cf53, Cond.static yJ15_checkIndex_7cf53, Cond.initialized RJ15, Cond.code yJ15_checkIndex_7cf53 cJ15_checkIndex_7cf53 2 (some .int), Cond.methodLink RJ15 105 yJ3_checkIndex_8e157, Cond.static yJ3_checkIndex_8e157, Cond.initialized RJ3, Cond.code yJ3_checkIndex_8e157 cJ3_checkIndex_8e157 3 (some .int), Cond.methodLink RJx4a65c 123 yJx4a65c_elementData_915e3, Cond.instanceMethod yJx4a65c_elementData_915e3, Cond.selects RJx4a65c yJx4a65c_elementData_915e3 yJx4a65c_elementData_915e3, Cond.code yJx4a65c_elementData_915e3 cJx4a65c_elementData_915e3 2 (some (.object "java/lang/Object")), Cond.fieldLink RJx4a65c 9 "java/util/ArrayList" "elementData" "[Ljava/lang/Object;", Cond.methodLink RX5 93 yX5_refuseIfEnded, Cond.instanceMethod yX5_refuseIfEnded, Cond.selects RX5 yX5_refuseIfEnded yX5_refuseIfEnded, Cond.code yX5_refuseIfEnded cX5_refuseIfEnded 2 none, Cond.classLink RX5 59 "java/lang/IllegalStateException", Cond.initialized "java/lang/IllegalStateException"]
def wsL_commit : List Cond := .codeWith yL_commit cL_commit 4 (some .int) [(0, 9, 12, 25), (0, 9, 15, 15)] :: ((wsL_commit_r1 ++ wsL_commit_r2) ++ wsX50 ++ wsX40 ++ wsJx4a65c0 ++ (vx_atS RX5 193 "java/lang/IndexOutOfBoundsException" ["java/lang/RuntimeException", "java/lang/Exception"]).filter goodWord ++ (vx_atS RX5 63 "java/lang/IllegalStateException" ["java/lang/RuntimeException", "java/lang/Exception"]).filter goodWord)
def wsL_now : List Cond := .codeWith yL_now cL_now 4 (some .int) [(0, 9, 12, 25)] :: ([.classLink RL 25 "java/lang/IndexOutOfBoundsException", .methodLink RL 48 yX5_now, .instanceMethod yX5_now, .selects RX5 yX5_now yX5_now, .initialized RX5, .code yX5_now cX5_now 2 (some .int), .methodLink RX5 85 yX5_rowNumbered, .instanceMethod yX5_rowNumbered, .selects RX5 yX5_rowNumbered yX5_rowNumbered, .code yX5_rowNumbered cX5_rowNumbered 2 (some (.object "UndoCellar$Row")), .classLink RX5 189 "java/lang/IndexOutOfBoundsException", .initialized "java/lang/IndexOutOfBoundsException", .fieldLink RX5 17 "UndoCellar" "rows" "[LUndoCellar$Row;"] ++ wsX20 ++ wsX50 ++ (vx_atS RX5 193 "java/lang/IndexOutOfBoundsException" ["java/lang/RuntimeException", "java/lang/Exception"]).filter goodWord)
def wsL_versionAt_r1 : List Cond := [Cond.classLink RL 25 "java/lang/IndexOutOfBoundsException", Cond.classLink RL 13 "java/lang/IllegalArgumentException", Cond.methodLink RL 51 yX5_versionAt, Cond.instanceMethod yX5_versionAt, Cond.selects RX5 yX5_versionAt yX5_versionAt, Cond.initialized RX5, Cond.code yX5_versionAt cX5_versionAt 4 (some .int), Cond.methodLink RX5 85 yX5_rowNumbered, Cond.instanceMethod yX5_rowNumbered, Cond.selects RX5 yX5_rowNumbered yX5_rowNumbered, Cond.code yX5_rowNumbered cX5_rowNumbered 2 (some (.object "UndoCellar$Row")), Cond.classLink RX5 189 "java/lang/IndexOutOfBoundsException", Cond.initialized "java/lang/IndexOutOfBoundsException", Cond.fieldLink RX5 17 "UndoCellar" "rows" "[LUndoCellar$Row;", Cond.methodLink RX5 148 yX5_refuseIfNotYet, Cond.instanceMethod yX5_refuseIfNotYet, Cond.selects RX5 yX5_refuseIfNotYet yX5_refuseIfNotYet, Cond.code yX5_refuseIfNotYet cX5_refuseIfNotYet 2 none, Cond.classLink RX5 48 "java/lang/IllegalArgumentException", Cond.initialized "java/lang/IllegalArgumentException", Cond.fieldLink RX5 35 "UndoCellar" "momentOfNow" "I", Cond.methodLink RX5 167 yX5_oldestUnseen, Cond.instanceMethod yX5_oldestUnseen, Cond.selects RX5 yX5_oldestUnseen yX5_oldestUnseen]
def wsL_versionAt_r2 : List Cond := [Cond.code yX5_oldestUnseen cX5_oldestUnseen 7 (some .int), Cond.fieldLink RX5 28 "UndoCellar" "changes" "Ljava/util/ArrayList;", Cond.classLink RX5 126 "UndoCellar$Change", Cond.methodLink RX5 64 yJx4a65c_size_8abf5, Cond.instanceMethod yJx4a65c_size_8abf5, Cond.selects RJx4a65c yJx4a65c_size_8abf5 yJx4a65c_size_8abf5, Cond.initialized RJx4a65c, Cond.code yJx4a65c_size_8abf5 cJx4a65c_size_8abf5 1 (some .int), Cond.fieldLink RJx4a65c 48 "java/util/ArrayList" "size" "I", Cond.methodLink RX5 194 yJx4a65c_get_915e3, Cond.instanceMethod yJx4a65c_get_915e3, Cond.selects RJx4a65c yJx4a65c_get_915e3 yJx4a65c_get_915e3, Cond.code yJx4a65c_get_915e3 cJx4a65c_get_915e3 2 (some (.object "java/lang/Object")), Cond.methodLink RJx4a65c 118 yJ15_checkIndex_7cf53, Cond.static yJ15_checkIndex_7cf53, Cond.initialized RJ15, Cond.code yJ15_checkIndex_7cf53 cJ15_checkIndex_7cf53 2 (some .int), Cond.methodLink RJ15 105 yJ3_checkIndex_8e157, Cond.static yJ3_checkIndex_8e157, Cond.initialized RJ3, Cond.code yJ3_checkIndex_8e157 cJ3_checkIndex_8e157 3 (some .int), Cond.methodLink RJx4a65c 123 yJx4a65c_elementData_915e3, Cond.instanceMethod yJx4a65c_elementData_915e3, Cond.selects RJx4a65c yJx4a65c_elementData_915e3 yJx4a65c_elementData_915e3]
def wsL_versionAt_r3 : List Cond := [Cond.code yJx4a65c_elementData_915e3 cJx4a65c_elementData_915e3 2 (some (.object "java/lang/Object")), Cond.fieldLink RJx4a65c 9 "java/util/ArrayList" "elementData" "[Ljava/lang/Object;", Cond.instanceMethod yX1_stands, Cond.initialized RX1, Cond.selects RX1 yX1_stands yX1_stands, Cond.code yX1_stands cX1_stands 2 (some .boolean), Cond.fieldLink RX1 17 "UndoCellar$Change" "row" "LUndoCellar$Row;", Cond.fieldLink RX1 7 "UndoCellar$Change" "isVoid" "Z", Cond.instanceMethod yX1_isSeen, Cond.selects RX1 yX1_isSeen yX1_isSeen, Cond.code yX1_isSeen cX1_isSeen 3 (some .boolean), Cond.fieldLink RX1 13 "UndoCellar$Change" "transaction" "LUndoCellar$Transaction;", Cond.instanceMethod yX4_isCommittedBy, Cond.initialized RX4, Cond.selects RX4 yX4_isCommittedBy yX4_isCommittedBy, Cond.code yX4_isCommittedBy cX4_isCommittedBy 2 (some .boolean), Cond.fieldLink RX4 15 "UndoCellar$Transaction" "committedAt" "I", Cond.methodLink RX5 170 yX5_valueAheadOf, Cond.instanceMethod yX5_valueAheadOf, Cond.selects RX5 yX5_valueAheadOf yX5_valueAheadOf, Cond.code yX5_valueAheadOf cX5_valueAheadOf 3 (some .int)]
def wsL_versionAt : List Cond := .codeWith yL_versionAt cL_versionAt 5 (some .int) [(0, 10, 13, 25), (0, 10, 17, 13)] :: ((wsL_versionAt_r1 ++ (wsL_versionAt_r2 ++ wsL_versionAt_r3)) ++ wsX50 ++ wsJx4a65c0 ++ wsX10 ++ wsX40 ++ wsX20 ++ (vx_atS RX5 193 "java/lang/IndexOutOfBoundsException" ["java/lang/RuntimeException", "java/lang/Exception"]).filter goodWord ++ (vx_atS RX5 52 "java/lang/IllegalArgumentException" ["java/lang/RuntimeException", "java/lang/Exception"]).filter goodWord)
def wsL_lockOf_r1 : List Cond := [Cond.classLink RL 25 "java/lang/IndexOutOfBoundsException", Cond.methodLink RL 54 yX5_lockOf, Cond.instanceMethod yX5_lockOf, Cond.selects RX5 yX5_lockOf yX5_lockOf, Cond.initialized RX5, Cond.code yX5_lockOf cX5_lockOf 3 (some .int), Cond.methodLink RX5 85 yX5_rowNumbered, Cond.instanceMethod yX5_rowNumbered, Cond.selects RX5 yX5_rowNumbered yX5_rowNumbered, Cond.code yX5_rowNumbered cX5_rowNumbered 2 (some (.object "UndoCellar$Row")), Cond.classLink RX5 189 "java/lang/IndexOutOfBoundsException", Cond.initialized "java/lang/IndexOutOfBoundsException", Cond.fieldLink RX5 17 "UndoCellar" "rows" "[LUndoCellar$Row;", Cond.methodLink RX5 174 yX5_lockerOf, Cond.instanceMethod yX5_lockerOf, Cond.selects RX5 yX5_lockerOf yX5_lockerOf, Cond.code yX5_lockerOf cX5_lockerOf 4 (some (.object "UndoCellar$Transaction")), Cond.fieldLink RX5 28 "UndoCellar" "changes" "Ljava/util/ArrayList;", Cond.classLink RX5 126 "UndoCellar$Change", Cond.methodLink RX5 64 yJx4a65c_size_8abf5, Cond.instanceMethod yJx4a65c_size_8abf5, Cond.selects RJx4a65c yJx4a65c_size_8abf5 yJx4a65c_size_8abf5, Cond.initialized RJx4a65c, Cond.code yJx4a65c_size_8abf5 cJx4a65c_size_8abf5 1 (some .int)]
def wsL_lockOf_r2 : List Cond := [Cond.fieldLink RJx4a65c 48 "java/util/ArrayList" "size" "I", Cond.methodLink RX5 194 yJx4a65c_get_915e3, Cond.instanceMethod yJx4a65c_get_915e3, Cond.selects RJx4a65c yJx4a65c_get_915e3 yJx4a65c_get_915e3, Cond.code yJx4a65c_get_915e3 cJx4a65c_get_915e3 2 (some (.object "java/lang/Object")), Cond.methodLink RJx4a65c 118 yJ15_checkIndex_7cf53, Cond.static yJ15_checkIndex_7cf53, Cond.initialized RJ15, Cond.code yJ15_checkIndex_7cf53 cJ15_checkIndex_7cf53 2 (some .int), Cond.methodLink RJ15 105 yJ3_checkIndex_8e157, Cond.static yJ3_checkIndex_8e157, Cond.initialized RJ3, Cond.code yJ3_checkIndex_8e157 cJ3_checkIndex_8e157 3 (some .int), Cond.methodLink RJx4a65c 123 yJx4a65c_elementData_915e3, Cond.instanceMethod yJx4a65c_elementData_915e3, Cond.selects RJx4a65c yJx4a65c_elementData_915e3 yJx4a65c_elementData_915e3, Cond.code yJx4a65c_elementData_915e3 cJx4a65c_elementData_915e3 2 (some (.object "java/lang/Object")), Cond.fieldLink RJx4a65c 9 "java/util/ArrayList" "elementData" "[Ljava/lang/Object;", Cond.instanceMethod yX1_stands, Cond.initialized RX1, Cond.selects RX1 yX1_stands yX1_stands, Cond.code yX1_stands cX1_stands 2 (some .boolean), Cond.fieldLink RX1 17 "UndoCellar$Change" "row" "LUndoCellar$Row;", Cond.fieldLink RX1 7 "UndoCellar$Change" "isVoid" "Z"]
def wsL_lockOf : List Cond := .codeWith yL_lockOf cL_lockOf 4 (some .int) [(0, 9, 12, 25)] :: ((wsL_lockOf_r1 ++ wsL_lockOf_r2) ++ wsX40 ++ wsX50 ++ wsX10 ++ wsJx4a65c0 ++ (vx_atS RX5 193 "java/lang/IndexOutOfBoundsException" ["java/lang/RuntimeException", "java/lang/Exception"]).filter goodWord)
def wsL_slotOf : List Cond := .codeWith yL_slotOf cL_slotOf 5 (some .int) [(0, 10, 13, 25)] :: ([.classLink RL 25 "java/lang/IndexOutOfBoundsException", .methodLink RL 57 yX5_slotOf, .instanceMethod yX5_slotOf, .selects RX5 yX5_slotOf yX5_slotOf, .initialized RX5, .code yX5_slotOf cX5_slotOf 4 (some .int), .methodLink RX5 178 yX5_slotNumbered, .instanceMethod yX5_slotNumbered, .selects RX5 yX5_slotNumbered yX5_slotNumbered, .code yX5_slotNumbered cX5_slotNumbered 4 (some (.object "UndoCellar$Slot")), .classLink RX5 189 "java/lang/IndexOutOfBoundsException", .initialized "java/lang/IndexOutOfBoundsException", .fieldLink RX5 11 "UndoCellar" "blocks" "[LUndoCellar$Block;"] ++ wsX30 ++ wsX40 ++ wsX50 ++ wsX00 ++ (vx_atS RX5 193 "java/lang/IndexOutOfBoundsException" ["java/lang/RuntimeException", "java/lang/Exception"]).filter goodWord)
def wsL_isMarked : List Cond := .codeWith yL_isMarked cL_isMarked 5 (some .int) [(0, 17, 20, 25)] :: ([.classLink RL 25 "java/lang/IndexOutOfBoundsException", .methodLink RL 60 yX5_isMarked, .instanceMethod yX5_isMarked, .selects RX5 yX5_isMarked yX5_isMarked, .initialized RX5, .code yX5_isMarked cX5_isMarked 3 (some .boolean), .methodLink RX5 178 yX5_slotNumbered, .instanceMethod yX5_slotNumbered, .selects RX5 yX5_slotNumbered yX5_slotNumbered, .code yX5_slotNumbered cX5_slotNumbered 4 (some (.object "UndoCellar$Slot")), .classLink RX5 189 "java/lang/IndexOutOfBoundsException", .initialized "java/lang/IndexOutOfBoundsException", .fieldLink RX5 11 "UndoCellar" "blocks" "[LUndoCellar$Block;"] ++ wsX30 ++ wsX50 ++ wsX00 ++ (vx_atS RX5 193 "java/lang/IndexOutOfBoundsException" ["java/lang/RuntimeException", "java/lang/Exception"]).filter goodWord)
def wsL_law0_r1 : List Cond := [Cond.classLink RL 8 RX5, Cond.instantiable RX5 8, Cond.initialized RX5, Cond.classLink RL 65 RX6, Cond.instantiable RX6 18, Cond.initialized RX6, Cond.arrayClass .long, Cond.methodLink RL 64 yX5_init, Cond.instanceMethod yX5_init, Cond.code yX5_init cX5_init 2 none, Cond.methodLink RX5 1 objectInit, Cond.instanceMethod objectInit, Cond.code objectInit ⟨#[0xb1]⟩ 1 none, Cond.classLink RX5 9 RX0, Cond.fieldLink RX5 11 "UndoCellar" "blocks" "[LUndoCellar$Block;", Cond.classLink RX5 15 RX2, Cond.fieldLink RX5 17 "UndoCellar" "rows" "[LUndoCellar$Row;", Cond.classLink RX5 21 RJx4a65c, Cond.instantiable RJx4a65c 3, Cond.initialized RJx4a65c, Cond.fieldLink RX5 24 "UndoCellar" "begun" "Ljava/util/ArrayList;", Cond.fieldLink RX5 28 "UndoCellar" "changes" "Ljava/util/ArrayList;", Cond.fieldLink RX5 31 "UndoCellar" "space" "I", Cond.fieldLink RX5 35 "UndoCellar" "momentOfNow" "I"]
def wsL_law0_r2 : List Cond := [Cond.fieldLink RX5 38 "UndoCellar" "markedSoFar" "I", Cond.fieldLink RX5 41 "UndoCellar" "droppedSoFar" "I", Cond.instantiable RX0 1, Cond.initialized RX0, Cond.instantiable RX2 2, Cond.initialized RX2, Cond.methodLink RX5 23 yJx4a65c_init_da8c8, Cond.instanceMethod yJx4a65c_init_da8c8, Cond.code yJx4a65c_init_da8c8 cJx4a65c_init_da8c8 1 none, Cond.fieldLink RJx4a65c 39 "java/util/ArrayList" "DEFAULTCAPACITY_EMPTY_ELEMENTDATA" "[Ljava/lang/Object;", Cond.fieldLink RJx4a65c 9 "java/util/ArrayList" "elementData" "[Ljava/lang/Object;", Cond.methodLink RJx4a65c 1 yJxc12de_init_da8c8, Cond.instanceMethod yJxc12de_init_da8c8, Cond.initialized RJxc12de, Cond.code yJxc12de_init_da8c8 cJxc12de_init_da8c8 1 none, Cond.fieldLink RJxc12de 7 "java/util/AbstractList" "modCount" "I", Cond.methodLink RJxc12de 1 yJxa1e45_init_da8c8, Cond.instanceMethod yJxa1e45_init_da8c8, Cond.initialized RJxa1e45, Cond.code yJxa1e45_init_da8c8 cJxa1e45_init_da8c8 1 none, Cond.methodLink RJxa1e45 1 objectInit, Cond.instanceMethod yX0_init, Cond.code yX0_init cX0_init 2 none, Cond.methodLink RX0 3 objectInit]
def wsL_law0_r3 : List Cond := [Cond.classLink RX0 9 RX3, Cond.fieldLink RX0 11 "UndoCellar$Block" "slots" "[LUndoCellar$Slot;", Cond.instantiable RX3 2, Cond.initialized RX3, Cond.instanceMethod yX3_init, Cond.code yX3_init cX3_init 1 none, Cond.methodLink RX3 1 objectInit, Cond.fieldLink RX3 7 "UndoCellar$Slot" "holder" "LUndoCellar$Transaction;", Cond.fieldLink RX3 13 "UndoCellar$Slot" "marked" "Z", Cond.instanceMethod yX2_init, Cond.code yX2_init cX2_init 2 none, Cond.methodLink RX2 1 objectInit, Cond.fieldLink RX2 7 "UndoCellar$Row" "value" "I", Cond.fieldLink RX2 13 "UndoCellar$Row" "block" "LUndoCellar$Block;", Cond.methodLink RL 67 yX6_init, Cond.instanceMethod yX6_init, Cond.code yX6_init cX6_init 2 none, Cond.methodLink RX6 1 objectInit, Cond.arrayClass .int, Cond.fieldLink RX6 7 "UndoCellarModel" "value" "[I", Cond.fieldLink RX6 13 "UndoCellarModel" "size" "I", Cond.fieldLink RX6 17 "UndoCellarModel" "state" "[I", Cond.fieldLink RX6 20 "UndoCellarModel" "asOf" "[I", Cond.fieldLink RX6 23 "UndoCellarModel" "committedAt" "[I"]
def wsL_law0_r4 : List Cond := [Cond.fieldLink RX6 26 "UndoCellarModel" "by" "[I", Cond.fieldLink RX6 29 "UndoCellarModel" "row" "[I", Cond.fieldLink RX6 32 "UndoCellarModel" "ahead" "[I", Cond.arrayClass .boolean, Cond.fieldLink RX6 35 "UndoCellarModel" "isVoid" "[Z", Cond.fieldLink RX6 39 "UndoCellarModel" "slot" "[I", Cond.fieldLink RX6 42 "UndoCellarModel" "isEnded" "[Z", Cond.methodLink RL 68 yL_setSpace, Cond.static yL_setSpace, Cond.initialized RL, Cond.codeWith yL_setSpace cL_setSpace 4 (some .int) [(0, 9, 12, 13), (0, 9, 15, 15)], Cond.classLink RL 13 "java/lang/IllegalArgumentException", Cond.classLink RL 15 "java/lang/IllegalStateException", Cond.methodLink RL 7 yX5_setSpace, Cond.instanceMethod yX5_setSpace, Cond.selects RX5 yX5_setSpace yX5_setSpace, Cond.code yX5_setSpace cX5_setSpace 3 (some .int), Cond.classLink RX5 48 "java/lang/IllegalArgumentException", Cond.initialized "java/lang/IllegalArgumentException", Cond.classLink RX5 59 "java/lang/IllegalStateException", Cond.initialized "java/lang/IllegalStateException", Cond.methodLink RX5 55 yX5_recordsThere, Cond.instanceMethod yX5_recordsThere, Cond.selects RX5 yX5_recordsThere yX5_recordsThere]
def wsL_law0_r5 : List Cond := [Cond.code yX5_recordsThere cX5_recordsThere 1 (some .int), Cond.methodLink RX5 64 yJx4a65c_size_8abf5, Cond.instanceMethod yJx4a65c_size_8abf5, Cond.selects RJx4a65c yJx4a65c_size_8abf5 yJx4a65c_size_8abf5, Cond.code yJx4a65c_size_8abf5 cJx4a65c_size_8abf5 1 (some .int), Cond.fieldLink RJx4a65c 48 "java/util/ArrayList" "size" "I", Cond.methodLink RL 73 yX6_setSpace, Cond.instanceMethod yX6_setSpace, Cond.selects RX6 yX6_setSpace yX6_setSpace, Cond.code yX6_setSpace cX6_setSpace 3 (some .int), Cond.fieldLink RX6 55 "UndoCellarModel" "changes" "I", Cond.fieldLink RX6 58 "UndoCellarModel" "dropped" "I", Cond.methodLink RX6 48 yX6_isIn, Cond.static yX6_isIn, Cond.code yX6_isIn cX6_isIn 3 (some .boolean), Cond.methodLink RX6 61 yX6_can, Cond.instanceMethod yX6_can, Cond.selects RX6 yX6_can yX6_can, Cond.code yX6_can cX6_can 2 (some .boolean), Cond.fieldLink RX6 45 "UndoCellarModel" "thrown" "I", Cond.methodLink RL 74 yX6_thrown, Cond.instanceMethod yX6_thrown, Cond.selects RX6 yX6_thrown yX6_thrown, Cond.code yX6_thrown cX6_thrown 1 (some .int)]
def wsL_law0_r6 : List Cond := [Cond.methodLink RL 77 yL_begin, Cond.static yL_begin, Cond.codeWith yL_begin cL_begin 3 (some .int) [(0, 8, 11, 15)], Cond.methodLink RL 17 yX5_begin, Cond.instanceMethod yX5_begin, Cond.selects RX5 yX5_begin yX5_begin, Cond.code yX5_begin cX5_begin 2 (some .int), Cond.classLink RX5 69 RX4, Cond.instantiable RX4 5, Cond.initialized RX4, Cond.instanceMethod yX4_init, Cond.code yX4_init cX4_init 3 none, Cond.methodLink RX4 3 objectInit, Cond.fieldLink RX4 9 "UndoCellar$Transaction" "active" "Z", Cond.fieldLink RX4 15 "UndoCellar$Transaction" "committedAt" "I", Cond.fieldLink RX4 19 "UndoCellar$Transaction" "standing" "I", Cond.fieldLink RX4 22 "UndoCellar$Transaction" "number" "I", Cond.fieldLink RX4 25 "UndoCellar$Transaction" "beganAt" "I", Cond.methodLink RX5 74 yJx4a65c_add_9ea2d, Cond.instanceMethod yJx4a65c_add_9ea2d, Cond.selects RJx4a65c yJx4a65c_add_9ea2d yJx4a65c_add_9ea2d, Cond.code yJx4a65c_add_9ea2d cJx4a65c_add_9ea2d 2 (some .boolean), Cond.fieldLink RJx4a65c 63 "java/util/ArrayList" "modCount" "I", Cond.sameField "java/util/ArrayList" "java/util/AbstractList" "modCount" "I"]
def wsL_law0_r7 : List Cond := [Cond.methodLink RJx4a65c 131 yJx4a65c_add_72be8, Cond.instanceMethod yJx4a65c_add_72be8, Cond.selects RJx4a65c yJx4a65c_add_72be8 yJx4a65c_add_72be8, Cond.code yJx4a65c_add_72be8 cJx4a65c_add_72be8 4 none, Cond.methodLink RJx4a65c 129 yJx4a65c_grow_d5877, Cond.instanceMethod yJx4a65c_grow_d5877, Cond.selects RJx4a65c yJx4a65c_grow_d5877 yJx4a65c_grow_d5877, Cond.code yJx4a65c_grow_d5877 cJx4a65c_grow_d5877 1 (some (.array (.object "java/lang/Object"))), Cond.methodLink RJx4a65c 69 yJx4a65c_grow_92f84, Cond.instanceMethod yJx4a65c_grow_92f84, Cond.selects RJx4a65c yJx4a65c_grow_92f84 yJx4a65c_grow_92f84, Cond.code yJx4a65c_grow_92f84 cJx4a65c_grow_92f84 4 (some (.array (.object "java/lang/Object"))), Cond.methodLink RJx4a65c 79 Lib.Math.max.name, Cond.static Lib.Math.max.name, Cond.initialized "java/lang/Math", Cond.code Lib.Math.max.name Lib.Math.max.code 2 (some .int), Cond.classLink RJx4a65c 7 "java/lang/Object", Cond.methodLink RJx4a65c 73 yJ8_newLength_cabcc, Cond.static yJ8_newLength_cabcc, Cond.initialized RJ8, Cond.code yJ8_newLength_cabcc cJ8_newLength_cabcc 4 (some .int), Cond.methodLink RJ8 194 Lib.Math.max.name, Cond.constant RJ8 200 (2147483639), Cond.methodLink RJ8 201 yJ8_hugeLength_7cf53]
def wsL_law0_r8 : List Cond := [Cond.static yJ8_hugeLength_7cf53, Cond.code yJ8_hugeLength_7cf53 cJ8_hugeLength_7cf53 3 (some .int), Cond.methodLink RJx4a65c 66 yJ7_copyOf_1904c, Cond.static yJ7_copyOf_1904c, Cond.initialized RJ7, Cond.code yJ7_copyOf_1904c cJ7_copyOf_1904c 2 (some (.array (.object "java/lang/Object"))), Cond.methodLink RJ7 86 ⟨"java/lang/Object", "getClass", "()Ljava/lang/Class;"⟩, Cond.selects "[Ljava/lang/Object;" ⟨"java/lang/Object", "getClass", "()Ljava/lang/Class;"⟩ ⟨"java/lang/Object", "getClass", "()Ljava/lang/Class;"⟩, Cond.instanceMethod ⟨"java/lang/Object", "getClass", "()Ljava/lang/Class;"⟩, Cond.native ⟨"java/lang/Object", "getClass", "()Ljava/lang/Class;"⟩, Cond.methodLink RJ7 300 yJ7_copyOf_6403c, Cond.static yJ7_copyOf_6403c, Cond.code yJ7_copyOf_6403c cJ7_copyOf_6403c 4 (some (.array (.object "java/lang/Object"))), Cond.classLink RJ7 110 "[Ljava/lang/Object;", Cond.classLink RJ7 2 "java/lang/Object", Cond.methodLink RJ7 304 Lib.Math.min.name, Cond.static Lib.Math.min.name, Cond.code Lib.Math.min.name Lib.Math.min.code 2 (some .int), Cond.methodLink RJ7 150 arraycopyName, Cond.native arraycopyName, Cond.static arraycopyName, Cond.initialized "java/lang/System", Cond.methodLink RL 80 yX6_begin, Cond.instanceMethod yX6_begin]
def wsL_law0_r9 : List Cond := [Cond.selects RX6 yX6_begin yX6_begin, Cond.code yX6_begin cX6_begin 1 (some .int), Cond.fieldLink RX6 52 "UndoCellarModel" "transactions" "I", Cond.fieldLink RX6 65 "UndoCellarModel" "moment" "I", Cond.methodLink RL 81 yL_write, Cond.static yL_write, Cond.codeWith yL_write cL_write 6 (some .int) [(0, 12, 15, 25), (0, 12, 19, 13), (0, 12, 23, 15)], Cond.classLink RL 25 "java/lang/IndexOutOfBoundsException", Cond.methodLink RL 21 yX5_write, Cond.instanceMethod yX5_write, Cond.selects RX5 yX5_write yX5_write, Cond.code yX5_write cX5_write 8 (some .int), Cond.constant RX5 89 (-1000000), Cond.constant RX5 90 (1000000), Cond.classLink RX5 126 RX1, Cond.instantiable RX1 4, Cond.initialized RX1, Cond.methodLink RX5 81 yX5_transactionNumbered, Cond.instanceMethod yX5_transactionNumbered, Cond.selects RX5 yX5_transactionNumbered yX5_transactionNumbered, Cond.code yX5_transactionNumbered cX5_transactionNumbered 2 (some (.object "UndoCellar$Transaction")), Cond.classLink RX5 189 "java/lang/IndexOutOfBoundsException", Cond.initialized "java/lang/IndexOutOfBoundsException", Cond.classLink RX5 69 "UndoCellar$Transaction"]
def wsL_law0_r10 : List Cond := [Cond.methodLink RX5 194 yJx4a65c_get_915e3, Cond.instanceMethod yJx4a65c_get_915e3, Cond.selects RJx4a65c yJx4a65c_get_915e3 yJx4a65c_get_915e3, Cond.code yJx4a65c_get_915e3 cJx4a65c_get_915e3 2 (some (.object "java/lang/Object")), Cond.methodLink RJx4a65c 118 yJ15_checkIndex_7cf53, Cond.static yJ15_checkIndex_7cf53, Cond.initialized RJ15, Cond.code yJ15_checkIndex_7cf53 cJ15_checkIndex_7cf53 2 (some .int), Cond.methodLink RJ15 105 yJ3_checkIndex_8e157, Cond.static yJ3_checkIndex_8e157, Cond.initialized RJ3, Cond.code yJ3_checkIndex_8e157 cJ3_checkIndex_8e157 3 (some .int), Cond.methodLink RJx4a65c 123 yJx4a65c_elementData_915e3, Cond.instanceMethod yJx4a65c_elementData_915e3, Cond.selects RJx4a65c yJx4a65c_elementData_915e3 yJx4a65c_elementData_915e3, Cond.code yJx4a65c_elementData_915e3 cJx4a65c_elementData_915e3 2 (some (.object "java/lang/Object")), Cond.methodLink RX5 85 yX5_rowNumbered, Cond.instanceMethod yX5_rowNumbered, Cond.selects RX5 yX5_rowNumbered yX5_rowNumbered, Cond.code yX5_rowNumbered cX5_rowNumbered 2 (some (.object "UndoCellar$Row")), Cond.methodLink RX5 93 yX5_refuseIfEnded, Cond.instanceMethod yX5_refuseIfEnded, Cond.selects RX5 yX5_refuseIfEnded yX5_refuseIfEnded, Cond.code yX5_refuseIfEnded cX5_refuseIfEnded 2 none]
def wsL_law0_r11 : List Cond := [Cond.methodLink RX5 97 yX5_refuseIfLockedByAnother, Cond.instanceMethod yX5_refuseIfLockedByAnother, Cond.selects RX5 yX5_refuseIfLockedByAnother yX5_refuseIfLockedByAnother, Cond.code yX5_refuseIfLockedByAnother cX5_refuseIfLockedByAnother 4 none, Cond.methodLink RX5 174 yX5_lockerOf, Cond.instanceMethod yX5_lockerOf, Cond.selects RX5 yX5_lockerOf yX5_lockerOf, Cond.code yX5_lockerOf cX5_lockerOf 4 (some (.object "UndoCellar$Transaction")), Cond.classLink RX5 126 "UndoCellar$Change", Cond.instanceMethod yX1_stands, Cond.selects RX1 yX1_stands yX1_stands, Cond.code yX1_stands cX1_stands 2 (some .boolean), Cond.fieldLink RX1 17 "UndoCellar$Change" "row" "LUndoCellar$Row;", Cond.fieldLink RX1 7 "UndoCellar$Change" "isVoid" "Z", Cond.methodLink RX5 101 yX5_refuseIfNoSpace, Cond.instanceMethod yX5_refuseIfNoSpace, Cond.selects RX5 yX5_refuseIfNoSpace yX5_refuseIfNoSpace, Cond.code yX5_refuseIfNoSpace cX5_refuseIfNoSpace 1 none, Cond.methodLink RX5 122 yX5_isSpaceFull, Cond.instanceMethod yX5_isSpaceFull, Cond.selects RX5 yX5_isSpaceFull yX5_isSpaceFull, Cond.code yX5_isSpaceFull cX5_isSpaceFull 1 (some .boolean), Cond.instanceMethod yX0_slotFor, Cond.selects RX0 yX0_slotFor yX0_slotFor]
def wsL_law0_r12 : List Cond := [Cond.code yX0_slotFor cX0_slotFor 6 (some (.object "UndoCellar$Slot")), Cond.instanceMethod yX3_isEnded, Cond.selects RX3 yX3_isEnded yX3_isEnded, Cond.code yX3_isEnded cX3_isEnded 1 (some .boolean), Cond.methodLink RX5 114 yX5_clean, Cond.instanceMethod yX5_clean, Cond.selects RX5 yX5_clean yX5_clean, Cond.code yX5_clean cX5_clean 2 none, Cond.instanceMethod yX0_markEnded, Cond.selects RX0 yX0_markEnded yX0_markEnded, Cond.code yX0_markEnded cX0_markEnded 6 (some .int), Cond.instanceMethod yX3_give, Cond.selects RX3 yX3_give yX3_give, Cond.code yX3_give cX3_give 2 none, Cond.instanceMethod yX1_init, Cond.code yX1_init cX1_init 4 none, Cond.methodLink RX1 1 objectInit, Cond.fieldLink RX1 13 "UndoCellar$Change" "transaction" "LUndoCellar$Transaction;", Cond.fieldLink RX1 21 "UndoCellar$Change" "ahead" "I", Cond.instanceMethod yX1_make, Cond.selects RX1 yX1_make yX1_make, Cond.code yX1_make cX1_make 2 none, Cond.methodLink RL 84 yX6_write, Cond.instanceMethod yX6_write]
def wsL_law0_r13 : List Cond := [Cond.selects RX6 yX6_write yX6_write, Cond.code yX6_write cX6_write 10 (some .int), Cond.constant RX6 80 (-1000000), Cond.constant RX6 81 (1000000), Cond.methodLink RX6 74 yX6_isTransaction, Cond.instanceMethod yX6_isTransaction, Cond.selects RX6 yX6_isTransaction yX6_isTransaction, Cond.code yX6_isTransaction cX6_isTransaction 2 (some .boolean), Cond.methodLink RX6 77 yX6_isRow, Cond.static yX6_isRow, Cond.code yX6_isRow cX6_isRow 1 (some .boolean), Cond.methodLink RX6 68 yX6_isActive, Cond.instanceMethod yX6_isActive, Cond.selects RX6 yX6_isActive yX6_isActive, Cond.code yX6_isActive cX6_isActive 2 (some .boolean), Cond.methodLink RX6 82 yX6_lockOn, Cond.instanceMethod yX6_lockOn, Cond.selects RX6 yX6_lockOn yX6_lockOn, Cond.code yX6_lockOn cX6_lockOn 4 (some .int), Cond.methodLink RX6 86 yX6_slotFor, Cond.instanceMethod yX6_slotFor, Cond.selects RX6 yX6_slotFor yX6_slotFor, Cond.code yX6_slotFor cX6_slotFor 6 (some .int), Cond.methodLink RX6 90 yX6_hasSpace]
def wsL_law0_r14 : List Cond := [Cond.instanceMethod yX6_hasSpace, Cond.selects RX6 yX6_hasSpace yX6_hasSpace, Cond.code yX6_hasSpace cX6_hasSpace 1 (some .boolean), Cond.methodLink RX6 94 yX6_cleans, Cond.instanceMethod yX6_cleans, Cond.selects RX6 yX6_cleans yX6_cleans, Cond.code yX6_cleans cX6_cleans 3 none, Cond.fieldLink RX6 71 "UndoCellarModel" "marks" "I", Cond.methodLink RL 85 yL_read, Cond.static yL_read, Cond.codeWith yL_read cL_read 5 (some .int) [(0, 10, 13, 25), (0, 10, 17, 15), (0, 10, 21, 31)], Cond.classLink RL 31 "java/util/NoSuchElementException", Cond.methodLink RL 27 yX5_read, Cond.instanceMethod yX5_read, Cond.selects RX5 yX5_read yX5_read, Cond.code yX5_read cX5_read 5 (some .int), Cond.methodLink RX5 144 yX5_readFromRecords, Cond.instanceMethod yX5_readFromRecords, Cond.selects RX5 yX5_readFromRecords yX5_readFromRecords, Cond.code yX5_readFromRecords cX5_readFromRecords 5 (some .int), Cond.classLink RX5 231 "java/util/NoSuchElementException", Cond.initialized "java/util/NoSuchElementException", Cond.methodLink RX5 167 yX5_oldestUnseen, Cond.instanceMethod yX5_oldestUnseen]
def wsL_law0_r15 : List Cond := [Cond.selects RX5 yX5_oldestUnseen yX5_oldestUnseen, Cond.code yX5_oldestUnseen cX5_oldestUnseen 7 (some .int), Cond.instanceMethod yX1_isSeen, Cond.selects RX1 yX1_isSeen yX1_isSeen, Cond.code yX1_isSeen cX1_isSeen 3 (some .boolean), Cond.instanceMethod yX4_isCommittedBy, Cond.selects RX4 yX4_isCommittedBy yX4_isCommittedBy, Cond.code yX4_isCommittedBy cX4_isCommittedBy 2 (some .boolean), Cond.methodLink RX5 170 yX5_valueAheadOf, Cond.instanceMethod yX5_valueAheadOf, Cond.selects RX5 yX5_valueAheadOf yX5_valueAheadOf, Cond.code yX5_valueAheadOf cX5_valueAheadOf 3 (some .int), Cond.methodLink RL 88 yX6_read, Cond.instanceMethod yX6_read, Cond.selects RX6 yX6_read yX6_read, Cond.code yX6_read cX6_read 5 (some .int), Cond.fieldLink RX6 98 "UndoCellarModel" "isLate" "Z", Cond.methodLink RX6 102 yX6_valueAt, Cond.instanceMethod yX6_valueAt, Cond.selects RX6 yX6_valueAt yX6_valueAt, Cond.code yX6_valueAt cX6_valueAt 7 (some .int), Cond.methodLink RL 89 yL_readAt, Cond.static yL_readAt, Cond.codeWith yL_readAt cL_readAt 5 (some .int) [(0, 10, 13, 25), (0, 10, 17, 13), (0, 10, 21, 31)]]
def wsL_law0_r16 : List Cond := [Cond.methodLink RL 33 yX5_readAt, Cond.instanceMethod yX5_readAt, Cond.selects RX5 yX5_readAt yX5_readAt, Cond.code yX5_readAt cX5_readAt 4 (some .int), Cond.methodLink RX5 148 yX5_refuseIfNotYet, Cond.instanceMethod yX5_refuseIfNotYet, Cond.selects RX5 yX5_refuseIfNotYet yX5_refuseIfNotYet, Cond.code yX5_refuseIfNotYet cX5_refuseIfNotYet 2 none, Cond.methodLink RL 91 yX6_readAt, Cond.instanceMethod yX6_readAt, Cond.selects RX6 yX6_readAt yX6_readAt, Cond.code yX6_readAt cX6_readAt 4 (some .int), Cond.methodLink RL 92 yL_save, Cond.static yL_save, Cond.codeWith yL_save cL_save 4 (some .int) [(0, 9, 12, 25), (0, 9, 15, 15)], Cond.methodLink RL 36 yX5_save, Cond.instanceMethod yX5_save, Cond.selects RX5 yX5_save yX5_save, Cond.code yX5_save cX5_save 3 (some .int), Cond.methodLink RL 94 yX6_save, Cond.instanceMethod yX6_save, Cond.selects RX6 yX6_save yX6_save, Cond.code yX6_save cX6_save 2 (some .int), Cond.methodLink RX6 106 yX6_isOpen]
def wsL_law0_r17 : List Cond := [Cond.instanceMethod yX6_isOpen, Cond.selects RX6 yX6_isOpen yX6_isOpen, Cond.code yX6_isOpen cX6_isOpen 2 (some .boolean), Cond.methodLink RX6 109 yX6_standing, Cond.instanceMethod yX6_standing, Cond.selects RX6 yX6_standing yX6_standing, Cond.code yX6_standing cX6_standing 4 (some .int), Cond.methodLink RL 95 yL_undoTo, Cond.static yL_undoTo, Cond.codeWith yL_undoTo cL_undoTo 5 (some .int) [(0, 10, 13, 25), (0, 10, 17, 15), (0, 10, 21, 13)], Cond.methodLink RL 39 yX5_undoTo, Cond.instanceMethod yX5_undoTo, Cond.selects RX5 yX5_undoTo yX5_undoTo, Cond.code yX5_undoTo cX5_undoTo 4 (some .int), Cond.methodLink RX5 156 yX5_undoDownTo, Cond.instanceMethod yX5_undoDownTo, Cond.selects RX5 yX5_undoDownTo yX5_undoDownTo, Cond.code yX5_undoDownTo cX5_undoDownTo 6 (some .int), Cond.instanceMethod yX1_takeBack, Cond.selects RX1 yX1_takeBack yX1_takeBack, Cond.code yX1_takeBack cX1_takeBack 1 none, Cond.methodLink RL 97 yX6_undoTo, Cond.instanceMethod yX6_undoTo, Cond.selects RX6 yX6_undoTo yX6_undoTo]
def wsL_law0_r18 : List Cond := [Cond.code yX6_undoTo cX6_undoTo 4 (some .int), Cond.methodLink RX6 112 yX6_undoes, Cond.instanceMethod yX6_undoes, Cond.selects RX6 yX6_undoes yX6_undoes, Cond.code yX6_undoes cX6_undoes 5 none, Cond.methodLink RL 98 yL_undo, Cond.static yL_undo, Cond.codeWith yL_undo cL_undo 4 (some .int) [(0, 9, 12, 25), (0, 9, 15, 15)], Cond.methodLink RL 42 yX5_undo, Cond.instanceMethod yX5_undo, Cond.selects RX5 yX5_undo yX5_undo, Cond.code yX5_undo cX5_undo 4 (some .int), Cond.methodLink RL 100 yX6_undo, Cond.instanceMethod yX6_undo, Cond.selects RX6 yX6_undo yX6_undo, Cond.code yX6_undo cX6_undo 3 (some .int), Cond.methodLink RL 101 yL_commit, Cond.static yL_commit, Cond.codeWith yL_commit cL_commit 4 (some .int) [(0, 9, 12, 25), (0, 9, 15, 15)], Cond.methodLink RL 45 yX5_commit, Cond.instanceMethod yX5_commit, Cond.selects RX5 yX5_commit yX5_commit, Cond.code yX5_commit cX5_commit 3 (some .int), Cond.methodLink RL 103 yX6_commit]
def wsL_law0_r19 : List Cond := [Cond.instanceMethod yX6_commit, Cond.selects RX6 yX6_commit yX6_commit, Cond.code yX6_commit cX6_commit 2 (some .int), Cond.methodLink RL 104 yX5_moment, Cond.instanceMethod yX5_moment, Cond.selects RX5 yX5_moment yX5_moment, Cond.code yX5_moment cX5_moment 1 (some .int), Cond.methodLink RL 107 yX6_moment, Cond.instanceMethod yX6_moment, Cond.selects RX6 yX6_moment yX6_moment, Cond.code yX6_moment cX6_moment 1 (some .int), Cond.methodLink RL 108 yX5_transactions, Cond.instanceMethod yX5_transactions, Cond.selects RX5 yX5_transactions yX5_transactions, Cond.code yX5_transactions cX5_transactions 1 (some .int), Cond.methodLink RL 111 yX6_transactions, Cond.instanceMethod yX6_transactions, Cond.selects RX6 yX6_transactions yX6_transactions, Cond.code yX6_transactions cX6_transactions 1 (some .int), Cond.methodLink RL 112 yL_now, Cond.static yL_now, Cond.codeWith yL_now cL_now 4 (some .int) [(0, 9, 12, 25)], Cond.methodLink RL 48 yX5_now, Cond.instanceMethod yX5_now]
def wsL_law0_r20 : List Cond := [Cond.selects RX5 yX5_now yX5_now, Cond.code yX5_now cX5_now 2 (some .int), Cond.methodLink RL 114 yX6_now, Cond.instanceMethod yX6_now, Cond.selects RX6 yX6_now yX6_now, Cond.code yX6_now cX6_now 2 (some .int), Cond.methodLink RL 115 yL_versionAt, Cond.static yL_versionAt, Cond.codeWith yL_versionAt cL_versionAt 5 (some .int) [(0, 10, 13, 25), (0, 10, 17, 13)], Cond.methodLink RL 51 yX5_versionAt, Cond.instanceMethod yX5_versionAt, Cond.selects RX5 yX5_versionAt yX5_versionAt, Cond.code yX5_versionAt cX5_versionAt 4 (some .int), Cond.methodLink RL 117 yX6_versionAt, Cond.instanceMethod yX6_versionAt, Cond.selects RX6 yX6_versionAt yX6_versionAt, Cond.code yX6_versionAt cX6_versionAt 3 (some .int), Cond.methodLink RL 118 yL_lockOf, Cond.static yL_lockOf, Cond.codeWith yL_lockOf cL_lockOf 4 (some .int) [(0, 9, 12, 25)], Cond.methodLink RL 54 yX5_lockOf, Cond.instanceMethod yX5_lockOf, Cond.selects RX5 yX5_lockOf yX5_lockOf, Cond.code yX5_lockOf cX5_lockOf 3 (some .int)]
def wsL_law0_r21 : List Cond := [Cond.methodLink RL 120 yX6_lockOf, Cond.instanceMethod yX6_lockOf, Cond.selects RX6 yX6_lockOf yX6_lockOf, Cond.code yX6_lockOf cX6_lockOf 2 (some .int), Cond.methodLink RL 121 yL_slotOf, Cond.static yL_slotOf, Cond.codeWith yL_slotOf cL_slotOf 5 (some .int) [(0, 10, 13, 25)], Cond.methodLink RL 57 yX5_slotOf, Cond.instanceMethod yX5_slotOf, Cond.selects RX5 yX5_slotOf yX5_slotOf, Cond.code yX5_slotOf cX5_slotOf 4 (some .int), Cond.methodLink RX5 178 yX5_slotNumbered, Cond.instanceMethod yX5_slotNumbered, Cond.selects RX5 yX5_slotNumbered yX5_slotNumbered, Cond.code yX5_slotNumbered cX5_slotNumbered 4 (some (.object "UndoCellar$Slot")), Cond.methodLink RL 123 yX6_slotOf, Cond.instanceMethod yX6_slotOf, Cond.selects RX6 yX6_slotOf yX6_slotOf, Cond.code yX6_slotOf cX6_slotOf 3 (some .int), Cond.methodLink RX6 116 yX6_isSlot, Cond.static yX6_isSlot, Cond.code yX6_isSlot cX6_isSlot 2 (some .boolean), Cond.methodLink RL 124 yL_isMarked, Cond.static yL_isMarked]
def wsL_law0_r22 : List Cond := [Cond.codeWith yL_isMarked cL_isMarked 5 (some .int) [(0, 17, 20, 25)], Cond.methodLink RL 60 yX5_isMarked, Cond.instanceMethod yX5_isMarked, Cond.selects RX5 yX5_isMarked yX5_isMarked, Cond.code yX5_isMarked cX5_isMarked 3 (some .boolean), Cond.methodLink RL 126 yX6_isMarked, Cond.instanceMethod yX6_isMarked, Cond.selects RX6 yX6_isMarked yX6_isMarked, Cond.code yX6_isMarked cX6_isMarked 3 (some .boolean), Cond.methodLink RL 127 yX5_marked, Cond.instanceMethod yX5_marked, Cond.selects RX5 yX5_marked yX5_marked, Cond.code yX5_marked cX5_marked 1 (some .int), Cond.methodLink RL 130 yX6_marked, Cond.instanceMethod yX6_marked, Cond.selects RX6 yX6_marked yX6_marked, Cond.code yX6_marked cX6_marked 1 (some .int), Cond.methodLink RL 131 yX5_records, Cond.instanceMethod yX5_records, Cond.selects RX5 yX5_records yX5_records, Cond.code yX5_records cX5_records 1 (some .int), Cond.methodLink RL 134 yX6_records, Cond.instanceMethod yX6_records, Cond.selects RX6 yX6_records yX6_records]
def wsL_law0_r23 : List Cond := [Cond.code yX6_records cX6_records 1 (some .int), Cond.methodLink RL 135 yX5_dropped, Cond.instanceMethod yX5_dropped, Cond.selects RX5 yX5_dropped yX5_dropped, Cond.code yX5_dropped cX5_dropped 1 (some .int), Cond.methodLink RL 138 yX6_dropped, Cond.instanceMethod yX6_dropped, Cond.selects RX6 yX6_dropped yX6_dropped, Cond.code yX6_dropped cX6_dropped 1 (some .int)]
def wsL_law0 : List Cond := (wsL_law0_r1 ++ (wsL_law0_r2 ++ (wsL_law0_r3 ++ (wsL_law0_r4 ++ (wsL_law0_r5 ++ (wsL_law0_r6 ++ (wsL_law0_r7 ++ (wsL_law0_r8 ++ (wsL_law0_r9 ++ (wsL_law0_r10 ++ (wsL_law0_r11 ++ (wsL_law0_r12 ++ (wsL_law0_r13 ++ (wsL_law0_r14 ++ (wsL_law0_r15 ++ (wsL_law0_r16 ++ (wsL_law0_r17 ++ (wsL_law0_r18 ++ (wsL_law0_r19 ++ (wsL_law0_r20 ++ (wsL_law0_r21 ++ (wsL_law0_r22 ++ wsL_law0_r23)))))))))))))))))))))) ++ wsX50 ++ wsX60 ++ wsJx4a65c0 ++ wsX00 ++ wsX20 ++ wsX30 ++ wsX40 ++ wsX10 ++ ([] : List Cond)
def wsL_law : List Cond := wsL_law0 ++ (vx_atS RX5 52 "java/lang/IllegalArgumentException" ["java/lang/RuntimeException", "java/lang/Exception"]).filter goodWord ++ (vx_atS RX5 63 "java/lang/IllegalStateException" ["java/lang/RuntimeException", "java/lang/Exception"]).filter goodWord ++ (vx_atS RX5 193 "java/lang/IndexOutOfBoundsException" ["java/lang/RuntimeException", "java/lang/Exception"]).filter goodWord ++ (vx_atS RX5 235 "java/util/NoSuchElementException" ["java/lang/RuntimeException", "java/lang/Exception"]).filter goodWord
abbrev vwCl : List vw_C := [(RJx4a65c, TJx4a65c, 3), (RX0, TX0, 1), (RX1, TX1, 4), (RX2, TX2, 2), (RX3, TX3, 2), (RX4, TX4, 5), (RX5, TX5, 8), (RX6, TX6, 18)]
/-! ===== END printed: names ===== -/
end
section
/-! worlds by keys: ad k is the address of the thing of key k, w k what it holds -/
abbrev kWd : Type := Nat → Option va_E
def kW (D : va_G) (ad : Nat → Nat) (w : kWd) (H : Heap) : Prop := ∀ (k : Nat) (e : va_E), w k = some e → va_at D vwCl (ad k, e) H
def kI (A : Nat → Prop) (ad : Nat → Nat) (w : kWd) : Prop := (∀ (i j : Nat) (x y : va_E), w i = some x → w j = some y → ad i = ad j → i = j) ∧ ∀ (k : Nat) (e : va_E), w k = some e → A (ad k)
def kS (D : va_G) (A : Nat → Prop) (H0 : Heap) (ad : Nat → Nat) (w : kWd) (H : Heap) (locs : List Loc) : Prop := kW D ad w H ∧ kI A ad w ∧ va_S A H0 H locs ∧ ∀ q : Nat, H0.size ≤ q → A q
theorem up_s {α : Type} {f g : Nat → α} {k : Nat} {v : α} (e : g = va_up f k v) : g k = v := by rw [e]; exact va_up_self _ _ _
theorem up_n {α : Type} {f g : Nat → α} {k j : Nat} {v : α} (e : g = va_up f k v) (h : j ≠ k) : g j = f j := by rw [e]; exact va_up_ne _ _ h
theorem up_some {w : kWd} {k i : Nat} {e0 e x : va_E} (hk : w k = some e0) (h : va_up w k (some e) i = some x) : ∃ y, w i = some y := by
  by_cases c : i = k
  · exact ⟨e0, by rw [c]; exact hk⟩
  · rw [va_up_ne _ _ c] at h
    exact ⟨x, h⟩
theorem kI.set {A : Nat → Prop} {ad : Nat → Nat} {w : kWd} {k : Nat} {e0 e : va_E} (h : kI A ad w) (hk : w k = some e0) : kI A ad (va_up w k (some e)) := by
  refine ⟨fun i j x y hi hj hij => ?_, fun i x hi => ?_⟩
  · obtain ⟨x', hx⟩ := up_some hk hi
    obtain ⟨y', hy⟩ := up_some hk hj
    exact h.1 i j x' y' hx hy hij
  · obtain ⟨x', hx⟩ := up_some hk hi
    exact h.2 i x' hx
theorem kW.set {D : va_G} {A : Nat → Prop} {ad : Nat → Nat} {w : kWd} {H H1 : Heap} {k : Nat} {e0 e : va_E} (h : kW D ad w H) (hI : kI A ad w) (hk : w k = some e0) (he : va_at D vwCl (ad k, e) H1) (oq : ∀ q : Nat, q ≠ ad k → H1[q]? = H[q]?) : kW D ad (va_up w k (some e)) H1 := by
  intro i x hi
  by_cases c : i = k
  · subst c
    rw [va_up_self] at hi
    cases hi
    exact he
  · rw [va_up_ne _ _ c] at hi
    exact (h i x hi).kept (oq _ (fun z => c (hI.1 i k x e0 hi hk z)))
theorem kS.set {D : va_G} {A : Nat → Prop} {H0 : Heap} {ad : Nat → Nat} {w : kWd} {H H1 : Heap} {locs : List Loc} {k : Nat} {e0 e : va_E} (h : kS D A H0 ad w H locs) (hk : w k = some e0) (he : va_at D vwCl (ad k, e) H1) (z : H1.size = H.size) (oq : ∀ q : Nat, q ≠ ad k → H1[q]? = H[q]?) (j : Nat) : kS D A H0 ad (va_up w k (some e)) H1 (locs ++ [⟨ad k, j⟩]) :=
  ⟨h.1.set h.2.1 hk he oq, h.2.1.set hk, h.2.2.1.put z oq (h.2.1.2 k _ hk), h.2.2.2⟩
theorem kS.push {D : va_G} {A : Nat → Prop} {H0 : Heap} {ad : Nat → Nat} {w : kWd} {H H1 : Heap} {locs : List Loc} (k : Nat) {e : va_E} (h : kS D A H0 ad w H locs) (he : va_at D vwCl (H.size, e) H1) (z : H.size ≤ H1.size) (oq : ∀ q : Nat, q < H.size → H1[q]? = H[q]?) : kS D A H0 (va_up ad k H.size) (va_up w k (some e)) H1 locs := by
  have lt : ∀ i x, w i = some x → ad i < H.size := fun i x hi => (h.1 i x hi).lt
  have key : ∀ i x, va_up w k (some e) i = some x → (i = k ∧ x = e) ∨ (i ≠ k ∧ w i = some x) := by
    intro i x hi
    by_cases c : i = k
    · subst c
      rw [va_up_self] at hi
      cases hi
      exact Or.inl ⟨rfl, rfl⟩
    · rw [va_up_ne _ _ c] at hi
      exact Or.inr ⟨c, hi⟩
  refine ⟨fun i x hi => ?_, ⟨fun i j x y hi hj hij => ?_, fun i x hi => ?_⟩, ⟨Nat.le_trans h.2.2.1.1 z, fun q h1 h2 => (oq q (Nat.lt_of_lt_of_le h1 h.2.2.1.1)).trans (h.2.2.1.2.1 q h1 h2), h.2.2.1.2.2⟩, h.2.2.2⟩
  · rcases key i x hi with ⟨rfl, rfl⟩ | ⟨c, hx⟩
    · rw [va_up_self]
      exact he
    · rw [va_up_ne _ _ c]
      exact (h.1 i x hx).kept (oq _ (lt i x hx))
  · rcases key i x hi with ⟨c1, -⟩ | ⟨c1, hx⟩ <;> rcases key j y hj with ⟨c2, -⟩ | ⟨c2, hy⟩
    · rw [c1, c2]
    · rw [c1, va_up_self, va_up_ne _ _ c2] at hij
      have := lt j y hy
      omega
    · rw [c2, va_up_self, va_up_ne _ _ c1] at hij
      have := lt i x hx
      omega
    · rw [va_up_ne _ _ c1, va_up_ne _ _ c2] at hij
      exact h.2.1.1 i j x y hx hy hij
  · rcases key i x hi with ⟨c1, -⟩ | ⟨c1, hx⟩
    · rw [c1, va_up_self]
      exact h.2.2.2 _ h.2.2.1.1
    · rw [va_up_ne _ _ c1]
      exact h.2.1.2 i x hx
theorem kS.P1 {D : va_G} {A : Nat → Prop} {H0 : Heap} {ad : Nat → Nat} {w : kWd} {H : Heap} {locs : List Loc} {k : Nat} {e : va_E} (h : kS D A H0 ad w H locs) (hk : w k = some e) : va_P D vwCl [(ad k, e)] H := by
  intro i q hq
  have hz : i < 1 := (List.getElem?_eq_some_iff.mp hq).1
  rw [show i = 0 by omega] at hq
  cases hq
  exact h.1 k e hk
/-- the classes of arrays -/
abbrev kT (D : va_G) : List (ClassId × FieldType) := [(D.1 100, .int), (D.1 101, .boolean), (D.1 102, .long), (D.1 103, .object "UndoCellar$Block"), (D.1 104, .object "UndoCellar$Row"), (D.1 105, .object "UndoCellar$Slot"), (D.1 106, .object "java/lang/Object")]
/-- words that only the tables decide: the nest's, casts: places 0.. 38 -/
def kN : List Cond := [
  .fieldLinkNest "UndoCellar$Block" 18 "UndoCellar$Slot" "holder" "LUndoCellar$Transaction;" "UndoCellar",
  .fieldLinkNest "UndoCellar" 182 "UndoCellar$Slot" "holder" "LUndoCellar$Transaction;" "UndoCellar",
  .fieldLinkNest "UndoCellar$Block" 26 "UndoCellar$Slot" "marked" "Z" "UndoCellar",
  .fieldLinkNest "UndoCellar" 186 "UndoCellar$Slot" "marked" "Z" "UndoCellar",
  .fieldLinkNest "UndoCellar" 202 "UndoCellar$Block" "slots" "[LUndoCellar$Slot;" "UndoCellar",
  .fieldLinkNest "UndoCellar" 104 "UndoCellar$Row" "block" "LUndoCellar$Block;" "UndoCellar",
  .fieldLinkNest "UndoCellar$Change" 31 "UndoCellar$Row" "value" "I" "UndoCellar",
  .fieldLinkNest "UndoCellar" 128 "UndoCellar$Row" "value" "I" "UndoCellar",
  .fieldLinkNest "UndoCellar" 78 "UndoCellar$Transaction" "number" "I" "UndoCellar",
  .fieldLinkNest "UndoCellar" 141 "UndoCellar$Transaction" "beganAt" "I" "UndoCellar",
  .fieldLinkNest "UndoCellar$Slot" 17 "UndoCellar$Transaction" "active" "Z" "UndoCellar",
  .fieldLinkNest "UndoCellar" 160 "UndoCellar$Transaction" "active" "Z" "UndoCellar",
  .fieldLinkNest "UndoCellar" 164 "UndoCellar$Transaction" "committedAt" "I" "UndoCellar",
  .fieldLinkNest "UndoCellar$Change" 36 "UndoCellar$Transaction" "standing" "I" "UndoCellar",
  .fieldLinkNest "UndoCellar" 151 "UndoCellar$Transaction" "standing" "I" "UndoCellar",
  .fieldLinkNest "UndoCellar" 216 "UndoCellar$Change" "transaction" "LUndoCellar$Transaction;" "UndoCellar",
  .fieldLinkNest "UndoCellar" 138 "UndoCellar$Change" "ahead" "I" "UndoCellar",
  .fieldLinkNest "UndoCellar" 221 "UndoCellar$Change" "isVoid" "Z" "UndoCellar",
  .methodLinkNest "UndoCellar" 108 yX0_slotFor "UndoCellar",
  .methodLinkNest "UndoCellar" 117 yX3_give "UndoCellar",
  .methodLinkNest "UndoCellar" 131 yX1_init "UndoCellar",
  .methodLinkNest "UndoCellar" 134 yX1_make "UndoCellar",
  .methodLinkNest "UndoCellar" 224 yX1_takeBack "UndoCellar",
  .methodLinkNest "UndoCellar" 227 yX1_stands "UndoCellar",
  .methodLinkNest "UndoCellar" 236 yX1_isSeen "UndoCellar",
  .methodLinkNest "UndoCellar" 240 yX0_markEnded "UndoCellar",
  .methodLinkNest "UndoCellar" 44 yX0_init "UndoCellar",
  .methodLinkNest "UndoCellar" 45 yX2_init "UndoCellar",
  .methodLinkNest "UndoCellar" 71 yX4_init "UndoCellar",
  .methodLinkNest "UndoCellar$Block" 17 yX3_init "UndoCellar",
  .methodLinkNest "UndoCellar$Block" 22 yX3_isEnded "UndoCellar",
  .methodLinkNest "UndoCellar$Change" 25 yX4_isCommittedBy "UndoCellar",
  .castable "java/lang/IllegalArgumentException" "java/lang/IllegalArgumentException",
  .castable "java/lang/IllegalStateException" "java/lang/IllegalStateException",
  .castable "java/lang/IndexOutOfBoundsException" "java/lang/IndexOutOfBoundsException",
  .castable "java/util/NoSuchElementException" "java/util/NoSuchElementException",
  .castable "UndoCellar$Transaction" "java/lang/Object",
  .castable "UndoCellar$Change" "java/lang/Object",
  .declares ⟨"java/lang/Object", "getClass", "()Ljava/lang/Class;"⟩,
  .declares ⟨"java/lang/RuntimeException", "<init>", "(Ljava/lang/String;)V"⟩,
  .declares ⟨"java/lang/Exception", "<init>", "(Ljava/lang/String;)V"⟩,
  .declares ⟨"java/lang/Throwable", "<init>", "(Ljava/lang/String;)V"⟩]
/-- the texts of what is thrown -/
def kR : List (Nat × String) := [(50, "the size is out of range"), (61, "more records than that are there"), (67, "there were as many transactions as there can be"), (91, "the value is out of range"), (112, "no slot can be had"), (154, "so many changes can't be kept"), (191, "there is no such transaction"), (198, "there is no such row"), (200, "there is no such block"), (206, "there is no such slot"), (208, "the transaction is not active"), (210, "the moment is out of range"), (212, "the row is locked by another transaction"), (214, "the object was used for more calls than it is for"), (219, "there is no space"), (233, "the read comes too late")]
/-- what is no such exception -/
def kC : List (String × String) := [("java/lang/IllegalArgumentException", "java/lang/IllegalStateException"), ("java/lang/IllegalArgumentException", "java/lang/IndexOutOfBoundsException"), ("java/lang/IllegalArgumentException", "java/util/NoSuchElementException"), ("java/lang/IllegalStateException", "java/lang/IllegalArgumentException"), ("java/lang/IllegalStateException", "java/lang/IndexOutOfBoundsException"), ("java/lang/IllegalStateException", "java/util/NoSuchElementException"), ("java/lang/IndexOutOfBoundsException", "java/lang/IllegalArgumentException"), ("java/lang/IndexOutOfBoundsException", "java/lang/IllegalStateException"), ("java/lang/IndexOutOfBoundsException", "java/util/NoSuchElementException"), ("java/util/NoSuchElementException", "java/lang/IllegalArgumentException"), ("java/util/NoSuchElementException", "java/lang/IllegalStateException"), ("java/util/NoSuchElementException", "java/lang/IndexOutOfBoundsException")]
def kKind : Cond → Bool
  | .fieldLinkNest _ _ _ _ _ _ => true
  | .methodLinkNest _ _ _ _ => true
  | .castable _ _ => true
  | .declares _ => true
  | _ => false
theorem kKind_warm {w : Cond} (hw : kKind w = true) {s U : State} (hW : s.WarmedH U.vm) (h : va_Nw w s) : va_Nw w U := by
  cases w <;> first | exact va_Nw.warmF hW h | exact va_Nw.warmM hW h | exact va_Nw.warmC hW h | exact va_Nw.warmD hW h | cases hw
theorem kN_kind : ∀ w ∈ kN, kKind w = true := by decide +kernel
/-- what stands fast: classes, arrays' classes, statics, texts .. -/
def kE (D : va_G) (A : Nat → Prop) (U : State) : Prop :=
  va_K D vwCl (kT D) U ∧ vx_Zq Bundle.tN "UNASSIGNED_STACK" Bundle.steD A U U.heap ∧ vx_Zq Bundle.tN "SUPPRESSED_SENTINEL" Bundle.listD A U U.heap ∧
  va_Z "java/util/ArrayList" "DEFAULTCAPACITY_EMPTY_ELEMENTDATA" "[Ljava/lang/Object;" (.ref (D.2 999 0)) A U U.heap ∧ va_T (.object "java/lang/Object") (D.2 999 0) 0 (fun _ => .null) A U U.heap ∧
  (∀ w ∈ kN, va_Nw w U) ∧ (∀ q ∈ kR, ∃ sa, vk_R RX5 q.1 q.2 sa U) ∧ (∀ q ∈ kC, va_Nc q.1 q.2 U) ∧
  va_AO "UndoCellar$Block" U ∧ va_AO "UndoCellar$Row" U ∧ va_AO "UndoCellar$Slot" U ∧ va_AO "java/lang/Object" U ∧ va_Mi "[Ljava/lang/Object;" (D.2 998 0) U
theorem kE.to {D : va_G} {A : Nat → Prop} {s U : State} (h : kE D A s) (hW : s.WarmedH U.vm) (hq : ∀ a : Nat, a < s.heap.size → ¬ A a → U.heap[a]? = s.heap[a]?) : kE D A U := by
  obtain ⟨h1, h2, h3, h4, h5, h6, h7, h8, h9, h10, h11, h12, h13⟩ := h
  exact ⟨va_K.moved hW.alike h1, vx_Zq.moved hW.alike (h2.kept hq), vx_Zq.moved hW.alike (h3.kept hq), va_Z.moved hW.alike (h4.kept hq), va_T.moved hW.alike (h5.kept hq),
    fun w hw => kKind_warm (kN_kind w hw) hW (h6 w hw), fun q hq => by obtain ⟨sa, hs⟩ := h7 q hq; exact ⟨sa, vk_R.warm hW hs⟩, fun q hq => va_Nc.moved hW.alike (h8 q hq),
    va_AO.moved hW.alike h9, va_AO.moved hW.alike h10, va_AO.moved hW.alike h11, va_AO.moved hW.alike h12, va_Mi.moved hW.alike h13⟩
theorem kE.K {D : va_G} {A : Nat → Prop} {s : State} (h : kE D A s) : va_K D vwCl (kT D) s := h.1
theorem kE.N {D : va_G} {A : Nat → Prop} {s : State} (h : kE D A s) (i : Nat) {w : Cond} (hw : kN[i]? = some w) : va_Nw w s := h.2.2.2.2.2.1 w (List.mem_of_getElem? hw)
theorem kE.R {D : va_G} {A : Nat → Prop} {s : State} (h : kE D A s) (i : Nat) {k : Nat} {tx : String} (hw : kR[i]? = some (k, tx)) : ∃ sa, vk_R RX5 k tx sa s := h.2.2.2.2.2.2.1 (k, tx) (List.mem_of_getElem? hw)
theorem kE.C {D : va_G} {A : Nat → Prop} {s : State} (h : kE D A s) (i : Nat) {a b : String} (hw : kC[i]? = some (a, b)) : va_Nc a b s := h.2.2.2.2.2.2.2.1 (a, b) (List.mem_of_getElem? hw)
theorem kE.AO {D : va_G} {A : Nat → Prop} {s : State} (h : kE D A s) : va_AO "UndoCellar$Block" s ∧ va_AO "UndoCellar$Row" s ∧ va_AO "UndoCellar$Slot" s ∧ va_AO "java/lang/Object" s ∧ va_Mi "[Ljava/lang/Object;" (D.2 998 0) s := h.2.2.2.2.2.2.2.2
/-- a method's start -/
def kPc (D : va_G) (A : Nat → Prop) (av : List Value) (ad : Nat → Nat) (w : kWd) : Array Value → State → Prop := va_Pc av (fun U => kE D A U ∧ kW D ad w U.heap ∧ kI A ad w ∧ ∀ q : Nat, U.heap.size ≤ q → A q)
theorem kE.call {D : va_G} {A : Nat → Prop} {U : State} {g : JFrame} {mk : MethodId} {a : Array Value} (h : kE D A U) : kE D A (U.calling g mk a) :=
  kE.to (U := U.calling g mk a) h (State.WarmedH.refl U) (fun _ _ _ => rfl)
theorem kPc.bl {D : va_G} {A : Nat → Prop} {av : List Value} {ad : Nat → Nat} {w : kWd} : FrameBlind (kPc D A av ad w) := fun a U g mk q => ⟨q.1, q.2.1.call, q.2.2⟩
theorem kPc.at {D : va_G} {A : Nat → Prop} {s U : State} {ad : Nat → Nat} {w : kWd} {H : Heap} {locs : List Loc} (hE : kE D A s) (hW : kS D A s.heap ad w H locs) (av : List Value) (hU : U.heap = H) (hw : s.WarmedH U.vm) : kPc D A av ad w av.toArray U := by
  subst hU
  exact ⟨rfl, hE.to hw (fun a h1 h2 => hW.2.2.1.2.1 a h1 h2), hW.1, hW.2.1, fun q h => hW.2.2.2 q (Nat.le_trans hW.2.2.1.1 h)⟩
/-- a method's end -/
abbrev kU : Type := (Nat → Nat) × kWd
def kB (D : va_G) (A : Nat → Prop) : kU → State → Prop := fun u t => kW D u.1 u.2 t.heap ∧ kI A u.1 u.2
abbrev kQi (D : va_G) (A : Nat → Prop) (post : Int32 → (Nat → Nat) → kWd → Prop) : Array Value → State → Outcome → State → Prop := va_Qi (fun r (u : kU) => post r u.1 u.2) (kB D A) A
abbrev kQv (D : va_G) (A : Nat → Prop) (post : (Nat → Nat) → kWd → Prop) : Array Value → State → Outcome → State → Prop := va_Qv (fun (u : kU) => post u.1 u.2) (kB D A) A
abbrev kQq (D : va_G) (A : Nat → Prop) (post : Option Nat → (Nat → Nat) → kWd → Prop) : Array Value → State → Outcome → State → Prop := va_Qq (fun r (u : kU) => post r u.1 u.2) (kB D A) A
/-- .. by an exception, the world as it was -/
abbrev kX (D : va_G) (A : Nat → Prop) (px : String → Prop) (ad : Nat → Nat) (w : kWd) : String → State → State → Prop := vx_X (fun _ : Unit => True) (fun E _ t => px E ∧ kW D ad w t.heap) A
section KR
variable {p : Program} {l : Launch} {e : Env} {R : Room} {s : State} {m : MethodId} {args : Array Value} {below : List Frame} {meth : Method} {c : Code} {H : Heap} {locs : List Loc} {cells slots : Nat} {Q : State → Prop}
variable {cc : ByteArray} {pc : Nat} {ls : Array Slot} {rest : List Value} {D : va_G} {A : Nat → Prop} {ad : Nat → Nat} {w : kWd} {k : Nat}
theorem kk_get (hx : p.tables.exec = Jvm.exec) (hb : c.code = cc) {own ref C : String} {T : u_T} {N ci index : Nat} {Ts : List Cond} (hts : ∀ w ∈ Ts, w.before args s = true) (hown : s.vm.findClass own = some m.cls) (hE : kE D A s) (hW : kS D A s.heap ad w H locs) {fs : List Value} (he : w k = some (.inr (ci, fs))) (hc : vwCl[ci]? = some (C, T, N)) (hin : ∀ w ∈ u_ws C T N, w ∈ Ts) (j : Nat) (hj : j < N) (hlink : (Cond.fieldLink own index ref (T j).2.1 (T j).2.2.1).before args s = true) (hsame : ∀ x, s.fieldFound? (T j).1 (T j).2.1 (T j).2.2.1 = some x → s.fieldFound? ref (T j).2.1 (T j).2.2.1 = some x) {v : Value} (hv : fs[j]? = some v) (hdg : decode cc pc = .ok (.getfield index, 3))
    (kk : W p l e R s m args below meth c H locs cells slots Q (F0 m (pc + 3) ls (v :: rest))) : W p l e R s m args below meth c H locs cells slots Q (F0 m pc ls (.ref (ad k) :: rest)) :=
  va_get hx hb hts hin hown hE.K (hW.P1 he) 0 rfl hc j hj hlink hsame hv hdg kk
theorem kk_getN (hx : p.tables.exec = Jvm.exec) (hb : c.code = cc) {own ref C host : String} {T : u_T} {N ci index : Nat} {Ts : List Cond} (hts : ∀ w ∈ Ts, w.before args s = true) (hown : s.vm.findClass own = some m.cls) (hE : kE D A s) (hW : kS D A s.heap ad w H locs) {fs : List Value} (he : w k = some (.inr (ci, fs))) (hc : vwCl[ci]? = some (C, T, N)) (hin : ∀ w ∈ u_ws C T N, w ∈ Ts) (j : Nat) (hj : j < N) (hlink : va_Nw (.fieldLinkNest own index ref (T j).2.1 (T j).2.2.1 host) s) (hsame : ∀ x, s.fieldFound? (T j).1 (T j).2.1 (T j).2.2.1 = some x → s.fieldFound? ref (T j).2.1 (T j).2.2.1 = some x) {v : Value} (hv : fs[j]? = some v) (hdg : decode cc pc = .ok (.getfield index, 3))
    (kk : W p l e R s m args below meth c H locs cells slots Q (F0 m (pc + 3) ls (v :: rest))) : W p l e R s m args below meth c H locs cells slots Q (F0 m pc ls (.ref (ad k) :: rest)) :=
  va_getN hx hb hts hin hown hE.K (hW.P1 he) 0 rfl hc j hj (va_Nw.use rfl hlink) hsame hv hdg kk
theorem kk_put (hx : p.tables.exec = Jvm.exec) (hb : c.code = cc) {own ref C : String} {T : u_T} {N ci index : Nat} {Ts : List Cond} (hts : ∀ w ∈ Ts, w.before args s = true) (hown : s.vm.findClass own = some m.cls) (hE : kE D A s) (hW : kS D A s.heap ad w H locs) {fs : List Value} (he : w k = some (.inr (ci, fs))) (hc : vwCl[ci]? = some (C, T, N)) (hin : ∀ w ∈ u_ws C T N, w ∈ Ts) (ty0 : Nat → FieldType) (hty : ∀ k, k < N → parseFieldDescriptor (T k).2.2.1 = some (ty0 k)) (hnm : ∀ a, a < N → ∀ b, b < N → a ≠ b → (T a).2.1 ≠ (T b).2.1) (j : Nat) (hj : j < N) (hlink : (Cond.fieldLink own index ref (T j).2.1 (T j).2.2.1).before args s = true) (hsame : ∀ x, s.fieldFound? (T j).1 (T j).2.1 (T j).2.2.1 = some x → s.fieldFound? ref (T j).2.1 (T j).2.2.1 = some x) (hfin : (T j).2.2.2 = false) {ty : FieldType} {v : Value} (hd : parseFieldDescriptor (T j).2.2.1 = some ty) (hn : narrow ty v = v) (hfit : fits ty v = true) (hl : j < fs.length)
    (hdg : decode cc pc = .ok (.putfield index, 3)) (kk : ∀ (H1 : Heap) (locs1 : List Loc) (w1 : kWd), w1 = va_up w k (some (.inr (ci, fs.set j v))) → kS D A s.heap ad w1 H1 locs1 → W p l e R s m args below meth c H1 locs1 cells slots Q (F0 m (pc + 3) ls rest)) : W p l e R s m args below meth c H locs cells slots Q (F0 m pc ls (v :: .ref (ad k) :: rest)) := by
  have hK := hE.K
  have hap := va_apart (own := own) hts hin ty0 hty hnm hK hc
  obtain ⟨r, h1, cell, q1, q2, q3, q4⟩ := hW.1 k _ he
  have hr : r = (C, T, N) := Option.some.inj (h1.symm.trans hc)
  subst hr
  obtain ⟨hS, hfc, kC, hkC, hkind⟩ := hK.1 ci _ hc
  obtain ⟨cf, kf, fi, f, hi, hsl⟩ := hS j hj
  have hlay := hts _ (hin _ (u_in_lay hj))
  unfold u_lay at hlay
  rw [if_neg (by rw [hfin]; decide)] at hlay
  have hst := (u_facts hfc hkC (u_lays hts hin hj) hi).1
  have h6 := u_store hfc hkC hkind hlay hi hd hn hfit
  refine W.putK hx hb (f := f) ⟨hown, hlink, ⟨_, _, _, hsame _ hi⟩, hst⟩ (by rw [q2]; exact h6) q1 q3 (by rw [hsl]; exact k2_hasslot (q4 j hj)) rfl rfl hdg fun H' e1 e2 e3 => ?_
  rw [hsl] at e1 ⊢
  exact kk H' _ _ rfl (hW.set (e := .inr (ci, fs.set j v)) he ⟨_, hc, t_OB.to (V := updV (vp_V fs) j v) ⟨_, e1, q2, q3, t_set q4 hap hj v⟩ (fun i _ => vp_updV_set hl v i)⟩ e2 e3 _)
theorem kk_putN (hx : p.tables.exec = Jvm.exec) (hb : c.code = cc) {own ref C host : String} {T : u_T} {N ci index : Nat} {Ts : List Cond} (hts : ∀ w ∈ Ts, w.before args s = true) (hown : s.vm.findClass own = some m.cls) (hE : kE D A s) (hW : kS D A s.heap ad w H locs) {fs : List Value} (he : w k = some (.inr (ci, fs))) (hc : vwCl[ci]? = some (C, T, N)) (hin : ∀ w ∈ u_ws C T N, w ∈ Ts) (ty0 : Nat → FieldType) (hty : ∀ k, k < N → parseFieldDescriptor (T k).2.2.1 = some (ty0 k)) (hnm : ∀ a, a < N → ∀ b, b < N → a ≠ b → (T a).2.1 ≠ (T b).2.1) (j : Nat) (hj : j < N) (hlink : va_Nw (.fieldLinkNest own index ref (T j).2.1 (T j).2.2.1 host) s) (hsame : ∀ x, s.fieldFound? (T j).1 (T j).2.1 (T j).2.2.1 = some x → s.fieldFound? ref (T j).2.1 (T j).2.2.1 = some x) (hfin : (T j).2.2.2 = false) {ty : FieldType} {v : Value} (hd : parseFieldDescriptor (T j).2.2.1 = some ty) (hn : narrow ty v = v) (hfit : fits ty v = true) (hl : j < fs.length)
    (hdg : decode cc pc = .ok (.putfield index, 3)) (kk : ∀ (H1 : Heap) (locs1 : List Loc) (w1 : kWd), w1 = va_up w k (some (.inr (ci, fs.set j v))) → kS D A s.heap ad w1 H1 locs1 → W p l e R s m args below meth c H1 locs1 cells slots Q (F0 m (pc + 3) ls rest)) : W p l e R s m args below meth c H locs cells slots Q (F0 m pc ls (v :: .ref (ad k) :: rest)) := by
  have hK := hE.K
  have hap := va_apart (own := own) hts hin ty0 hty hnm hK hc
  obtain ⟨r, h1, cell, q1, q2, q3, q4⟩ := hW.1 k _ he
  have hr : r = (C, T, N) := Option.some.inj (h1.symm.trans hc)
  subst hr
  obtain ⟨hS, hfc, kC, hkC, hkind⟩ := hK.1 ci _ hc
  obtain ⟨cf, kf, fi, f, hi, hsl⟩ := hS j hj
  have hlay := hts _ (hin _ (u_in_lay hj))
  unfold u_lay at hlay
  rw [if_neg (by rw [hfin]; decide)] at hlay
  have hst := (u_facts hfc hkC (u_lays hts hin hj) hi).1
  have h6 := u_store hfc hkC hkind hlay hi hd hn hfit
  refine va_WputK hx hb (f := f) hown (va_Nw.use rfl hlink) (hsame _ hi) hst (by rw [q2]; exact h6) q1 q3 (by rw [hsl]; exact k2_hasslot (q4 j hj)) rfl rfl hdg fun H' e1 e2 e3 => ?_
  rw [hsl] at e1 ⊢
  exact kk H' _ _ rfl (hW.set (e := .inr (ci, fs.set j v)) he ⟨_, hc, t_OB.to (V := updV (vp_V fs) j v) ⟨_, e1, q2, q3, t_set q4 hap hj v⟩ (fun i _ => vp_updV_set hl v i)⟩ e2 e3 _)
theorem kk_putF (hx : p.tables.exec = Jvm.exec) (hb : c.code = cc) {own ref C : String} {T : u_T} {N ci index : Nat} {Ts : List Cond} (hts : ∀ w ∈ Ts, w.before args s = true) (hown : s.vm.findClass own = some m.cls) (hE : kE D A s) (hW : kS D A s.heap ad w H locs) {fs : List Value} (he : w k = some (.inr (ci, fs))) (hc : vwCl[ci]? = some (C, T, N)) (hin : ∀ w ∈ u_ws C T N, w ∈ Ts) (ty0 : Nat → FieldType) (hty : ∀ k, k < N → parseFieldDescriptor (T k).2.2.1 = some (ty0 k)) (hnm : ∀ a, a < N → ∀ b, b < N → a ≠ b → (T a).2.1 ≠ (T b).2.1) (j : Nat) (hj : j < N) (hlink : (Cond.fieldLink own index ref (T j).2.1 (T j).2.2.1).before args s = true) (hsame : ∀ x, s.fieldFound? (T j).1 (T j).2.1 (T j).2.2.1 = some x → s.fieldFound? ref (T j).2.1 (T j).2.2.1 = some x) (hfin : (T j).2.2.2 = true) (hin2 : meth.name = "<init>") (hdecl : (T j).1 = own) {ty : FieldType} {v : Value} (hd : parseFieldDescriptor (T j).2.2.1 = some ty) (hn : narrow ty v = v) (hfit : fits ty v = true) (hl : j < fs.length)
    (hdg : decode cc pc = .ok (.putfield index, 3)) (kk : ∀ (H1 : Heap) (locs1 : List Loc) (w1 : kWd), w1 = va_up w k (some (.inr (ci, fs.set j v))) → kS D A s.heap ad w1 H1 locs1 → W p l e R s m args below meth c H1 locs1 cells slots Q (F0 m (pc + 3) ls rest)) : W p l e R s m args below meth c H locs cells slots Q (F0 m pc ls (v :: .ref (ad k) :: rest)) := by
  have hK := hE.K
  have hap := va_apart (own := own) hts hin ty0 hty hnm hK hc
  obtain ⟨r, h1, cell, q1, q2, q3, q4⟩ := hW.1 k _ he
  have hr : r = (C, T, N) := Option.some.inj (h1.symm.trans hc)
  subst hr
  obtain ⟨hS, hfc, kC, hkC, hkind⟩ := hK.1 ci _ hc
  obtain ⟨cf, kf, fi, f, hi, hsl⟩ := hS j hj
  have hlay := hts _ (hin _ (u_in_lay hj))
  unfold u_lay at hlay
  rw [if_pos hfin] at hlay
  have hst := (u_facts hfc hkC (u_lays hts hin hj) hi).1
  have hcf : m.cls = cf := by
    obtain ⟨_, _, c', _, _, _, -, -, hf', -, -, -, hown2, -⟩ := Cond.laysFinal_spec hlay
    have e1 : c' = cf := by have := hi.symm.trans hf'; simp at this; exact this.1.symm
    rw [hdecl] at hown2
    rw [← e1]; exact Option.some.inj (hown.symm.trans hown2)
  have h6 := u_fits hfc hkC hkind (Or.inr hlay) hi hd hn hfit
  refine W.putFinK hx hb hown hlink (hsame _ hi) hst hcf hin2 (by rw [q2]; exact h6) q1 q3 (by rw [hsl]; exact k2_hasslot (q4 j hj)) rfl rfl hdg fun H' e1 e2 e3 => ?_
  rw [hsl] at e1 ⊢
  exact kk H' _ _ rfl (hW.set (e := .inr (ci, fs.set j v)) he ⟨_, hc, t_OB.to (V := updV (vp_V fs) j v) ⟨_, e1, q2, q3, t_set q4 hap hj v⟩ (fun i _ => vp_updV_set hl v i)⟩ e2 e3 _)
theorem kk_iald (hx : p.tables.exec = Jvm.exec) (hb : c.code = cc) (hE : kE D A s) (hW : kS D A s.heap ad w H locs) {n : Nat} {f : Nat → Int32} (he : w k = some (.inl (D.1 100, n, .inl f))) {i : Int32} (hin : vp_in i n) (hdg : decode cc pc = .ok (.iaload, 1))
    (kk : W p l e R s m args below meth c H locs cells slots Q (F0 m (pc + 1) ls (.int (f i.toNatClampNeg) :: rest))) : W p l e R s m args below meth c H locs cells slots Q (F0 m pc ls (.int i :: .ref (ad k) :: rest)) :=
  va_iald hx hb hE.K (hW.P1 he) 0 0 rfl rfl hin hdg kk
theorem kk_zald (hx : p.tables.exec = Jvm.exec) (hb : c.code = cc) (hE : kE D A s) (hW : kS D A s.heap ad w H locs) {n : Nat} {f : Nat → Int32} (he : w k = some (.inl (D.1 101, n, .inl f))) {i : Int32} (hin : vp_in i n) (hdg : decode cc pc = .ok (.baload, 1))
    (kk : W p l e R s m args below meth c H locs cells slots Q (F0 m (pc + 1) ls (.int (f i.toNatClampNeg) :: rest))) : W p l e R s m args below meth c H locs cells slots Q (F0 m pc ls (.int i :: .ref (ad k) :: rest)) :=
  va_zald hx hb hE.K (hW.P1 he) 0 1 rfl rfl hin hdg kk
theorem kk_lald (hx : p.tables.exec = Jvm.exec) (hb : c.code = cc) (hE : kE D A s) (hW : kS D A s.heap ad w H locs) {n : Nat} {f : Nat → Int64} (he : w k = some (.inl (D.1 102, n, .inr (.inl f)))) {i : Int32} (hin : vp_in i n) (hdg : decode cc pc = .ok (.laload, 1))
    (kk : W p l e R s m args below meth c H locs cells slots Q (F0 m (pc + 1) ls (.long (f i.toNatClampNeg) :: rest))) : W p l e R s m args below meth c H locs cells slots Q (F0 m pc ls (.int i :: .ref (ad k) :: rest)) :=
  va_lald hx hb hE.K (hW.P1 he) 0 2 rfl rfl hin hdg kk
theorem kk_aald (hx : p.tables.exec = Jvm.exec) (hb : c.code = cc) (hE : kE D A s) (hW : kS D A s.heap ad w H locs) (t0 : Nat) {cA : ClassId} {C : String} (ht : (kT D)[t0]? = some (cA, .object C)) {n : Nat} {f : Nat → Option Nat} (he : w k = some (.inl (cA, n, .inr (.inr (.inr (.inr f)))))) {i : Int32} (hin : vp_in i n) {v : Value} (hv : va_rf (f i.toNatClampNeg) = v) (hdg : decode cc pc = .ok (.aaload, 1))
    (kk : W p l e R s m args below meth c H locs cells slots Q (F0 m (pc + 1) ls (v :: rest))) : W p l e R s m args below meth c H locs cells slots Q (F0 m pc ls (.int i :: .ref (ad k) :: rest)) := by
  subst hv
  exact va_aldq hx hb hE.K (hW.P1 he) 0 t0 rfl ht hin hdg kk
theorem kk_alen (hx : p.tables.exec = Jvm.exec) (hb : c.code = cc) (hE : kE D A s) (hW : kS D A s.heap ad w H locs) (t0 : Nat) {cA : ClassId} {x : vp_A} (he : w k = some (.inl (cA, x))) {ty : FieldType} (ht : (kT D)[t0]? = some (cA, ty)) {v : Int32} (hv : Int32.ofNat x.1 = v) (hdg : decode cc pc = .ok (.arraylength, 1))
    (kk : W p l e R s m args below meth c H locs cells slots Q (F0 m (pc + 1) ls (.int v :: rest))) : W p l e R s m args below meth c H locs cells slots Q (F0 m pc ls (.ref (ad k) :: rest)) :=
  va_alen hx hb hE.K (hW.P1 he) 0 t0 rfl ht hv hdg kk
theorem kk_iast (hx : p.tables.exec = Jvm.exec) (hb : c.code = cc) (hE : kE D A s) (hW : kS D A s.heap ad w H locs) {n : Nat} {f : Nat → Int32} (he : w k = some (.inl (D.1 100, n, .inl f))) {i x : Int32} (hin : vp_in i n) (hdg : decode cc pc = .ok (.iastore, 1))
    (kk : ∀ (H1 : Heap) (locs1 : List Loc) (w1 : kWd), w1 = va_up w k (some (.inl (D.1 100, n, .inl (upd f i.toNatClampNeg x)))) → kS D A s.heap ad w1 H1 locs1 → W p l e R s m args below meth c H1 locs1 cells slots Q (F0 m (pc + 1) ls rest)) : W p l e R s m args below meth c H locs cells slots Q (F0 m pc ls (.int x :: .int i :: .ref (ad k) :: rest)) := by
  refine W.iast hx hb (hW.1 k _ he) ((hE.K.2 0 _ rfl).1 n (fun j => .int (f j))) (fun q => by cases q) (by show ¬ (i < 0 ∨ (arrV _ _ _).slots.size ≤ _); rw [arrV_size]; exact hin) rfl rfl hdg fun H1 e z oq => ?_
  refine kk H1 _ _ rfl (hW.set he ?_ z oq _)
  show H1[ad k]? = some (vp_cell _ _)
  rw [e]
  rw [vp_cell_i, vp_cell_i, arrV_store]
  congr 2
  funext q
  by_cases hq : q = i.toNatClampNeg
  · subst hq
    simp [updV, upd]
  · simp [updV, upd, hq]
theorem kk_zast (hx : p.tables.exec = Jvm.exec) (hb : c.code = cc) (hE : kE D A s) (hW : kS D A s.heap ad w H locs) {n : Nat} {f : Nat → Int32} (he : w k = some (.inl (D.1 101, n, .inl f))) {i x : Int32} (hin : vp_in i n) (hdg : decode cc pc = .ok (.bastore, 1))
    (kk : ∀ (H1 : Heap) (locs1 : List Loc) (w1 : kWd), w1 = va_up w k (some (.inl (D.1 101, n, .inl (upd f i.toNatClampNeg (vp_nar .boolean x))))) → kS D A s.heap ad w1 H1 locs1 → W p l e R s m args below meth c H1 locs1 cells slots Q (F0 m (pc + 1) ls rest)) : W p l e R s m args below meth c H locs cells slots Q (F0 m pc ls (.int x :: .int i :: .ref (ad k) :: rest)) := by
  refine W.zast hx hb (hW.1 k _ he) ((hE.K.2 1 _ rfl).1 n (fun j => .int (f j))) (fun q => by cases q) (by show ¬ (i < 0 ∨ (arrV _ _ _).slots.size ≤ _); rw [arrV_size]; exact hin) rfl rfl hdg fun H1 e z oq => ?_
  refine kk H1 _ _ rfl (hW.set he ?_ z oq _)
  show H1[ad k]? = some (vp_cell _ _)
  rw [e]
  rw [vp_cell_i, vp_cell_i, arrV_store]
  congr 2
  funext q
  by_cases hq : q = i.toNatClampNeg
  · subst hq
    simp [updV, upd, vp_nar]
    try rfl
  · simp [updV, upd, hq]
theorem kk_last (hx : p.tables.exec = Jvm.exec) (hb : c.code = cc) (hE : kE D A s) (hW : kS D A s.heap ad w H locs) {n : Nat} {f : Nat → Int64} (he : w k = some (.inl (D.1 102, n, .inr (.inl f)))) {i : Int32} {x : Int64} (hin : vp_in i n) (hdg : decode cc pc = .ok (.lastore, 1))
    (kk : ∀ (H1 : Heap) (locs1 : List Loc) (w1 : kWd), w1 = va_up w k (some (.inl (D.1 102, n, .inr (.inl (vp_updL f i.toNatClampNeg x))))) → kS D A s.heap ad w1 H1 locs1 → W p l e R s m args below meth c H1 locs1 cells slots Q (F0 m (pc + 1) ls rest)) : W p l e R s m args below meth c H locs cells slots Q (F0 m pc ls (.long x :: .int i :: .ref (ad k) :: rest)) := by
  refine W.last hx hb (hW.1 k _ he) ((hE.K.2 2 _ rfl).1 n (fun j => .long (f j))) (fun q => by cases q) (by show ¬ (i < 0 ∨ (arrV _ _ _).slots.size ≤ _); rw [arrV_size]; exact hin) rfl rfl hdg fun H1 e z oq => ?_
  refine kk H1 _ _ rfl (hW.set he ?_ z oq _)
  show H1[ad k]? = some (vp_cell _ _)
  rw [e]
  rw [vp_cell_l, vp_cell_l, arrV_store]
  congr 2
  funext q
  by_cases hq : q = i.toNatClampNeg
  · subst hq
    simp [updV, vp_updL]
  · simp [updV, vp_updL, hq]
theorem kk_aast (hx : p.tables.exec = Jvm.exec) (hb : c.code = cc) (hE : kE D A s) (hW : kS D A s.heap ad w H locs) (t0 : Nat) {E : String} {cA : ClassId} (ht : (kT D)[t0]? = some (cA, .object E)) {n : Nat} {f : Nat → Option Nat} (he : w k = some (.inl (cA, n, .inr (.inr (.inr (.inr f)))))) {kv ci : Nat} {vs : List Value} {r : vw_C} (hv : w kv = some (.inr (ci, vs))) (hc : vwCl[ci]? = some r) (hasg : ∀ comp c0 : ClassId, s.vm.findClass E = some comp → s.vm.findClass r.1 = some c0 → s.vm.assignable c0 comp = true) {i : Int32} (hin : vp_in i n) (hdg : decode cc pc = .ok (.aastore, 1))
    (kk : ∀ (H1 : Heap) (locs1 : List Loc) (w1 : kWd), w1 = va_up w k (some (.inl (cA, n, .inr (.inr (.inr (.inr (va_up f i.toNatClampNeg (some (ad kv))))))))) → kS D A s.heap ad w1 H1 locs1 → W p l e R s m args below meth c H1 locs1 cells slots Q (F0 m (pc + 1) ls rest)) : W p l e R s m args below meth c H locs cells slots Q (F0 m pc ls (.ref (ad kv) :: .int i :: .ref (ad k) :: rest)) := by
  have hlt : i.toNatClampNeg < n := Nat.not_le.mp fun q => hin (Or.inr q)
  have h0 : ¬ i < 0 := fun q => hin (Or.inl q)
  obtain ⟨cellV, g1, g3, ⟨kC, hkC⟩, hasg'⟩ := va_rAny hE.K (hW.P1 hv) (q0 := 0) rfl hc hasg
  obtain ⟨kA, comp, k1, k2, k3, -⟩ := (hE.K.2 t0 _ ht).2
  obtain ⟨kE, hkE, -⟩ := Vm.findClass_spec k3
  refine W.aast hx hb (hW.1 k _ he) (fun q h => by cases h) (fun h => by cases h) k1 k2 rfl hkE ⟨h0, by show _ < (arrV _ _ _).slots.size; rw [arrV_size]; exact hlt⟩ g1 (fun q h => by rw [h] at g3; cases g3) hkC (hasg' comp k3) rfl rfl hdg fun H1 e z oq => ?_
  refine kk H1 _ _ rfl (hW.set he ?_ z oq _)
  show H1[ad k]? = some (vp_cell _ _)
  rw [e]
  rw [vp_cell_q, vp_cell_q, arrV_store]
  congr 2
  funext q
  by_cases hq : q = i.toNatClampNeg
  · subst hq
    simp [updV, va_up, va_rf]
  · simp [updV, va_up, hq]
theorem kk_new (hx : p.tables.exec = Jvm.exec) (hb : c.code = cc) {own C : String} {T : u_T} {N ci index : Nat} {Ts : List Cond} (hts : ∀ w ∈ Ts, w.before args s = true) (hown : s.vm.findClass own = some m.cls) (hE : kE D A s) (hW : kS D A s.heap ad w H locs) (k : Nat) (hc : vwCl[ci]? = some (C, T, N)) (hin : ∀ w ∈ u_ws C T N, w ∈ Ts) (ty : Nat → FieldType) (hty : ∀ k, k < N → parseFieldDescriptor (T k).2.2.1 = some (ty k)) (hcl : (Cond.classLink own index C).before args s = true) (hinst : (Cond.instantiable C N).before args s = true) (hini : (Cond.initialized C).before args s = true)
    {fs : List Value} (hfs : ∀ j, j < N → defaultValue (ty j) = vp_V fs j) (hcells : cells + 1 ≤ R.cells) (hslots : slots + N ≤ R.slots) (hdg : decode cc pc = .ok (.new index, 3))
    (kk : ∀ (H1 : Heap) (ad1 : Nat → Nat) (w1 : kWd), ad1 = va_up ad k H.size → w1 = va_up w k (some (.inr (ci, fs))) → kS D A s.heap ad1 w1 H1 locs → W p l e R s m args below meth c H1 locs (cells + 1) (slots + N) Q (F0 m (pc + 3) ls (.ref (ad1 k) :: rest))) : W p l e R s m args below meth c H locs cells slots Q (F0 m pc ls rest) := by
  have hKn := hE.K.1 ci _ hc
  refine W.newcK hx hb hown hcl hinst hini rfl hdg hcells hslots hKn.2.1 rfl fun H1 kC hkC e1 z1 o1 => ?_
  have h9 := kk H1 _ _ rfl rfl (hW.push k ⟨_, hc, (u_born ty hts hin hKn hkC e1 hty).to hfs⟩ (by omega) o1)
  rw [va_up_self] at h9
  exact h9
theorem kk_newq (hx : p.tables.exec = Jvm.exec) (hb : c.code = cc) {own C : String} {index : Nat} (hown : s.vm.findClass own = some m.cls) (hclink : (Cond.classLink own index C).before args s = true) (hover : va_AO C s) (hE : kE D A s) (hW : kS D A s.heap ad w H locs) (k t0 : Nat) {cA : ClassId} (ht : (kT D)[t0]? = some (cA, .object C))
    {n : Int32} {N' : Nat} (hn : ¬ n < 0) (hN : n.toNatClampNeg = N') (hbytes : N' * 4 ≤ 536870912) (hcells : cells + 1 ≤ R.cells) (hslots : slots + N' ≤ R.slots) (hdg : decode cc pc = .ok (.anewarray index, 3))
    (kk : ∀ (H1 : Heap) (ad1 : Nat → Nat) (w1 : kWd), ad1 = va_up ad k H.size → w1 = va_up w k (some (.inl (cA, N', .inr (.inr (.inr (.inr (fun _ => none))))))) → kS D A s.heap ad1 w1 H1 locs → W p l e R s m args below meth c H1 locs (cells + 1) (slots + N') Q (F0 m (pc + 3) ls (.ref (ad1 k) :: rest))) : W p l e R s m args below meth c H locs cells slots Q (F0 m pc ls (.int n :: rest)) := by
  subst hN
  refine W.anew hx hb hown hclink (va_AO.use hover) rfl hdg rfl hn hbytes hcells hslots fun cB kA comp f1 f2 f3 f4 => ?_
  have hcB : cB = cA := by
    obtain ⟨-, -, -, -, -, h4⟩ := (hE.K.2 t0 _ ht).2
    exact Option.some.inj (f1.symm.trans h4)
  subst hcB
  generalize hH1 : H.push ({ cls := cB, slots := Array.replicate n.toNatClampNeg .null, vm := .none } : Cell) = H1
  have z1 : H1.size = H.size + 1 := by rw [← hH1, Array.size_push]
  have e1 : H1[H.size]? = some (arrV cB n.toNatClampNeg (fun _ => .null)) := by rw [← hH1, Array.getElem?_push_size, ← arrV_new]
  have o1 : ∀ q : Nat, q < H.size → H1[q]? = H[q]? := fun q hq => by rw [← hH1, Array.getElem?_push, if_neg (Nat.ne_of_lt hq)]
  have h9 := kk H1 _ _ rfl rfl (hW.push k (e := .inl (cB, n.toNatClampNeg, .inr (.inr (.inr (.inr (fun _ => none)))))) (by show H1[H.size]? = some (vp_cell _ _); rw [vp_cell_q]; exact e1) (by omega) o1)
  rw [va_up_self] at h9
  exact h9
theorem kk_newa (hx : p.tables.exec = Jvm.exec) (hb : c.code = cc) {atype : ArrayType} (harr : (Cond.arrayClass (newarray.typeOf atype)).before args s = true) {ty : FieldType} (hty : newarray.typeOf atype = ty) (hE : kE D A s) (hW : kS D A s.heap ad w H locs) (k t0 : Nat) {cA : ClassId} (ht : (kT D)[t0]? = some (cA, ty)) (hnm : va_RA s cA ty → s.vm.findClass ("[" ++ ty.toString) = some cA)
    {n : Int32} {N' : Nat} {a0 : vp_A} (ha : ∀ cA : ClassId, vp_cell cA a0 = arrV cA N' (fun _ => defaultValue ty)) (hn : ¬ n < 0) (hN : n.toNatClampNeg = N') (hbytes : N' * componentBytes ty ≤ 536870912) (hcells : cells + 1 ≤ R.cells) (hslots : slots + N' ≤ R.slots) (hdg : decode cc pc = .ok (.newarray atype, 2))
    (kk : ∀ (H1 : Heap) (ad1 : Nat → Nat) (w1 : kWd), ad1 = va_up ad k H.size → w1 = va_up w k (some (.inl (cA, a0))) → kS D A s.heap ad1 w1 H1 locs → W p l e R s m args below meth c H1 locs (cells + 1) (slots + N') Q (F0 m (pc + 2) ls (.ref (ad1 k) :: rest))) : W p l e R s m args below meth c H locs cells slots Q (F0 m pc ls (.int n :: rest)) := by
  subst hty
  refine va_newaK hx hb harr rfl hdg rfl hn hN hbytes hcells hslots rfl fun H1 cB e1 z1 o1 hAr hNm => ?_
  have hcB : cB = cA := Option.some.inj (hNm.symm.trans (hnm (hE.K.2 t0 _ ht).2))
  subst hcB
  have h9 := kk H1 _ _ rfl rfl (hW.push k (e := .inl (cB, a0)) (by show H1[H.size]? = some (vp_cell _ _); rw [ha]; exact e1) (by omega) o1)
  rw [va_up_self] at h9
  exact h9
end KR
end
section
/-! printed decode rows and words -/
theorem dX6_init_0 : decode cX6_init 0 = .ok (.aload_n 0, 1) := by decide +kernel
theorem dX6_init_1 : decode cX6_init 1 = .ok (.invokespecial 1, 3) := by decide +kernel
theorem dX6_init_4 : decode cX6_init 4 = .ok (.aload_n 0, 1) := by decide +kernel
theorem dX6_init_5 : decode cX6_init 5 = .ok (.bipush 12, 2) := by decide +kernel
theorem dX6_init_7 : decode cX6_init 7 = .ok (.newarray .int, 2) := by decide +kernel
theorem dX6_init_9 : decode cX6_init 9 = .ok (.putfield 7, 3) := by decide +kernel
theorem dX6_init_12 : decode cX6_init 12 = .ok (.aload_n 0, 1) := by decide +kernel
theorem dX6_init_13 : decode cX6_init 13 = .ok (.bipush 12, 2) := by decide +kernel
theorem dX6_init_15 : decode cX6_init 15 = .ok (.putfield 13, 3) := by decide +kernel
theorem dX6_init_18 : decode cX6_init 18 = .ok (.aload_n 0, 1) := by decide +kernel
theorem dX6_init_19 : decode cX6_init 19 = .ok (.bipush 60, 2) := by decide +kernel
theorem dX6_init_21 : decode cX6_init 21 = .ok (.newarray .int, 2) := by decide +kernel
theorem dX6_init_23 : decode cX6_init 23 = .ok (.putfield 17, 3) := by decide +kernel
theorem dX6_init_26 : decode cX6_init 26 = .ok (.aload_n 0, 1) := by decide +kernel
theorem dX6_init_27 : decode cX6_init 27 = .ok (.bipush 60, 2) := by decide +kernel
theorem dX6_init_29 : decode cX6_init 29 = .ok (.newarray .int, 2) := by decide +kernel
theorem dX6_init_31 : decode cX6_init 31 = .ok (.putfield 20, 3) := by decide +kernel
theorem dX6_init_34 : decode cX6_init 34 = .ok (.aload_n 0, 1) := by decide +kernel
theorem dX6_init_35 : decode cX6_init 35 = .ok (.bipush 60, 2) := by decide +kernel
theorem dX6_init_37 : decode cX6_init 37 = .ok (.newarray .int, 2) := by decide +kernel
theorem dX6_init_39 : decode cX6_init 39 = .ok (.putfield 23, 3) := by decide +kernel
theorem dX6_init_42 : decode cX6_init 42 = .ok (.aload_n 0, 1) := by decide +kernel
theorem dX6_init_43 : decode cX6_init 43 = .ok (.sipush 2000, 3) := by decide +kernel
theorem dX6_init_46 : decode cX6_init 46 = .ok (.newarray .int, 2) := by decide +kernel
theorem dX6_init_48 : decode cX6_init 48 = .ok (.putfield 26, 3) := by decide +kernel
theorem dX6_init_51 : decode cX6_init 51 = .ok (.aload_n 0, 1) := by decide +kernel
theorem dX6_init_52 : decode cX6_init 52 = .ok (.sipush 2000, 3) := by decide +kernel
theorem dX6_init_55 : decode cX6_init 55 = .ok (.newarray .int, 2) := by decide +kernel
theorem dX6_init_57 : decode cX6_init 57 = .ok (.putfield 29, 3) := by decide +kernel
theorem dX6_init_60 : decode cX6_init 60 = .ok (.aload_n 0, 1) := by decide +kernel
theorem dX6_init_61 : decode cX6_init 61 = .ok (.sipush 2000, 3) := by decide +kernel
theorem dX6_init_64 : decode cX6_init 64 = .ok (.newarray .int, 2) := by decide +kernel
theorem dX6_init_66 : decode cX6_init 66 = .ok (.putfield 32, 3) := by decide +kernel
theorem dX6_init_69 : decode cX6_init 69 = .ok (.aload_n 0, 1) := by decide +kernel
theorem dX6_init_70 : decode cX6_init 70 = .ok (.sipush 2000, 3) := by decide +kernel
theorem dX6_init_73 : decode cX6_init 73 = .ok (.newarray .boolean, 2) := by decide +kernel
theorem dX6_init_75 : decode cX6_init 75 = .ok (.putfield 35, 3) := by decide +kernel
theorem dX6_init_78 : decode cX6_init 78 = .ok (.aload_n 0, 1) := by decide +kernel
theorem dX6_init_79 : decode cX6_init 79 = .ok (.bipush 6, 2) := by decide +kernel
theorem dX6_init_81 : decode cX6_init 81 = .ok (.newarray .int, 2) := by decide +kernel
theorem dX6_init_83 : decode cX6_init 83 = .ok (.putfield 39, 3) := by decide +kernel
theorem dX6_init_86 : decode cX6_init 86 = .ok (.aload_n 0, 1) := by decide +kernel
theorem dX6_init_87 : decode cX6_init 87 = .ok (.bipush 6, 2) := by decide +kernel
theorem dX6_init_89 : decode cX6_init 89 = .ok (.newarray .boolean, 2) := by decide +kernel
theorem dX6_init_91 : decode cX6_init 91 = .ok (.putfield 42, 3) := by decide +kernel
theorem dX6_init_94 : decode cX6_init 94 = .ok (.iconst 0, 1) := by decide +kernel
theorem dX6_init_95 : decode cX6_init 95 = .ok (.istore_n 1, 1) := by decide +kernel
theorem dX6_init_96 : decode cX6_init 96 = .ok (.iload_n 1, 1) := by decide +kernel
theorem dX6_init_97 : decode cX6_init 97 = .ok (.bipush 6, 2) := by decide +kernel
theorem dX6_init_99 : decode cX6_init 99 = .ok (.if_icmp .ge 16, 3) := by decide +kernel
theorem dX6_init_102 : decode cX6_init 102 = .ok (.aload_n 0, 1) := by decide +kernel
theorem dX6_init_103 : decode cX6_init 103 = .ok (.getfield 39, 3) := by decide +kernel
theorem dX6_init_106 : decode cX6_init 106 = .ok (.iload_n 1, 1) := by decide +kernel
theorem dX6_init_107 : decode cX6_init 107 = .ok (.iconst (-1), 1) := by decide +kernel
theorem dX6_init_108 : decode cX6_init 108 = .ok (.iastore, 1) := by decide +kernel
theorem dX6_init_109 : decode cX6_init 109 = .ok (.iinc 1 1, 3) := by decide +kernel
theorem dX6_init_112 : decode cX6_init 112 = .ok (.goto (-16), 3) := by decide +kernel
theorem dX6_init_115 : decode cX6_init 115 = .ok (.return_, 1) := by decide +kernel
theorem dX6_thrown_0 : decode cX6_thrown 0 = .ok (.aload_n 0, 1) := by decide +kernel
theorem dX6_thrown_1 : decode cX6_thrown 1 = .ok (.getfield 45, 3) := by decide +kernel
theorem dX6_thrown_4 : decode cX6_thrown 4 = .ok (.ireturn, 1) := by decide +kernel
theorem dX6_can_0 : decode cX6_can 0 = .ok (.aload_n 0, 1) := by decide +kernel
theorem dX6_can_1 : decode cX6_can 1 = .ok (.iload_n 1, 1) := by decide +kernel
theorem dX6_can_2 : decode cX6_can 2 = .ok (.putfield 45, 3) := by decide +kernel
theorem dX6_can_5 : decode cX6_can 5 = .ok (.iload_n 1, 1) := by decide +kernel
theorem dX6_can_6 : decode cX6_can 6 = .ok (.ifCond .ne 7, 3) := by decide +kernel
theorem dX6_can_9 : decode cX6_can 9 = .ok (.iconst 1, 1) := by decide +kernel
theorem dX6_can_10 : decode cX6_can 10 = .ok (.goto 4, 3) := by decide +kernel
theorem dX6_can_13 : decode cX6_can 13 = .ok (.iconst 0, 1) := by decide +kernel
theorem dX6_can_14 : decode cX6_can 14 = .ok (.ireturn, 1) := by decide +kernel
theorem dX6_isIn_0 : decode cX6_isIn 0 = .ok (.iload_n 0, 1) := by decide +kernel
theorem dX6_isIn_1 : decode cX6_isIn 1 = .ok (.iload_n 1, 1) := by decide +kernel
theorem dX6_isIn_2 : decode cX6_isIn 2 = .ok (.if_icmp .lt 12, 3) := by decide +kernel
theorem dX6_isIn_5 : decode cX6_isIn 5 = .ok (.iload_n 0, 1) := by decide +kernel
theorem dX6_isIn_6 : decode cX6_isIn 6 = .ok (.iload_n 2, 1) := by decide +kernel
theorem dX6_isIn_7 : decode cX6_isIn 7 = .ok (.if_icmp .gt 7, 3) := by decide +kernel
theorem dX6_isIn_10 : decode cX6_isIn 10 = .ok (.iconst 1, 1) := by decide +kernel
theorem dX6_isIn_11 : decode cX6_isIn 11 = .ok (.goto 4, 3) := by decide +kernel
theorem dX6_isIn_14 : decode cX6_isIn 14 = .ok (.iconst 0, 1) := by decide +kernel
theorem dX6_isIn_15 : decode cX6_isIn 15 = .ok (.ireturn, 1) := by decide +kernel
set_option maxRecDepth 20000 in
theorem ggX6_isRow_X6_isIn : GoodIn wsX6_isRow wsX6_isIn := goodIn_r _ [4] (by decide +kernel) (by decide +kernel)
set_option maxRecDepth 20000 in
theorem gX6_isRow_X6_isIn : GoodIn wsX6_isRow (va_wsS RX6 48 yX6_isIn wsX6_isIn) := goodIn_app (goodIn_of _ (by decide +kernel)) ggX6_isRow_X6_isIn
theorem dX6_isRow_0 : decode cX6_isRow 0 = .ok (.iload_n 0, 1) := by decide +kernel
theorem dX6_isRow_1 : decode cX6_isRow 1 = .ok (.iconst 0, 1) := by decide +kernel
theorem dX6_isRow_2 : decode cX6_isRow 2 = .ok (.bipush 11, 2) := by decide +kernel
theorem dX6_isRow_4 : decode cX6_isRow 4 = .ok (.invokestatic 48, 3) := by decide +kernel
theorem dX6_isRow_7 : decode cX6_isRow 7 = .ok (.ireturn, 1) := by decide +kernel
set_option maxRecDepth 20000 in
theorem ggX6_isTransaction_X6_isIn : GoodIn wsX6_isTransaction wsX6_isIn := goodIn_r _ [5] (by decide +kernel) (by decide +kernel)
set_option maxRecDepth 20000 in
theorem gX6_isTransaction_X6_isIn : GoodIn wsX6_isTransaction (va_wsS RX6 48 yX6_isIn wsX6_isIn) := goodIn_app (goodIn_of _ (by decide +kernel)) ggX6_isTransaction_X6_isIn
theorem dX6_isTransaction_0 : decode cX6_isTransaction 0 = .ok (.iload_n 1, 1) := by decide +kernel
theorem dX6_isTransaction_1 : decode cX6_isTransaction 1 = .ok (.iconst 0, 1) := by decide +kernel
theorem dX6_isTransaction_2 : decode cX6_isTransaction 2 = .ok (.aload_n 0, 1) := by decide +kernel
theorem dX6_isTransaction_3 : decode cX6_isTransaction 3 = .ok (.getfield 52, 3) := by decide +kernel
theorem dX6_isTransaction_6 : decode cX6_isTransaction 6 = .ok (.iconst 1, 1) := by decide +kernel
theorem dX6_isTransaction_7 : decode cX6_isTransaction 7 = .ok (.isub, 1) := by decide +kernel
theorem dX6_isTransaction_8 : decode cX6_isTransaction 8 = .ok (.invokestatic 48, 3) := by decide +kernel
theorem dX6_isTransaction_11 : decode cX6_isTransaction 11 = .ok (.ireturn, 1) := by decide +kernel
theorem dX6_isActive_0 : decode cX6_isActive 0 = .ok (.aload_n 0, 1) := by decide +kernel
theorem dX6_isActive_1 : decode cX6_isActive 1 = .ok (.getfield 17, 3) := by decide +kernel
theorem dX6_isActive_4 : decode cX6_isActive 4 = .ok (.iload_n 1, 1) := by decide +kernel
theorem dX6_isActive_5 : decode cX6_isActive 5 = .ok (.iaload, 1) := by decide +kernel
theorem dX6_isActive_6 : decode cX6_isActive 6 = .ok (.ifCond .ne 7, 3) := by decide +kernel
theorem dX6_isActive_9 : decode cX6_isActive 9 = .ok (.iconst 1, 1) := by decide +kernel
theorem dX6_isActive_10 : decode cX6_isActive 10 = .ok (.goto 4, 3) := by decide +kernel
theorem dX6_isActive_13 : decode cX6_isActive 13 = .ok (.iconst 0, 1) := by decide +kernel
theorem dX6_isActive_14 : decode cX6_isActive 14 = .ok (.ireturn, 1) := by decide +kernel
set_option maxRecDepth 20000 in
theorem ggX6_setSpace_X6_isIn : GoodIn wsX6_setSpace wsX6_isIn := goodIn_r _ [7] (by decide +kernel) (by decide +kernel)
set_option maxRecDepth 20000 in
theorem gX6_setSpace_X6_isIn : GoodIn wsX6_setSpace (va_wsS RX6 48 yX6_isIn wsX6_isIn) := goodIn_app (goodIn_of _ (by decide +kernel)) ggX6_setSpace_X6_isIn
set_option maxRecDepth 20000 in
theorem ggX6_setSpace_X6_can : GoodIn wsX6_setSpace wsX6_can := goodIn_r _ [11, 12, 13, 14, 15, 16, 17, 18, 19, 20, 21, 22, 23, 24, 25, 26, 27, 28, 29, 30] (by decide +kernel) (by decide +kernel)
set_option maxRecDepth 20000 in
theorem gX6_setSpace_X6_can : GoodIn wsX6_setSpace (wsV RX6 61 RX6 yX6_can wsX6_can) := goodIn_app (goodIn_of _ (by decide +kernel)) ggX6_setSpace_X6_can
theorem dX6_setSpace_0 : decode cX6_setSpace 0 = .ok (.aload_n 0, 1) := by decide +kernel
theorem dX6_setSpace_1 : decode cX6_setSpace 1 = .ok (.iload_n 1, 1) := by decide +kernel
theorem dX6_setSpace_2 : decode cX6_setSpace 2 = .ok (.iconst 1, 1) := by decide +kernel
theorem dX6_setSpace_3 : decode cX6_setSpace 3 = .ok (.bipush 30, 2) := by decide +kernel
theorem dX6_setSpace_5 : decode cX6_setSpace 5 = .ok (.invokestatic 48, 3) := by decide +kernel
theorem dX6_setSpace_8 : decode cX6_setSpace 8 = .ok (.ifCond .ne 7, 3) := by decide +kernel
theorem dX6_setSpace_11 : decode cX6_setSpace 11 = .ok (.iconst 1, 1) := by decide +kernel
theorem dX6_setSpace_12 : decode cX6_setSpace 12 = .ok (.goto 21, 3) := by decide +kernel
theorem dX6_setSpace_15 : decode cX6_setSpace 15 = .ok (.aload_n 0, 1) := by decide +kernel
theorem dX6_setSpace_16 : decode cX6_setSpace 16 = .ok (.getfield 55, 3) := by decide +kernel
theorem dX6_setSpace_19 : decode cX6_setSpace 19 = .ok (.aload_n 0, 1) := by decide +kernel
theorem dX6_setSpace_20 : decode cX6_setSpace 20 = .ok (.getfield 58, 3) := by decide +kernel
theorem dX6_setSpace_23 : decode cX6_setSpace 23 = .ok (.isub, 1) := by decide +kernel
theorem dX6_setSpace_24 : decode cX6_setSpace 24 = .ok (.iload_n 1, 1) := by decide +kernel
theorem dX6_setSpace_25 : decode cX6_setSpace 25 = .ok (.if_icmp .le 7, 3) := by decide +kernel
theorem dX6_setSpace_28 : decode cX6_setSpace 28 = .ok (.iconst 2, 1) := by decide +kernel
theorem dX6_setSpace_29 : decode cX6_setSpace 29 = .ok (.goto 4, 3) := by decide +kernel
theorem dX6_setSpace_32 : decode cX6_setSpace 32 = .ok (.iconst 0, 1) := by decide +kernel
theorem dX6_setSpace_33 : decode cX6_setSpace 33 = .ok (.invokevirtual 61, 3) := by decide +kernel
theorem dX6_setSpace_36 : decode cX6_setSpace 36 = .ok (.ifCond .ne 5, 3) := by decide +kernel
theorem dX6_setSpace_39 : decode cX6_setSpace 39 = .ok (.iconst 0, 1) := by decide +kernel
theorem dX6_setSpace_40 : decode cX6_setSpace 40 = .ok (.ireturn, 1) := by decide +kernel
theorem dX6_setSpace_41 : decode cX6_setSpace 41 = .ok (.aload_n 0, 1) := by decide +kernel
theorem dX6_setSpace_42 : decode cX6_setSpace 42 = .ok (.getfield 13, 3) := by decide +kernel
theorem dX6_setSpace_45 : decode cX6_setSpace 45 = .ok (.istore_n 2, 1) := by decide +kernel
theorem dX6_setSpace_46 : decode cX6_setSpace 46 = .ok (.aload_n 0, 1) := by decide +kernel
theorem dX6_setSpace_47 : decode cX6_setSpace 47 = .ok (.iload_n 1, 1) := by decide +kernel
theorem dX6_setSpace_48 : decode cX6_setSpace 48 = .ok (.putfield 13, 3) := by decide +kernel
theorem dX6_setSpace_51 : decode cX6_setSpace 51 = .ok (.iload_n 2, 1) := by decide +kernel
theorem dX6_setSpace_52 : decode cX6_setSpace 52 = .ok (.ireturn, 1) := by decide +kernel
set_option maxRecDepth 20000 in
theorem ggX6_begin_X6_can : GoodIn wsX6_begin wsX6_can := goodIn_r _ [8, 9, 10, 11, 12, 13, 14, 15, 16, 17, 18, 19, 20, 21, 22, 23, 24, 25, 26, 27] (by decide +kernel) (by decide +kernel)
set_option maxRecDepth 20000 in
theorem gX6_begin_X6_can : GoodIn wsX6_begin (wsV RX6 61 RX6 yX6_can wsX6_can) := goodIn_app (goodIn_of _ (by decide +kernel)) ggX6_begin_X6_can
theorem dX6_begin_0 : decode cX6_begin 0 = .ok (.aload_n 0, 1) := by decide +kernel
theorem dX6_begin_1 : decode cX6_begin 1 = .ok (.aload_n 0, 1) := by decide +kernel
theorem dX6_begin_2 : decode cX6_begin 2 = .ok (.getfield 52, 3) := by decide +kernel
theorem dX6_begin_5 : decode cX6_begin 5 = .ok (.bipush 60, 2) := by decide +kernel
theorem dX6_begin_7 : decode cX6_begin 7 = .ok (.if_icmp .ne 7, 3) := by decide +kernel
theorem dX6_begin_10 : decode cX6_begin 10 = .ok (.iconst 1, 1) := by decide +kernel
theorem dX6_begin_11 : decode cX6_begin 11 = .ok (.goto 4, 3) := by decide +kernel
theorem dX6_begin_14 : decode cX6_begin 14 = .ok (.iconst 0, 1) := by decide +kernel
theorem dX6_begin_15 : decode cX6_begin 15 = .ok (.invokevirtual 61, 3) := by decide +kernel
theorem dX6_begin_18 : decode cX6_begin 18 = .ok (.ifCond .ne 5, 3) := by decide +kernel
theorem dX6_begin_21 : decode cX6_begin 21 = .ok (.iconst 0, 1) := by decide +kernel
theorem dX6_begin_22 : decode cX6_begin 22 = .ok (.ireturn, 1) := by decide +kernel
theorem dX6_begin_23 : decode cX6_begin 23 = .ok (.aload_n 0, 1) := by decide +kernel
theorem dX6_begin_24 : decode cX6_begin 24 = .ok (.getfield 20, 3) := by decide +kernel
theorem dX6_begin_27 : decode cX6_begin 27 = .ok (.aload_n 0, 1) := by decide +kernel
theorem dX6_begin_28 : decode cX6_begin 28 = .ok (.getfield 52, 3) := by decide +kernel
theorem dX6_begin_31 : decode cX6_begin 31 = .ok (.aload_n 0, 1) := by decide +kernel
theorem dX6_begin_32 : decode cX6_begin 32 = .ok (.getfield 65, 3) := by decide +kernel
theorem dX6_begin_35 : decode cX6_begin 35 = .ok (.iastore, 1) := by decide +kernel
theorem dX6_begin_36 : decode cX6_begin 36 = .ok (.aload_n 0, 1) := by decide +kernel
theorem dX6_begin_37 : decode cX6_begin 37 = .ok (.dup, 1) := by decide +kernel
theorem dX6_begin_38 : decode cX6_begin 38 = .ok (.getfield 52, 3) := by decide +kernel
theorem dX6_begin_41 : decode cX6_begin 41 = .ok (.iconst 1, 1) := by decide +kernel
theorem dX6_begin_42 : decode cX6_begin 42 = .ok (.iadd, 1) := by decide +kernel
theorem dX6_begin_43 : decode cX6_begin 43 = .ok (.putfield 52, 3) := by decide +kernel
theorem dX6_begin_46 : decode cX6_begin 46 = .ok (.aload_n 0, 1) := by decide +kernel
theorem dX6_begin_47 : decode cX6_begin 47 = .ok (.getfield 52, 3) := by decide +kernel
theorem dX6_begin_50 : decode cX6_begin 50 = .ok (.iconst 1, 1) := by decide +kernel
theorem dX6_begin_51 : decode cX6_begin 51 = .ok (.isub, 1) := by decide +kernel
theorem dX6_begin_52 : decode cX6_begin 52 = .ok (.ireturn, 1) := by decide +kernel
set_option maxRecDepth 20000 in
theorem ggX6_lockOn_X6_isActive : GoodIn wsX6_lockOn wsX6_isActive := goodIn_r _ [9, 10, 11, 12, 13, 14, 15, 16, 17, 18, 19, 20, 21, 22, 23, 24, 25, 26, 27, 28] (by decide +kernel) (by decide +kernel)
set_option maxRecDepth 20000 in
theorem gX6_lockOn_X6_isActive : GoodIn wsX6_lockOn (wsV RX6 68 RX6 yX6_isActive wsX6_isActive) := goodIn_app (goodIn_of _ (by decide +kernel)) ggX6_lockOn_X6_isActive
theorem dX6_lockOn_0 : decode cX6_lockOn 0 = .ok (.iconst (-1), 1) := by decide +kernel
theorem dX6_lockOn_1 : decode cX6_lockOn 1 = .ok (.istore_n 2, 1) := by decide +kernel
theorem dX6_lockOn_2 : decode cX6_lockOn 2 = .ok (.iconst 0, 1) := by decide +kernel
theorem dX6_lockOn_3 : decode cX6_lockOn 3 = .ok (.istore_n 3, 1) := by decide +kernel
theorem dX6_lockOn_4 : decode cX6_lockOn 4 = .ok (.iload_n 3, 1) := by decide +kernel
theorem dX6_lockOn_5 : decode cX6_lockOn 5 = .ok (.aload_n 0, 1) := by decide +kernel
theorem dX6_lockOn_6 : decode cX6_lockOn 6 = .ok (.getfield 55, 3) := by decide +kernel
theorem dX6_lockOn_9 : decode cX6_lockOn 9 = .ok (.if_icmp .ge 39, 3) := by decide +kernel
theorem dX6_lockOn_12 : decode cX6_lockOn 12 = .ok (.aload_n 0, 1) := by decide +kernel
theorem dX6_lockOn_13 : decode cX6_lockOn 13 = .ok (.getfield 29, 3) := by decide +kernel
theorem dX6_lockOn_16 : decode cX6_lockOn 16 = .ok (.iload_n 3, 1) := by decide +kernel
theorem dX6_lockOn_17 : decode cX6_lockOn 17 = .ok (.iaload, 1) := by decide +kernel
theorem dX6_lockOn_18 : decode cX6_lockOn 18 = .ok (.iload_n 1, 1) := by decide +kernel
theorem dX6_lockOn_19 : decode cX6_lockOn 19 = .ok (.if_icmp .ne 21, 3) := by decide +kernel
theorem dX6_lockOn_22 : decode cX6_lockOn 22 = .ok (.aload_n 0, 1) := by decide +kernel
theorem dX6_lockOn_23 : decode cX6_lockOn 23 = .ok (.getfield 35, 3) := by decide +kernel
theorem dX6_lockOn_26 : decode cX6_lockOn 26 = .ok (.iload_n 3, 1) := by decide +kernel
theorem dX6_lockOn_27 : decode cX6_lockOn 27 = .ok (.baload, 1) := by decide +kernel
theorem dX6_lockOn_28 : decode cX6_lockOn 28 = .ok (.ifCond .ne 12, 3) := by decide +kernel
theorem dX6_lockOn_31 : decode cX6_lockOn 31 = .ok (.aload_n 0, 1) := by decide +kernel
theorem dX6_lockOn_32 : decode cX6_lockOn 32 = .ok (.getfield 26, 3) := by decide +kernel
theorem dX6_lockOn_35 : decode cX6_lockOn 35 = .ok (.iload_n 3, 1) := by decide +kernel
theorem dX6_lockOn_36 : decode cX6_lockOn 36 = .ok (.iaload, 1) := by decide +kernel
theorem dX6_lockOn_37 : decode cX6_lockOn 37 = .ok (.goto 4, 3) := by decide +kernel
theorem dX6_lockOn_40 : decode cX6_lockOn 40 = .ok (.iload_n 2, 1) := by decide +kernel
theorem dX6_lockOn_41 : decode cX6_lockOn 41 = .ok (.istore_n 2, 1) := by decide +kernel
theorem dX6_lockOn_42 : decode cX6_lockOn 42 = .ok (.iinc 3 1, 3) := by decide +kernel
theorem dX6_lockOn_45 : decode cX6_lockOn 45 = .ok (.goto (-41), 3) := by decide +kernel
theorem dX6_lockOn_48 : decode cX6_lockOn 48 = .ok (.iload_n 2, 1) := by decide +kernel
theorem dX6_lockOn_49 : decode cX6_lockOn 49 = .ok (.iconst (-1), 1) := by decide +kernel
theorem dX6_lockOn_50 : decode cX6_lockOn 50 = .ok (.if_icmp .eq 15, 3) := by decide +kernel
theorem dX6_lockOn_53 : decode cX6_lockOn 53 = .ok (.aload_n 0, 1) := by decide +kernel
theorem dX6_lockOn_54 : decode cX6_lockOn 54 = .ok (.iload_n 2, 1) := by decide +kernel
theorem dX6_lockOn_55 : decode cX6_lockOn 55 = .ok (.invokevirtual 68, 3) := by decide +kernel
theorem dX6_lockOn_58 : decode cX6_lockOn 58 = .ok (.ifCond .eq 7, 3) := by decide +kernel
theorem dX6_lockOn_61 : decode cX6_lockOn 61 = .ok (.iload_n 2, 1) := by decide +kernel
theorem dX6_lockOn_62 : decode cX6_lockOn 62 = .ok (.goto 4, 3) := by decide +kernel
theorem dX6_lockOn_65 : decode cX6_lockOn 65 = .ok (.iconst (-1), 1) := by decide +kernel
theorem dX6_lockOn_66 : decode cX6_lockOn 66 = .ok (.ireturn, 1) := by decide +kernel
set_option maxRecDepth 20000 in
theorem ggX6_cleans_X6_isActive : GoodIn wsX6_cleans wsX6_isActive := goodIn_r _ [8, 9, 10, 11, 12, 13, 14, 15, 16, 17, 18, 19, 20, 21, 22, 23, 24, 25, 26, 27] (by decide +kernel) (by decide +kernel)
set_option maxRecDepth 20000 in
theorem gX6_cleans_X6_isActive : GoodIn wsX6_cleans (wsV RX6 68 RX6 yX6_isActive wsX6_isActive) := goodIn_app (goodIn_of _ (by decide +kernel)) ggX6_cleans_X6_isActive
theorem dX6_cleans_0 : decode cX6_cleans 0 = .ok (.iconst 2, 1) := by decide +kernel
theorem dX6_cleans_1 : decode cX6_cleans 1 = .ok (.iload_n 1, 1) := by decide +kernel
theorem dX6_cleans_2 : decode cX6_cleans 2 = .ok (.imul, 1) := by decide +kernel
theorem dX6_cleans_3 : decode cX6_cleans 3 = .ok (.istore_n 2, 1) := by decide +kernel
theorem dX6_cleans_4 : decode cX6_cleans 4 = .ok (.iload_n 2, 1) := by decide +kernel
theorem dX6_cleans_5 : decode cX6_cleans 5 = .ok (.iconst 2, 1) := by decide +kernel
theorem dX6_cleans_6 : decode cX6_cleans 6 = .ok (.iload_n 1, 1) := by decide +kernel
theorem dX6_cleans_7 : decode cX6_cleans 7 = .ok (.imul, 1) := by decide +kernel
theorem dX6_cleans_8 : decode cX6_cleans 8 = .ok (.iconst 2, 1) := by decide +kernel
theorem dX6_cleans_9 : decode cX6_cleans 9 = .ok (.iadd, 1) := by decide +kernel
theorem dX6_cleans_10 : decode cX6_cleans 10 = .ok (.if_icmp .ge 58, 3) := by decide +kernel
theorem dX6_cleans_13 : decode cX6_cleans 13 = .ok (.aload_n 0, 1) := by decide +kernel
theorem dX6_cleans_14 : decode cX6_cleans 14 = .ok (.getfield 39, 3) := by decide +kernel
theorem dX6_cleans_17 : decode cX6_cleans 17 = .ok (.iload_n 2, 1) := by decide +kernel
theorem dX6_cleans_18 : decode cX6_cleans 18 = .ok (.iaload, 1) := by decide +kernel
theorem dX6_cleans_19 : decode cX6_cleans 19 = .ok (.iconst (-1), 1) := by decide +kernel
theorem dX6_cleans_20 : decode cX6_cleans 20 = .ok (.if_icmp .eq 42, 3) := by decide +kernel
theorem dX6_cleans_23 : decode cX6_cleans 23 = .ok (.aload_n 0, 1) := by decide +kernel
theorem dX6_cleans_24 : decode cX6_cleans 24 = .ok (.aload_n 0, 1) := by decide +kernel
theorem dX6_cleans_25 : decode cX6_cleans 25 = .ok (.getfield 39, 3) := by decide +kernel
theorem dX6_cleans_28 : decode cX6_cleans 28 = .ok (.iload_n 2, 1) := by decide +kernel
theorem dX6_cleans_29 : decode cX6_cleans 29 = .ok (.iaload, 1) := by decide +kernel
theorem dX6_cleans_30 : decode cX6_cleans 30 = .ok (.invokevirtual 68, 3) := by decide +kernel
theorem dX6_cleans_33 : decode cX6_cleans 33 = .ok (.ifCond .ne 29, 3) := by decide +kernel
theorem dX6_cleans_36 : decode cX6_cleans 36 = .ok (.aload_n 0, 1) := by decide +kernel
theorem dX6_cleans_37 : decode cX6_cleans 37 = .ok (.getfield 42, 3) := by decide +kernel
theorem dX6_cleans_40 : decode cX6_cleans 40 = .ok (.iload_n 2, 1) := by decide +kernel
theorem dX6_cleans_41 : decode cX6_cleans 41 = .ok (.baload, 1) := by decide +kernel
theorem dX6_cleans_42 : decode cX6_cleans 42 = .ok (.ifCond .ne 20, 3) := by decide +kernel
theorem dX6_cleans_45 : decode cX6_cleans 45 = .ok (.aload_n 0, 1) := by decide +kernel
theorem dX6_cleans_46 : decode cX6_cleans 46 = .ok (.getfield 42, 3) := by decide +kernel
theorem dX6_cleans_49 : decode cX6_cleans 49 = .ok (.iload_n 2, 1) := by decide +kernel
theorem dX6_cleans_50 : decode cX6_cleans 50 = .ok (.iconst 1, 1) := by decide +kernel
theorem dX6_cleans_51 : decode cX6_cleans 51 = .ok (.bastore, 1) := by decide +kernel
theorem dX6_cleans_52 : decode cX6_cleans 52 = .ok (.aload_n 0, 1) := by decide +kernel
theorem dX6_cleans_53 : decode cX6_cleans 53 = .ok (.dup, 1) := by decide +kernel
theorem dX6_cleans_54 : decode cX6_cleans 54 = .ok (.getfield 71, 3) := by decide +kernel
theorem dX6_cleans_57 : decode cX6_cleans 57 = .ok (.iconst 1, 1) := by decide +kernel
theorem dX6_cleans_58 : decode cX6_cleans 58 = .ok (.iadd, 1) := by decide +kernel
theorem dX6_cleans_59 : decode cX6_cleans 59 = .ok (.putfield 71, 3) := by decide +kernel
theorem dX6_cleans_62 : decode cX6_cleans 62 = .ok (.iinc 2 1, 3) := by decide +kernel
theorem dX6_cleans_65 : decode cX6_cleans 65 = .ok (.goto (-61), 3) := by decide +kernel
theorem dX6_cleans_68 : decode cX6_cleans 68 = .ok (.return_, 1) := by decide +kernel
set_option maxRecDepth 20000 in
theorem ggX6_slotFor_X6_isActive : GoodIn wsX6_slotFor wsX6_isActive := goodIn_r _ [6, 7, 8, 9, 10, 11, 12, 13, 14, 15, 16, 17, 18, 19, 20, 21, 22, 23, 24, 25] (by decide +kernel) (by decide +kernel)
set_option maxRecDepth 20000 in
theorem gX6_slotFor_X6_isActive : GoodIn wsX6_slotFor (wsV RX6 68 RX6 yX6_isActive wsX6_isActive) := goodIn_app (goodIn_of _ (by decide +kernel)) ggX6_slotFor_X6_isActive
theorem dX6_slotFor_0 : decode cX6_slotFor 0 = .ok (.iconst (-1), 1) := by decide +kernel
theorem dX6_slotFor_1 : decode cX6_slotFor 1 = .ok (.istore_n 3, 1) := by decide +kernel
theorem dX6_slotFor_2 : decode cX6_slotFor 2 = .ok (.iconst (-1), 1) := by decide +kernel
theorem dX6_slotFor_3 : decode cX6_slotFor 3 = .ok (.istore 4, 2) := by decide +kernel
theorem dX6_slotFor_5 : decode cX6_slotFor 5 = .ok (.iconst 2, 1) := by decide +kernel
theorem dX6_slotFor_6 : decode cX6_slotFor 6 = .ok (.iload_n 2, 1) := by decide +kernel
theorem dX6_slotFor_7 : decode cX6_slotFor 7 = .ok (.imul, 1) := by decide +kernel
theorem dX6_slotFor_8 : decode cX6_slotFor 8 = .ok (.iconst 2, 1) := by decide +kernel
theorem dX6_slotFor_9 : decode cX6_slotFor 9 = .ok (.iadd, 1) := by decide +kernel
theorem dX6_slotFor_10 : decode cX6_slotFor 10 = .ok (.iconst 1, 1) := by decide +kernel
theorem dX6_slotFor_11 : decode cX6_slotFor 11 = .ok (.isub, 1) := by decide +kernel
theorem dX6_slotFor_12 : decode cX6_slotFor 12 = .ok (.istore 5, 2) := by decide +kernel
theorem dX6_slotFor_14 : decode cX6_slotFor 14 = .ok (.iload 5, 2) := by decide +kernel
theorem dX6_slotFor_16 : decode cX6_slotFor 16 = .ok (.iconst 2, 1) := by decide +kernel
theorem dX6_slotFor_17 : decode cX6_slotFor 17 = .ok (.iload_n 2, 1) := by decide +kernel
theorem dX6_slotFor_18 : decode cX6_slotFor 18 = .ok (.imul, 1) := by decide +kernel
theorem dX6_slotFor_19 : decode cX6_slotFor 19 = .ok (.if_icmp .lt 61, 3) := by decide +kernel
theorem dX6_slotFor_22 : decode cX6_slotFor 22 = .ok (.aload_n 0, 1) := by decide +kernel
theorem dX6_slotFor_23 : decode cX6_slotFor 23 = .ok (.getfield 39, 3) := by decide +kernel
theorem dX6_slotFor_26 : decode cX6_slotFor 26 = .ok (.iload 5, 2) := by decide +kernel
theorem dX6_slotFor_28 : decode cX6_slotFor 28 = .ok (.iaload, 1) := by decide +kernel
theorem dX6_slotFor_29 : decode cX6_slotFor 29 = .ok (.iload_n 1, 1) := by decide +kernel
theorem dX6_slotFor_30 : decode cX6_slotFor 30 = .ok (.if_icmp .ne 8, 3) := by decide +kernel
theorem dX6_slotFor_33 : decode cX6_slotFor 33 = .ok (.iload 5, 2) := by decide +kernel
theorem dX6_slotFor_35 : decode cX6_slotFor 35 = .ok (.goto 4, 3) := by decide +kernel
theorem dX6_slotFor_38 : decode cX6_slotFor 38 = .ok (.iload_n 3, 1) := by decide +kernel
theorem dX6_slotFor_39 : decode cX6_slotFor 39 = .ok (.istore_n 3, 1) := by decide +kernel
theorem dX6_slotFor_40 : decode cX6_slotFor 40 = .ok (.aload_n 0, 1) := by decide +kernel
theorem dX6_slotFor_41 : decode cX6_slotFor 41 = .ok (.getfield 39, 3) := by decide +kernel
theorem dX6_slotFor_44 : decode cX6_slotFor 44 = .ok (.iload 5, 2) := by decide +kernel
theorem dX6_slotFor_46 : decode cX6_slotFor 46 = .ok (.iaload, 1) := by decide +kernel
theorem dX6_slotFor_47 : decode cX6_slotFor 47 = .ok (.iconst (-1), 1) := by decide +kernel
theorem dX6_slotFor_48 : decode cX6_slotFor 48 = .ok (.if_icmp .eq 17, 3) := by decide +kernel
theorem dX6_slotFor_51 : decode cX6_slotFor 51 = .ok (.aload_n 0, 1) := by decide +kernel
theorem dX6_slotFor_52 : decode cX6_slotFor 52 = .ok (.aload_n 0, 1) := by decide +kernel
theorem dX6_slotFor_53 : decode cX6_slotFor 53 = .ok (.getfield 39, 3) := by decide +kernel
theorem dX6_slotFor_56 : decode cX6_slotFor 56 = .ok (.iload 5, 2) := by decide +kernel
theorem dX6_slotFor_58 : decode cX6_slotFor 58 = .ok (.iaload, 1) := by decide +kernel
theorem dX6_slotFor_59 : decode cX6_slotFor 59 = .ok (.invokevirtual 68, 3) := by decide +kernel
theorem dX6_slotFor_62 : decode cX6_slotFor 62 = .ok (.ifCond .ne 8, 3) := by decide +kernel
theorem dX6_slotFor_65 : decode cX6_slotFor 65 = .ok (.iload 5, 2) := by decide +kernel
theorem dX6_slotFor_67 : decode cX6_slotFor 67 = .ok (.goto 5, 3) := by decide +kernel
theorem dX6_slotFor_70 : decode cX6_slotFor 70 = .ok (.iload 4, 2) := by decide +kernel
theorem dX6_slotFor_72 : decode cX6_slotFor 72 = .ok (.istore 4, 2) := by decide +kernel
theorem dX6_slotFor_74 : decode cX6_slotFor 74 = .ok (.iinc 5 (-1), 3) := by decide +kernel
theorem dX6_slotFor_77 : decode cX6_slotFor 77 = .ok (.goto (-63), 3) := by decide +kernel
theorem dX6_slotFor_80 : decode cX6_slotFor 80 = .ok (.iload_n 3, 1) := by decide +kernel
theorem dX6_slotFor_81 : decode cX6_slotFor 81 = .ok (.iconst (-1), 1) := by decide +kernel
theorem dX6_slotFor_82 : decode cX6_slotFor 82 = .ok (.if_icmp .ne 8, 3) := by decide +kernel
theorem dX6_slotFor_85 : decode cX6_slotFor 85 = .ok (.iload 4, 2) := by decide +kernel
theorem dX6_slotFor_87 : decode cX6_slotFor 87 = .ok (.goto 4, 3) := by decide +kernel
theorem dX6_slotFor_90 : decode cX6_slotFor 90 = .ok (.iload_n 3, 1) := by decide +kernel
theorem dX6_slotFor_91 : decode cX6_slotFor 91 = .ok (.ireturn, 1) := by decide +kernel
set_option maxRecDepth 20000 in
theorem ggX6_hasSpace_X6_isActive : GoodIn wsX6_hasSpace wsX6_isActive := goodIn_r _ [9, 10, 11, 12, 13, 14, 15, 16, 17, 18, 19, 20, 21, 22, 23, 24, 25, 26, 27, 28] (by decide +kernel) (by decide +kernel)
set_option maxRecDepth 20000 in
theorem gX6_hasSpace_X6_isActive : GoodIn wsX6_hasSpace (wsV RX6 68 RX6 yX6_isActive wsX6_isActive) := goodIn_app (goodIn_of _ (by decide +kernel)) ggX6_hasSpace_X6_isActive
theorem dX6_hasSpace_0 : decode cX6_hasSpace 0 = .ok (.aload_n 0, 1) := by decide +kernel
theorem dX6_hasSpace_1 : decode cX6_hasSpace 1 = .ok (.getfield 55, 3) := by decide +kernel
theorem dX6_hasSpace_4 : decode cX6_hasSpace 4 = .ok (.aload_n 0, 1) := by decide +kernel
theorem dX6_hasSpace_5 : decode cX6_hasSpace 5 = .ok (.getfield 58, 3) := by decide +kernel
theorem dX6_hasSpace_8 : decode cX6_hasSpace 8 = .ok (.isub, 1) := by decide +kernel
theorem dX6_hasSpace_9 : decode cX6_hasSpace 9 = .ok (.aload_n 0, 1) := by decide +kernel
theorem dX6_hasSpace_10 : decode cX6_hasSpace 10 = .ok (.getfield 13, 3) := by decide +kernel
theorem dX6_hasSpace_13 : decode cX6_hasSpace 13 = .ok (.if_icmp .lt 19, 3) := by decide +kernel
theorem dX6_hasSpace_16 : decode cX6_hasSpace 16 = .ok (.aload_n 0, 1) := by decide +kernel
theorem dX6_hasSpace_17 : decode cX6_hasSpace 17 = .ok (.aload_n 0, 1) := by decide +kernel
theorem dX6_hasSpace_18 : decode cX6_hasSpace 18 = .ok (.getfield 26, 3) := by decide +kernel
theorem dX6_hasSpace_21 : decode cX6_hasSpace 21 = .ok (.aload_n 0, 1) := by decide +kernel
theorem dX6_hasSpace_22 : decode cX6_hasSpace 22 = .ok (.getfield 58, 3) := by decide +kernel
theorem dX6_hasSpace_25 : decode cX6_hasSpace 25 = .ok (.iaload, 1) := by decide +kernel
theorem dX6_hasSpace_26 : decode cX6_hasSpace 26 = .ok (.invokevirtual 68, 3) := by decide +kernel
theorem dX6_hasSpace_29 : decode cX6_hasSpace 29 = .ok (.ifCond .ne 7, 3) := by decide +kernel
theorem dX6_hasSpace_32 : decode cX6_hasSpace 32 = .ok (.iconst 1, 1) := by decide +kernel
theorem dX6_hasSpace_33 : decode cX6_hasSpace 33 = .ok (.goto 4, 3) := by decide +kernel
theorem dX6_hasSpace_36 : decode cX6_hasSpace 36 = .ok (.iconst 0, 1) := by decide +kernel
theorem dX6_hasSpace_37 : decode cX6_hasSpace 37 = .ok (.ireturn, 1) := by decide +kernel
set_option maxRecDepth 20000 in
theorem ggX6_write_X6_isTransaction : GoodIn wsX6_write wsX6_isTransaction := goodIn_r _ [16, 17, 18, 19, 15, 20, 52, 53, 54, 55, 56, 57, 58, 59, 60, 61, 62, 63, 64, 65, 66, 67, 68, 69] (by decide +kernel) (by decide +kernel)
set_option maxRecDepth 20000 in
theorem gX6_write_X6_isTransaction : GoodIn wsX6_write (wsV RX6 74 RX6 yX6_isTransaction wsX6_isTransaction) := goodIn_app (goodIn_of _ (by decide +kernel)) ggX6_write_X6_isTransaction
set_option maxRecDepth 20000 in
theorem ggX6_write_X6_isRow : GoodIn wsX6_write wsX6_isRow := goodIn_r _ [23, 18, 19, 15, 20] (by decide +kernel) (by decide +kernel)
set_option maxRecDepth 20000 in
theorem gX6_write_X6_isRow : GoodIn wsX6_write (va_wsS RX6 77 yX6_isRow wsX6_isRow) := goodIn_app (goodIn_of _ (by decide +kernel)) ggX6_write_X6_isRow
set_option maxRecDepth 20000 in
theorem ggX6_write_X6_isIn : GoodIn wsX6_write wsX6_isIn := goodIn_r _ [20] (by decide +kernel) (by decide +kernel)
set_option maxRecDepth 20000 in
theorem gX6_write_X6_isIn : GoodIn wsX6_write (va_wsS RX6 48 yX6_isIn wsX6_isIn) := goodIn_app (goodIn_of _ (by decide +kernel)) ggX6_write_X6_isIn
set_option maxRecDepth 20000 in
theorem ggX6_write_X6_isActive : GoodIn wsX6_write wsX6_isActive := goodIn_r _ [27, 28, 52, 53, 54, 55, 56, 57, 58, 59, 60, 61, 62, 63, 64, 65, 66, 67, 68, 69] (by decide +kernel) (by decide +kernel)
set_option maxRecDepth 20000 in
theorem gX6_write_X6_isActive : GoodIn wsX6_write (wsV RX6 68 RX6 yX6_isActive wsX6_isActive) := goodIn_app (goodIn_of _ (by decide +kernel)) ggX6_write_X6_isActive
set_option maxRecDepth 20000 in
theorem ggX6_write_X6_lockOn : GoodIn wsX6_write wsX6_lockOn := goodIn_r _ [32, 7, 10, 33, 9, 24, 25, 26, 15, 27, 28, 52, 53, 54, 55, 56, 57, 58, 59, 60, 61, 62, 63, 64, 65, 66, 67, 68, 69] (by decide +kernel) (by decide +kernel)
set_option maxRecDepth 20000 in
theorem gX6_write_X6_lockOn : GoodIn wsX6_write (wsV RX6 82 RX6 yX6_lockOn wsX6_lockOn) := goodIn_app (goodIn_of _ (by decide +kernel)) ggX6_write_X6_lockOn
set_option maxRecDepth 20000 in
theorem ggX6_write_X6_slotFor : GoodIn wsX6_write wsX6_slotFor := goodIn_r _ [37, 4, 24, 25, 26, 15, 27, 28, 52, 53, 54, 55, 56, 57, 58, 59, 60, 61, 62, 63, 64, 65, 66, 67, 68, 69] (by decide +kernel) (by decide +kernel)
set_option maxRecDepth 20000 in
theorem gX6_write_X6_slotFor : GoodIn wsX6_write (wsV RX6 86 RX6 yX6_slotFor wsX6_slotFor) := goodIn_app (goodIn_of _ (by decide +kernel)) ggX6_write_X6_slotFor
set_option maxRecDepth 20000 in
theorem ggX6_write_X6_hasSpace : GoodIn wsX6_write wsX6_hasSpace := goodIn_r _ [41, 7, 6, 8, 9, 24, 25, 26, 15, 27, 28, 52, 53, 54, 55, 56, 57, 58, 59, 60, 61, 62, 63, 64, 65, 66, 67, 68, 69] (by decide +kernel) (by decide +kernel)
set_option maxRecDepth 20000 in
theorem gX6_write_X6_hasSpace : GoodIn wsX6_write (wsV RX6 90 RX6 yX6_hasSpace wsX6_hasSpace) := goodIn_app (goodIn_of _ (by decide +kernel)) ggX6_write_X6_hasSpace
set_option maxRecDepth 20000 in
theorem ggX6_write_X6_can : GoodIn wsX6_write wsX6_can := goodIn_r _ [45, 46, 52, 53, 54, 55, 56, 57, 58, 59, 60, 61, 62, 63, 64, 65, 66, 67, 68, 69] (by decide +kernel) (by decide +kernel)
set_option maxRecDepth 20000 in
theorem gX6_write_X6_can : GoodIn wsX6_write (wsV RX6 61 RX6 yX6_can wsX6_can) := goodIn_app (goodIn_of _ (by decide +kernel)) ggX6_write_X6_can
set_option maxRecDepth 20000 in
theorem ggX6_write_X6_cleans : GoodIn wsX6_write wsX6_cleans := goodIn_r _ [50, 4, 5, 51, 24, 25, 26, 15, 27, 28, 52, 53, 54, 55, 56, 57, 58, 59, 60, 61, 62, 63, 64, 65, 66, 67, 68, 69] (by decide +kernel) (by decide +kernel)
set_option maxRecDepth 20000 in
theorem gX6_write_X6_cleans : GoodIn wsX6_write (wsV RX6 94 RX6 yX6_cleans wsX6_cleans) := goodIn_app (goodIn_of _ (by decide +kernel)) ggX6_write_X6_cleans
theorem dX6_write_0 : decode cX6_write 0 = .ok (.aload_n 0, 1) := by decide +kernel
theorem dX6_write_1 : decode cX6_write 1 = .ok (.iload_n 1, 1) := by decide +kernel
theorem dX6_write_2 : decode cX6_write 2 = .ok (.invokevirtual 74, 3) := by decide +kernel
theorem dX6_write_5 : decode cX6_write 5 = .ok (.ifCond .eq 14, 3) := by decide +kernel
theorem dX6_write_8 : decode cX6_write 8 = .ok (.iload_n 2, 1) := by decide +kernel
theorem dX6_write_9 : decode cX6_write 9 = .ok (.invokestatic 77, 3) := by decide +kernel
theorem dX6_write_12 : decode cX6_write 12 = .ok (.ifCond .eq 7, 3) := by decide +kernel
theorem dX6_write_15 : decode cX6_write 15 = .ok (.iconst 1, 1) := by decide +kernel
theorem dX6_write_16 : decode cX6_write 16 = .ok (.goto 4, 3) := by decide +kernel
theorem dX6_write_19 : decode cX6_write 19 = .ok (.iconst 0, 1) := by decide +kernel
theorem dX6_write_20 : decode cX6_write 20 = .ok (.istore 4, 2) := by decide +kernel
theorem dX6_write_22 : decode cX6_write 22 = .ok (.iload_n 3, 1) := by decide +kernel
theorem dX6_write_23 : decode cX6_write 23 = .ok (.ldc 80, 2) := by decide +kernel
theorem dX6_write_25 : decode cX6_write 25 = .ok (.ldc 81, 2) := by decide +kernel
theorem dX6_write_27 : decode cX6_write 27 = .ok (.invokestatic 48, 3) := by decide +kernel
theorem dX6_write_30 : decode cX6_write 30 = .ok (.istore 5, 2) := by decide +kernel
theorem dX6_write_32 : decode cX6_write 32 = .ok (.iload 4, 2) := by decide +kernel
theorem dX6_write_34 : decode cX6_write 34 = .ok (.ifCond .eq 20, 3) := by decide +kernel
theorem dX6_write_37 : decode cX6_write 37 = .ok (.iload 5, 2) := by decide +kernel
theorem dX6_write_39 : decode cX6_write 39 = .ok (.ifCond .eq 15, 3) := by decide +kernel
theorem dX6_write_42 : decode cX6_write 42 = .ok (.aload_n 0, 1) := by decide +kernel
theorem dX6_write_43 : decode cX6_write 43 = .ok (.iload_n 1, 1) := by decide +kernel
theorem dX6_write_44 : decode cX6_write 44 = .ok (.invokevirtual 68, 3) := by decide +kernel
theorem dX6_write_47 : decode cX6_write 47 = .ok (.ifCond .eq 7, 3) := by decide +kernel
theorem dX6_write_50 : decode cX6_write 50 = .ok (.iconst 1, 1) := by decide +kernel
theorem dX6_write_51 : decode cX6_write 51 = .ok (.goto 4, 3) := by decide +kernel
theorem dX6_write_54 : decode cX6_write 54 = .ok (.iconst 0, 1) := by decide +kernel
theorem dX6_write_55 : decode cX6_write 55 = .ok (.istore 6, 2) := by decide +kernel
theorem dX6_write_57 : decode cX6_write 57 = .ok (.iload 6, 2) := by decide +kernel
theorem dX6_write_59 : decode cX6_write 59 = .ok (.ifCond .eq 11, 3) := by decide +kernel
theorem dX6_write_62 : decode cX6_write 62 = .ok (.aload_n 0, 1) := by decide +kernel
theorem dX6_write_63 : decode cX6_write 63 = .ok (.iload_n 2, 1) := by decide +kernel
theorem dX6_write_64 : decode cX6_write 64 = .ok (.invokevirtual 82, 3) := by decide +kernel
theorem dX6_write_67 : decode cX6_write 67 = .ok (.goto 4, 3) := by decide +kernel
theorem dX6_write_70 : decode cX6_write 70 = .ok (.iconst (-1), 1) := by decide +kernel
theorem dX6_write_71 : decode cX6_write 71 = .ok (.istore 7, 2) := by decide +kernel
theorem dX6_write_73 : decode cX6_write 73 = .ok (.iload 6, 2) := by decide +kernel
theorem dX6_write_75 : decode cX6_write 75 = .ok (.ifCond .eq 38, 3) := by decide +kernel
theorem dX6_write_78 : decode cX6_write 78 = .ok (.iload 7, 2) := by decide +kernel
theorem dX6_write_80 : decode cX6_write 80 = .ok (.iconst (-1), 1) := by decide +kernel
theorem dX6_write_81 : decode cX6_write 81 = .ok (.if_icmp .eq 9, 3) := by decide +kernel
theorem dX6_write_84 : decode cX6_write 84 = .ok (.iload 7, 2) := by decide +kernel
theorem dX6_write_86 : decode cX6_write 86 = .ok (.iload_n 1, 1) := by decide +kernel
theorem dX6_write_87 : decode cX6_write 87 = .ok (.if_icmp .ne 26, 3) := by decide +kernel
theorem dX6_write_90 : decode cX6_write 90 = .ok (.aload_n 0, 1) := by decide +kernel
theorem dX6_write_91 : decode cX6_write 91 = .ok (.iload_n 1, 1) := by decide +kernel
theorem dX6_write_92 : decode cX6_write 92 = .ok (.iload_n 2, 1) := by decide +kernel
theorem dX6_write_93 : decode cX6_write 93 = .ok (.iconst 4, 1) := by decide +kernel
theorem dX6_write_94 : decode cX6_write 94 = .ok (.idiv, 1) := by decide +kernel
theorem dX6_write_95 : decode cX6_write 95 = .ok (.invokevirtual 86, 3) := by decide +kernel
theorem dX6_write_98 : decode cX6_write 98 = .ok (.iconst (-1), 1) := by decide +kernel
theorem dX6_write_99 : decode cX6_write 99 = .ok (.if_icmp .eq 14, 3) := by decide +kernel
theorem dX6_write_102 : decode cX6_write 102 = .ok (.aload_n 0, 1) := by decide +kernel
theorem dX6_write_103 : decode cX6_write 103 = .ok (.invokevirtual 90, 3) := by decide +kernel
theorem dX6_write_106 : decode cX6_write 106 = .ok (.ifCond .eq 7, 3) := by decide +kernel
theorem dX6_write_109 : decode cX6_write 109 = .ok (.iconst 1, 1) := by decide +kernel
theorem dX6_write_110 : decode cX6_write 110 = .ok (.goto 4, 3) := by decide +kernel
theorem dX6_write_113 : decode cX6_write 113 = .ok (.iconst 0, 1) := by decide +kernel
theorem dX6_write_114 : decode cX6_write 114 = .ok (.istore 6, 2) := by decide +kernel
theorem dX6_write_116 : decode cX6_write 116 = .ok (.aload_n 0, 1) := by decide +kernel
theorem dX6_write_117 : decode cX6_write 117 = .ok (.iload 4, 2) := by decide +kernel
theorem dX6_write_119 : decode cX6_write 119 = .ok (.ifCond .ne 7, 3) := by decide +kernel
theorem dX6_write_122 : decode cX6_write 122 = .ok (.iconst 1, 1) := by decide +kernel
theorem dX6_write_123 : decode cX6_write 123 = .ok (.goto 22, 3) := by decide +kernel
theorem dX6_write_126 : decode cX6_write 126 = .ok (.iload 5, 2) := by decide +kernel
theorem dX6_write_128 : decode cX6_write 128 = .ok (.ifCond .ne 7, 3) := by decide +kernel
theorem dX6_write_131 : decode cX6_write 131 = .ok (.iconst 2, 1) := by decide +kernel
theorem dX6_write_132 : decode cX6_write 132 = .ok (.goto 13, 3) := by decide +kernel
theorem dX6_write_135 : decode cX6_write 135 = .ok (.iload 6, 2) := by decide +kernel
theorem dX6_write_137 : decode cX6_write 137 = .ok (.ifCond .eq 7, 3) := by decide +kernel
theorem dX6_write_140 : decode cX6_write 140 = .ok (.iconst 0, 1) := by decide +kernel
theorem dX6_write_141 : decode cX6_write 141 = .ok (.goto 4, 3) := by decide +kernel
theorem dX6_write_144 : decode cX6_write 144 = .ok (.iconst 3, 1) := by decide +kernel
theorem dX6_write_145 : decode cX6_write 145 = .ok (.invokevirtual 61, 3) := by decide +kernel
theorem dX6_write_148 : decode cX6_write 148 = .ok (.ifCond .ne 5, 3) := by decide +kernel
theorem dX6_write_151 : decode cX6_write 151 = .ok (.iconst 0, 1) := by decide +kernel
theorem dX6_write_152 : decode cX6_write 152 = .ok (.ireturn, 1) := by decide +kernel
theorem dX6_write_153 : decode cX6_write 153 = .ok (.aload_n 0, 1) := by decide +kernel
theorem dX6_write_154 : decode cX6_write 154 = .ok (.getfield 7, 3) := by decide +kernel
theorem dX6_write_157 : decode cX6_write 157 = .ok (.iload_n 2, 1) := by decide +kernel
theorem dX6_write_158 : decode cX6_write 158 = .ok (.iaload, 1) := by decide +kernel
theorem dX6_write_159 : decode cX6_write 159 = .ok (.istore 8, 2) := by decide +kernel
theorem dX6_write_161 : decode cX6_write 161 = .ok (.aload_n 0, 1) := by decide +kernel
theorem dX6_write_162 : decode cX6_write 162 = .ok (.iload_n 1, 1) := by decide +kernel
theorem dX6_write_163 : decode cX6_write 163 = .ok (.iload_n 2, 1) := by decide +kernel
theorem dX6_write_164 : decode cX6_write 164 = .ok (.iconst 4, 1) := by decide +kernel
theorem dX6_write_165 : decode cX6_write 165 = .ok (.idiv, 1) := by decide +kernel
theorem dX6_write_166 : decode cX6_write 166 = .ok (.invokevirtual 86, 3) := by decide +kernel
theorem dX6_write_169 : decode cX6_write 169 = .ok (.istore 9, 2) := by decide +kernel
theorem dX6_write_171 : decode cX6_write 171 = .ok (.aload_n 0, 1) := by decide +kernel
theorem dX6_write_172 : decode cX6_write 172 = .ok (.iload_n 2, 1) := by decide +kernel
theorem dX6_write_173 : decode cX6_write 173 = .ok (.iconst 4, 1) := by decide +kernel
theorem dX6_write_174 : decode cX6_write 174 = .ok (.idiv, 1) := by decide +kernel
theorem dX6_write_175 : decode cX6_write 175 = .ok (.invokevirtual 94, 3) := by decide +kernel
theorem dX6_write_178 : decode cX6_write 178 = .ok (.aload_n 0, 1) := by decide +kernel
theorem dX6_write_179 : decode cX6_write 179 = .ok (.getfield 39, 3) := by decide +kernel
theorem dX6_write_182 : decode cX6_write 182 = .ok (.iload 9, 2) := by decide +kernel
theorem dX6_write_184 : decode cX6_write 184 = .ok (.iload_n 1, 1) := by decide +kernel
theorem dX6_write_185 : decode cX6_write 185 = .ok (.iastore, 1) := by decide +kernel
theorem dX6_write_186 : decode cX6_write 186 = .ok (.aload_n 0, 1) := by decide +kernel
theorem dX6_write_187 : decode cX6_write 187 = .ok (.getfield 42, 3) := by decide +kernel
theorem dX6_write_190 : decode cX6_write 190 = .ok (.iload 9, 2) := by decide +kernel
theorem dX6_write_192 : decode cX6_write 192 = .ok (.iconst 0, 1) := by decide +kernel
theorem dX6_write_193 : decode cX6_write 193 = .ok (.bastore, 1) := by decide +kernel
theorem dX6_write_194 : decode cX6_write 194 = .ok (.aload_n 0, 1) := by decide +kernel
theorem dX6_write_195 : decode cX6_write 195 = .ok (.dup, 1) := by decide +kernel
theorem dX6_write_196 : decode cX6_write 196 = .ok (.getfield 58, 3) := by decide +kernel
theorem dX6_write_199 : decode cX6_write 199 = .ok (.aload_n 0, 1) := by decide +kernel
theorem dX6_write_200 : decode cX6_write 200 = .ok (.getfield 55, 3) := by decide +kernel
theorem dX6_write_203 : decode cX6_write 203 = .ok (.aload_n 0, 1) := by decide +kernel
theorem dX6_write_204 : decode cX6_write 204 = .ok (.getfield 58, 3) := by decide +kernel
theorem dX6_write_207 : decode cX6_write 207 = .ok (.isub, 1) := by decide +kernel
theorem dX6_write_208 : decode cX6_write 208 = .ok (.aload_n 0, 1) := by decide +kernel
theorem dX6_write_209 : decode cX6_write 209 = .ok (.getfield 13, 3) := by decide +kernel
theorem dX6_write_212 : decode cX6_write 212 = .ok (.if_icmp .ne 7, 3) := by decide +kernel
theorem dX6_write_215 : decode cX6_write 215 = .ok (.iconst 1, 1) := by decide +kernel
theorem dX6_write_216 : decode cX6_write 216 = .ok (.goto 4, 3) := by decide +kernel
theorem dX6_write_219 : decode cX6_write 219 = .ok (.iconst 0, 1) := by decide +kernel
theorem dX6_write_220 : decode cX6_write 220 = .ok (.iadd, 1) := by decide +kernel
theorem dX6_write_221 : decode cX6_write 221 = .ok (.putfield 58, 3) := by decide +kernel
theorem dX6_write_224 : decode cX6_write 224 = .ok (.aload_n 0, 1) := by decide +kernel
theorem dX6_write_225 : decode cX6_write 225 = .ok (.getfield 26, 3) := by decide +kernel
theorem dX6_write_228 : decode cX6_write 228 = .ok (.aload_n 0, 1) := by decide +kernel
theorem dX6_write_229 : decode cX6_write 229 = .ok (.getfield 55, 3) := by decide +kernel
theorem dX6_write_232 : decode cX6_write 232 = .ok (.iload_n 1, 1) := by decide +kernel
theorem dX6_write_233 : decode cX6_write 233 = .ok (.iastore, 1) := by decide +kernel
theorem dX6_write_234 : decode cX6_write 234 = .ok (.aload_n 0, 1) := by decide +kernel
theorem dX6_write_235 : decode cX6_write 235 = .ok (.getfield 29, 3) := by decide +kernel
theorem dX6_write_238 : decode cX6_write 238 = .ok (.aload_n 0, 1) := by decide +kernel
theorem dX6_write_239 : decode cX6_write 239 = .ok (.getfield 55, 3) := by decide +kernel
theorem dX6_write_242 : decode cX6_write 242 = .ok (.iload_n 2, 1) := by decide +kernel
theorem dX6_write_243 : decode cX6_write 243 = .ok (.iastore, 1) := by decide +kernel
theorem dX6_write_244 : decode cX6_write 244 = .ok (.aload_n 0, 1) := by decide +kernel
theorem dX6_write_245 : decode cX6_write 245 = .ok (.getfield 32, 3) := by decide +kernel
theorem dX6_write_248 : decode cX6_write 248 = .ok (.aload_n 0, 1) := by decide +kernel
theorem dX6_write_249 : decode cX6_write 249 = .ok (.getfield 55, 3) := by decide +kernel
theorem dX6_write_252 : decode cX6_write 252 = .ok (.iload 8, 2) := by decide +kernel
theorem dX6_write_254 : decode cX6_write 254 = .ok (.iastore, 1) := by decide +kernel
theorem dX6_write_255 : decode cX6_write 255 = .ok (.aload_n 0, 1) := by decide +kernel
theorem dX6_write_256 : decode cX6_write 256 = .ok (.dup, 1) := by decide +kernel
theorem dX6_write_257 : decode cX6_write 257 = .ok (.getfield 55, 3) := by decide +kernel
theorem dX6_write_260 : decode cX6_write 260 = .ok (.iconst 1, 1) := by decide +kernel
theorem dX6_write_261 : decode cX6_write 261 = .ok (.iadd, 1) := by decide +kernel
theorem dX6_write_262 : decode cX6_write 262 = .ok (.putfield 55, 3) := by decide +kernel
theorem dX6_write_265 : decode cX6_write 265 = .ok (.aload_n 0, 1) := by decide +kernel
theorem dX6_write_266 : decode cX6_write 266 = .ok (.getfield 7, 3) := by decide +kernel
theorem dX6_write_269 : decode cX6_write 269 = .ok (.iload_n 2, 1) := by decide +kernel
theorem dX6_write_270 : decode cX6_write 270 = .ok (.iload_n 3, 1) := by decide +kernel
theorem dX6_write_271 : decode cX6_write 271 = .ok (.iastore, 1) := by decide +kernel
theorem dX6_write_272 : decode cX6_write 272 = .ok (.iload 8, 2) := by decide +kernel
theorem dX6_write_274 : decode cX6_write 274 = .ok (.ireturn, 1) := by decide +kernel
theorem dX6_valueAt_0 : decode cX6_valueAt 0 = .ok (.aload_n 0, 1) := by decide +kernel
theorem dX6_valueAt_1 : decode cX6_valueAt 1 = .ok (.getfield 7, 3) := by decide +kernel
theorem dX6_valueAt_4 : decode cX6_valueAt 4 = .ok (.iload_n 2, 1) := by decide +kernel
theorem dX6_valueAt_5 : decode cX6_valueAt 5 = .ok (.iaload, 1) := by decide +kernel
theorem dX6_valueAt_6 : decode cX6_valueAt 6 = .ok (.istore 4, 2) := by decide +kernel
theorem dX6_valueAt_8 : decode cX6_valueAt 8 = .ok (.aload_n 0, 1) := by decide +kernel
theorem dX6_valueAt_9 : decode cX6_valueAt 9 = .ok (.iconst 0, 1) := by decide +kernel
theorem dX6_valueAt_10 : decode cX6_valueAt 10 = .ok (.putfield 98, 3) := by decide +kernel
theorem dX6_valueAt_13 : decode cX6_valueAt 13 = .ok (.iconst 1, 1) := by decide +kernel
theorem dX6_valueAt_14 : decode cX6_valueAt 14 = .ok (.istore 5, 2) := by decide +kernel
theorem dX6_valueAt_16 : decode cX6_valueAt 16 = .ok (.aload_n 0, 1) := by decide +kernel
theorem dX6_valueAt_17 : decode cX6_valueAt 17 = .ok (.getfield 55, 3) := by decide +kernel
theorem dX6_valueAt_20 : decode cX6_valueAt 20 = .ok (.iconst 1, 1) := by decide +kernel
theorem dX6_valueAt_21 : decode cX6_valueAt 21 = .ok (.isub, 1) := by decide +kernel
theorem dX6_valueAt_22 : decode cX6_valueAt 22 = .ok (.istore 6, 2) := by decide +kernel
theorem dX6_valueAt_24 : decode cX6_valueAt 24 = .ok (.iload 6, 2) := by decide +kernel
theorem dX6_valueAt_26 : decode cX6_valueAt 26 = .ok (.ifCond .lt 134, 3) := by decide +kernel
theorem dX6_valueAt_29 : decode cX6_valueAt 29 = .ok (.iload 5, 2) := by decide +kernel
theorem dX6_valueAt_31 : decode cX6_valueAt 31 = .ok (.ifCond .eq 129, 3) := by decide +kernel
theorem dX6_valueAt_34 : decode cX6_valueAt 34 = .ok (.aload_n 0, 1) := by decide +kernel
theorem dX6_valueAt_35 : decode cX6_valueAt 35 = .ok (.getfield 29, 3) := by decide +kernel
theorem dX6_valueAt_38 : decode cX6_valueAt 38 = .ok (.iload 6, 2) := by decide +kernel
theorem dX6_valueAt_40 : decode cX6_valueAt 40 = .ok (.iaload, 1) := by decide +kernel
theorem dX6_valueAt_41 : decode cX6_valueAt 41 = .ok (.iload_n 2, 1) := by decide +kernel
theorem dX6_valueAt_42 : decode cX6_valueAt 42 = .ok (.if_icmp .ne 112, 3) := by decide +kernel
theorem dX6_valueAt_45 : decode cX6_valueAt 45 = .ok (.aload_n 0, 1) := by decide +kernel
theorem dX6_valueAt_46 : decode cX6_valueAt 46 = .ok (.getfield 35, 3) := by decide +kernel
theorem dX6_valueAt_49 : decode cX6_valueAt 49 = .ok (.iload 6, 2) := by decide +kernel
theorem dX6_valueAt_51 : decode cX6_valueAt 51 = .ok (.baload, 1) := by decide +kernel
theorem dX6_valueAt_52 : decode cX6_valueAt 52 = .ok (.ifCond .ne 102, 3) := by decide +kernel
theorem dX6_valueAt_55 : decode cX6_valueAt 55 = .ok (.aload_n 0, 1) := by decide +kernel
theorem dX6_valueAt_56 : decode cX6_valueAt 56 = .ok (.getfield 26, 3) := by decide +kernel
theorem dX6_valueAt_59 : decode cX6_valueAt 59 = .ok (.iload 6, 2) := by decide +kernel
theorem dX6_valueAt_61 : decode cX6_valueAt 61 = .ok (.iaload, 1) := by decide +kernel
theorem dX6_valueAt_62 : decode cX6_valueAt 62 = .ok (.iload_n 3, 1) := by decide +kernel
theorem dX6_valueAt_63 : decode cX6_valueAt 63 = .ok (.if_icmp .eq 39, 3) := by decide +kernel
theorem dX6_valueAt_66 : decode cX6_valueAt 66 = .ok (.aload_n 0, 1) := by decide +kernel
theorem dX6_valueAt_67 : decode cX6_valueAt 67 = .ok (.getfield 17, 3) := by decide +kernel
theorem dX6_valueAt_70 : decode cX6_valueAt 70 = .ok (.aload_n 0, 1) := by decide +kernel
theorem dX6_valueAt_71 : decode cX6_valueAt 71 = .ok (.getfield 26, 3) := by decide +kernel
theorem dX6_valueAt_74 : decode cX6_valueAt 74 = .ok (.iload 6, 2) := by decide +kernel
theorem dX6_valueAt_76 : decode cX6_valueAt 76 = .ok (.iaload, 1) := by decide +kernel
theorem dX6_valueAt_77 : decode cX6_valueAt 77 = .ok (.iaload, 1) := by decide +kernel
theorem dX6_valueAt_78 : decode cX6_valueAt 78 = .ok (.iconst 1, 1) := by decide +kernel
theorem dX6_valueAt_79 : decode cX6_valueAt 79 = .ok (.if_icmp .ne 19, 3) := by decide +kernel
theorem dX6_valueAt_82 : decode cX6_valueAt 82 = .ok (.aload_n 0, 1) := by decide +kernel
theorem dX6_valueAt_83 : decode cX6_valueAt 83 = .ok (.getfield 23, 3) := by decide +kernel
theorem dX6_valueAt_86 : decode cX6_valueAt 86 = .ok (.aload_n 0, 1) := by decide +kernel
theorem dX6_valueAt_87 : decode cX6_valueAt 87 = .ok (.getfield 26, 3) := by decide +kernel
theorem dX6_valueAt_90 : decode cX6_valueAt 90 = .ok (.iload 6, 2) := by decide +kernel
theorem dX6_valueAt_92 : decode cX6_valueAt 92 = .ok (.iaload, 1) := by decide +kernel
theorem dX6_valueAt_93 : decode cX6_valueAt 93 = .ok (.iaload, 1) := by decide +kernel
theorem dX6_valueAt_94 : decode cX6_valueAt 94 = .ok (.iload_n 1, 1) := by decide +kernel
theorem dX6_valueAt_95 : decode cX6_valueAt 95 = .ok (.if_icmp .le 7, 3) := by decide +kernel
theorem dX6_valueAt_98 : decode cX6_valueAt 98 = .ok (.iconst 1, 1) := by decide +kernel
theorem dX6_valueAt_99 : decode cX6_valueAt 99 = .ok (.goto 4, 3) := by decide +kernel
theorem dX6_valueAt_102 : decode cX6_valueAt 102 = .ok (.iconst 0, 1) := by decide +kernel
theorem dX6_valueAt_103 : decode cX6_valueAt 103 = .ok (.istore 5, 2) := by decide +kernel
theorem dX6_valueAt_105 : decode cX6_valueAt 105 = .ok (.iload 5, 2) := by decide +kernel
theorem dX6_valueAt_107 : decode cX6_valueAt 107 = .ok (.ifCond .eq 13, 3) := by decide +kernel
theorem dX6_valueAt_110 : decode cX6_valueAt 110 = .ok (.aload_n 0, 1) := by decide +kernel
theorem dX6_valueAt_111 : decode cX6_valueAt 111 = .ok (.getfield 32, 3) := by decide +kernel
theorem dX6_valueAt_114 : decode cX6_valueAt 114 = .ok (.iload 6, 2) := by decide +kernel
theorem dX6_valueAt_116 : decode cX6_valueAt 116 = .ok (.iaload, 1) := by decide +kernel
theorem dX6_valueAt_117 : decode cX6_valueAt 117 = .ok (.goto 5, 3) := by decide +kernel
theorem dX6_valueAt_120 : decode cX6_valueAt 120 = .ok (.iload 4, 2) := by decide +kernel
theorem dX6_valueAt_122 : decode cX6_valueAt 122 = .ok (.istore 4, 2) := by decide +kernel
theorem dX6_valueAt_124 : decode cX6_valueAt 124 = .ok (.aload_n 0, 1) := by decide +kernel
theorem dX6_valueAt_125 : decode cX6_valueAt 125 = .ok (.aload_n 0, 1) := by decide +kernel
theorem dX6_valueAt_126 : decode cX6_valueAt 126 = .ok (.getfield 98, 3) := by decide +kernel
theorem dX6_valueAt_129 : decode cX6_valueAt 129 = .ok (.ifCond .ne 17, 3) := by decide +kernel
theorem dX6_valueAt_132 : decode cX6_valueAt 132 = .ok (.iload 5, 2) := by decide +kernel
theorem dX6_valueAt_134 : decode cX6_valueAt 134 = .ok (.ifCond .eq 16, 3) := by decide +kernel
theorem dX6_valueAt_137 : decode cX6_valueAt 137 = .ok (.iload 6, 2) := by decide +kernel
theorem dX6_valueAt_139 : decode cX6_valueAt 139 = .ok (.aload_n 0, 1) := by decide +kernel
theorem dX6_valueAt_140 : decode cX6_valueAt 140 = .ok (.getfield 58, 3) := by decide +kernel
theorem dX6_valueAt_143 : decode cX6_valueAt 143 = .ok (.if_icmp .ge 7, 3) := by decide +kernel
theorem dX6_valueAt_146 : decode cX6_valueAt 146 = .ok (.iconst 1, 1) := by decide +kernel
theorem dX6_valueAt_147 : decode cX6_valueAt 147 = .ok (.goto 4, 3) := by decide +kernel
theorem dX6_valueAt_150 : decode cX6_valueAt 150 = .ok (.iconst 0, 1) := by decide +kernel
theorem dX6_valueAt_151 : decode cX6_valueAt 151 = .ok (.putfield 98, 3) := by decide +kernel
theorem dX6_valueAt_154 : decode cX6_valueAt 154 = .ok (.iinc 6 (-1), 3) := by decide +kernel
theorem dX6_valueAt_157 : decode cX6_valueAt 157 = .ok (.goto (-133), 3) := by decide +kernel
theorem dX6_valueAt_160 : decode cX6_valueAt 160 = .ok (.iload 4, 2) := by decide +kernel
theorem dX6_valueAt_162 : decode cX6_valueAt 162 = .ok (.ireturn, 1) := by decide +kernel
set_option maxRecDepth 20000 in
theorem ggX6_read_X6_isTransaction : GoodIn wsX6_read wsX6_isTransaction := goodIn_r _ [7, 8, 9, 10, 6, 11, 44, 45, 46, 47, 48, 49, 50, 51, 52, 53, 54, 55, 56, 57, 58, 59, 60, 61] (by decide +kernel) (by decide +kernel)
set_option maxRecDepth 20000 in
theorem gX6_read_X6_isTransaction : GoodIn wsX6_read (wsV RX6 74 RX6 yX6_isTransaction wsX6_isTransaction) := goodIn_app (goodIn_of _ (by decide +kernel)) ggX6_read_X6_isTransaction
set_option maxRecDepth 20000 in
theorem ggX6_read_X6_isRow : GoodIn wsX6_read wsX6_isRow := goodIn_r _ [14, 9, 10, 6, 11] (by decide +kernel) (by decide +kernel)
set_option maxRecDepth 20000 in
theorem gX6_read_X6_isRow : GoodIn wsX6_read (va_wsS RX6 77 yX6_isRow wsX6_isRow) := goodIn_app (goodIn_of _ (by decide +kernel)) ggX6_read_X6_isRow
set_option maxRecDepth 20000 in
theorem ggX6_read_X6_isActive : GoodIn wsX6_read wsX6_isActive := goodIn_r _ [18, 19, 44, 45, 46, 47, 48, 49, 50, 51, 52, 53, 54, 55, 56, 57, 58, 59, 60, 61] (by decide +kernel) (by decide +kernel)
set_option maxRecDepth 20000 in
theorem gX6_read_X6_isActive : GoodIn wsX6_read (wsV RX6 68 RX6 yX6_isActive wsX6_isActive) := goodIn_app (goodIn_of _ (by decide +kernel)) ggX6_read_X6_isActive
set_option maxRecDepth 20000 in
theorem ggX6_read_X6_can : GoodIn wsX6_read wsX6_can := goodIn_r _ [23, 24, 44, 45, 46, 47, 48, 49, 50, 51, 52, 53, 54, 55, 56, 57, 58, 59, 60, 61] (by decide +kernel) (by decide +kernel)
set_option maxRecDepth 20000 in
theorem gX6_read_X6_can : GoodIn wsX6_read (wsV RX6 61 RX6 yX6_can wsX6_can) := goodIn_app (goodIn_of _ (by decide +kernel)) ggX6_read_X6_can
set_option maxRecDepth 20000 in
theorem ggX6_read_X6_valueAt : GoodIn wsX6_read wsX6_valueAt := goodIn_r _ [28, 29, 2, 30, 31, 32, 33, 19, 34, 35, 36, 44, 45, 46, 47, 48, 49, 50, 51, 52, 53, 54, 55, 56, 57, 58, 59, 60, 61] (by decide +kernel) (by decide +kernel)
set_option maxRecDepth 20000 in
theorem gX6_read_X6_valueAt : GoodIn wsX6_read (wsV RX6 102 RX6 yX6_valueAt wsX6_valueAt) := goodIn_app (goodIn_of _ (by decide +kernel)) ggX6_read_X6_valueAt
set_option maxRecDepth 20000 in
theorem ggX6_read_X6_cleans : GoodIn wsX6_read wsX6_cleans := goodIn_r _ [40, 41, 42, 43, 15, 16, 17, 6, 18, 19, 44, 45, 46, 47, 48, 49, 50, 51, 52, 53, 54, 55, 56, 57, 58, 59, 60, 61] (by decide +kernel) (by decide +kernel)
set_option maxRecDepth 20000 in
theorem gX6_read_X6_cleans : GoodIn wsX6_read (wsV RX6 94 RX6 yX6_cleans wsX6_cleans) := goodIn_app (goodIn_of _ (by decide +kernel)) ggX6_read_X6_cleans
theorem dX6_read_0 : decode cX6_read 0 = .ok (.aload_n 0, 1) := by decide +kernel
theorem dX6_read_1 : decode cX6_read 1 = .ok (.iload_n 1, 1) := by decide +kernel
theorem dX6_read_2 : decode cX6_read 2 = .ok (.invokevirtual 74, 3) := by decide +kernel
theorem dX6_read_5 : decode cX6_read 5 = .ok (.ifCond .eq 14, 3) := by decide +kernel
theorem dX6_read_8 : decode cX6_read 8 = .ok (.iload_n 2, 1) := by decide +kernel
theorem dX6_read_9 : decode cX6_read 9 = .ok (.invokestatic 77, 3) := by decide +kernel
theorem dX6_read_12 : decode cX6_read 12 = .ok (.ifCond .eq 7, 3) := by decide +kernel
theorem dX6_read_15 : decode cX6_read 15 = .ok (.iconst 1, 1) := by decide +kernel
theorem dX6_read_16 : decode cX6_read 16 = .ok (.goto 4, 3) := by decide +kernel
theorem dX6_read_19 : decode cX6_read 19 = .ok (.iconst 0, 1) := by decide +kernel
theorem dX6_read_20 : decode cX6_read 20 = .ok (.istore_n 3, 1) := by decide +kernel
theorem dX6_read_21 : decode cX6_read 21 = .ok (.aload_n 0, 1) := by decide +kernel
theorem dX6_read_22 : decode cX6_read 22 = .ok (.iload_n 3, 1) := by decide +kernel
theorem dX6_read_23 : decode cX6_read 23 = .ok (.ifCond .ne 7, 3) := by decide +kernel
theorem dX6_read_26 : decode cX6_read 26 = .ok (.iconst 1, 1) := by decide +kernel
theorem dX6_read_27 : decode cX6_read 27 = .ok (.goto 16, 3) := by decide +kernel
theorem dX6_read_30 : decode cX6_read 30 = .ok (.aload_n 0, 1) := by decide +kernel
theorem dX6_read_31 : decode cX6_read 31 = .ok (.iload_n 1, 1) := by decide +kernel
theorem dX6_read_32 : decode cX6_read 32 = .ok (.invokevirtual 68, 3) := by decide +kernel
theorem dX6_read_35 : decode cX6_read 35 = .ok (.ifCond .eq 7, 3) := by decide +kernel
theorem dX6_read_38 : decode cX6_read 38 = .ok (.iconst 0, 1) := by decide +kernel
theorem dX6_read_39 : decode cX6_read 39 = .ok (.goto 4, 3) := by decide +kernel
theorem dX6_read_42 : decode cX6_read 42 = .ok (.iconst 2, 1) := by decide +kernel
theorem dX6_read_43 : decode cX6_read 43 = .ok (.invokevirtual 61, 3) := by decide +kernel
theorem dX6_read_46 : decode cX6_read 46 = .ok (.ifCond .ne 5, 3) := by decide +kernel
theorem dX6_read_49 : decode cX6_read 49 = .ok (.iconst 0, 1) := by decide +kernel
theorem dX6_read_50 : decode cX6_read 50 = .ok (.ireturn, 1) := by decide +kernel
theorem dX6_read_51 : decode cX6_read 51 = .ok (.aload_n 0, 1) := by decide +kernel
theorem dX6_read_52 : decode cX6_read 52 = .ok (.aload_n 0, 1) := by decide +kernel
theorem dX6_read_53 : decode cX6_read 53 = .ok (.getfield 20, 3) := by decide +kernel
theorem dX6_read_56 : decode cX6_read 56 = .ok (.iload_n 1, 1) := by decide +kernel
theorem dX6_read_57 : decode cX6_read 57 = .ok (.iaload, 1) := by decide +kernel
theorem dX6_read_58 : decode cX6_read 58 = .ok (.iload_n 2, 1) := by decide +kernel
theorem dX6_read_59 : decode cX6_read 59 = .ok (.iload_n 1, 1) := by decide +kernel
theorem dX6_read_60 : decode cX6_read 60 = .ok (.invokevirtual 102, 3) := by decide +kernel
theorem dX6_read_63 : decode cX6_read 63 = .ok (.istore 4, 2) := by decide +kernel
theorem dX6_read_65 : decode cX6_read 65 = .ok (.aload_n 0, 1) := by decide +kernel
theorem dX6_read_66 : decode cX6_read 66 = .ok (.aload_n 0, 1) := by decide +kernel
theorem dX6_read_67 : decode cX6_read 67 = .ok (.getfield 98, 3) := by decide +kernel
theorem dX6_read_70 : decode cX6_read 70 = .ok (.ifCond .eq 7, 3) := by decide +kernel
theorem dX6_read_73 : decode cX6_read 73 = .ok (.iconst 3, 1) := by decide +kernel
theorem dX6_read_74 : decode cX6_read 74 = .ok (.goto 4, 3) := by decide +kernel
theorem dX6_read_77 : decode cX6_read 77 = .ok (.iconst 0, 1) := by decide +kernel
theorem dX6_read_78 : decode cX6_read 78 = .ok (.invokevirtual 61, 3) := by decide +kernel
theorem dX6_read_81 : decode cX6_read 81 = .ok (.ifCond .ne 5, 3) := by decide +kernel
theorem dX6_read_84 : decode cX6_read 84 = .ok (.iconst 0, 1) := by decide +kernel
theorem dX6_read_85 : decode cX6_read 85 = .ok (.ireturn, 1) := by decide +kernel
theorem dX6_read_86 : decode cX6_read 86 = .ok (.aload_n 0, 1) := by decide +kernel
theorem dX6_read_87 : decode cX6_read 87 = .ok (.iload_n 2, 1) := by decide +kernel
theorem dX6_read_88 : decode cX6_read 88 = .ok (.iconst 4, 1) := by decide +kernel
theorem dX6_read_89 : decode cX6_read 89 = .ok (.idiv, 1) := by decide +kernel
theorem dX6_read_90 : decode cX6_read 90 = .ok (.invokevirtual 94, 3) := by decide +kernel
theorem dX6_read_93 : decode cX6_read 93 = .ok (.iload 4, 2) := by decide +kernel
theorem dX6_read_95 : decode cX6_read 95 = .ok (.ireturn, 1) := by decide +kernel
set_option maxRecDepth 20000 in
theorem ggX6_readAt_X6_isRow : GoodIn wsX6_readAt wsX6_isRow := goodIn_r _ [6, 7, 8, 5, 9] (by decide +kernel) (by decide +kernel)
set_option maxRecDepth 20000 in
theorem gX6_readAt_X6_isRow : GoodIn wsX6_readAt (va_wsS RX6 77 yX6_isRow wsX6_isRow) := goodIn_app (goodIn_of _ (by decide +kernel)) ggX6_readAt_X6_isRow
set_option maxRecDepth 20000 in
theorem ggX6_readAt_X6_isIn : GoodIn wsX6_readAt wsX6_isIn := goodIn_r _ [9] (by decide +kernel) (by decide +kernel)
set_option maxRecDepth 20000 in
theorem gX6_readAt_X6_isIn : GoodIn wsX6_readAt (va_wsS RX6 48 yX6_isIn wsX6_isIn) := goodIn_app (goodIn_of _ (by decide +kernel)) ggX6_readAt_X6_isIn
set_option maxRecDepth 20000 in
theorem ggX6_readAt_X6_can : GoodIn wsX6_readAt wsX6_can := goodIn_r _ [13, 14, 39, 40, 41, 42, 43, 44, 45, 46, 47, 48, 49, 50, 51, 52, 53, 54, 55, 56] (by decide +kernel) (by decide +kernel)
set_option maxRecDepth 20000 in
theorem gX6_readAt_X6_can : GoodIn wsX6_readAt (wsV RX6 61 RX6 yX6_can wsX6_can) := goodIn_app (goodIn_of _ (by decide +kernel)) ggX6_readAt_X6_can
set_option maxRecDepth 20000 in
theorem ggX6_readAt_X6_valueAt : GoodIn wsX6_readAt wsX6_valueAt := goodIn_r _ [18, 19, 2, 20, 21, 22, 23, 24, 25, 26, 27, 39, 40, 41, 42, 43, 44, 45, 46, 47, 48, 49, 50, 51, 52, 53, 54, 55, 56] (by decide +kernel) (by decide +kernel)
set_option maxRecDepth 20000 in
theorem gX6_readAt_X6_valueAt : GoodIn wsX6_readAt (wsV RX6 102 RX6 yX6_valueAt wsX6_valueAt) := goodIn_app (goodIn_of _ (by decide +kernel)) ggX6_readAt_X6_valueAt
set_option maxRecDepth 20000 in
theorem ggX6_readAt_X6_cleans : GoodIn wsX6_readAt wsX6_cleans := goodIn_r _ [31, 32, 33, 34, 35, 36, 37, 5, 38, 24, 39, 40, 41, 42, 43, 44, 45, 46, 47, 48, 49, 50, 51, 52, 53, 54, 55, 56] (by decide +kernel) (by decide +kernel)
set_option maxRecDepth 20000 in
theorem gX6_readAt_X6_cleans : GoodIn wsX6_readAt (wsV RX6 94 RX6 yX6_cleans wsX6_cleans) := goodIn_app (goodIn_of _ (by decide +kernel)) ggX6_readAt_X6_cleans
theorem dX6_readAt_0 : decode cX6_readAt 0 = .ok (.aload_n 0, 1) := by decide +kernel
theorem dX6_readAt_1 : decode cX6_readAt 1 = .ok (.iload_n 2, 1) := by decide +kernel
theorem dX6_readAt_2 : decode cX6_readAt 2 = .ok (.invokestatic 77, 3) := by decide +kernel
theorem dX6_readAt_5 : decode cX6_readAt 5 = .ok (.ifCond .ne 7, 3) := by decide +kernel
theorem dX6_readAt_8 : decode cX6_readAt 8 = .ok (.iconst 1, 1) := by decide +kernel
theorem dX6_readAt_9 : decode cX6_readAt 9 = .ok (.goto 20, 3) := by decide +kernel
theorem dX6_readAt_12 : decode cX6_readAt 12 = .ok (.iload_n 1, 1) := by decide +kernel
theorem dX6_readAt_13 : decode cX6_readAt 13 = .ok (.iconst 0, 1) := by decide +kernel
theorem dX6_readAt_14 : decode cX6_readAt 14 = .ok (.aload_n 0, 1) := by decide +kernel
theorem dX6_readAt_15 : decode cX6_readAt 15 = .ok (.getfield 65, 3) := by decide +kernel
theorem dX6_readAt_18 : decode cX6_readAt 18 = .ok (.invokestatic 48, 3) := by decide +kernel
theorem dX6_readAt_21 : decode cX6_readAt 21 = .ok (.ifCond .eq 7, 3) := by decide +kernel
theorem dX6_readAt_24 : decode cX6_readAt 24 = .ok (.iconst 0, 1) := by decide +kernel
theorem dX6_readAt_25 : decode cX6_readAt 25 = .ok (.goto 4, 3) := by decide +kernel
theorem dX6_readAt_28 : decode cX6_readAt 28 = .ok (.iconst 2, 1) := by decide +kernel
theorem dX6_readAt_29 : decode cX6_readAt 29 = .ok (.invokevirtual 61, 3) := by decide +kernel
theorem dX6_readAt_32 : decode cX6_readAt 32 = .ok (.ifCond .ne 5, 3) := by decide +kernel
theorem dX6_readAt_35 : decode cX6_readAt 35 = .ok (.iconst 0, 1) := by decide +kernel
theorem dX6_readAt_36 : decode cX6_readAt 36 = .ok (.ireturn, 1) := by decide +kernel
theorem dX6_readAt_37 : decode cX6_readAt 37 = .ok (.aload_n 0, 1) := by decide +kernel
theorem dX6_readAt_38 : decode cX6_readAt 38 = .ok (.iload_n 1, 1) := by decide +kernel
theorem dX6_readAt_39 : decode cX6_readAt 39 = .ok (.iload_n 2, 1) := by decide +kernel
theorem dX6_readAt_40 : decode cX6_readAt 40 = .ok (.iconst (-1), 1) := by decide +kernel
theorem dX6_readAt_41 : decode cX6_readAt 41 = .ok (.invokevirtual 102, 3) := by decide +kernel
theorem dX6_readAt_44 : decode cX6_readAt 44 = .ok (.istore_n 3, 1) := by decide +kernel
theorem dX6_readAt_45 : decode cX6_readAt 45 = .ok (.aload_n 0, 1) := by decide +kernel
theorem dX6_readAt_46 : decode cX6_readAt 46 = .ok (.aload_n 0, 1) := by decide +kernel
theorem dX6_readAt_47 : decode cX6_readAt 47 = .ok (.getfield 98, 3) := by decide +kernel
theorem dX6_readAt_50 : decode cX6_readAt 50 = .ok (.ifCond .eq 7, 3) := by decide +kernel
theorem dX6_readAt_53 : decode cX6_readAt 53 = .ok (.iconst 3, 1) := by decide +kernel
theorem dX6_readAt_54 : decode cX6_readAt 54 = .ok (.goto 4, 3) := by decide +kernel
theorem dX6_readAt_57 : decode cX6_readAt 57 = .ok (.iconst 0, 1) := by decide +kernel
theorem dX6_readAt_58 : decode cX6_readAt 58 = .ok (.invokevirtual 61, 3) := by decide +kernel
theorem dX6_readAt_61 : decode cX6_readAt 61 = .ok (.ifCond .ne 5, 3) := by decide +kernel
theorem dX6_readAt_64 : decode cX6_readAt 64 = .ok (.iconst 0, 1) := by decide +kernel
theorem dX6_readAt_65 : decode cX6_readAt 65 = .ok (.ireturn, 1) := by decide +kernel
theorem dX6_readAt_66 : decode cX6_readAt 66 = .ok (.aload_n 0, 1) := by decide +kernel
theorem dX6_readAt_67 : decode cX6_readAt 67 = .ok (.iload_n 2, 1) := by decide +kernel
theorem dX6_readAt_68 : decode cX6_readAt 68 = .ok (.iconst 4, 1) := by decide +kernel
theorem dX6_readAt_69 : decode cX6_readAt 69 = .ok (.idiv, 1) := by decide +kernel
theorem dX6_readAt_70 : decode cX6_readAt 70 = .ok (.invokevirtual 94, 3) := by decide +kernel
theorem dX6_readAt_73 : decode cX6_readAt 73 = .ok (.iload_n 3, 1) := by decide +kernel
theorem dX6_readAt_74 : decode cX6_readAt 74 = .ok (.ireturn, 1) := by decide +kernel
theorem dX6_standing_0 : decode cX6_standing 0 = .ok (.iconst 0, 1) := by decide +kernel
theorem dX6_standing_1 : decode cX6_standing 1 = .ok (.istore_n 2, 1) := by decide +kernel
theorem dX6_standing_2 : decode cX6_standing 2 = .ok (.iconst 0, 1) := by decide +kernel
theorem dX6_standing_3 : decode cX6_standing 3 = .ok (.istore_n 3, 1) := by decide +kernel
theorem dX6_standing_4 : decode cX6_standing 4 = .ok (.iload_n 3, 1) := by decide +kernel
theorem dX6_standing_5 : decode cX6_standing 5 = .ok (.aload_n 0, 1) := by decide +kernel
theorem dX6_standing_6 : decode cX6_standing 6 = .ok (.getfield 55, 3) := by decide +kernel
theorem dX6_standing_9 : decode cX6_standing 9 = .ok (.if_icmp .ge 36, 3) := by decide +kernel
theorem dX6_standing_12 : decode cX6_standing 12 = .ok (.iload_n 2, 1) := by decide +kernel
theorem dX6_standing_13 : decode cX6_standing 13 = .ok (.aload_n 0, 1) := by decide +kernel
theorem dX6_standing_14 : decode cX6_standing 14 = .ok (.getfield 26, 3) := by decide +kernel
theorem dX6_standing_17 : decode cX6_standing 17 = .ok (.iload_n 3, 1) := by decide +kernel
theorem dX6_standing_18 : decode cX6_standing 18 = .ok (.iaload, 1) := by decide +kernel
theorem dX6_standing_19 : decode cX6_standing 19 = .ok (.iload_n 1, 1) := by decide +kernel
theorem dX6_standing_20 : decode cX6_standing 20 = .ok (.if_icmp .ne 16, 3) := by decide +kernel
theorem dX6_standing_23 : decode cX6_standing 23 = .ok (.aload_n 0, 1) := by decide +kernel
theorem dX6_standing_24 : decode cX6_standing 24 = .ok (.getfield 35, 3) := by decide +kernel
theorem dX6_standing_27 : decode cX6_standing 27 = .ok (.iload_n 3, 1) := by decide +kernel
theorem dX6_standing_28 : decode cX6_standing 28 = .ok (.baload, 1) := by decide +kernel
theorem dX6_standing_29 : decode cX6_standing 29 = .ok (.ifCond .ne 7, 3) := by decide +kernel
theorem dX6_standing_32 : decode cX6_standing 32 = .ok (.iconst 1, 1) := by decide +kernel
theorem dX6_standing_33 : decode cX6_standing 33 = .ok (.goto 4, 3) := by decide +kernel
theorem dX6_standing_36 : decode cX6_standing 36 = .ok (.iconst 0, 1) := by decide +kernel
theorem dX6_standing_37 : decode cX6_standing 37 = .ok (.iadd, 1) := by decide +kernel
theorem dX6_standing_38 : decode cX6_standing 38 = .ok (.istore_n 2, 1) := by decide +kernel
theorem dX6_standing_39 : decode cX6_standing 39 = .ok (.iinc 3 1, 3) := by decide +kernel
theorem dX6_standing_42 : decode cX6_standing 42 = .ok (.goto (-38), 3) := by decide +kernel
theorem dX6_standing_45 : decode cX6_standing 45 = .ok (.iload_n 2, 1) := by decide +kernel
theorem dX6_standing_46 : decode cX6_standing 46 = .ok (.ireturn, 1) := by decide +kernel
set_option maxRecDepth 20000 in
theorem ggX6_isOpen_X6_isTransaction : GoodIn wsX6_isOpen wsX6_isTransaction := goodIn_r _ [5, 6, 7, 8, 4, 9, 20, 21, 22, 23, 24, 25, 26, 27, 28, 29, 30, 31, 32, 33, 34, 35, 36, 37] (by decide +kernel) (by decide +kernel)
set_option maxRecDepth 20000 in
theorem gX6_isOpen_X6_isTransaction : GoodIn wsX6_isOpen (wsV RX6 74 RX6 yX6_isTransaction wsX6_isTransaction) := goodIn_app (goodIn_of _ (by decide +kernel)) ggX6_isOpen_X6_isTransaction
set_option maxRecDepth 20000 in
theorem ggX6_isOpen_X6_isActive : GoodIn wsX6_isOpen wsX6_isActive := goodIn_r _ [13, 14, 20, 21, 22, 23, 24, 25, 26, 27, 28, 29, 30, 31, 32, 33, 34, 35, 36, 37] (by decide +kernel) (by decide +kernel)
set_option maxRecDepth 20000 in
theorem gX6_isOpen_X6_isActive : GoodIn wsX6_isOpen (wsV RX6 68 RX6 yX6_isActive wsX6_isActive) := goodIn_app (goodIn_of _ (by decide +kernel)) ggX6_isOpen_X6_isActive
set_option maxRecDepth 20000 in
theorem ggX6_isOpen_X6_can : GoodIn wsX6_isOpen wsX6_can := goodIn_r _ [18, 19, 20, 21, 22, 23, 24, 25, 26, 27, 28, 29, 30, 31, 32, 33, 34, 35, 36, 37] (by decide +kernel) (by decide +kernel)
set_option maxRecDepth 20000 in
theorem gX6_isOpen_X6_can : GoodIn wsX6_isOpen (wsV RX6 61 RX6 yX6_can wsX6_can) := goodIn_app (goodIn_of _ (by decide +kernel)) ggX6_isOpen_X6_can
theorem dX6_isOpen_0 : decode cX6_isOpen 0 = .ok (.aload_n 0, 1) := by decide +kernel
theorem dX6_isOpen_1 : decode cX6_isOpen 1 = .ok (.aload_n 0, 1) := by decide +kernel
theorem dX6_isOpen_2 : decode cX6_isOpen 2 = .ok (.iload_n 1, 1) := by decide +kernel
theorem dX6_isOpen_3 : decode cX6_isOpen 3 = .ok (.invokevirtual 74, 3) := by decide +kernel
theorem dX6_isOpen_6 : decode cX6_isOpen 6 = .ok (.ifCond .ne 7, 3) := by decide +kernel
theorem dX6_isOpen_9 : decode cX6_isOpen 9 = .ok (.iconst 1, 1) := by decide +kernel
theorem dX6_isOpen_10 : decode cX6_isOpen 10 = .ok (.goto 16, 3) := by decide +kernel
theorem dX6_isOpen_13 : decode cX6_isOpen 13 = .ok (.aload_n 0, 1) := by decide +kernel
theorem dX6_isOpen_14 : decode cX6_isOpen 14 = .ok (.iload_n 1, 1) := by decide +kernel
theorem dX6_isOpen_15 : decode cX6_isOpen 15 = .ok (.invokevirtual 68, 3) := by decide +kernel
theorem dX6_isOpen_18 : decode cX6_isOpen 18 = .ok (.ifCond .eq 7, 3) := by decide +kernel
theorem dX6_isOpen_21 : decode cX6_isOpen 21 = .ok (.iconst 0, 1) := by decide +kernel
theorem dX6_isOpen_22 : decode cX6_isOpen 22 = .ok (.goto 4, 3) := by decide +kernel
theorem dX6_isOpen_25 : decode cX6_isOpen 25 = .ok (.iconst 2, 1) := by decide +kernel
theorem dX6_isOpen_26 : decode cX6_isOpen 26 = .ok (.invokevirtual 61, 3) := by decide +kernel
theorem dX6_isOpen_29 : decode cX6_isOpen 29 = .ok (.ireturn, 1) := by decide +kernel
set_option maxRecDepth 20000 in
theorem ggX6_save_X6_isOpen : GoodIn wsX6_save wsX6_isOpen := goodIn_r _ [5, 6, 7, 8, 4, 9, 10, 11, 12, 13, 14, 15, 16, 17, 18, 19, 20, 21, 22, 23, 31, 32, 33, 34, 35, 36, 37, 38, 39, 40, 41, 42, 43, 44, 45, 46, 47, 48] (by decide +kernel) (by decide +kernel)
set_option maxRecDepth 20000 in
theorem gX6_save_X6_isOpen : GoodIn wsX6_save (wsV RX6 106 RX6 yX6_isOpen wsX6_isOpen) := goodIn_app (goodIn_of _ (by decide +kernel)) ggX6_save_X6_isOpen
set_option maxRecDepth 20000 in
theorem ggX6_save_X6_standing : GoodIn wsX6_save wsX6_standing := goodIn_r _ [27, 28, 29, 30, 31, 32, 33, 34, 35, 36, 37, 38, 39, 40, 41, 42, 43, 44, 45, 46, 47, 48] (by decide +kernel) (by decide +kernel)
set_option maxRecDepth 20000 in
theorem gX6_save_X6_standing : GoodIn wsX6_save (wsV RX6 109 RX6 yX6_standing wsX6_standing) := goodIn_app (goodIn_of _ (by decide +kernel)) ggX6_save_X6_standing
theorem dX6_save_0 : decode cX6_save 0 = .ok (.aload_n 0, 1) := by decide +kernel
theorem dX6_save_1 : decode cX6_save 1 = .ok (.iload_n 1, 1) := by decide +kernel
theorem dX6_save_2 : decode cX6_save 2 = .ok (.invokevirtual 106, 3) := by decide +kernel
theorem dX6_save_5 : decode cX6_save 5 = .ok (.ifCond .eq 11, 3) := by decide +kernel
theorem dX6_save_8 : decode cX6_save 8 = .ok (.aload_n 0, 1) := by decide +kernel
theorem dX6_save_9 : decode cX6_save 9 = .ok (.iload_n 1, 1) := by decide +kernel
theorem dX6_save_10 : decode cX6_save 10 = .ok (.invokevirtual 109, 3) := by decide +kernel
theorem dX6_save_13 : decode cX6_save 13 = .ok (.goto 4, 3) := by decide +kernel
theorem dX6_save_16 : decode cX6_save 16 = .ok (.iconst 0, 1) := by decide +kernel
theorem dX6_save_17 : decode cX6_save 17 = .ok (.ireturn, 1) := by decide +kernel
theorem dX6_undoes_0 : decode cX6_undoes 0 = .ok (.iload_n 2, 1) := by decide +kernel
theorem dX6_undoes_1 : decode cX6_undoes 1 = .ok (.istore_n 3, 1) := by decide +kernel
theorem dX6_undoes_2 : decode cX6_undoes 2 = .ok (.aload_n 0, 1) := by decide +kernel
theorem dX6_undoes_3 : decode cX6_undoes 3 = .ok (.getfield 55, 3) := by decide +kernel
theorem dX6_undoes_6 : decode cX6_undoes 6 = .ok (.iconst 1, 1) := by decide +kernel
theorem dX6_undoes_7 : decode cX6_undoes 7 = .ok (.isub, 1) := by decide +kernel
theorem dX6_undoes_8 : decode cX6_undoes 8 = .ok (.istore 4, 2) := by decide +kernel
theorem dX6_undoes_10 : decode cX6_undoes 10 = .ok (.iload 4, 2) := by decide +kernel
theorem dX6_undoes_12 : decode cX6_undoes 12 = .ok (.ifCond .lt 64, 3) := by decide +kernel
theorem dX6_undoes_15 : decode cX6_undoes 15 = .ok (.iload_n 3, 1) := by decide +kernel
theorem dX6_undoes_16 : decode cX6_undoes 16 = .ok (.ifCond .le 60, 3) := by decide +kernel
theorem dX6_undoes_19 : decode cX6_undoes 19 = .ok (.aload_n 0, 1) := by decide +kernel
theorem dX6_undoes_20 : decode cX6_undoes 20 = .ok (.getfield 26, 3) := by decide +kernel
theorem dX6_undoes_23 : decode cX6_undoes 23 = .ok (.iload 4, 2) := by decide +kernel
theorem dX6_undoes_25 : decode cX6_undoes 25 = .ok (.iaload, 1) := by decide +kernel
theorem dX6_undoes_26 : decode cX6_undoes 26 = .ok (.iload_n 1, 1) := by decide +kernel
theorem dX6_undoes_27 : decode cX6_undoes 27 = .ok (.if_icmp .ne 43, 3) := by decide +kernel
theorem dX6_undoes_30 : decode cX6_undoes 30 = .ok (.aload_n 0, 1) := by decide +kernel
theorem dX6_undoes_31 : decode cX6_undoes 31 = .ok (.getfield 35, 3) := by decide +kernel
theorem dX6_undoes_34 : decode cX6_undoes 34 = .ok (.iload 4, 2) := by decide +kernel
theorem dX6_undoes_36 : decode cX6_undoes 36 = .ok (.baload, 1) := by decide +kernel
theorem dX6_undoes_37 : decode cX6_undoes 37 = .ok (.ifCond .ne 33, 3) := by decide +kernel
theorem dX6_undoes_40 : decode cX6_undoes 40 = .ok (.aload_n 0, 1) := by decide +kernel
theorem dX6_undoes_41 : decode cX6_undoes 41 = .ok (.getfield 35, 3) := by decide +kernel
theorem dX6_undoes_44 : decode cX6_undoes 44 = .ok (.iload 4, 2) := by decide +kernel
theorem dX6_undoes_46 : decode cX6_undoes 46 = .ok (.iconst 1, 1) := by decide +kernel
theorem dX6_undoes_47 : decode cX6_undoes 47 = .ok (.bastore, 1) := by decide +kernel
theorem dX6_undoes_48 : decode cX6_undoes 48 = .ok (.aload_n 0, 1) := by decide +kernel
theorem dX6_undoes_49 : decode cX6_undoes 49 = .ok (.getfield 7, 3) := by decide +kernel
theorem dX6_undoes_52 : decode cX6_undoes 52 = .ok (.aload_n 0, 1) := by decide +kernel
theorem dX6_undoes_53 : decode cX6_undoes 53 = .ok (.getfield 29, 3) := by decide +kernel
theorem dX6_undoes_56 : decode cX6_undoes 56 = .ok (.iload 4, 2) := by decide +kernel
theorem dX6_undoes_58 : decode cX6_undoes 58 = .ok (.iaload, 1) := by decide +kernel
theorem dX6_undoes_59 : decode cX6_undoes 59 = .ok (.aload_n 0, 1) := by decide +kernel
theorem dX6_undoes_60 : decode cX6_undoes 60 = .ok (.getfield 32, 3) := by decide +kernel
theorem dX6_undoes_63 : decode cX6_undoes 63 = .ok (.iload 4, 2) := by decide +kernel
theorem dX6_undoes_65 : decode cX6_undoes 65 = .ok (.iaload, 1) := by decide +kernel
theorem dX6_undoes_66 : decode cX6_undoes 66 = .ok (.iastore, 1) := by decide +kernel
theorem dX6_undoes_67 : decode cX6_undoes 67 = .ok (.iinc 3 (-1), 3) := by decide +kernel
theorem dX6_undoes_70 : decode cX6_undoes 70 = .ok (.iinc 4 (-1), 3) := by decide +kernel
theorem dX6_undoes_73 : decode cX6_undoes 73 = .ok (.goto (-63), 3) := by decide +kernel
theorem dX6_undoes_76 : decode cX6_undoes 76 = .ok (.return_, 1) := by decide +kernel
set_option maxRecDepth 20000 in
theorem ggX6_undoTo_X6_isOpen : GoodIn wsX6_undoTo wsX6_isOpen := goodIn_r _ [5, 6, 7, 8, 4, 9, 10, 11, 12, 13, 14, 15, 16, 17, 18, 19, 20, 21, 22, 23, 38, 39, 40, 41, 42, 43, 44, 45, 46, 47, 48, 49, 50, 51, 52, 53, 54, 55] (by decide +kernel) (by decide +kernel)
set_option maxRecDepth 20000 in
theorem gX6_undoTo_X6_isOpen : GoodIn wsX6_undoTo (wsV RX6 106 RX6 yX6_isOpen wsX6_isOpen) := goodIn_app (goodIn_of _ (by decide +kernel)) ggX6_undoTo_X6_isOpen
set_option maxRecDepth 20000 in
theorem ggX6_undoTo_X6_standing : GoodIn wsX6_undoTo wsX6_standing := goodIn_r _ [27, 28, 29, 30, 38, 39, 40, 41, 42, 43, 44, 45, 46, 47, 48, 49, 50, 51, 52, 53, 54, 55] (by decide +kernel) (by decide +kernel)
set_option maxRecDepth 20000 in
theorem gX6_undoTo_X6_standing : GoodIn wsX6_undoTo (wsV RX6 109 RX6 yX6_standing wsX6_standing) := goodIn_app (goodIn_of _ (by decide +kernel)) ggX6_undoTo_X6_standing
set_option maxRecDepth 20000 in
theorem ggX6_undoTo_X6_isIn : GoodIn wsX6_undoTo wsX6_isIn := goodIn_r _ [13] (by decide +kernel) (by decide +kernel)
set_option maxRecDepth 20000 in
theorem gX6_undoTo_X6_isIn : GoodIn wsX6_undoTo (va_wsS RX6 48 yX6_isIn wsX6_isIn) := goodIn_app (goodIn_of _ (by decide +kernel)) ggX6_undoTo_X6_isIn
set_option maxRecDepth 20000 in
theorem ggX6_undoTo_X6_can : GoodIn wsX6_undoTo wsX6_can := goodIn_r _ [22, 23, 38, 39, 40, 41, 42, 43, 44, 45, 46, 47, 48, 49, 50, 51, 52, 53, 54, 55] (by decide +kernel) (by decide +kernel)
set_option maxRecDepth 20000 in
theorem gX6_undoTo_X6_can : GoodIn wsX6_undoTo (wsV RX6 61 RX6 yX6_can wsX6_can) := goodIn_app (goodIn_of _ (by decide +kernel)) ggX6_undoTo_X6_can
set_option maxRecDepth 20000 in
theorem ggX6_undoTo_X6_undoes : GoodIn wsX6_undoTo wsX6_undoes := goodIn_r _ [34, 28, 29, 30, 35, 36, 37, 38, 39, 40, 41, 42, 43, 44, 45, 46, 47, 48, 49, 50, 51, 52, 53, 54, 55] (by decide +kernel) (by decide +kernel)
set_option maxRecDepth 20000 in
theorem gX6_undoTo_X6_undoes : GoodIn wsX6_undoTo (wsV RX6 112 RX6 yX6_undoes wsX6_undoes) := goodIn_app (goodIn_of _ (by decide +kernel)) ggX6_undoTo_X6_undoes
theorem dX6_undoTo_0 : decode cX6_undoTo 0 = .ok (.aload_n 0, 1) := by decide +kernel
theorem dX6_undoTo_1 : decode cX6_undoTo 1 = .ok (.iload_n 1, 1) := by decide +kernel
theorem dX6_undoTo_2 : decode cX6_undoTo 2 = .ok (.invokevirtual 106, 3) := by decide +kernel
theorem dX6_undoTo_5 : decode cX6_undoTo 5 = .ok (.ifCond .ne 5, 3) := by decide +kernel
theorem dX6_undoTo_8 : decode cX6_undoTo 8 = .ok (.iconst 0, 1) := by decide +kernel
theorem dX6_undoTo_9 : decode cX6_undoTo 9 = .ok (.ireturn, 1) := by decide +kernel
theorem dX6_undoTo_10 : decode cX6_undoTo 10 = .ok (.aload_n 0, 1) := by decide +kernel
theorem dX6_undoTo_11 : decode cX6_undoTo 11 = .ok (.iload_n 1, 1) := by decide +kernel
theorem dX6_undoTo_12 : decode cX6_undoTo 12 = .ok (.invokevirtual 109, 3) := by decide +kernel
theorem dX6_undoTo_15 : decode cX6_undoTo 15 = .ok (.istore_n 3, 1) := by decide +kernel
theorem dX6_undoTo_16 : decode cX6_undoTo 16 = .ok (.aload_n 0, 1) := by decide +kernel
theorem dX6_undoTo_17 : decode cX6_undoTo 17 = .ok (.iload_n 2, 1) := by decide +kernel
theorem dX6_undoTo_18 : decode cX6_undoTo 18 = .ok (.iconst 0, 1) := by decide +kernel
theorem dX6_undoTo_19 : decode cX6_undoTo 19 = .ok (.iload_n 3, 1) := by decide +kernel
theorem dX6_undoTo_20 : decode cX6_undoTo 20 = .ok (.invokestatic 48, 3) := by decide +kernel
theorem dX6_undoTo_23 : decode cX6_undoTo 23 = .ok (.ifCond .eq 7, 3) := by decide +kernel
theorem dX6_undoTo_26 : decode cX6_undoTo 26 = .ok (.iconst 0, 1) := by decide +kernel
theorem dX6_undoTo_27 : decode cX6_undoTo 27 = .ok (.goto 4, 3) := by decide +kernel
theorem dX6_undoTo_30 : decode cX6_undoTo 30 = .ok (.iconst 3, 1) := by decide +kernel
theorem dX6_undoTo_31 : decode cX6_undoTo 31 = .ok (.invokevirtual 61, 3) := by decide +kernel
theorem dX6_undoTo_34 : decode cX6_undoTo 34 = .ok (.ifCond .ne 5, 3) := by decide +kernel
theorem dX6_undoTo_37 : decode cX6_undoTo 37 = .ok (.iconst 0, 1) := by decide +kernel
theorem dX6_undoTo_38 : decode cX6_undoTo 38 = .ok (.ireturn, 1) := by decide +kernel
theorem dX6_undoTo_39 : decode cX6_undoTo 39 = .ok (.aload_n 0, 1) := by decide +kernel
theorem dX6_undoTo_40 : decode cX6_undoTo 40 = .ok (.iload_n 1, 1) := by decide +kernel
theorem dX6_undoTo_41 : decode cX6_undoTo 41 = .ok (.iload_n 3, 1) := by decide +kernel
theorem dX6_undoTo_42 : decode cX6_undoTo 42 = .ok (.iload_n 2, 1) := by decide +kernel
theorem dX6_undoTo_43 : decode cX6_undoTo 43 = .ok (.isub, 1) := by decide +kernel
theorem dX6_undoTo_44 : decode cX6_undoTo 44 = .ok (.invokevirtual 112, 3) := by decide +kernel
theorem dX6_undoTo_47 : decode cX6_undoTo 47 = .ok (.iload_n 3, 1) := by decide +kernel
theorem dX6_undoTo_48 : decode cX6_undoTo 48 = .ok (.iload_n 2, 1) := by decide +kernel
theorem dX6_undoTo_49 : decode cX6_undoTo 49 = .ok (.isub, 1) := by decide +kernel
theorem dX6_undoTo_50 : decode cX6_undoTo 50 = .ok (.ireturn, 1) := by decide +kernel
set_option maxRecDepth 20000 in
theorem ggX6_undo_X6_isOpen : GoodIn wsX6_undo wsX6_isOpen := goodIn_r _ [6, 7, 8, 9, 5, 10, 11, 12, 13, 14, 15, 16, 17, 18, 1, 19, 20, 21, 22, 23, 38, 39, 40, 41, 42, 43, 44, 45, 46, 47, 48, 49, 50, 51, 52, 53, 54, 55] (by decide +kernel) (by decide +kernel)
set_option maxRecDepth 20000 in
theorem gX6_undo_X6_isOpen : GoodIn wsX6_undo (wsV RX6 106 RX6 yX6_isOpen wsX6_isOpen) := goodIn_app (goodIn_of _ (by decide +kernel)) ggX6_undo_X6_isOpen
set_option maxRecDepth 20000 in
theorem ggX6_undo_X6_standing : GoodIn wsX6_undo wsX6_standing := goodIn_r _ [27, 28, 29, 30, 38, 39, 40, 41, 42, 43, 44, 45, 46, 47, 48, 49, 50, 51, 52, 53, 54, 55] (by decide +kernel) (by decide +kernel)
set_option maxRecDepth 20000 in
theorem gX6_undo_X6_standing : GoodIn wsX6_undo (wsV RX6 109 RX6 yX6_standing wsX6_standing) := goodIn_app (goodIn_of _ (by decide +kernel)) ggX6_undo_X6_standing
set_option maxRecDepth 20000 in
theorem ggX6_undo_X6_undoes : GoodIn wsX6_undo wsX6_undoes := goodIn_r _ [34, 28, 29, 30, 35, 36, 37, 38, 39, 40, 41, 42, 43, 44, 45, 46, 47, 48, 49, 50, 51, 52, 53, 54, 55] (by decide +kernel) (by decide +kernel)
set_option maxRecDepth 20000 in
theorem gX6_undo_X6_undoes : GoodIn wsX6_undo (wsV RX6 112 RX6 yX6_undoes wsX6_undoes) := goodIn_app (goodIn_of _ (by decide +kernel)) ggX6_undo_X6_undoes
theorem dX6_undo_0 : decode cX6_undo 0 = .ok (.aload_n 0, 1) := by decide +kernel
theorem dX6_undo_1 : decode cX6_undo 1 = .ok (.iload_n 1, 1) := by decide +kernel
theorem dX6_undo_2 : decode cX6_undo 2 = .ok (.invokevirtual 106, 3) := by decide +kernel
theorem dX6_undo_5 : decode cX6_undo 5 = .ok (.ifCond .ne 5, 3) := by decide +kernel
theorem dX6_undo_8 : decode cX6_undo 8 = .ok (.iconst 0, 1) := by decide +kernel
theorem dX6_undo_9 : decode cX6_undo 9 = .ok (.ireturn, 1) := by decide +kernel
theorem dX6_undo_10 : decode cX6_undo 10 = .ok (.aload_n 0, 1) := by decide +kernel
theorem dX6_undo_11 : decode cX6_undo 11 = .ok (.iload_n 1, 1) := by decide +kernel
theorem dX6_undo_12 : decode cX6_undo 12 = .ok (.invokevirtual 109, 3) := by decide +kernel
theorem dX6_undo_15 : decode cX6_undo 15 = .ok (.istore_n 2, 1) := by decide +kernel
theorem dX6_undo_16 : decode cX6_undo 16 = .ok (.aload_n 0, 1) := by decide +kernel
theorem dX6_undo_17 : decode cX6_undo 17 = .ok (.iload_n 1, 1) := by decide +kernel
theorem dX6_undo_18 : decode cX6_undo 18 = .ok (.iload_n 2, 1) := by decide +kernel
theorem dX6_undo_19 : decode cX6_undo 19 = .ok (.invokevirtual 112, 3) := by decide +kernel
theorem dX6_undo_22 : decode cX6_undo 22 = .ok (.aload_n 0, 1) := by decide +kernel
theorem dX6_undo_23 : decode cX6_undo 23 = .ok (.getfield 17, 3) := by decide +kernel
theorem dX6_undo_26 : decode cX6_undo 26 = .ok (.iload_n 1, 1) := by decide +kernel
theorem dX6_undo_27 : decode cX6_undo 27 = .ok (.iconst 2, 1) := by decide +kernel
theorem dX6_undo_28 : decode cX6_undo 28 = .ok (.iastore, 1) := by decide +kernel
theorem dX6_undo_29 : decode cX6_undo 29 = .ok (.iload_n 2, 1) := by decide +kernel
theorem dX6_undo_30 : decode cX6_undo 30 = .ok (.ireturn, 1) := by decide +kernel
set_option maxRecDepth 20000 in
theorem ggX6_commit_X6_isOpen : GoodIn wsX6_commit wsX6_isOpen := goodIn_r _ [8, 9, 10, 11, 7, 12, 13, 14, 15, 16, 17, 18, 19, 20, 2, 21, 22, 23, 24, 25, 26, 27, 28, 29, 30, 31, 32, 33, 34, 35, 36, 37, 38, 39, 40, 41, 42, 43] (by decide +kernel) (by decide +kernel)
set_option maxRecDepth 20000 in
theorem gX6_commit_X6_isOpen : GoodIn wsX6_commit (wsV RX6 106 RX6 yX6_isOpen wsX6_isOpen) := goodIn_app (goodIn_of _ (by decide +kernel)) ggX6_commit_X6_isOpen
theorem dX6_commit_0 : decode cX6_commit 0 = .ok (.aload_n 0, 1) := by decide +kernel
theorem dX6_commit_1 : decode cX6_commit 1 = .ok (.iload_n 1, 1) := by decide +kernel
theorem dX6_commit_2 : decode cX6_commit 2 = .ok (.invokevirtual 106, 3) := by decide +kernel
theorem dX6_commit_5 : decode cX6_commit 5 = .ok (.ifCond .ne 5, 3) := by decide +kernel
theorem dX6_commit_8 : decode cX6_commit 8 = .ok (.iconst 0, 1) := by decide +kernel
theorem dX6_commit_9 : decode cX6_commit 9 = .ok (.ireturn, 1) := by decide +kernel
theorem dX6_commit_10 : decode cX6_commit 10 = .ok (.aload_n 0, 1) := by decide +kernel
theorem dX6_commit_11 : decode cX6_commit 11 = .ok (.dup, 1) := by decide +kernel
theorem dX6_commit_12 : decode cX6_commit 12 = .ok (.getfield 65, 3) := by decide +kernel
theorem dX6_commit_15 : decode cX6_commit 15 = .ok (.iconst 1, 1) := by decide +kernel
theorem dX6_commit_16 : decode cX6_commit 16 = .ok (.iadd, 1) := by decide +kernel
theorem dX6_commit_17 : decode cX6_commit 17 = .ok (.putfield 65, 3) := by decide +kernel
theorem dX6_commit_20 : decode cX6_commit 20 = .ok (.aload_n 0, 1) := by decide +kernel
theorem dX6_commit_21 : decode cX6_commit 21 = .ok (.getfield 17, 3) := by decide +kernel
theorem dX6_commit_24 : decode cX6_commit 24 = .ok (.iload_n 1, 1) := by decide +kernel
theorem dX6_commit_25 : decode cX6_commit 25 = .ok (.iconst 1, 1) := by decide +kernel
theorem dX6_commit_26 : decode cX6_commit 26 = .ok (.iastore, 1) := by decide +kernel
theorem dX6_commit_27 : decode cX6_commit 27 = .ok (.aload_n 0, 1) := by decide +kernel
theorem dX6_commit_28 : decode cX6_commit 28 = .ok (.getfield 23, 3) := by decide +kernel
theorem dX6_commit_31 : decode cX6_commit 31 = .ok (.iload_n 1, 1) := by decide +kernel
theorem dX6_commit_32 : decode cX6_commit 32 = .ok (.aload_n 0, 1) := by decide +kernel
theorem dX6_commit_33 : decode cX6_commit 33 = .ok (.getfield 65, 3) := by decide +kernel
theorem dX6_commit_36 : decode cX6_commit 36 = .ok (.iastore, 1) := by decide +kernel
theorem dX6_commit_37 : decode cX6_commit 37 = .ok (.aload_n 0, 1) := by decide +kernel
theorem dX6_commit_38 : decode cX6_commit 38 = .ok (.getfield 65, 3) := by decide +kernel
theorem dX6_commit_41 : decode cX6_commit 41 = .ok (.ireturn, 1) := by decide +kernel
theorem dX6_moment_0 : decode cX6_moment 0 = .ok (.aload_n 0, 1) := by decide +kernel
theorem dX6_moment_1 : decode cX6_moment 1 = .ok (.iconst 0, 1) := by decide +kernel
theorem dX6_moment_2 : decode cX6_moment 2 = .ok (.putfield 45, 3) := by decide +kernel
theorem dX6_moment_5 : decode cX6_moment 5 = .ok (.aload_n 0, 1) := by decide +kernel
theorem dX6_moment_6 : decode cX6_moment 6 = .ok (.getfield 65, 3) := by decide +kernel
theorem dX6_moment_9 : decode cX6_moment 9 = .ok (.ireturn, 1) := by decide +kernel
theorem dX6_transactions_0 : decode cX6_transactions 0 = .ok (.aload_n 0, 1) := by decide +kernel
theorem dX6_transactions_1 : decode cX6_transactions 1 = .ok (.iconst 0, 1) := by decide +kernel
theorem dX6_transactions_2 : decode cX6_transactions 2 = .ok (.putfield 45, 3) := by decide +kernel
theorem dX6_transactions_5 : decode cX6_transactions 5 = .ok (.aload_n 0, 1) := by decide +kernel
theorem dX6_transactions_6 : decode cX6_transactions 6 = .ok (.getfield 52, 3) := by decide +kernel
theorem dX6_transactions_9 : decode cX6_transactions 9 = .ok (.ireturn, 1) := by decide +kernel
set_option maxRecDepth 20000 in
theorem ggX6_now_X6_isRow : GoodIn wsX6_now wsX6_isRow := goodIn_r _ [5, 6, 7, 4, 8] (by decide +kernel) (by decide +kernel)
set_option maxRecDepth 20000 in
theorem gX6_now_X6_isRow : GoodIn wsX6_now (va_wsS RX6 77 yX6_isRow wsX6_isRow) := goodIn_app (goodIn_of _ (by decide +kernel)) ggX6_now_X6_isRow
set_option maxRecDepth 20000 in
theorem ggX6_now_X6_can : GoodIn wsX6_now wsX6_can := goodIn_r _ [12, 13, 14, 15, 16, 17, 18, 19, 20, 21, 22, 23, 24, 25, 26, 27, 28, 29, 30, 31] (by decide +kernel) (by decide +kernel)
set_option maxRecDepth 20000 in
theorem gX6_now_X6_can : GoodIn wsX6_now (wsV RX6 61 RX6 yX6_can wsX6_can) := goodIn_app (goodIn_of _ (by decide +kernel)) ggX6_now_X6_can
theorem dX6_now_0 : decode cX6_now 0 = .ok (.aload_n 0, 1) := by decide +kernel
theorem dX6_now_1 : decode cX6_now 1 = .ok (.iload_n 1, 1) := by decide +kernel
theorem dX6_now_2 : decode cX6_now 2 = .ok (.invokestatic 77, 3) := by decide +kernel
theorem dX6_now_5 : decode cX6_now 5 = .ok (.ifCond .eq 7, 3) := by decide +kernel
theorem dX6_now_8 : decode cX6_now 8 = .ok (.iconst 0, 1) := by decide +kernel
theorem dX6_now_9 : decode cX6_now 9 = .ok (.goto 4, 3) := by decide +kernel
theorem dX6_now_12 : decode cX6_now 12 = .ok (.iconst 1, 1) := by decide +kernel
theorem dX6_now_13 : decode cX6_now 13 = .ok (.invokevirtual 61, 3) := by decide +kernel
theorem dX6_now_16 : decode cX6_now 16 = .ok (.ifCond .eq 12, 3) := by decide +kernel
theorem dX6_now_19 : decode cX6_now 19 = .ok (.aload_n 0, 1) := by decide +kernel
theorem dX6_now_20 : decode cX6_now 20 = .ok (.getfield 7, 3) := by decide +kernel
theorem dX6_now_23 : decode cX6_now 23 = .ok (.iload_n 1, 1) := by decide +kernel
theorem dX6_now_24 : decode cX6_now 24 = .ok (.iaload, 1) := by decide +kernel
theorem dX6_now_25 : decode cX6_now 25 = .ok (.goto 4, 3) := by decide +kernel
theorem dX6_now_28 : decode cX6_now 28 = .ok (.iconst 0, 1) := by decide +kernel
theorem dX6_now_29 : decode cX6_now 29 = .ok (.ireturn, 1) := by decide +kernel
set_option maxRecDepth 20000 in
theorem ggX6_versionAt_X6_isRow : GoodIn wsX6_versionAt wsX6_isRow := goodIn_r _ [5, 6, 7, 4, 8] (by decide +kernel) (by decide +kernel)
set_option maxRecDepth 20000 in
theorem gX6_versionAt_X6_isRow : GoodIn wsX6_versionAt (va_wsS RX6 77 yX6_isRow wsX6_isRow) := goodIn_app (goodIn_of _ (by decide +kernel)) ggX6_versionAt_X6_isRow
set_option maxRecDepth 20000 in
theorem ggX6_versionAt_X6_isIn : GoodIn wsX6_versionAt wsX6_isIn := goodIn_r _ [8] (by decide +kernel) (by decide +kernel)
set_option maxRecDepth 20000 in
theorem gX6_versionAt_X6_isIn : GoodIn wsX6_versionAt (va_wsS RX6 48 yX6_isIn wsX6_isIn) := goodIn_app (goodIn_of _ (by decide +kernel)) ggX6_versionAt_X6_isIn
set_option maxRecDepth 20000 in
theorem ggX6_versionAt_X6_can : GoodIn wsX6_versionAt wsX6_can := goodIn_r _ [12, 13, 28, 29, 30, 31, 32, 33, 34, 35, 36, 37, 38, 39, 40, 41, 42, 43, 44, 45] (by decide +kernel) (by decide +kernel)
set_option maxRecDepth 20000 in
theorem gX6_versionAt_X6_can : GoodIn wsX6_versionAt (wsV RX6 61 RX6 yX6_can wsX6_can) := goodIn_app (goodIn_of _ (by decide +kernel)) ggX6_versionAt_X6_can
set_option maxRecDepth 20000 in
theorem ggX6_versionAt_X6_valueAt : GoodIn wsX6_versionAt wsX6_valueAt := goodIn_r _ [17, 18, 19, 20, 21, 22, 23, 24, 25, 26, 27, 28, 29, 30, 31, 32, 33, 34, 35, 36, 37, 38, 39, 40, 41, 42, 43, 44, 45] (by decide +kernel) (by decide +kernel)
set_option maxRecDepth 20000 in
theorem gX6_versionAt_X6_valueAt : GoodIn wsX6_versionAt (wsV RX6 102 RX6 yX6_valueAt wsX6_valueAt) := goodIn_app (goodIn_of _ (by decide +kernel)) ggX6_versionAt_X6_valueAt
theorem dX6_versionAt_0 : decode cX6_versionAt 0 = .ok (.aload_n 0, 1) := by decide +kernel
theorem dX6_versionAt_1 : decode cX6_versionAt 1 = .ok (.iload_n 2, 1) := by decide +kernel
theorem dX6_versionAt_2 : decode cX6_versionAt 2 = .ok (.invokestatic 77, 3) := by decide +kernel
theorem dX6_versionAt_5 : decode cX6_versionAt 5 = .ok (.ifCond .ne 7, 3) := by decide +kernel
theorem dX6_versionAt_8 : decode cX6_versionAt 8 = .ok (.iconst 1, 1) := by decide +kernel
theorem dX6_versionAt_9 : decode cX6_versionAt 9 = .ok (.goto 20, 3) := by decide +kernel
theorem dX6_versionAt_12 : decode cX6_versionAt 12 = .ok (.iload_n 1, 1) := by decide +kernel
theorem dX6_versionAt_13 : decode cX6_versionAt 13 = .ok (.iconst 0, 1) := by decide +kernel
theorem dX6_versionAt_14 : decode cX6_versionAt 14 = .ok (.aload_n 0, 1) := by decide +kernel
theorem dX6_versionAt_15 : decode cX6_versionAt 15 = .ok (.getfield 65, 3) := by decide +kernel
theorem dX6_versionAt_18 : decode cX6_versionAt 18 = .ok (.invokestatic 48, 3) := by decide +kernel
theorem dX6_versionAt_21 : decode cX6_versionAt 21 = .ok (.ifCond .eq 7, 3) := by decide +kernel
theorem dX6_versionAt_24 : decode cX6_versionAt 24 = .ok (.iconst 0, 1) := by decide +kernel
theorem dX6_versionAt_25 : decode cX6_versionAt 25 = .ok (.goto 4, 3) := by decide +kernel
theorem dX6_versionAt_28 : decode cX6_versionAt 28 = .ok (.iconst 2, 1) := by decide +kernel
theorem dX6_versionAt_29 : decode cX6_versionAt 29 = .ok (.invokevirtual 61, 3) := by decide +kernel
theorem dX6_versionAt_32 : decode cX6_versionAt 32 = .ok (.ifCond .eq 13, 3) := by decide +kernel
theorem dX6_versionAt_35 : decode cX6_versionAt 35 = .ok (.aload_n 0, 1) := by decide +kernel
theorem dX6_versionAt_36 : decode cX6_versionAt 36 = .ok (.iload_n 1, 1) := by decide +kernel
theorem dX6_versionAt_37 : decode cX6_versionAt 37 = .ok (.iload_n 2, 1) := by decide +kernel
theorem dX6_versionAt_38 : decode cX6_versionAt 38 = .ok (.iconst (-1), 1) := by decide +kernel
theorem dX6_versionAt_39 : decode cX6_versionAt 39 = .ok (.invokevirtual 102, 3) := by decide +kernel
theorem dX6_versionAt_42 : decode cX6_versionAt 42 = .ok (.goto 4, 3) := by decide +kernel
theorem dX6_versionAt_45 : decode cX6_versionAt 45 = .ok (.iconst 0, 1) := by decide +kernel
theorem dX6_versionAt_46 : decode cX6_versionAt 46 = .ok (.ireturn, 1) := by decide +kernel
set_option maxRecDepth 20000 in
theorem ggX6_lockOf_X6_isRow : GoodIn wsX6_lockOf wsX6_isRow := goodIn_r _ [4, 5, 6, 3, 7] (by decide +kernel) (by decide +kernel)
set_option maxRecDepth 20000 in
theorem gX6_lockOf_X6_isRow : GoodIn wsX6_lockOf (va_wsS RX6 77 yX6_isRow wsX6_isRow) := goodIn_app (goodIn_of _ (by decide +kernel)) ggX6_lockOf_X6_isRow
set_option maxRecDepth 20000 in
theorem ggX6_lockOf_X6_can : GoodIn wsX6_lockOf wsX6_can := goodIn_r _ [11, 12, 26, 27, 28, 29, 30, 31, 32, 33, 34, 35, 36, 37, 38, 39, 40, 41, 42, 43] (by decide +kernel) (by decide +kernel)
set_option maxRecDepth 20000 in
theorem gX6_lockOf_X6_can : GoodIn wsX6_lockOf (wsV RX6 61 RX6 yX6_can wsX6_can) := goodIn_app (goodIn_of _ (by decide +kernel)) ggX6_lockOf_X6_can
set_option maxRecDepth 20000 in
theorem ggX6_lockOf_X6_lockOn : GoodIn wsX6_lockOf wsX6_lockOn := goodIn_r _ [16, 17, 18, 19, 20, 21, 22, 23, 3, 24, 25, 26, 27, 28, 29, 30, 31, 32, 33, 34, 35, 36, 37, 38, 39, 40, 41, 42, 43] (by decide +kernel) (by decide +kernel)
set_option maxRecDepth 20000 in
theorem gX6_lockOf_X6_lockOn : GoodIn wsX6_lockOf (wsV RX6 82 RX6 yX6_lockOn wsX6_lockOn) := goodIn_app (goodIn_of _ (by decide +kernel)) ggX6_lockOf_X6_lockOn
theorem dX6_lockOf_0 : decode cX6_lockOf 0 = .ok (.aload_n 0, 1) := by decide +kernel
theorem dX6_lockOf_1 : decode cX6_lockOf 1 = .ok (.iload_n 1, 1) := by decide +kernel
theorem dX6_lockOf_2 : decode cX6_lockOf 2 = .ok (.invokestatic 77, 3) := by decide +kernel
theorem dX6_lockOf_5 : decode cX6_lockOf 5 = .ok (.ifCond .eq 7, 3) := by decide +kernel
theorem dX6_lockOf_8 : decode cX6_lockOf 8 = .ok (.iconst 0, 1) := by decide +kernel
theorem dX6_lockOf_9 : decode cX6_lockOf 9 = .ok (.goto 4, 3) := by decide +kernel
theorem dX6_lockOf_12 : decode cX6_lockOf 12 = .ok (.iconst 1, 1) := by decide +kernel
theorem dX6_lockOf_13 : decode cX6_lockOf 13 = .ok (.invokevirtual 61, 3) := by decide +kernel
theorem dX6_lockOf_16 : decode cX6_lockOf 16 = .ok (.ifCond .eq 11, 3) := by decide +kernel
theorem dX6_lockOf_19 : decode cX6_lockOf 19 = .ok (.aload_n 0, 1) := by decide +kernel
theorem dX6_lockOf_20 : decode cX6_lockOf 20 = .ok (.iload_n 1, 1) := by decide +kernel
theorem dX6_lockOf_21 : decode cX6_lockOf 21 = .ok (.invokevirtual 82, 3) := by decide +kernel
theorem dX6_lockOf_24 : decode cX6_lockOf 24 = .ok (.goto 4, 3) := by decide +kernel
theorem dX6_lockOf_27 : decode cX6_lockOf 27 = .ok (.iconst 0, 1) := by decide +kernel
theorem dX6_lockOf_28 : decode cX6_lockOf 28 = .ok (.ireturn, 1) := by decide +kernel
set_option maxRecDepth 20000 in
theorem ggX6_isSlot_X6_isIn : GoodIn wsX6_isSlot wsX6_isIn := goodIn_r _ [4] (by decide +kernel) (by decide +kernel)
set_option maxRecDepth 20000 in
theorem gX6_isSlot_X6_isIn : GoodIn wsX6_isSlot (va_wsS RX6 48 yX6_isIn wsX6_isIn) := goodIn_app (goodIn_of _ (by decide +kernel)) ggX6_isSlot_X6_isIn
theorem dX6_isSlot_0 : decode cX6_isSlot 0 = .ok (.iload_n 0, 1) := by decide +kernel
theorem dX6_isSlot_1 : decode cX6_isSlot 1 = .ok (.iconst 0, 1) := by decide +kernel
theorem dX6_isSlot_2 : decode cX6_isSlot 2 = .ok (.iconst 2, 1) := by decide +kernel
theorem dX6_isSlot_3 : decode cX6_isSlot 3 = .ok (.invokestatic 48, 3) := by decide +kernel
theorem dX6_isSlot_6 : decode cX6_isSlot 6 = .ok (.ifCond .eq 16, 3) := by decide +kernel
theorem dX6_isSlot_9 : decode cX6_isSlot 9 = .ok (.iload_n 1, 1) := by decide +kernel
theorem dX6_isSlot_10 : decode cX6_isSlot 10 = .ok (.iconst 0, 1) := by decide +kernel
theorem dX6_isSlot_11 : decode cX6_isSlot 11 = .ok (.iconst 1, 1) := by decide +kernel
theorem dX6_isSlot_12 : decode cX6_isSlot 12 = .ok (.invokestatic 48, 3) := by decide +kernel
theorem dX6_isSlot_15 : decode cX6_isSlot 15 = .ok (.ifCond .eq 7, 3) := by decide +kernel
theorem dX6_isSlot_18 : decode cX6_isSlot 18 = .ok (.iconst 1, 1) := by decide +kernel
theorem dX6_isSlot_19 : decode cX6_isSlot 19 = .ok (.goto 4, 3) := by decide +kernel
theorem dX6_isSlot_22 : decode cX6_isSlot 22 = .ok (.iconst 0, 1) := by decide +kernel
theorem dX6_isSlot_23 : decode cX6_isSlot 23 = .ok (.ireturn, 1) := by decide +kernel
set_option maxRecDepth 20000 in
theorem ggX6_slotOf_X6_isSlot : GoodIn wsX6_slotOf wsX6_isSlot := goodIn_r _ [5, 6, 7, 4, 8] (by decide +kernel) (by decide +kernel)
set_option maxRecDepth 20000 in
theorem gX6_slotOf_X6_isSlot : GoodIn wsX6_slotOf (va_wsS RX6 116 yX6_isSlot wsX6_isSlot) := goodIn_app (goodIn_of _ (by decide +kernel)) ggX6_slotOf_X6_isSlot
set_option maxRecDepth 20000 in
theorem ggX6_slotOf_X6_can : GoodIn wsX6_slotOf wsX6_can := goodIn_r _ [12, 13, 14, 15, 16, 17, 18, 19, 20, 21, 22, 23, 24, 25, 26, 27, 28, 29, 30, 31] (by decide +kernel) (by decide +kernel)
set_option maxRecDepth 20000 in
theorem gX6_slotOf_X6_can : GoodIn wsX6_slotOf (wsV RX6 61 RX6 yX6_can wsX6_can) := goodIn_app (goodIn_of _ (by decide +kernel)) ggX6_slotOf_X6_can
theorem dX6_slotOf_0 : decode cX6_slotOf 0 = .ok (.aload_n 0, 1) := by decide +kernel
theorem dX6_slotOf_1 : decode cX6_slotOf 1 = .ok (.iload_n 1, 1) := by decide +kernel
theorem dX6_slotOf_2 : decode cX6_slotOf 2 = .ok (.iload_n 2, 1) := by decide +kernel
theorem dX6_slotOf_3 : decode cX6_slotOf 3 = .ok (.invokestatic 116, 3) := by decide +kernel
theorem dX6_slotOf_6 : decode cX6_slotOf 6 = .ok (.ifCond .eq 7, 3) := by decide +kernel
theorem dX6_slotOf_9 : decode cX6_slotOf 9 = .ok (.iconst 0, 1) := by decide +kernel
theorem dX6_slotOf_10 : decode cX6_slotOf 10 = .ok (.goto 4, 3) := by decide +kernel
theorem dX6_slotOf_13 : decode cX6_slotOf 13 = .ok (.iconst 1, 1) := by decide +kernel
theorem dX6_slotOf_14 : decode cX6_slotOf 14 = .ok (.invokevirtual 61, 3) := by decide +kernel
theorem dX6_slotOf_17 : decode cX6_slotOf 17 = .ok (.ifCond .eq 16, 3) := by decide +kernel
theorem dX6_slotOf_20 : decode cX6_slotOf 20 = .ok (.aload_n 0, 1) := by decide +kernel
theorem dX6_slotOf_21 : decode cX6_slotOf 21 = .ok (.getfield 39, 3) := by decide +kernel
theorem dX6_slotOf_24 : decode cX6_slotOf 24 = .ok (.iconst 2, 1) := by decide +kernel
theorem dX6_slotOf_25 : decode cX6_slotOf 25 = .ok (.iload_n 1, 1) := by decide +kernel
theorem dX6_slotOf_26 : decode cX6_slotOf 26 = .ok (.imul, 1) := by decide +kernel
theorem dX6_slotOf_27 : decode cX6_slotOf 27 = .ok (.iload_n 2, 1) := by decide +kernel
theorem dX6_slotOf_28 : decode cX6_slotOf 28 = .ok (.iadd, 1) := by decide +kernel
theorem dX6_slotOf_29 : decode cX6_slotOf 29 = .ok (.iaload, 1) := by decide +kernel
theorem dX6_slotOf_30 : decode cX6_slotOf 30 = .ok (.goto 4, 3) := by decide +kernel
theorem dX6_slotOf_33 : decode cX6_slotOf 33 = .ok (.iconst 0, 1) := by decide +kernel
theorem dX6_slotOf_34 : decode cX6_slotOf 34 = .ok (.ireturn, 1) := by decide +kernel
set_option maxRecDepth 20000 in
theorem ggX6_isMarked_X6_isSlot : GoodIn wsX6_isMarked wsX6_isSlot := goodIn_r _ [5, 6, 7, 4, 8] (by decide +kernel) (by decide +kernel)
set_option maxRecDepth 20000 in
theorem gX6_isMarked_X6_isSlot : GoodIn wsX6_isMarked (va_wsS RX6 116 yX6_isSlot wsX6_isSlot) := goodIn_app (goodIn_of _ (by decide +kernel)) ggX6_isMarked_X6_isSlot
set_option maxRecDepth 20000 in
theorem ggX6_isMarked_X6_can : GoodIn wsX6_isMarked wsX6_can := goodIn_r _ [12, 13, 14, 15, 16, 17, 18, 19, 20, 21, 22, 23, 24, 25, 26, 27, 28, 29, 30, 31] (by decide +kernel) (by decide +kernel)
set_option maxRecDepth 20000 in
theorem gX6_isMarked_X6_can : GoodIn wsX6_isMarked (wsV RX6 61 RX6 yX6_can wsX6_can) := goodIn_app (goodIn_of _ (by decide +kernel)) ggX6_isMarked_X6_can
theorem dX6_isMarked_0 : decode cX6_isMarked 0 = .ok (.aload_n 0, 1) := by decide +kernel
theorem dX6_isMarked_1 : decode cX6_isMarked 1 = .ok (.iload_n 1, 1) := by decide +kernel
theorem dX6_isMarked_2 : decode cX6_isMarked 2 = .ok (.iload_n 2, 1) := by decide +kernel
theorem dX6_isMarked_3 : decode cX6_isMarked 3 = .ok (.invokestatic 116, 3) := by decide +kernel
theorem dX6_isMarked_6 : decode cX6_isMarked 6 = .ok (.ifCond .eq 7, 3) := by decide +kernel
theorem dX6_isMarked_9 : decode cX6_isMarked 9 = .ok (.iconst 0, 1) := by decide +kernel
theorem dX6_isMarked_10 : decode cX6_isMarked 10 = .ok (.goto 4, 3) := by decide +kernel
theorem dX6_isMarked_13 : decode cX6_isMarked 13 = .ok (.iconst 1, 1) := by decide +kernel
theorem dX6_isMarked_14 : decode cX6_isMarked 14 = .ok (.invokevirtual 61, 3) := by decide +kernel
theorem dX6_isMarked_17 : decode cX6_isMarked 17 = .ok (.ifCond .eq 20, 3) := by decide +kernel
theorem dX6_isMarked_20 : decode cX6_isMarked 20 = .ok (.aload_n 0, 1) := by decide +kernel
theorem dX6_isMarked_21 : decode cX6_isMarked 21 = .ok (.getfield 42, 3) := by decide +kernel
theorem dX6_isMarked_24 : decode cX6_isMarked 24 = .ok (.iconst 2, 1) := by decide +kernel
theorem dX6_isMarked_25 : decode cX6_isMarked 25 = .ok (.iload_n 1, 1) := by decide +kernel
theorem dX6_isMarked_26 : decode cX6_isMarked 26 = .ok (.imul, 1) := by decide +kernel
theorem dX6_isMarked_27 : decode cX6_isMarked 27 = .ok (.iload_n 2, 1) := by decide +kernel
theorem dX6_isMarked_28 : decode cX6_isMarked 28 = .ok (.iadd, 1) := by decide +kernel
theorem dX6_isMarked_29 : decode cX6_isMarked 29 = .ok (.baload, 1) := by decide +kernel
theorem dX6_isMarked_30 : decode cX6_isMarked 30 = .ok (.ifCond .eq 7, 3) := by decide +kernel
theorem dX6_isMarked_33 : decode cX6_isMarked 33 = .ok (.iconst 1, 1) := by decide +kernel
theorem dX6_isMarked_34 : decode cX6_isMarked 34 = .ok (.goto 4, 3) := by decide +kernel
theorem dX6_isMarked_37 : decode cX6_isMarked 37 = .ok (.iconst 0, 1) := by decide +kernel
theorem dX6_isMarked_38 : decode cX6_isMarked 38 = .ok (.ireturn, 1) := by decide +kernel
theorem dX6_marked_0 : decode cX6_marked 0 = .ok (.aload_n 0, 1) := by decide +kernel
theorem dX6_marked_1 : decode cX6_marked 1 = .ok (.iconst 0, 1) := by decide +kernel
theorem dX6_marked_2 : decode cX6_marked 2 = .ok (.putfield 45, 3) := by decide +kernel
theorem dX6_marked_5 : decode cX6_marked 5 = .ok (.aload_n 0, 1) := by decide +kernel
theorem dX6_marked_6 : decode cX6_marked 6 = .ok (.getfield 71, 3) := by decide +kernel
theorem dX6_marked_9 : decode cX6_marked 9 = .ok (.ireturn, 1) := by decide +kernel
theorem dX6_records_0 : decode cX6_records 0 = .ok (.aload_n 0, 1) := by decide +kernel
theorem dX6_records_1 : decode cX6_records 1 = .ok (.iconst 0, 1) := by decide +kernel
theorem dX6_records_2 : decode cX6_records 2 = .ok (.putfield 45, 3) := by decide +kernel
theorem dX6_records_5 : decode cX6_records 5 = .ok (.aload_n 0, 1) := by decide +kernel
theorem dX6_records_6 : decode cX6_records 6 = .ok (.getfield 55, 3) := by decide +kernel
theorem dX6_records_9 : decode cX6_records 9 = .ok (.aload_n 0, 1) := by decide +kernel
theorem dX6_records_10 : decode cX6_records 10 = .ok (.getfield 58, 3) := by decide +kernel
theorem dX6_records_13 : decode cX6_records 13 = .ok (.isub, 1) := by decide +kernel
theorem dX6_records_14 : decode cX6_records 14 = .ok (.ireturn, 1) := by decide +kernel
theorem dX6_dropped_0 : decode cX6_dropped 0 = .ok (.aload_n 0, 1) := by decide +kernel
theorem dX6_dropped_1 : decode cX6_dropped 1 = .ok (.iconst 0, 1) := by decide +kernel
theorem dX6_dropped_2 : decode cX6_dropped 2 = .ok (.putfield 45, 3) := by decide +kernel
theorem dX6_dropped_5 : decode cX6_dropped 5 = .ok (.aload_n 0, 1) := by decide +kernel
theorem dX6_dropped_6 : decode cX6_dropped 6 = .ok (.getfield 58, 3) := by decide +kernel
theorem dX6_dropped_9 : decode cX6_dropped 9 = .ok (.ireturn, 1) := by decide +kernel
end
section
/-! printed decode rows and words -/
set_option maxRecDepth 20000 in
theorem ggX0_init_X3_init : GoodIn wsX0_init wsX3_init := goodIn_r _ [9, 10, 2, 3, 11, 12, 14, 15] (by decide +kernel) (by decide +kernel)
set_option maxRecDepth 20000 in
theorem gX0_init_X3_init_n17 : GoodIn wsX0_init (wsX3_init) := ggX0_init_X3_init
theorem dX0_init_0 : decode cX0_init 0 = .ok (.aload_n 0, 1) := by decide +kernel
theorem dX0_init_1 : decode cX0_init 1 = .ok (.invokespecial 3, 3) := by decide +kernel
theorem dX0_init_4 : decode cX0_init 4 = .ok (.aload_n 0, 1) := by decide +kernel
theorem dX0_init_5 : decode cX0_init 5 = .ok (.iconst 2, 1) := by decide +kernel
theorem dX0_init_6 : decode cX0_init 6 = .ok (.anewarray 9, 3) := by decide +kernel
theorem dX0_init_9 : decode cX0_init 9 = .ok (.putfield 11, 3) := by decide +kernel
theorem dX0_init_12 : decode cX0_init 12 = .ok (.iconst 0, 1) := by decide +kernel
theorem dX0_init_13 : decode cX0_init 13 = .ok (.istore_n 1, 1) := by decide +kernel
theorem dX0_init_14 : decode cX0_init 14 = .ok (.iload_n 1, 1) := by decide +kernel
theorem dX0_init_15 : decode cX0_init 15 = .ok (.aload_n 0, 1) := by decide +kernel
theorem dX0_init_16 : decode cX0_init 16 = .ok (.getfield 11, 3) := by decide +kernel
theorem dX0_init_19 : decode cX0_init 19 = .ok (.arraylength, 1) := by decide +kernel
theorem dX0_init_20 : decode cX0_init 20 = .ok (.if_icmp .ge 22, 3) := by decide +kernel
theorem dX0_init_23 : decode cX0_init 23 = .ok (.aload_n 0, 1) := by decide +kernel
theorem dX0_init_24 : decode cX0_init 24 = .ok (.getfield 11, 3) := by decide +kernel
theorem dX0_init_27 : decode cX0_init 27 = .ok (.iload_n 1, 1) := by decide +kernel
theorem dX0_init_28 : decode cX0_init 28 = .ok (.new 9, 3) := by decide +kernel
theorem dX0_init_31 : decode cX0_init 31 = .ok (.dup, 1) := by decide +kernel
theorem dX0_init_32 : decode cX0_init 32 = .ok (.invokespecial 17, 3) := by decide +kernel
theorem dX0_init_35 : decode cX0_init 35 = .ok (.aastore, 1) := by decide +kernel
theorem dX0_init_36 : decode cX0_init 36 = .ok (.iinc 1 1, 3) := by decide +kernel
theorem dX0_init_39 : decode cX0_init 39 = .ok (.goto (-25), 3) := by decide +kernel
theorem dX0_init_42 : decode cX0_init 42 = .ok (.return_, 1) := by decide +kernel
set_option maxRecDepth 20000 in
theorem ggX0_slotFor_X3_isEnded : GoodIn wsX0_slotFor wsX3_isEnded := goodIn_r _ [5, 6, 8, 9, 10, 11, 12, 13, 14] (by decide +kernel) (by decide +kernel)
set_option maxRecDepth 20000 in
theorem gX0_slotFor_X3_isEnded_n22 : GoodIn wsX0_slotFor (wsX3_isEnded) := ggX0_slotFor_X3_isEnded
theorem dX0_slotFor_0 : decode cX0_slotFor 0 = .ok (.aload_n 0, 1) := by decide +kernel
theorem dX0_slotFor_1 : decode cX0_slotFor 1 = .ok (.getfield 11, 3) := by decide +kernel
theorem dX0_slotFor_4 : decode cX0_slotFor 4 = .ok (.astore_n 2, 1) := by decide +kernel
theorem dX0_slotFor_5 : decode cX0_slotFor 5 = .ok (.aload_n 2, 1) := by decide +kernel
theorem dX0_slotFor_6 : decode cX0_slotFor 6 = .ok (.arraylength, 1) := by decide +kernel
theorem dX0_slotFor_7 : decode cX0_slotFor 7 = .ok (.istore_n 3, 1) := by decide +kernel
theorem dX0_slotFor_8 : decode cX0_slotFor 8 = .ok (.iconst 0, 1) := by decide +kernel
theorem dX0_slotFor_9 : decode cX0_slotFor 9 = .ok (.istore 4, 2) := by decide +kernel
theorem dX0_slotFor_11 : decode cX0_slotFor 11 = .ok (.iload 4, 2) := by decide +kernel
theorem dX0_slotFor_13 : decode cX0_slotFor 13 = .ok (.iload_n 3, 1) := by decide +kernel
theorem dX0_slotFor_14 : decode cX0_slotFor 14 = .ok (.if_icmp .ge 27, 3) := by decide +kernel
theorem dX0_slotFor_17 : decode cX0_slotFor 17 = .ok (.aload_n 2, 1) := by decide +kernel
theorem dX0_slotFor_18 : decode cX0_slotFor 18 = .ok (.iload 4, 2) := by decide +kernel
theorem dX0_slotFor_20 : decode cX0_slotFor 20 = .ok (.aaload, 1) := by decide +kernel
theorem dX0_slotFor_21 : decode cX0_slotFor 21 = .ok (.astore 5, 2) := by decide +kernel
theorem dX0_slotFor_23 : decode cX0_slotFor 23 = .ok (.aload 5, 2) := by decide +kernel
theorem dX0_slotFor_25 : decode cX0_slotFor 25 = .ok (.getfield 18, 3) := by decide +kernel
theorem dX0_slotFor_28 : decode cX0_slotFor 28 = .ok (.aload_n 1, 1) := by decide +kernel
theorem dX0_slotFor_29 : decode cX0_slotFor 29 = .ok (.if_acmp .ne 6, 3) := by decide +kernel
theorem dX0_slotFor_32 : decode cX0_slotFor 32 = .ok (.aload 5, 2) := by decide +kernel
theorem dX0_slotFor_34 : decode cX0_slotFor 34 = .ok (.areturn, 1) := by decide +kernel
theorem dX0_slotFor_35 : decode cX0_slotFor 35 = .ok (.iinc 4 1, 3) := by decide +kernel
theorem dX0_slotFor_38 : decode cX0_slotFor 38 = .ok (.goto (-27), 3) := by decide +kernel
theorem dX0_slotFor_41 : decode cX0_slotFor 41 = .ok (.aload_n 0, 1) := by decide +kernel
theorem dX0_slotFor_42 : decode cX0_slotFor 42 = .ok (.getfield 11, 3) := by decide +kernel
theorem dX0_slotFor_45 : decode cX0_slotFor 45 = .ok (.astore_n 2, 1) := by decide +kernel
theorem dX0_slotFor_46 : decode cX0_slotFor 46 = .ok (.aload_n 2, 1) := by decide +kernel
theorem dX0_slotFor_47 : decode cX0_slotFor 47 = .ok (.arraylength, 1) := by decide +kernel
theorem dX0_slotFor_48 : decode cX0_slotFor 48 = .ok (.istore_n 3, 1) := by decide +kernel
theorem dX0_slotFor_49 : decode cX0_slotFor 49 = .ok (.iconst 0, 1) := by decide +kernel
theorem dX0_slotFor_50 : decode cX0_slotFor 50 = .ok (.istore 4, 2) := by decide +kernel
theorem dX0_slotFor_52 : decode cX0_slotFor 52 = .ok (.iload 4, 2) := by decide +kernel
theorem dX0_slotFor_54 : decode cX0_slotFor 54 = .ok (.iload_n 3, 1) := by decide +kernel
theorem dX0_slotFor_55 : decode cX0_slotFor 55 = .ok (.if_icmp .ge 34, 3) := by decide +kernel
theorem dX0_slotFor_58 : decode cX0_slotFor 58 = .ok (.aload_n 2, 1) := by decide +kernel
theorem dX0_slotFor_59 : decode cX0_slotFor 59 = .ok (.iload 4, 2) := by decide +kernel
theorem dX0_slotFor_61 : decode cX0_slotFor 61 = .ok (.aaload, 1) := by decide +kernel
theorem dX0_slotFor_62 : decode cX0_slotFor 62 = .ok (.astore 5, 2) := by decide +kernel
theorem dX0_slotFor_64 : decode cX0_slotFor 64 = .ok (.aload 5, 2) := by decide +kernel
theorem dX0_slotFor_66 : decode cX0_slotFor 66 = .ok (.getfield 18, 3) := by decide +kernel
theorem dX0_slotFor_69 : decode cX0_slotFor 69 = .ok (.ifnull 11, 3) := by decide +kernel
theorem dX0_slotFor_72 : decode cX0_slotFor 72 = .ok (.aload 5, 2) := by decide +kernel
theorem dX0_slotFor_74 : decode cX0_slotFor 74 = .ok (.invokevirtual 22, 3) := by decide +kernel
theorem dX0_slotFor_77 : decode cX0_slotFor 77 = .ok (.ifCond .eq 6, 3) := by decide +kernel
theorem dX0_slotFor_80 : decode cX0_slotFor 80 = .ok (.aload 5, 2) := by decide +kernel
theorem dX0_slotFor_82 : decode cX0_slotFor 82 = .ok (.areturn, 1) := by decide +kernel
theorem dX0_slotFor_83 : decode cX0_slotFor 83 = .ok (.iinc 4 1, 3) := by decide +kernel
theorem dX0_slotFor_86 : decode cX0_slotFor 86 = .ok (.goto (-34), 3) := by decide +kernel
theorem dX0_slotFor_89 : decode cX0_slotFor 89 = .ok (.aconst_null, 1) := by decide +kernel
theorem dX0_slotFor_90 : decode cX0_slotFor 90 = .ok (.areturn, 1) := by decide +kernel
set_option maxRecDepth 20000 in
theorem ggX0_markEnded_X3_isEnded : GoodIn wsX0_markEnded wsX3_isEnded := goodIn_r _ [5, 6, 8, 9, 10, 11, 12, 13, 14] (by decide +kernel) (by decide +kernel)
set_option maxRecDepth 20000 in
theorem gX0_markEnded_X3_isEnded_n22 : GoodIn wsX0_markEnded (wsX3_isEnded) := ggX0_markEnded_X3_isEnded
theorem dX0_markEnded_0 : decode cX0_markEnded 0 = .ok (.iconst 0, 1) := by decide +kernel
theorem dX0_markEnded_1 : decode cX0_markEnded 1 = .ok (.istore_n 1, 1) := by decide +kernel
theorem dX0_markEnded_2 : decode cX0_markEnded 2 = .ok (.aload_n 0, 1) := by decide +kernel
theorem dX0_markEnded_3 : decode cX0_markEnded 3 = .ok (.getfield 11, 3) := by decide +kernel
theorem dX0_markEnded_6 : decode cX0_markEnded 6 = .ok (.astore_n 2, 1) := by decide +kernel
theorem dX0_markEnded_7 : decode cX0_markEnded 7 = .ok (.aload_n 2, 1) := by decide +kernel
theorem dX0_markEnded_8 : decode cX0_markEnded 8 = .ok (.arraylength, 1) := by decide +kernel
theorem dX0_markEnded_9 : decode cX0_markEnded 9 = .ok (.istore_n 3, 1) := by decide +kernel
theorem dX0_markEnded_10 : decode cX0_markEnded 10 = .ok (.iconst 0, 1) := by decide +kernel
theorem dX0_markEnded_11 : decode cX0_markEnded 11 = .ok (.istore 4, 2) := by decide +kernel
theorem dX0_markEnded_13 : decode cX0_markEnded 13 = .ok (.iload 4, 2) := by decide +kernel
theorem dX0_markEnded_15 : decode cX0_markEnded 15 = .ok (.iload_n 3, 1) := by decide +kernel
theorem dX0_markEnded_16 : decode cX0_markEnded 16 = .ok (.if_icmp .ge 40, 3) := by decide +kernel
theorem dX0_markEnded_19 : decode cX0_markEnded 19 = .ok (.aload_n 2, 1) := by decide +kernel
theorem dX0_markEnded_20 : decode cX0_markEnded 20 = .ok (.iload 4, 2) := by decide +kernel
theorem dX0_markEnded_22 : decode cX0_markEnded 22 = .ok (.aaload, 1) := by decide +kernel
theorem dX0_markEnded_23 : decode cX0_markEnded 23 = .ok (.astore 5, 2) := by decide +kernel
theorem dX0_markEnded_25 : decode cX0_markEnded 25 = .ok (.aload 5, 2) := by decide +kernel
theorem dX0_markEnded_27 : decode cX0_markEnded 27 = .ok (.invokevirtual 22, 3) := by decide +kernel
theorem dX0_markEnded_30 : decode cX0_markEnded 30 = .ok (.ifCond .eq 20, 3) := by decide +kernel
theorem dX0_markEnded_33 : decode cX0_markEnded 33 = .ok (.aload 5, 2) := by decide +kernel
theorem dX0_markEnded_35 : decode cX0_markEnded 35 = .ok (.getfield 26, 3) := by decide +kernel
theorem dX0_markEnded_38 : decode cX0_markEnded 38 = .ok (.ifCond .ne 12, 3) := by decide +kernel
theorem dX0_markEnded_41 : decode cX0_markEnded 41 = .ok (.aload 5, 2) := by decide +kernel
theorem dX0_markEnded_43 : decode cX0_markEnded 43 = .ok (.iconst 1, 1) := by decide +kernel
theorem dX0_markEnded_44 : decode cX0_markEnded 44 = .ok (.putfield 26, 3) := by decide +kernel
theorem dX0_markEnded_47 : decode cX0_markEnded 47 = .ok (.iinc 1 1, 3) := by decide +kernel
theorem dX0_markEnded_50 : decode cX0_markEnded 50 = .ok (.iinc 4 1, 3) := by decide +kernel
theorem dX0_markEnded_53 : decode cX0_markEnded 53 = .ok (.goto (-40), 3) := by decide +kernel
theorem dX0_markEnded_56 : decode cX0_markEnded 56 = .ok (.iload_n 1, 1) := by decide +kernel
theorem dX0_markEnded_57 : decode cX0_markEnded 57 = .ok (.ireturn, 1) := by decide +kernel
theorem dX1_init_0 : decode cX1_init 0 = .ok (.aload_n 0, 1) := by decide +kernel
theorem dX1_init_1 : decode cX1_init 1 = .ok (.invokespecial 1, 3) := by decide +kernel
theorem dX1_init_4 : decode cX1_init 4 = .ok (.aload_n 0, 1) := by decide +kernel
theorem dX1_init_5 : decode cX1_init 5 = .ok (.iconst 0, 1) := by decide +kernel
theorem dX1_init_6 : decode cX1_init 6 = .ok (.putfield 7, 3) := by decide +kernel
theorem dX1_init_9 : decode cX1_init 9 = .ok (.aload_n 0, 1) := by decide +kernel
theorem dX1_init_10 : decode cX1_init 10 = .ok (.aload_n 1, 1) := by decide +kernel
theorem dX1_init_11 : decode cX1_init 11 = .ok (.putfield 13, 3) := by decide +kernel
theorem dX1_init_14 : decode cX1_init 14 = .ok (.aload_n 0, 1) := by decide +kernel
theorem dX1_init_15 : decode cX1_init 15 = .ok (.aload_n 2, 1) := by decide +kernel
theorem dX1_init_16 : decode cX1_init 16 = .ok (.putfield 17, 3) := by decide +kernel
theorem dX1_init_19 : decode cX1_init 19 = .ok (.aload_n 0, 1) := by decide +kernel
theorem dX1_init_20 : decode cX1_init 20 = .ok (.iload_n 3, 1) := by decide +kernel
theorem dX1_init_21 : decode cX1_init 21 = .ok (.putfield 21, 3) := by decide +kernel
theorem dX1_init_24 : decode cX1_init 24 = .ok (.return_, 1) := by decide +kernel
theorem dX1_stands_0 : decode cX1_stands 0 = .ok (.aload_n 0, 1) := by decide +kernel
theorem dX1_stands_1 : decode cX1_stands 1 = .ok (.getfield 17, 3) := by decide +kernel
theorem dX1_stands_4 : decode cX1_stands 4 = .ok (.aload_n 1, 1) := by decide +kernel
theorem dX1_stands_5 : decode cX1_stands 5 = .ok (.if_acmp .ne 14, 3) := by decide +kernel
theorem dX1_stands_8 : decode cX1_stands 8 = .ok (.aload_n 0, 1) := by decide +kernel
theorem dX1_stands_9 : decode cX1_stands 9 = .ok (.getfield 7, 3) := by decide +kernel
theorem dX1_stands_12 : decode cX1_stands 12 = .ok (.ifCond .ne 7, 3) := by decide +kernel
theorem dX1_stands_15 : decode cX1_stands 15 = .ok (.iconst 1, 1) := by decide +kernel
theorem dX1_stands_16 : decode cX1_stands 16 = .ok (.goto 4, 3) := by decide +kernel
theorem dX1_stands_19 : decode cX1_stands 19 = .ok (.iconst 0, 1) := by decide +kernel
theorem dX1_stands_20 : decode cX1_stands 20 = .ok (.ireturn, 1) := by decide +kernel
set_option maxRecDepth 20000 in
theorem ggX1_isSeen_X4_isCommittedBy : GoodIn wsX1_isSeen wsX4_isCommittedBy := goodIn_r _ [5, 6, 11, 12, 13, 14, 15] (by decide +kernel) (by decide +kernel)
set_option maxRecDepth 20000 in
theorem gX1_isSeen_X4_isCommittedBy_n25 : GoodIn wsX1_isSeen (wsX4_isCommittedBy) := ggX1_isSeen_X4_isCommittedBy
theorem dX1_isSeen_0 : decode cX1_isSeen 0 = .ok (.aload_n 0, 1) := by decide +kernel
theorem dX1_isSeen_1 : decode cX1_isSeen 1 = .ok (.getfield 13, 3) := by decide +kernel
theorem dX1_isSeen_4 : decode cX1_isSeen 4 = .ok (.aload_n 2, 1) := by decide +kernel
theorem dX1_isSeen_5 : decode cX1_isSeen 5 = .ok (.if_acmp .eq 14, 3) := by decide +kernel
theorem dX1_isSeen_8 : decode cX1_isSeen 8 = .ok (.aload_n 0, 1) := by decide +kernel
theorem dX1_isSeen_9 : decode cX1_isSeen 9 = .ok (.getfield 13, 3) := by decide +kernel
theorem dX1_isSeen_12 : decode cX1_isSeen 12 = .ok (.iload_n 1, 1) := by decide +kernel
theorem dX1_isSeen_13 : decode cX1_isSeen 13 = .ok (.invokevirtual 25, 3) := by decide +kernel
theorem dX1_isSeen_16 : decode cX1_isSeen 16 = .ok (.ifCond .eq 7, 3) := by decide +kernel
theorem dX1_isSeen_19 : decode cX1_isSeen 19 = .ok (.iconst 1, 1) := by decide +kernel
theorem dX1_isSeen_20 : decode cX1_isSeen 20 = .ok (.goto 4, 3) := by decide +kernel
theorem dX1_isSeen_23 : decode cX1_isSeen 23 = .ok (.iconst 0, 1) := by decide +kernel
theorem dX1_isSeen_24 : decode cX1_isSeen 24 = .ok (.ireturn, 1) := by decide +kernel
theorem dX1_make_0 : decode cX1_make 0 = .ok (.aload_n 0, 1) := by decide +kernel
theorem dX1_make_1 : decode cX1_make 1 = .ok (.getfield 17, 3) := by decide +kernel
theorem dX1_make_4 : decode cX1_make 4 = .ok (.iload_n 1, 1) := by decide +kernel
theorem dX1_make_5 : decode cX1_make 5 = .ok (.putfield 31, 3) := by decide +kernel
theorem dX1_make_8 : decode cX1_make 8 = .ok (.aload_n 0, 1) := by decide +kernel
theorem dX1_make_9 : decode cX1_make 9 = .ok (.getfield 13, 3) := by decide +kernel
theorem dX1_make_12 : decode cX1_make 12 = .ok (.dup, 1) := by decide +kernel
theorem dX1_make_13 : decode cX1_make 13 = .ok (.getfield 36, 3) := by decide +kernel
theorem dX1_make_16 : decode cX1_make 16 = .ok (.iconst 1, 1) := by decide +kernel
theorem dX1_make_17 : decode cX1_make 17 = .ok (.iadd, 1) := by decide +kernel
theorem dX1_make_18 : decode cX1_make 18 = .ok (.putfield 36, 3) := by decide +kernel
theorem dX1_make_21 : decode cX1_make 21 = .ok (.return_, 1) := by decide +kernel
theorem dX1_takeBack_0 : decode cX1_takeBack 0 = .ok (.aload_n 0, 1) := by decide +kernel
theorem dX1_takeBack_1 : decode cX1_takeBack 1 = .ok (.getfield 17, 3) := by decide +kernel
theorem dX1_takeBack_4 : decode cX1_takeBack 4 = .ok (.aload_n 0, 1) := by decide +kernel
theorem dX1_takeBack_5 : decode cX1_takeBack 5 = .ok (.getfield 21, 3) := by decide +kernel
theorem dX1_takeBack_8 : decode cX1_takeBack 8 = .ok (.putfield 31, 3) := by decide +kernel
theorem dX1_takeBack_11 : decode cX1_takeBack 11 = .ok (.aload_n 0, 1) := by decide +kernel
theorem dX1_takeBack_12 : decode cX1_takeBack 12 = .ok (.iconst 1, 1) := by decide +kernel
theorem dX1_takeBack_13 : decode cX1_takeBack 13 = .ok (.putfield 7, 3) := by decide +kernel
theorem dX1_takeBack_16 : decode cX1_takeBack 16 = .ok (.aload_n 0, 1) := by decide +kernel
theorem dX1_takeBack_17 : decode cX1_takeBack 17 = .ok (.getfield 13, 3) := by decide +kernel
theorem dX1_takeBack_20 : decode cX1_takeBack 20 = .ok (.dup, 1) := by decide +kernel
theorem dX1_takeBack_21 : decode cX1_takeBack 21 = .ok (.getfield 36, 3) := by decide +kernel
theorem dX1_takeBack_24 : decode cX1_takeBack 24 = .ok (.iconst 1, 1) := by decide +kernel
theorem dX1_takeBack_25 : decode cX1_takeBack 25 = .ok (.isub, 1) := by decide +kernel
theorem dX1_takeBack_26 : decode cX1_takeBack 26 = .ok (.putfield 36, 3) := by decide +kernel
theorem dX1_takeBack_29 : decode cX1_takeBack 29 = .ok (.return_, 1) := by decide +kernel
theorem dX2_init_0 : decode cX2_init 0 = .ok (.aload_n 0, 1) := by decide +kernel
theorem dX2_init_1 : decode cX2_init 1 = .ok (.invokespecial 1, 3) := by decide +kernel
theorem dX2_init_4 : decode cX2_init 4 = .ok (.aload_n 0, 1) := by decide +kernel
theorem dX2_init_5 : decode cX2_init 5 = .ok (.iconst 0, 1) := by decide +kernel
theorem dX2_init_6 : decode cX2_init 6 = .ok (.putfield 7, 3) := by decide +kernel
theorem dX2_init_9 : decode cX2_init 9 = .ok (.aload_n 0, 1) := by decide +kernel
theorem dX2_init_10 : decode cX2_init 10 = .ok (.aload_n 1, 1) := by decide +kernel
theorem dX2_init_11 : decode cX2_init 11 = .ok (.putfield 13, 3) := by decide +kernel
theorem dX2_init_14 : decode cX2_init 14 = .ok (.return_, 1) := by decide +kernel
theorem dX3_init_0 : decode cX3_init 0 = .ok (.aload_n 0, 1) := by decide +kernel
theorem dX3_init_1 : decode cX3_init 1 = .ok (.invokespecial 1, 3) := by decide +kernel
theorem dX3_init_4 : decode cX3_init 4 = .ok (.aload_n 0, 1) := by decide +kernel
theorem dX3_init_5 : decode cX3_init 5 = .ok (.aconst_null, 1) := by decide +kernel
theorem dX3_init_6 : decode cX3_init 6 = .ok (.putfield 7, 3) := by decide +kernel
theorem dX3_init_9 : decode cX3_init 9 = .ok (.aload_n 0, 1) := by decide +kernel
theorem dX3_init_10 : decode cX3_init 10 = .ok (.iconst 0, 1) := by decide +kernel
theorem dX3_init_11 : decode cX3_init 11 = .ok (.putfield 13, 3) := by decide +kernel
theorem dX3_init_14 : decode cX3_init 14 = .ok (.return_, 1) := by decide +kernel
theorem dX3_isEnded_0 : decode cX3_isEnded 0 = .ok (.aload_n 0, 1) := by decide +kernel
theorem dX3_isEnded_1 : decode cX3_isEnded 1 = .ok (.getfield 7, 3) := by decide +kernel
theorem dX3_isEnded_4 : decode cX3_isEnded 4 = .ok (.ifnull 17, 3) := by decide +kernel
theorem dX3_isEnded_7 : decode cX3_isEnded 7 = .ok (.aload_n 0, 1) := by decide +kernel
theorem dX3_isEnded_8 : decode cX3_isEnded 8 = .ok (.getfield 7, 3) := by decide +kernel
theorem dX3_isEnded_11 : decode cX3_isEnded 11 = .ok (.getfield 17, 3) := by decide +kernel
theorem dX3_isEnded_14 : decode cX3_isEnded 14 = .ok (.ifCond .ne 7, 3) := by decide +kernel
theorem dX3_isEnded_17 : decode cX3_isEnded 17 = .ok (.iconst 1, 1) := by decide +kernel
theorem dX3_isEnded_18 : decode cX3_isEnded 18 = .ok (.goto 4, 3) := by decide +kernel
theorem dX3_isEnded_21 : decode cX3_isEnded 21 = .ok (.iconst 0, 1) := by decide +kernel
theorem dX3_isEnded_22 : decode cX3_isEnded 22 = .ok (.ireturn, 1) := by decide +kernel
theorem dX3_give_0 : decode cX3_give 0 = .ok (.aload_n 0, 1) := by decide +kernel
theorem dX3_give_1 : decode cX3_give 1 = .ok (.aload_n 1, 1) := by decide +kernel
theorem dX3_give_2 : decode cX3_give 2 = .ok (.putfield 7, 3) := by decide +kernel
theorem dX3_give_5 : decode cX3_give 5 = .ok (.aload_n 0, 1) := by decide +kernel
theorem dX3_give_6 : decode cX3_give 6 = .ok (.iconst 0, 1) := by decide +kernel
theorem dX3_give_7 : decode cX3_give 7 = .ok (.putfield 13, 3) := by decide +kernel
theorem dX3_give_10 : decode cX3_give 10 = .ok (.return_, 1) := by decide +kernel
theorem dX4_init_0 : decode cX4_init 0 = .ok (.aload_n 0, 1) := by decide +kernel
theorem dX4_init_1 : decode cX4_init 1 = .ok (.invokespecial 3, 3) := by decide +kernel
theorem dX4_init_4 : decode cX4_init 4 = .ok (.aload_n 0, 1) := by decide +kernel
theorem dX4_init_5 : decode cX4_init 5 = .ok (.iconst 1, 1) := by decide +kernel
theorem dX4_init_6 : decode cX4_init 6 = .ok (.putfield 9, 3) := by decide +kernel
theorem dX4_init_9 : decode cX4_init 9 = .ok (.aload_n 0, 1) := by decide +kernel
theorem dX4_init_10 : decode cX4_init 10 = .ok (.iconst (-1), 1) := by decide +kernel
theorem dX4_init_11 : decode cX4_init 11 = .ok (.putfield 15, 3) := by decide +kernel
theorem dX4_init_14 : decode cX4_init 14 = .ok (.aload_n 0, 1) := by decide +kernel
theorem dX4_init_15 : decode cX4_init 15 = .ok (.iconst 0, 1) := by decide +kernel
theorem dX4_init_16 : decode cX4_init 16 = .ok (.putfield 19, 3) := by decide +kernel
theorem dX4_init_19 : decode cX4_init 19 = .ok (.aload_n 0, 1) := by decide +kernel
theorem dX4_init_20 : decode cX4_init 20 = .ok (.iload_n 1, 1) := by decide +kernel
theorem dX4_init_21 : decode cX4_init 21 = .ok (.putfield 22, 3) := by decide +kernel
theorem dX4_init_24 : decode cX4_init 24 = .ok (.aload_n 0, 1) := by decide +kernel
theorem dX4_init_25 : decode cX4_init 25 = .ok (.iload_n 2, 1) := by decide +kernel
theorem dX4_init_26 : decode cX4_init 26 = .ok (.putfield 25, 3) := by decide +kernel
theorem dX4_init_29 : decode cX4_init 29 = .ok (.return_, 1) := by decide +kernel
theorem dX4_isCommittedBy_0 : decode cX4_isCommittedBy 0 = .ok (.aload_n 0, 1) := by decide +kernel
theorem dX4_isCommittedBy_1 : decode cX4_isCommittedBy 1 = .ok (.getfield 15, 3) := by decide +kernel
theorem dX4_isCommittedBy_4 : decode cX4_isCommittedBy 4 = .ok (.iconst (-1), 1) := by decide +kernel
theorem dX4_isCommittedBy_5 : decode cX4_isCommittedBy 5 = .ok (.if_icmp .eq 15, 3) := by decide +kernel
theorem dX4_isCommittedBy_8 : decode cX4_isCommittedBy 8 = .ok (.aload_n 0, 1) := by decide +kernel
theorem dX4_isCommittedBy_9 : decode cX4_isCommittedBy 9 = .ok (.getfield 15, 3) := by decide +kernel
theorem dX4_isCommittedBy_12 : decode cX4_isCommittedBy 12 = .ok (.iload_n 1, 1) := by decide +kernel
theorem dX4_isCommittedBy_13 : decode cX4_isCommittedBy 13 = .ok (.if_icmp .gt 7, 3) := by decide +kernel
theorem dX4_isCommittedBy_16 : decode cX4_isCommittedBy 16 = .ok (.iconst 1, 1) := by decide +kernel
theorem dX4_isCommittedBy_17 : decode cX4_isCommittedBy 17 = .ok (.goto 4, 3) := by decide +kernel
theorem dX4_isCommittedBy_20 : decode cX4_isCommittedBy 20 = .ok (.iconst 0, 1) := by decide +kernel
theorem dX4_isCommittedBy_21 : decode cX4_isCommittedBy 21 = .ok (.ireturn, 1) := by decide +kernel
end
section
/-! printed decode rows and words -/
theorem dJ9_max_7cf53_0 : decode cJ9_max_7cf53 0 = .ok (.iload_n 0, 1) := by decide +kernel
theorem dJ9_max_7cf53_1 : decode cJ9_max_7cf53 1 = .ok (.iload_n 1, 1) := by decide +kernel
theorem dJ9_max_7cf53_2 : decode cJ9_max_7cf53 2 = .ok (.if_icmp .lt 7, 3) := by decide +kernel
theorem dJ9_max_7cf53_5 : decode cJ9_max_7cf53 5 = .ok (.iload_n 0, 1) := by decide +kernel
theorem dJ9_max_7cf53_6 : decode cJ9_max_7cf53 6 = .ok (.goto 4, 3) := by decide +kernel
theorem dJ9_max_7cf53_9 : decode cJ9_max_7cf53 9 = .ok (.iload_n 1, 1) := by decide +kernel
theorem dJ9_max_7cf53_10 : decode cJ9_max_7cf53 10 = .ok (.ireturn, 1) := by decide +kernel
theorem dJ9_min_7cf53_0 : decode cJ9_min_7cf53 0 = .ok (.iload_n 0, 1) := by decide +kernel
theorem dJ9_min_7cf53_1 : decode cJ9_min_7cf53 1 = .ok (.iload_n 1, 1) := by decide +kernel
theorem dJ9_min_7cf53_2 : decode cJ9_min_7cf53 2 = .ok (.if_icmp .gt 7, 3) := by decide +kernel
theorem dJ9_min_7cf53_5 : decode cJ9_min_7cf53 5 = .ok (.iload_n 0, 1) := by decide +kernel
theorem dJ9_min_7cf53_6 : decode cJ9_min_7cf53 6 = .ok (.goto 4, 3) := by decide +kernel
theorem dJ9_min_7cf53_9 : decode cJ9_min_7cf53 9 = .ok (.iload_n 1, 1) := by decide +kernel
theorem dJ9_min_7cf53_10 : decode cJ9_min_7cf53 10 = .ok (.ireturn, 1) := by decide +kernel
theorem dJxa1e45_init_da8c8_0 : decode cJxa1e45_init_da8c8 0 = .ok (.aload_n 0, 1) := by decide +kernel
theorem dJxa1e45_init_da8c8_1 : decode cJxa1e45_init_da8c8 1 = .ok (.invokespecial 1, 3) := by decide +kernel
theorem dJxa1e45_init_da8c8_4 : decode cJxa1e45_init_da8c8 4 = .ok (.return_, 1) := by decide +kernel
set_option maxRecDepth 20000 in
theorem ggJxc12de_init_da8c8_Jxa1e45_init_da8c8 : GoodIn wsJxc12de_init_da8c8 wsJxa1e45_init_da8c8 := goodIn_r _ [5, 6, 7, 8] (by decide +kernel) (by decide +kernel)
set_option maxRecDepth 20000 in
theorem gJxc12de_init_da8c8_Jxa1e45_init_da8c8 : GoodIn wsJxc12de_init_da8c8 (wsJxa1e45_init_da8c8) := ggJxc12de_init_da8c8_Jxa1e45_init_da8c8
theorem dJxc12de_init_da8c8_0 : decode cJxc12de_init_da8c8 0 = .ok (.aload_n 0, 1) := by decide +kernel
theorem dJxc12de_init_da8c8_1 : decode cJxc12de_init_da8c8 1 = .ok (.invokespecial 1, 3) := by decide +kernel
theorem dJxc12de_init_da8c8_4 : decode cJxc12de_init_da8c8 4 = .ok (.aload_n 0, 1) := by decide +kernel
theorem dJxc12de_init_da8c8_5 : decode cJxc12de_init_da8c8 5 = .ok (.iconst 0, 1) := by decide +kernel
theorem dJxc12de_init_da8c8_6 : decode cJxc12de_init_da8c8 6 = .ok (.putfield 7, 3) := by decide +kernel
theorem dJxc12de_init_da8c8_9 : decode cJxc12de_init_da8c8 9 = .ok (.return_, 1) := by decide +kernel
set_option maxRecDepth 20000 in
theorem ggJx4a65c_init_da8c8_Jxc12de_init_da8c8 : GoodIn wsJx4a65c_init_da8c8 wsJxc12de_init_da8c8 := goodIn_r _ [6, 7, 8, 9, 10, 11, 12, 13, 14, 15, 16, 17] (by decide +kernel) (by decide +kernel)
set_option maxRecDepth 20000 in
theorem gJx4a65c_init_da8c8_Jxc12de_init_da8c8 : GoodIn wsJx4a65c_init_da8c8 (wsJxc12de_init_da8c8) := ggJx4a65c_init_da8c8_Jxc12de_init_da8c8
theorem dJx4a65c_init_da8c8_0 : decode cJx4a65c_init_da8c8 0 = .ok (.aload_n 0, 1) := by decide +kernel
theorem dJx4a65c_init_da8c8_1 : decode cJx4a65c_init_da8c8 1 = .ok (.invokespecial 1, 3) := by decide +kernel
theorem dJx4a65c_init_da8c8_4 : decode cJx4a65c_init_da8c8 4 = .ok (.aload_n 0, 1) := by decide +kernel
theorem dJx4a65c_init_da8c8_5 : decode cJx4a65c_init_da8c8 5 = .ok (.getstatic 39, 3) := by decide +kernel
theorem dJx4a65c_init_da8c8_8 : decode cJx4a65c_init_da8c8 8 = .ok (.putfield 9, 3) := by decide +kernel
theorem dJx4a65c_init_da8c8_11 : decode cJx4a65c_init_da8c8 11 = .ok (.return_, 1) := by decide +kernel
set_option maxRecDepth 20000 in
theorem ggJx4a65c_grow_92f84_J8_newLength_cabcc : GoodIn wsJx4a65c_grow_92f84 wsJ8_newLength_cabcc := goodIn_r _ [11, 12, 4, 5, 6, 13, 14, 15, 10, 16] (by decide +kernel) (by decide +kernel)
set_option maxRecDepth 20000 in
theorem gJx4a65c_grow_92f84_J8_newLength_cabcc : GoodIn wsJx4a65c_grow_92f84 (va_wsS RJx4a65c 73 yJ8_newLength_cabcc wsJ8_newLength_cabcc) := goodIn_app (goodIn_of _ (by decide +kernel)) ggJx4a65c_grow_92f84_J8_newLength_cabcc
set_option maxRecDepth 20000 in
theorem ggJx4a65c_grow_92f84_J7_copyOf_1904c : GoodIn wsJx4a65c_grow_92f84 wsJ7_copyOf_1904c := goodIn_r _ [20, 21, 22, 23, 24, 25, 26, 19, 27, 28, 29, 30, 31, 5, 32, 33, 34, 35, 36] (by decide +kernel) (by decide +kernel)
set_option maxRecDepth 20000 in
theorem gJx4a65c_grow_92f84_J7_copyOf_1904c : GoodIn wsJx4a65c_grow_92f84 (va_wsS RJx4a65c 66 yJ7_copyOf_1904c wsJ7_copyOf_1904c) := goodIn_app (goodIn_of _ (by decide +kernel)) ggJx4a65c_grow_92f84_J7_copyOf_1904c
theorem dJx4a65c_grow_92f84_0 : decode cJx4a65c_grow_92f84 0 = .ok (.aload_n 0, 1) := by decide +kernel
theorem dJx4a65c_grow_92f84_1 : decode cJx4a65c_grow_92f84 1 = .ok (.getfield 9, 3) := by decide +kernel
theorem dJx4a65c_grow_92f84_4 : decode cJx4a65c_grow_92f84 4 = .ok (.arraylength, 1) := by decide +kernel
theorem dJx4a65c_grow_92f84_5 : decode cJx4a65c_grow_92f84 5 = .ok (.istore_n 2, 1) := by decide +kernel
theorem dJx4a65c_grow_92f84_6 : decode cJx4a65c_grow_92f84 6 = .ok (.iload_n 2, 1) := by decide +kernel
theorem dJx4a65c_grow_92f84_7 : decode cJx4a65c_grow_92f84 7 = .ok (.ifCond .gt 13, 3) := by decide +kernel
theorem dJx4a65c_grow_92f84_10 : decode cJx4a65c_grow_92f84 10 = .ok (.aload_n 0, 1) := by decide +kernel
theorem dJx4a65c_grow_92f84_11 : decode cJx4a65c_grow_92f84 11 = .ok (.getfield 9, 3) := by decide +kernel
theorem dJx4a65c_grow_92f84_14 : decode cJx4a65c_grow_92f84 14 = .ok (.getstatic 39, 3) := by decide +kernel
theorem dJx4a65c_grow_92f84_17 : decode cJx4a65c_grow_92f84 17 = .ok (.if_acmp .eq 28, 3) := by decide +kernel
theorem dJx4a65c_grow_92f84_20 : decode cJx4a65c_grow_92f84 20 = .ok (.iload_n 2, 1) := by decide +kernel
theorem dJx4a65c_grow_92f84_21 : decode cJx4a65c_grow_92f84 21 = .ok (.iload_n 1, 1) := by decide +kernel
theorem dJx4a65c_grow_92f84_22 : decode cJx4a65c_grow_92f84 22 = .ok (.iload_n 2, 1) := by decide +kernel
theorem dJx4a65c_grow_92f84_23 : decode cJx4a65c_grow_92f84 23 = .ok (.isub, 1) := by decide +kernel
theorem dJx4a65c_grow_92f84_24 : decode cJx4a65c_grow_92f84 24 = .ok (.iload_n 2, 1) := by decide +kernel
theorem dJx4a65c_grow_92f84_25 : decode cJx4a65c_grow_92f84 25 = .ok (.iconst 1, 1) := by decide +kernel
theorem dJx4a65c_grow_92f84_26 : decode cJx4a65c_grow_92f84 26 = .ok (.ishr, 1) := by decide +kernel
theorem dJx4a65c_grow_92f84_27 : decode cJx4a65c_grow_92f84 27 = .ok (.invokestatic 73, 3) := by decide +kernel
theorem dJx4a65c_grow_92f84_30 : decode cJx4a65c_grow_92f84 30 = .ok (.istore_n 3, 1) := by decide +kernel
theorem dJx4a65c_grow_92f84_31 : decode cJx4a65c_grow_92f84 31 = .ok (.aload_n 0, 1) := by decide +kernel
theorem dJx4a65c_grow_92f84_32 : decode cJx4a65c_grow_92f84 32 = .ok (.aload_n 0, 1) := by decide +kernel
theorem dJx4a65c_grow_92f84_33 : decode cJx4a65c_grow_92f84 33 = .ok (.getfield 9, 3) := by decide +kernel
theorem dJx4a65c_grow_92f84_36 : decode cJx4a65c_grow_92f84 36 = .ok (.iload_n 3, 1) := by decide +kernel
theorem dJx4a65c_grow_92f84_37 : decode cJx4a65c_grow_92f84 37 = .ok (.invokestatic 66, 3) := by decide +kernel
theorem dJx4a65c_grow_92f84_40 : decode cJx4a65c_grow_92f84 40 = .ok (.dup_x1, 1) := by decide +kernel
theorem dJx4a65c_grow_92f84_41 : decode cJx4a65c_grow_92f84 41 = .ok (.putfield 9, 3) := by decide +kernel
theorem dJx4a65c_grow_92f84_44 : decode cJx4a65c_grow_92f84 44 = .ok (.areturn, 1) := by decide +kernel
theorem dJx4a65c_grow_92f84_45 : decode cJx4a65c_grow_92f84 45 = .ok (.aload_n 0, 1) := by decide +kernel
theorem dJx4a65c_grow_92f84_46 : decode cJx4a65c_grow_92f84 46 = .ok (.bipush 10, 2) := by decide +kernel
theorem dJx4a65c_grow_92f84_48 : decode cJx4a65c_grow_92f84 48 = .ok (.iload_n 1, 1) := by decide +kernel
theorem dJx4a65c_grow_92f84_49 : decode cJx4a65c_grow_92f84 49 = .ok (.invokestatic 79, 3) := by decide +kernel
theorem dJx4a65c_grow_92f84_52 : decode cJx4a65c_grow_92f84 52 = .ok (.anewarray 7, 3) := by decide +kernel
theorem dJx4a65c_grow_92f84_55 : decode cJx4a65c_grow_92f84 55 = .ok (.dup_x1, 1) := by decide +kernel
theorem dJx4a65c_grow_92f84_56 : decode cJx4a65c_grow_92f84 56 = .ok (.putfield 9, 3) := by decide +kernel
theorem dJx4a65c_grow_92f84_59 : decode cJx4a65c_grow_92f84 59 = .ok (.areturn, 1) := by decide +kernel
set_option maxRecDepth 20000 in
theorem ggJx4a65c_grow_d5877_Jx4a65c_grow_92f84 : GoodIn wsJx4a65c_grow_d5877 wsJx4a65c_grow_92f84 := goodIn_r _ [6, 7, 8, 9, 10, 11, 12, 13, 14, 15, 16, 17, 18, 19, 20, 21, 22, 23, 24, 25, 26, 27, 28, 29, 30, 31, 32, 33, 34, 35, 36, 37, 38, 39, 40, 41, 42, 43, 44, 45] (by decide +kernel) (by decide +kernel)
set_option maxRecDepth 20000 in
theorem gJx4a65c_grow_d5877_Jx4a65c_grow_92f84 : GoodIn wsJx4a65c_grow_d5877 (wsV RJx4a65c 69 RJx4a65c yJx4a65c_grow_92f84 wsJx4a65c_grow_92f84) := goodIn_app (goodIn_of _ (by decide +kernel)) ggJx4a65c_grow_d5877_Jx4a65c_grow_92f84
theorem dJx4a65c_grow_d5877_0 : decode cJx4a65c_grow_d5877 0 = .ok (.aload_n 0, 1) := by decide +kernel
theorem dJx4a65c_grow_d5877_1 : decode cJx4a65c_grow_d5877 1 = .ok (.aload_n 0, 1) := by decide +kernel
theorem dJx4a65c_grow_d5877_2 : decode cJx4a65c_grow_d5877 2 = .ok (.getfield 48, 3) := by decide +kernel
theorem dJx4a65c_grow_d5877_5 : decode cJx4a65c_grow_d5877 5 = .ok (.iconst 1, 1) := by decide +kernel
theorem dJx4a65c_grow_d5877_6 : decode cJx4a65c_grow_d5877 6 = .ok (.iadd, 1) := by decide +kernel
theorem dJx4a65c_grow_d5877_7 : decode cJx4a65c_grow_d5877 7 = .ok (.invokevirtual 69, 3) := by decide +kernel
theorem dJx4a65c_grow_d5877_10 : decode cJx4a65c_grow_d5877 10 = .ok (.areturn, 1) := by decide +kernel
theorem dJx4a65c_size_8abf5_0 : decode cJx4a65c_size_8abf5 0 = .ok (.aload_n 0, 1) := by decide +kernel
theorem dJx4a65c_size_8abf5_1 : decode cJx4a65c_size_8abf5 1 = .ok (.getfield 48, 3) := by decide +kernel
theorem dJx4a65c_size_8abf5_4 : decode cJx4a65c_size_8abf5 4 = .ok (.ireturn, 1) := by decide +kernel
theorem dJx4a65c_elementData_915e3_0 : decode cJx4a65c_elementData_915e3 0 = .ok (.aload_n 0, 1) := by decide +kernel
theorem dJx4a65c_elementData_915e3_1 : decode cJx4a65c_elementData_915e3 1 = .ok (.getfield 9, 3) := by decide +kernel
theorem dJx4a65c_elementData_915e3_4 : decode cJx4a65c_elementData_915e3 4 = .ok (.iload_n 1, 1) := by decide +kernel
theorem dJx4a65c_elementData_915e3_5 : decode cJx4a65c_elementData_915e3 5 = .ok (.aaload, 1) := by decide +kernel
theorem dJx4a65c_elementData_915e3_6 : decode cJx4a65c_elementData_915e3 6 = .ok (.areturn, 1) := by decide +kernel
set_option maxRecDepth 20000 in
theorem ggJx4a65c_get_915e3_J15_checkIndex_7cf53 : GoodIn wsJx4a65c_get_915e3 wsJ15_checkIndex_7cf53 := goodIn_r _ [5, 6, 7, 8, 9] (by decide +kernel) (by decide +kernel)
set_option maxRecDepth 20000 in
theorem gJx4a65c_get_915e3_J15_checkIndex_7cf53 : GoodIn wsJx4a65c_get_915e3 (va_wsS RJx4a65c 118 yJ15_checkIndex_7cf53 wsJ15_checkIndex_7cf53) := goodIn_app (goodIn_of _ (by decide +kernel)) ggJx4a65c_get_915e3_J15_checkIndex_7cf53
set_option maxRecDepth 20000 in
theorem ggJx4a65c_get_915e3_Jx4a65c_elementData_915e3 : GoodIn wsJx4a65c_get_915e3 wsJx4a65c_elementData_915e3 := goodIn_r _ [14, 15, 16, 17, 18] (by decide +kernel) (by decide +kernel)
set_option maxRecDepth 20000 in
theorem gJx4a65c_get_915e3_Jx4a65c_elementData_915e3 : GoodIn wsJx4a65c_get_915e3 (wsV RJx4a65c 123 RJx4a65c yJx4a65c_elementData_915e3 wsJx4a65c_elementData_915e3) := goodIn_app (goodIn_of _ (by decide +kernel)) ggJx4a65c_get_915e3_Jx4a65c_elementData_915e3
theorem dJx4a65c_get_915e3_0 : decode cJx4a65c_get_915e3 0 = .ok (.iload_n 1, 1) := by decide +kernel
theorem dJx4a65c_get_915e3_1 : decode cJx4a65c_get_915e3 1 = .ok (.aload_n 0, 1) := by decide +kernel
theorem dJx4a65c_get_915e3_2 : decode cJx4a65c_get_915e3 2 = .ok (.getfield 48, 3) := by decide +kernel
theorem dJx4a65c_get_915e3_5 : decode cJx4a65c_get_915e3 5 = .ok (.invokestatic 118, 3) := by decide +kernel
theorem dJx4a65c_get_915e3_8 : decode cJx4a65c_get_915e3 8 = .ok (.pop, 1) := by decide +kernel
theorem dJx4a65c_get_915e3_9 : decode cJx4a65c_get_915e3 9 = .ok (.aload_n 0, 1) := by decide +kernel
theorem dJx4a65c_get_915e3_10 : decode cJx4a65c_get_915e3 10 = .ok (.iload_n 1, 1) := by decide +kernel
theorem dJx4a65c_get_915e3_11 : decode cJx4a65c_get_915e3 11 = .ok (.invokevirtual 123, 3) := by decide +kernel
theorem dJx4a65c_get_915e3_14 : decode cJx4a65c_get_915e3 14 = .ok (.areturn, 1) := by decide +kernel
set_option maxRecDepth 20000 in
theorem ggJx4a65c_add_72be8_Jx4a65c_grow_d5877 : GoodIn wsJx4a65c_add_72be8 wsJx4a65c_grow_d5877 := goodIn_r _ [6, 1, 7, 8, 9, 5, 10, 11, 12, 13, 14, 15, 16, 17, 18, 19, 20, 21, 22, 23, 24, 25, 26, 27, 28, 29, 30, 31, 32, 33, 34, 35, 36, 37, 38, 39, 40, 41, 42, 43, 44, 45, 46, 47, 48, 49] (by decide +kernel) (by decide +kernel)
set_option maxRecDepth 20000 in
theorem gJx4a65c_add_72be8_Jx4a65c_grow_d5877 : GoodIn wsJx4a65c_add_72be8 (wsV RJx4a65c 129 RJx4a65c yJx4a65c_grow_d5877 wsJx4a65c_grow_d5877) := goodIn_app (goodIn_of _ (by decide +kernel)) ggJx4a65c_add_72be8_Jx4a65c_grow_d5877
theorem dJx4a65c_add_72be8_0 : decode cJx4a65c_add_72be8 0 = .ok (.iload_n 3, 1) := by decide +kernel
theorem dJx4a65c_add_72be8_1 : decode cJx4a65c_add_72be8 1 = .ok (.aload_n 2, 1) := by decide +kernel
theorem dJx4a65c_add_72be8_2 : decode cJx4a65c_add_72be8 2 = .ok (.arraylength, 1) := by decide +kernel
theorem dJx4a65c_add_72be8_3 : decode cJx4a65c_add_72be8 3 = .ok (.if_icmp .ne 8, 3) := by decide +kernel
theorem dJx4a65c_add_72be8_6 : decode cJx4a65c_add_72be8 6 = .ok (.aload_n 0, 1) := by decide +kernel
theorem dJx4a65c_add_72be8_7 : decode cJx4a65c_add_72be8 7 = .ok (.invokevirtual 129, 3) := by decide +kernel
theorem dJx4a65c_add_72be8_10 : decode cJx4a65c_add_72be8 10 = .ok (.astore_n 2, 1) := by decide +kernel
theorem dJx4a65c_add_72be8_11 : decode cJx4a65c_add_72be8 11 = .ok (.aload_n 2, 1) := by decide +kernel
theorem dJx4a65c_add_72be8_12 : decode cJx4a65c_add_72be8 12 = .ok (.iload_n 3, 1) := by decide +kernel
theorem dJx4a65c_add_72be8_13 : decode cJx4a65c_add_72be8 13 = .ok (.aload_n 1, 1) := by decide +kernel
theorem dJx4a65c_add_72be8_14 : decode cJx4a65c_add_72be8 14 = .ok (.aastore, 1) := by decide +kernel
theorem dJx4a65c_add_72be8_15 : decode cJx4a65c_add_72be8 15 = .ok (.aload_n 0, 1) := by decide +kernel
theorem dJx4a65c_add_72be8_16 : decode cJx4a65c_add_72be8 16 = .ok (.iload_n 3, 1) := by decide +kernel
theorem dJx4a65c_add_72be8_17 : decode cJx4a65c_add_72be8 17 = .ok (.iconst 1, 1) := by decide +kernel
theorem dJx4a65c_add_72be8_18 : decode cJx4a65c_add_72be8 18 = .ok (.iadd, 1) := by decide +kernel
theorem dJx4a65c_add_72be8_19 : decode cJx4a65c_add_72be8 19 = .ok (.putfield 48, 3) := by decide +kernel
theorem dJx4a65c_add_72be8_22 : decode cJx4a65c_add_72be8 22 = .ok (.return_, 1) := by decide +kernel
set_option maxRecDepth 20000 in
theorem ggJx4a65c_add_9ea2d_Jx4a65c_add_72be8 : GoodIn wsJx4a65c_add_9ea2d wsJx4a65c_add_72be8 := goodIn_r _ [9, 4, 10, 11, 12, 8, 13, 14, 15, 16, 17, 3, 18, 19, 20, 21, 22, 23, 24, 25, 26, 27, 28, 29, 30, 31, 32, 33, 34, 35, 36, 37, 38, 39, 40, 41, 42, 43, 44, 45, 46, 47, 48, 49, 50, 51, 52, 53, 54, 55] (by decide +kernel) (by decide +kernel)
set_option maxRecDepth 20000 in
theorem gJx4a65c_add_9ea2d_Jx4a65c_add_72be8 : GoodIn wsJx4a65c_add_9ea2d (wsV RJx4a65c 131 RJx4a65c yJx4a65c_add_72be8 wsJx4a65c_add_72be8) := goodIn_app (goodIn_of _ (by decide +kernel)) ggJx4a65c_add_9ea2d_Jx4a65c_add_72be8
theorem dJx4a65c_add_9ea2d_0 : decode cJx4a65c_add_9ea2d 0 = .ok (.aload_n 0, 1) := by decide +kernel
theorem dJx4a65c_add_9ea2d_1 : decode cJx4a65c_add_9ea2d 1 = .ok (.dup, 1) := by decide +kernel
theorem dJx4a65c_add_9ea2d_2 : decode cJx4a65c_add_9ea2d 2 = .ok (.getfield 63, 3) := by decide +kernel
theorem dJx4a65c_add_9ea2d_5 : decode cJx4a65c_add_9ea2d 5 = .ok (.iconst 1, 1) := by decide +kernel
theorem dJx4a65c_add_9ea2d_6 : decode cJx4a65c_add_9ea2d 6 = .ok (.iadd, 1) := by decide +kernel
theorem dJx4a65c_add_9ea2d_7 : decode cJx4a65c_add_9ea2d 7 = .ok (.putfield 63, 3) := by decide +kernel
theorem dJx4a65c_add_9ea2d_10 : decode cJx4a65c_add_9ea2d 10 = .ok (.aload_n 0, 1) := by decide +kernel
theorem dJx4a65c_add_9ea2d_11 : decode cJx4a65c_add_9ea2d 11 = .ok (.aload_n 1, 1) := by decide +kernel
theorem dJx4a65c_add_9ea2d_12 : decode cJx4a65c_add_9ea2d 12 = .ok (.aload_n 0, 1) := by decide +kernel
theorem dJx4a65c_add_9ea2d_13 : decode cJx4a65c_add_9ea2d 13 = .ok (.getfield 9, 3) := by decide +kernel
theorem dJx4a65c_add_9ea2d_16 : decode cJx4a65c_add_9ea2d 16 = .ok (.aload_n 0, 1) := by decide +kernel
theorem dJx4a65c_add_9ea2d_17 : decode cJx4a65c_add_9ea2d 17 = .ok (.getfield 48, 3) := by decide +kernel
theorem dJx4a65c_add_9ea2d_20 : decode cJx4a65c_add_9ea2d 20 = .ok (.invokevirtual 131, 3) := by decide +kernel
theorem dJx4a65c_add_9ea2d_23 : decode cJx4a65c_add_9ea2d 23 = .ok (.iconst 1, 1) := by decide +kernel
theorem dJx4a65c_add_9ea2d_24 : decode cJx4a65c_add_9ea2d 24 = .ok (.ireturn, 1) := by decide +kernel
set_option maxRecDepth 20000 in
theorem ggJ7_copyOf_1904c_J7_copyOf_6403c : GoodIn wsJ7_copyOf_1904c wsJ7_copyOf_6403c := goodIn_r _ [8, 9, 10, 11, 12, 13, 14, 15, 16, 17, 18] (by decide +kernel) (by decide +kernel)
set_option maxRecDepth 20000 in
theorem gJ7_copyOf_1904c_J7_copyOf_6403c : GoodIn wsJ7_copyOf_1904c (va_wsS RJ7 300 yJ7_copyOf_6403c wsJ7_copyOf_6403c) := goodIn_app (goodIn_of _ (by decide +kernel)) ggJ7_copyOf_1904c_J7_copyOf_6403c
theorem dJ7_copyOf_1904c_0 : decode cJ7_copyOf_1904c 0 = .ok (.aload_n 0, 1) := by decide +kernel
theorem dJ7_copyOf_1904c_1 : decode cJ7_copyOf_1904c 1 = .ok (.iload_n 1, 1) := by decide +kernel
theorem dJ7_copyOf_1904c_2 : decode cJ7_copyOf_1904c 2 = .ok (.aload_n 0, 1) := by decide +kernel
theorem dJ7_copyOf_1904c_3 : decode cJ7_copyOf_1904c 3 = .ok (.invokevirtual 86, 3) := by decide +kernel
theorem dJ7_copyOf_1904c_6 : decode cJ7_copyOf_1904c 6 = .ok (.invokestatic 300, 3) := by decide +kernel
theorem dJ7_copyOf_1904c_9 : decode cJ7_copyOf_1904c 9 = .ok (.areturn, 1) := by decide +kernel
theorem dJ7_copyOf_6403c_0 : decode cJ7_copyOf_6403c 0 = .ok (.aload_n 2, 1) := by decide +kernel
theorem dJ7_copyOf_6403c_1 : decode cJ7_copyOf_6403c 1 = .ok (.ldc 110, 2) := by decide +kernel
theorem dJ7_copyOf_6403c_3 : decode cJ7_copyOf_6403c 3 = .ok (.if_acmp .ne 10, 3) := by decide +kernel
theorem dJ7_copyOf_6403c_6 : decode cJ7_copyOf_6403c 6 = .ok (.iload_n 1, 1) := by decide +kernel
theorem dJ7_copyOf_6403c_7 : decode cJ7_copyOf_6403c 7 = .ok (.anewarray 2, 3) := by decide +kernel
theorem dJ7_copyOf_6403c_10 : decode cJ7_copyOf_6403c 10 = .ok (.goto 14, 3) := by decide +kernel
theorem dJ7_copyOf_6403c_13 : decode cJ7_copyOf_6403c 13 = .ok (.aload_n 2, 1) := by decide +kernel
theorem dJ7_copyOf_6403c_14 : decode cJ7_copyOf_6403c 14 = .ok (.invokevirtual 90, 3) := by decide +kernel
theorem dJ7_copyOf_6403c_17 : decode cJ7_copyOf_6403c 17 = .ok (.iload_n 1, 1) := by decide +kernel
theorem dJ7_copyOf_6403c_18 : decode cJ7_copyOf_6403c 18 = .ok (.invokestatic 95, 3) := by decide +kernel
theorem dJ7_copyOf_6403c_21 : decode cJ7_copyOf_6403c 21 = .ok (.checkcast 110, 3) := by decide +kernel
theorem dJ7_copyOf_6403c_24 : decode cJ7_copyOf_6403c 24 = .ok (.astore_n 3, 1) := by decide +kernel
theorem dJ7_copyOf_6403c_25 : decode cJ7_copyOf_6403c 25 = .ok (.aload_n 0, 1) := by decide +kernel
theorem dJ7_copyOf_6403c_26 : decode cJ7_copyOf_6403c 26 = .ok (.iconst 0, 1) := by decide +kernel
theorem dJ7_copyOf_6403c_27 : decode cJ7_copyOf_6403c 27 = .ok (.aload_n 3, 1) := by decide +kernel
theorem dJ7_copyOf_6403c_28 : decode cJ7_copyOf_6403c 28 = .ok (.iconst 0, 1) := by decide +kernel
theorem dJ7_copyOf_6403c_29 : decode cJ7_copyOf_6403c 29 = .ok (.aload_n 0, 1) := by decide +kernel
theorem dJ7_copyOf_6403c_30 : decode cJ7_copyOf_6403c 30 = .ok (.arraylength, 1) := by decide +kernel
theorem dJ7_copyOf_6403c_31 : decode cJ7_copyOf_6403c 31 = .ok (.iload_n 1, 1) := by decide +kernel
theorem dJ7_copyOf_6403c_32 : decode cJ7_copyOf_6403c 32 = .ok (.invokestatic 304, 3) := by decide +kernel
theorem dJ7_copyOf_6403c_35 : decode cJ7_copyOf_6403c 35 = .ok (.invokestatic 150, 3) := by decide +kernel
theorem dJ7_copyOf_6403c_38 : decode cJ7_copyOf_6403c 38 = .ok (.aload_n 3, 1) := by decide +kernel
theorem dJ7_copyOf_6403c_39 : decode cJ7_copyOf_6403c 39 = .ok (.areturn, 1) := by decide +kernel
set_option maxRecDepth 20000 in
theorem ggJ15_checkIndex_7cf53_J3_checkIndex_8e157 : GoodIn wsJ15_checkIndex_7cf53 wsJ3_checkIndex_8e157 := goodIn_r _ [4] (by decide +kernel) (by decide +kernel)
set_option maxRecDepth 20000 in
theorem gJ15_checkIndex_7cf53_J3_checkIndex_8e157 : GoodIn wsJ15_checkIndex_7cf53 (va_wsS RJ15 105 yJ3_checkIndex_8e157 wsJ3_checkIndex_8e157) := goodIn_app (goodIn_of _ (by decide +kernel)) ggJ15_checkIndex_7cf53_J3_checkIndex_8e157
theorem dJ15_checkIndex_7cf53_0 : decode cJ15_checkIndex_7cf53 0 = .ok (.iload_n 0, 1) := by decide +kernel
theorem dJ15_checkIndex_7cf53_1 : decode cJ15_checkIndex_7cf53 1 = .ok (.iload_n 1, 1) := by decide +kernel
theorem dJ15_checkIndex_7cf53_2 : decode cJ15_checkIndex_7cf53 2 = .ok (.aconst_null, 1) := by decide +kernel
theorem dJ15_checkIndex_7cf53_3 : decode cJ15_checkIndex_7cf53 3 = .ok (.invokestatic 105, 3) := by decide +kernel
theorem dJ15_checkIndex_7cf53_6 : decode cJ15_checkIndex_7cf53 6 = .ok (.ireturn, 1) := by decide +kernel
set_option maxRecDepth 20000 in
theorem ggJ8_newLength_cabcc_J8_hugeLength_7cf53 : GoodIn wsJ8_newLength_cabcc wsJ8_hugeLength_7cf53 := goodIn_r _ [9, 5] (by decide +kernel) (by decide +kernel)
set_option maxRecDepth 20000 in
theorem gJ8_newLength_cabcc_J8_hugeLength_7cf53 : GoodIn wsJ8_newLength_cabcc (va_wsS RJ8 201 yJ8_hugeLength_7cf53 wsJ8_hugeLength_7cf53) := goodIn_app (goodIn_of _ (by decide +kernel)) ggJ8_newLength_cabcc_J8_hugeLength_7cf53
theorem dJ8_newLength_cabcc_0 : decode cJ8_newLength_cabcc 0 = .ok (.iload_n 0, 1) := by decide +kernel
theorem dJ8_newLength_cabcc_1 : decode cJ8_newLength_cabcc 1 = .ok (.iload_n 1, 1) := by decide +kernel
theorem dJ8_newLength_cabcc_2 : decode cJ8_newLength_cabcc 2 = .ok (.iload_n 2, 1) := by decide +kernel
theorem dJ8_newLength_cabcc_3 : decode cJ8_newLength_cabcc 3 = .ok (.invokestatic 194, 3) := by decide +kernel
theorem dJ8_newLength_cabcc_6 : decode cJ8_newLength_cabcc 6 = .ok (.iadd, 1) := by decide +kernel
theorem dJ8_newLength_cabcc_7 : decode cJ8_newLength_cabcc 7 = .ok (.istore_n 3, 1) := by decide +kernel
theorem dJ8_newLength_cabcc_8 : decode cJ8_newLength_cabcc 8 = .ok (.iconst 0, 1) := by decide +kernel
theorem dJ8_newLength_cabcc_9 : decode cJ8_newLength_cabcc 9 = .ok (.iload_n 3, 1) := by decide +kernel
theorem dJ8_newLength_cabcc_10 : decode cJ8_newLength_cabcc 10 = .ok (.if_icmp .ge 11, 3) := by decide +kernel
theorem dJ8_newLength_cabcc_13 : decode cJ8_newLength_cabcc 13 = .ok (.iload_n 3, 1) := by decide +kernel
theorem dJ8_newLength_cabcc_14 : decode cJ8_newLength_cabcc 14 = .ok (.ldc 200, 2) := by decide +kernel
theorem dJ8_newLength_cabcc_16 : decode cJ8_newLength_cabcc 16 = .ok (.if_icmp .gt 5, 3) := by decide +kernel
theorem dJ8_newLength_cabcc_19 : decode cJ8_newLength_cabcc 19 = .ok (.iload_n 3, 1) := by decide +kernel
theorem dJ8_newLength_cabcc_20 : decode cJ8_newLength_cabcc 20 = .ok (.ireturn, 1) := by decide +kernel
theorem dJ8_newLength_cabcc_21 : decode cJ8_newLength_cabcc 21 = .ok (.iload_n 0, 1) := by decide +kernel
theorem dJ8_newLength_cabcc_22 : decode cJ8_newLength_cabcc 22 = .ok (.iload_n 1, 1) := by decide +kernel
theorem dJ8_newLength_cabcc_23 : decode cJ8_newLength_cabcc 23 = .ok (.invokestatic 201, 3) := by decide +kernel
theorem dJ8_newLength_cabcc_26 : decode cJ8_newLength_cabcc 26 = .ok (.ireturn, 1) := by decide +kernel
theorem dJ8_hugeLength_7cf53_0 : decode cJ8_hugeLength_7cf53 0 = .ok (.iload_n 0, 1) := by decide +kernel
theorem dJ8_hugeLength_7cf53_1 : decode cJ8_hugeLength_7cf53 1 = .ok (.iload_n 1, 1) := by decide +kernel
theorem dJ8_hugeLength_7cf53_2 : decode cJ8_hugeLength_7cf53 2 = .ok (.iadd, 1) := by decide +kernel
theorem dJ8_hugeLength_7cf53_3 : decode cJ8_hugeLength_7cf53 3 = .ok (.istore_n 2, 1) := by decide +kernel
theorem dJ8_hugeLength_7cf53_4 : decode cJ8_hugeLength_7cf53 4 = .ok (.iload_n 2, 1) := by decide +kernel
theorem dJ8_hugeLength_7cf53_5 : decode cJ8_hugeLength_7cf53 5 = .ok (.ifCond .ge 44, 3) := by decide +kernel
theorem dJ8_hugeLength_7cf53_8 : decode cJ8_hugeLength_7cf53 8 = .ok (.new 204, 3) := by decide +kernel
theorem dJ8_hugeLength_7cf53_11 : decode cJ8_hugeLength_7cf53 11 = .ok (.dup, 1) := by decide +kernel
theorem dJ8_hugeLength_7cf53_12 : decode cJ8_hugeLength_7cf53 12 = .ok (.new 89, 3) := by decide +kernel
theorem dJ8_hugeLength_7cf53_15 : decode cJ8_hugeLength_7cf53 15 = .ok (.dup, 1) := by decide +kernel
theorem dJ8_hugeLength_7cf53_16 : decode cJ8_hugeLength_7cf53 16 = .ok (.invokespecial 91, 3) := by decide +kernel
theorem dJ8_hugeLength_7cf53_19 : decode cJ8_hugeLength_7cf53 19 = .ok (.ldc 206, 2) := by decide +kernel
theorem dJ8_hugeLength_7cf53_21 : decode cJ8_hugeLength_7cf53 21 = .ok (.invokevirtual 94, 3) := by decide +kernel
theorem dJ8_hugeLength_7cf53_24 : decode cJ8_hugeLength_7cf53 24 = .ok (.iload_n 0, 1) := by decide +kernel
theorem dJ8_hugeLength_7cf53_25 : decode cJ8_hugeLength_7cf53 25 = .ok (.invokevirtual 98, 3) := by decide +kernel
theorem dJ8_hugeLength_7cf53_28 : decode cJ8_hugeLength_7cf53 28 = .ok (.ldc 208, 2) := by decide +kernel
theorem dJ8_hugeLength_7cf53_30 : decode cJ8_hugeLength_7cf53 30 = .ok (.invokevirtual 94, 3) := by decide +kernel
theorem dJ8_hugeLength_7cf53_33 : decode cJ8_hugeLength_7cf53 33 = .ok (.iload_n 1, 1) := by decide +kernel
theorem dJ8_hugeLength_7cf53_34 : decode cJ8_hugeLength_7cf53 34 = .ok (.invokevirtual 98, 3) := by decide +kernel
theorem dJ8_hugeLength_7cf53_37 : decode cJ8_hugeLength_7cf53 37 = .ok (.ldc 210, 2) := by decide +kernel
theorem dJ8_hugeLength_7cf53_39 : decode cJ8_hugeLength_7cf53 39 = .ok (.invokevirtual 94, 3) := by decide +kernel
theorem dJ8_hugeLength_7cf53_42 : decode cJ8_hugeLength_7cf53 42 = .ok (.invokevirtual 101, 3) := by decide +kernel
theorem dJ8_hugeLength_7cf53_45 : decode cJ8_hugeLength_7cf53 45 = .ok (.invokespecial 212, 3) := by decide +kernel
theorem dJ8_hugeLength_7cf53_48 : decode cJ8_hugeLength_7cf53 48 = .ok (.athrow, 1) := by decide +kernel
theorem dJ8_hugeLength_7cf53_49 : decode cJ8_hugeLength_7cf53 49 = .ok (.iload_n 2, 1) := by decide +kernel
theorem dJ8_hugeLength_7cf53_50 : decode cJ8_hugeLength_7cf53 50 = .ok (.ldc 200, 2) := by decide +kernel
theorem dJ8_hugeLength_7cf53_52 : decode cJ8_hugeLength_7cf53 52 = .ok (.if_icmp .gt 6, 3) := by decide +kernel
theorem dJ8_hugeLength_7cf53_55 : decode cJ8_hugeLength_7cf53 55 = .ok (.ldc 200, 2) := by decide +kernel
theorem dJ8_hugeLength_7cf53_57 : decode cJ8_hugeLength_7cf53 57 = .ok (.ireturn, 1) := by decide +kernel
theorem dJ8_hugeLength_7cf53_58 : decode cJ8_hugeLength_7cf53 58 = .ok (.iload_n 2, 1) := by decide +kernel
theorem dJ8_hugeLength_7cf53_59 : decode cJ8_hugeLength_7cf53 59 = .ok (.ireturn, 1) := by decide +kernel
theorem dJ3_checkIndex_8e157_0 : decode cJ3_checkIndex_8e157 0 = .ok (.iload_n 0, 1) := by decide +kernel
theorem dJ3_checkIndex_8e157_1 : decode cJ3_checkIndex_8e157 1 = .ok (.ifCond .lt 8, 3) := by decide +kernel
theorem dJ3_checkIndex_8e157_4 : decode cJ3_checkIndex_8e157 4 = .ok (.iload_n 0, 1) := by decide +kernel
theorem dJ3_checkIndex_8e157_5 : decode cJ3_checkIndex_8e157 5 = .ok (.iload_n 1, 1) := by decide +kernel
theorem dJ3_checkIndex_8e157_6 : decode cJ3_checkIndex_8e157 6 = .ok (.if_icmp .lt 10, 3) := by decide +kernel
theorem dJ3_checkIndex_8e157_9 : decode cJ3_checkIndex_8e157 9 = .ok (.aload_n 2, 1) := by decide +kernel
theorem dJ3_checkIndex_8e157_10 : decode cJ3_checkIndex_8e157 10 = .ok (.iload_n 0, 1) := by decide +kernel
theorem dJ3_checkIndex_8e157_11 : decode cJ3_checkIndex_8e157 11 = .ok (.iload_n 1, 1) := by decide +kernel
theorem dJ3_checkIndex_8e157_12 : decode cJ3_checkIndex_8e157 12 = .ok (.invokestatic 95, 3) := by decide +kernel
theorem dJ3_checkIndex_8e157_15 : decode cJ3_checkIndex_8e157 15 = .ok (.athrow, 1) := by decide +kernel
theorem dJ3_checkIndex_8e157_16 : decode cJ3_checkIndex_8e157 16 = .ok (.iload_n 0, 1) := by decide +kernel
theorem dJ3_checkIndex_8e157_17 : decode cJ3_checkIndex_8e157 17 = .ok (.ireturn, 1) := by decide +kernel
end
section
/-! printed decode rows and words -/
set_option maxRecDepth 20000 in
theorem ggX5_init_Jx4a65c_init_da8c8 : GoodIn wsX5_init wsJx4a65c_init_da8c8 := goodIn_r _ [23, 24, 25, 26, 27, 28, 29, 30, 31, 32, 33, 34, 35, 2, 3, 61, 62, 63] (by decide +kernel) (by decide +kernel)
set_option maxRecDepth 20000 in
theorem gX5_init_Jx4a65c_init_da8c8 : GoodIn wsX5_init (wsJx4a65c_init_da8c8) := ggX5_init_Jx4a65c_init_da8c8
set_option maxRecDepth 20000 in
theorem ggX5_init_X0_init : GoodIn wsX5_init wsX0_init := goodIn_r _ [37, 38, 2, 3, 39, 40, 41, 42, 43, 44, 45, 46, 47, 64, 67, 68] (by decide +kernel) (by decide +kernel)
set_option maxRecDepth 20000 in
theorem gX5_init_X0_init_n44 : GoodIn wsX5_init (wsX0_init) := ggX5_init_X0_init
set_option maxRecDepth 20000 in
theorem ggX5_init_X2_init : GoodIn wsX5_init wsX2_init := goodIn_r _ [49, 50, 2, 3, 51, 52, 65, 66] (by decide +kernel) (by decide +kernel)
set_option maxRecDepth 20000 in
theorem gX5_init_X2_init_n45 : GoodIn wsX5_init (wsX2_init) := ggX5_init_X2_init
theorem dX5_init_0 : decode cX5_init 0 = .ok (.aload_n 0, 1) := by decide +kernel
theorem dX5_init_1 : decode cX5_init 1 = .ok (.invokespecial 1, 3) := by decide +kernel
theorem dX5_init_4 : decode cX5_init 4 = .ok (.aload_n 0, 1) := by decide +kernel
theorem dX5_init_5 : decode cX5_init 5 = .ok (.iconst 3, 1) := by decide +kernel
theorem dX5_init_6 : decode cX5_init 6 = .ok (.anewarray 9, 3) := by decide +kernel
theorem dX5_init_9 : decode cX5_init 9 = .ok (.putfield 11, 3) := by decide +kernel
theorem dX5_init_12 : decode cX5_init 12 = .ok (.aload_n 0, 1) := by decide +kernel
theorem dX5_init_13 : decode cX5_init 13 = .ok (.bipush 12, 2) := by decide +kernel
theorem dX5_init_15 : decode cX5_init 15 = .ok (.anewarray 15, 3) := by decide +kernel
theorem dX5_init_18 : decode cX5_init 18 = .ok (.putfield 17, 3) := by decide +kernel
theorem dX5_init_21 : decode cX5_init 21 = .ok (.aload_n 0, 1) := by decide +kernel
theorem dX5_init_22 : decode cX5_init 22 = .ok (.new 21, 3) := by decide +kernel
theorem dX5_init_25 : decode cX5_init 25 = .ok (.dup, 1) := by decide +kernel
theorem dX5_init_26 : decode cX5_init 26 = .ok (.invokespecial 23, 3) := by decide +kernel
theorem dX5_init_29 : decode cX5_init 29 = .ok (.putfield 24, 3) := by decide +kernel
theorem dX5_init_32 : decode cX5_init 32 = .ok (.aload_n 0, 1) := by decide +kernel
theorem dX5_init_33 : decode cX5_init 33 = .ok (.new 21, 3) := by decide +kernel
theorem dX5_init_36 : decode cX5_init 36 = .ok (.dup, 1) := by decide +kernel
theorem dX5_init_37 : decode cX5_init 37 = .ok (.invokespecial 23, 3) := by decide +kernel
theorem dX5_init_40 : decode cX5_init 40 = .ok (.putfield 28, 3) := by decide +kernel
theorem dX5_init_43 : decode cX5_init 43 = .ok (.aload_n 0, 1) := by decide +kernel
theorem dX5_init_44 : decode cX5_init 44 = .ok (.bipush 12, 2) := by decide +kernel
theorem dX5_init_46 : decode cX5_init 46 = .ok (.putfield 31, 3) := by decide +kernel
theorem dX5_init_49 : decode cX5_init 49 = .ok (.aload_n 0, 1) := by decide +kernel
theorem dX5_init_50 : decode cX5_init 50 = .ok (.iconst 0, 1) := by decide +kernel
theorem dX5_init_51 : decode cX5_init 51 = .ok (.putfield 35, 3) := by decide +kernel
theorem dX5_init_54 : decode cX5_init 54 = .ok (.aload_n 0, 1) := by decide +kernel
theorem dX5_init_55 : decode cX5_init 55 = .ok (.iconst 0, 1) := by decide +kernel
theorem dX5_init_56 : decode cX5_init 56 = .ok (.putfield 38, 3) := by decide +kernel
theorem dX5_init_59 : decode cX5_init 59 = .ok (.aload_n 0, 1) := by decide +kernel
theorem dX5_init_60 : decode cX5_init 60 = .ok (.iconst 0, 1) := by decide +kernel
theorem dX5_init_61 : decode cX5_init 61 = .ok (.putfield 41, 3) := by decide +kernel
theorem dX5_init_64 : decode cX5_init 64 = .ok (.iconst 0, 1) := by decide +kernel
theorem dX5_init_65 : decode cX5_init 65 = .ok (.istore_n 1, 1) := by decide +kernel
theorem dX5_init_66 : decode cX5_init 66 = .ok (.iload_n 1, 1) := by decide +kernel
theorem dX5_init_67 : decode cX5_init 67 = .ok (.aload_n 0, 1) := by decide +kernel
theorem dX5_init_68 : decode cX5_init 68 = .ok (.getfield 11, 3) := by decide +kernel
theorem dX5_init_71 : decode cX5_init 71 = .ok (.arraylength, 1) := by decide +kernel
theorem dX5_init_72 : decode cX5_init 72 = .ok (.if_icmp .ge 22, 3) := by decide +kernel
theorem dX5_init_75 : decode cX5_init 75 = .ok (.aload_n 0, 1) := by decide +kernel
theorem dX5_init_76 : decode cX5_init 76 = .ok (.getfield 11, 3) := by decide +kernel
theorem dX5_init_79 : decode cX5_init 79 = .ok (.iload_n 1, 1) := by decide +kernel
theorem dX5_init_80 : decode cX5_init 80 = .ok (.new 9, 3) := by decide +kernel
theorem dX5_init_83 : decode cX5_init 83 = .ok (.dup, 1) := by decide +kernel
theorem dX5_init_84 : decode cX5_init 84 = .ok (.invokespecial 44, 3) := by decide +kernel
theorem dX5_init_87 : decode cX5_init 87 = .ok (.aastore, 1) := by decide +kernel
theorem dX5_init_88 : decode cX5_init 88 = .ok (.iinc 1 1, 3) := by decide +kernel
theorem dX5_init_91 : decode cX5_init 91 = .ok (.goto (-25), 3) := by decide +kernel
theorem dX5_init_94 : decode cX5_init 94 = .ok (.iconst 0, 1) := by decide +kernel
theorem dX5_init_95 : decode cX5_init 95 = .ok (.istore_n 1, 1) := by decide +kernel
theorem dX5_init_96 : decode cX5_init 96 = .ok (.iload_n 1, 1) := by decide +kernel
theorem dX5_init_97 : decode cX5_init 97 = .ok (.aload_n 0, 1) := by decide +kernel
theorem dX5_init_98 : decode cX5_init 98 = .ok (.getfield 17, 3) := by decide +kernel
theorem dX5_init_101 : decode cX5_init 101 = .ok (.arraylength, 1) := by decide +kernel
theorem dX5_init_102 : decode cX5_init 102 = .ok (.if_icmp .ge 30, 3) := by decide +kernel
theorem dX5_init_105 : decode cX5_init 105 = .ok (.aload_n 0, 1) := by decide +kernel
theorem dX5_init_106 : decode cX5_init 106 = .ok (.getfield 17, 3) := by decide +kernel
theorem dX5_init_109 : decode cX5_init 109 = .ok (.iload_n 1, 1) := by decide +kernel
theorem dX5_init_110 : decode cX5_init 110 = .ok (.new 15, 3) := by decide +kernel
theorem dX5_init_113 : decode cX5_init 113 = .ok (.dup, 1) := by decide +kernel
theorem dX5_init_114 : decode cX5_init 114 = .ok (.aload_n 0, 1) := by decide +kernel
theorem dX5_init_115 : decode cX5_init 115 = .ok (.getfield 11, 3) := by decide +kernel
theorem dX5_init_118 : decode cX5_init 118 = .ok (.iload_n 1, 1) := by decide +kernel
theorem dX5_init_119 : decode cX5_init 119 = .ok (.iconst 4, 1) := by decide +kernel
theorem dX5_init_120 : decode cX5_init 120 = .ok (.idiv, 1) := by decide +kernel
theorem dX5_init_121 : decode cX5_init 121 = .ok (.aaload, 1) := by decide +kernel
theorem dX5_init_122 : decode cX5_init 122 = .ok (.invokespecial 45, 3) := by decide +kernel
theorem dX5_init_125 : decode cX5_init 125 = .ok (.aastore, 1) := by decide +kernel
theorem dX5_init_126 : decode cX5_init 126 = .ok (.iinc 1 1, 3) := by decide +kernel
theorem dX5_init_129 : decode cX5_init 129 = .ok (.goto (-33), 3) := by decide +kernel
theorem dX5_init_132 : decode cX5_init 132 = .ok (.return_, 1) := by decide +kernel
set_option maxRecDepth 20000 in
theorem ggX5_setSpace_X5_recordsThere : GoodIn wsX5_setSpace wsX5_recordsThere := goodIn_r _ [10, 11, 12, 13, 14, 15, 16, 17, 18, 19, 20, 21, 22, 23, 24, 25, 26, 27, 28, 29] (by decide +kernel) (by decide +kernel)
set_option maxRecDepth 20000 in
theorem gX5_setSpace_X5_recordsThere : GoodIn wsX5_setSpace (wsV RX5 55 RX5 yX5_recordsThere wsX5_recordsThere) := goodIn_app (goodIn_of _ (by decide +kernel)) ggX5_setSpace_X5_recordsThere
theorem dX5_setSpace_0 : decode cX5_setSpace 0 = .ok (.iload_n 1, 1) := by decide +kernel
theorem dX5_setSpace_1 : decode cX5_setSpace 1 = .ok (.iconst 1, 1) := by decide +kernel
theorem dX5_setSpace_2 : decode cX5_setSpace 2 = .ok (.if_icmp .lt 9, 3) := by decide +kernel
theorem dX5_setSpace_5 : decode cX5_setSpace 5 = .ok (.iload_n 1, 1) := by decide +kernel
theorem dX5_setSpace_6 : decode cX5_setSpace 6 = .ok (.bipush 30, 2) := by decide +kernel
theorem dX5_setSpace_8 : decode cX5_setSpace 8 = .ok (.if_icmp .le 13, 3) := by decide +kernel
theorem dX5_setSpace_11 : decode cX5_setSpace 11 = .ok (.new 48, 3) := by decide +kernel
theorem dX5_setSpace_14 : decode cX5_setSpace 14 = .ok (.dup, 1) := by decide +kernel
theorem dX5_setSpace_15 : decode cX5_setSpace 15 = .ok (.ldc 50, 2) := by decide +kernel
theorem dX5_setSpace_17 : decode cX5_setSpace 17 = .ok (.invokespecial 52, 3) := by decide +kernel
theorem dX5_setSpace_20 : decode cX5_setSpace 20 = .ok (.athrow, 1) := by decide +kernel
theorem dX5_setSpace_21 : decode cX5_setSpace 21 = .ok (.aload_n 0, 1) := by decide +kernel
theorem dX5_setSpace_22 : decode cX5_setSpace 22 = .ok (.invokevirtual 55, 3) := by decide +kernel
theorem dX5_setSpace_25 : decode cX5_setSpace 25 = .ok (.iload_n 1, 1) := by decide +kernel
theorem dX5_setSpace_26 : decode cX5_setSpace 26 = .ok (.if_icmp .le 13, 3) := by decide +kernel
theorem dX5_setSpace_29 : decode cX5_setSpace 29 = .ok (.new 59, 3) := by decide +kernel
theorem dX5_setSpace_32 : decode cX5_setSpace 32 = .ok (.dup, 1) := by decide +kernel
theorem dX5_setSpace_33 : decode cX5_setSpace 33 = .ok (.ldc 61, 2) := by decide +kernel
theorem dX5_setSpace_35 : decode cX5_setSpace 35 = .ok (.invokespecial 63, 3) := by decide +kernel
theorem dX5_setSpace_38 : decode cX5_setSpace 38 = .ok (.athrow, 1) := by decide +kernel
theorem dX5_setSpace_39 : decode cX5_setSpace 39 = .ok (.aload_n 0, 1) := by decide +kernel
theorem dX5_setSpace_40 : decode cX5_setSpace 40 = .ok (.getfield 31, 3) := by decide +kernel
theorem dX5_setSpace_43 : decode cX5_setSpace 43 = .ok (.istore_n 2, 1) := by decide +kernel
theorem dX5_setSpace_44 : decode cX5_setSpace 44 = .ok (.aload_n 0, 1) := by decide +kernel
theorem dX5_setSpace_45 : decode cX5_setSpace 45 = .ok (.iload_n 1, 1) := by decide +kernel
theorem dX5_setSpace_46 : decode cX5_setSpace 46 = .ok (.putfield 31, 3) := by decide +kernel
theorem dX5_setSpace_49 : decode cX5_setSpace 49 = .ok (.iload_n 2, 1) := by decide +kernel
theorem dX5_setSpace_50 : decode cX5_setSpace 50 = .ok (.ireturn, 1) := by decide +kernel
set_option maxRecDepth 20000 in
theorem ggX5_begin_Jx4a65c_size_8abf5 : GoodIn wsX5_begin wsJx4a65c_size_8abf5 := goodIn_r _ [12, 13, 91, 92, 93] (by decide +kernel) (by decide +kernel)
set_option maxRecDepth 20000 in
theorem gX5_begin_Jx4a65c_size_8abf5 : GoodIn wsX5_begin (wsV RX5 64 RJx4a65c yJx4a65c_size_8abf5 wsJx4a65c_size_8abf5) := goodIn_app (goodIn_of _ (by decide +kernel)) ggX5_begin_Jx4a65c_size_8abf5
set_option maxRecDepth 20000 in
theorem ggX5_begin_X4_init : GoodIn wsX5_begin wsX4_init := goodIn_r _ [15, 16, 17, 18, 19, 20, 21, 22, 23, 86, 87, 88, 89, 90] (by decide +kernel) (by decide +kernel)
set_option maxRecDepth 20000 in
theorem gX5_begin_X4_init_n71 : GoodIn wsX5_begin (wsX4_init) := ggX5_begin_X4_init
set_option maxRecDepth 20000 in
theorem ggX5_begin_Jx4a65c_add_9ea2d : GoodIn wsX5_begin wsJx4a65c_add_9ea2d := goodIn_r _ [27, 28, 29, 30, 13, 31, 32, 33, 11, 34, 35, 36, 37, 38, 39, 40, 41, 42, 43, 44, 45, 46, 47, 48, 49, 50, 51, 52, 53, 54, 55, 56, 57, 58, 59, 60, 61, 62, 63, 64, 65, 66, 67, 68, 69, 70, 71, 72, 73, 74, 75, 76, 77, 91, 92, 93] (by decide +kernel) (by decide +kernel)
set_option maxRecDepth 20000 in
theorem gX5_begin_Jx4a65c_add_9ea2d : GoodIn wsX5_begin (wsV RX5 74 RJx4a65c yJx4a65c_add_9ea2d wsJx4a65c_add_9ea2d) := goodIn_app (goodIn_of _ (by decide +kernel)) ggX5_begin_Jx4a65c_add_9ea2d
theorem dX5_begin_0 : decode cX5_begin 0 = .ok (.aload_n 0, 1) := by decide +kernel
theorem dX5_begin_1 : decode cX5_begin 1 = .ok (.getfield 24, 3) := by decide +kernel
theorem dX5_begin_4 : decode cX5_begin 4 = .ok (.invokevirtual 64, 3) := by decide +kernel
theorem dX5_begin_7 : decode cX5_begin 7 = .ok (.bipush 60, 2) := by decide +kernel
theorem dX5_begin_9 : decode cX5_begin 9 = .ok (.if_icmp .lt 13, 3) := by decide +kernel
theorem dX5_begin_12 : decode cX5_begin 12 = .ok (.new 59, 3) := by decide +kernel
theorem dX5_begin_15 : decode cX5_begin 15 = .ok (.dup, 1) := by decide +kernel
theorem dX5_begin_16 : decode cX5_begin 16 = .ok (.ldc 67, 2) := by decide +kernel
theorem dX5_begin_18 : decode cX5_begin 18 = .ok (.invokespecial 63, 3) := by decide +kernel
theorem dX5_begin_21 : decode cX5_begin 21 = .ok (.athrow, 1) := by decide +kernel
theorem dX5_begin_22 : decode cX5_begin 22 = .ok (.new 69, 3) := by decide +kernel
theorem dX5_begin_25 : decode cX5_begin 25 = .ok (.dup, 1) := by decide +kernel
theorem dX5_begin_26 : decode cX5_begin 26 = .ok (.aload_n 0, 1) := by decide +kernel
theorem dX5_begin_27 : decode cX5_begin 27 = .ok (.getfield 24, 3) := by decide +kernel
theorem dX5_begin_30 : decode cX5_begin 30 = .ok (.invokevirtual 64, 3) := by decide +kernel
theorem dX5_begin_33 : decode cX5_begin 33 = .ok (.aload_n 0, 1) := by decide +kernel
theorem dX5_begin_34 : decode cX5_begin 34 = .ok (.getfield 35, 3) := by decide +kernel
theorem dX5_begin_37 : decode cX5_begin 37 = .ok (.invokespecial 71, 3) := by decide +kernel
theorem dX5_begin_40 : decode cX5_begin 40 = .ok (.astore_n 1, 1) := by decide +kernel
theorem dX5_begin_41 : decode cX5_begin 41 = .ok (.aload_n 0, 1) := by decide +kernel
theorem dX5_begin_42 : decode cX5_begin 42 = .ok (.getfield 24, 3) := by decide +kernel
theorem dX5_begin_45 : decode cX5_begin 45 = .ok (.aload_n 1, 1) := by decide +kernel
theorem dX5_begin_46 : decode cX5_begin 46 = .ok (.invokevirtual 74, 3) := by decide +kernel
theorem dX5_begin_49 : decode cX5_begin 49 = .ok (.pop, 1) := by decide +kernel
theorem dX5_begin_50 : decode cX5_begin 50 = .ok (.aload_n 1, 1) := by decide +kernel
theorem dX5_begin_51 : decode cX5_begin 51 = .ok (.getfield 78, 3) := by decide +kernel
theorem dX5_begin_54 : decode cX5_begin 54 = .ok (.ireturn, 1) := by decide +kernel
set_option maxRecDepth 20000 in
theorem ggX5_write_X5_transactionNumbered : GoodIn wsX5_write wsX5_transactionNumbered := goodIn_ca (goodIn_r _ [16, 17, 18, 19, 20, 21, 22, 23, 24, 25, 26, 27, 28, 29, 30, 31, 32, 33, 34, 35, 36, 37, 38, 39, 40, 41, 42, 43, 167, 168, 169, 170, 171, 172, 173, 174, 179, 180, 181] (by decide +kernel) (by decide +kernel)) (goodIn_sub (fun _ h => List.mem_cons_of_mem _ (List.mem_append_right _ h)) (by decide +kernel))
set_option maxRecDepth 20000 in
theorem gX5_write_X5_transactionNumbered : GoodIn wsX5_write (wsV RX5 81 RX5 yX5_transactionNumbered wsX5_transactionNumbered) := goodIn_app (goodIn_of _ (by decide +kernel)) ggX5_write_X5_transactionNumbered
set_option maxRecDepth 20000 in
theorem ggX5_write_X5_rowNumbered : GoodIn wsX5_write wsX5_rowNumbered := goodIn_ca (goodIn_r _ [47, 17, 18, 48, 167, 168, 169, 170, 171, 172, 173, 174] (by decide +kernel) (by decide +kernel)) (goodIn_sub (fun _ h => List.mem_cons_of_mem _ (List.mem_append_right _ h)) (by decide +kernel))
set_option maxRecDepth 20000 in
theorem gX5_write_X5_rowNumbered : GoodIn wsX5_write (wsV RX5 85 RX5 yX5_rowNumbered wsX5_rowNumbered) := goodIn_app (goodIn_of _ (by decide +kernel)) ggX5_write_X5_rowNumbered
set_option maxRecDepth 20000 in
theorem ggX5_write_X5_refuseIfEnded : GoodIn wsX5_write wsX5_refuseIfEnded := goodIn_ca (goodIn_r _ [52, 3, 4, 182, 183, 184, 185, 186] (by decide +kernel) (by decide +kernel)) (goodIn_sub (fun _ h => List.mem_cons_of_mem _ (List.mem_append_left _ (List.mem_append_right _ h))) (by decide +kernel))
set_option maxRecDepth 20000 in
theorem gX5_write_X5_refuseIfEnded : GoodIn wsX5_write (wsV RX5 93 RX5 yX5_refuseIfEnded wsX5_refuseIfEnded) := goodIn_app (goodIn_of _ (by decide +kernel)) ggX5_write_X5_refuseIfEnded
set_option maxRecDepth 20000 in
theorem ggX5_write_X5_refuseIfLockedByAnother : GoodIn wsX5_write wsX5_refuseIfLockedByAnother := goodIn_ca (goodIn_r _ [56, 3, 4, 57, 58, 59, 15, 60, 11, 61, 21, 22, 23, 24, 25, 26, 27, 28, 29, 30, 31, 32, 33, 34, 35, 36, 37, 38, 39, 40, 41, 42, 43, 62, 10, 63, 64, 65, 66, 167, 168, 169, 170, 171, 172, 173, 174, 175, 176, 177, 178, 182, 183, 184, 185, 186, 179, 180, 181] (by decide +kernel) (by decide +kernel)) (goodIn_sub (fun _ h => List.mem_cons_of_mem _ (List.mem_append_left _ (List.mem_append_right _ h))) (by decide +kernel))
set_option maxRecDepth 20000 in
theorem gX5_write_X5_refuseIfLockedByAnother : GoodIn wsX5_write (wsV RX5 97 RX5 yX5_refuseIfLockedByAnother wsX5_refuseIfLockedByAnother) := goodIn_app (goodIn_of _ (by decide +kernel)) ggX5_write_X5_refuseIfLockedByAnother
set_option maxRecDepth 20000 in
theorem ggX5_write_X5_refuseIfNoSpace : GoodIn wsX5_write wsX5_refuseIfNoSpace := goodIn_ca (goodIn_r _ [70, 3, 4, 11, 7, 61, 21, 22, 23, 24, 25, 26, 71, 72, 73, 15, 74, 75, 76, 77, 78, 79, 27, 28, 29, 30, 31, 32, 33, 34, 35, 36, 37, 38, 39, 40, 41, 42, 43, 167, 168, 169, 170, 171, 172, 173, 174, 175, 176, 177, 178, 182, 183, 184, 185, 186, 179, 180, 181] (by decide +kernel) (by decide +kernel)) (goodIn_sub (fun _ h => List.mem_cons_of_mem _ (List.mem_append_left _ (List.mem_append_right _ h))) (by decide +kernel))
set_option maxRecDepth 20000 in
theorem gX5_write_X5_refuseIfNoSpace : GoodIn wsX5_write (wsV RX5 101 RX5 yX5_refuseIfNoSpace wsX5_refuseIfNoSpace) := goodIn_app (goodIn_of _ (by decide +kernel)) ggX5_write_X5_refuseIfNoSpace
set_option maxRecDepth 20000 in
theorem ggX5_write_X0_slotFor : GoodIn wsX5_write wsX0_slotFor := goodIn_r _ [83, 84, 85, 86, 87, 88, 89, 187, 188, 189, 182, 183, 184, 185, 186] (by decide +kernel) (by decide +kernel)
set_option maxRecDepth 20000 in
theorem gX5_write_X0_slotFor_n108 : GoodIn wsX5_write (wsX0_slotFor) := ggX5_write_X0_slotFor
set_option maxRecDepth 20000 in
theorem ggX5_write_X5_clean : GoodIn wsX5_write wsX5_clean := goodIn_r _ [93, 94, 95, 81, 96, 97, 84, 85, 86, 87, 88, 89, 167, 168, 169, 170, 171, 172, 173, 174, 187, 188, 189, 182, 183, 184, 185, 186] (by decide +kernel) (by decide +kernel)
set_option maxRecDepth 20000 in
theorem gX5_write_X5_clean : GoodIn wsX5_write (wsV RX5 114 RX5 yX5_clean wsX5_clean) := goodIn_app (goodIn_of _ (by decide +kernel)) ggX5_write_X5_clean
set_option maxRecDepth 20000 in
theorem ggX5_write_X3_give : GoodIn wsX5_write wsX3_give := goodIn_r _ [100, 89, 101, 188, 189] (by decide +kernel) (by decide +kernel)
set_option maxRecDepth 20000 in
theorem gX5_write_X3_give_n117 : GoodIn wsX5_write (wsX3_give) := ggX5_write_X3_give
set_option maxRecDepth 20000 in
theorem ggX5_write_X5_isSpaceFull : GoodIn wsX5_write wsX5_isSpaceFull := goodIn_r _ [74, 7, 11, 75, 21, 22, 23, 24, 25, 26, 76, 77, 78, 15, 79, 167, 168, 169, 170, 171, 172, 173, 174, 179, 180, 181] (by decide +kernel) (by decide +kernel)
set_option maxRecDepth 20000 in
theorem gX5_write_X5_isSpaceFull : GoodIn wsX5_write (wsV RX5 122 RX5 yX5_isSpaceFull wsX5_isSpaceFull) := goodIn_app (goodIn_of _ (by decide +kernel)) ggX5_write_X5_isSpaceFull
set_option maxRecDepth 20000 in
theorem ggX5_write_X1_init : GoodIn wsX5_write wsX1_init := goodIn_r _ [103, 104, 105, 106, 66, 107, 65, 108, 175, 176, 177, 178] (by decide +kernel) (by decide +kernel)
set_option maxRecDepth 20000 in
theorem gX5_write_X1_init_n131 : GoodIn wsX5_write (wsX1_init) := ggX5_write_X1_init
set_option maxRecDepth 20000 in
theorem ggX5_write_Jx4a65c_add_9ea2d : GoodIn wsX5_write wsJx4a65c_add_9ea2d := goodIn_r _ [112, 113, 114, 43, 26, 115, 116, 117, 24, 118, 119, 120, 121, 122, 123, 124, 125, 126, 127, 128, 129, 130, 131, 132, 133, 134, 135, 136, 137, 138, 139, 140, 141, 142, 143, 144, 145, 146, 147, 148, 149, 150, 151, 152, 153, 154, 155, 156, 157, 158, 159, 160, 161, 179, 180, 181] (by decide +kernel) (by decide +kernel)
set_option maxRecDepth 20000 in
theorem gX5_write_Jx4a65c_add_9ea2d : GoodIn wsX5_write (wsV RX5 74 RJx4a65c yJx4a65c_add_9ea2d wsJx4a65c_add_9ea2d) := goodIn_app (goodIn_of _ (by decide +kernel)) ggX5_write_Jx4a65c_add_9ea2d
set_option maxRecDepth 20000 in
theorem ggX5_write_X1_make : GoodIn wsX5_write wsX1_make := goodIn_r _ [164, 65, 107, 175, 176, 177, 178, 165, 166, 182, 183, 184, 185, 186] (by decide +kernel) (by decide +kernel)
set_option maxRecDepth 20000 in
theorem gX5_write_X1_make_n134 : GoodIn wsX5_write (wsX1_make) := ggX5_write_X1_make
theorem dX5_write_0 : decode cX5_write 0 = .ok (.aload_n 0, 1) := by decide +kernel
theorem dX5_write_1 : decode cX5_write 1 = .ok (.iload_n 1, 1) := by decide +kernel
theorem dX5_write_2 : decode cX5_write 2 = .ok (.invokevirtual 81, 3) := by decide +kernel
theorem dX5_write_5 : decode cX5_write 5 = .ok (.astore 4, 2) := by decide +kernel
theorem dX5_write_7 : decode cX5_write 7 = .ok (.aload_n 0, 1) := by decide +kernel
theorem dX5_write_8 : decode cX5_write 8 = .ok (.iload_n 2, 1) := by decide +kernel
theorem dX5_write_9 : decode cX5_write 9 = .ok (.invokevirtual 85, 3) := by decide +kernel
theorem dX5_write_12 : decode cX5_write 12 = .ok (.astore 5, 2) := by decide +kernel
theorem dX5_write_14 : decode cX5_write 14 = .ok (.iload_n 3, 1) := by decide +kernel
theorem dX5_write_15 : decode cX5_write 15 = .ok (.ldc 89, 2) := by decide +kernel
theorem dX5_write_17 : decode cX5_write 17 = .ok (.if_icmp .lt 9, 3) := by decide +kernel
theorem dX5_write_20 : decode cX5_write 20 = .ok (.iload_n 3, 1) := by decide +kernel
theorem dX5_write_21 : decode cX5_write 21 = .ok (.ldc 90, 2) := by decide +kernel
theorem dX5_write_23 : decode cX5_write 23 = .ok (.if_icmp .le 13, 3) := by decide +kernel
theorem dX5_write_26 : decode cX5_write 26 = .ok (.new 48, 3) := by decide +kernel
theorem dX5_write_29 : decode cX5_write 29 = .ok (.dup, 1) := by decide +kernel
theorem dX5_write_30 : decode cX5_write 30 = .ok (.ldc 91, 2) := by decide +kernel
theorem dX5_write_32 : decode cX5_write 32 = .ok (.invokespecial 52, 3) := by decide +kernel
theorem dX5_write_35 : decode cX5_write 35 = .ok (.athrow, 1) := by decide +kernel
theorem dX5_write_36 : decode cX5_write 36 = .ok (.aload_n 0, 1) := by decide +kernel
theorem dX5_write_37 : decode cX5_write 37 = .ok (.aload 4, 2) := by decide +kernel
theorem dX5_write_39 : decode cX5_write 39 = .ok (.invokevirtual 93, 3) := by decide +kernel
theorem dX5_write_42 : decode cX5_write 42 = .ok (.aload_n 0, 1) := by decide +kernel
theorem dX5_write_43 : decode cX5_write 43 = .ok (.aload 5, 2) := by decide +kernel
theorem dX5_write_45 : decode cX5_write 45 = .ok (.aload 4, 2) := by decide +kernel
theorem dX5_write_47 : decode cX5_write 47 = .ok (.invokevirtual 97, 3) := by decide +kernel
theorem dX5_write_50 : decode cX5_write 50 = .ok (.aload_n 0, 1) := by decide +kernel
theorem dX5_write_51 : decode cX5_write 51 = .ok (.invokevirtual 101, 3) := by decide +kernel
theorem dX5_write_54 : decode cX5_write 54 = .ok (.aload 5, 2) := by decide +kernel
theorem dX5_write_56 : decode cX5_write 56 = .ok (.getfield 104, 3) := by decide +kernel
theorem dX5_write_59 : decode cX5_write 59 = .ok (.aload 4, 2) := by decide +kernel
theorem dX5_write_61 : decode cX5_write 61 = .ok (.invokevirtual 108, 3) := by decide +kernel
theorem dX5_write_64 : decode cX5_write 64 = .ok (.astore 6, 2) := by decide +kernel
theorem dX5_write_66 : decode cX5_write 66 = .ok (.aload 6, 2) := by decide +kernel
theorem dX5_write_68 : decode cX5_write 68 = .ok (.ifnonnull 13, 3) := by decide +kernel
theorem dX5_write_71 : decode cX5_write 71 = .ok (.new 59, 3) := by decide +kernel
theorem dX5_write_74 : decode cX5_write 74 = .ok (.dup, 1) := by decide +kernel
theorem dX5_write_75 : decode cX5_write 75 = .ok (.ldc 112, 2) := by decide +kernel
theorem dX5_write_77 : decode cX5_write 77 = .ok (.invokespecial 63, 3) := by decide +kernel
theorem dX5_write_80 : decode cX5_write 80 = .ok (.athrow, 1) := by decide +kernel
theorem dX5_write_81 : decode cX5_write 81 = .ok (.aload_n 0, 1) := by decide +kernel
theorem dX5_write_82 : decode cX5_write 82 = .ok (.aload 5, 2) := by decide +kernel
theorem dX5_write_84 : decode cX5_write 84 = .ok (.getfield 104, 3) := by decide +kernel
theorem dX5_write_87 : decode cX5_write 87 = .ok (.invokevirtual 114, 3) := by decide +kernel
theorem dX5_write_90 : decode cX5_write 90 = .ok (.aload 6, 2) := by decide +kernel
theorem dX5_write_92 : decode cX5_write 92 = .ok (.aload 4, 2) := by decide +kernel
theorem dX5_write_94 : decode cX5_write 94 = .ok (.invokevirtual 117, 3) := by decide +kernel
theorem dX5_write_97 : decode cX5_write 97 = .ok (.aload_n 0, 1) := by decide +kernel
theorem dX5_write_98 : decode cX5_write 98 = .ok (.invokevirtual 122, 3) := by decide +kernel
theorem dX5_write_101 : decode cX5_write 101 = .ok (.ifCond .eq 13, 3) := by decide +kernel
theorem dX5_write_104 : decode cX5_write 104 = .ok (.aload_n 0, 1) := by decide +kernel
theorem dX5_write_105 : decode cX5_write 105 = .ok (.dup, 1) := by decide +kernel
theorem dX5_write_106 : decode cX5_write 106 = .ok (.getfield 41, 3) := by decide +kernel
theorem dX5_write_109 : decode cX5_write 109 = .ok (.iconst 1, 1) := by decide +kernel
theorem dX5_write_110 : decode cX5_write 110 = .ok (.iadd, 1) := by decide +kernel
theorem dX5_write_111 : decode cX5_write 111 = .ok (.putfield 41, 3) := by decide +kernel
theorem dX5_write_114 : decode cX5_write 114 = .ok (.new 126, 3) := by decide +kernel
theorem dX5_write_117 : decode cX5_write 117 = .ok (.dup, 1) := by decide +kernel
theorem dX5_write_118 : decode cX5_write 118 = .ok (.aload 4, 2) := by decide +kernel
theorem dX5_write_120 : decode cX5_write 120 = .ok (.aload 5, 2) := by decide +kernel
theorem dX5_write_122 : decode cX5_write 122 = .ok (.aload 5, 2) := by decide +kernel
theorem dX5_write_124 : decode cX5_write 124 = .ok (.getfield 128, 3) := by decide +kernel
theorem dX5_write_127 : decode cX5_write 127 = .ok (.invokespecial 131, 3) := by decide +kernel
theorem dX5_write_130 : decode cX5_write 130 = .ok (.astore 7, 2) := by decide +kernel
theorem dX5_write_132 : decode cX5_write 132 = .ok (.aload_n 0, 1) := by decide +kernel
theorem dX5_write_133 : decode cX5_write 133 = .ok (.getfield 28, 3) := by decide +kernel
theorem dX5_write_136 : decode cX5_write 136 = .ok (.aload 7, 2) := by decide +kernel
theorem dX5_write_138 : decode cX5_write 138 = .ok (.invokevirtual 74, 3) := by decide +kernel
theorem dX5_write_141 : decode cX5_write 141 = .ok (.pop, 1) := by decide +kernel
theorem dX5_write_142 : decode cX5_write 142 = .ok (.aload 7, 2) := by decide +kernel
theorem dX5_write_144 : decode cX5_write 144 = .ok (.iload_n 3, 1) := by decide +kernel
theorem dX5_write_145 : decode cX5_write 145 = .ok (.invokevirtual 134, 3) := by decide +kernel
theorem dX5_write_148 : decode cX5_write 148 = .ok (.aload 7, 2) := by decide +kernel
theorem dX5_write_150 : decode cX5_write 150 = .ok (.getfield 138, 3) := by decide +kernel
theorem dX5_write_153 : decode cX5_write 153 = .ok (.ireturn, 1) := by decide +kernel
set_option maxRecDepth 20000 in
theorem ggX5_read_X5_transactionNumbered : GoodIn wsX5_read wsX5_transactionNumbered := goodIn_ca (goodIn_r _ [5, 6, 7, 8, 9, 10, 11, 12, 13, 14, 15, 16, 17, 18, 19, 20, 21, 22, 23, 24, 25, 26, 27, 28, 29, 30, 31, 32, 96, 97, 98, 99, 100, 101, 102, 103, 104, 105, 106] (by decide +kernel) (by decide +kernel)) (goodIn_sub (fun _ h => List.mem_cons_of_mem _ (List.mem_append_left _ (List.mem_append_left _ (List.mem_append_right _ h)))) (by decide +kernel))
set_option maxRecDepth 20000 in
theorem gX5_read_X5_transactionNumbered : GoodIn wsX5_read (wsV RX5 81 RX5 yX5_transactionNumbered wsX5_transactionNumbered) := goodIn_app (goodIn_of _ (by decide +kernel)) ggX5_read_X5_transactionNumbered
set_option maxRecDepth 20000 in
theorem ggX5_read_X5_rowNumbered : GoodIn wsX5_read wsX5_rowNumbered := goodIn_ca (goodIn_r _ [36, 6, 7, 37, 96, 97, 98, 99, 100, 101, 102, 103] (by decide +kernel) (by decide +kernel)) (goodIn_sub (fun _ h => List.mem_cons_of_mem _ (List.mem_append_left _ (List.mem_append_left _ (List.mem_append_right _ h)))) (by decide +kernel))
set_option maxRecDepth 20000 in
theorem gX5_read_X5_rowNumbered : GoodIn wsX5_read (wsV RX5 85 RX5 yX5_rowNumbered wsX5_rowNumbered) := goodIn_app (goodIn_of _ (by decide +kernel)) ggX5_read_X5_rowNumbered
set_option maxRecDepth 20000 in
theorem ggX5_read_X5_refuseIfEnded : GoodIn wsX5_read wsX5_refuseIfEnded := goodIn_ca (goodIn_r _ [41, 42, 43, 91, 92, 93, 94, 95] (by decide +kernel) (by decide +kernel)) (goodIn_sub (fun _ h => List.mem_cons_of_mem _ (List.mem_append_left _ (List.mem_append_right _ h))) (by decide +kernel))
set_option maxRecDepth 20000 in
theorem gX5_read_X5_refuseIfEnded : GoodIn wsX5_read (wsV RX5 93 RX5 yX5_refuseIfEnded wsX5_refuseIfEnded) := goodIn_app (goodIn_of _ (by decide +kernel)) ggX5_read_X5_refuseIfEnded
set_option maxRecDepth 20000 in
theorem ggX5_read_X5_readFromRecords : GoodIn wsX5_read wsX5_readFromRecords := goodIn_ca (goodIn_r _ [47, 48, 49, 50, 51, 52, 53, 4, 54, 55, 56, 10, 11, 12, 13, 14, 15, 16, 17, 18, 19, 20, 21, 22, 23, 24, 25, 26, 27, 28, 29, 30, 31, 32, 57, 58, 59, 60, 61, 62, 63, 64, 65, 66, 67, 68, 69, 70, 71, 72, 73, 74, 75, 76, 77, 78, 79, 80, 81, 82, 83, 84, 85, 86, 87, 88, 89, 90, 96, 97, 98, 99, 100, 101, 102, 103, 107, 108, 104, 105, 106, 109, 110, 111, 112, 91, 92, 93, 94, 95, 113, 114, 115] (by decide +kernel) (by decide +kernel)) (goodIn_sub (fun _ h => List.mem_cons_of_mem _ (List.mem_append_right _ h)) (by decide +kernel))
set_option maxRecDepth 20000 in
theorem gX5_read_X5_readFromRecords : GoodIn wsX5_read (wsV RX5 144 RX5 yX5_readFromRecords wsX5_readFromRecords) := goodIn_app (goodIn_of _ (by decide +kernel)) ggX5_read_X5_readFromRecords
theorem dX5_read_0 : decode cX5_read 0 = .ok (.aload_n 0, 1) := by decide +kernel
theorem dX5_read_1 : decode cX5_read 1 = .ok (.iload_n 1, 1) := by decide +kernel
theorem dX5_read_2 : decode cX5_read 2 = .ok (.invokevirtual 81, 3) := by decide +kernel
theorem dX5_read_5 : decode cX5_read 5 = .ok (.astore_n 3, 1) := by decide +kernel
theorem dX5_read_6 : decode cX5_read 6 = .ok (.aload_n 0, 1) := by decide +kernel
theorem dX5_read_7 : decode cX5_read 7 = .ok (.iload_n 2, 1) := by decide +kernel
theorem dX5_read_8 : decode cX5_read 8 = .ok (.invokevirtual 85, 3) := by decide +kernel
theorem dX5_read_11 : decode cX5_read 11 = .ok (.astore 4, 2) := by decide +kernel
theorem dX5_read_13 : decode cX5_read 13 = .ok (.aload_n 0, 1) := by decide +kernel
theorem dX5_read_14 : decode cX5_read 14 = .ok (.aload_n 3, 1) := by decide +kernel
theorem dX5_read_15 : decode cX5_read 15 = .ok (.invokevirtual 93, 3) := by decide +kernel
theorem dX5_read_18 : decode cX5_read 18 = .ok (.aload_n 0, 1) := by decide +kernel
theorem dX5_read_19 : decode cX5_read 19 = .ok (.aload 4, 2) := by decide +kernel
theorem dX5_read_21 : decode cX5_read 21 = .ok (.aload_n 3, 1) := by decide +kernel
theorem dX5_read_22 : decode cX5_read 22 = .ok (.getfield 141, 3) := by decide +kernel
theorem dX5_read_25 : decode cX5_read 25 = .ok (.aload_n 3, 1) := by decide +kernel
theorem dX5_read_26 : decode cX5_read 26 = .ok (.invokevirtual 144, 3) := by decide +kernel
theorem dX5_read_29 : decode cX5_read 29 = .ok (.ireturn, 1) := by decide +kernel
set_option maxRecDepth 20000 in
theorem ggX5_readAt_X5_rowNumbered : GoodIn wsX5_readAt wsX5_rowNumbered := goodIn_ca (goodIn_r _ [5, 6, 7, 8, 86, 87, 88, 89, 90, 91, 92, 93] (by decide +kernel) (by decide +kernel)) (goodIn_sub (fun _ h => List.mem_cons_of_mem _ (List.mem_append_left _ (List.mem_append_left _ (List.mem_append_right _ h)))) (by decide +kernel))
set_option maxRecDepth 20000 in
theorem gX5_readAt_X5_rowNumbered : GoodIn wsX5_readAt (wsV RX5 85 RX5 yX5_rowNumbered wsX5_rowNumbered) := goodIn_app (goodIn_of _ (by decide +kernel)) ggX5_readAt_X5_rowNumbered
set_option maxRecDepth 20000 in
theorem ggX5_readAt_X5_refuseIfNotYet : GoodIn wsX5_readAt wsX5_refuseIfNotYet := goodIn_ca (goodIn_r _ [12, 13, 14, 15, 86, 87, 88, 89, 90, 91, 92, 93] (by decide +kernel) (by decide +kernel)) (goodIn_sub (fun _ h => List.mem_cons_of_mem _ (List.mem_append_left _ (List.mem_append_right _ h))) (by decide +kernel))
set_option maxRecDepth 20000 in
theorem gX5_readAt_X5_refuseIfNotYet : GoodIn wsX5_readAt (wsV RX5 148 RX5 yX5_refuseIfNotYet wsX5_refuseIfNotYet) := goodIn_app (goodIn_of _ (by decide +kernel)) ggX5_readAt_X5_refuseIfNotYet
set_option maxRecDepth 20000 in
theorem ggX5_readAt_X5_readFromRecords : GoodIn wsX5_readAt wsX5_readFromRecords := goodIn_ca (goodIn_r _ [19, 20, 21, 22, 23, 24, 25, 4, 26, 27, 28, 29, 30, 31, 32, 33, 34, 35, 36, 37, 38, 39, 40, 41, 42, 43, 44, 45, 46, 47, 48, 49, 50, 51, 52, 53, 54, 55, 56, 57, 58, 59, 60, 61, 62, 63, 64, 65, 66, 67, 68, 69, 70, 71, 72, 73, 74, 75, 76, 77, 78, 79, 80, 81, 82, 83, 84, 85, 86, 87, 88, 89, 90, 91, 92, 93, 94, 95, 96, 97, 98, 99, 100, 101, 102, 103, 104, 105, 106, 107, 108, 109, 110] (by decide +kernel) (by decide +kernel)) (goodIn_sub (fun _ h => List.mem_cons_of_mem _ (List.mem_append_right _ h)) (by decide +kernel))
set_option maxRecDepth 20000 in
theorem gX5_readAt_X5_readFromRecords : GoodIn wsX5_readAt (wsV RX5 144 RX5 yX5_readFromRecords wsX5_readFromRecords) := goodIn_app (goodIn_of _ (by decide +kernel)) ggX5_readAt_X5_readFromRecords
theorem dX5_readAt_0 : decode cX5_readAt 0 = .ok (.aload_n 0, 1) := by decide +kernel
theorem dX5_readAt_1 : decode cX5_readAt 1 = .ok (.iload_n 2, 1) := by decide +kernel
theorem dX5_readAt_2 : decode cX5_readAt 2 = .ok (.invokevirtual 85, 3) := by decide +kernel
theorem dX5_readAt_5 : decode cX5_readAt 5 = .ok (.astore_n 3, 1) := by decide +kernel
theorem dX5_readAt_6 : decode cX5_readAt 6 = .ok (.aload_n 0, 1) := by decide +kernel
theorem dX5_readAt_7 : decode cX5_readAt 7 = .ok (.iload_n 1, 1) := by decide +kernel
theorem dX5_readAt_8 : decode cX5_readAt 8 = .ok (.invokevirtual 148, 3) := by decide +kernel
theorem dX5_readAt_11 : decode cX5_readAt 11 = .ok (.aload_n 0, 1) := by decide +kernel
theorem dX5_readAt_12 : decode cX5_readAt 12 = .ok (.aload_n 3, 1) := by decide +kernel
theorem dX5_readAt_13 : decode cX5_readAt 13 = .ok (.iload_n 1, 1) := by decide +kernel
theorem dX5_readAt_14 : decode cX5_readAt 14 = .ok (.aconst_null, 1) := by decide +kernel
theorem dX5_readAt_15 : decode cX5_readAt 15 = .ok (.invokevirtual 144, 3) := by decide +kernel
theorem dX5_readAt_18 : decode cX5_readAt 18 = .ok (.ireturn, 1) := by decide +kernel
set_option maxRecDepth 20000 in
theorem ggX5_save_X5_transactionNumbered : GoodIn wsX5_save wsX5_transactionNumbered := goodIn_ca (goodIn_r _ [5, 6, 7, 8, 9, 10, 11, 12, 13, 14, 15, 16, 17, 18, 19, 20, 21, 22, 23, 24, 25, 26, 27, 28, 29, 30, 31, 32, 44, 45, 46, 47, 48, 49, 50, 51, 52, 53, 54] (by decide +kernel) (by decide +kernel)) (goodIn_sub (fun _ h => List.mem_cons_of_mem _ (List.mem_append_left _ (List.mem_append_right _ h))) (by decide +kernel))
set_option maxRecDepth 20000 in
theorem gX5_save_X5_transactionNumbered : GoodIn wsX5_save (wsV RX5 81 RX5 yX5_transactionNumbered wsX5_transactionNumbered) := goodIn_app (goodIn_of _ (by decide +kernel)) ggX5_save_X5_transactionNumbered
set_option maxRecDepth 20000 in
theorem ggX5_save_X5_refuseIfEnded : GoodIn wsX5_save wsX5_refuseIfEnded := goodIn_ca (goodIn_r _ [36, 37, 38, 39, 40, 41, 42, 43] (by decide +kernel) (by decide +kernel)) (goodIn_sub (fun _ h => List.mem_cons_of_mem _ (List.mem_append_right _ h)) (by decide +kernel))
set_option maxRecDepth 20000 in
theorem gX5_save_X5_refuseIfEnded : GoodIn wsX5_save (wsV RX5 93 RX5 yX5_refuseIfEnded wsX5_refuseIfEnded) := goodIn_app (goodIn_of _ (by decide +kernel)) ggX5_save_X5_refuseIfEnded
theorem dX5_save_0 : decode cX5_save 0 = .ok (.aload_n 0, 1) := by decide +kernel
theorem dX5_save_1 : decode cX5_save 1 = .ok (.iload_n 1, 1) := by decide +kernel
theorem dX5_save_2 : decode cX5_save 2 = .ok (.invokevirtual 81, 3) := by decide +kernel
theorem dX5_save_5 : decode cX5_save 5 = .ok (.astore_n 2, 1) := by decide +kernel
theorem dX5_save_6 : decode cX5_save 6 = .ok (.aload_n 0, 1) := by decide +kernel
theorem dX5_save_7 : decode cX5_save 7 = .ok (.aload_n 2, 1) := by decide +kernel
theorem dX5_save_8 : decode cX5_save 8 = .ok (.invokevirtual 93, 3) := by decide +kernel
theorem dX5_save_11 : decode cX5_save 11 = .ok (.aload_n 2, 1) := by decide +kernel
theorem dX5_save_12 : decode cX5_save 12 = .ok (.getfield 151, 3) := by decide +kernel
theorem dX5_save_15 : decode cX5_save 15 = .ok (.ireturn, 1) := by decide +kernel
set_option maxRecDepth 20000 in
theorem ggX5_undoTo_X5_transactionNumbered : GoodIn wsX5_undoTo wsX5_transactionNumbered := goodIn_ca (goodIn_r _ [7, 8, 9, 10, 11, 12, 13, 14, 15, 16, 17, 18, 19, 20, 21, 22, 23, 24, 25, 26, 27, 28, 29, 30, 31, 32, 33, 34, 60, 61, 62, 63, 64, 65, 66, 67, 68, 69, 70] (by decide +kernel) (by decide +kernel)) (goodIn_sub (fun _ h => List.mem_cons_of_mem _ (List.mem_append_left _ (List.mem_append_right _ h))) (by decide +kernel))
set_option maxRecDepth 20000 in
theorem gX5_undoTo_X5_transactionNumbered : GoodIn wsX5_undoTo (wsV RX5 81 RX5 yX5_transactionNumbered wsX5_transactionNumbered) := goodIn_app (goodIn_of _ (by decide +kernel)) ggX5_undoTo_X5_transactionNumbered
set_option maxRecDepth 20000 in
theorem ggX5_undoTo_X5_refuseIfEnded : GoodIn wsX5_undoTo wsX5_refuseIfEnded := goodIn_ca (goodIn_r _ [38, 39, 40, 55, 56, 57, 58, 59] (by decide +kernel) (by decide +kernel)) (goodIn_sub (fun _ h => List.mem_cons_of_mem _ (List.mem_append_right _ h)) (by decide +kernel))
set_option maxRecDepth 20000 in
theorem gX5_undoTo_X5_refuseIfEnded : GoodIn wsX5_undoTo (wsV RX5 93 RX5 yX5_refuseIfEnded wsX5_refuseIfEnded) := goodIn_app (goodIn_of _ (by decide +kernel)) ggX5_undoTo_X5_refuseIfEnded
set_option maxRecDepth 20000 in
theorem ggX5_undoTo_X5_undoDownTo : GoodIn wsX5_undoTo wsX5_undoDownTo := goodIn_r _ [44, 45, 46, 12, 13, 14, 15, 16, 17, 18, 19, 20, 21, 22, 23, 24, 25, 26, 27, 28, 29, 30, 31, 32, 33, 34, 47, 48, 49, 50, 51, 52, 53, 54, 60, 61, 62, 63, 64, 65, 66, 67, 55, 56, 57, 58, 59, 71, 72, 73, 74, 68, 69, 70, 75, 76] (by decide +kernel) (by decide +kernel)
set_option maxRecDepth 20000 in
theorem gX5_undoTo_X5_undoDownTo : GoodIn wsX5_undoTo (wsV RX5 156 RX5 yX5_undoDownTo wsX5_undoDownTo) := goodIn_app (goodIn_of _ (by decide +kernel)) ggX5_undoTo_X5_undoDownTo
theorem dX5_undoTo_0 : decode cX5_undoTo 0 = .ok (.aload_n 0, 1) := by decide +kernel
theorem dX5_undoTo_1 : decode cX5_undoTo 1 = .ok (.iload_n 1, 1) := by decide +kernel
theorem dX5_undoTo_2 : decode cX5_undoTo 2 = .ok (.invokevirtual 81, 3) := by decide +kernel
theorem dX5_undoTo_5 : decode cX5_undoTo 5 = .ok (.astore_n 3, 1) := by decide +kernel
theorem dX5_undoTo_6 : decode cX5_undoTo 6 = .ok (.aload_n 0, 1) := by decide +kernel
theorem dX5_undoTo_7 : decode cX5_undoTo 7 = .ok (.aload_n 3, 1) := by decide +kernel
theorem dX5_undoTo_8 : decode cX5_undoTo 8 = .ok (.invokevirtual 93, 3) := by decide +kernel
theorem dX5_undoTo_11 : decode cX5_undoTo 11 = .ok (.iload_n 2, 1) := by decide +kernel
theorem dX5_undoTo_12 : decode cX5_undoTo 12 = .ok (.ifCond .lt 11, 3) := by decide +kernel
theorem dX5_undoTo_15 : decode cX5_undoTo 15 = .ok (.iload_n 2, 1) := by decide +kernel
theorem dX5_undoTo_16 : decode cX5_undoTo 16 = .ok (.aload_n 3, 1) := by decide +kernel
theorem dX5_undoTo_17 : decode cX5_undoTo 17 = .ok (.getfield 151, 3) := by decide +kernel
theorem dX5_undoTo_20 : decode cX5_undoTo 20 = .ok (.if_icmp .le 13, 3) := by decide +kernel
theorem dX5_undoTo_23 : decode cX5_undoTo 23 = .ok (.new 48, 3) := by decide +kernel
theorem dX5_undoTo_26 : decode cX5_undoTo 26 = .ok (.dup, 1) := by decide +kernel
theorem dX5_undoTo_27 : decode cX5_undoTo 27 = .ok (.ldc 154, 2) := by decide +kernel
theorem dX5_undoTo_29 : decode cX5_undoTo 29 = .ok (.invokespecial 52, 3) := by decide +kernel
theorem dX5_undoTo_32 : decode cX5_undoTo 32 = .ok (.athrow, 1) := by decide +kernel
theorem dX5_undoTo_33 : decode cX5_undoTo 33 = .ok (.aload_n 0, 1) := by decide +kernel
theorem dX5_undoTo_34 : decode cX5_undoTo 34 = .ok (.aload_n 3, 1) := by decide +kernel
theorem dX5_undoTo_35 : decode cX5_undoTo 35 = .ok (.iload_n 2, 1) := by decide +kernel
theorem dX5_undoTo_36 : decode cX5_undoTo 36 = .ok (.invokevirtual 156, 3) := by decide +kernel
theorem dX5_undoTo_39 : decode cX5_undoTo 39 = .ok (.ireturn, 1) := by decide +kernel
set_option maxRecDepth 20000 in
theorem ggX5_undo_X5_transactionNumbered : GoodIn wsX5_undo wsX5_transactionNumbered := goodIn_ca (goodIn_r _ [5, 6, 7, 8, 9, 10, 11, 12, 13, 14, 15, 16, 17, 18, 19, 20, 21, 22, 23, 24, 25, 26, 27, 28, 29, 30, 31, 32, 58, 59, 60, 61, 62, 63, 64, 65, 66, 67, 68] (by decide +kernel) (by decide +kernel)) (goodIn_sub (fun _ h => List.mem_cons_of_mem _ (List.mem_append_left _ (List.mem_append_right _ h))) (by decide +kernel))
set_option maxRecDepth 20000 in
theorem gX5_undo_X5_transactionNumbered : GoodIn wsX5_undo (wsV RX5 81 RX5 yX5_transactionNumbered wsX5_transactionNumbered) := goodIn_app (goodIn_of _ (by decide +kernel)) ggX5_undo_X5_transactionNumbered
set_option maxRecDepth 20000 in
theorem ggX5_undo_X5_refuseIfEnded : GoodIn wsX5_undo wsX5_refuseIfEnded := goodIn_ca (goodIn_r _ [36, 37, 38, 53, 54, 55, 56, 57] (by decide +kernel) (by decide +kernel)) (goodIn_sub (fun _ h => List.mem_cons_of_mem _ (List.mem_append_right _ h)) (by decide +kernel))
set_option maxRecDepth 20000 in
theorem gX5_undo_X5_refuseIfEnded : GoodIn wsX5_undo (wsV RX5 93 RX5 yX5_refuseIfEnded wsX5_refuseIfEnded) := goodIn_app (goodIn_of _ (by decide +kernel)) ggX5_undo_X5_refuseIfEnded
set_option maxRecDepth 20000 in
theorem ggX5_undo_X5_undoDownTo : GoodIn wsX5_undo wsX5_undoDownTo := goodIn_r _ [42, 43, 44, 10, 11, 12, 13, 14, 15, 16, 17, 18, 19, 20, 21, 22, 23, 24, 25, 26, 27, 28, 29, 30, 31, 32, 45, 46, 47, 48, 49, 50, 51, 52, 58, 59, 60, 61, 62, 63, 64, 65, 53, 54, 55, 56, 57, 69, 70, 71, 72, 66, 67, 68, 73, 74] (by decide +kernel) (by decide +kernel)
set_option maxRecDepth 20000 in
theorem gX5_undo_X5_undoDownTo : GoodIn wsX5_undo (wsV RX5 156 RX5 yX5_undoDownTo wsX5_undoDownTo) := goodIn_app (goodIn_of _ (by decide +kernel)) ggX5_undo_X5_undoDownTo
theorem dX5_undo_0 : decode cX5_undo 0 = .ok (.aload_n 0, 1) := by decide +kernel
theorem dX5_undo_1 : decode cX5_undo 1 = .ok (.iload_n 1, 1) := by decide +kernel
theorem dX5_undo_2 : decode cX5_undo 2 = .ok (.invokevirtual 81, 3) := by decide +kernel
theorem dX5_undo_5 : decode cX5_undo 5 = .ok (.astore_n 2, 1) := by decide +kernel
theorem dX5_undo_6 : decode cX5_undo 6 = .ok (.aload_n 0, 1) := by decide +kernel
theorem dX5_undo_7 : decode cX5_undo 7 = .ok (.aload_n 2, 1) := by decide +kernel
theorem dX5_undo_8 : decode cX5_undo 8 = .ok (.invokevirtual 93, 3) := by decide +kernel
theorem dX5_undo_11 : decode cX5_undo 11 = .ok (.aload_n 0, 1) := by decide +kernel
theorem dX5_undo_12 : decode cX5_undo 12 = .ok (.aload_n 2, 1) := by decide +kernel
theorem dX5_undo_13 : decode cX5_undo 13 = .ok (.iconst 0, 1) := by decide +kernel
theorem dX5_undo_14 : decode cX5_undo 14 = .ok (.invokevirtual 156, 3) := by decide +kernel
theorem dX5_undo_17 : decode cX5_undo 17 = .ok (.istore_n 3, 1) := by decide +kernel
theorem dX5_undo_18 : decode cX5_undo 18 = .ok (.aload_n 2, 1) := by decide +kernel
theorem dX5_undo_19 : decode cX5_undo 19 = .ok (.iconst 0, 1) := by decide +kernel
theorem dX5_undo_20 : decode cX5_undo 20 = .ok (.putfield 160, 3) := by decide +kernel
theorem dX5_undo_23 : decode cX5_undo 23 = .ok (.iload_n 3, 1) := by decide +kernel
theorem dX5_undo_24 : decode cX5_undo 24 = .ok (.ireturn, 1) := by decide +kernel
set_option maxRecDepth 20000 in
theorem ggX5_commit_X5_transactionNumbered : GoodIn wsX5_commit wsX5_transactionNumbered := goodIn_ca (goodIn_r _ [6, 7, 8, 9, 10, 11, 12, 13, 14, 15, 16, 17, 18, 19, 20, 21, 22, 23, 24, 25, 26, 27, 28, 29, 30, 31, 32, 33, 40, 41, 42, 43, 44, 45, 46, 47, 53, 54, 55] (by decide +kernel) (by decide +kernel)) (goodIn_sub (fun _ h => List.mem_cons_of_mem _ (List.mem_append_left _ (List.mem_append_right _ h))) (by decide +kernel))
set_option maxRecDepth 20000 in
theorem gX5_commit_X5_transactionNumbered : GoodIn wsX5_commit (wsV RX5 81 RX5 yX5_transactionNumbered wsX5_transactionNumbered) := goodIn_app (goodIn_of _ (by decide +kernel)) ggX5_commit_X5_transactionNumbered
set_option maxRecDepth 20000 in
theorem ggX5_commit_X5_refuseIfEnded : GoodIn wsX5_commit wsX5_refuseIfEnded := goodIn_ca (goodIn_r _ [37, 38, 39, 48, 49, 50, 51, 52] (by decide +kernel) (by decide +kernel)) (goodIn_sub (fun _ h => List.mem_cons_of_mem _ (List.mem_append_right _ h)) (by decide +kernel))
set_option maxRecDepth 20000 in
theorem gX5_commit_X5_refuseIfEnded : GoodIn wsX5_commit (wsV RX5 93 RX5 yX5_refuseIfEnded wsX5_refuseIfEnded) := goodIn_app (goodIn_of _ (by decide +kernel)) ggX5_commit_X5_refuseIfEnded
theorem dX5_commit_0 : decode cX5_commit 0 = .ok (.aload_n 0, 1) := by decide +kernel
theorem dX5_commit_1 : decode cX5_commit 1 = .ok (.iload_n 1, 1) := by decide +kernel
theorem dX5_commit_2 : decode cX5_commit 2 = .ok (.invokevirtual 81, 3) := by decide +kernel
theorem dX5_commit_5 : decode cX5_commit 5 = .ok (.astore_n 2, 1) := by decide +kernel
theorem dX5_commit_6 : decode cX5_commit 6 = .ok (.aload_n 0, 1) := by decide +kernel
theorem dX5_commit_7 : decode cX5_commit 7 = .ok (.aload_n 2, 1) := by decide +kernel
theorem dX5_commit_8 : decode cX5_commit 8 = .ok (.invokevirtual 93, 3) := by decide +kernel
theorem dX5_commit_11 : decode cX5_commit 11 = .ok (.aload_n 0, 1) := by decide +kernel
theorem dX5_commit_12 : decode cX5_commit 12 = .ok (.dup, 1) := by decide +kernel
theorem dX5_commit_13 : decode cX5_commit 13 = .ok (.getfield 35, 3) := by decide +kernel
theorem dX5_commit_16 : decode cX5_commit 16 = .ok (.iconst 1, 1) := by decide +kernel
theorem dX5_commit_17 : decode cX5_commit 17 = .ok (.iadd, 1) := by decide +kernel
theorem dX5_commit_18 : decode cX5_commit 18 = .ok (.putfield 35, 3) := by decide +kernel
theorem dX5_commit_21 : decode cX5_commit 21 = .ok (.aload_n 2, 1) := by decide +kernel
theorem dX5_commit_22 : decode cX5_commit 22 = .ok (.aload_n 0, 1) := by decide +kernel
theorem dX5_commit_23 : decode cX5_commit 23 = .ok (.getfield 35, 3) := by decide +kernel
theorem dX5_commit_26 : decode cX5_commit 26 = .ok (.putfield 164, 3) := by decide +kernel
theorem dX5_commit_29 : decode cX5_commit 29 = .ok (.aload_n 2, 1) := by decide +kernel
theorem dX5_commit_30 : decode cX5_commit 30 = .ok (.iconst 0, 1) := by decide +kernel
theorem dX5_commit_31 : decode cX5_commit 31 = .ok (.putfield 160, 3) := by decide +kernel
theorem dX5_commit_34 : decode cX5_commit 34 = .ok (.aload_n 0, 1) := by decide +kernel
theorem dX5_commit_35 : decode cX5_commit 35 = .ok (.getfield 35, 3) := by decide +kernel
theorem dX5_commit_38 : decode cX5_commit 38 = .ok (.ireturn, 1) := by decide +kernel
theorem dX5_moment_0 : decode cX5_moment 0 = .ok (.aload_n 0, 1) := by decide +kernel
theorem dX5_moment_1 : decode cX5_moment 1 = .ok (.getfield 35, 3) := by decide +kernel
theorem dX5_moment_4 : decode cX5_moment 4 = .ok (.ireturn, 1) := by decide +kernel
set_option maxRecDepth 20000 in
theorem ggX5_transactions_Jx4a65c_size_8abf5 : GoodIn wsX5_transactions wsJx4a65c_size_8abf5 := goodIn_r _ [6, 7, 16, 17, 18] (by decide +kernel) (by decide +kernel)
set_option maxRecDepth 20000 in
theorem gX5_transactions_Jx4a65c_size_8abf5 : GoodIn wsX5_transactions (wsV RX5 64 RJx4a65c yJx4a65c_size_8abf5 wsJx4a65c_size_8abf5) := goodIn_app (goodIn_of _ (by decide +kernel)) ggX5_transactions_Jx4a65c_size_8abf5
theorem dX5_transactions_0 : decode cX5_transactions 0 = .ok (.aload_n 0, 1) := by decide +kernel
theorem dX5_transactions_1 : decode cX5_transactions 1 = .ok (.getfield 24, 3) := by decide +kernel
theorem dX5_transactions_4 : decode cX5_transactions 4 = .ok (.invokevirtual 64, 3) := by decide +kernel
theorem dX5_transactions_7 : decode cX5_transactions 7 = .ok (.ireturn, 1) := by decide +kernel
set_option maxRecDepth 20000 in
theorem ggX5_now_X5_rowNumbered : GoodIn wsX5_now wsX5_rowNumbered := goodIn_ca (goodIn_r _ [5, 6, 7, 8, 11, 12, 13, 14, 15, 16, 17, 18] (by decide +kernel) (by decide +kernel)) (goodIn_sub (fun _ h => List.mem_cons_of_mem _ (List.mem_append_right _ h)) (by decide +kernel))
set_option maxRecDepth 20000 in
theorem gX5_now_X5_rowNumbered : GoodIn wsX5_now (wsV RX5 85 RX5 yX5_rowNumbered wsX5_rowNumbered) := goodIn_app (goodIn_of _ (by decide +kernel)) ggX5_now_X5_rowNumbered
theorem dX5_now_0 : decode cX5_now 0 = .ok (.aload_n 0, 1) := by decide +kernel
theorem dX5_now_1 : decode cX5_now 1 = .ok (.iload_n 1, 1) := by decide +kernel
theorem dX5_now_2 : decode cX5_now 2 = .ok (.invokevirtual 85, 3) := by decide +kernel
theorem dX5_now_5 : decode cX5_now 5 = .ok (.getfield 128, 3) := by decide +kernel
theorem dX5_now_8 : decode cX5_now 8 = .ok (.ireturn, 1) := by decide +kernel
set_option maxRecDepth 20000 in
theorem ggX5_versionAt_X5_rowNumbered : GoodIn wsX5_versionAt wsX5_rowNumbered := goodIn_ca (goodIn_r _ [5, 6, 7, 8, 64, 65, 66, 67, 68, 69, 70, 71] (by decide +kernel) (by decide +kernel)) (goodIn_sub (fun _ h => List.mem_cons_of_mem _ (List.mem_append_left _ (List.mem_append_right _ h))) (by decide +kernel))
set_option maxRecDepth 20000 in
theorem gX5_versionAt_X5_rowNumbered : GoodIn wsX5_versionAt (wsV RX5 85 RX5 yX5_rowNumbered wsX5_rowNumbered) := goodIn_app (goodIn_of _ (by decide +kernel)) ggX5_versionAt_X5_rowNumbered
set_option maxRecDepth 20000 in
theorem ggX5_versionAt_X5_refuseIfNotYet : GoodIn wsX5_versionAt wsX5_refuseIfNotYet := goodIn_ca (goodIn_r _ [12, 13, 14, 15, 64, 65, 66, 67, 68, 69, 70, 71] (by decide +kernel) (by decide +kernel)) (goodIn_sub (fun _ h => List.mem_cons_of_mem _ (List.mem_append_right _ h)) (by decide +kernel))
set_option maxRecDepth 20000 in
theorem gX5_versionAt_X5_refuseIfNotYet : GoodIn wsX5_versionAt (wsV RX5 148 RX5 yX5_refuseIfNotYet wsX5_refuseIfNotYet) := goodIn_app (goodIn_of _ (by decide +kernel)) ggX5_versionAt_X5_refuseIfNotYet
set_option maxRecDepth 20000 in
theorem ggX5_versionAt_X5_oldestUnseen : GoodIn wsX5_versionAt wsX5_oldestUnseen := goodIn_r _ [19, 20, 21, 22, 23, 24, 25, 26, 27, 28, 29, 30, 31, 32, 33, 34, 35, 36, 37, 38, 39, 40, 41, 42, 43, 44, 45, 46, 47, 48, 49, 50, 51, 52, 53, 54, 55, 56, 57, 58, 59, 64, 65, 66, 67, 68, 69, 70, 71, 72, 73, 74, 75, 76, 77, 78, 79, 80, 81, 82, 83] (by decide +kernel) (by decide +kernel)
set_option maxRecDepth 20000 in
theorem gX5_versionAt_X5_oldestUnseen : GoodIn wsX5_versionAt (wsV RX5 167 RX5 yX5_oldestUnseen wsX5_oldestUnseen) := goodIn_app (goodIn_of _ (by decide +kernel)) ggX5_versionAt_X5_oldestUnseen
set_option maxRecDepth 20000 in
theorem ggX5_versionAt_X5_valueAheadOf : GoodIn wsX5_versionAt wsX5_valueAheadOf := goodIn_r _ [63, 20, 21, 22, 23, 24, 25, 26, 27, 28, 29, 30, 31, 32, 33, 34, 35, 36, 37, 38, 39, 40, 41, 42, 43, 44, 64, 65, 66, 67, 68, 69, 70, 71, 84, 85, 75, 76, 77, 78, 72, 73, 74] (by decide +kernel) (by decide +kernel)
set_option maxRecDepth 20000 in
theorem gX5_versionAt_X5_valueAheadOf : GoodIn wsX5_versionAt (wsV RX5 170 RX5 yX5_valueAheadOf wsX5_valueAheadOf) := goodIn_app (goodIn_of _ (by decide +kernel)) ggX5_versionAt_X5_valueAheadOf
theorem dX5_versionAt_0 : decode cX5_versionAt 0 = .ok (.aload_n 0, 1) := by decide +kernel
theorem dX5_versionAt_1 : decode cX5_versionAt 1 = .ok (.iload_n 2, 1) := by decide +kernel
theorem dX5_versionAt_2 : decode cX5_versionAt 2 = .ok (.invokevirtual 85, 3) := by decide +kernel
theorem dX5_versionAt_5 : decode cX5_versionAt 5 = .ok (.astore_n 3, 1) := by decide +kernel
theorem dX5_versionAt_6 : decode cX5_versionAt 6 = .ok (.aload_n 0, 1) := by decide +kernel
theorem dX5_versionAt_7 : decode cX5_versionAt 7 = .ok (.iload_n 1, 1) := by decide +kernel
theorem dX5_versionAt_8 : decode cX5_versionAt 8 = .ok (.invokevirtual 148, 3) := by decide +kernel
theorem dX5_versionAt_11 : decode cX5_versionAt 11 = .ok (.aload_n 0, 1) := by decide +kernel
theorem dX5_versionAt_12 : decode cX5_versionAt 12 = .ok (.aload_n 0, 1) := by decide +kernel
theorem dX5_versionAt_13 : decode cX5_versionAt 13 = .ok (.aload_n 3, 1) := by decide +kernel
theorem dX5_versionAt_14 : decode cX5_versionAt 14 = .ok (.iload_n 1, 1) := by decide +kernel
theorem dX5_versionAt_15 : decode cX5_versionAt 15 = .ok (.aconst_null, 1) := by decide +kernel
theorem dX5_versionAt_16 : decode cX5_versionAt 16 = .ok (.invokevirtual 167, 3) := by decide +kernel
theorem dX5_versionAt_19 : decode cX5_versionAt 19 = .ok (.aload_n 3, 1) := by decide +kernel
theorem dX5_versionAt_20 : decode cX5_versionAt 20 = .ok (.invokevirtual 170, 3) := by decide +kernel
theorem dX5_versionAt_23 : decode cX5_versionAt 23 = .ok (.ireturn, 1) := by decide +kernel
set_option maxRecDepth 20000 in
theorem ggX5_lockOf_X5_rowNumbered : GoodIn wsX5_lockOf wsX5_rowNumbered := goodIn_ca (goodIn_r _ [5, 6, 7, 8, 49, 50, 51, 52, 53, 54, 55, 56] (by decide +kernel) (by decide +kernel)) (goodIn_sub (fun _ h => List.mem_cons_of_mem _ (List.mem_append_right _ h)) (by decide +kernel))
set_option maxRecDepth 20000 in
theorem gX5_lockOf_X5_rowNumbered : GoodIn wsX5_lockOf (wsV RX5 85 RX5 yX5_rowNumbered wsX5_rowNumbered) := goodIn_app (goodIn_of _ (by decide +kernel)) ggX5_lockOf_X5_rowNumbered
set_option maxRecDepth 20000 in
theorem ggX5_lockOf_X5_lockerOf : GoodIn wsX5_lockOf wsX5_lockerOf := goodIn_r _ [12, 13, 14, 15, 16, 17, 18, 19, 20, 21, 22, 23, 24, 25, 26, 27, 28, 29, 30, 31, 32, 33, 34, 35, 36, 37, 38, 39, 40, 41, 42, 43, 49, 50, 51, 52, 53, 54, 55, 56, 57, 58, 59, 60, 44, 45, 46, 47, 48, 61, 62, 63] (by decide +kernel) (by decide +kernel)
set_option maxRecDepth 20000 in
theorem gX5_lockOf_X5_lockerOf : GoodIn wsX5_lockOf (wsV RX5 174 RX5 yX5_lockerOf wsX5_lockerOf) := goodIn_app (goodIn_of _ (by decide +kernel)) ggX5_lockOf_X5_lockerOf
theorem dX5_lockOf_0 : decode cX5_lockOf 0 = .ok (.aload_n 0, 1) := by decide +kernel
theorem dX5_lockOf_1 : decode cX5_lockOf 1 = .ok (.aload_n 0, 1) := by decide +kernel
theorem dX5_lockOf_2 : decode cX5_lockOf 2 = .ok (.iload_n 1, 1) := by decide +kernel
theorem dX5_lockOf_3 : decode cX5_lockOf 3 = .ok (.invokevirtual 85, 3) := by decide +kernel
theorem dX5_lockOf_6 : decode cX5_lockOf 6 = .ok (.invokevirtual 174, 3) := by decide +kernel
theorem dX5_lockOf_9 : decode cX5_lockOf 9 = .ok (.astore_n 2, 1) := by decide +kernel
theorem dX5_lockOf_10 : decode cX5_lockOf 10 = .ok (.aload_n 2, 1) := by decide +kernel
theorem dX5_lockOf_11 : decode cX5_lockOf 11 = .ok (.ifnonnull 7, 3) := by decide +kernel
theorem dX5_lockOf_14 : decode cX5_lockOf 14 = .ok (.iconst (-1), 1) := by decide +kernel
theorem dX5_lockOf_15 : decode cX5_lockOf 15 = .ok (.goto 7, 3) := by decide +kernel
theorem dX5_lockOf_18 : decode cX5_lockOf 18 = .ok (.aload_n 2, 1) := by decide +kernel
theorem dX5_lockOf_19 : decode cX5_lockOf 19 = .ok (.getfield 78, 3) := by decide +kernel
theorem dX5_lockOf_22 : decode cX5_lockOf 22 = .ok (.ireturn, 1) := by decide +kernel
set_option maxRecDepth 20000 in
theorem ggX5_slotOf_X5_slotNumbered : GoodIn wsX5_slotOf wsX5_slotNumbered := goodIn_ca (goodIn_r _ [5, 6, 7, 8, 16, 17, 18, 19, 20, 21, 22, 23, 24] (by decide +kernel) (by decide +kernel)) (goodIn_sub (fun _ h => List.mem_cons_of_mem _ (List.mem_append_right _ h)) (by decide +kernel))
set_option maxRecDepth 20000 in
theorem gX5_slotOf_X5_slotNumbered : GoodIn wsX5_slotOf (wsV RX5 178 RX5 yX5_slotNumbered wsX5_slotNumbered) := goodIn_app (goodIn_of _ (by decide +kernel)) ggX5_slotOf_X5_slotNumbered
theorem dX5_slotOf_0 : decode cX5_slotOf 0 = .ok (.aload_n 0, 1) := by decide +kernel
theorem dX5_slotOf_1 : decode cX5_slotOf 1 = .ok (.iload_n 1, 1) := by decide +kernel
theorem dX5_slotOf_2 : decode cX5_slotOf 2 = .ok (.iload_n 2, 1) := by decide +kernel
theorem dX5_slotOf_3 : decode cX5_slotOf 3 = .ok (.invokevirtual 178, 3) := by decide +kernel
theorem dX5_slotOf_6 : decode cX5_slotOf 6 = .ok (.getfield 182, 3) := by decide +kernel
theorem dX5_slotOf_9 : decode cX5_slotOf 9 = .ok (.astore_n 3, 1) := by decide +kernel
theorem dX5_slotOf_10 : decode cX5_slotOf 10 = .ok (.aload_n 3, 1) := by decide +kernel
theorem dX5_slotOf_11 : decode cX5_slotOf 11 = .ok (.ifnonnull 7, 3) := by decide +kernel
theorem dX5_slotOf_14 : decode cX5_slotOf 14 = .ok (.iconst (-1), 1) := by decide +kernel
theorem dX5_slotOf_15 : decode cX5_slotOf 15 = .ok (.goto 7, 3) := by decide +kernel
theorem dX5_slotOf_18 : decode cX5_slotOf 18 = .ok (.aload_n 3, 1) := by decide +kernel
theorem dX5_slotOf_19 : decode cX5_slotOf 19 = .ok (.getfield 78, 3) := by decide +kernel
theorem dX5_slotOf_22 : decode cX5_slotOf 22 = .ok (.ireturn, 1) := by decide +kernel
set_option maxRecDepth 20000 in
theorem ggX5_isMarked_X5_slotNumbered : GoodIn wsX5_isMarked wsX5_slotNumbered := goodIn_ca (goodIn_r _ [5, 6, 7, 8, 11, 12, 13, 14, 15, 16, 17, 18, 19] (by decide +kernel) (by decide +kernel)) (goodIn_sub (fun _ h => List.mem_cons_of_mem _ (List.mem_append_right _ h)) (by decide +kernel))
set_option maxRecDepth 20000 in
theorem gX5_isMarked_X5_slotNumbered : GoodIn wsX5_isMarked (wsV RX5 178 RX5 yX5_slotNumbered wsX5_slotNumbered) := goodIn_app (goodIn_of _ (by decide +kernel)) ggX5_isMarked_X5_slotNumbered
theorem dX5_isMarked_0 : decode cX5_isMarked 0 = .ok (.aload_n 0, 1) := by decide +kernel
theorem dX5_isMarked_1 : decode cX5_isMarked 1 = .ok (.iload_n 1, 1) := by decide +kernel
theorem dX5_isMarked_2 : decode cX5_isMarked 2 = .ok (.iload_n 2, 1) := by decide +kernel
theorem dX5_isMarked_3 : decode cX5_isMarked 3 = .ok (.invokevirtual 178, 3) := by decide +kernel
theorem dX5_isMarked_6 : decode cX5_isMarked 6 = .ok (.getfield 186, 3) := by decide +kernel
theorem dX5_isMarked_9 : decode cX5_isMarked 9 = .ok (.ireturn, 1) := by decide +kernel
theorem dX5_marked_0 : decode cX5_marked 0 = .ok (.aload_n 0, 1) := by decide +kernel
theorem dX5_marked_1 : decode cX5_marked 1 = .ok (.getfield 38, 3) := by decide +kernel
theorem dX5_marked_4 : decode cX5_marked 4 = .ok (.ireturn, 1) := by decide +kernel
set_option maxRecDepth 20000 in
theorem ggX5_records_X5_recordsThere : GoodIn wsX5_records wsX5_recordsThere := goodIn_r _ [5, 6, 7, 8, 9, 10, 11, 12, 13, 14, 15, 16, 17, 18, 19, 20, 21, 22, 23, 24] (by decide +kernel) (by decide +kernel)
set_option maxRecDepth 20000 in
theorem gX5_records_X5_recordsThere : GoodIn wsX5_records (wsV RX5 55 RX5 yX5_recordsThere wsX5_recordsThere) := goodIn_app (goodIn_of _ (by decide +kernel)) ggX5_records_X5_recordsThere
theorem dX5_records_0 : decode cX5_records 0 = .ok (.aload_n 0, 1) := by decide +kernel
theorem dX5_records_1 : decode cX5_records 1 = .ok (.invokevirtual 55, 3) := by decide +kernel
theorem dX5_records_4 : decode cX5_records 4 = .ok (.ireturn, 1) := by decide +kernel
theorem dX5_dropped_0 : decode cX5_dropped 0 = .ok (.aload_n 0, 1) := by decide +kernel
theorem dX5_dropped_1 : decode cX5_dropped 1 = .ok (.getfield 41, 3) := by decide +kernel
theorem dX5_dropped_4 : decode cX5_dropped 4 = .ok (.ireturn, 1) := by decide +kernel
set_option maxRecDepth 20000 in
theorem ggX5_transactionNumbered_Jx4a65c_size_8abf5 : GoodIn wsX5_transactionNumbered wsJx4a65c_size_8abf5 := goodIn_r _ [9, 10, 36, 37, 38] (by decide +kernel) (by decide +kernel)
set_option maxRecDepth 20000 in
theorem gX5_transactionNumbered_Jx4a65c_size_8abf5 : GoodIn wsX5_transactionNumbered (wsV RX5 64 RJx4a65c yJx4a65c_size_8abf5 wsJx4a65c_size_8abf5) := goodIn_app (goodIn_of _ (by decide +kernel)) ggX5_transactionNumbered_Jx4a65c_size_8abf5
set_option maxRecDepth 20000 in
theorem ggX5_transactionNumbered_Jx4a65c_get_915e3 : GoodIn wsX5_transactionNumbered wsJx4a65c_get_915e3 := goodIn_r _ [14, 10, 15, 16, 17, 18, 19, 20, 21, 22, 23, 24, 25, 8, 26, 27, 36, 37, 38] (by decide +kernel) (by decide +kernel)
set_option maxRecDepth 20000 in
theorem gX5_transactionNumbered_Jx4a65c_get_915e3 : GoodIn wsX5_transactionNumbered (wsV RX5 194 RJx4a65c yJx4a65c_get_915e3 wsJx4a65c_get_915e3) := goodIn_app (goodIn_of _ (by decide +kernel)) ggX5_transactionNumbered_Jx4a65c_get_915e3
theorem dX5_transactionNumbered_0 : decode cX5_transactionNumbered 0 = .ok (.iload_n 1, 1) := by decide +kernel
theorem dX5_transactionNumbered_1 : decode cX5_transactionNumbered 1 = .ok (.ifCond .lt 14, 3) := by decide +kernel
theorem dX5_transactionNumbered_4 : decode cX5_transactionNumbered 4 = .ok (.iload_n 1, 1) := by decide +kernel
theorem dX5_transactionNumbered_5 : decode cX5_transactionNumbered 5 = .ok (.aload_n 0, 1) := by decide +kernel
theorem dX5_transactionNumbered_6 : decode cX5_transactionNumbered 6 = .ok (.getfield 24, 3) := by decide +kernel
theorem dX5_transactionNumbered_9 : decode cX5_transactionNumbered 9 = .ok (.invokevirtual 64, 3) := by decide +kernel
theorem dX5_transactionNumbered_12 : decode cX5_transactionNumbered 12 = .ok (.if_icmp .lt 13, 3) := by decide +kernel
theorem dX5_transactionNumbered_15 : decode cX5_transactionNumbered 15 = .ok (.new 189, 3) := by decide +kernel
theorem dX5_transactionNumbered_18 : decode cX5_transactionNumbered 18 = .ok (.dup, 1) := by decide +kernel
theorem dX5_transactionNumbered_19 : decode cX5_transactionNumbered 19 = .ok (.ldc 191, 2) := by decide +kernel
theorem dX5_transactionNumbered_21 : decode cX5_transactionNumbered 21 = .ok (.invokespecial 193, 3) := by decide +kernel
theorem dX5_transactionNumbered_24 : decode cX5_transactionNumbered 24 = .ok (.athrow, 1) := by decide +kernel
theorem dX5_transactionNumbered_25 : decode cX5_transactionNumbered 25 = .ok (.aload_n 0, 1) := by decide +kernel
theorem dX5_transactionNumbered_26 : decode cX5_transactionNumbered 26 = .ok (.getfield 24, 3) := by decide +kernel
theorem dX5_transactionNumbered_29 : decode cX5_transactionNumbered 29 = .ok (.iload_n 1, 1) := by decide +kernel
theorem dX5_transactionNumbered_30 : decode cX5_transactionNumbered 30 = .ok (.invokevirtual 194, 3) := by decide +kernel
theorem dX5_transactionNumbered_33 : decode cX5_transactionNumbered 33 = .ok (.checkcast 69, 3) := by decide +kernel
theorem dX5_transactionNumbered_36 : decode cX5_transactionNumbered 36 = .ok (.areturn, 1) := by decide +kernel
theorem dX5_rowNumbered_0 : decode cX5_rowNumbered 0 = .ok (.iload_n 1, 1) := by decide +kernel
theorem dX5_rowNumbered_1 : decode cX5_rowNumbered 1 = .ok (.ifCond .lt 12, 3) := by decide +kernel
theorem dX5_rowNumbered_4 : decode cX5_rowNumbered 4 = .ok (.iload_n 1, 1) := by decide +kernel
theorem dX5_rowNumbered_5 : decode cX5_rowNumbered 5 = .ok (.aload_n 0, 1) := by decide +kernel
theorem dX5_rowNumbered_6 : decode cX5_rowNumbered 6 = .ok (.getfield 17, 3) := by decide +kernel
theorem dX5_rowNumbered_9 : decode cX5_rowNumbered 9 = .ok (.arraylength, 1) := by decide +kernel
theorem dX5_rowNumbered_10 : decode cX5_rowNumbered 10 = .ok (.if_icmp .lt 13, 3) := by decide +kernel
theorem dX5_rowNumbered_13 : decode cX5_rowNumbered 13 = .ok (.new 189, 3) := by decide +kernel
theorem dX5_rowNumbered_16 : decode cX5_rowNumbered 16 = .ok (.dup, 1) := by decide +kernel
theorem dX5_rowNumbered_17 : decode cX5_rowNumbered 17 = .ok (.ldc 198, 2) := by decide +kernel
theorem dX5_rowNumbered_19 : decode cX5_rowNumbered 19 = .ok (.invokespecial 193, 3) := by decide +kernel
theorem dX5_rowNumbered_22 : decode cX5_rowNumbered 22 = .ok (.athrow, 1) := by decide +kernel
theorem dX5_rowNumbered_23 : decode cX5_rowNumbered 23 = .ok (.aload_n 0, 1) := by decide +kernel
theorem dX5_rowNumbered_24 : decode cX5_rowNumbered 24 = .ok (.getfield 17, 3) := by decide +kernel
theorem dX5_rowNumbered_27 : decode cX5_rowNumbered 27 = .ok (.iload_n 1, 1) := by decide +kernel
theorem dX5_rowNumbered_28 : decode cX5_rowNumbered 28 = .ok (.aaload, 1) := by decide +kernel
theorem dX5_rowNumbered_29 : decode cX5_rowNumbered 29 = .ok (.areturn, 1) := by decide +kernel
theorem dX5_slotNumbered_0 : decode cX5_slotNumbered 0 = .ok (.iload_n 1, 1) := by decide +kernel
theorem dX5_slotNumbered_1 : decode cX5_slotNumbered 1 = .ok (.ifCond .lt 12, 3) := by decide +kernel
theorem dX5_slotNumbered_4 : decode cX5_slotNumbered 4 = .ok (.iload_n 1, 1) := by decide +kernel
theorem dX5_slotNumbered_5 : decode cX5_slotNumbered 5 = .ok (.aload_n 0, 1) := by decide +kernel
theorem dX5_slotNumbered_6 : decode cX5_slotNumbered 6 = .ok (.getfield 11, 3) := by decide +kernel
theorem dX5_slotNumbered_9 : decode cX5_slotNumbered 9 = .ok (.arraylength, 1) := by decide +kernel
theorem dX5_slotNumbered_10 : decode cX5_slotNumbered 10 = .ok (.if_icmp .lt 13, 3) := by decide +kernel
theorem dX5_slotNumbered_13 : decode cX5_slotNumbered 13 = .ok (.new 189, 3) := by decide +kernel
theorem dX5_slotNumbered_16 : decode cX5_slotNumbered 16 = .ok (.dup, 1) := by decide +kernel
theorem dX5_slotNumbered_17 : decode cX5_slotNumbered 17 = .ok (.ldc 200, 2) := by decide +kernel
theorem dX5_slotNumbered_19 : decode cX5_slotNumbered 19 = .ok (.invokespecial 193, 3) := by decide +kernel
theorem dX5_slotNumbered_22 : decode cX5_slotNumbered 22 = .ok (.athrow, 1) := by decide +kernel
theorem dX5_slotNumbered_23 : decode cX5_slotNumbered 23 = .ok (.aload_n 0, 1) := by decide +kernel
theorem dX5_slotNumbered_24 : decode cX5_slotNumbered 24 = .ok (.getfield 11, 3) := by decide +kernel
theorem dX5_slotNumbered_27 : decode cX5_slotNumbered 27 = .ok (.iload_n 1, 1) := by decide +kernel
theorem dX5_slotNumbered_28 : decode cX5_slotNumbered 28 = .ok (.aaload, 1) := by decide +kernel
theorem dX5_slotNumbered_29 : decode cX5_slotNumbered 29 = .ok (.getfield 202, 3) := by decide +kernel
theorem dX5_slotNumbered_32 : decode cX5_slotNumbered 32 = .ok (.astore_n 3, 1) := by decide +kernel
theorem dX5_slotNumbered_33 : decode cX5_slotNumbered 33 = .ok (.iload_n 2, 1) := by decide +kernel
theorem dX5_slotNumbered_34 : decode cX5_slotNumbered 34 = .ok (.ifCond .lt 9, 3) := by decide +kernel
theorem dX5_slotNumbered_37 : decode cX5_slotNumbered 37 = .ok (.iload_n 2, 1) := by decide +kernel
theorem dX5_slotNumbered_38 : decode cX5_slotNumbered 38 = .ok (.aload_n 3, 1) := by decide +kernel
theorem dX5_slotNumbered_39 : decode cX5_slotNumbered 39 = .ok (.arraylength, 1) := by decide +kernel
theorem dX5_slotNumbered_40 : decode cX5_slotNumbered 40 = .ok (.if_icmp .lt 13, 3) := by decide +kernel
theorem dX5_slotNumbered_43 : decode cX5_slotNumbered 43 = .ok (.new 189, 3) := by decide +kernel
theorem dX5_slotNumbered_46 : decode cX5_slotNumbered 46 = .ok (.dup, 1) := by decide +kernel
theorem dX5_slotNumbered_47 : decode cX5_slotNumbered 47 = .ok (.ldc 206, 2) := by decide +kernel
theorem dX5_slotNumbered_49 : decode cX5_slotNumbered 49 = .ok (.invokespecial 193, 3) := by decide +kernel
theorem dX5_slotNumbered_52 : decode cX5_slotNumbered 52 = .ok (.athrow, 1) := by decide +kernel
theorem dX5_slotNumbered_53 : decode cX5_slotNumbered 53 = .ok (.aload_n 3, 1) := by decide +kernel
theorem dX5_slotNumbered_54 : decode cX5_slotNumbered 54 = .ok (.iload_n 2, 1) := by decide +kernel
theorem dX5_slotNumbered_55 : decode cX5_slotNumbered 55 = .ok (.aaload, 1) := by decide +kernel
theorem dX5_slotNumbered_56 : decode cX5_slotNumbered 56 = .ok (.areturn, 1) := by decide +kernel
theorem dX5_refuseIfEnded_0 : decode cX5_refuseIfEnded 0 = .ok (.aload_n 1, 1) := by decide +kernel
theorem dX5_refuseIfEnded_1 : decode cX5_refuseIfEnded 1 = .ok (.getfield 160, 3) := by decide +kernel
theorem dX5_refuseIfEnded_4 : decode cX5_refuseIfEnded 4 = .ok (.ifCond .ne 13, 3) := by decide +kernel
theorem dX5_refuseIfEnded_7 : decode cX5_refuseIfEnded 7 = .ok (.new 59, 3) := by decide +kernel
theorem dX5_refuseIfEnded_10 : decode cX5_refuseIfEnded 10 = .ok (.dup, 1) := by decide +kernel
theorem dX5_refuseIfEnded_11 : decode cX5_refuseIfEnded 11 = .ok (.ldc 208, 2) := by decide +kernel
theorem dX5_refuseIfEnded_13 : decode cX5_refuseIfEnded 13 = .ok (.invokespecial 63, 3) := by decide +kernel
theorem dX5_refuseIfEnded_16 : decode cX5_refuseIfEnded 16 = .ok (.athrow, 1) := by decide +kernel
theorem dX5_refuseIfEnded_17 : decode cX5_refuseIfEnded 17 = .ok (.return_, 1) := by decide +kernel
theorem dX5_refuseIfNotYet_0 : decode cX5_refuseIfNotYet 0 = .ok (.iload_n 1, 1) := by decide +kernel
theorem dX5_refuseIfNotYet_1 : decode cX5_refuseIfNotYet 1 = .ok (.ifCond .lt 11, 3) := by decide +kernel
theorem dX5_refuseIfNotYet_4 : decode cX5_refuseIfNotYet 4 = .ok (.iload_n 1, 1) := by decide +kernel
theorem dX5_refuseIfNotYet_5 : decode cX5_refuseIfNotYet 5 = .ok (.aload_n 0, 1) := by decide +kernel
theorem dX5_refuseIfNotYet_6 : decode cX5_refuseIfNotYet 6 = .ok (.getfield 35, 3) := by decide +kernel
theorem dX5_refuseIfNotYet_9 : decode cX5_refuseIfNotYet 9 = .ok (.if_icmp .le 13, 3) := by decide +kernel
theorem dX5_refuseIfNotYet_12 : decode cX5_refuseIfNotYet 12 = .ok (.new 48, 3) := by decide +kernel
theorem dX5_refuseIfNotYet_15 : decode cX5_refuseIfNotYet 15 = .ok (.dup, 1) := by decide +kernel
theorem dX5_refuseIfNotYet_16 : decode cX5_refuseIfNotYet 16 = .ok (.ldc 210, 2) := by decide +kernel
theorem dX5_refuseIfNotYet_18 : decode cX5_refuseIfNotYet 18 = .ok (.invokespecial 52, 3) := by decide +kernel
theorem dX5_refuseIfNotYet_21 : decode cX5_refuseIfNotYet 21 = .ok (.athrow, 1) := by decide +kernel
theorem dX5_refuseIfNotYet_22 : decode cX5_refuseIfNotYet 22 = .ok (.return_, 1) := by decide +kernel
set_option maxRecDepth 20000 in
theorem ggX5_refuseIfLockedByAnother_X5_lockerOf : GoodIn wsX5_refuseIfLockedByAnother wsX5_lockerOf := goodIn_r _ [7, 8, 9, 10, 11, 12, 13, 14, 15, 16, 17, 18, 19, 20, 21, 22, 23, 24, 25, 26, 27, 28, 29, 30, 31, 32, 33, 34, 35, 36, 37, 38, 39, 40, 41, 42, 43, 44, 45, 46, 47, 48, 49, 50, 51, 52, 53, 54, 55, 56, 57, 58] (by decide +kernel) (by decide +kernel)
set_option maxRecDepth 20000 in
theorem gX5_refuseIfLockedByAnother_X5_lockerOf : GoodIn wsX5_refuseIfLockedByAnother (wsV RX5 174 RX5 yX5_lockerOf wsX5_lockerOf) := goodIn_app (goodIn_of _ (by decide +kernel)) ggX5_refuseIfLockedByAnother_X5_lockerOf
theorem dX5_refuseIfLockedByAnother_0 : decode cX5_refuseIfLockedByAnother 0 = .ok (.aload_n 0, 1) := by decide +kernel
theorem dX5_refuseIfLockedByAnother_1 : decode cX5_refuseIfLockedByAnother 1 = .ok (.aload_n 1, 1) := by decide +kernel
theorem dX5_refuseIfLockedByAnother_2 : decode cX5_refuseIfLockedByAnother 2 = .ok (.invokevirtual 174, 3) := by decide +kernel
theorem dX5_refuseIfLockedByAnother_5 : decode cX5_refuseIfLockedByAnother 5 = .ok (.astore_n 3, 1) := by decide +kernel
theorem dX5_refuseIfLockedByAnother_6 : decode cX5_refuseIfLockedByAnother 6 = .ok (.aload_n 3, 1) := by decide +kernel
theorem dX5_refuseIfLockedByAnother_7 : decode cX5_refuseIfLockedByAnother 7 = .ok (.ifnull 18, 3) := by decide +kernel
theorem dX5_refuseIfLockedByAnother_10 : decode cX5_refuseIfLockedByAnother 10 = .ok (.aload_n 3, 1) := by decide +kernel
theorem dX5_refuseIfLockedByAnother_11 : decode cX5_refuseIfLockedByAnother 11 = .ok (.aload_n 2, 1) := by decide +kernel
theorem dX5_refuseIfLockedByAnother_12 : decode cX5_refuseIfLockedByAnother 12 = .ok (.if_acmp .eq 13, 3) := by decide +kernel
theorem dX5_refuseIfLockedByAnother_15 : decode cX5_refuseIfLockedByAnother 15 = .ok (.new 59, 3) := by decide +kernel
theorem dX5_refuseIfLockedByAnother_18 : decode cX5_refuseIfLockedByAnother 18 = .ok (.dup, 1) := by decide +kernel
theorem dX5_refuseIfLockedByAnother_19 : decode cX5_refuseIfLockedByAnother 19 = .ok (.ldc 212, 2) := by decide +kernel
theorem dX5_refuseIfLockedByAnother_21 : decode cX5_refuseIfLockedByAnother 21 = .ok (.invokespecial 63, 3) := by decide +kernel
theorem dX5_refuseIfLockedByAnother_24 : decode cX5_refuseIfLockedByAnother 24 = .ok (.athrow, 1) := by decide +kernel
theorem dX5_refuseIfLockedByAnother_25 : decode cX5_refuseIfLockedByAnother 25 = .ok (.return_, 1) := by decide +kernel
set_option maxRecDepth 20000 in
theorem ggX5_refuseIfNoSpace_Jx4a65c_size_8abf5 : GoodIn wsX5_refuseIfNoSpace wsJx4a65c_size_8abf5 := goodIn_r _ [10, 11, 56, 57, 58] (by decide +kernel) (by decide +kernel)
set_option maxRecDepth 20000 in
theorem gX5_refuseIfNoSpace_Jx4a65c_size_8abf5 : GoodIn wsX5_refuseIfNoSpace (wsV RX5 64 RJx4a65c yJx4a65c_size_8abf5 wsJx4a65c_size_8abf5) := goodIn_app (goodIn_of _ (by decide +kernel)) ggX5_refuseIfNoSpace_Jx4a65c_size_8abf5
set_option maxRecDepth 20000 in
theorem ggX5_refuseIfNoSpace_X5_isSpaceFull : GoodIn wsX5_refuseIfNoSpace wsX5_isSpaceFull := goodIn_r _ [16, 4, 3, 17, 6, 7, 8, 9, 10, 11, 18, 19, 20, 15, 21, 39, 40, 41, 42, 43, 44, 45, 46, 56, 57, 58] (by decide +kernel) (by decide +kernel)
set_option maxRecDepth 20000 in
theorem gX5_refuseIfNoSpace_X5_isSpaceFull : GoodIn wsX5_refuseIfNoSpace (wsV RX5 122 RX5 yX5_isSpaceFull wsX5_isSpaceFull) := goodIn_app (goodIn_of _ (by decide +kernel)) ggX5_refuseIfNoSpace_X5_isSpaceFull
set_option maxRecDepth 20000 in
theorem ggX5_refuseIfNoSpace_Jx4a65c_get_915e3 : GoodIn wsX5_refuseIfNoSpace wsJx4a65c_get_915e3 := goodIn_r _ [25, 11, 26, 27, 28, 29, 30, 31, 32, 33, 34, 35, 36, 9, 37, 38, 56, 57, 58] (by decide +kernel) (by decide +kernel)
set_option maxRecDepth 20000 in
theorem gX5_refuseIfNoSpace_Jx4a65c_get_915e3 : GoodIn wsX5_refuseIfNoSpace (wsV RX5 194 RJx4a65c yJx4a65c_get_915e3 wsJx4a65c_get_915e3) := goodIn_app (goodIn_of _ (by decide +kernel)) ggX5_refuseIfNoSpace_Jx4a65c_get_915e3
theorem dX5_refuseIfNoSpace_0 : decode cX5_refuseIfNoSpace 0 = .ok (.aload_n 0, 1) := by decide +kernel
theorem dX5_refuseIfNoSpace_1 : decode cX5_refuseIfNoSpace 1 = .ok (.getfield 28, 3) := by decide +kernel
theorem dX5_refuseIfNoSpace_4 : decode cX5_refuseIfNoSpace 4 = .ok (.invokevirtual 64, 3) := by decide +kernel
theorem dX5_refuseIfNoSpace_7 : decode cX5_refuseIfNoSpace 7 = .ok (.sipush 512, 3) := by decide +kernel
theorem dX5_refuseIfNoSpace_10 : decode cX5_refuseIfNoSpace 10 = .ok (.if_icmp .lt 13, 3) := by decide +kernel
theorem dX5_refuseIfNoSpace_13 : decode cX5_refuseIfNoSpace 13 = .ok (.new 59, 3) := by decide +kernel
theorem dX5_refuseIfNoSpace_16 : decode cX5_refuseIfNoSpace 16 = .ok (.dup, 1) := by decide +kernel
theorem dX5_refuseIfNoSpace_17 : decode cX5_refuseIfNoSpace 17 = .ok (.ldc 214, 2) := by decide +kernel
theorem dX5_refuseIfNoSpace_19 : decode cX5_refuseIfNoSpace 19 = .ok (.invokespecial 63, 3) := by decide +kernel
theorem dX5_refuseIfNoSpace_22 : decode cX5_refuseIfNoSpace 22 = .ok (.athrow, 1) := by decide +kernel
theorem dX5_refuseIfNoSpace_23 : decode cX5_refuseIfNoSpace 23 = .ok (.aload_n 0, 1) := by decide +kernel
theorem dX5_refuseIfNoSpace_24 : decode cX5_refuseIfNoSpace 24 = .ok (.invokevirtual 122, 3) := by decide +kernel
theorem dX5_refuseIfNoSpace_27 : decode cX5_refuseIfNoSpace 27 = .ok (.ifCond .eq 36, 3) := by decide +kernel
theorem dX5_refuseIfNoSpace_30 : decode cX5_refuseIfNoSpace 30 = .ok (.aload_n 0, 1) := by decide +kernel
theorem dX5_refuseIfNoSpace_31 : decode cX5_refuseIfNoSpace 31 = .ok (.getfield 28, 3) := by decide +kernel
theorem dX5_refuseIfNoSpace_34 : decode cX5_refuseIfNoSpace 34 = .ok (.aload_n 0, 1) := by decide +kernel
theorem dX5_refuseIfNoSpace_35 : decode cX5_refuseIfNoSpace 35 = .ok (.getfield 41, 3) := by decide +kernel
theorem dX5_refuseIfNoSpace_38 : decode cX5_refuseIfNoSpace 38 = .ok (.invokevirtual 194, 3) := by decide +kernel
theorem dX5_refuseIfNoSpace_41 : decode cX5_refuseIfNoSpace 41 = .ok (.checkcast 126, 3) := by decide +kernel
theorem dX5_refuseIfNoSpace_44 : decode cX5_refuseIfNoSpace 44 = .ok (.getfield 216, 3) := by decide +kernel
theorem dX5_refuseIfNoSpace_47 : decode cX5_refuseIfNoSpace 47 = .ok (.getfield 160, 3) := by decide +kernel
theorem dX5_refuseIfNoSpace_50 : decode cX5_refuseIfNoSpace 50 = .ok (.ifCond .eq 13, 3) := by decide +kernel
theorem dX5_refuseIfNoSpace_53 : decode cX5_refuseIfNoSpace 53 = .ok (.new 59, 3) := by decide +kernel
theorem dX5_refuseIfNoSpace_56 : decode cX5_refuseIfNoSpace 56 = .ok (.dup, 1) := by decide +kernel
theorem dX5_refuseIfNoSpace_57 : decode cX5_refuseIfNoSpace 57 = .ok (.ldc 219, 2) := by decide +kernel
theorem dX5_refuseIfNoSpace_59 : decode cX5_refuseIfNoSpace 59 = .ok (.invokespecial 63, 3) := by decide +kernel
theorem dX5_refuseIfNoSpace_62 : decode cX5_refuseIfNoSpace 62 = .ok (.athrow, 1) := by decide +kernel
theorem dX5_refuseIfNoSpace_63 : decode cX5_refuseIfNoSpace 63 = .ok (.return_, 1) := by decide +kernel
set_option maxRecDepth 20000 in
theorem ggX5_recordsThere_Jx4a65c_size_8abf5 : GoodIn wsX5_recordsThere wsJx4a65c_size_8abf5 := goodIn_r _ [7, 8, 17, 18, 19] (by decide +kernel) (by decide +kernel)
set_option maxRecDepth 20000 in
theorem gX5_recordsThere_Jx4a65c_size_8abf5 : GoodIn wsX5_recordsThere (wsV RX5 64 RJx4a65c yJx4a65c_size_8abf5 wsJx4a65c_size_8abf5) := goodIn_app (goodIn_of _ (by decide +kernel)) ggX5_recordsThere_Jx4a65c_size_8abf5
theorem dX5_recordsThere_0 : decode cX5_recordsThere 0 = .ok (.aload_n 0, 1) := by decide +kernel
theorem dX5_recordsThere_1 : decode cX5_recordsThere 1 = .ok (.getfield 28, 3) := by decide +kernel
theorem dX5_recordsThere_4 : decode cX5_recordsThere 4 = .ok (.invokevirtual 64, 3) := by decide +kernel
theorem dX5_recordsThere_7 : decode cX5_recordsThere 7 = .ok (.aload_n 0, 1) := by decide +kernel
theorem dX5_recordsThere_8 : decode cX5_recordsThere 8 = .ok (.getfield 41, 3) := by decide +kernel
theorem dX5_recordsThere_11 : decode cX5_recordsThere 11 = .ok (.isub, 1) := by decide +kernel
theorem dX5_recordsThere_12 : decode cX5_recordsThere 12 = .ok (.ireturn, 1) := by decide +kernel
set_option maxRecDepth 20000 in
theorem ggX5_isSpaceFull_Jx4a65c_size_8abf5 : GoodIn wsX5_isSpaceFull wsJx4a65c_size_8abf5 := goodIn_r _ [8, 9, 23, 24, 25] (by decide +kernel) (by decide +kernel)
set_option maxRecDepth 20000 in
theorem gX5_isSpaceFull_Jx4a65c_size_8abf5 : GoodIn wsX5_isSpaceFull (wsV RX5 64 RJx4a65c yJx4a65c_size_8abf5 wsJx4a65c_size_8abf5) := goodIn_app (goodIn_of _ (by decide +kernel)) ggX5_isSpaceFull_Jx4a65c_size_8abf5
set_option maxRecDepth 20000 in
theorem ggX5_isSpaceFull_X5_recordsThere : GoodIn wsX5_isSpaceFull wsX5_recordsThere := goodIn_r _ [14, 2, 1, 4, 5, 6, 7, 8, 9, 15, 16, 17, 18, 19, 20, 21, 22, 23, 24, 25] (by decide +kernel) (by decide +kernel)
set_option maxRecDepth 20000 in
theorem gX5_isSpaceFull_X5_recordsThere : GoodIn wsX5_isSpaceFull (wsV RX5 55 RX5 yX5_recordsThere wsX5_recordsThere) := goodIn_app (goodIn_of _ (by decide +kernel)) ggX5_isSpaceFull_X5_recordsThere
theorem dX5_isSpaceFull_0 : decode cX5_isSpaceFull 0 = .ok (.aload_n 0, 1) := by decide +kernel
theorem dX5_isSpaceFull_1 : decode cX5_isSpaceFull 1 = .ok (.getfield 41, 3) := by decide +kernel
theorem dX5_isSpaceFull_4 : decode cX5_isSpaceFull 4 = .ok (.aload_n 0, 1) := by decide +kernel
theorem dX5_isSpaceFull_5 : decode cX5_isSpaceFull 5 = .ok (.getfield 28, 3) := by decide +kernel
theorem dX5_isSpaceFull_8 : decode cX5_isSpaceFull 8 = .ok (.invokevirtual 64, 3) := by decide +kernel
theorem dX5_isSpaceFull_11 : decode cX5_isSpaceFull 11 = .ok (.if_icmp .ge 18, 3) := by decide +kernel
theorem dX5_isSpaceFull_14 : decode cX5_isSpaceFull 14 = .ok (.aload_n 0, 1) := by decide +kernel
theorem dX5_isSpaceFull_15 : decode cX5_isSpaceFull 15 = .ok (.invokevirtual 55, 3) := by decide +kernel
theorem dX5_isSpaceFull_18 : decode cX5_isSpaceFull 18 = .ok (.aload_n 0, 1) := by decide +kernel
theorem dX5_isSpaceFull_19 : decode cX5_isSpaceFull 19 = .ok (.getfield 31, 3) := by decide +kernel
theorem dX5_isSpaceFull_22 : decode cX5_isSpaceFull 22 = .ok (.if_icmp .lt 7, 3) := by decide +kernel
theorem dX5_isSpaceFull_25 : decode cX5_isSpaceFull 25 = .ok (.iconst 1, 1) := by decide +kernel
theorem dX5_isSpaceFull_26 : decode cX5_isSpaceFull 26 = .ok (.goto 4, 3) := by decide +kernel
theorem dX5_isSpaceFull_29 : decode cX5_isSpaceFull 29 = .ok (.iconst 0, 1) := by decide +kernel
theorem dX5_isSpaceFull_30 : decode cX5_isSpaceFull 30 = .ok (.ireturn, 1) := by decide +kernel
set_option maxRecDepth 20000 in
theorem ggX5_undoDownTo_Jx4a65c_size_8abf5 : GoodIn wsX5_undoDownTo wsJx4a65c_size_8abf5 := goodIn_r _ [7, 8, 51, 52, 53] (by decide +kernel) (by decide +kernel)
set_option maxRecDepth 20000 in
theorem gX5_undoDownTo_Jx4a65c_size_8abf5 : GoodIn wsX5_undoDownTo (wsV RX5 64 RJx4a65c yJx4a65c_size_8abf5 wsJx4a65c_size_8abf5) := goodIn_app (goodIn_of _ (by decide +kernel)) ggX5_undoDownTo_Jx4a65c_size_8abf5
set_option maxRecDepth 20000 in
theorem ggX5_undoDownTo_Jx4a65c_get_915e3 : GoodIn wsX5_undoDownTo wsJx4a65c_get_915e3 := goodIn_r _ [12, 8, 13, 14, 15, 16, 17, 18, 19, 20, 21, 22, 23, 6, 24, 25, 51, 52, 53] (by decide +kernel) (by decide +kernel)
set_option maxRecDepth 20000 in
theorem gX5_undoDownTo_Jx4a65c_get_915e3 : GoodIn wsX5_undoDownTo (wsV RX5 194 RJx4a65c yJx4a65c_get_915e3 wsJx4a65c_get_915e3) := goodIn_app (goodIn_of _ (by decide +kernel)) ggX5_undoDownTo_Jx4a65c_get_915e3
set_option maxRecDepth 20000 in
theorem ggX5_undoDownTo_X1_takeBack : GoodIn wsX5_undoDownTo wsX1_takeBack := goodIn_r _ [29, 30, 31, 32, 33, 47, 48, 49, 50, 54, 55, 42, 43, 44, 45, 46] (by decide +kernel) (by decide +kernel)
set_option maxRecDepth 20000 in
theorem gX5_undoDownTo_X1_takeBack_n224 : GoodIn wsX5_undoDownTo (wsX1_takeBack) := ggX5_undoDownTo_X1_takeBack
theorem dX5_undoDownTo_0 : decode cX5_undoDownTo 0 = .ok (.iconst 0, 1) := by decide +kernel
theorem dX5_undoDownTo_1 : decode cX5_undoDownTo 1 = .ok (.istore_n 3, 1) := by decide +kernel
theorem dX5_undoDownTo_2 : decode cX5_undoDownTo 2 = .ok (.aload_n 0, 1) := by decide +kernel
theorem dX5_undoDownTo_3 : decode cX5_undoDownTo 3 = .ok (.getfield 28, 3) := by decide +kernel
theorem dX5_undoDownTo_6 : decode cX5_undoDownTo 6 = .ok (.invokevirtual 64, 3) := by decide +kernel
theorem dX5_undoDownTo_9 : decode cX5_undoDownTo 9 = .ok (.iconst 1, 1) := by decide +kernel
theorem dX5_undoDownTo_10 : decode cX5_undoDownTo 10 = .ok (.isub, 1) := by decide +kernel
theorem dX5_undoDownTo_11 : decode cX5_undoDownTo 11 = .ok (.istore 4, 2) := by decide +kernel
theorem dX5_undoDownTo_13 : decode cX5_undoDownTo 13 = .ok (.iload 4, 2) := by decide +kernel
theorem dX5_undoDownTo_15 : decode cX5_undoDownTo 15 = .ok (.ifCond .lt 56, 3) := by decide +kernel
theorem dX5_undoDownTo_18 : decode cX5_undoDownTo 18 = .ok (.aload_n 1, 1) := by decide +kernel
theorem dX5_undoDownTo_19 : decode cX5_undoDownTo 19 = .ok (.getfield 151, 3) := by decide +kernel
theorem dX5_undoDownTo_22 : decode cX5_undoDownTo 22 = .ok (.iload_n 2, 1) := by decide +kernel
theorem dX5_undoDownTo_23 : decode cX5_undoDownTo 23 = .ok (.if_icmp .le 48, 3) := by decide +kernel
theorem dX5_undoDownTo_26 : decode cX5_undoDownTo 26 = .ok (.aload_n 0, 1) := by decide +kernel
theorem dX5_undoDownTo_27 : decode cX5_undoDownTo 27 = .ok (.getfield 28, 3) := by decide +kernel
theorem dX5_undoDownTo_30 : decode cX5_undoDownTo 30 = .ok (.iload 4, 2) := by decide +kernel
theorem dX5_undoDownTo_32 : decode cX5_undoDownTo 32 = .ok (.invokevirtual 194, 3) := by decide +kernel
theorem dX5_undoDownTo_35 : decode cX5_undoDownTo 35 = .ok (.checkcast 126, 3) := by decide +kernel
theorem dX5_undoDownTo_38 : decode cX5_undoDownTo 38 = .ok (.astore 5, 2) := by decide +kernel
theorem dX5_undoDownTo_40 : decode cX5_undoDownTo 40 = .ok (.aload 5, 2) := by decide +kernel
theorem dX5_undoDownTo_42 : decode cX5_undoDownTo 42 = .ok (.getfield 216, 3) := by decide +kernel
theorem dX5_undoDownTo_45 : decode cX5_undoDownTo 45 = .ok (.aload_n 1, 1) := by decide +kernel
theorem dX5_undoDownTo_46 : decode cX5_undoDownTo 46 = .ok (.if_acmp .ne 19, 3) := by decide +kernel
theorem dX5_undoDownTo_49 : decode cX5_undoDownTo 49 = .ok (.aload 5, 2) := by decide +kernel
theorem dX5_undoDownTo_51 : decode cX5_undoDownTo 51 = .ok (.getfield 221, 3) := by decide +kernel
theorem dX5_undoDownTo_54 : decode cX5_undoDownTo 54 = .ok (.ifCond .ne 11, 3) := by decide +kernel
theorem dX5_undoDownTo_57 : decode cX5_undoDownTo 57 = .ok (.aload 5, 2) := by decide +kernel
theorem dX5_undoDownTo_59 : decode cX5_undoDownTo 59 = .ok (.invokevirtual 224, 3) := by decide +kernel
theorem dX5_undoDownTo_62 : decode cX5_undoDownTo 62 = .ok (.iinc 3 1, 3) := by decide +kernel
theorem dX5_undoDownTo_65 : decode cX5_undoDownTo 65 = .ok (.iinc 4 (-1), 3) := by decide +kernel
theorem dX5_undoDownTo_68 : decode cX5_undoDownTo 68 = .ok (.goto (-55), 3) := by decide +kernel
theorem dX5_undoDownTo_71 : decode cX5_undoDownTo 71 = .ok (.iload_n 3, 1) := by decide +kernel
theorem dX5_undoDownTo_72 : decode cX5_undoDownTo 72 = .ok (.ireturn, 1) := by decide +kernel
set_option maxRecDepth 20000 in
theorem ggX5_lockerOf_Jx4a65c_size_8abf5 : GoodIn wsX5_lockerOf wsJx4a65c_size_8abf5 := goodIn_r _ [7, 8, 49, 50, 51] (by decide +kernel) (by decide +kernel)
set_option maxRecDepth 20000 in
theorem gX5_lockerOf_Jx4a65c_size_8abf5 : GoodIn wsX5_lockerOf (wsV RX5 64 RJx4a65c yJx4a65c_size_8abf5 wsJx4a65c_size_8abf5) := goodIn_app (goodIn_of _ (by decide +kernel)) ggX5_lockerOf_Jx4a65c_size_8abf5
set_option maxRecDepth 20000 in
theorem ggX5_lockerOf_Jx4a65c_get_915e3 : GoodIn wsX5_lockerOf wsJx4a65c_get_915e3 := goodIn_r _ [12, 8, 13, 14, 15, 16, 17, 18, 19, 20, 21, 22, 23, 6, 24, 25, 49, 50, 51] (by decide +kernel) (by decide +kernel)
set_option maxRecDepth 20000 in
theorem gX5_lockerOf_Jx4a65c_get_915e3 : GoodIn wsX5_lockerOf (wsV RX5 194 RJx4a65c yJx4a65c_get_915e3 wsJx4a65c_get_915e3) := goodIn_app (goodIn_of _ (by decide +kernel)) ggX5_lockerOf_Jx4a65c_get_915e3
set_option maxRecDepth 20000 in
theorem ggX5_lockerOf_X1_stands : GoodIn wsX5_lockerOf wsX1_stands := goodIn_r _ [29, 30, 31, 40, 41, 42, 43] (by decide +kernel) (by decide +kernel)
set_option maxRecDepth 20000 in
theorem gX5_lockerOf_X1_stands_n227 : GoodIn wsX5_lockerOf (wsX1_stands) := ggX5_lockerOf_X1_stands
theorem dX5_lockerOf_0 : decode cX5_lockerOf 0 = .ok (.aload_n 0, 1) := by decide +kernel
theorem dX5_lockerOf_1 : decode cX5_lockerOf 1 = .ok (.getfield 28, 3) := by decide +kernel
theorem dX5_lockerOf_4 : decode cX5_lockerOf 4 = .ok (.invokevirtual 64, 3) := by decide +kernel
theorem dX5_lockerOf_7 : decode cX5_lockerOf 7 = .ok (.iconst 1, 1) := by decide +kernel
theorem dX5_lockerOf_8 : decode cX5_lockerOf 8 = .ok (.isub, 1) := by decide +kernel
theorem dX5_lockerOf_9 : decode cX5_lockerOf 9 = .ok (.istore_n 2, 1) := by decide +kernel
theorem dX5_lockerOf_10 : decode cX5_lockerOf 10 = .ok (.iload_n 2, 1) := by decide +kernel
theorem dX5_lockerOf_11 : decode cX5_lockerOf 11 = .ok (.ifCond .lt 48, 3) := by decide +kernel
theorem dX5_lockerOf_14 : decode cX5_lockerOf 14 = .ok (.aload_n 0, 1) := by decide +kernel
theorem dX5_lockerOf_15 : decode cX5_lockerOf 15 = .ok (.getfield 28, 3) := by decide +kernel
theorem dX5_lockerOf_18 : decode cX5_lockerOf 18 = .ok (.iload_n 2, 1) := by decide +kernel
theorem dX5_lockerOf_19 : decode cX5_lockerOf 19 = .ok (.invokevirtual 194, 3) := by decide +kernel
theorem dX5_lockerOf_22 : decode cX5_lockerOf 22 = .ok (.checkcast 126, 3) := by decide +kernel
theorem dX5_lockerOf_25 : decode cX5_lockerOf 25 = .ok (.astore_n 3, 1) := by decide +kernel
theorem dX5_lockerOf_26 : decode cX5_lockerOf 26 = .ok (.aload_n 3, 1) := by decide +kernel
theorem dX5_lockerOf_27 : decode cX5_lockerOf 27 = .ok (.aload_n 1, 1) := by decide +kernel
theorem dX5_lockerOf_28 : decode cX5_lockerOf 28 = .ok (.invokevirtual 227, 3) := by decide +kernel
theorem dX5_lockerOf_31 : decode cX5_lockerOf 31 = .ok (.ifCond .eq 22, 3) := by decide +kernel
theorem dX5_lockerOf_34 : decode cX5_lockerOf 34 = .ok (.aload_n 3, 1) := by decide +kernel
theorem dX5_lockerOf_35 : decode cX5_lockerOf 35 = .ok (.getfield 216, 3) := by decide +kernel
theorem dX5_lockerOf_38 : decode cX5_lockerOf 38 = .ok (.getfield 160, 3) := by decide +kernel
theorem dX5_lockerOf_41 : decode cX5_lockerOf 41 = .ok (.ifCond .eq 10, 3) := by decide +kernel
theorem dX5_lockerOf_44 : decode cX5_lockerOf 44 = .ok (.aload_n 3, 1) := by decide +kernel
theorem dX5_lockerOf_45 : decode cX5_lockerOf 45 = .ok (.getfield 216, 3) := by decide +kernel
theorem dX5_lockerOf_48 : decode cX5_lockerOf 48 = .ok (.goto 4, 3) := by decide +kernel
theorem dX5_lockerOf_51 : decode cX5_lockerOf 51 = .ok (.aconst_null, 1) := by decide +kernel
theorem dX5_lockerOf_52 : decode cX5_lockerOf 52 = .ok (.areturn, 1) := by decide +kernel
theorem dX5_lockerOf_53 : decode cX5_lockerOf 53 = .ok (.iinc 2 (-1), 3) := by decide +kernel
theorem dX5_lockerOf_56 : decode cX5_lockerOf 56 = .ok (.goto (-46), 3) := by decide +kernel
theorem dX5_lockerOf_59 : decode cX5_lockerOf 59 = .ok (.aconst_null, 1) := by decide +kernel
theorem dX5_lockerOf_60 : decode cX5_lockerOf 60 = .ok (.areturn, 1) := by decide +kernel
set_option maxRecDepth 20000 in
theorem ggX5_readFromRecords_X5_oldestUnseen : GoodIn wsX5_readFromRecords wsX5_oldestUnseen := goodIn_r _ [8, 9, 10, 11, 12, 13, 14, 15, 16, 17, 18, 19, 20, 21, 22, 23, 24, 25, 26, 27, 28, 29, 30, 31, 32, 33, 34, 35, 36, 37, 38, 39, 40, 41, 42, 43, 44, 45, 46, 47, 48, 68, 69, 70, 71, 72, 73, 74, 75, 78, 79, 80, 81, 82, 83, 84, 85, 86, 87, 88, 89] (by decide +kernel) (by decide +kernel)
set_option maxRecDepth 20000 in
theorem gX5_readFromRecords_X5_oldestUnseen : GoodIn wsX5_readFromRecords (wsV RX5 167 RX5 yX5_oldestUnseen wsX5_oldestUnseen) := goodIn_app (goodIn_of _ (by decide +kernel)) ggX5_readFromRecords_X5_oldestUnseen
set_option maxRecDepth 20000 in
theorem ggX5_readFromRecords_X5_clean : GoodIn wsX5_readFromRecords wsX5_clean := goodIn_r _ [52, 53, 54, 55, 56, 57, 58, 59, 60, 61, 62, 63, 68, 69, 70, 71, 72, 73, 74, 75, 90, 91, 92, 85, 86, 87, 88, 89] (by decide +kernel) (by decide +kernel)
set_option maxRecDepth 20000 in
theorem gX5_readFromRecords_X5_clean : GoodIn wsX5_readFromRecords (wsV RX5 114 RX5 yX5_clean wsX5_clean) := goodIn_app (goodIn_of _ (by decide +kernel)) ggX5_readFromRecords_X5_clean
set_option maxRecDepth 20000 in
theorem ggX5_readFromRecords_X5_valueAheadOf : GoodIn wsX5_readFromRecords wsX5_valueAheadOf := goodIn_r _ [67, 9, 10, 11, 12, 13, 14, 15, 16, 17, 18, 19, 20, 21, 22, 23, 24, 25, 26, 27, 28, 29, 30, 31, 32, 33, 68, 69, 70, 71, 72, 73, 74, 75, 76, 77, 81, 82, 83, 84, 78, 79, 80] (by decide +kernel) (by decide +kernel)
set_option maxRecDepth 20000 in
theorem gX5_readFromRecords_X5_valueAheadOf : GoodIn wsX5_readFromRecords (wsV RX5 170 RX5 yX5_valueAheadOf wsX5_valueAheadOf) := goodIn_app (goodIn_of _ (by decide +kernel)) ggX5_readFromRecords_X5_valueAheadOf
theorem dX5_readFromRecords_0 : decode cX5_readFromRecords 0 = .ok (.aload_n 0, 1) := by decide +kernel
theorem dX5_readFromRecords_1 : decode cX5_readFromRecords 1 = .ok (.aload_n 1, 1) := by decide +kernel
theorem dX5_readFromRecords_2 : decode cX5_readFromRecords 2 = .ok (.iload_n 2, 1) := by decide +kernel
theorem dX5_readFromRecords_3 : decode cX5_readFromRecords 3 = .ok (.aload_n 3, 1) := by decide +kernel
theorem dX5_readFromRecords_4 : decode cX5_readFromRecords 4 = .ok (.invokevirtual 167, 3) := by decide +kernel
theorem dX5_readFromRecords_7 : decode cX5_readFromRecords 7 = .ok (.istore 4, 2) := by decide +kernel
theorem dX5_readFromRecords_9 : decode cX5_readFromRecords 9 = .ok (.iload 4, 2) := by decide +kernel
theorem dX5_readFromRecords_11 : decode cX5_readFromRecords 11 = .ok (.aload_n 0, 1) := by decide +kernel
theorem dX5_readFromRecords_12 : decode cX5_readFromRecords 12 = .ok (.getfield 41, 3) := by decide +kernel
theorem dX5_readFromRecords_15 : decode cX5_readFromRecords 15 = .ok (.if_icmp .ge 13, 3) := by decide +kernel
theorem dX5_readFromRecords_18 : decode cX5_readFromRecords 18 = .ok (.new 231, 3) := by decide +kernel
theorem dX5_readFromRecords_21 : decode cX5_readFromRecords 21 = .ok (.dup, 1) := by decide +kernel
theorem dX5_readFromRecords_22 : decode cX5_readFromRecords 22 = .ok (.ldc 233, 2) := by decide +kernel
theorem dX5_readFromRecords_24 : decode cX5_readFromRecords 24 = .ok (.invokespecial 235, 3) := by decide +kernel
theorem dX5_readFromRecords_27 : decode cX5_readFromRecords 27 = .ok (.athrow, 1) := by decide +kernel
theorem dX5_readFromRecords_28 : decode cX5_readFromRecords 28 = .ok (.aload_n 0, 1) := by decide +kernel
theorem dX5_readFromRecords_29 : decode cX5_readFromRecords 29 = .ok (.aload_n 1, 1) := by decide +kernel
theorem dX5_readFromRecords_30 : decode cX5_readFromRecords 30 = .ok (.getfield 104, 3) := by decide +kernel
theorem dX5_readFromRecords_33 : decode cX5_readFromRecords 33 = .ok (.invokevirtual 114, 3) := by decide +kernel
theorem dX5_readFromRecords_36 : decode cX5_readFromRecords 36 = .ok (.aload_n 0, 1) := by decide +kernel
theorem dX5_readFromRecords_37 : decode cX5_readFromRecords 37 = .ok (.iload 4, 2) := by decide +kernel
theorem dX5_readFromRecords_39 : decode cX5_readFromRecords 39 = .ok (.aload_n 1, 1) := by decide +kernel
theorem dX5_readFromRecords_40 : decode cX5_readFromRecords 40 = .ok (.invokevirtual 170, 3) := by decide +kernel
theorem dX5_readFromRecords_43 : decode cX5_readFromRecords 43 = .ok (.ireturn, 1) := by decide +kernel
set_option maxRecDepth 20000 in
theorem ggX5_oldestUnseen_Jx4a65c_size_8abf5 : GoodIn wsX5_oldestUnseen wsJx4a65c_size_8abf5 := goodIn_r _ [7, 8, 49, 50, 51] (by decide +kernel) (by decide +kernel)
set_option maxRecDepth 20000 in
theorem gX5_oldestUnseen_Jx4a65c_size_8abf5 : GoodIn wsX5_oldestUnseen (wsV RX5 64 RJx4a65c yJx4a65c_size_8abf5 wsJx4a65c_size_8abf5) := goodIn_app (goodIn_of _ (by decide +kernel)) ggX5_oldestUnseen_Jx4a65c_size_8abf5
set_option maxRecDepth 20000 in
theorem ggX5_oldestUnseen_Jx4a65c_get_915e3 : GoodIn wsX5_oldestUnseen wsJx4a65c_get_915e3 := goodIn_r _ [12, 8, 13, 14, 15, 16, 17, 18, 19, 20, 21, 22, 23, 6, 24, 25, 49, 50, 51] (by decide +kernel) (by decide +kernel)
set_option maxRecDepth 20000 in
theorem gX5_oldestUnseen_Jx4a65c_get_915e3 : GoodIn wsX5_oldestUnseen (wsV RX5 194 RJx4a65c yJx4a65c_get_915e3 wsJx4a65c_get_915e3) := goodIn_app (goodIn_of _ (by decide +kernel)) ggX5_oldestUnseen_Jx4a65c_get_915e3
set_option maxRecDepth 20000 in
theorem ggX5_oldestUnseen_X1_stands : GoodIn wsX5_oldestUnseen wsX1_stands := goodIn_r _ [29, 30, 31, 52, 53, 54, 55] (by decide +kernel) (by decide +kernel)
set_option maxRecDepth 20000 in
theorem gX5_oldestUnseen_X1_stands_n227 : GoodIn wsX5_oldestUnseen (wsX1_stands) := ggX5_oldestUnseen_X1_stands
set_option maxRecDepth 20000 in
theorem ggX5_oldestUnseen_X1_isSeen : GoodIn wsX5_oldestUnseen wsX1_isSeen := goodIn_r _ [34, 35, 36, 37, 38, 39, 40, 52, 53, 54, 55, 56, 57, 58, 59, 60] (by decide +kernel) (by decide +kernel)
set_option maxRecDepth 20000 in
theorem gX5_oldestUnseen_X1_isSeen_n236 : GoodIn wsX5_oldestUnseen (wsX1_isSeen) := ggX5_oldestUnseen_X1_isSeen
theorem dX5_oldestUnseen_0 : decode cX5_oldestUnseen 0 = .ok (.aload_n 0, 1) := by decide +kernel
theorem dX5_oldestUnseen_1 : decode cX5_oldestUnseen 1 = .ok (.getfield 28, 3) := by decide +kernel
theorem dX5_oldestUnseen_4 : decode cX5_oldestUnseen 4 = .ok (.invokevirtual 64, 3) := by decide +kernel
theorem dX5_oldestUnseen_7 : decode cX5_oldestUnseen 7 = .ok (.istore 4, 2) := by decide +kernel
theorem dX5_oldestUnseen_9 : decode cX5_oldestUnseen 9 = .ok (.aload_n 0, 1) := by decide +kernel
theorem dX5_oldestUnseen_10 : decode cX5_oldestUnseen 10 = .ok (.getfield 28, 3) := by decide +kernel
theorem dX5_oldestUnseen_13 : decode cX5_oldestUnseen 13 = .ok (.invokevirtual 64, 3) := by decide +kernel
theorem dX5_oldestUnseen_16 : decode cX5_oldestUnseen 16 = .ok (.iconst 1, 1) := by decide +kernel
theorem dX5_oldestUnseen_17 : decode cX5_oldestUnseen 17 = .ok (.isub, 1) := by decide +kernel
theorem dX5_oldestUnseen_18 : decode cX5_oldestUnseen 18 = .ok (.istore 5, 2) := by decide +kernel
theorem dX5_oldestUnseen_20 : decode cX5_oldestUnseen 20 = .ok (.iload 5, 2) := by decide +kernel
theorem dX5_oldestUnseen_22 : decode cX5_oldestUnseen 22 = .ok (.ifCond .lt 49, 3) := by decide +kernel
theorem dX5_oldestUnseen_25 : decode cX5_oldestUnseen 25 = .ok (.aload_n 0, 1) := by decide +kernel
theorem dX5_oldestUnseen_26 : decode cX5_oldestUnseen 26 = .ok (.getfield 28, 3) := by decide +kernel
theorem dX5_oldestUnseen_29 : decode cX5_oldestUnseen 29 = .ok (.iload 5, 2) := by decide +kernel
theorem dX5_oldestUnseen_31 : decode cX5_oldestUnseen 31 = .ok (.invokevirtual 194, 3) := by decide +kernel
theorem dX5_oldestUnseen_34 : decode cX5_oldestUnseen 34 = .ok (.checkcast 126, 3) := by decide +kernel
theorem dX5_oldestUnseen_37 : decode cX5_oldestUnseen 37 = .ok (.astore 6, 2) := by decide +kernel
theorem dX5_oldestUnseen_39 : decode cX5_oldestUnseen 39 = .ok (.aload 6, 2) := by decide +kernel
theorem dX5_oldestUnseen_41 : decode cX5_oldestUnseen 41 = .ok (.aload_n 1, 1) := by decide +kernel
theorem dX5_oldestUnseen_42 : decode cX5_oldestUnseen 42 = .ok (.invokevirtual 227, 3) := by decide +kernel
theorem dX5_oldestUnseen_45 : decode cX5_oldestUnseen 45 = .ok (.ifCond .eq 20, 3) := by decide +kernel
theorem dX5_oldestUnseen_48 : decode cX5_oldestUnseen 48 = .ok (.aload 6, 2) := by decide +kernel
theorem dX5_oldestUnseen_50 : decode cX5_oldestUnseen 50 = .ok (.iload_n 2, 1) := by decide +kernel
theorem dX5_oldestUnseen_51 : decode cX5_oldestUnseen 51 = .ok (.aload_n 3, 1) := by decide +kernel
theorem dX5_oldestUnseen_52 : decode cX5_oldestUnseen 52 = .ok (.invokevirtual 236, 3) := by decide +kernel
theorem dX5_oldestUnseen_55 : decode cX5_oldestUnseen 55 = .ok (.ifCond .eq 6, 3) := by decide +kernel
theorem dX5_oldestUnseen_58 : decode cX5_oldestUnseen 58 = .ok (.iload 4, 2) := by decide +kernel
theorem dX5_oldestUnseen_60 : decode cX5_oldestUnseen 60 = .ok (.ireturn, 1) := by decide +kernel
theorem dX5_oldestUnseen_61 : decode cX5_oldestUnseen 61 = .ok (.iload 5, 2) := by decide +kernel
theorem dX5_oldestUnseen_63 : decode cX5_oldestUnseen 63 = .ok (.istore 4, 2) := by decide +kernel
theorem dX5_oldestUnseen_65 : decode cX5_oldestUnseen 65 = .ok (.iinc 5 (-1), 3) := by decide +kernel
theorem dX5_oldestUnseen_68 : decode cX5_oldestUnseen 68 = .ok (.goto (-48), 3) := by decide +kernel
theorem dX5_oldestUnseen_71 : decode cX5_oldestUnseen 71 = .ok (.iload 4, 2) := by decide +kernel
theorem dX5_oldestUnseen_73 : decode cX5_oldestUnseen 73 = .ok (.ireturn, 1) := by decide +kernel
set_option maxRecDepth 20000 in
theorem ggX5_valueAheadOf_Jx4a65c_size_8abf5 : GoodIn wsX5_valueAheadOf wsJx4a65c_size_8abf5 := goodIn_r _ [7, 8, 40, 41, 42] (by decide +kernel) (by decide +kernel)
set_option maxRecDepth 20000 in
theorem gX5_valueAheadOf_Jx4a65c_size_8abf5 : GoodIn wsX5_valueAheadOf (wsV RX5 64 RJx4a65c yJx4a65c_size_8abf5 wsJx4a65c_size_8abf5) := goodIn_app (goodIn_of _ (by decide +kernel)) ggX5_valueAheadOf_Jx4a65c_size_8abf5
set_option maxRecDepth 20000 in
theorem ggX5_valueAheadOf_Jx4a65c_get_915e3 : GoodIn wsX5_valueAheadOf wsJx4a65c_get_915e3 := goodIn_r _ [12, 8, 13, 14, 15, 16, 17, 18, 19, 20, 21, 22, 23, 6, 24, 25, 40, 41, 42] (by decide +kernel) (by decide +kernel)
set_option maxRecDepth 20000 in
theorem gX5_valueAheadOf_Jx4a65c_get_915e3 : GoodIn wsX5_valueAheadOf (wsV RX5 194 RJx4a65c yJx4a65c_get_915e3 wsJx4a65c_get_915e3) := goodIn_app (goodIn_of _ (by decide +kernel)) ggX5_valueAheadOf_Jx4a65c_get_915e3
theorem dX5_valueAheadOf_0 : decode cX5_valueAheadOf 0 = .ok (.iload_n 1, 1) := by decide +kernel
theorem dX5_valueAheadOf_1 : decode cX5_valueAheadOf 1 = .ok (.ifCond .lt 14, 3) := by decide +kernel
theorem dX5_valueAheadOf_4 : decode cX5_valueAheadOf 4 = .ok (.iload_n 1, 1) := by decide +kernel
theorem dX5_valueAheadOf_5 : decode cX5_valueAheadOf 5 = .ok (.aload_n 0, 1) := by decide +kernel
theorem dX5_valueAheadOf_6 : decode cX5_valueAheadOf 6 = .ok (.getfield 28, 3) := by decide +kernel
theorem dX5_valueAheadOf_9 : decode cX5_valueAheadOf 9 = .ok (.invokevirtual 64, 3) := by decide +kernel
theorem dX5_valueAheadOf_12 : decode cX5_valueAheadOf 12 = .ok (.if_icmp .lt 8, 3) := by decide +kernel
theorem dX5_valueAheadOf_15 : decode cX5_valueAheadOf 15 = .ok (.aload_n 2, 1) := by decide +kernel
theorem dX5_valueAheadOf_16 : decode cX5_valueAheadOf 16 = .ok (.getfield 128, 3) := by decide +kernel
theorem dX5_valueAheadOf_19 : decode cX5_valueAheadOf 19 = .ok (.ireturn, 1) := by decide +kernel
theorem dX5_valueAheadOf_20 : decode cX5_valueAheadOf 20 = .ok (.aload_n 0, 1) := by decide +kernel
theorem dX5_valueAheadOf_21 : decode cX5_valueAheadOf 21 = .ok (.getfield 28, 3) := by decide +kernel
theorem dX5_valueAheadOf_24 : decode cX5_valueAheadOf 24 = .ok (.iload_n 1, 1) := by decide +kernel
theorem dX5_valueAheadOf_25 : decode cX5_valueAheadOf 25 = .ok (.invokevirtual 194, 3) := by decide +kernel
theorem dX5_valueAheadOf_28 : decode cX5_valueAheadOf 28 = .ok (.checkcast 126, 3) := by decide +kernel
theorem dX5_valueAheadOf_31 : decode cX5_valueAheadOf 31 = .ok (.getfield 138, 3) := by decide +kernel
theorem dX5_valueAheadOf_34 : decode cX5_valueAheadOf 34 = .ok (.ireturn, 1) := by decide +kernel
set_option maxRecDepth 20000 in
theorem ggX5_clean_X0_markEnded : GoodIn wsX5_clean wsX0_markEnded := goodIn_r _ [5, 6, 7, 8, 9, 10, 11, 20, 21, 22, 23, 24, 25, 26, 27] (by decide +kernel) (by decide +kernel)
set_option maxRecDepth 20000 in
theorem gX5_clean_X0_markEnded_n240 : GoodIn wsX5_clean (wsX0_markEnded) := ggX5_clean_X0_markEnded
theorem dX5_clean_0 : decode cX5_clean 0 = .ok (.aload_n 0, 1) := by decide +kernel
theorem dX5_clean_1 : decode cX5_clean 1 = .ok (.dup, 1) := by decide +kernel
theorem dX5_clean_2 : decode cX5_clean 2 = .ok (.getfield 38, 3) := by decide +kernel
theorem dX5_clean_5 : decode cX5_clean 5 = .ok (.aload_n 1, 1) := by decide +kernel
theorem dX5_clean_6 : decode cX5_clean 6 = .ok (.invokevirtual 240, 3) := by decide +kernel
theorem dX5_clean_9 : decode cX5_clean 9 = .ok (.iadd, 1) := by decide +kernel
theorem dX5_clean_10 : decode cX5_clean 10 = .ok (.putfield 38, 3) := by decide +kernel
theorem dX5_clean_13 : decode cX5_clean 13 = .ok (.return_, 1) := by decide +kernel
end
section
/-! ends and calls over worlds by keys -/
section KE
variable {p : Program} {l : Launch} {e : Env} {R : Room} {s : State} {m : MethodId} {args : Array Value} {below : List Frame} {meth : Method} {c : Code} {H : Heap} {locs : List Loc} {cells slots : Nat} {Q : State → Prop}
variable {cc : ByteArray} {pc : Nat} {ls : Array Slot} {rest st0 : List Value} {D : va_G} {A : Nat → Prop} {ad : Nat → Nat} {w : kWd} {k mc ms : Nat} {a : Array Value}
theorem ke_i {post : Int32 → (Nat → Nat) → kWd → Prop} {v : Int32} (hx : p.tables.exec = Jvm.exec) (hb : c.code = cc) (hr : meth.sig.returnType = some .int) (hlocks : meth.locks = false) (hc : cells ≤ mc) (hs : slots ≤ ms) (hdg : decode cc pc = .ok (.ireturn, 1)) (hW : kS D A s.heap ad w H locs) (hp : post v ad w) :
    W p l e R s m args below meth c H locs cells slots (MQ below (kQi D A post) args s mc ms A) (F0 m pc ls [.int v]) :=
  W.widen hc hs (W.iret hx hb hr (fun t ht _ => ⟨⟨v, (ad, w), rfl, hp, by rw [ht]; exact hW.1, hW.2.1⟩, hW.2.2.1.F ht⟩) hW.2.2.1.2.2 hdg hlocks)
theorem ke_z {post : Int32 → (Nat → Nat) → kWd → Prop} {v : Int32} (hx : p.tables.exec = Jvm.exec) (hb : c.code = cc) (hr : meth.sig.returnType = some .boolean) (hlocks : meth.locks = false) (hc : cells ≤ mc) (hs : slots ≤ ms) (hdg : decode cc pc = .ok (.ireturn, 1)) (hv : v = 0 ∨ v = 1) (hW : kS D A s.heap ad w H locs) (hp : post v ad w) :
    W p l e R s m args below meth c H locs cells slots (MQ below (kQi D A post) args s mc ms A) (F0 m pc ls [.int v]) :=
  W.widen hc hs (W.zret hx hb hr (by rcases hv with rfl | rfl <;> decide) (fun t ht _ => ⟨⟨v, (ad, w), rfl, hp, by rw [ht]; exact hW.1, hW.2.1⟩, hW.2.2.1.F ht⟩) hW.2.2.1.2.2 hdg hlocks)
theorem ke_v {post : (Nat → Nat) → kWd → Prop} (hx : p.tables.exec = Jvm.exec) (hb : c.code = cc) (hr : meth.sig.returnType = none) (hlocks : meth.locks = false) (hc : cells ≤ mc) (hs : slots ≤ ms) (hdg : decode cc pc = .ok (.return_, 1)) (hW : kS D A s.heap ad w H locs) (hp : post ad w) :
    W p l e R s m args below meth c H locs cells slots (MQ below (kQv D A post) args s mc ms A) (F0 m pc ls []) :=
  W.widen hc hs (W.vret hx hb hr (fun t ht _ => ⟨⟨(ad, w), rfl, hp, by rw [ht]; exact hW.1, hW.2.1⟩, hW.2.2.1.F ht⟩) hW.2.2.1.2.2 hdg hlocks)
theorem ke_q {post : Option Nat → (Nat → Nat) → kWd → Prop} {v : Value} {r : Option Nat} {rt : FieldType} (hx : p.tables.exec = Jvm.exec) (hb : c.code = cc) (hr : meth.sig.returnType = some rt) (hrt : (∃ n, rt = .object n) ∨ ∃ t, rt = .array t) (hlocks : meth.locks = false) (hc : cells ≤ mc) (hs : slots ≤ ms) (hdg : decode cc pc = .ok (.areturn, 1)) (hv : v = va_rf r) (hW : kS D A s.heap ad w H locs) (hp : post r ad w) :
    W p l e R s m args below meth c H locs cells slots (MQ below (kQq D A post) args s mc ms A) (F0 m pc ls [v]) := by
  subst hv
  exact W.widen hc hs (W.aret hx hb hr hrt (va_rf_or r) (fun t ht _ => ⟨⟨r, (ad, w), rfl, hp, by rw [ht]; exact hW.1, hW.2.1⟩, hW.2.2.1.F ht⟩) hW.2.2.1.2.2 hdg hlocks)
/-- a call by name on a thing of the world -/
theorem kV {C : String} {T : u_T} {N ci : Nat} {fs : List Value} (hE : kE D A s) (hW : kS D A s.heap ad w H locs) (he : w k = some (.inr (ci, fs))) (hc : vwCl[ci]? = some (C, T, N)) (As : List Value) : PreV s H C (ad k) (kPc D A (.ref (ad k) :: As) ad w) As :=
  ⟨kPc.bl, va_recv hE.K (hW.P1 he) (q0 := 0) hc rfl, fun U hU hw => kPc.at hE hW _ hU hw⟩
theorem kSt (hE : kE D A s) (hW : kS D A s.heap ad w H locs) (As : List Value) : PreS s H (kPc D A As ad w) As := ⟨kPc.bl, fun U hU hw => kPc.at hE hW _ hU hw⟩
theorem kk_i {post : Int32 → (Nat → Nat) → kWd → Prop} (hr : va_Run p l e R s m args below meth c H locs cells slots mc ms (F0 m pc ls st0) rest (kQi D A post a) A) (hW : kS D A s.heap ad w H locs)
    (kk : ∀ (r : Int32) (ad1 : Nat → Nat) (w1 : kWd) (H1 : Heap) (locs1 : List Loc), post r ad1 w1 → kS D A s.heap ad1 w1 H1 locs1 → W p l e R s m args below meth c H1 locs1 (cells + mc) (slots + ms) Q (F0 m (pc + 3) ls (.int r :: rest))) : W p l e R s m args below meth c H locs cells slots Q (F0 m pc ls st0) :=
  va_calli hr hW.2.2.1 (fun _ _ h => h) (fun _ h => h) (fun r u t H1 locs1 ht _ hp hB _ _ hS => kk r u.1 u.2 H1 locs1 hp ⟨by rw [← ht]; exact hB.1, hB.2, hS, hW.2.2.2⟩)
theorem kk_v {post : (Nat → Nat) → kWd → Prop} (hr : va_Run p l e R s m args below meth c H locs cells slots mc ms (F0 m pc ls st0) rest (kQv D A post a) A) (hW : kS D A s.heap ad w H locs)
    (kk : ∀ (ad1 : Nat → Nat) (w1 : kWd) (H1 : Heap) (locs1 : List Loc), post ad1 w1 → kS D A s.heap ad1 w1 H1 locs1 → W p l e R s m args below meth c H1 locs1 (cells + mc) (slots + ms) Q (F0 m (pc + 3) ls rest)) : W p l e R s m args below meth c H locs cells slots Q (F0 m pc ls st0) :=
  va_callv hr hW.2.2.1 (fun _ _ h => h) (fun _ h => h) (fun u t H1 locs1 ht _ hp hB _ _ hS => kk u.1 u.2 H1 locs1 hp ⟨by rw [← ht]; exact hB.1, hB.2, hS, hW.2.2.2⟩)
theorem kk_q {post : Option Nat → (Nat → Nat) → kWd → Prop} (hr : va_Run p l e R s m args below meth c H locs cells slots mc ms (F0 m pc ls st0) rest (kQq D A post a) A) (hW : kS D A s.heap ad w H locs)
    (kk : ∀ (r : Option Nat) (ad1 : Nat → Nat) (w1 : kWd) (H1 : Heap) (locs1 : List Loc), post r ad1 w1 → kS D A s.heap ad1 w1 H1 locs1 → W p l e R s m args below meth c H1 locs1 (cells + mc) (slots + ms) Q (F0 m (pc + 3) ls (va_rf r :: rest))) : W p l e R s m args below meth c H locs cells slots Q (F0 m pc ls st0) :=
  va_callq hr hW.2.2.1 (fun _ _ h => h) (fun _ h => h) (fun r u t H1 locs1 ht _ hp hB _ _ hS => kk r u.1 u.2 H1 locs1 hp ⟨by rw [← ht]; exact hB.1, hB.2, hS, hW.2.2.2⟩)
/-- .. that may throw -/
abbrev kXk (p : Program) (l : Launch) (e : Env) (R : Room) (s : State) (m : MethodId) (args : Array Value) (below : List Frame) (meth : Method) (c : Code) (cells slots mc ms : Nat) (Q : State → Prop) (pc : Nat) (ls : Array Slot) (rest : List Value) (D : va_G) (A : Nat → Prop) (ad : Nat → Nat) (w : kWd) (px : String → Prop) : Prop :=
  ∀ (E : String) (ce : Cell) (q9 : Addr) (H1 : Heap) (locs1 : List Loc), px E → kS D A s.heap ad w H1 locs1 → H1[q9]? = some ce → ce.vm = .none → s.vm.findClass E = some ce.cls → vx_W p l e R s m args below meth c H1 locs1 (cells + mc) (slots + ms) Q (F0 m pc ls rest) q9
theorem kx_i {post : Int32 → (Nat → Nat) → kWd → Prop} {px : String → Prop} (hr : vx_Run p l e R s m args below meth c H locs cells slots mc ms (F0 m pc ls st0) rest (kQi D A post a) (kX D A px ad w) A) (hW : kS D A s.heap ad w H locs)
    (kx : kXk p l e R s m args below meth c cells slots mc ms Q pc ls rest D A ad w px)
    (kk : ∀ (r : Int32) (ad1 : Nat → Nat) (w1 : kWd) (H1 : Heap) (locs1 : List Loc), post r ad1 w1 → kS D A s.heap ad1 w1 H1 locs1 → W p l e R s m args below meth c H1 locs1 (cells + mc) (slots + ms) Q (F0 m (pc + 3) ls (.int r :: rest))) : W p l e R s m args below meth c H locs cells slots Q (F0 m pc ls st0) :=
  vx_calli hr hW.2.2.1 (fun _ _ h => h) (fun _ h => h) (fun _ _ h => h) (fun E ce q9 _ t H1 locs1 ht _ _ hB _ _ hS h1 h2 h3 => kx E ce q9 H1 locs1 hB.1 ⟨by rw [← ht]; exact hB.2, hW.2.1, hS, hW.2.2.2⟩ h1 h2 h3) (fun r u t H1 locs1 ht _ hp hB _ _ hS => kk r u.1 u.2 H1 locs1 hp ⟨by rw [← ht]; exact hB.1, hB.2, hS, hW.2.2.2⟩)
theorem kx_v {post : (Nat → Nat) → kWd → Prop} {px : String → Prop} (hr : vx_Run p l e R s m args below meth c H locs cells slots mc ms (F0 m pc ls st0) rest (kQv D A post a) (kX D A px ad w) A) (hW : kS D A s.heap ad w H locs)
    (kx : kXk p l e R s m args below meth c cells slots mc ms Q pc ls rest D A ad w px)
    (kk : ∀ (ad1 : Nat → Nat) (w1 : kWd) (H1 : Heap) (locs1 : List Loc), post ad1 w1 → kS D A s.heap ad1 w1 H1 locs1 → W p l e R s m args below meth c H1 locs1 (cells + mc) (slots + ms) Q (F0 m (pc + 3) ls rest)) : W p l e R s m args below meth c H locs cells slots Q (F0 m pc ls st0) :=
  vx_callv hr hW.2.2.1 (fun _ _ h => h) (fun _ h => h) (fun _ _ h => h) (fun E ce q9 _ t H1 locs1 ht _ _ hB _ _ hS h1 h2 h3 => kx E ce q9 H1 locs1 hB.1 ⟨by rw [← ht]; exact hB.2, hW.2.1, hS, hW.2.2.2⟩ h1 h2 h3) (fun u t H1 locs1 ht _ hp hB _ _ hS => kk u.1 u.2 H1 locs1 hp ⟨by rw [← ht]; exact hB.1, hB.2, hS, hW.2.2.2⟩)
theorem kx_q {post : Option Nat → (Nat → Nat) → kWd → Prop} {px : String → Prop} (hr : vx_Run p l e R s m args below meth c H locs cells slots mc ms (F0 m pc ls st0) rest (kQq D A post a) (kX D A px ad w) A) (hW : kS D A s.heap ad w H locs)
    (kx : kXk p l e R s m args below meth c cells slots mc ms Q pc ls rest D A ad w px)
    (kk : ∀ (r : Option Nat) (ad1 : Nat → Nat) (w1 : kWd) (H1 : Heap) (locs1 : List Loc), post r ad1 w1 → kS D A s.heap ad1 w1 H1 locs1 → W p l e R s m args below meth c H1 locs1 (cells + mc) (slots + ms) Q (F0 m (pc + 3) ls (va_rf r :: rest))) : W p l e R s m args below meth c H locs cells slots Q (F0 m pc ls st0) := by
  intro T hT X
  rcases hr T hT X with ⟨v, st₀, t, T', L, h0, X', hL, e1, e2, ⟨⟨r, u, hv, hp, hb⟩, hF⟩, st⟩ | ⟨q, st₀, t, T', L, E, ce, h0, X', hL, e1, e2, ⟨u, hp, hb, hF⟩, hce, hcv, hcl, st⟩
  · cases hv
    obtain ⟨k1, k2, k3⟩ := vx_keep h0 e1 hW.2.2.1 (fun _ _ h => h) (fun _ h => h) hL hF
    obtain ⟨t2, a1, b1⟩ := kk r u.1 u.2 T'.heap (locs ++ L) hp ⟨by rw [e1]; exact hb.1, hb.2, k3, hW.2.2.2⟩ T' rfl X'
    exact ⟨t2, st t2 a1, b1⟩
  · obtain ⟨k1, k2, k3⟩ := vx_keep h0 e1 hW.2.2.1 (fun _ _ h => h) (fun _ h => h) hL hF
    obtain ⟨t2, a1, b1⟩ := kx E ce q T'.heap (locs ++ L) hb.1 ⟨by rw [e1]; exact hb.2, hW.2.1, k3, hW.2.2.2⟩ (by rw [e1]; exact hce) hcv hcl T' rfl X'
    exact ⟨t2, st.trans a1, b1⟩
/-- what is thrown below goes on to the caller -/
theorem kx_out {Qc : Array Value → State → Outcome → State → Prop} {mc0 ms0 : Nat} {px px0 : String → Prop} {ad0 : Nat → Nat} {w0 : kWd} (hout : ∀ x ∈ c.exceptionTable.toList, False) (hlocks : meth.locks = false) (hc : cells + mc0 ≤ mc) (hs : slots + ms0 ≤ ms) (h0 : ∀ E, px0 E → px E ∧ ad0 = ad ∧ w0 = w) :
    kXk p l e R s m args below meth c cells slots mc0 ms0 (vx_MQ below Qc (kX D A px ad w) args s mc ms A) pc ls rest D A ad0 w0 px0 := by
  intro E ce q9 H1 locs1 hp hW h1 h2 h3
  obtain ⟨p1, rfl, rfl⟩ := h0 E hp
  exact vx_out (fun x hx => (hout x hx).elim) hlocks h1 h2 h3 (fun t ht _ => ⟨(), trivial, ⟨p1, by rw [ht]; exact hW.1⟩, hW.2.2.1.F ht⟩) hW.2.2.1.2.2 hc hs
theorem W_join {P : Int32 → Prop} {pj : Nat} {rj : List Value} {g : JFrame} {lj : Array Slot} (J : ∀ v : Int32, P v → W p l e R s m args below meth c H locs cells slots Q (F0 m pj lj (.int v :: rj)))
    (kk : (∀ v : Int32, P v → W p l e R s m args below meth c H locs cells slots Q (F0 m pj lj (.int v :: rj))) → W p l e R s m args below meth c H locs cells slots Q g) : W p l e R s m args below meth c H locs cells slots Q g := kk J
theorem W_joinH {P : Int32 → Prop} {pj : Nat} {rj : List Value} {g : JFrame} {lj : Array Slot} (J : ∀ (v : Int32) (H : Heap) (locs : List Loc), P v → kS D A s.heap ad w H locs → W p l e R s m args below meth c H locs cells slots Q (F0 m pj lj (.int v :: rj)))
    (kk : (∀ (v : Int32) (H : Heap) (locs : List Loc), P v → kS D A s.heap ad w H locs → W p l e R s m args below meth c H locs cells slots Q (F0 m pj lj (.int v :: rj))) → W p l e R s m args below meth c H locs cells slots Q g) : W p l e R s m args below meth c H locs cells slots Q g := kk J
theorem W_join0 {P : Prop} {pj : Nat} {rj : List Value} {g : JFrame} {lj : Array Slot} (J : P → W p l e R s m args below meth c H locs cells slots Q (F0 m pj lj rj))
    (kk : (P → W p l e R s m args below meth c H locs cells slots Q (F0 m pj lj rj)) → W p l e R s m args below meth c H locs cells slots Q g) : W p l e R s m args below meth c H locs cells slots Q g := kk J
end KE
end
section
/-! the reference's state: S c k: component c at place k. 0 value, 1 state, 2 asOf, 3 committedAt, 4 by, 5 row, 6 ahead, 7 isVoid, 8 slot, 9 isEnded; 10 size, 11 moment, 12 transactions, 13 changes, 14 dropped, 15 marks, 16 isLate, 17 thrown (at place 0) -/
abbrev St : Type := Nat → Nat → Int32
def sU (S : St) (c : Nat) (f : Nat → Int32) : St := fun c' => if c' = c then f else S c'
def sS (S : St) (c : Nat) (x : Int32) : St := sU S c (fun _ => x)
def sA (S : St) (c k : Nat) (x : Int32) : St := sU S c (upd (S c) k x)
theorem sU_s {S : St} {c : Nat} {f : Nat → Int32} : sU S c f c = f := if_pos rfl
theorem sU_n {S : St} {c d : Nat} {f : Nat → Int32} (h : d ≠ c) : sU S c f d = S d := if_neg h
abbrev bI (P : Prop) [Decidable P] : Int32 := if P then 1 else 0
abbrev nv (x : Int32) : Nat := x.toNatClampNeg
abbrev mF (ad : Nat → Nat) (S : St) : List Value := [.ref (ad 2001), .int (S 10 0), .int (S 11 0), .int (S 12 0), .ref (ad 2002), .ref (ad 2003), .ref (ad 2004), .int (S 13 0), .ref (ad 2005), .ref (ad 2006), .ref (ad 2007), .ref (ad 2008), .int (S 14 0), .ref (ad 2009), .ref (ad 2010), .int (S 15 0), .int (S 16 0), .int (S 17 0)]
def FrM (w0 w : kWd) : Prop := ∀ k : Nat, (k < 2000 ∨ 2011 ≤ k) → w k = w0 k
/-- the reference's world, and that nothing else has changed since w0 -/
def MW (D : va_G) (S : St) (ad : Nat → Nat) (w0 w : kWd) : Prop :=
  w 2000 = some (.inr (7, mF ad S)) ∧ w 2001 = some (.inl (D.1 100, 12, .inl (S 0))) ∧ w 2002 = some (.inl (D.1 100, 60, .inl (S 1))) ∧ w 2003 = some (.inl (D.1 100, 60, .inl (S 2))) ∧ w 2004 = some (.inl (D.1 100, 60, .inl (S 3))) ∧
  w 2005 = some (.inl (D.1 100, 2000, .inl (S 4))) ∧ w 2006 = some (.inl (D.1 100, 2000, .inl (S 5))) ∧ w 2007 = some (.inl (D.1 100, 2000, .inl (S 6))) ∧ w 2008 = some (.inl (D.1 101, 2000, .inl (S 7))) ∧ w 2009 = some (.inl (D.1 100, 6, .inl (S 8))) ∧ w 2010 = some (.inl (D.1 101, 6, .inl (S 9))) ∧ FrM w0 w
section MWs
variable {D : va_G} {S : St} {ad : Nat → Nat} {w0 w w1 : kWd}
theorem MW.o (h : MW D S ad w0 w) : w 2000 = some (.inr (7, mF ad S)) := h.1
theorem MW.a0 (h : MW D S ad w0 w) : w 2001 = some (.inl (D.1 100, 12, .inl (S 0))) := h.2.1
theorem MW.a1 (h : MW D S ad w0 w) : w 2002 = some (.inl (D.1 100, 60, .inl (S 1))) := h.2.2.1
theorem MW.a2 (h : MW D S ad w0 w) : w 2003 = some (.inl (D.1 100, 60, .inl (S 2))) := h.2.2.2.1
theorem MW.a3 (h : MW D S ad w0 w) : w 2004 = some (.inl (D.1 100, 60, .inl (S 3))) := h.2.2.2.2.1
theorem MW.a4 (h : MW D S ad w0 w) : w 2005 = some (.inl (D.1 100, 2000, .inl (S 4))) := h.2.2.2.2.2.1
theorem MW.a5 (h : MW D S ad w0 w) : w 2006 = some (.inl (D.1 100, 2000, .inl (S 5))) := h.2.2.2.2.2.2.1
theorem MW.a6 (h : MW D S ad w0 w) : w 2007 = some (.inl (D.1 100, 2000, .inl (S 6))) := h.2.2.2.2.2.2.2.1
theorem MW.a7 (h : MW D S ad w0 w) : w 2008 = some (.inl (D.1 101, 2000, .inl (S 7))) := h.2.2.2.2.2.2.2.2.1
theorem MW.a8 (h : MW D S ad w0 w) : w 2009 = some (.inl (D.1 100, 6, .inl (S 8))) := h.2.2.2.2.2.2.2.2.2.1
theorem MW.a9 (h : MW D S ad w0 w) : w 2010 = some (.inl (D.1 101, 6, .inl (S 9))) := h.2.2.2.2.2.2.2.2.2.2.1
theorem MW.fr (h : MW D S ad w0 w) : FrM w0 w := h.2.2.2.2.2.2.2.2.2.2.2
theorem MW.s10 (h : MW D S ad w0 w) {x : Int32} (e : w1 = va_up w 2000 (some (.inr (7, (mF ad S).set 1 (.int x))))) : MW D (sS S 10 x) ad w0 w1 := ⟨(up_s e), (up_n e (by decide)).trans h.a0, (up_n e (by decide)).trans h.a1, (up_n e (by decide)).trans h.a2, (up_n e (by decide)).trans h.a3, (up_n e (by decide)).trans h.a4, (up_n e (by decide)).trans h.a5, (up_n e (by decide)).trans h.a6, (up_n e (by decide)).trans h.a7, (up_n e (by decide)).trans h.a8, (up_n e (by decide)).trans h.a9, fun k hk => (up_n e (by omega)).trans (h.fr k hk)⟩
theorem MW.s11 (h : MW D S ad w0 w) {x : Int32} (e : w1 = va_up w 2000 (some (.inr (7, (mF ad S).set 2 (.int x))))) : MW D (sS S 11 x) ad w0 w1 := ⟨(up_s e), (up_n e (by decide)).trans h.a0, (up_n e (by decide)).trans h.a1, (up_n e (by decide)).trans h.a2, (up_n e (by decide)).trans h.a3, (up_n e (by decide)).trans h.a4, (up_n e (by decide)).trans h.a5, (up_n e (by decide)).trans h.a6, (up_n e (by decide)).trans h.a7, (up_n e (by decide)).trans h.a8, (up_n e (by decide)).trans h.a9, fun k hk => (up_n e (by omega)).trans (h.fr k hk)⟩
theorem MW.s12 (h : MW D S ad w0 w) {x : Int32} (e : w1 = va_up w 2000 (some (.inr (7, (mF ad S).set 3 (.int x))))) : MW D (sS S 12 x) ad w0 w1 := ⟨(up_s e), (up_n e (by decide)).trans h.a0, (up_n e (by decide)).trans h.a1, (up_n e (by decide)).trans h.a2, (up_n e (by decide)).trans h.a3, (up_n e (by decide)).trans h.a4, (up_n e (by decide)).trans h.a5, (up_n e (by decide)).trans h.a6, (up_n e (by decide)).trans h.a7, (up_n e (by decide)).trans h.a8, (up_n e (by decide)).trans h.a9, fun k hk => (up_n e (by omega)).trans (h.fr k hk)⟩
theorem MW.s13 (h : MW D S ad w0 w) {x : Int32} (e : w1 = va_up w 2000 (some (.inr (7, (mF ad S).set 7 (.int x))))) : MW D (sS S 13 x) ad w0 w1 := ⟨(up_s e), (up_n e (by decide)).trans h.a0, (up_n e (by decide)).trans h.a1, (up_n e (by decide)).trans h.a2, (up_n e (by decide)).trans h.a3, (up_n e (by decide)).trans h.a4, (up_n e (by decide)).trans h.a5, (up_n e (by decide)).trans h.a6, (up_n e (by decide)).trans h.a7, (up_n e (by decide)).trans h.a8, (up_n e (by decide)).trans h.a9, fun k hk => (up_n e (by omega)).trans (h.fr k hk)⟩
theorem MW.s14 (h : MW D S ad w0 w) {x : Int32} (e : w1 = va_up w 2000 (some (.inr (7, (mF ad S).set 12 (.int x))))) : MW D (sS S 14 x) ad w0 w1 := ⟨(up_s e), (up_n e (by decide)).trans h.a0, (up_n e (by decide)).trans h.a1, (up_n e (by decide)).trans h.a2, (up_n e (by decide)).trans h.a3, (up_n e (by decide)).trans h.a4, (up_n e (by decide)).trans h.a5, (up_n e (by decide)).trans h.a6, (up_n e (by decide)).trans h.a7, (up_n e (by decide)).trans h.a8, (up_n e (by decide)).trans h.a9, fun k hk => (up_n e (by omega)).trans (h.fr k hk)⟩
theorem MW.s15 (h : MW D S ad w0 w) {x : Int32} (e : w1 = va_up w 2000 (some (.inr (7, (mF ad S).set 15 (.int x))))) : MW D (sS S 15 x) ad w0 w1 := ⟨(up_s e), (up_n e (by decide)).trans h.a0, (up_n e (by decide)).trans h.a1, (up_n e (by decide)).trans h.a2, (up_n e (by decide)).trans h.a3, (up_n e (by decide)).trans h.a4, (up_n e (by decide)).trans h.a5, (up_n e (by decide)).trans h.a6, (up_n e (by decide)).trans h.a7, (up_n e (by decide)).trans h.a8, (up_n e (by decide)).trans h.a9, fun k hk => (up_n e (by omega)).trans (h.fr k hk)⟩
theorem MW.s16 (h : MW D S ad w0 w) {x : Int32} (e : w1 = va_up w 2000 (some (.inr (7, (mF ad S).set 16 (.int x))))) : MW D (sS S 16 x) ad w0 w1 := ⟨(up_s e), (up_n e (by decide)).trans h.a0, (up_n e (by decide)).trans h.a1, (up_n e (by decide)).trans h.a2, (up_n e (by decide)).trans h.a3, (up_n e (by decide)).trans h.a4, (up_n e (by decide)).trans h.a5, (up_n e (by decide)).trans h.a6, (up_n e (by decide)).trans h.a7, (up_n e (by decide)).trans h.a8, (up_n e (by decide)).trans h.a9, fun k hk => (up_n e (by omega)).trans (h.fr k hk)⟩
theorem MW.s17 (h : MW D S ad w0 w) {x : Int32} (e : w1 = va_up w 2000 (some (.inr (7, (mF ad S).set 17 (.int x))))) : MW D (sS S 17 x) ad w0 w1 := ⟨(up_s e), (up_n e (by decide)).trans h.a0, (up_n e (by decide)).trans h.a1, (up_n e (by decide)).trans h.a2, (up_n e (by decide)).trans h.a3, (up_n e (by decide)).trans h.a4, (up_n e (by decide)).trans h.a5, (up_n e (by decide)).trans h.a6, (up_n e (by decide)).trans h.a7, (up_n e (by decide)).trans h.a8, (up_n e (by decide)).trans h.a9, fun k hk => (up_n e (by omega)).trans (h.fr k hk)⟩
theorem MW.t0 (h : MW D S ad w0 w) {k : Nat} {x : Int32} (e : w1 = va_up w 2001 (some (.inl (D.1 100, 12, .inl (upd (S 0) k x))))) : MW D (sA S 0 k x) ad w0 w1 := ⟨(up_n e (by decide)).trans h.o, (up_s e), (up_n e (by decide)).trans h.a1, (up_n e (by decide)).trans h.a2, (up_n e (by decide)).trans h.a3, (up_n e (by decide)).trans h.a4, (up_n e (by decide)).trans h.a5, (up_n e (by decide)).trans h.a6, (up_n e (by decide)).trans h.a7, (up_n e (by decide)).trans h.a8, (up_n e (by decide)).trans h.a9, fun k hk => (up_n e (by omega)).trans (h.fr k hk)⟩
theorem MW.t1 (h : MW D S ad w0 w) {k : Nat} {x : Int32} (e : w1 = va_up w 2002 (some (.inl (D.1 100, 60, .inl (upd (S 1) k x))))) : MW D (sA S 1 k x) ad w0 w1 := ⟨(up_n e (by decide)).trans h.o, (up_n e (by decide)).trans h.a0, (up_s e), (up_n e (by decide)).trans h.a2, (up_n e (by decide)).trans h.a3, (up_n e (by decide)).trans h.a4, (up_n e (by decide)).trans h.a5, (up_n e (by decide)).trans h.a6, (up_n e (by decide)).trans h.a7, (up_n e (by decide)).trans h.a8, (up_n e (by decide)).trans h.a9, fun k hk => (up_n e (by omega)).trans (h.fr k hk)⟩
theorem MW.t2 (h : MW D S ad w0 w) {k : Nat} {x : Int32} (e : w1 = va_up w 2003 (some (.inl (D.1 100, 60, .inl (upd (S 2) k x))))) : MW D (sA S 2 k x) ad w0 w1 := ⟨(up_n e (by decide)).trans h.o, (up_n e (by decide)).trans h.a0, (up_n e (by decide)).trans h.a1, (up_s e), (up_n e (by decide)).trans h.a3, (up_n e (by decide)).trans h.a4, (up_n e (by decide)).trans h.a5, (up_n e (by decide)).trans h.a6, (up_n e (by decide)).trans h.a7, (up_n e (by decide)).trans h.a8, (up_n e (by decide)).trans h.a9, fun k hk => (up_n e (by omega)).trans (h.fr k hk)⟩
theorem MW.t3 (h : MW D S ad w0 w) {k : Nat} {x : Int32} (e : w1 = va_up w 2004 (some (.inl (D.1 100, 60, .inl (upd (S 3) k x))))) : MW D (sA S 3 k x) ad w0 w1 := ⟨(up_n e (by decide)).trans h.o, (up_n e (by decide)).trans h.a0, (up_n e (by decide)).trans h.a1, (up_n e (by decide)).trans h.a2, (up_s e), (up_n e (by decide)).trans h.a4, (up_n e (by decide)).trans h.a5, (up_n e (by decide)).trans h.a6, (up_n e (by decide)).trans h.a7, (up_n e (by decide)).trans h.a8, (up_n e (by decide)).trans h.a9, fun k hk => (up_n e (by omega)).trans (h.fr k hk)⟩
theorem MW.t4 (h : MW D S ad w0 w) {k : Nat} {x : Int32} (e : w1 = va_up w 2005 (some (.inl (D.1 100, 2000, .inl (upd (S 4) k x))))) : MW D (sA S 4 k x) ad w0 w1 := ⟨(up_n e (by decide)).trans h.o, (up_n e (by decide)).trans h.a0, (up_n e (by decide)).trans h.a1, (up_n e (by decide)).trans h.a2, (up_n e (by decide)).trans h.a3, (up_s e), (up_n e (by decide)).trans h.a5, (up_n e (by decide)).trans h.a6, (up_n e (by decide)).trans h.a7, (up_n e (by decide)).trans h.a8, (up_n e (by decide)).trans h.a9, fun k hk => (up_n e (by omega)).trans (h.fr k hk)⟩
theorem MW.t5 (h : MW D S ad w0 w) {k : Nat} {x : Int32} (e : w1 = va_up w 2006 (some (.inl (D.1 100, 2000, .inl (upd (S 5) k x))))) : MW D (sA S 5 k x) ad w0 w1 := ⟨(up_n e (by decide)).trans h.o, (up_n e (by decide)).trans h.a0, (up_n e (by decide)).trans h.a1, (up_n e (by decide)).trans h.a2, (up_n e (by decide)).trans h.a3, (up_n e (by decide)).trans h.a4, (up_s e), (up_n e (by decide)).trans h.a6, (up_n e (by decide)).trans h.a7, (up_n e (by decide)).trans h.a8, (up_n e (by decide)).trans h.a9, fun k hk => (up_n e (by omega)).trans (h.fr k hk)⟩
theorem MW.t6 (h : MW D S ad w0 w) {k : Nat} {x : Int32} (e : w1 = va_up w 2007 (some (.inl (D.1 100, 2000, .inl (upd (S 6) k x))))) : MW D (sA S 6 k x) ad w0 w1 := ⟨(up_n e (by decide)).trans h.o, (up_n e (by decide)).trans h.a0, (up_n e (by decide)).trans h.a1, (up_n e (by decide)).trans h.a2, (up_n e (by decide)).trans h.a3, (up_n e (by decide)).trans h.a4, (up_n e (by decide)).trans h.a5, (up_s e), (up_n e (by decide)).trans h.a7, (up_n e (by decide)).trans h.a8, (up_n e (by decide)).trans h.a9, fun k hk => (up_n e (by omega)).trans (h.fr k hk)⟩
theorem MW.t7 (h : MW D S ad w0 w) {k : Nat} {x : Int32} (e : w1 = va_up w 2008 (some (.inl (D.1 101, 2000, .inl (upd (S 7) k x))))) : MW D (sA S 7 k x) ad w0 w1 := ⟨(up_n e (by decide)).trans h.o, (up_n e (by decide)).trans h.a0, (up_n e (by decide)).trans h.a1, (up_n e (by decide)).trans h.a2, (up_n e (by decide)).trans h.a3, (up_n e (by decide)).trans h.a4, (up_n e (by decide)).trans h.a5, (up_n e (by decide)).trans h.a6, (up_s e), (up_n e (by decide)).trans h.a8, (up_n e (by decide)).trans h.a9, fun k hk => (up_n e (by omega)).trans (h.fr k hk)⟩
theorem MW.t8 (h : MW D S ad w0 w) {k : Nat} {x : Int32} (e : w1 = va_up w 2009 (some (.inl (D.1 100, 6, .inl (upd (S 8) k x))))) : MW D (sA S 8 k x) ad w0 w1 := ⟨(up_n e (by decide)).trans h.o, (up_n e (by decide)).trans h.a0, (up_n e (by decide)).trans h.a1, (up_n e (by decide)).trans h.a2, (up_n e (by decide)).trans h.a3, (up_n e (by decide)).trans h.a4, (up_n e (by decide)).trans h.a5, (up_n e (by decide)).trans h.a6, (up_n e (by decide)).trans h.a7, (up_s e), (up_n e (by decide)).trans h.a9, fun k hk => (up_n e (by omega)).trans (h.fr k hk)⟩
theorem MW.t9 (h : MW D S ad w0 w) {k : Nat} {x : Int32} (e : w1 = va_up w 2010 (some (.inl (D.1 101, 6, .inl (upd (S 9) k x))))) : MW D (sA S 9 k x) ad w0 w1 := ⟨(up_n e (by decide)).trans h.o, (up_n e (by decide)).trans h.a0, (up_n e (by decide)).trans h.a1, (up_n e (by decide)).trans h.a2, (up_n e (by decide)).trans h.a3, (up_n e (by decide)).trans h.a4, (up_n e (by decide)).trans h.a5, (up_n e (by decide)).trans h.a6, (up_n e (by decide)).trans h.a7, (up_n e (by decide)).trans h.a8, (up_s e), fun k hk => (up_n e (by omega)).trans (h.fr k hk)⟩
end MWs
/-! what the reference's methods answer and do -/
abbrev inP (n a b : Int32) : Prop := ¬ n < a ∧ ¬ b < n
abbrev actP (S : St) (t : Int32) : Prop := S 1 (nv t) = 0
def lkL (S : St) (r : Int32) : Nat → Int32
  | 0 => -1
  | n + 1 => if S 5 n = r ∧ S 7 n = 0 then S 4 n else lkL S r n
def lockV (S : St) (r : Int32) : Int32 := if lkL S r (nv (S 13 0)) ≠ -1 ∧ actP S (lkL S r (nv (S 13 0))) then lkL S r (nv (S 13 0)) else -1
abbrev endP (S : St) (k : Nat) : Prop := S 8 k ≠ -1 ∧ ¬ actP S (S 8 k) ∧ S 9 k = 0
def clean1 (S : St) (k : Nat) : St := if endP S k then sS (sA S 9 k 1) 15 (S 15 0 + 1) else S
def cleanS (S : St) (b : Nat) : St := clean1 (clean1 S (2 * b)) (2 * b + 1)
abbrev freeP (S : St) (k : Nat) : Prop := S 8 k = -1 ∨ ¬ actP S (S 8 k)
def ownK (S : St) (t : Int32) (b : Nat) : Int32 := if S 8 (2 * b) = t then nI (2 * b) else if S 8 (2 * b + 1) = t then nI (2 * b + 1) else -1
def freeK (S : St) (b : Nat) : Int32 := if freeP S (2 * b) then nI (2 * b) else if freeP S (2 * b + 1) then nI (2 * b + 1) else -1
def slF (S : St) (t : Int32) (b : Nat) : Int32 := if ownK S t b = -1 then freeK S b else ownK S t b
abbrev spP (S : St) : Prop := S 13 0 - S 14 0 < S 10 0 ∨ ¬ actP S (S 4 (nv (S 14 0)))
abbrev seenP (S : St) (m t : Int32) (k : Nat) : Prop := S 4 k = t ∨ (S 1 (nv (S 4 k)) = 1 ∧ S 3 (nv (S 4 k)) ≤ m)
/-- the reading loop: what is left of n changes; the value so far, whether it is late -/
def vaL (S : St) (m r t : Int32) : Nat → Int32 → Int32 → Int32 × Int32
  | 0, v, z => (v, z)
  | n + 1, v, z => if S 5 n = r ∧ S 7 n = 0 then (if seenP S m t n then (v, z) else vaL S m r t n (S 6 n) (if z = 0 then bI (nI n < S 14 0) else 1)) else vaL S m r t n v z
def vaV (S : St) (m r t : Int32) : Int32 × Int32 := vaL S m r t (nv (S 13 0)) (S 0 (nv r)) 0
def stL (S : St) (t : Int32) : Nat → Int32
  | 0 => 0
  | n + 1 => stL S t n + bI (S 4 n = t ∧ S 7 n = 0)
def stV (S : St) (t : Int32) : Int32 := stL S t (nv (S 13 0))
def unL (t : Int32) : Nat → Int32 → St → St
  | 0, _, S => S
  | n + 1, z, S => if 0 < z then (if S 4 n = t ∧ S 7 n = 0 then unL t n (z - 1) (sA (sA S 7 n 1) 0 (nv (S 5 n)) (S 6 n)) else unL t n z S) else S
def unS (S : St) (t z : Int32) : St := unL t (nv (S 13 0)) z S
/-- what holds of the state at every time; c: how many calls there were -/
def Inv (c : Nat) (S : St) : Prop := ∃ nT nC nD nM nZ : Nat, S 12 0 = nI nT ∧ S 13 0 = nI nC ∧ S 14 0 = nI nD ∧ S 11 0 = nI nM ∧ S 10 0 = nI nZ ∧ nT ≤ 60 ∧ nC ≤ c ∧ nD ≤ nC ∧ nM ≤ c ∧ 1 ≤ nZ ∧ nZ ≤ 30 ∧ nC - nD ≤ nZ ∧
  (∀ k, k < nC → (∃ t, t < nT ∧ S 4 k = nI t) ∧ (∃ r, r < 12 ∧ S 5 k = nI r) ∧ (S 7 k = 0 ∨ S 7 k = 1)) ∧ (∀ k, nC ≤ k → S 7 k = 0) ∧
  (∀ i, i < 6 → (S 8 i = -1 ∨ ∃ t, t < nT ∧ S 8 i = nI t) ∧ (S 9 i = 0 ∨ S 9 i = 1)) ∧ (∀ t, t < 60 → S 1 t = 0 ∨ S 1 t = 1 ∨ S 1 t = 2) ∧ (∀ t, nT ≤ t → S 1 t = 0) ∧ (∀ t, t < nT → S 1 t = 1 → ∃ j, 1 ≤ j ∧ j ≤ nM ∧ S 3 t = nI j) ∧ (∀ t, t < nT → ∃ j, j ≤ nM ∧ S 2 t = nI j)
theorem FrM.rf {w : kWd} : FrM w w := fun _ _ => rfl
theorem MW.re {D : va_G} {S : St} {ad : Nat → Nat} {w0 w : kWd} (h : MW D S ad w0 w) : MW D S ad w w := ⟨h.o, h.a0, h.a1, h.a2, h.a3, h.a4, h.a5, h.a6, h.a7, h.a8, h.a9, FrM.rf⟩
theorem MW.tr {D : va_G} {S S' : St} {ad : Nat → Nat} {w0 w w1 : kWd} (h : MW D S ad w0 w) (h1 : MW D S' ad w w1) : MW D S' ad w0 w1 := ⟨h1.o, h1.a0, h1.a1, h1.a2, h1.a3, h1.a4, h1.a5, h1.a6, h1.a7, h1.a8, h1.a9, fun k hk => (h1.fr k hk).trans (h.fr k hk)⟩
theorem bI_t {P : Prop} [Decidable P] (h : ¬ bI P = 0) : P := by
  by_cases c : P
  · exact c
  · exact absurd (if_neg c) h
theorem bI_f {P : Prop} [Decidable P] (h : bI P = 0) : ¬ P := by
  intro c
  rw [show bI P = 1 from if_pos c] at h
  exact absurd h (by decide)
theorem bI_01 {P : Prop} [Decidable P] : bI P = 0 ∨ bI P = 1 := by
  by_cases c : P
  · exact Or.inr (if_pos c)
  · exact Or.inl (if_neg c)
theorem bI_1 {P : Prop} [Decidable P] (h : P) : bI P = 1 := if_pos h
theorem bI_0 {P : Prop} [Decidable P] (h : ¬ P) : bI P = 0 := if_neg h
end
section
/-! the reference: its small methods -/
set_option maxHeartbeats 4000000 in
set_option maxRecDepth 100000 in
/-- c_thrown -/
theorem c_thrown (l : Launch) (D : va_G) (A : Nat → Prop) (ad : Nat → Nat) (w : kWd) (S : St) (hM : MW D S ad w w)  : Met l yX6_thrown wsX6_thrown ({ frames := 0, cells := 0, slots := 0, locals := 0 }) (kPc D A [.ref (ad 2000)] ad w) (kQi D A (fun r ad' w' => r = S 17 0 ∧ ad' = ad ∧ w' = w)) 0 0 A := by
  refine Met.ofW (cc := cX6_thrown) (maxL := 1) (ret := (some (.int))) (by decide) rfl ?_
  intro p e s m args below meth c s₁ B hml hv
  obtain ⟨rfl, hE, hW0, hI0, hA⟩ := hv
  have hx := B.exec
  have hb := B.bytes
  have hr := B.returns
  have hts := atoms_spec (ws := wsX6_thrown) B.pre
  have hown : s.vm.findClass RX6 = some m.cls := findClass_of_methodNamed B.named
  have hlocks := B.notSynchronized
  have hiRX6 : ∀ w ∈ wsX60, w ∈ wsX6_thrown := by decide +kernel
  have hW : kS D A s.heap ad w s.heap [] := ⟨hW0, hI0, va_S.rf, hA⟩
  have hl := lv_entry ([.ref (ad 2000)]) (n := 1) (Nat.le_of_ble_eq_true rfl)
  rw [lg_entry_eq]
  generalize (lg_sl ([.ref (ad 2000)]) ++ List.replicate (1 - (lg_sl ([.ref (ad 2000)])).length) Slot.unset).toArray = ls at hl ⊢
  have hl : lv_has ls 1 [(0, .ref (ad 2000))] := hl
  refine lv_aload_n hx hb dX6_thrown_0 rfl (lv_at hl 0 rfl) ?_
  refine kk_get hx hb hts hown hE hW hM.o rfl hiRX6 17 (by decide) (hts (.fieldLink RX6 45 "UndoCellarModel" "thrown" "I") (by decide +kernel)) (fun _ h9 => h9) rfl dX6_thrown_1 ?_
  exact ke_i hx hb hr hlocks (Nat.le_of_ble_eq_true rfl) (Nat.le_of_ble_eq_true rfl) dX6_thrown_4 hW (⟨rfl, rfl, rfl⟩)

set_option maxHeartbeats 4000000 in
set_option maxRecDepth 100000 in
/-- c_can -/
theorem c_can (l : Launch) (D : va_G) (A : Nat → Prop) (ad : Nat → Nat) (w : kWd) (S : St) (hM : MW D S ad w w) (f : Int32) : Met l yX6_can wsX6_can ({ frames := 0, cells := 0, slots := 0, locals := 0 }) (kPc D A [.ref (ad 2000), .int f] ad w) (kQi D A (fun r ad' w' => r = bI (f = 0) ∧ ad' = ad ∧ MW D (sS S 17 f) ad w w')) 0 0 A := by
  refine Met.ofW (cc := cX6_can) (maxL := 2) (ret := (some (.boolean))) (by decide) rfl ?_
  intro p e s m args below meth c s₁ B hml hv
  obtain ⟨rfl, hE, hW0, hI0, hA⟩ := hv
  have hx := B.exec
  have hb := B.bytes
  have hr := B.returns
  have hts := atoms_spec (ws := wsX6_can) B.pre
  have hown : s.vm.findClass RX6 = some m.cls := findClass_of_methodNamed B.named
  have hlocks := B.notSynchronized
  have hiRX6 : ∀ w ∈ wsX60, w ∈ wsX6_can := by decide +kernel
  have hW : kS D A s.heap ad w s.heap [] := ⟨hW0, hI0, va_S.rf, hA⟩
  have hl := lv_entry ([.ref (ad 2000), .int f]) (n := 2) (Nat.le_of_ble_eq_true rfl)
  rw [lg_entry_eq]
  generalize (lg_sl ([.ref (ad 2000), .int f]) ++ List.replicate (2 - (lg_sl ([.ref (ad 2000), .int f])).length) Slot.unset).toArray = ls at hl ⊢
  have hl : lv_has ls 2 [(0, .ref (ad 2000)), (1, .int f)] := hl
  refine lv_aload_n hx hb dX6_can_0 rfl (lv_at hl 0 rfl) ?_
  refine lv_iload_n hx hb dX6_can_1 rfl (lv_at hl 1 rfl) ?_
  refine kk_put hx hb hts hown hE hW hM.o rfl hiRX6 tyX6 tyX6_ok nmX6 17 (by decide) (hts (.fieldLink RX6 45 "UndoCellarModel" "thrown" "I") (by decide +kernel)) (fun _ h9 => h9) rfl (ty := tyX6 17) (tyX6_ok 17 (by decide)) rfl rfl (Nat.le_of_ble_eq_true rfl) dX6_can_2 (fun H3 locs w1 e2 hW => ?_)
  have hM := hM.s17 e2
  refine lv_iload_n hx hb dX6_can_5 rfl (lv_at hl 1 rfl) ?_
  refine lv_if_ne (tgt := 13) hx hb dX6_can_6 (by decide) (fun c4 => ?_) (fun c4 => ?_)
  · refine lv_iconst (v := 0) hx hb dX6_can_13 (by decide) ?_
    exact ke_z hx hb hr hlocks (Nat.le_of_ble_eq_true rfl) (Nat.le_of_ble_eq_true rfl) dX6_can_14 (by first | exact Or.inl rfl | exact Or.inr rfl | assumption) hW (⟨(bI_0 c4).symm, rfl, hM⟩)
  · refine lv_iconst (v := 1) hx hb dX6_can_9 (by decide) ?_
    refine lv_goto (tgt := 14) hx hb dX6_can_10 (by decide) ?_
    exact ke_z hx hb hr hlocks (Nat.le_of_ble_eq_true rfl) (Nat.le_of_ble_eq_true rfl) dX6_can_14 (by first | exact Or.inl rfl | exact Or.inr rfl | assumption) hW (⟨(bI_1 c4).symm, rfl, hM⟩)

set_option maxHeartbeats 4000000 in
set_option maxRecDepth 100000 in
/-- c_isIn -/
theorem c_isIn (l : Launch) (D : va_G) (A : Nat → Prop) (ad : Nat → Nat) (w : kWd) (n a b : Int32) : Met l yX6_isIn wsX6_isIn ({ frames := 0, cells := 0, slots := 0, locals := 0 }) (kPc D A [.int n, .int a, .int b] ad w) (kQi D A (fun r ad' w' => r = bI (inP n a b) ∧ ad' = ad ∧ w' = w)) 0 0 A := by
  refine Met.ofW (cc := cX6_isIn) (maxL := 3) (ret := (some (.boolean))) (by decide) rfl ?_
  intro p e s m args below meth c s₁ B hml hv
  obtain ⟨rfl, hE, hW0, hI0, hA⟩ := hv
  have hx := B.exec
  have hb := B.bytes
  have hr := B.returns
  have hts := atoms_spec (ws := wsX6_isIn) B.pre
  have hown : s.vm.findClass RX6 = some m.cls := findClass_of_methodNamed B.named
  have hlocks := B.notSynchronized
  have hW : kS D A s.heap ad w s.heap [] := ⟨hW0, hI0, va_S.rf, hA⟩
  have hl := lv_entry ([.int n, .int a, .int b]) (n := 3) (Nat.le_of_ble_eq_true rfl)
  rw [lg_entry_eq]
  generalize (lg_sl ([.int n, .int a, .int b]) ++ List.replicate (3 - (lg_sl ([.int n, .int a, .int b])).length) Slot.unset).toArray = ls at hl ⊢
  have hl : lv_has ls 3 [(0, .int n), (1, .int a), (2, .int b)] := hl
  refine lv_iload_n hx hb dX6_isIn_0 rfl (lv_at hl 0 rfl) ?_
  refine lv_iload_n hx hb dX6_isIn_1 rfl (lv_at hl 1 rfl) ?_
  refine lv_icmp_lt (tgt := 14) hx hb dX6_isIn_2 (by decide) (fun c1 => ?_) (fun c1 => ?_)
  · refine lv_iconst (v := 0) hx hb dX6_isIn_14 (by decide) ?_
    exact ke_z hx hb hr hlocks (Nat.le_of_ble_eq_true rfl) (Nat.le_of_ble_eq_true rfl) dX6_isIn_15 (by first | exact Or.inl rfl | exact Or.inr rfl | assumption) hW (⟨(bI_0 (fun q => q.1 c1)).symm, rfl, rfl⟩)
  · refine lv_iload_n hx hb dX6_isIn_5 rfl (lv_at hl 0 rfl) ?_
    refine lv_iload_n hx hb dX6_isIn_6 rfl (lv_at hl 2 rfl) ?_
    refine lv_icmp_gt (tgt := 14) hx hb dX6_isIn_7 (by decide) (fun c2 => ?_) (fun c2 => ?_)
    · refine lv_iconst (v := 0) hx hb dX6_isIn_14 (by decide) ?_
      exact ke_z hx hb hr hlocks (Nat.le_of_ble_eq_true rfl) (Nat.le_of_ble_eq_true rfl) dX6_isIn_15 (by first | exact Or.inl rfl | exact Or.inr rfl | assumption) hW (⟨(bI_0 (fun q => q.2 c2)).symm, rfl, rfl⟩)
    · refine lv_iconst (v := 1) hx hb dX6_isIn_10 (by decide) ?_
      refine lv_goto (tgt := 15) hx hb dX6_isIn_11 (by decide) ?_
      exact ke_z hx hb hr hlocks (Nat.le_of_ble_eq_true rfl) (Nat.le_of_ble_eq_true rfl) dX6_isIn_15 (by first | exact Or.inl rfl | exact Or.inr rfl | assumption) hW (⟨(bI_1 ⟨c1, c2⟩).symm, rfl, rfl⟩)

set_option maxHeartbeats 4000000 in
set_option maxRecDepth 100000 in
/-- c_isRow -/
theorem c_isRow (l : Launch) (D : va_G) (A : Nat → Prop) (ad : Nat → Nat) (w : kWd) (n : Int32) : Met l yX6_isRow wsX6_isRow ({ frames := 1, cells := 0, slots := 0, locals := 22 }) (kPc D A [.int n] ad w) (kQi D A (fun r ad' w' => r = bI (inP n 0 11) ∧ ad' = ad ∧ w' = w)) 0 0 A := by
  refine Met.ofW (cc := cX6_isRow) (maxL := 1) (ret := (some (.boolean))) (by decide) rfl ?_
  intro p e s m args below meth c s₁ B hml hv
  obtain ⟨rfl, hE, hW0, hI0, hA⟩ := hv
  have hx := B.exec
  have hb := B.bytes
  have hr := B.returns
  have hts := atoms_spec (ws := wsX6_isRow) B.pre
  have hown : s.vm.findClass RX6 = some m.cls := findClass_of_methodNamed B.named
  have hlocks := B.notSynchronized
  have hW : kS D A s.heap ad w s.heap [] := ⟨hW0, hI0, va_S.rf, hA⟩
  have hl := lv_entry ([.int n]) (n := 1) (Nat.le_of_ble_eq_true rfl)
  rw [lg_entry_eq]
  generalize (lg_sl ([.int n]) ++ List.replicate (1 - (lg_sl ([.int n])).length) Slot.unset).toArray = ls at hl ⊢
  have hl : lv_has ls 1 [(0, .int n)] := hl
  refine lv_iload_n hx hb dX6_isRow_0 rfl (lv_at hl 0 rfl) ?_
  refine lv_iconst (v := 0) hx hb dX6_isRow_1 (by decide) ?_
  refine lv_bipush (v := 11) hx hb dX6_isRow_2 (by decide) ?_
  refine kk_i (va_runS (As := [.int n, .int 0, .int 11]) (rest := []) ⟨hx, hb, hml, hown, hts⟩ (c_isIn l D A ad w n 0 11) (cwS 3 hts gX6_isRow_X6_isIn rfl rfl rfl (by decide +kernel) ⟨Nat.le_of_ble_eq_true rfl, Nat.le_of_ble_eq_true rfl⟩) (kSt hE hW _) rfl rfl hl.1 rfl (lv_room (Nat.le_of_ble_eq_true rfl)) dX6_isRow_4 ⟨Nat.le_of_ble_eq_true rfl, Nat.le_of_ble_eq_true rfl⟩) hW (fun r4 ad1 w2 H5 locs hp3 hW => ?_)
  obtain ⟨e6, e7, e8⟩ := hp3
  rw [e7, e8] at hW
  subst e6
  exact ke_z hx hb hr hlocks (Nat.le_of_ble_eq_true rfl) (Nat.le_of_ble_eq_true rfl) dX6_isRow_7 (bI_01) hW (⟨rfl, rfl, rfl⟩)

set_option maxHeartbeats 4000000 in
set_option maxRecDepth 100000 in
/-- c_isTransaction -/
theorem c_isTransaction (l : Launch) (D : va_G) (A : Nat → Prop) (ad : Nat → Nat) (w : kWd) (S : St) (hM : MW D S ad w w) (t : Int32) : Met l yX6_isTransaction wsX6_isTransaction ({ frames := 1, cells := 0, slots := 0, locals := 22 }) (kPc D A [.ref (ad 2000), .int t] ad w) (kQi D A (fun r ad' w' => r = bI (inP t 0 (S 12 0 - 1)) ∧ ad' = ad ∧ w' = w)) 0 0 A := by
  refine Met.ofW (cc := cX6_isTransaction) (maxL := 2) (ret := (some (.boolean))) (by decide) rfl ?_
  intro p e s m args below meth c s₁ B hml hv
  obtain ⟨rfl, hE, hW0, hI0, hA⟩ := hv
  have hx := B.exec
  have hb := B.bytes
  have hr := B.returns
  have hts := atoms_spec (ws := wsX6_isTransaction) B.pre
  have hown : s.vm.findClass RX6 = some m.cls := findClass_of_methodNamed B.named
  have hlocks := B.notSynchronized
  have hiRX6 : ∀ w ∈ wsX60, w ∈ wsX6_isTransaction := by decide +kernel
  have hW : kS D A s.heap ad w s.heap [] := ⟨hW0, hI0, va_S.rf, hA⟩
  have hl := lv_entry ([.ref (ad 2000), .int t]) (n := 2) (Nat.le_of_ble_eq_true rfl)
  rw [lg_entry_eq]
  generalize (lg_sl ([.ref (ad 2000), .int t]) ++ List.replicate (2 - (lg_sl ([.ref (ad 2000), .int t])).length) Slot.unset).toArray = ls at hl ⊢
  have hl : lv_has ls 2 [(0, .ref (ad 2000)), (1, .int t)] := hl
  refine lv_iload_n hx hb dX6_isTransaction_0 rfl (lv_at hl 1 rfl) ?_
  refine lv_iconst (v := 0) hx hb dX6_isTransaction_1 (by decide) ?_
  refine lv_aload_n hx hb dX6_isTransaction_2 rfl (lv_at hl 0 rfl) ?_
  refine kk_get hx hb hts hown hE hW hM.o rfl hiRX6 3 (by decide) (hts (.fieldLink RX6 52 "UndoCellarModel" "transactions" "I") (by decide +kernel)) (fun _ h9 => h9) rfl dX6_isTransaction_3 ?_
  refine lv_iconst (v := 1) hx hb dX6_isTransaction_6 (by decide) ?_
  refine lv_isub hx hb dX6_isTransaction_7 ?_
  refine kk_i (va_runS (As := [.int t, .int 0, .int ((S 12 0) - 1)]) (rest := []) ⟨hx, hb, hml, hown, hts⟩ (c_isIn l D A ad w t 0 (S 12 0 - 1)) (cwS 3 hts gX6_isTransaction_X6_isIn rfl rfl rfl (by decide +kernel) ⟨Nat.le_of_ble_eq_true rfl, Nat.le_of_ble_eq_true rfl⟩) (kSt hE hW _) rfl rfl hl.1 rfl (lv_room (Nat.le_of_ble_eq_true rfl)) dX6_isTransaction_8 ⟨Nat.le_of_ble_eq_true rfl, Nat.le_of_ble_eq_true rfl⟩) hW (fun r4 ad1 w2 H5 locs hp3 hW => ?_)
  obtain ⟨e6, e7, e8⟩ := hp3
  rw [e7, e8] at hW
  subst e6
  exact ke_z hx hb hr hlocks (Nat.le_of_ble_eq_true rfl) (Nat.le_of_ble_eq_true rfl) dX6_isTransaction_11 (bI_01) hW (⟨rfl, rfl, rfl⟩)

set_option maxHeartbeats 4000000 in
set_option maxRecDepth 100000 in
/-- c_isActive -/
theorem c_isActive (l : Launch) (D : va_G) (A : Nat → Prop) (ad : Nat → Nat) (w : kWd) (S : St) (hM : MW D S ad w w) (t : Int32) (ht : vp_in t 60) : Met l yX6_isActive wsX6_isActive ({ frames := 0, cells := 0, slots := 0, locals := 0 }) (kPc D A [.ref (ad 2000), .int t] ad w) (kQi D A (fun r ad' w' => r = bI (actP S t) ∧ ad' = ad ∧ w' = w)) 0 0 A := by
  refine Met.ofW (cc := cX6_isActive) (maxL := 2) (ret := (some (.boolean))) (by decide) rfl ?_
  intro p e s m args below meth c s₁ B hml hv
  obtain ⟨rfl, hE, hW0, hI0, hA⟩ := hv
  have hx := B.exec
  have hb := B.bytes
  have hr := B.returns
  have hts := atoms_spec (ws := wsX6_isActive) B.pre
  have hown : s.vm.findClass RX6 = some m.cls := findClass_of_methodNamed B.named
  have hlocks := B.notSynchronized
  have hiRX6 : ∀ w ∈ wsX60, w ∈ wsX6_isActive := by decide +kernel
  have hW : kS D A s.heap ad w s.heap [] := ⟨hW0, hI0, va_S.rf, hA⟩
  have hl := lv_entry ([.ref (ad 2000), .int t]) (n := 2) (Nat.le_of_ble_eq_true rfl)
  rw [lg_entry_eq]
  generalize (lg_sl ([.ref (ad 2000), .int t]) ++ List.replicate (2 - (lg_sl ([.ref (ad 2000), .int t])).length) Slot.unset).toArray = ls at hl ⊢
  have hl : lv_has ls 2 [(0, .ref (ad 2000)), (1, .int t)] := hl
  refine lv_aload_n hx hb dX6_isActive_0 rfl (lv_at hl 0 rfl) ?_
  refine kk_get hx hb hts hown hE hW hM.o rfl hiRX6 4 (by decide) (hts (.fieldLink RX6 17 "UndoCellarModel" "state" "[I") (by decide +kernel)) (fun _ h9 => h9) rfl dX6_isActive_1 ?_
  refine lv_iload_n hx hb dX6_isActive_4 rfl (lv_at hl 1 rfl) ?_
  refine kk_iald hx hb hE hW hM.a1 ht dX6_isActive_5 ?_
  refine lv_if_ne (tgt := 13) hx hb dX6_isActive_6 (by decide) (fun c1 => ?_) (fun c1 => ?_)
  · refine lv_iconst (v := 0) hx hb dX6_isActive_13 (by decide) ?_
    exact ke_z hx hb hr hlocks (Nat.le_of_ble_eq_true rfl) (Nat.le_of_ble_eq_true rfl) dX6_isActive_14 (by first | exact Or.inl rfl | exact Or.inr rfl | assumption) hW (⟨(bI_0 c1).symm, rfl, rfl⟩)
  · refine lv_iconst (v := 1) hx hb dX6_isActive_9 (by decide) ?_
    refine lv_goto (tgt := 14) hx hb dX6_isActive_10 (by decide) ?_
    exact ke_z hx hb hr hlocks (Nat.le_of_ble_eq_true rfl) (Nat.le_of_ble_eq_true rfl) dX6_isActive_14 (by first | exact Or.inl rfl | exact Or.inr rfl | assumption) hW (⟨(bI_1 c1).symm, rfl, rfl⟩)
end
section
/-! plain facts -/
theorem lkL_mem (S : St) (r : Int32) : ∀ n : Nat, lkL S r n = -1 ∨ ∃ k, k < n ∧ lkL S r n = S 4 k ∧ S 5 k = r ∧ S 7 k = 0
  | 0 => Or.inl rfl
  | n + 1 => by
    by_cases c : S 5 n = r ∧ S 7 n = 0
    · exact Or.inr ⟨n, Nat.lt_succ_self n, if_pos c, c.1, c.2⟩
    · have e : lkL S r (n + 1) = lkL S r n := if_neg c
      rcases lkL_mem S r n with h | ⟨k, h1, h2⟩
      · exact Or.inl (e.trans h)
      · exact Or.inr ⟨k, by omega, e.trans h2.1, h2.2⟩
theorem lkL_s {S : St} {r : Int32} {n : Nat} (c : S 5 n = r) (d : S 7 n = 0) : S 4 n = lkL S r (n + 1) := (if_pos ⟨c, d⟩).symm
theorem lkL_n {S : St} {r : Int32} {n : Nat} (c : ¬ (S 5 n = r ∧ S 7 n = 0)) : lkL S r n = lkL S r (n + 1) := (if_neg c).symm
theorem i_sub1 (x : Int32) : x + Int32.ofInt (-1) = x - 1 := by
  rw [Int32.sub_eq_add_neg]
  rfl
theorem nI_dn {n : Nat} : nI (n + 1) - 1 = nI n := nI_pred n
theorem nI_m1 : (nI 0 - 1 : Int32) < 0 := by decide
theorem nI_2 (b : Nat) : (2 : Int32) * nI b = nI (2 * b) := pk_mul 2 b
def cleanL : Nat → Nat → St → St
  | 0, _, S => S
  | d + 1, k, S => cleanL d (k + 1) (clean1 S k)
theorem cleanL_2 (S : St) (b : Nat) : cleanL 2 (2 * b) S = cleanS S b := rfl
def slL (S : St) (t : Int32) (lo : Nat) : Nat → Int32 → Int32 → Int32 × Int32
  | 0, o, f => (o, f)
  | j + 1, o, f => slL S t lo j (if S 8 (lo + j) = t then nI (lo + j) else o) (if freeP S (lo + j) then nI (lo + j) else f)
theorem slL_2 (S : St) (t : Int32) (b : Nat) : (if (slL S t (2 * b) 2 (-1) (-1)).1 = -1 then (slL S t (2 * b) 2 (-1) (-1)).2 else (slL S t (2 * b) 2 (-1) (-1)).1) = slF S t b := rfl
theorem stL_le (S : St) (t : Int32) : ∀ n : Nat, ∃ j, j ≤ n ∧ stL S t n = nI j
  | 0 => ⟨0, Nat.le_refl _, rfl⟩
  | n + 1 => by
    obtain ⟨j, h1, h2⟩ := stL_le S t n
    by_cases c : S 4 n = t ∧ S 7 n = 0
    · exact ⟨j + 1, by omega, by show stL S t n + bI _ = _; rw [h2, bI_1 c]; exact nI_1 j⟩
    · exact ⟨j, by omega, by show stL S t n + bI _ = _; rw [h2, bI_0 c]; exact nI_add j 0⟩
end
section
/-! the reference: loops -/
set_option maxHeartbeats 4000000 in
set_option maxRecDepth 100000 in
/-- c_lockOn -/
theorem c_lockOn (l : Launch) (D : va_G) (A : Nat → Prop) (ad : Nat → Nat) (w : kWd) (S : St) (hM : MW D S ad w w) (r : Int32) (nC : Nat) (hC : S 13 0 = nI nC) (hn : nC ≤ 2000) (hby : ∀ k, k < nC → vp_in (S 4 k) 60) : Met l yX6_lockOn wsX6_lockOn ({ frames := 1, cells := 0, slots := 0, locals := 21 }) (kPc D A [.ref (ad 2000), .int r] ad w) (kQi D A (fun v ad' w' => v = lockV S r ∧ ad' = ad ∧ w' = w)) 0 0 A := by
  refine Met.ofW (cc := cX6_lockOn) (maxL := 4) (ret := (some (.int))) (by decide) rfl ?_
  intro p e s m args below meth c s₁ B hml hv
  obtain ⟨rfl, hE, hW0, hI0, hA⟩ := hv
  have hx := B.exec
  have hb := B.bytes
  have hr := B.returns
  have hts := atoms_spec (ws := wsX6_lockOn) B.pre
  have hown : s.vm.findClass RX6 = some m.cls := findClass_of_methodNamed B.named
  have hlocks := B.notSynchronized
  have hiRX6 : ∀ w ∈ wsX60, w ∈ wsX6_lockOn := by decide +kernel
  have hW : kS D A s.heap ad w s.heap [] := ⟨hW0, hI0, va_S.rf, hA⟩
  have hl := lv_entry ([.ref (ad 2000), .int r]) (n := 4) (Nat.le_of_ble_eq_true rfl)
  rw [lg_entry_eq]
  generalize (lg_sl ([.ref (ad 2000), .int r]) ++ List.replicate (4 - (lg_sl ([.ref (ad 2000), .int r])).length) Slot.unset).toArray = ls at hl ⊢
  have hl : lv_has ls 4 [(0, .ref (ad 2000)), (1, .int r)] := hl
  have hnv : nv (S 13 0) = nC := by rw [hC]; exact nI_clamp (by omega)
  have loop : ∀ (d i : Nat), i + d = nC → ∀ ls, lv_has ls 4 [(3, .int (nI i)), (2, .int (lkL S r i)), (0, .ref (ad 2000)), (1, .int r)] → W p l e ({ frames := 1, cells := 0, slots := 0, locals := 21 }) s m ([.ref (ad 2000), .int r] : List Value).toArray below meth c s.heap [] 0 0 (MQ below (kQi D A (fun v ad' w' => v = lockV S r ∧ ad' = ad ∧ w' = w)) ([.ref (ad 2000), .int r] : List Value).toArray s 0 0 A) (F0 m 4 ls []) := by
    intro d
    induction d with
    | zero =>
      intro i hi ls hl
      obtain rfl : i = nC := by omega
      refine lv_iload_n hx hb dX6_lockOn_4 rfl (lv_at hl 0 rfl) ?_
      refine lv_aload_n hx hb dX6_lockOn_5 rfl (lv_at hl 2 rfl) ?_
      refine kk_get hx hb hts hown hE hW hM.o rfl hiRX6 7 (by decide) (hts (.fieldLink RX6 55 "UndoCellarModel" "changes" "I") (by decide +kernel)) (fun _ h9 => h9) rfl dX6_lockOn_6 ?_
      refine lv_icmp_ge (tgt := 48) hx hb dX6_lockOn_9 (by decide) (fun _ => ?_) (fun c9 => absurd (by rw [hC]; exact nI_le (Nat.le_refl _) (by omega)) c9)
      refine lv_iload_n hx hb dX6_lockOn_48 rfl (lv_at hl 1 rfl) ?_
      refine lv_iconst (v := (-1)) hx hb dX6_lockOn_49 (by decide) ?_
      refine lv_icmp_eq (tgt := 65) hx hb dX6_lockOn_50 (by decide) (fun c1 => ?_) (fun c1 => ?_)
      · refine lv_iconst (v := (-1)) hx hb dX6_lockOn_65 (by decide) ?_
        exact ke_i hx hb hr hlocks (Nat.le_of_ble_eq_true rfl) (Nat.le_of_ble_eq_true rfl) dX6_lockOn_66 hW (⟨by unfold lockV; rw [hnv]; exact (if_neg (fun q => q.1 c1)).symm, rfl, rfl⟩)
      · refine lv_aload_n hx hb dX6_lockOn_53 rfl (lv_at hl 2 rfl) ?_
        refine lv_iload_n hx hb dX6_lockOn_54 rfl (lv_at hl 1 rfl) ?_
        have hx9 : vp_in (lkL S r i) 60 := by
          rcases lkL_mem S r i with h | ⟨k, h1, h2, -⟩
          · exact absurd h c1
          · rw [h2]; exact hby k h1
        refine kk_i (va_runV (As := [.int (lkL S r i)]) (rest := []) ⟨hx, hb, hml, hown, hts⟩ (c_isActive l D A ad w (S) hM.re (lkL S r i) hx9) (cwV 1 hts gX6_lockOn_X6_isActive rfl rfl rfl (by decide +kernel) ⟨Nat.le_of_ble_eq_true rfl, Nat.le_of_ble_eq_true rfl⟩) (kV hE hW hM.o rfl _) rfl rfl hl.1 rfl (lv_room (Nat.le_of_ble_eq_true rfl)) dX6_lockOn_55 ⟨Nat.le_of_ble_eq_true rfl, Nat.le_of_ble_eq_true rfl⟩) hW (fun r5 ad2 w3 H6 locs hp4 hW => ?_)
        obtain ⟨e7, e8, e9⟩ := hp4
        rw [e8, e9] at hW
        subst e7
        refine lv_if_eq (tgt := 65) hx hb dX6_lockOn_58 (by decide) (fun c10 => ?_) (fun c10 => ?_)
        · refine lv_iconst (v := (-1)) hx hb dX6_lockOn_65 (by decide) ?_
          exact ke_i hx hb hr hlocks (Nat.le_of_ble_eq_true rfl) (Nat.le_of_ble_eq_true rfl) dX6_lockOn_66 hW (⟨by unfold lockV; rw [hnv]; exact (if_neg (fun q => bI_f c10 q.2)).symm, rfl, rfl⟩)
        · refine lv_iload_n hx hb dX6_lockOn_61 rfl (lv_at hl 1 rfl) ?_
          refine lv_goto (tgt := 66) hx hb dX6_lockOn_62 (by decide) ?_
          exact ke_i hx hb hr hlocks (Nat.le_of_ble_eq_true rfl) (Nat.le_of_ble_eq_true rfl) dX6_lockOn_66 hW (⟨by unfold lockV; rw [hnv]; exact (if_pos ⟨c1, bI_t c10⟩).symm, rfl, rfl⟩)
    | succ d ih =>
      intro i hi ls hl
      refine lv_iload_n hx hb dX6_lockOn_4 rfl (lv_at hl 0 rfl) ?_
      refine lv_aload_n hx hb dX6_lockOn_5 rfl (lv_at hl 2 rfl) ?_
      refine kk_get hx hb hts hown hE hW hM.o rfl hiRX6 7 (by decide) (hts (.fieldLink RX6 55 "UndoCellarModel" "changes" "I") (by decide +kernel)) (fun _ h9 => h9) rfl dX6_lockOn_6 ?_
      refine lv_icmp_ge (tgt := 48) hx hb dX6_lockOn_9 (by decide) (fun c9 => absurd c9 (by rw [hC]; exact nI_ge (by omega) (by omega))) (fun _ => ?_)
      refine lv_aload_n hx hb dX6_lockOn_12 rfl (lv_at hl 2 rfl) ?_
      refine kk_get hx hb hts hown hE hW hM.o rfl hiRX6 9 (by decide) (hts (.fieldLink RX6 29 "UndoCellarModel" "row" "[I") (by decide +kernel)) (fun _ h9 => h9) rfl dX6_lockOn_13 ?_
      refine lv_iload_n hx hb dX6_lockOn_16 rfl (lv_at hl 0 rfl) ?_
      refine W_join (P := fun v => v = lkL S r (i + 1)) (pj := 41) (rj := []) (lj := ls) (fun v hv => ?_) (fun J41 => ?_)
      · subst hv
        refine lv_istore_n (lv' := [(2, .int (lkL S r (i + 1))), (3, .int (nI i)), (0, .ref (ad 2000)), (1, .int r)]) hx hb dX6_lockOn_41 rfl hl (by decide) rfl (fun ls hl => ?_)
        refine lv_iinc (v := nI (i + 1)) (lv' := [(3, .int (nI (i + 1))), (2, .int (lkL S r (i + 1))), (0, .ref (ad 2000)), (1, .int r)]) hx hb dX6_lockOn_42 hl (k := 1) rfl (nI_1 i) (by decide) rfl (fun ls hl => ?_)
        refine lv_goto (tgt := 4) hx hb dX6_lockOn_45 (by decide) ?_
        exact ih (i + 1) (by omega) ls hl
      · refine kk_iald hx hb hE hW hM.a5 (vp_in_nI (by omega) (by omega)) dX6_lockOn_17 ?_
        rw [nI_clamp (show i < 2 ^ 31 by omega)]
        refine lv_iload_n hx hb dX6_lockOn_18 rfl (lv_at hl 3 rfl) ?_
        refine lv_icmp_ne (tgt := 40) hx hb dX6_lockOn_19 (by decide) (fun c11 => ?_) (fun c11 => ?_)
        · refine lv_iload_n hx hb dX6_lockOn_40 rfl (lv_at hl 1 rfl) ?_
          exact J41 _ (lkL_n (fun q => c11 q.1))
        · refine lv_aload_n hx hb dX6_lockOn_22 rfl (lv_at hl 2 rfl) ?_
          refine kk_get hx hb hts hown hE hW hM.o rfl hiRX6 11 (by decide) (hts (.fieldLink RX6 35 "UndoCellarModel" "isVoid" "[Z") (by decide +kernel)) (fun _ h9 => h9) rfl dX6_lockOn_23 ?_
          refine lv_iload_n hx hb dX6_lockOn_26 rfl (lv_at hl 0 rfl) ?_
          refine kk_zald hx hb hE hW hM.a7 (vp_in_nI (by omega) (by omega)) dX6_lockOn_27 ?_
          rw [nI_clamp (show i < 2 ^ 31 by omega)]
          refine lv_if_ne (tgt := 40) hx hb dX6_lockOn_28 (by decide) (fun c12 => ?_) (fun c12 => ?_)
          · refine lv_iload_n hx hb dX6_lockOn_40 rfl (lv_at hl 1 rfl) ?_
            exact J41 _ (lkL_n (fun q => c12 q.2))
          · refine lv_aload_n hx hb dX6_lockOn_31 rfl (lv_at hl 2 rfl) ?_
            refine kk_get hx hb hts hown hE hW hM.o rfl hiRX6 8 (by decide) (hts (.fieldLink RX6 26 "UndoCellarModel" "by" "[I") (by decide +kernel)) (fun _ h9 => h9) rfl dX6_lockOn_32 ?_
            refine lv_iload_n hx hb dX6_lockOn_35 rfl (lv_at hl 0 rfl) ?_
            refine kk_iald hx hb hE hW hM.a4 (vp_in_nI (by omega) (by omega)) dX6_lockOn_36 ?_
            rw [nI_clamp (show i < 2 ^ 31 by omega)]
            refine lv_goto (tgt := 41) hx hb dX6_lockOn_37 (by decide) ?_
            exact J41 _ (lkL_s c11 c12)
  refine lv_iconst (v := (-1)) hx hb dX6_lockOn_0 (by decide) ?_
  refine lv_istore_n (lv' := [(2, .int (-1)), (0, .ref (ad 2000)), (1, .int r)]) hx hb dX6_lockOn_1 rfl hl (by decide) rfl (fun ls hl => ?_)
  refine lv_iconst (v := 0) hx hb dX6_lockOn_2 (by decide) ?_
  refine lv_istore_n (lv' := [(3, .int 0), (2, .int (-1)), (0, .ref (ad 2000)), (1, .int r)]) hx hb dX6_lockOn_3 rfl hl (by decide) rfl (fun ls hl => ?_)
  exact loop nC 0 (by omega) ls (by rw [nI_0]; exact hl)

set_option maxHeartbeats 4000000 in
set_option maxRecDepth 100000 in
/-- c_standing -/
theorem c_standing (l : Launch) (D : va_G) (A : Nat → Prop) (ad : Nat → Nat) (w : kWd) (S : St) (hM : MW D S ad w w) (t : Int32) (nC : Nat) (hC : S 13 0 = nI nC) (hn : nC ≤ 2000)  : Met l yX6_standing wsX6_standing ({ frames := 0, cells := 0, slots := 0, locals := 0 }) (kPc D A [.ref (ad 2000), .int t] ad w) (kQi D A (fun v ad' w' => v = stV S t ∧ ad' = ad ∧ w' = w)) 0 0 A := by
  refine Met.ofW (cc := cX6_standing) (maxL := 4) (ret := (some (.int))) (by decide) rfl ?_
  intro p e s m args below meth c s₁ B hml hv
  obtain ⟨rfl, hE, hW0, hI0, hA⟩ := hv
  have hx := B.exec
  have hb := B.bytes
  have hr := B.returns
  have hts := atoms_spec (ws := wsX6_standing) B.pre
  have hown : s.vm.findClass RX6 = some m.cls := findClass_of_methodNamed B.named
  have hlocks := B.notSynchronized
  have hiRX6 : ∀ w ∈ wsX60, w ∈ wsX6_standing := by decide +kernel
  have hW : kS D A s.heap ad w s.heap [] := ⟨hW0, hI0, va_S.rf, hA⟩
  have hl := lv_entry ([.ref (ad 2000), .int t]) (n := 4) (Nat.le_of_ble_eq_true rfl)
  rw [lg_entry_eq]
  generalize (lg_sl ([.ref (ad 2000), .int t]) ++ List.replicate (4 - (lg_sl ([.ref (ad 2000), .int t])).length) Slot.unset).toArray = ls at hl ⊢
  have hl : lv_has ls 4 [(0, .ref (ad 2000)), (1, .int t)] := hl
  have hnv : nv (S 13 0) = nC := by rw [hC]; exact nI_clamp (by omega)
  have loop : ∀ (d i : Nat), i + d = nC → ∀ ls, lv_has ls 4 [(3, .int (nI i)), (2, .int (stL S t i)), (0, .ref (ad 2000)), (1, .int t)] → W p l e ({ frames := 0, cells := 0, slots := 0, locals := 0 }) s m ([.ref (ad 2000), .int t] : List Value).toArray below meth c s.heap [] 0 0 (MQ below (kQi D A (fun v ad' w' => v = stV S t ∧ ad' = ad ∧ w' = w)) ([.ref (ad 2000), .int t] : List Value).toArray s 0 0 A) (F0 m 4 ls []) := by
    intro d
    induction d with
    | zero =>
      intro i hi ls hl
      obtain rfl : i = nC := by omega
      refine lv_iload_n hx hb dX6_standing_4 rfl (lv_at hl 0 rfl) ?_
      refine lv_aload_n hx hb dX6_standing_5 rfl (lv_at hl 2 rfl) ?_
      refine kk_get hx hb hts hown hE hW hM.o rfl hiRX6 7 (by decide) (hts (.fieldLink RX6 55 "UndoCellarModel" "changes" "I") (by decide +kernel)) (fun _ h9 => h9) rfl dX6_standing_6 ?_
      refine lv_icmp_ge (tgt := 45) hx hb dX6_standing_9 (by decide) (fun _ => ?_) (fun c9 => absurd (by rw [hC]; exact nI_le (Nat.le_refl _) (by omega)) c9)
      refine lv_iload_n hx hb dX6_standing_45 rfl (lv_at hl 1 rfl) ?_
      exact ke_i hx hb hr hlocks (Nat.le_of_ble_eq_true rfl) (Nat.le_of_ble_eq_true rfl) dX6_standing_46 hW (⟨by unfold stV; rw [hnv], rfl, rfl⟩)
    | succ d ih =>
      intro i hi ls hl
      refine lv_iload_n hx hb dX6_standing_4 rfl (lv_at hl 0 rfl) ?_
      refine lv_aload_n hx hb dX6_standing_5 rfl (lv_at hl 2 rfl) ?_
      refine kk_get hx hb hts hown hE hW hM.o rfl hiRX6 7 (by decide) (hts (.fieldLink RX6 55 "UndoCellarModel" "changes" "I") (by decide +kernel)) (fun _ h9 => h9) rfl dX6_standing_6 ?_
      refine lv_icmp_ge (tgt := 45) hx hb dX6_standing_9 (by decide) (fun c9 => absurd c9 (by rw [hC]; exact nI_ge (by omega) (by omega))) (fun _ => ?_)
      refine lv_iload_n hx hb dX6_standing_12 rfl (lv_at hl 1 rfl) ?_
      refine lv_aload_n hx hb dX6_standing_13 rfl (lv_at hl 2 rfl) ?_
      refine kk_get hx hb hts hown hE hW hM.o rfl hiRX6 8 (by decide) (hts (.fieldLink RX6 26 "UndoCellarModel" "by" "[I") (by decide +kernel)) (fun _ h9 => h9) rfl dX6_standing_14 ?_
      refine lv_iload_n hx hb dX6_standing_17 rfl (lv_at hl 0 rfl) ?_
      refine W_join (P := fun v => v = bI (S 4 i = t ∧ S 7 i = 0)) (pj := 37) (rj := [.int (stL S t i)]) (lj := ls) (fun v hv => ?_) (fun J37 => ?_)
      · subst hv
        refine lv_iadd hx hb dX6_standing_37 ?_
        refine lv_istore_n (lv' := [(2, .int ((stL S t i) + (bI (S 4 i = t ∧ S 7 i = 0)))), (3, .int (nI i)), (0, .ref (ad 2000)), (1, .int t)]) hx hb dX6_standing_38 rfl hl (by decide) rfl (fun ls hl => ?_)
        refine lv_iinc (v := nI (i + 1)) (lv' := [(3, .int (nI (i + 1))), (2, .int ((stL S t i) + (bI (S 4 i = t ∧ S 7 i = 0)))), (0, .ref (ad 2000)), (1, .int t)]) hx hb dX6_standing_39 hl (k := 1) rfl (nI_1 i) (by decide) rfl (fun ls hl => ?_)
        refine lv_goto (tgt := 4) hx hb dX6_standing_42 (by decide) ?_
        exact ih (i + 1) (by omega) ls hl
      · refine kk_iald hx hb hE hW hM.a4 (vp_in_nI (by omega) (by omega)) dX6_standing_18 ?_
        rw [nI_clamp (show i < 2 ^ 31 by omega)]
        refine lv_iload_n hx hb dX6_standing_19 rfl (lv_at hl 3 rfl) ?_
        refine lv_icmp_ne (tgt := 36) hx hb dX6_standing_20 (by decide) (fun c1 => ?_) (fun c1 => ?_)
        · refine lv_iconst (v := 0) hx hb dX6_standing_36 (by decide) ?_
          exact J37 _ ((bI_0 (fun q => c1 q.1)).symm)
        · refine lv_aload_n hx hb dX6_standing_23 rfl (lv_at hl 2 rfl) ?_
          refine kk_get hx hb hts hown hE hW hM.o rfl hiRX6 11 (by decide) (hts (.fieldLink RX6 35 "UndoCellarModel" "isVoid" "[Z") (by decide +kernel)) (fun _ h9 => h9) rfl dX6_standing_24 ?_
          refine lv_iload_n hx hb dX6_standing_27 rfl (lv_at hl 0 rfl) ?_
          refine kk_zald hx hb hE hW hM.a7 (vp_in_nI (by omega) (by omega)) dX6_standing_28 ?_
          rw [nI_clamp (show i < 2 ^ 31 by omega)]
          refine lv_if_ne (tgt := 36) hx hb dX6_standing_29 (by decide) (fun c2 => ?_) (fun c2 => ?_)
          · refine lv_iconst (v := 0) hx hb dX6_standing_36 (by decide) ?_
            exact J37 _ ((bI_0 (fun q => c2 q.2)).symm)
          · refine lv_iconst (v := 1) hx hb dX6_standing_32 (by decide) ?_
            refine lv_goto (tgt := 37) hx hb dX6_standing_33 (by decide) ?_
            exact J37 _ ((bI_1 ⟨c1, c2⟩).symm)
  refine lv_iconst (v := 0) hx hb dX6_standing_0 (by decide) ?_
  refine lv_istore_n (lv' := [(2, .int 0), (0, .ref (ad 2000)), (1, .int t)]) hx hb dX6_standing_1 rfl hl (by decide) rfl (fun ls hl => ?_)
  refine lv_iconst (v := 0) hx hb dX6_standing_2 (by decide) ?_
  refine lv_istore_n (lv' := [(3, .int 0), (2, .int 0), (0, .ref (ad 2000)), (1, .int t)]) hx hb dX6_standing_3 rfl hl (by decide) rfl (fun ls hl => ?_)
  exact loop nC 0 (by omega) ls (by rw [nI_0]; exact hl)

set_option maxHeartbeats 4000000 in
set_option maxRecDepth 100000 in
/-- c_hasSpace -/
theorem c_hasSpace (l : Launch) (D : va_G) (A : Nat → Prop) (ad : Nat → Nat) (w : kWd) (S : St) (hM : MW D S ad w w) (nD : Nat) (hD : S 14 0 = nI nD) (hd : nD < 2000) (hby : ¬ S 13 0 - S 14 0 < S 10 0 → vp_in (S 4 nD) 60) : Met l yX6_hasSpace wsX6_hasSpace ({ frames := 1, cells := 0, slots := 0, locals := 21 }) (kPc D A [.ref (ad 2000)] ad w) (kQi D A (fun v ad' w' => v = bI (spP S) ∧ ad' = ad ∧ w' = w)) 0 0 A := by
  refine Met.ofW (cc := cX6_hasSpace) (maxL := 1) (ret := (some (.boolean))) (by decide) rfl ?_
  intro p e s m args below meth c s₁ B hml hv
  obtain ⟨rfl, hE, hW0, hI0, hA⟩ := hv
  have hx := B.exec
  have hb := B.bytes
  have hr := B.returns
  have hts := atoms_spec (ws := wsX6_hasSpace) B.pre
  have hown : s.vm.findClass RX6 = some m.cls := findClass_of_methodNamed B.named
  have hlocks := B.notSynchronized
  have hiRX6 : ∀ w ∈ wsX60, w ∈ wsX6_hasSpace := by decide +kernel
  have hW : kS D A s.heap ad w s.heap [] := ⟨hW0, hI0, va_S.rf, hA⟩
  have hl := lv_entry ([.ref (ad 2000)]) (n := 1) (Nat.le_of_ble_eq_true rfl)
  rw [lg_entry_eq]
  generalize (lg_sl ([.ref (ad 2000)]) ++ List.replicate (1 - (lg_sl ([.ref (ad 2000)])).length) Slot.unset).toArray = ls at hl ⊢
  have hl : lv_has ls 1 [(0, .ref (ad 2000))] := hl
  have hnv : nv (S 14 0) = nD := by rw [hD]; exact nI_clamp (by omega)
  refine lv_aload_n hx hb dX6_hasSpace_0 rfl (lv_at hl 0 rfl) ?_
  refine kk_get hx hb hts hown hE hW hM.o rfl hiRX6 7 (by decide) (hts (.fieldLink RX6 55 "UndoCellarModel" "changes" "I") (by decide +kernel)) (fun _ h9 => h9) rfl dX6_hasSpace_1 ?_
  refine lv_aload_n hx hb dX6_hasSpace_4 rfl (lv_at hl 0 rfl) ?_
  refine kk_get hx hb hts hown hE hW hM.o rfl hiRX6 12 (by decide) (hts (.fieldLink RX6 58 "UndoCellarModel" "dropped" "I") (by decide +kernel)) (fun _ h9 => h9) rfl dX6_hasSpace_5 ?_
  refine lv_isub hx hb dX6_hasSpace_8 ?_
  refine lv_aload_n hx hb dX6_hasSpace_9 rfl (lv_at hl 0 rfl) ?_
  refine kk_get hx hb hts hown hE hW hM.o rfl hiRX6 1 (by decide) (hts (.fieldLink RX6 13 "UndoCellarModel" "size" "I") (by decide +kernel)) (fun _ h9 => h9) rfl dX6_hasSpace_10 ?_
  refine lv_icmp_lt (tgt := 32) hx hb dX6_hasSpace_13 (by decide) (fun c1 => ?_) (fun c1 => ?_)
  · refine lv_iconst (v := 1) hx hb dX6_hasSpace_32 (by decide) ?_
    refine lv_goto (tgt := 37) hx hb dX6_hasSpace_33 (by decide) ?_
    exact ke_z hx hb hr hlocks (Nat.le_of_ble_eq_true rfl) (Nat.le_of_ble_eq_true rfl) dX6_hasSpace_37 (by first | exact Or.inl rfl | exact Or.inr rfl | assumption) hW (⟨(bI_1 (Or.inl c1)).symm, rfl, rfl⟩)
  · refine lv_aload_n hx hb dX6_hasSpace_16 rfl (lv_at hl 0 rfl) ?_
    refine lv_aload_n hx hb dX6_hasSpace_17 rfl (lv_at hl 0 rfl) ?_
    refine kk_get hx hb hts hown hE hW hM.o rfl hiRX6 8 (by decide) (hts (.fieldLink RX6 26 "UndoCellarModel" "by" "[I") (by decide +kernel)) (fun _ h9 => h9) rfl dX6_hasSpace_18 ?_
    refine lv_aload_n hx hb dX6_hasSpace_21 rfl (lv_at hl 0 rfl) ?_
    refine kk_get hx hb hts hown hE hW hM.o rfl hiRX6 12 (by decide) (hts (.fieldLink RX6 58 "UndoCellarModel" "dropped" "I") (by decide +kernel)) (fun _ h9 => h9) rfl dX6_hasSpace_22 ?_
    refine kk_iald hx hb hE hW hM.a4 (by rw [hD]; exact vp_in_nI hd (by omega)) dX6_hasSpace_25 ?_
    refine kk_i (va_runV (As := [.int (S 4 (nv (S 14 0)))]) (rest := []) ⟨hx, hb, hml, hown, hts⟩ (c_isActive l D A ad w (S) hM.re (S 4 (nv (S 14 0))) (by rw [hnv]; exact hby c1)) (cwV 1 hts gX6_hasSpace_X6_isActive rfl rfl rfl (by decide +kernel) ⟨Nat.le_of_ble_eq_true rfl, Nat.le_of_ble_eq_true rfl⟩) (kV hE hW hM.o rfl _) rfl rfl hl.1 rfl (lv_room (Nat.le_of_ble_eq_true rfl)) dX6_hasSpace_26 ⟨Nat.le_of_ble_eq_true rfl, Nat.le_of_ble_eq_true rfl⟩) hW (fun r5 ad2 w3 H6 locs hp4 hW => ?_)
    obtain ⟨e7, e8, e9⟩ := hp4
    rw [e8, e9] at hW
    subst e7
    refine lv_if_ne (tgt := 36) hx hb dX6_hasSpace_29 (by decide) (fun c10 => ?_) (fun c10 => ?_)
    · refine lv_iconst (v := 0) hx hb dX6_hasSpace_36 (by decide) ?_
      exact ke_z hx hb hr hlocks (Nat.le_of_ble_eq_true rfl) (Nat.le_of_ble_eq_true rfl) dX6_hasSpace_37 (by first | exact Or.inl rfl | exact Or.inr rfl | assumption) hW (⟨(bI_0 (fun q => q.elim c1 (fun z => z (bI_t c10)))).symm, rfl, rfl⟩)
    · refine lv_iconst (v := 1) hx hb dX6_hasSpace_32 (by decide) ?_
      refine lv_goto (tgt := 37) hx hb dX6_hasSpace_33 (by decide) ?_
      exact ke_z hx hb hr hlocks (Nat.le_of_ble_eq_true rfl) (Nat.le_of_ble_eq_true rfl) dX6_hasSpace_37 (by first | exact Or.inl rfl | exact Or.inr rfl | assumption) hW (⟨(bI_1 (Or.inr (bI_f c10))).symm, rfl, rfl⟩)

set_option maxHeartbeats 4000000 in
set_option maxRecDepth 100000 in
/-- c_slotFor -/
theorem c_slotFor (l : Launch) (D : va_G) (A : Nat → Prop) (ad : Nat → Nat) (w : kWd) (S : St) (hM : MW D S ad w w) (t : Int32) (b : Nat) (hb3 : b < 3) (hsl : ∀ k, k < 6 → S 8 k ≠ -1 → vp_in (S 8 k) 60) : Met l yX6_slotFor wsX6_slotFor ({ frames := 1, cells := 0, slots := 0, locals := 21 }) (kPc D A [.ref (ad 2000), .int t, .int (nI b)] ad w) (kQi D A (fun v ad' w' => v = slF S t b ∧ ad' = ad ∧ w' = w)) 0 0 A := by
  refine Met.ofW (cc := cX6_slotFor) (maxL := 6) (ret := (some (.int))) (by decide) rfl ?_
  intro p e s m args below meth c s₁ B hml hv
  obtain ⟨rfl, hE, hW0, hI0, hA⟩ := hv
  have hx := B.exec
  have hb := B.bytes
  have hr := B.returns
  have hts := atoms_spec (ws := wsX6_slotFor) B.pre
  have hown : s.vm.findClass RX6 = some m.cls := findClass_of_methodNamed B.named
  have hlocks := B.notSynchronized
  have hiRX6 : ∀ w ∈ wsX60, w ∈ wsX6_slotFor := by decide +kernel
  have hW : kS D A s.heap ad w s.heap [] := ⟨hW0, hI0, va_S.rf, hA⟩
  have hl := lv_entry ([.ref (ad 2000), .int t, .int (nI b)]) (n := 6) (Nat.le_of_ble_eq_true rfl)
  rw [lg_entry_eq]
  generalize (lg_sl ([.ref (ad 2000), .int t, .int (nI b)]) ++ List.replicate (6 - (lg_sl ([.ref (ad 2000), .int t, .int (nI b)])).length) Slot.unset).toArray = ls at hl ⊢
  have hl : lv_has ls 6 [(0, .ref (ad 2000)), (1, .int t), (2, .int (nI b))] := hl
  have loop : ∀ (j : Nat) (o f : Int32), j ≤ 2 → slL S t (2 * b) j o f = slL S t (2 * b) 2 (-1) (-1) → ∀ (H : Heap) (locs : List Loc), kS D A s.heap ad w H locs → ∀ ls, lv_has ls 6 [(5, .int (nI (2 * b + j) - 1)), (4, .int f), (3, .int o), (0, .ref (ad 2000)), (1, .int t), (2, .int (nI b))] → W p l e ({ frames := 1, cells := 0, slots := 0, locals := 21 }) s m ([.ref (ad 2000), .int t, .int (nI b)] : List Value).toArray below meth c H locs 0 0 (MQ below (kQi D A (fun v ad' w' => v = slF S t b ∧ ad' = ad ∧ w' = w)) ([.ref (ad 2000), .int t, .int (nI b)] : List Value).toArray s 0 0 A) (F0 m 14 ls []) := by
    intro j
    induction j with
    | zero =>
      intro o f hj he H locs hW ls hl
      have hl : lv_has ls 6 [(5, .int (nI (2 * b) - 1)), (4, .int f), (3, .int o), (0, .ref (ad 2000)), (1, .int t), (2, .int (nI b))] := hl
      refine lv_iload hx hb dX6_slotFor_14 (lv_at hl 0 rfl) ?_
      refine lv_iconst (v := 2) hx hb dX6_slotFor_16 (by decide) ?_
      refine lv_iload_n hx hb dX6_slotFor_17 rfl (lv_at hl 5 rfl) ?_
      refine lv_imul hx hb dX6_slotFor_18 ?_
      rw [nI_2]
      refine lv_icmp_lt (tgt := 80) hx hb dX6_slotFor_19 (by decide) (fun _ => ?_) (fun c9 => absurd (by rcases (show b = 0 ∨ b = 1 ∨ b = 2 by omega) with rfl | rfl | rfl <;> decide) c9)
      refine lv_iload_n hx hb dX6_slotFor_80 rfl (lv_at hl 2 rfl) ?_
      refine lv_iconst (v := (-1)) hx hb dX6_slotFor_81 (by decide) ?_
      have e1 : (slL S t (2 * b) 2 (-1) (-1)).1 = o := by rw [← he]; rfl
      have e2 : (slL S t (2 * b) 2 (-1) (-1)).2 = f := by rw [← he]; rfl
      refine lv_icmp_ne (tgt := 90) hx hb dX6_slotFor_82 (by decide) (fun c1 => ?_) (fun c1 => ?_)
      · refine lv_iload_n hx hb dX6_slotFor_90 rfl (lv_at hl 2 rfl) ?_
        exact ke_i hx hb hr hlocks (Nat.le_of_ble_eq_true rfl) (Nat.le_of_ble_eq_true rfl) dX6_slotFor_91 hW (⟨by rw [← slL_2, e1, e2]; exact (if_neg c1).symm, rfl, rfl⟩)
      · refine lv_iload hx hb dX6_slotFor_85 (lv_at hl 1 rfl) ?_
        refine lv_goto (tgt := 91) hx hb dX6_slotFor_87 (by decide) ?_
        exact ke_i hx hb hr hlocks (Nat.le_of_ble_eq_true rfl) (Nat.le_of_ble_eq_true rfl) dX6_slotFor_91 hW (⟨by rw [← slL_2, e1, e2]; exact (if_pos c1).symm, rfl, rfl⟩)
    | succ j ih =>
      intro o f hj he H locs hW ls hl
      have hl : lv_has ls 6 [(5, .int (nI (2 * b + j))), (4, .int f), (3, .int o), (0, .ref (ad 2000)), (1, .int t), (2, .int (nI b))] := by rw [← Nat.add_assoc, nI_dn] at hl; exact hl
      refine lv_iload hx hb dX6_slotFor_14 (lv_at hl 0 rfl) ?_
      refine lv_iconst (v := 2) hx hb dX6_slotFor_16 (by decide) ?_
      refine lv_iload_n hx hb dX6_slotFor_17 rfl (lv_at hl 5 rfl) ?_
      refine lv_imul hx hb dX6_slotFor_18 ?_
      rw [nI_2]
      refine lv_icmp_lt (tgt := 80) hx hb dX6_slotFor_19 (by decide) (fun c9 => absurd c9 (nI_nlt (by omega) (by omega))) (fun _ => ?_)
      refine lv_aload_n hx hb dX6_slotFor_22 rfl (lv_at hl 3 rfl) ?_
      refine kk_get hx hb hts hown hE hW hM.o rfl hiRX6 13 (by decide) (hts (.fieldLink RX6 39 "UndoCellarModel" "slot" "[I") (by decide +kernel)) (fun _ h9 => h9) rfl dX6_slotFor_23 ?_
      refine lv_iload hx hb dX6_slotFor_26 (lv_at hl 0 rfl) ?_
      refine W_join (P := fun v => v = (if S 8 (2 * b + j) = t then nI (2 * b + j) else o)) (pj := 39) (rj := []) (lj := ls) (fun v hv => ?_) (fun J39 => ?_)
      · subst hv
        refine lv_istore_n (lv' := [(3, .int ((if S 8 (2 * b + j) = t then nI (2 * b + j) else o))), (5, .int (nI (2 * b + j))), (4, .int f), (0, .ref (ad 2000)), (1, .int t), (2, .int (nI b))]) hx hb dX6_slotFor_39 rfl hl (by decide) rfl (fun ls hl => ?_)
        refine lv_aload_n hx hb dX6_slotFor_40 rfl (lv_at hl 3 rfl) ?_
        refine kk_get hx hb hts hown hE hW hM.o rfl hiRX6 13 (by decide) (hts (.fieldLink RX6 39 "UndoCellarModel" "slot" "[I") (by decide +kernel)) (fun _ h9 => h9) rfl dX6_slotFor_41 ?_
        refine lv_iload hx hb dX6_slotFor_44 (lv_at hl 1 rfl) ?_
        refine W_joinH (D := D) (A := A) (w := w) (ad := ad) (P := fun v => v = (if freeP S (2 * b + j) then nI (2 * b + j) else f)) (pj := 72) (rj := []) (lj := ls) (fun v H2 locs hv hW => ?_) (fun J72 => ?_)
        · subst hv
          refine lv_istore (lv' := [(4, .int ((if freeP S (2 * b + j) then nI (2 * b + j) else f))), (3, .int ((if S 8 (2 * b + j) = t then nI (2 * b + j) else o))), (5, .int (nI (2 * b + j))), (0, .ref (ad 2000)), (1, .int t), (2, .int (nI b))]) hx hb dX6_slotFor_72 hl (by decide) rfl (fun ls hl => ?_)
          refine lv_iinc (v := nI (2 * b + j) - 1) (lv' := [(5, .int (nI (2 * b + j) - 1)), (4, .int ((if freeP S (2 * b + j) then nI (2 * b + j) else f))), (3, .int ((if S 8 (2 * b + j) = t then nI (2 * b + j) else o))), (0, .ref (ad 2000)), (1, .int t), (2, .int (nI b))]) hx hb dX6_slotFor_74 hl (k := 2) rfl (i_sub1 _) (by decide) rfl (fun ls hl => ?_)
          refine lv_goto (tgt := 14) hx hb dX6_slotFor_77 (by decide) ?_
          exact ih _ _ (by omega) (by rw [← he]; rfl) _ _ hW ls hl
        · refine kk_iald hx hb hE hW hM.a8 (vp_in_nI (by omega) (by omega)) dX6_slotFor_46 ?_
          rw [nI_clamp (show 2 * b + j < 2 ^ 31 by omega)]
          refine lv_iconst (v := (-1)) hx hb dX6_slotFor_47 (by decide) ?_
          refine lv_icmp_eq (tgt := 65) hx hb dX6_slotFor_48 (by decide) (fun c3 => ?_) (fun c3 => ?_)
          · refine lv_iload hx hb dX6_slotFor_65 (lv_at hl 1 rfl) ?_
            refine lv_goto (tgt := 72) hx hb dX6_slotFor_67 (by decide) ?_
            exact J72 _ _ _ ((if_pos (Or.inl c3)).symm) hW
          · refine lv_aload_n hx hb dX6_slotFor_51 rfl (lv_at hl 3 rfl) ?_
            refine lv_aload_n hx hb dX6_slotFor_52 rfl (lv_at hl 3 rfl) ?_
            refine kk_get hx hb hts hown hE hW hM.o rfl hiRX6 13 (by decide) (hts (.fieldLink RX6 39 "UndoCellarModel" "slot" "[I") (by decide +kernel)) (fun _ h9 => h9) rfl dX6_slotFor_53 ?_
            refine lv_iload hx hb dX6_slotFor_56 (lv_at hl 1 rfl) ?_
            refine kk_iald hx hb hE hW hM.a8 (vp_in_nI (by omega) (by omega)) dX6_slotFor_58 ?_
            rw [nI_clamp (show 2 * b + j < 2 ^ 31 by omega)]
            refine kk_i (va_runV (As := [.int (S 8 (2 * b + j))]) (rest := []) ⟨hx, hb, hml, hown, hts⟩ (c_isActive l D A ad w (S) hM.re (S 8 (2 * b + j)) (hsl _ (by omega) c3)) (cwV 1 hts gX6_slotFor_X6_isActive rfl rfl rfl (by decide +kernel) ⟨Nat.le_of_ble_eq_true rfl, Nat.le_of_ble_eq_true rfl⟩) (kV hE hW hM.o rfl _) rfl rfl hl.1 rfl (lv_room (Nat.le_of_ble_eq_true rfl)) dX6_slotFor_59 ⟨Nat.le_of_ble_eq_true rfl, Nat.le_of_ble_eq_true rfl⟩) hW (fun r7 ad4 w5 H8 locs hp6 hW => ?_)
            obtain ⟨e9, e10, e11⟩ := hp6
            rw [e10, e11] at hW
            subst e9
            refine lv_if_ne (tgt := 70) hx hb dX6_slotFor_62 (by decide) (fun c12 => ?_) (fun c12 => ?_)
            · refine lv_iload hx hb dX6_slotFor_70 (lv_at hl 2 rfl) ?_
              exact J72 _ _ _ ((if_neg (fun q => q.elim c3 (fun z => z (bI_t c12)))).symm) hW
            · refine lv_iload hx hb dX6_slotFor_65 (lv_at hl 1 rfl) ?_
              refine lv_goto (tgt := 72) hx hb dX6_slotFor_67 (by decide) ?_
              exact J72 _ _ _ ((if_pos (Or.inr (bI_f c12))).symm) hW
      · refine kk_iald hx hb hE hW hM.a8 (vp_in_nI (by omega) (by omega)) dX6_slotFor_28 ?_
        rw [nI_clamp (show 2 * b + j < 2 ^ 31 by omega)]
        refine lv_iload_n hx hb dX6_slotFor_29 rfl (lv_at hl 4 rfl) ?_
        refine lv_icmp_ne (tgt := 38) hx hb dX6_slotFor_30 (by decide) (fun c13 => ?_) (fun c13 => ?_)
        · refine lv_iload_n hx hb dX6_slotFor_38 rfl (lv_at hl 2 rfl) ?_
          exact J39 _ ((if_neg c13).symm)
        · refine lv_iload hx hb dX6_slotFor_33 (lv_at hl 0 rfl) ?_
          refine lv_goto (tgt := 39) hx hb dX6_slotFor_35 (by decide) ?_
          exact J39 _ ((if_pos c13).symm)
  refine lv_iconst (v := (-1)) hx hb dX6_slotFor_0 (by decide) ?_
  refine lv_istore_n (lv' := [(3, .int (-1)), (0, .ref (ad 2000)), (1, .int t), (2, .int (nI b))]) hx hb dX6_slotFor_1 rfl hl (by decide) rfl (fun ls hl => ?_)
  refine lv_iconst (v := (-1)) hx hb dX6_slotFor_2 (by decide) ?_
  refine lv_istore (lv' := [(4, .int (-1)), (3, .int (-1)), (0, .ref (ad 2000)), (1, .int t), (2, .int (nI b))]) hx hb dX6_slotFor_3 hl (by decide) rfl (fun ls hl => ?_)
  refine lv_iconst (v := 2) hx hb dX6_slotFor_5 (by decide) ?_
  refine lv_iload_n hx hb dX6_slotFor_6 rfl (lv_at hl 4 rfl) ?_
  refine lv_imul hx hb dX6_slotFor_7 ?_
  rw [nI_2]
  refine lv_iconst (v := 2) hx hb dX6_slotFor_8 (by decide) ?_
  refine lv_iadd hx hb dX6_slotFor_9 ?_
  refine lv_iconst (v := 1) hx hb dX6_slotFor_10 (by decide) ?_
  refine lv_isub hx hb dX6_slotFor_11 ?_
  refine lv_istore (lv' := [(5, .int (((nI (2 * b)) + 2) - 1)), (4, .int (-1)), (3, .int (-1)), (0, .ref (ad 2000)), (1, .int t), (2, .int (nI b))]) hx hb dX6_slotFor_12 hl (by decide) rfl (fun ls hl => ?_)
  exact loop 2 (-1) (-1) (Nat.le_refl 2) rfl _ _ hW ls (by rw [show nI (2 * b) + 2 = nI (2 * b + 2) from nI_add _ 2] at hl; exact hl)

set_option maxHeartbeats 4000000 in
set_option maxRecDepth 100000 in
/-- c_cleans -/
theorem c_cleans (l : Launch) (D : va_G) (A : Nat → Prop) (ad : Nat → Nat) (w : kWd) (S : St) (hM : MW D S ad w w) (b : Nat) (hb3 : b < 3) (hsl : ∀ k, k < 6 → S 8 k ≠ -1 → vp_in (S 8 k) 60) : Met l yX6_cleans wsX6_cleans ({ frames := 1, cells := 0, slots := 0, locals := 21 }) (kPc D A [.ref (ad 2000), .int (nI b)] ad w) (kQv D A (fun ad' w' => ad' = ad ∧ MW D (cleanS S b) ad w w')) 0 0 A := by
  refine Met.ofW (cc := cX6_cleans) (maxL := 3) (ret := none) (by decide) rfl ?_
  intro p e s m args below meth c s₁ B hml hv
  obtain ⟨rfl, hE, hW0, hI0, hA⟩ := hv
  have hx := B.exec
  have hb := B.bytes
  have hr := B.returns
  have hts := atoms_spec (ws := wsX6_cleans) B.pre
  have hown : s.vm.findClass RX6 = some m.cls := findClass_of_methodNamed B.named
  have hlocks := B.notSynchronized
  have hiRX6 : ∀ w ∈ wsX60, w ∈ wsX6_cleans := by decide +kernel
  have hW : kS D A s.heap ad w s.heap [] := ⟨hW0, hI0, va_S.rf, hA⟩
  have hl := lv_entry ([.ref (ad 2000), .int (nI b)]) (n := 3) (Nat.le_of_ble_eq_true rfl)
  rw [lg_entry_eq]
  generalize (lg_sl ([.ref (ad 2000), .int (nI b)]) ++ List.replicate (3 - (lg_sl ([.ref (ad 2000), .int (nI b)])).length) Slot.unset).toArray = ls at hl ⊢
  have hl : lv_has ls 3 [(0, .ref (ad 2000)), (1, .int (nI b))] := hl
  have loop : ∀ (d k : Nat) (T : St) (w1 : kWd) (H : Heap) (locs : List Loc), k + d = 2 * b + 2 → T 8 = S 8 → cleanL d k T = cleanS S b → MW D T ad w w1 → kS D A s.heap ad w1 H locs → ∀ ls, lv_has ls 3 [(2, .int (nI k)), (0, .ref (ad 2000)), (1, .int (nI b))] → W p l e ({ frames := 1, cells := 0, slots := 0, locals := 21 }) s m ([.ref (ad 2000), .int (nI b)] : List Value).toArray below meth c H locs 0 0 (MQ below (kQv D A (fun ad' w' => ad' = ad ∧ MW D (cleanS S b) ad w w')) ([.ref (ad 2000), .int (nI b)] : List Value).toArray s 0 0 A) (F0 m 4 ls []) := by
    intro d
    induction d with
    | zero =>
      intro k T w1 H locs hk h8 he hM hW ls hl
      refine lv_iload_n hx hb dX6_cleans_4 rfl (lv_at hl 0 rfl) ?_
      refine lv_iconst (v := 2) hx hb dX6_cleans_5 (by decide) ?_
      refine lv_iload_n hx hb dX6_cleans_6 rfl (lv_at hl 2 rfl) ?_
      refine lv_imul hx hb dX6_cleans_7 ?_
      rw [nI_2]
      refine lv_iconst (v := 2) hx hb dX6_cleans_8 (by decide) ?_
      refine lv_iadd hx hb dX6_cleans_9 ?_
      refine lv_icmp_ge (tgt := 68) hx hb dX6_cleans_10 (by decide) (fun _ => ?_) (fun c9 => absurd (by rw [show nI (2 * b) + 2 = nI (2 * b + 2) from nI_add _ 2]; exact nI_le (by omega) (by omega)) c9)
      exact ke_v hx hb hr hlocks (Nat.le_of_ble_eq_true rfl) (Nat.le_of_ble_eq_true rfl) dX6_cleans_68 hW (⟨rfl, by rw [← he]; exact hM⟩)
    | succ d ih =>
      intro k T w1 H locs hk h8 he hM hW ls hl
      refine lv_iload_n hx hb dX6_cleans_4 rfl (lv_at hl 0 rfl) ?_
      refine lv_iconst (v := 2) hx hb dX6_cleans_5 (by decide) ?_
      refine lv_iload_n hx hb dX6_cleans_6 rfl (lv_at hl 2 rfl) ?_
      refine lv_imul hx hb dX6_cleans_7 ?_
      rw [nI_2]
      refine lv_iconst (v := 2) hx hb dX6_cleans_8 (by decide) ?_
      refine lv_iadd hx hb dX6_cleans_9 ?_
      refine lv_icmp_ge (tgt := 68) hx hb dX6_cleans_10 (by decide) (fun c9 => absurd c9 (by rw [show nI (2 * b) + 2 = nI (2 * b + 2) from nI_add _ 2]; exact nI_ge (by omega) (by omega))) (fun _ => ?_)
      refine lv_aload_n hx hb dX6_cleans_13 rfl (lv_at hl 1 rfl) ?_
      refine kk_get hx hb hts hown hE hW hM.o rfl hiRX6 13 (by decide) (hts (.fieldLink RX6 39 "UndoCellarModel" "slot" "[I") (by decide +kernel)) (fun _ h9 => h9) rfl dX6_cleans_14 ?_
      refine lv_iload_n hx hb dX6_cleans_17 rfl (lv_at hl 0 rfl) ?_
      have hs8 : T 8 k ≠ -1 → vp_in (T 8 k) 60 := by rw [h8]; exact hsl k (by omega)
      refine kk_iald hx hb hE hW hM.a8 (vp_in_nI (by omega) (by omega)) dX6_cleans_18 ?_
      rw [nI_clamp (show k < 2 ^ 31 by omega)]
      refine lv_iconst (v := (-1)) hx hb dX6_cleans_19 (by decide) ?_
      refine lv_icmp_eq (tgt := 62) hx hb dX6_cleans_20 (by decide) (fun c1 => ?_) (fun c1 => ?_)
      · refine lv_iinc (v := nI (k + 1)) (lv' := [(2, .int (nI (k + 1))), (0, .ref (ad 2000)), (1, .int (nI b))]) hx hb dX6_cleans_62 hl (k := 0) rfl (nI_1 k) (by decide) rfl (fun ls hl => ?_)
        refine lv_goto (tgt := 4) hx hb dX6_cleans_65 (by decide) ?_
        exact ih (k + 1) T w1 _ _ (by omega) h8 (by rw [← he]; exact congrArg (cleanL d (k + 1)) (if_neg (fun q => q.1 c1)).symm) hM hW ls hl
      · refine lv_aload_n hx hb dX6_cleans_23 rfl (lv_at hl 1 rfl) ?_
        refine lv_aload_n hx hb dX6_cleans_24 rfl (lv_at hl 1 rfl) ?_
        refine kk_get hx hb hts hown hE hW hM.o rfl hiRX6 13 (by decide) (hts (.fieldLink RX6 39 "UndoCellarModel" "slot" "[I") (by decide +kernel)) (fun _ h9 => h9) rfl dX6_cleans_25 ?_
        refine lv_iload_n hx hb dX6_cleans_28 rfl (lv_at hl 0 rfl) ?_
        refine kk_iald hx hb hE hW hM.a8 (vp_in_nI (by omega) (by omega)) dX6_cleans_29 ?_
        rw [nI_clamp (show k < 2 ^ 31 by omega)]
        refine kk_i (va_runV (As := [.int (T 8 k)]) (rest := []) ⟨hx, hb, hml, hown, hts⟩ (c_isActive l D A ad w1 (T) hM.re (T 8 k) (hs8 c1)) (cwV 1 hts gX6_cleans_X6_isActive rfl rfl rfl (by decide +kernel) ⟨Nat.le_of_ble_eq_true rfl, Nat.le_of_ble_eq_true rfl⟩) (kV hE hW hM.o rfl _) rfl rfl hl.1 rfl (lv_room (Nat.le_of_ble_eq_true rfl)) dX6_cleans_30 ⟨Nat.le_of_ble_eq_true rfl, Nat.le_of_ble_eq_true rfl⟩) hW (fun r5 ad2 w3 H6 locs hp4 hW => ?_)
        obtain ⟨e7, e8, e9⟩ := hp4
        rw [e8, e9] at hW
        subst e7
        refine lv_if_ne (tgt := 62) hx hb dX6_cleans_33 (by decide) (fun c10 => ?_) (fun c10 => ?_)
        · refine lv_iinc (v := nI (k + 1)) (lv' := [(2, .int (nI (k + 1))), (0, .ref (ad 2000)), (1, .int (nI b))]) hx hb dX6_cleans_62 hl (k := 0) rfl (nI_1 k) (by decide) rfl (fun ls hl => ?_)
          refine lv_goto (tgt := 4) hx hb dX6_cleans_65 (by decide) ?_
          exact ih (k + 1) T w1 _ _ (by omega) h8 (by rw [← he]; exact congrArg (cleanL d (k + 1)) (if_neg (fun q => q.2.1 (bI_t c10))).symm) hM hW ls hl
        · refine lv_aload_n hx hb dX6_cleans_36 rfl (lv_at hl 1 rfl) ?_
          refine kk_get hx hb hts hown hE hW hM.o rfl hiRX6 14 (by decide) (hts (.fieldLink RX6 42 "UndoCellarModel" "isEnded" "[Z") (by decide +kernel)) (fun _ h9 => h9) rfl dX6_cleans_37 ?_
          refine lv_iload_n hx hb dX6_cleans_40 rfl (lv_at hl 0 rfl) ?_
          refine kk_zald hx hb hE hW hM.a9 (vp_in_nI (by omega) (by omega)) dX6_cleans_41 ?_
          rw [nI_clamp (show k < 2 ^ 31 by omega)]
          refine lv_if_ne (tgt := 62) hx hb dX6_cleans_42 (by decide) (fun c11 => ?_) (fun c11 => ?_)
          · refine lv_iinc (v := nI (k + 1)) (lv' := [(2, .int (nI (k + 1))), (0, .ref (ad 2000)), (1, .int (nI b))]) hx hb dX6_cleans_62 hl (k := 0) rfl (nI_1 k) (by decide) rfl (fun ls hl => ?_)
            refine lv_goto (tgt := 4) hx hb dX6_cleans_65 (by decide) ?_
            exact ih (k + 1) T w1 _ _ (by omega) h8 (by rw [← he]; exact congrArg (cleanL d (k + 1)) (if_neg (fun q => c11 q.2.2)).symm) hM hW ls hl
          · refine lv_aload_n hx hb dX6_cleans_45 rfl (lv_at hl 1 rfl) ?_
            refine kk_get hx hb hts hown hE hW hM.o rfl hiRX6 14 (by decide) (hts (.fieldLink RX6 42 "UndoCellarModel" "isEnded" "[Z") (by decide +kernel)) (fun _ h9 => h9) rfl dX6_cleans_46 ?_
            refine lv_iload_n hx hb dX6_cleans_49 rfl (lv_at hl 0 rfl) ?_
            refine lv_iconst (v := 1) hx hb dX6_cleans_50 (by decide) ?_
            refine kk_zast hx hb hE hW hM.a9 (vp_in_nI (by omega) (by omega)) dX6_cleans_51 (fun H14 locs w12 e13 hW => ?_)
            rw [nI_clamp (show k < 2 ^ 31 by omega)] at e13
            rw [show vp_nar .boolean 1 = 1 from rfl] at e13
            have hM := hM.t9 e13
            refine lv_aload_n hx hb dX6_cleans_52 rfl (lv_at hl 1 rfl) ?_
            refine lv_dup hx hb dX6_cleans_53 rfl ?_
            refine kk_get hx hb hts hown hE hW (show w12 2000 = some (.inr (7, [.ref (ad 2001), .int (T 10 0), .int (T 11 0), .int (T 12 0), .ref (ad 2002), .ref (ad 2003), .ref (ad 2004), .int (T 13 0), .ref (ad 2005), .ref (ad 2006), .ref (ad 2007), .ref (ad 2008), .int (T 14 0), .ref (ad 2009), .ref (ad 2010), .int (T 15 0), .int (T 16 0), .int (T 17 0)])) from hM.o) rfl hiRX6 15 (by decide) (hts (.fieldLink RX6 71 "UndoCellarModel" "marks" "I") (by decide +kernel)) (fun _ h9 => h9) rfl dX6_cleans_54 ?_
            refine lv_iconst (v := 1) hx hb dX6_cleans_57 (by decide) ?_
            refine lv_iadd hx hb dX6_cleans_58 ?_
            refine kk_put hx hb hts hown hE hW (show w12 2000 = some (.inr (7, [.ref (ad 2001), .int (T 10 0), .int (T 11 0), .int (T 12 0), .ref (ad 2002), .ref (ad 2003), .ref (ad 2004), .int (T 13 0), .ref (ad 2005), .ref (ad 2006), .ref (ad 2007), .ref (ad 2008), .int (T 14 0), .ref (ad 2009), .ref (ad 2010), .int (T 15 0), .int (T 16 0), .int (T 17 0)])) from hM.o) rfl hiRX6 tyX6 tyX6_ok nmX6 15 (by decide) (hts (.fieldLink RX6 71 "UndoCellarModel" "marks" "I") (by decide +kernel)) (fun _ h9 => h9) rfl (ty := tyX6 15) (tyX6_ok 15 (by decide)) rfl rfl (Nat.le_of_ble_eq_true rfl) dX6_cleans_59 (fun H17 locs w15 e16 hW => ?_)
            have hM := hM.s15 e16
            refine lv_iinc (v := nI (k + 1)) (lv' := [(2, .int (nI (k + 1))), (0, .ref (ad 2000)), (1, .int (nI b))]) hx hb dX6_cleans_62 hl (k := 0) rfl (nI_1 k) (by decide) rfl (fun ls hl => ?_)
            refine lv_goto (tgt := 4) hx hb dX6_cleans_65 (by decide) ?_
            exact ih (k + 1) (sS (sA T 9 k 1) 15 (T 15 0 + 1)) _ _ _ (by omega) h8 (by rw [← he]; exact congrArg (cleanL d (k + 1)) (if_pos ⟨c1, bI_f c10, c11⟩).symm) hM hW ls hl
  refine lv_iconst (v := 2) hx hb dX6_cleans_0 (by decide) ?_
  refine lv_iload_n hx hb dX6_cleans_1 rfl (lv_at hl 1 rfl) ?_
  refine lv_imul hx hb dX6_cleans_2 ?_
  rw [nI_2]
  refine lv_istore_n (lv' := [(2, .int (nI (2 * b))), (0, .ref (ad 2000)), (1, .int (nI b))]) hx hb dX6_cleans_3 rfl hl (by decide) rfl (fun ls hl => ?_)
  exact loop 2 (2 * b) S w s.heap [] rfl rfl (cleanL_2 S b) hM hW ls hl

set_option maxHeartbeats 4000000 in
set_option maxRecDepth 100000 in
/-- c_undoes -/
theorem c_undoes (l : Launch) (D : va_G) (A : Nat → Prop) (ad : Nat → Nat) (w : kWd) (S : St) (hM : MW D S ad w w) (t z : Int32) (nC : Nat) (hC : S 13 0 = nI nC) (hn : nC ≤ 2000) (hro : ∀ k, k < nC → vp_in (S 5 k) 12) : Met l yX6_undoes wsX6_undoes ({ frames := 0, cells := 0, slots := 0, locals := 0 }) (kPc D A [.ref (ad 2000), .int t, .int z] ad w) (kQv D A (fun ad' w' => ad' = ad ∧ MW D (unS S t z) ad w w')) 0 0 A := by
  refine Met.ofW (cc := cX6_undoes) (maxL := 5) (ret := none) (by decide) rfl ?_
  intro p e s m args below meth c s₁ B hml hv
  obtain ⟨rfl, hE, hW0, hI0, hA⟩ := hv
  have hx := B.exec
  have hb := B.bytes
  have hr := B.returns
  have hts := atoms_spec (ws := wsX6_undoes) B.pre
  have hown : s.vm.findClass RX6 = some m.cls := findClass_of_methodNamed B.named
  have hlocks := B.notSynchronized
  have hiRX6 : ∀ w ∈ wsX60, w ∈ wsX6_undoes := by decide +kernel
  have hW : kS D A s.heap ad w s.heap [] := ⟨hW0, hI0, va_S.rf, hA⟩
  have hl := lv_entry ([.ref (ad 2000), .int t, .int z]) (n := 5) (Nat.le_of_ble_eq_true rfl)
  rw [lg_entry_eq]
  generalize (lg_sl ([.ref (ad 2000), .int t, .int z]) ++ List.replicate (5 - (lg_sl ([.ref (ad 2000), .int t, .int z])).length) Slot.unset).toArray = ls at hl ⊢
  have hl : lv_has ls 5 [(0, .ref (ad 2000)), (1, .int t), (2, .int z)] := hl
  have hnv : nv (S 13 0) = nC := by rw [hC]; exact nI_clamp (by omega)
  have loop : ∀ (n : Nat) (y : Int32) (T : St) (w1 : kWd) (H : Heap) (locs : List Loc), n ≤ nC → T 5 = S 5 → unL t n y T = unS S t z → MW D T ad w w1 → kS D A s.heap ad w1 H locs → ∀ ls, lv_has ls 5 [(4, .int (nI n - 1)), (3, .int y), (0, .ref (ad 2000)), (1, .int t), (2, .int z)] → W p l e ({ frames := 0, cells := 0, slots := 0, locals := 0 }) s m ([.ref (ad 2000), .int t, .int z] : List Value).toArray below meth c H locs 0 0 (MQ below (kQv D A (fun ad' w' => ad' = ad ∧ MW D (unS S t z) ad w w')) ([.ref (ad 2000), .int t, .int z] : List Value).toArray s 0 0 A) (F0 m 10 ls []) := by
    intro n
    induction n with
    | zero =>
      intro y T w1 H locs hn9 h5 he hM hW ls hl
      refine lv_iload hx hb dX6_undoes_10 (lv_at hl 0 rfl) ?_
      refine lv_if_lt (tgt := 76) hx hb dX6_undoes_12 (by decide) (fun _ => ?_) (fun c9 => absurd (nI_m1) c9)
      exact ke_v hx hb hr hlocks (Nat.le_of_ble_eq_true rfl) (Nat.le_of_ble_eq_true rfl) dX6_undoes_76 hW (⟨rfl, by rw [← he]; exact hM⟩)
    | succ n ih =>
      intro y T w1 H locs hn9 h5 he hM hW ls hl
      rw [nI_dn] at hl
      refine lv_iload hx hb dX6_undoes_10 (lv_at hl 0 rfl) ?_
      refine lv_if_lt (tgt := 76) hx hb dX6_undoes_12 (by decide) (fun c9 => absurd c9 (nI_pos (by omega))) (fun _ => ?_)
      refine lv_iload_n hx hb dX6_undoes_15 rfl (lv_at hl 1 rfl) ?_
      refine lv_if_le (tgt := 76) hx hb dX6_undoes_16 (by decide) (fun c1 => ?_) (fun c1 => ?_)
      · exact ke_v hx hb hr hlocks (Nat.le_of_ble_eq_true rfl) (Nat.le_of_ble_eq_true rfl) dX6_undoes_76 hW (⟨rfl, by rw [← he, show unL t (n + 1) y T = T from if_neg (Int32.not_lt.mpr c1)]; exact hM⟩)
      · have hy : 0 < y := Int32.not_le.mp c1
        refine lv_aload_n hx hb dX6_undoes_19 rfl (lv_at hl 2 rfl) ?_
        refine kk_get hx hb hts hown hE hW hM.o rfl hiRX6 8 (by decide) (hts (.fieldLink RX6 26 "UndoCellarModel" "by" "[I") (by decide +kernel)) (fun _ h9 => h9) rfl dX6_undoes_20 ?_
        refine lv_iload hx hb dX6_undoes_23 (lv_at hl 0 rfl) ?_
        refine kk_iald hx hb hE hW hM.a4 (vp_in_nI (by omega) (by omega)) dX6_undoes_25 ?_
        rw [nI_clamp (show n < 2 ^ 31 by omega)]
        refine lv_iload_n hx hb dX6_undoes_26 rfl (lv_at hl 3 rfl) ?_
        refine lv_icmp_ne (tgt := 70) hx hb dX6_undoes_27 (by decide) (fun c2 => ?_) (fun c2 => ?_)
        · refine lv_iinc (v := nI n - 1) (lv' := [(4, .int (nI n - 1)), (3, .int y), (0, .ref (ad 2000)), (1, .int t), (2, .int z)]) hx hb dX6_undoes_70 hl (k := 0) rfl (i_sub1 _) (by decide) rfl (fun ls hl => ?_)
          refine lv_goto (tgt := 10) hx hb dX6_undoes_73 (by decide) ?_
          exact ih y T w1 _ _ (by omega) h5 (by rw [← he]; exact ((if_pos hy).trans (if_neg (fun q => c2 q.1))).symm) hM hW ls hl
        · refine lv_aload_n hx hb dX6_undoes_30 rfl (lv_at hl 2 rfl) ?_
          refine kk_get hx hb hts hown hE hW hM.o rfl hiRX6 11 (by decide) (hts (.fieldLink RX6 35 "UndoCellarModel" "isVoid" "[Z") (by decide +kernel)) (fun _ h9 => h9) rfl dX6_undoes_31 ?_
          refine lv_iload hx hb dX6_undoes_34 (lv_at hl 0 rfl) ?_
          refine kk_zald hx hb hE hW hM.a7 (vp_in_nI (by omega) (by omega)) dX6_undoes_36 ?_
          rw [nI_clamp (show n < 2 ^ 31 by omega)]
          refine lv_if_ne (tgt := 70) hx hb dX6_undoes_37 (by decide) (fun c3 => ?_) (fun c3 => ?_)
          · refine lv_iinc (v := nI n - 1) (lv' := [(4, .int (nI n - 1)), (3, .int y), (0, .ref (ad 2000)), (1, .int t), (2, .int z)]) hx hb dX6_undoes_70 hl (k := 0) rfl (i_sub1 _) (by decide) rfl (fun ls hl => ?_)
            refine lv_goto (tgt := 10) hx hb dX6_undoes_73 (by decide) ?_
            exact ih y T w1 _ _ (by omega) h5 (by rw [← he]; exact ((if_pos hy).trans (if_neg (fun q => c3 q.2))).symm) hM hW ls hl
          · refine lv_aload_n hx hb dX6_undoes_40 rfl (lv_at hl 2 rfl) ?_
            refine kk_get hx hb hts hown hE hW hM.o rfl hiRX6 11 (by decide) (hts (.fieldLink RX6 35 "UndoCellarModel" "isVoid" "[Z") (by decide +kernel)) (fun _ h9 => h9) rfl dX6_undoes_41 ?_
            refine lv_iload hx hb dX6_undoes_44 (lv_at hl 0 rfl) ?_
            refine lv_iconst (v := 1) hx hb dX6_undoes_46 (by decide) ?_
            refine kk_zast hx hb hE hW hM.a7 (vp_in_nI (by omega) (by omega)) dX6_undoes_47 (fun H6 locs w4 e5 hW => ?_)
            rw [nI_clamp (show n < 2 ^ 31 by omega)] at e5
            rw [show vp_nar .boolean 1 = 1 from rfl] at e5
            have hM := hM.t7 e5
            refine lv_aload_n hx hb dX6_undoes_48 rfl (lv_at hl 2 rfl) ?_
            refine kk_get hx hb hts hown hE hW (show w4 2000 = some (.inr (7, [.ref (ad 2001), .int (T 10 0), .int (T 11 0), .int (T 12 0), .ref (ad 2002), .ref (ad 2003), .ref (ad 2004), .int (T 13 0), .ref (ad 2005), .ref (ad 2006), .ref (ad 2007), .ref (ad 2008), .int (T 14 0), .ref (ad 2009), .ref (ad 2010), .int (T 15 0), .int (T 16 0), .int (T 17 0)])) from hM.o) rfl hiRX6 0 (by decide) (hts (.fieldLink RX6 7 "UndoCellarModel" "value" "[I") (by decide +kernel)) (fun _ h9 => h9) rfl dX6_undoes_49 ?_
            refine lv_aload_n hx hb dX6_undoes_52 rfl (lv_at hl 2 rfl) ?_
            refine kk_get hx hb hts hown hE hW (show w4 2000 = some (.inr (7, [.ref (ad 2001), .int (T 10 0), .int (T 11 0), .int (T 12 0), .ref (ad 2002), .ref (ad 2003), .ref (ad 2004), .int (T 13 0), .ref (ad 2005), .ref (ad 2006), .ref (ad 2007), .ref (ad 2008), .int (T 14 0), .ref (ad 2009), .ref (ad 2010), .int (T 15 0), .int (T 16 0), .int (T 17 0)])) from hM.o) rfl hiRX6 9 (by decide) (hts (.fieldLink RX6 29 "UndoCellarModel" "row" "[I") (by decide +kernel)) (fun _ h9 => h9) rfl dX6_undoes_53 ?_
            refine lv_iload hx hb dX6_undoes_56 (lv_at hl 0 rfl) ?_
            refine kk_iald hx hb hE hW (show w4 2006 = some (.inl (D.1 100, 2000, .inl (T 5))) from hM.a5) (vp_in_nI (by omega) (by omega)) dX6_undoes_58 ?_
            rw [nI_clamp (show n < 2 ^ 31 by omega)]
            refine lv_aload_n hx hb dX6_undoes_59 rfl (lv_at hl 2 rfl) ?_
            refine kk_get hx hb hts hown hE hW (show w4 2000 = some (.inr (7, [.ref (ad 2001), .int (T 10 0), .int (T 11 0), .int (T 12 0), .ref (ad 2002), .ref (ad 2003), .ref (ad 2004), .int (T 13 0), .ref (ad 2005), .ref (ad 2006), .ref (ad 2007), .ref (ad 2008), .int (T 14 0), .ref (ad 2009), .ref (ad 2010), .int (T 15 0), .int (T 16 0), .int (T 17 0)])) from hM.o) rfl hiRX6 10 (by decide) (hts (.fieldLink RX6 32 "UndoCellarModel" "ahead" "[I") (by decide +kernel)) (fun _ h9 => h9) rfl dX6_undoes_60 ?_
            refine lv_iload hx hb dX6_undoes_63 (lv_at hl 0 rfl) ?_
            refine kk_iald hx hb hE hW (show w4 2007 = some (.inl (D.1 100, 2000, .inl (T 6))) from hM.a6) (vp_in_nI (by omega) (by omega)) dX6_undoes_65 ?_
            rw [nI_clamp (show n < 2 ^ 31 by omega)]
            refine kk_iast hx hb hE hW (show w4 2001 = some (.inl (D.1 100, 12, .inl (T 0))) from hM.a0) (by rw [h5]; exact hro n (by omega)) dX6_undoes_66 (fun H9 locs w7 e8 hW => ?_)
            have hM := hM.t0 e8
            refine lv_iinc (v := y - 1) (lv' := [(3, .int (y - 1)), (4, .int (nI n)), (0, .ref (ad 2000)), (1, .int t), (2, .int z)]) hx hb dX6_undoes_67 hl (k := 1) rfl (i_sub1 _) (by decide) rfl (fun ls hl => ?_)
            refine lv_iinc (v := nI n - 1) (lv' := [(4, .int (nI n - 1)), (3, .int (y - 1)), (0, .ref (ad 2000)), (1, .int t), (2, .int z)]) hx hb dX6_undoes_70 hl (k := 1) rfl (i_sub1 _) (by decide) rfl (fun ls hl => ?_)
            refine lv_goto (tgt := 10) hx hb dX6_undoes_73 (by decide) ?_
            exact ih (y - 1) (sA (sA T 7 n 1) 0 (nv (T 5 n)) (T 6 n)) _ _ _ (by omega) h5 (by rw [← he]; exact ((if_pos hy).trans (if_pos ⟨c2, c3⟩)).symm) hM hW ls hl
  refine lv_iload_n hx hb dX6_undoes_0 rfl (lv_at hl 2 rfl) ?_
  refine lv_istore_n (lv' := [(3, .int z), (0, .ref (ad 2000)), (1, .int t), (2, .int z)]) hx hb dX6_undoes_1 rfl hl (by decide) rfl (fun ls hl => ?_)
  refine lv_aload_n hx hb dX6_undoes_2 rfl (lv_at hl 1 rfl) ?_
  refine kk_get hx hb hts hown hE hW hM.o rfl hiRX6 7 (by decide) (hts (.fieldLink RX6 55 "UndoCellarModel" "changes" "I") (by decide +kernel)) (fun _ h9 => h9) rfl dX6_undoes_3 ?_
  refine lv_iconst (v := 1) hx hb dX6_undoes_6 (by decide) ?_
  refine lv_isub hx hb dX6_undoes_7 ?_
  refine lv_istore (lv' := [(4, .int ((S 13 0) - 1)), (3, .int z), (0, .ref (ad 2000)), (1, .int t), (2, .int z)]) hx hb dX6_undoes_8 hl (by decide) rfl (fun ls hl => ?_)
  exact loop nC z S w s.heap [] (Nat.le_refl _) rfl (by unfold unS; rw [hnv]) hM hW ls (by rw [hC] at hl; exact hl)
end
section
/-! what each call of the reference throws (K), answers (R), and the state after (N) -/
theorem sS_sS {S : St} {c : Nat} {a b : Int32} : sS (sS S c a) c b = sS S c b := by
  funext d
  by_cases h : d = c
  · subst h
    exact sU_s.trans sU_s.symm
  · exact ((sU_n h).trans (sU_n h)).trans (sU_n h).symm
def ssK (S : St) (z : Int32) : Int32 := if inP z 1 30 then (if S 13 0 - S 14 0 ≤ z then 0 else 2) else 1
def ssN (S : St) (z : Int32) : St := if ssK S z = 0 then sS (sS S 17 (ssK S z)) 10 z else sS S 17 (ssK S z)
def ssR (S : St) (z : Int32) : Int32 := if ssK S z = 0 then S 10 0 else 0
def bgK (S : St) : Int32 := if S 12 0 = 60 then 1 else 0
def bgN (S : St) : St := if bgK S = 0 then sS (sA (sS S 17 (bgK S)) 2 (nv (S 12 0)) (S 11 0)) 12 (S 12 0 + 1) else sS S 17 (bgK S)
def bgR (S : St) : Int32 := if bgK S = 0 then S 12 0 + 1 - 1 else 0
abbrev trP (S : St) (t : Int32) : Prop := inP t 0 (S 12 0 - 1)
def opK (S : St) (t : Int32) : Int32 := if trP S t then (if actP S t then 0 else 2) else 1
def saR (S : St) (t : Int32) : Int32 := if opK S t = 0 then stV (sS S 17 (opK S t)) t else 0
def utA (S : St) (t : Int32) : Int32 := stV (sS S 17 (opK S t)) t
def utK (S : St) (t k : Int32) : Int32 := if opK S t = 0 then (if inP k 0 (utA S t) then 0 else 3) else opK S t
def utN (S : St) (t k : Int32) : St := if utK S t k = 0 then unS (sS S 17 (utK S t k)) t (utA S t - k) else sS S 17 (utK S t k)
def utR (S : St) (t k : Int32) : Int32 := if utK S t k = 0 then utA S t - k else 0
def udN (S : St) (t : Int32) : St := if opK S t = 0 then sA (unS (sS S 17 (opK S t)) t (utA S t)) 1 (nv t) 2 else sS S 17 (opK S t)
def udR (S : St) (t : Int32) : Int32 := if opK S t = 0 then utA S t else 0
def cmN (S : St) (t : Int32) : St := if opK S t = 0 then sA (sA (sS (sS S 17 (opK S t)) 11 (S 11 0 + 1)) 1 (nv t) 1) 3 (nv t) (S 11 0 + 1) else sS S 17 (opK S t)
def cmR (S : St) (t : Int32) : Int32 := if opK S t = 0 then S 11 0 + 1 else 0
abbrev roP (r : Int32) : Prop := inP r 0 11
def noK (r : Int32) : Int32 := if roP r then 0 else 1
def noR (S : St) (r : Int32) : Int32 := if noK r = 0 then S 0 (nv r) else 0
def loR (S : St) (r : Int32) : Int32 := if noK r = 0 then lockV (sS S 17 (noK r)) r else 0
def vrK (S : St) (m r : Int32) : Int32 := if roP r then (if inP m 0 (S 11 0) then 0 else 2) else 1
def vrV (S : St) (m r t k : Int32) : Int32 × Int32 := vaV (sS S 17 k) m r t
def vrN (S : St) (m r : Int32) : St := if vrK S m r = 0 then sS (sS S 17 (vrK S m r)) 16 (vrV S m r (-1) (vrK S m r)).2 else sS S 17 (vrK S m r)
def vrR (S : St) (m r : Int32) : Int32 := if vrK S m r = 0 then (vrV S m r (-1) (vrK S m r)).1 else 0
abbrev slP (b k : Int32) : Prop := inP b 0 2 ∧ inP k 0 1
def soK (b k : Int32) : Int32 := if slP b k then 0 else 1
def soR (S : St) (b k : Int32) : Int32 := if soK b k = 0 then S 8 (nv (2 * b + k)) else 0
def imR (S : St) (b k : Int32) : Int32 := bI (soK b k = 0 ∧ S 9 (nv (2 * b + k)) ≠ 0)
/-- a read: K0 what is thrown ahead of it; then late or not -/
def rdL (S : St) (m r t k0 : Int32) : Int32 := (vrV S m r t k0).2
def rdK (S : St) (m r t k0 : Int32) : Int32 := if k0 = 0 then (if rdL S m r t k0 = 0 then 0 else 3) else k0
def rdN (S : St) (m r t k0 : Int32) : St := if k0 = 0 then (if rdL S m r t k0 = 0 then cleanS (sS (sS (sS S 17 k0) 16 (rdL S m r t k0)) 17 0) (nv r / 4) else sS (sS (sS S 17 k0) 16 (rdL S m r t k0)) 17 3) else sS S 17 k0
def rdR (S : St) (m r t k0 : Int32) : Int32 := if k0 = 0 then (if rdL S m r t k0 = 0 then (vrV S m r t k0).1 else 0) else 0
def r1K (S : St) (t r : Int32) : Int32 := if trP S t ∧ roP r then (if actP S t then 0 else 2) else 1
/-- write: what it needs -/
abbrev goodP (v : Int32) : Prop := inP v (-1000000) 1000000
abbrev canP (S : St) (t r v : Int32) : Prop := (trP S t ∧ roP r) ∧ goodP v ∧ actP S t
abbrev lkO (S : St) (t r : Int32) : Prop := lockV S r = -1 ∨ lockV S r = t
abbrev wrP (S : St) (t r v : Int32) : Prop := canP S t r v ∧ lkO S t r ∧ slF S t (nv r / 4) ≠ -1 ∧ spP S
def wrK (S : St) (t r v : Int32) : Int32 := if trP S t ∧ roP r then (if goodP v then (if wrP S t r v then 0 else 3) else 2) else 1
def wrM (S : St) (t r v : Int32) : St :=
  let q := slF S t (nv r / 4)
  let S1 := cleanS S (nv r / 4)
  let S2 := sA (sA S1 8 (nv q) t) 9 (nv q) 0
  let S3 := sS S2 14 (S 14 0 + bI (S 13 0 - S 14 0 = S 10 0))
  let S4 := sA (sA (sA S3 4 (nv (S 13 0)) t) 5 (nv (S 13 0)) r) 6 (nv (S 13 0)) (S 0 (nv r))
  sA (sS S4 13 (S 13 0 + 1)) 0 (nv r) v
def wrN (S : St) (t r v : Int32) : St := if wrK S t r v = 0 then wrM (sS S 17 (wrK S t r v)) t r v else sS S 17 (wrK S t r v)
def wrR (S : St) (t r v : Int32) : Int32 := if wrK S t r v = 0 then S 0 (nv r) else 0
theorem inP_T {t : Int32} {n : Nat} (hn : n ≤ 60) (h : inP t 0 (nI n - 1)) : ∃ j, j < n ∧ t = nI j := by
  obtain ⟨j, hj, e⟩ := nI_of h.1
  subst e
  refine ⟨j, ?_, rfl⟩
  cases n with
  | zero => exact absurd (Int32.lt_of_lt_of_le nI_m1 (nI_pos' hj)) h.2
  | succ n =>
    have h2 := h.2
    rw [nI_dn] at h2
    exact Nat.not_le.mp fun q => h2 (nI_lt (show n < j by omega) hj)
theorem inP_N {t : Int32} {n : Nat} (hn : n < 2 ^ 31) (h : inP t 0 (nI n)) : ∃ j, j ≤ n ∧ t = nI j := by
  obtain ⟨j, hj, e⟩ := nI_of h.1
  subst e
  exact ⟨j, Nat.not_lt.mp fun q => h.2 (nI_lt q hj), rfl⟩
theorem inP_of {n j : Nat} (hn : n < 2 ^ 31) (h : j ≤ n) : inP (nI j) 0 (nI n) := ⟨nI_pos (by omega), nI_nlt h hn⟩
theorem nv_nI {n : Nat} (h : n < 2 ^ 31) : nv (nI n) = n := nI_clamp h
end
section
/-! the reference: its calls -/
set_option maxHeartbeats 4000000 in
set_option maxRecDepth 100000 in
/-- c_valueAt -/
theorem c_valueAt (l : Launch) (D : va_G) (A : Nat → Prop) (ad : Nat → Nat) (w : kWd) (S : St) (hM : MW D S ad w w) (mm r t : Int32) (hr12 : vp_in r 12) (nC : Nat) (hC : S 13 0 = nI nC) (hn : nC ≤ 2000) (hby : ∀ k, k < nC → vp_in (S 4 k) 60) : Met l yX6_valueAt wsX6_valueAt ({ frames := 0, cells := 0, slots := 0, locals := 0 }) (kPc D A [.ref (ad 2000), .int mm, .int r, .int t] ad w) (kQi D A (fun v ad' w' => v = (vaV S mm r t).1 ∧ ad' = ad ∧ MW D (sS S 16 (vaV S mm r t).2) ad w w')) 0 0 A := by
  refine Met.ofW (cc := cX6_valueAt) (maxL := 7) (ret := (some (.int))) (by decide) rfl ?_
  intro p e s m args below meth c s₁ B hml hv
  obtain ⟨rfl, hE, hW0, hI0, hA⟩ := hv
  have hx := B.exec
  have hb := B.bytes
  have hr := B.returns
  have hts := atoms_spec (ws := wsX6_valueAt) B.pre
  have hown : s.vm.findClass RX6 = some m.cls := findClass_of_methodNamed B.named
  have hlocks := B.notSynchronized
  have hiRX6 : ∀ w ∈ wsX60, w ∈ wsX6_valueAt := by decide +kernel
  have hW : kS D A s.heap ad w s.heap [] := ⟨hW0, hI0, va_S.rf, hA⟩
  have hl := lv_entry ([.ref (ad 2000), .int mm, .int r, .int t]) (n := 7) (Nat.le_of_ble_eq_true rfl)
  rw [lg_entry_eq]
  generalize (lg_sl ([.ref (ad 2000), .int mm, .int r, .int t]) ++ List.replicate (7 - (lg_sl ([.ref (ad 2000), .int mm, .int r, .int t])).length) Slot.unset).toArray = ls at hl ⊢
  have hl : lv_has ls 7 [(0, .ref (ad 2000)), (1, .int mm), (2, .int r), (3, .int t)] := hl
  have hnv : nv (S 13 0) = nC := by rw [hC]; exact nI_clamp (by omega)
  have loop : ∀ (n : Nat) (v z : Int32) (w1 : kWd) (H : Heap) (locs : List Loc), n ≤ nC → (z = 0 ∨ z = 1) → vaL S mm r t n v z = vaV S mm r t → MW D (sS S 16 z) ad w w1 → kS D A s.heap ad w1 H locs → ∀ ls, lv_has ls 7 [(6, .int (nI n - 1)), (5, .int 1), (4, .int v), (0, .ref (ad 2000)), (1, .int mm), (2, .int r), (3, .int t)] → W p l e ({ frames := 0, cells := 0, slots := 0, locals := 0 }) s m ([.ref (ad 2000), .int mm, .int r, .int t] : List Value).toArray below meth c H locs 0 0 (MQ below (kQi D A (fun v ad' w' => v = (vaV S mm r t).1 ∧ ad' = ad ∧ MW D (sS S 16 (vaV S mm r t).2) ad w w')) ([.ref (ad 2000), .int mm, .int r, .int t] : List Value).toArray s 0 0 A) (F0 m 24 ls []) := by
    intro n
    induction n with
    | zero =>
      intro v z w1 H locs hn9 hz he hM hW ls hl
      refine lv_iload hx hb dX6_valueAt_24 (lv_at hl 0 rfl) ?_
      refine lv_if_lt (tgt := 160) hx hb dX6_valueAt_26 (by decide) (fun _ => ?_) (fun c9 => absurd (nI_m1) c9)
      refine lv_iload hx hb dX6_valueAt_160 (lv_at hl 2 rfl) ?_
      exact ke_i hx hb hr hlocks (Nat.le_of_ble_eq_true rfl) (Nat.le_of_ble_eq_true rfl) dX6_valueAt_162 hW (⟨by rw [← he]; rfl, rfl, by rw [← he]; exact hM⟩)
    | succ n ih =>
      intro v z w1 H locs hn9 hz he hM hW ls hl
      rw [nI_dn] at hl
      refine lv_iload hx hb dX6_valueAt_24 (lv_at hl 0 rfl) ?_
      refine lv_if_lt (tgt := 160) hx hb dX6_valueAt_26 (by decide) (fun c9 => absurd c9 (nI_pos (by omega))) (fun _ => ?_)
      refine lv_iload hx hb dX6_valueAt_29 (lv_at hl 1 rfl) ?_
      refine lv_if_eq (tgt := 160) hx hb dX6_valueAt_31 (by decide) (fun c9 => absurd c9 (by decide)) (fun _ => ?_)
      refine lv_aload_n hx hb dX6_valueAt_34 rfl (lv_at hl 3 rfl) ?_
      refine kk_get hx hb hts hown hE hW (show w1 2000 = some (.inr (7, [.ref (ad 2001), .int (S 10 0), .int (S 11 0), .int (S 12 0), .ref (ad 2002), .ref (ad 2003), .ref (ad 2004), .int (S 13 0), .ref (ad 2005), .ref (ad 2006), .ref (ad 2007), .ref (ad 2008), .int (S 14 0), .ref (ad 2009), .ref (ad 2010), .int (S 15 0), .int (z), .int (S 17 0)])) from hM.o) rfl hiRX6 9 (by decide) (hts (.fieldLink RX6 29 "UndoCellarModel" "row" "[I") (by decide +kernel)) (fun _ h9 => h9) rfl dX6_valueAt_35 ?_
      refine lv_iload hx hb dX6_valueAt_38 (lv_at hl 0 rfl) ?_
      refine kk_iald hx hb hE hW (show w1 2006 = some (.inl (D.1 100, 2000, .inl (S 5))) from hM.a5) (vp_in_nI (by omega) (by omega)) dX6_valueAt_40 ?_
      rw [nI_clamp (show n < 2 ^ 31 by omega)]
      refine lv_iload_n hx hb dX6_valueAt_41 rfl (lv_at hl 5 rfl) ?_
      refine lv_icmp_ne (tgt := 154) hx hb dX6_valueAt_42 (by decide) (fun c1 => ?_) (fun c1 => ?_)
      · refine lv_iinc (v := nI n - 1) (lv' := [(6, .int (nI n - 1)), (5, .int 1), (4, .int v), (0, .ref (ad 2000)), (1, .int mm), (2, .int r), (3, .int t)]) hx hb dX6_valueAt_154 hl (k := 0) rfl (i_sub1 _) (by decide) rfl (fun ls hl => ?_)
        refine lv_goto (tgt := 24) hx hb dX6_valueAt_157 (by decide) ?_
        exact ih v z w1 _ _ (by omega) hz (by rw [← he]; exact (if_neg (fun q => c1 q.1)).symm) hM hW ls hl
      · refine lv_aload_n hx hb dX6_valueAt_45 rfl (lv_at hl 3 rfl) ?_
        refine kk_get hx hb hts hown hE hW (show w1 2000 = some (.inr (7, [.ref (ad 2001), .int (S 10 0), .int (S 11 0), .int (S 12 0), .ref (ad 2002), .ref (ad 2003), .ref (ad 2004), .int (S 13 0), .ref (ad 2005), .ref (ad 2006), .ref (ad 2007), .ref (ad 2008), .int (S 14 0), .ref (ad 2009), .ref (ad 2010), .int (S 15 0), .int (z), .int (S 17 0)])) from hM.o) rfl hiRX6 11 (by decide) (hts (.fieldLink RX6 35 "UndoCellarModel" "isVoid" "[Z") (by decide +kernel)) (fun _ h9 => h9) rfl dX6_valueAt_46 ?_
        refine lv_iload hx hb dX6_valueAt_49 (lv_at hl 0 rfl) ?_
        refine kk_zald hx hb hE hW (show w1 2008 = some (.inl (D.1 101, 2000, .inl (S 7))) from hM.a7) (vp_in_nI (by omega) (by omega)) dX6_valueAt_51 ?_
        rw [nI_clamp (show n < 2 ^ 31 by omega)]
        refine lv_if_ne (tgt := 154) hx hb dX6_valueAt_52 (by decide) (fun c2 => ?_) (fun c2 => ?_)
        · refine lv_iinc (v := nI n - 1) (lv' := [(6, .int (nI n - 1)), (5, .int 1), (4, .int v), (0, .ref (ad 2000)), (1, .int mm), (2, .int r), (3, .int t)]) hx hb dX6_valueAt_154 hl (k := 0) rfl (i_sub1 _) (by decide) rfl (fun ls hl => ?_)
          refine lv_goto (tgt := 24) hx hb dX6_valueAt_157 (by decide) ?_
          exact ih v z w1 _ _ (by omega) hz (by rw [← he]; exact (if_neg (fun q => c2 q.2)).symm) hM hW ls hl
        · refine W_join (P := fun g => (g = 0 ∧ seenP S mm t n) ∨ (g = 1 ∧ ¬ seenP S mm t n)) (pj := 103) (rj := []) (lj := ls) (fun g hg => ?_) (fun J103 => ?_)
          · rcases hg with ⟨rfl, hs⟩ | ⟨rfl, hs⟩
            · refine lv_istore (lv' := [(5, .int 0), (6, .int (nI n)), (4, .int v), (0, .ref (ad 2000)), (1, .int mm), (2, .int r), (3, .int t)]) hx hb dX6_valueAt_103 hl (by decide) rfl (fun ls hl => ?_)
              refine lv_iload hx hb dX6_valueAt_105 (lv_at hl 0 rfl) ?_
              refine lv_if_eq (tgt := 120) hx hb dX6_valueAt_107 (by decide) (fun _ => ?_) (fun c9 => absurd (rfl) c9)
              refine lv_iload hx hb dX6_valueAt_120 (lv_at hl 2 rfl) ?_
              refine lv_istore (lv' := [(4, .int v), (5, .int 0), (6, .int (nI n)), (0, .ref (ad 2000)), (1, .int mm), (2, .int r), (3, .int t)]) hx hb dX6_valueAt_122 hl (by decide) rfl (fun ls hl => ?_)
              refine lv_aload_n hx hb dX6_valueAt_124 rfl (lv_at hl 3 rfl) ?_
              refine lv_aload_n hx hb dX6_valueAt_125 rfl (lv_at hl 3 rfl) ?_
              refine kk_get hx hb hts hown hE hW (show w1 2000 = some (.inr (7, [.ref (ad 2001), .int (S 10 0), .int (S 11 0), .int (S 12 0), .ref (ad 2002), .ref (ad 2003), .ref (ad 2004), .int (S 13 0), .ref (ad 2005), .ref (ad 2006), .ref (ad 2007), .ref (ad 2008), .int (S 14 0), .ref (ad 2009), .ref (ad 2010), .int (S 15 0), .int (z), .int (S 17 0)])) from hM.o) rfl hiRX6 16 (by decide) (hts (.fieldLink RX6 98 "UndoCellarModel" "isLate" "Z") (by decide +kernel)) (fun _ h9 => h9) rfl dX6_valueAt_126 ?_
              refine W_join (P := fun x => x = z) (pj := 151) (rj := [.ref (ad 2000)]) (lj := ls) (fun x9 hz9 => ?_) (fun J151 => ?_)
              · rw [hz9]
                refine kk_put hx hb hts hown hE hW (show w1 2000 = some (.inr (7, [.ref (ad 2001), .int (S 10 0), .int (S 11 0), .int (S 12 0), .ref (ad 2002), .ref (ad 2003), .ref (ad 2004), .int (S 13 0), .ref (ad 2005), .ref (ad 2006), .ref (ad 2007), .ref (ad 2008), .int (S 14 0), .ref (ad 2009), .ref (ad 2010), .int (S 15 0), .int (z), .int (S 17 0)])) from hM.o) rfl hiRX6 tyX6 tyX6_ok nmX6 16 (by decide) (hts (.fieldLink RX6 98 "UndoCellarModel" "isLate" "Z") (by decide +kernel)) (fun _ h9 => h9) rfl (ty := tyX6 16) (tyX6_ok 16 (by decide)) (by rcases hz with rfl | rfl <;> rfl) (by rcases hz with rfl | rfl <;> rfl) (Nat.le_of_ble_eq_true rfl) dX6_valueAt_151 (fun H5 locs w3 e4 hW => ?_)
                have hM := hM.s16 e4
                rw [sS_sS] at hM
                refine lv_iinc (v := nI n - 1) (lv' := [(6, .int (nI n - 1)), (4, .int v), (5, .int 0), (0, .ref (ad 2000)), (1, .int mm), (2, .int r), (3, .int t)]) hx hb dX6_valueAt_154 hl (k := 2) rfl (i_sub1 _) (by decide) rfl (fun ls hl => ?_)
                refine lv_goto (tgt := 24) hx hb dX6_valueAt_157 (by decide) ?_
                refine lv_iload hx hb dX6_valueAt_24 (lv_at hl 0 rfl) ?_
                refine lv_if_lt (tgt := 160) hx hb dX6_valueAt_26 (by decide) (fun c6 => ?_) (fun c6 => ?_)
                · refine lv_iload hx hb dX6_valueAt_160 (lv_at hl 1 rfl) ?_
                  exact ke_i hx hb hr hlocks (Nat.le_of_ble_eq_true rfl) (Nat.le_of_ble_eq_true rfl) dX6_valueAt_162 hW (⟨by rw [← he, show vaL S mm r t (n + 1) v z = (v, z) from (if_pos ⟨c1, c2⟩).trans (if_pos hs)], rfl, by rw [← he, show vaL S mm r t (n + 1) v z = (v, z) from (if_pos ⟨c1, c2⟩).trans (if_pos hs)]; exact hM⟩)
                · refine lv_iload hx hb dX6_valueAt_29 (lv_at hl 2 rfl) ?_
                  refine lv_if_eq (tgt := 160) hx hb dX6_valueAt_31 (by decide) (fun _ => ?_) (fun c9 => absurd (rfl) c9)
                  refine lv_iload hx hb dX6_valueAt_160 (lv_at hl 1 rfl) ?_
                  exact ke_i hx hb hr hlocks (Nat.le_of_ble_eq_true rfl) (Nat.le_of_ble_eq_true rfl) dX6_valueAt_162 hW (⟨by rw [← he, show vaL S mm r t (n + 1) v z = (v, z) from (if_pos ⟨c1, c2⟩).trans (if_pos hs)], rfl, by rw [← he, show vaL S mm r t (n + 1) v z = (v, z) from (if_pos ⟨c1, c2⟩).trans (if_pos hs)]; exact hM⟩)
              · refine lv_if_ne (tgt := 146) hx hb dX6_valueAt_129 (by decide) (fun c7 => ?_) (fun c7 => ?_)
                · refine lv_iconst (v := 1) hx hb dX6_valueAt_146 (by decide) ?_
                  refine lv_goto (tgt := 151) hx hb dX6_valueAt_147 (by decide) ?_
                  exact J151 _ ((hz.resolve_left c7).symm)
                · refine lv_iload hx hb dX6_valueAt_132 (lv_at hl 1 rfl) ?_
                  refine lv_if_eq (tgt := 150) hx hb dX6_valueAt_134 (by decide) (fun _ => ?_) (fun c9 => absurd (rfl) c9)
                  refine lv_iconst (v := 0) hx hb dX6_valueAt_150 (by decide) ?_
                  exact J151 _ (c7.symm)
            · refine lv_istore (lv' := [(5, .int 1), (6, .int (nI n)), (4, .int v), (0, .ref (ad 2000)), (1, .int mm), (2, .int r), (3, .int t)]) hx hb dX6_valueAt_103 hl (by decide) rfl (fun ls hl => ?_)
              refine lv_iload hx hb dX6_valueAt_105 (lv_at hl 0 rfl) ?_
              refine lv_if_eq (tgt := 120) hx hb dX6_valueAt_107 (by decide) (fun c9 => absurd c9 (by decide)) (fun _ => ?_)
              refine lv_aload_n hx hb dX6_valueAt_110 rfl (lv_at hl 3 rfl) ?_
              refine kk_get hx hb hts hown hE hW (show w1 2000 = some (.inr (7, [.ref (ad 2001), .int (S 10 0), .int (S 11 0), .int (S 12 0), .ref (ad 2002), .ref (ad 2003), .ref (ad 2004), .int (S 13 0), .ref (ad 2005), .ref (ad 2006), .ref (ad 2007), .ref (ad 2008), .int (S 14 0), .ref (ad 2009), .ref (ad 2010), .int (S 15 0), .int (z), .int (S 17 0)])) from hM.o) rfl hiRX6 10 (by decide) (hts (.fieldLink RX6 32 "UndoCellarModel" "ahead" "[I") (by decide +kernel)) (fun _ h9 => h9) rfl dX6_valueAt_111 ?_
              refine lv_iload hx hb dX6_valueAt_114 (lv_at hl 1 rfl) ?_
              refine kk_iald hx hb hE hW (show w1 2007 = some (.inl (D.1 100, 2000, .inl (S 6))) from hM.a6) (vp_in_nI (by omega) (by omega)) dX6_valueAt_116 ?_
              rw [nI_clamp (show n < 2 ^ 31 by omega)]
              refine lv_goto (tgt := 122) hx hb dX6_valueAt_117 (by decide) ?_
              refine lv_istore (lv' := [(4, .int (S 6 n)), (5, .int 1), (6, .int (nI n)), (0, .ref (ad 2000)), (1, .int mm), (2, .int r), (3, .int t)]) hx hb dX6_valueAt_122 hl (by decide) rfl (fun ls hl => ?_)
              refine lv_aload_n hx hb dX6_valueAt_124 rfl (lv_at hl 3 rfl) ?_
              refine lv_aload_n hx hb dX6_valueAt_125 rfl (lv_at hl 3 rfl) ?_
              refine kk_get hx hb hts hown hE hW (show w1 2000 = some (.inr (7, [.ref (ad 2001), .int (S 10 0), .int (S 11 0), .int (S 12 0), .ref (ad 2002), .ref (ad 2003), .ref (ad 2004), .int (S 13 0), .ref (ad 2005), .ref (ad 2006), .ref (ad 2007), .ref (ad 2008), .int (S 14 0), .ref (ad 2009), .ref (ad 2010), .int (S 15 0), .int (z), .int (S 17 0)])) from hM.o) rfl hiRX6 16 (by decide) (hts (.fieldLink RX6 98 "UndoCellarModel" "isLate" "Z") (by decide +kernel)) (fun _ h9 => h9) rfl dX6_valueAt_126 ?_
              refine W_join (P := fun x => x = (if z = 0 then bI (nI n < S 14 0) else 1)) (pj := 151) (rj := [.ref (ad 2000)]) (lj := ls) (fun x9 hz9 => ?_) (fun J151 => ?_)
              · subst hz9
                have hz : (if z = 0 then bI (nI n < S 14 0) else 1) = 0 ∨ (if z = 0 then bI (nI n < S 14 0) else 1) = 1 := by
                  by_cases q : z = 0
                  · rw [if_pos q]; exact bI_01
                  · rw [if_neg q]; exact Or.inr rfl
                refine kk_put hx hb hts hown hE hW (show w1 2000 = some (.inr (7, [.ref (ad 2001), .int (S 10 0), .int (S 11 0), .int (S 12 0), .ref (ad 2002), .ref (ad 2003), .ref (ad 2004), .int (S 13 0), .ref (ad 2005), .ref (ad 2006), .ref (ad 2007), .ref (ad 2008), .int (S 14 0), .ref (ad 2009), .ref (ad 2010), .int (S 15 0), .int (z), .int (S 17 0)])) from hM.o) rfl hiRX6 tyX6 tyX6_ok nmX6 16 (by decide) (hts (.fieldLink RX6 98 "UndoCellarModel" "isLate" "Z") (by decide +kernel)) (fun _ h9 => h9) rfl (ty := tyX6 16) (tyX6_ok 16 (by decide)) (by rcases hz with h | h <;> rw [h] <;> rfl) (by rcases hz with h | h <;> rw [h] <;> rfl) (Nat.le_of_ble_eq_true rfl) dX6_valueAt_151 (fun H10 locs w8 e9 hW => ?_)
                have hM := hM.s16 e9
                rw [sS_sS] at hM
                refine lv_iinc (v := nI n - 1) (lv' := [(6, .int (nI n - 1)), (4, .int (S 6 n)), (5, .int 1), (0, .ref (ad 2000)), (1, .int mm), (2, .int r), (3, .int t)]) hx hb dX6_valueAt_154 hl (k := 2) rfl (i_sub1 _) (by decide) rfl (fun ls hl => ?_)
                refine lv_goto (tgt := 24) hx hb dX6_valueAt_157 (by decide) ?_
                exact ih _ _ _ _ _ (by omega) hz (by rw [← he]; exact ((if_pos ⟨c1, c2⟩).trans (if_neg hs)).symm) hM hW ls (lv_sub hl [0, 2, 1, 3, 4, 5, 6] rfl)
              · refine lv_if_ne (tgt := 146) hx hb dX6_valueAt_129 (by decide) (fun c11 => ?_) (fun c11 => ?_)
                · refine lv_iconst (v := 1) hx hb dX6_valueAt_146 (by decide) ?_
                  refine lv_goto (tgt := 151) hx hb dX6_valueAt_147 (by decide) ?_
                  exact J151 _ ((if_neg c11).symm)
                · refine lv_iload hx hb dX6_valueAt_132 (lv_at hl 1 rfl) ?_
                  refine lv_if_eq (tgt := 150) hx hb dX6_valueAt_134 (by decide) (fun c9 => absurd c9 (by decide)) (fun _ => ?_)
                  refine lv_iload hx hb dX6_valueAt_137 (lv_at hl 2 rfl) ?_
                  refine lv_aload_n hx hb dX6_valueAt_139 rfl (lv_at hl 3 rfl) ?_
                  refine kk_get hx hb hts hown hE hW (show w1 2000 = some (.inr (7, [.ref (ad 2001), .int (S 10 0), .int (S 11 0), .int (S 12 0), .ref (ad 2002), .ref (ad 2003), .ref (ad 2004), .int (S 13 0), .ref (ad 2005), .ref (ad 2006), .ref (ad 2007), .ref (ad 2008), .int (S 14 0), .ref (ad 2009), .ref (ad 2010), .int (S 15 0), .int (z), .int (S 17 0)])) from hM.o) rfl hiRX6 12 (by decide) (hts (.fieldLink RX6 58 "UndoCellarModel" "dropped" "I") (by decide +kernel)) (fun _ h9 => h9) rfl dX6_valueAt_140 ?_
                  refine lv_icmp_ge (tgt := 150) hx hb dX6_valueAt_143 (by decide) (fun c12 => ?_) (fun c12 => ?_)
                  · refine lv_iconst (v := 0) hx hb dX6_valueAt_150 (by decide) ?_
                    exact J151 _ (by rw [if_pos c11]; exact (bI_0 (Int32.not_lt.mpr c12)).symm)
                  · refine lv_iconst (v := 1) hx hb dX6_valueAt_146 (by decide) ?_
                    refine lv_goto (tgt := 151) hx hb dX6_valueAt_147 (by decide) ?_
                    exact J151 _ (by rw [if_pos c11]; exact (bI_1 (Int32.not_le.mp c12)).symm)
          · refine lv_aload_n hx hb dX6_valueAt_55 rfl (lv_at hl 3 rfl) ?_
            refine kk_get hx hb hts hown hE hW (show w1 2000 = some (.inr (7, [.ref (ad 2001), .int (S 10 0), .int (S 11 0), .int (S 12 0), .ref (ad 2002), .ref (ad 2003), .ref (ad 2004), .int (S 13 0), .ref (ad 2005), .ref (ad 2006), .ref (ad 2007), .ref (ad 2008), .int (S 14 0), .ref (ad 2009), .ref (ad 2010), .int (S 15 0), .int (z), .int (S 17 0)])) from hM.o) rfl hiRX6 8 (by decide) (hts (.fieldLink RX6 26 "UndoCellarModel" "by" "[I") (by decide +kernel)) (fun _ h9 => h9) rfl dX6_valueAt_56 ?_
            refine lv_iload hx hb dX6_valueAt_59 (lv_at hl 0 rfl) ?_
            refine kk_iald hx hb hE hW (show w1 2005 = some (.inl (D.1 100, 2000, .inl (S 4))) from hM.a4) (vp_in_nI (by omega) (by omega)) dX6_valueAt_61 ?_
            rw [nI_clamp (show n < 2 ^ 31 by omega)]
            refine lv_iload_n hx hb dX6_valueAt_62 rfl (lv_at hl 6 rfl) ?_
            refine lv_icmp_eq (tgt := 102) hx hb dX6_valueAt_63 (by decide) (fun c13 => ?_) (fun c13 => ?_)
            · refine lv_iconst (v := 0) hx hb dX6_valueAt_102 (by decide) ?_
              exact J103 _ (Or.inl ⟨rfl, Or.inl c13⟩)
            · refine lv_aload_n hx hb dX6_valueAt_66 rfl (lv_at hl 3 rfl) ?_
              refine kk_get hx hb hts hown hE hW (show w1 2000 = some (.inr (7, [.ref (ad 2001), .int (S 10 0), .int (S 11 0), .int (S 12 0), .ref (ad 2002), .ref (ad 2003), .ref (ad 2004), .int (S 13 0), .ref (ad 2005), .ref (ad 2006), .ref (ad 2007), .ref (ad 2008), .int (S 14 0), .ref (ad 2009), .ref (ad 2010), .int (S 15 0), .int (z), .int (S 17 0)])) from hM.o) rfl hiRX6 4 (by decide) (hts (.fieldLink RX6 17 "UndoCellarModel" "state" "[I") (by decide +kernel)) (fun _ h9 => h9) rfl dX6_valueAt_67 ?_
              refine lv_aload_n hx hb dX6_valueAt_70 rfl (lv_at hl 3 rfl) ?_
              refine kk_get hx hb hts hown hE hW (show w1 2000 = some (.inr (7, [.ref (ad 2001), .int (S 10 0), .int (S 11 0), .int (S 12 0), .ref (ad 2002), .ref (ad 2003), .ref (ad 2004), .int (S 13 0), .ref (ad 2005), .ref (ad 2006), .ref (ad 2007), .ref (ad 2008), .int (S 14 0), .ref (ad 2009), .ref (ad 2010), .int (S 15 0), .int (z), .int (S 17 0)])) from hM.o) rfl hiRX6 8 (by decide) (hts (.fieldLink RX6 26 "UndoCellarModel" "by" "[I") (by decide +kernel)) (fun _ h9 => h9) rfl dX6_valueAt_71 ?_
              refine lv_iload hx hb dX6_valueAt_74 (lv_at hl 0 rfl) ?_
              refine kk_iald hx hb hE hW (show w1 2005 = some (.inl (D.1 100, 2000, .inl (S 4))) from hM.a4) (vp_in_nI (by omega) (by omega)) dX6_valueAt_76 ?_
              rw [nI_clamp (show n < 2 ^ 31 by omega)]
              refine kk_iald hx hb hE hW (show w1 2002 = some (.inl (D.1 100, 60, .inl (S 1))) from hM.a1) (hby n (by omega)) dX6_valueAt_77 ?_
              refine lv_iconst (v := 1) hx hb dX6_valueAt_78 (by decide) ?_
              refine lv_icmp_ne (tgt := 98) hx hb dX6_valueAt_79 (by decide) (fun c14 => ?_) (fun c14 => ?_)
              · refine lv_iconst (v := 1) hx hb dX6_valueAt_98 (by decide) ?_
                refine lv_goto (tgt := 103) hx hb dX6_valueAt_99 (by decide) ?_
                exact J103 _ (Or.inr ⟨rfl, fun h => h.elim c13 (fun h => c14 h.1)⟩)
              · refine lv_aload_n hx hb dX6_valueAt_82 rfl (lv_at hl 3 rfl) ?_
                refine kk_get hx hb hts hown hE hW (show w1 2000 = some (.inr (7, [.ref (ad 2001), .int (S 10 0), .int (S 11 0), .int (S 12 0), .ref (ad 2002), .ref (ad 2003), .ref (ad 2004), .int (S 13 0), .ref (ad 2005), .ref (ad 2006), .ref (ad 2007), .ref (ad 2008), .int (S 14 0), .ref (ad 2009), .ref (ad 2010), .int (S 15 0), .int (z), .int (S 17 0)])) from hM.o) rfl hiRX6 6 (by decide) (hts (.fieldLink RX6 23 "UndoCellarModel" "committedAt" "[I") (by decide +kernel)) (fun _ h9 => h9) rfl dX6_valueAt_83 ?_
                refine lv_aload_n hx hb dX6_valueAt_86 rfl (lv_at hl 3 rfl) ?_
                refine kk_get hx hb hts hown hE hW (show w1 2000 = some (.inr (7, [.ref (ad 2001), .int (S 10 0), .int (S 11 0), .int (S 12 0), .ref (ad 2002), .ref (ad 2003), .ref (ad 2004), .int (S 13 0), .ref (ad 2005), .ref (ad 2006), .ref (ad 2007), .ref (ad 2008), .int (S 14 0), .ref (ad 2009), .ref (ad 2010), .int (S 15 0), .int (z), .int (S 17 0)])) from hM.o) rfl hiRX6 8 (by decide) (hts (.fieldLink RX6 26 "UndoCellarModel" "by" "[I") (by decide +kernel)) (fun _ h9 => h9) rfl dX6_valueAt_87 ?_
                refine lv_iload hx hb dX6_valueAt_90 (lv_at hl 0 rfl) ?_
                refine kk_iald hx hb hE hW (show w1 2005 = some (.inl (D.1 100, 2000, .inl (S 4))) from hM.a4) (vp_in_nI (by omega) (by omega)) dX6_valueAt_92 ?_
                rw [nI_clamp (show n < 2 ^ 31 by omega)]
                refine kk_iald hx hb hE hW (show w1 2004 = some (.inl (D.1 100, 60, .inl (S 3))) from hM.a3) (hby n (by omega)) dX6_valueAt_93 ?_
                refine lv_iload_n hx hb dX6_valueAt_94 rfl (lv_at hl 4 rfl) ?_
                refine lv_icmp_le (tgt := 102) hx hb dX6_valueAt_95 (by decide) (fun c15 => ?_) (fun c15 => ?_)
                · refine lv_iconst (v := 0) hx hb dX6_valueAt_102 (by decide) ?_
                  exact J103 _ (Or.inl ⟨rfl, Or.inr ⟨c14, c15⟩⟩)
                · refine lv_iconst (v := 1) hx hb dX6_valueAt_98 (by decide) ?_
                  refine lv_goto (tgt := 103) hx hb dX6_valueAt_99 (by decide) ?_
                  exact J103 _ (Or.inr ⟨rfl, fun h => h.elim c13 (fun h => c15 h.2)⟩)
  refine lv_aload_n hx hb dX6_valueAt_0 rfl (lv_at hl 0 rfl) ?_
  refine kk_get hx hb hts hown hE hW hM.o rfl hiRX6 0 (by decide) (hts (.fieldLink RX6 7 "UndoCellarModel" "value" "[I") (by decide +kernel)) (fun _ h9 => h9) rfl dX6_valueAt_1 ?_
  refine lv_iload_n hx hb dX6_valueAt_4 rfl (lv_at hl 2 rfl) ?_
  refine kk_iald hx hb hE hW hM.a0 hr12 dX6_valueAt_5 ?_
  refine lv_istore (lv' := [(4, .int (S 0 (nv r))), (0, .ref (ad 2000)), (1, .int mm), (2, .int r), (3, .int t)]) hx hb dX6_valueAt_6 hl (by decide) rfl (fun ls hl => ?_)
  refine lv_aload_n hx hb dX6_valueAt_8 rfl (lv_at hl 1 rfl) ?_
  refine lv_iconst (v := 0) hx hb dX6_valueAt_9 (by decide) ?_
  refine kk_put hx hb hts hown hE hW hM.o rfl hiRX6 tyX6 tyX6_ok nmX6 16 (by decide) (hts (.fieldLink RX6 98 "UndoCellarModel" "isLate" "Z") (by decide +kernel)) (fun _ h9 => h9) rfl (ty := tyX6 16) (tyX6_ok 16 (by decide)) rfl rfl (Nat.le_of_ble_eq_true rfl) dX6_valueAt_10 (fun H18 locs w16 e17 hW => ?_)
  have hM := hM.s16 e17
  refine lv_iconst (v := 1) hx hb dX6_valueAt_13 (by decide) ?_
  refine lv_istore (lv' := [(5, .int 1), (4, .int (S 0 (nv r))), (0, .ref (ad 2000)), (1, .int mm), (2, .int r), (3, .int t)]) hx hb dX6_valueAt_14 hl (by decide) rfl (fun ls hl => ?_)
  refine lv_aload_n hx hb dX6_valueAt_16 rfl (lv_at hl 2 rfl) ?_
  refine kk_get hx hb hts hown hE hW (show w16 2000 = some (.inr (7, [.ref (ad 2001), .int (S 10 0), .int (S 11 0), .int (S 12 0), .ref (ad 2002), .ref (ad 2003), .ref (ad 2004), .int (S 13 0), .ref (ad 2005), .ref (ad 2006), .ref (ad 2007), .ref (ad 2008), .int (S 14 0), .ref (ad 2009), .ref (ad 2010), .int (S 15 0), .int (0), .int (S 17 0)])) from hM.o) rfl hiRX6 7 (by decide) (hts (.fieldLink RX6 55 "UndoCellarModel" "changes" "I") (by decide +kernel)) (fun _ h9 => h9) rfl dX6_valueAt_17 ?_
  refine lv_iconst (v := 1) hx hb dX6_valueAt_20 (by decide) ?_
  refine lv_isub hx hb dX6_valueAt_21 ?_
  refine lv_istore (lv' := [(6, .int ((S 13 0) - 1)), (5, .int 1), (4, .int (S 0 (nv r))), (0, .ref (ad 2000)), (1, .int mm), (2, .int r), (3, .int t)]) hx hb dX6_valueAt_22 hl (by decide) rfl (fun ls hl => ?_)
  exact loop nC (S 0 (nv r)) 0 _ _ _ (Nat.le_refl _) (Or.inl rfl) (by unfold vaV; rw [hnv]) hM hW ls (by rw [hC] at hl; exact hl)
end
section
/-! the reference: its calls -/
set_option maxHeartbeats 4000000 in
set_option maxRecDepth 100000 in
/-- c_isOpen -/
theorem c_isOpen (l : Launch) (D : va_G) (A : Nat → Prop) (ad : Nat → Nat) (w : kWd) (S : St) (hM : MW D S ad w w) (t : Int32) (nT : Nat) (hT : S 12 0 = nI nT) (hT6 : nT ≤ 60)  : Met l yX6_isOpen wsX6_isOpen ({ frames := 2, cells := 0, slots := 0, locals := 43 }) (kPc D A [.ref (ad 2000), .int t] ad w) (kQi D A (fun v ad' w' => v = bI (opK S t = 0) ∧ ad' = ad ∧ MW D (sS S 17 (opK S t)) ad w w')) 0 0 A := by
  refine Met.ofW (cc := cX6_isOpen) (maxL := 2) (ret := (some (.boolean))) (by decide) rfl ?_
  intro p e s m args below meth c s₁ B hml hv
  obtain ⟨rfl, hE, hW0, hI0, hA⟩ := hv
  have hx := B.exec
  have hb := B.bytes
  have hr := B.returns
  have hts := atoms_spec (ws := wsX6_isOpen) B.pre
  have hown : s.vm.findClass RX6 = some m.cls := findClass_of_methodNamed B.named
  have hlocks := B.notSynchronized
  have hW : kS D A s.heap ad w s.heap [] := ⟨hW0, hI0, va_S.rf, hA⟩
  have hl := lv_entry ([.ref (ad 2000), .int t]) (n := 2) (Nat.le_of_ble_eq_true rfl)
  rw [lg_entry_eq]
  generalize (lg_sl ([.ref (ad 2000), .int t]) ++ List.replicate (2 - (lg_sl ([.ref (ad 2000), .int t])).length) Slot.unset).toArray = ls at hl ⊢
  have hl : lv_has ls 2 [(0, .ref (ad 2000)), (1, .int t)] := hl
  refine lv_aload_n hx hb dX6_isOpen_0 rfl (lv_at hl 0 rfl) ?_
  refine lv_aload_n hx hb dX6_isOpen_1 rfl (lv_at hl 0 rfl) ?_
  refine lv_iload_n hx hb dX6_isOpen_2 rfl (lv_at hl 1 rfl) ?_
  refine W_joinH (D := D) (A := A) (w := w) (ad := ad) (P := fun v => v = opK S t) (pj := 26) (rj := [.ref (ad 2000)]) (lj := ls) (fun v H1 locs hv hW => ?_) (fun J26 => ?_)
  · subst hv
    refine kk_i (va_runV (As := [.int (opK S t)]) (rest := []) ⟨hx, hb, hml, hown, hts⟩ (c_can l D A ad w (S) hM.re (opK S t)) (cwV 1 hts gX6_isOpen_X6_can rfl rfl rfl (by decide +kernel) ⟨Nat.le_of_ble_eq_true rfl, Nat.le_of_ble_eq_true rfl⟩) (kV hE hW hM.o rfl _) rfl rfl hl.1 rfl (lv_room (Nat.le_of_ble_eq_true rfl)) dX6_isOpen_26 ⟨Nat.le_of_ble_eq_true rfl, Nat.le_of_ble_eq_true rfl⟩) hW (fun r5 ad2 w3 H6 locs hp4 hW => ?_)
    obtain ⟨e7, e8, e9⟩ := hp4
    rw [e8] at hW
    have hM := hM.tr e9
    subst e7
    exact ke_z hx hb hr hlocks (Nat.le_of_ble_eq_true rfl) (Nat.le_of_ble_eq_true rfl) dX6_isOpen_29 (bI_01) hW (⟨rfl, rfl, hM⟩)
  · refine kk_i (va_runV (As := [.int t]) (rest := [.ref (ad 2000)]) ⟨hx, hb, hml, hown, hts⟩ (c_isTransaction l D A ad w (S) hM.re t) (cwV 1 hts gX6_isOpen_X6_isTransaction rfl rfl rfl (by decide +kernel) ⟨Nat.le_of_ble_eq_true rfl, Nat.le_of_ble_eq_true rfl⟩) (kV hE hW hM.o rfl _) rfl rfl hl.1 rfl (lv_room (Nat.le_of_ble_eq_true rfl)) dX6_isOpen_3 ⟨Nat.le_of_ble_eq_true rfl, Nat.le_of_ble_eq_true rfl⟩) hW (fun r13 ad10 w11 H14 locs hp12 hW => ?_)
    obtain ⟨e15, e16, e17⟩ := hp12
    rw [e16, e17] at hW
    subst e15
    refine lv_if_ne (tgt := 13) hx hb dX6_isOpen_6 (by decide) (fun c18 => ?_) (fun c18 => ?_)
    · have hv6 : vp_in t 60 := by
        obtain ⟨j, h1, rfl⟩ := inP_T hT6 (by rw [← hT]; exact bI_t c18)
        exact vp_in_nI (by omega) (by omega)
      refine lv_aload_n hx hb dX6_isOpen_13 rfl (lv_at hl 0 rfl) ?_
      refine lv_iload_n hx hb dX6_isOpen_14 rfl (lv_at hl 1 rfl) ?_
      refine kk_i (va_runV (As := [.int t]) (rest := [.ref (ad 2000)]) ⟨hx, hb, hml, hown, hts⟩ (c_isActive l D A ad w (S) hM.re t hv6) (cwV 1 hts gX6_isOpen_X6_isActive rfl rfl rfl (by decide +kernel) ⟨Nat.le_of_ble_eq_true rfl, Nat.le_of_ble_eq_true rfl⟩) (kV hE hW hM.o rfl _) rfl rfl hl.1 rfl (lv_room (Nat.le_of_ble_eq_true rfl)) dX6_isOpen_15 ⟨Nat.le_of_ble_eq_true rfl, Nat.le_of_ble_eq_true rfl⟩) hW (fun r22 ad19 w20 H23 locs hp21 hW => ?_)
      obtain ⟨e24, e25, e26⟩ := hp21
      rw [e25, e26] at hW
      subst e24
      refine lv_if_eq (tgt := 25) hx hb dX6_isOpen_18 (by decide) (fun c27 => ?_) (fun c27 => ?_)
      · refine lv_iconst (v := 2) hx hb dX6_isOpen_25 (by decide) ?_
        exact J26 _ _ _ (((if_pos (bI_t c18)).trans (if_neg (bI_f c27))).symm) hW
      · refine lv_iconst (v := 0) hx hb dX6_isOpen_21 (by decide) ?_
        refine lv_goto (tgt := 26) hx hb dX6_isOpen_22 (by decide) ?_
        exact J26 _ _ _ (((if_pos (bI_t c18)).trans (if_pos (bI_t c27))).symm) hW
    · refine lv_iconst (v := 1) hx hb dX6_isOpen_9 (by decide) ?_
      refine lv_goto (tgt := 26) hx hb dX6_isOpen_10 (by decide) ?_
      exact J26 _ _ _ ((if_neg (bI_f c18)).symm) hW

set_option maxHeartbeats 4000000 in
set_option maxRecDepth 100000 in
/-- c_setSpace -/
theorem c_setSpace (l : Launch) (D : va_G) (A : Nat → Prop) (ad : Nat → Nat) (w : kWd) (S : St) (hM : MW D S ad w w) (z : Int32) : Met l yX6_setSpace wsX6_setSpace ({ frames := 1, cells := 0, slots := 0, locals := 22 }) (kPc D A [.ref (ad 2000), .int z] ad w) (kQi D A (fun v ad' w' => v = ssR S z ∧ ad' = ad ∧ MW D (ssN S z) ad w w')) 0 0 A := by
  refine Met.ofW (cc := cX6_setSpace) (maxL := 3) (ret := (some (.int))) (by decide) rfl ?_
  intro p e s m args below meth c s₁ B hml hv
  obtain ⟨rfl, hE, hW0, hI0, hA⟩ := hv
  have hx := B.exec
  have hb := B.bytes
  have hr := B.returns
  have hts := atoms_spec (ws := wsX6_setSpace) B.pre
  have hown : s.vm.findClass RX6 = some m.cls := findClass_of_methodNamed B.named
  have hlocks := B.notSynchronized
  have hiRX6 : ∀ w ∈ wsX60, w ∈ wsX6_setSpace := by decide +kernel
  have hW : kS D A s.heap ad w s.heap [] := ⟨hW0, hI0, va_S.rf, hA⟩
  have hl := lv_entry ([.ref (ad 2000), .int z]) (n := 3) (Nat.le_of_ble_eq_true rfl)
  rw [lg_entry_eq]
  generalize (lg_sl ([.ref (ad 2000), .int z]) ++ List.replicate (3 - (lg_sl ([.ref (ad 2000), .int z])).length) Slot.unset).toArray = ls at hl ⊢
  have hl : lv_has ls 3 [(0, .ref (ad 2000)), (1, .int z)] := hl
  refine W_joinH (D := D) (A := A) (w := w) (ad := ad) (P := fun v => v = ssK S z) (pj := 33) (rj := [.ref (ad 2000)]) (lj := ls) (fun v H1 locs hv hW => ?_) (fun J33 => ?_)
  · subst hv
    refine kk_i (va_runV (As := [.int (ssK S z)]) (rest := []) ⟨hx, hb, hml, hown, hts⟩ (c_can l D A ad w (S) hM.re (ssK S z)) (cwV 1 hts gX6_setSpace_X6_can rfl rfl rfl (by decide +kernel) ⟨Nat.le_of_ble_eq_true rfl, Nat.le_of_ble_eq_true rfl⟩) (kV hE hW hM.o rfl _) rfl rfl hl.1 rfl (lv_room (Nat.le_of_ble_eq_true rfl)) dX6_setSpace_33 ⟨Nat.le_of_ble_eq_true rfl, Nat.le_of_ble_eq_true rfl⟩) hW (fun r5 ad2 w3 H6 locs hp4 hW => ?_)
    obtain ⟨e7, e8, e9⟩ := hp4
    rw [e8] at hW
    have hM := hM.tr e9
    subst e7
    refine lv_if_ne (tgt := 41) hx hb dX6_setSpace_36 (by decide) (fun c10 => ?_) (fun c10 => ?_)
    · refine lv_aload_n hx hb dX6_setSpace_41 rfl (lv_at hl 0 rfl) ?_
      refine kk_get hx hb hts hown hE hW hM.o rfl hiRX6 1 (by decide) (hts (.fieldLink RX6 13 "UndoCellarModel" "size" "I") (by decide +kernel)) (fun _ h9 => h9) rfl dX6_setSpace_42 ?_
      refine lv_istore_n (lv' := [(2, .int ((sS S 17 (ssK S z)) 10 0)), (0, .ref (ad 2000)), (1, .int z)]) hx hb dX6_setSpace_45 rfl hl (by decide) rfl (fun ls hl => ?_)
      refine lv_aload_n hx hb dX6_setSpace_46 rfl (lv_at hl 1 rfl) ?_
      refine lv_iload_n hx hb dX6_setSpace_47 rfl (lv_at hl 2 rfl) ?_
      refine kk_put hx hb hts hown hE hW hM.o rfl hiRX6 tyX6 tyX6_ok nmX6 1 (by decide) (hts (.fieldLink RX6 13 "UndoCellarModel" "size" "I") (by decide +kernel)) (fun _ h9 => h9) rfl (ty := tyX6 1) (tyX6_ok 1 (by decide)) rfl rfl (Nat.le_of_ble_eq_true rfl) dX6_setSpace_48 (fun H13 locs w11 e12 hW => ?_)
      have hM := hM.s10 e12
      refine lv_iload_n hx hb dX6_setSpace_51 rfl (lv_at hl 0 rfl) ?_
      exact ke_i hx hb hr hlocks (Nat.le_of_ble_eq_true rfl) (Nat.le_of_ble_eq_true rfl) dX6_setSpace_52 hW (⟨(if_pos (bI_t c10)).symm, rfl, by rw [show ssN S z = _ from if_pos (bI_t c10)]; exact hM⟩)
    · refine lv_iconst (v := 0) hx hb dX6_setSpace_39 (by decide) ?_
      exact ke_i hx hb hr hlocks (Nat.le_of_ble_eq_true rfl) (Nat.le_of_ble_eq_true rfl) dX6_setSpace_40 hW (⟨(if_neg (bI_f c10)).symm, rfl, by rw [show ssN S z = _ from if_neg (bI_f c10)]; exact hM⟩)
  · refine lv_aload_n hx hb dX6_setSpace_0 rfl (lv_at hl 0 rfl) ?_
    refine lv_iload_n hx hb dX6_setSpace_1 rfl (lv_at hl 1 rfl) ?_
    refine lv_iconst (v := 1) hx hb dX6_setSpace_2 (by decide) ?_
    refine lv_bipush (v := 30) hx hb dX6_setSpace_3 (by decide) ?_
    refine kk_i (va_runS (As := [.int z, .int 1, .int 30]) (rest := [.ref (ad 2000)]) ⟨hx, hb, hml, hown, hts⟩ (c_isIn l D A ad w z 1 30) (cwS 3 hts gX6_setSpace_X6_isIn rfl rfl rfl (by decide +kernel) ⟨Nat.le_of_ble_eq_true rfl, Nat.le_of_ble_eq_true rfl⟩) (kSt hE hW _) rfl rfl hl.1 rfl (lv_room (Nat.le_of_ble_eq_true rfl)) dX6_setSpace_5 ⟨Nat.le_of_ble_eq_true rfl, Nat.le_of_ble_eq_true rfl⟩) hW (fun r17 ad14 w15 H18 locs hp16 hW => ?_)
    obtain ⟨e19, e20, e21⟩ := hp16
    rw [e20, e21] at hW
    subst e19
    refine lv_if_ne (tgt := 15) hx hb dX6_setSpace_8 (by decide) (fun c22 => ?_) (fun c22 => ?_)
    · refine lv_aload_n hx hb dX6_setSpace_15 rfl (lv_at hl 0 rfl) ?_
      refine kk_get hx hb hts hown hE hW hM.o rfl hiRX6 7 (by decide) (hts (.fieldLink RX6 55 "UndoCellarModel" "changes" "I") (by decide +kernel)) (fun _ h9 => h9) rfl dX6_setSpace_16 ?_
      refine lv_aload_n hx hb dX6_setSpace_19 rfl (lv_at hl 0 rfl) ?_
      refine kk_get hx hb hts hown hE hW hM.o rfl hiRX6 12 (by decide) (hts (.fieldLink RX6 58 "UndoCellarModel" "dropped" "I") (by decide +kernel)) (fun _ h9 => h9) rfl dX6_setSpace_20 ?_
      refine lv_isub hx hb dX6_setSpace_23 ?_
      refine lv_iload_n hx hb dX6_setSpace_24 rfl (lv_at hl 1 rfl) ?_
      refine lv_icmp_le (tgt := 32) hx hb dX6_setSpace_25 (by decide) (fun c23 => ?_) (fun c23 => ?_)
      · refine lv_iconst (v := 0) hx hb dX6_setSpace_32 (by decide) ?_
        exact J33 _ _ _ (((if_pos (bI_t c22)).trans (if_pos c23)).symm) hW
      · refine lv_iconst (v := 2) hx hb dX6_setSpace_28 (by decide) ?_
        refine lv_goto (tgt := 33) hx hb dX6_setSpace_29 (by decide) ?_
        exact J33 _ _ _ (((if_pos (bI_t c22)).trans (if_neg c23)).symm) hW
    · refine lv_iconst (v := 1) hx hb dX6_setSpace_11 (by decide) ?_
      refine lv_goto (tgt := 33) hx hb dX6_setSpace_12 (by decide) ?_
      exact J33 _ _ _ ((if_neg (bI_f c22)).symm) hW

set_option maxHeartbeats 4000000 in
set_option maxRecDepth 100000 in
/-- c_begin -/
theorem c_begin (l : Launch) (D : va_G) (A : Nat → Prop) (ad : Nat → Nat) (w : kWd) (S : St) (hM : MW D S ad w w) (nT : Nat) (hT : S 12 0 = nI nT) (hT6 : nT ≤ 60)  : Met l yX6_begin wsX6_begin ({ frames := 1, cells := 0, slots := 0, locals := 21 }) (kPc D A [.ref (ad 2000)] ad w) (kQi D A (fun v ad' w' => v = bgR S ∧ ad' = ad ∧ MW D (bgN S) ad w w')) 0 0 A := by
  refine Met.ofW (cc := cX6_begin) (maxL := 1) (ret := (some (.int))) (by decide) rfl ?_
  intro p e s m args below meth c s₁ B hml hv
  obtain ⟨rfl, hE, hW0, hI0, hA⟩ := hv
  have hx := B.exec
  have hb := B.bytes
  have hr := B.returns
  have hts := atoms_spec (ws := wsX6_begin) B.pre
  have hown : s.vm.findClass RX6 = some m.cls := findClass_of_methodNamed B.named
  have hlocks := B.notSynchronized
  have hiRX6 : ∀ w ∈ wsX60, w ∈ wsX6_begin := by decide +kernel
  have hW : kS D A s.heap ad w s.heap [] := ⟨hW0, hI0, va_S.rf, hA⟩
  have hl := lv_entry ([.ref (ad 2000)]) (n := 1) (Nat.le_of_ble_eq_true rfl)
  rw [lg_entry_eq]
  generalize (lg_sl ([.ref (ad 2000)]) ++ List.replicate (1 - (lg_sl ([.ref (ad 2000)])).length) Slot.unset).toArray = ls at hl ⊢
  have hl : lv_has ls 1 [(0, .ref (ad 2000))] := hl
  refine W_join (P := fun v => v = bgK S) (pj := 15) (rj := [.ref (ad 2000)]) (lj := ls) (fun v hv => ?_) (fun J15 => ?_)
  · subst hv
    refine kk_i (va_runV (As := [.int (bgK S)]) (rest := []) ⟨hx, hb, hml, hown, hts⟩ (c_can l D A ad w (S) hM.re (bgK S)) (cwV 1 hts gX6_begin_X6_can rfl rfl rfl (by decide +kernel) ⟨Nat.le_of_ble_eq_true rfl, Nat.le_of_ble_eq_true rfl⟩) (kV hE hW hM.o rfl _) rfl rfl hl.1 rfl (lv_room (Nat.le_of_ble_eq_true rfl)) dX6_begin_15 ⟨Nat.le_of_ble_eq_true rfl, Nat.le_of_ble_eq_true rfl⟩) hW (fun r4 ad1 w2 H5 locs hp3 hW => ?_)
    obtain ⟨e6, e7, e8⟩ := hp3
    rw [e7] at hW
    have hM := hM.tr e8
    subst e6
    refine lv_if_ne (tgt := 23) hx hb dX6_begin_18 (by decide) (fun c9 => ?_) (fun c9 => ?_)
    · have h60 : ¬ S 12 0 = 60 := fun q => by
        have h9 := bI_t c9
        rw [show bgK S = 1 from if_pos q] at h9
        exact absurd h9 (by decide)
      have hv6 : vp_in (S 12 0) 60 := by
        rw [hT]
        refine vp_in_nI ?_ (by omega)
        rcases Nat.lt_or_ge nT 60 with h | h
        · exact h
        · exact absurd (by rw [hT, show nT = 60 by omega]; rfl) h60
      refine lv_aload_n hx hb dX6_begin_23 rfl (lv_at hl 0 rfl) ?_
      refine kk_get hx hb hts hown hE hW hM.o rfl hiRX6 5 (by decide) (hts (.fieldLink RX6 20 "UndoCellarModel" "asOf" "[I") (by decide +kernel)) (fun _ h9 => h9) rfl dX6_begin_24 ?_
      refine lv_aload_n hx hb dX6_begin_27 rfl (lv_at hl 0 rfl) ?_
      refine kk_get hx hb hts hown hE hW hM.o rfl hiRX6 3 (by decide) (hts (.fieldLink RX6 52 "UndoCellarModel" "transactions" "I") (by decide +kernel)) (fun _ h9 => h9) rfl dX6_begin_28 ?_
      refine lv_aload_n hx hb dX6_begin_31 rfl (lv_at hl 0 rfl) ?_
      refine kk_get hx hb hts hown hE hW hM.o rfl hiRX6 2 (by decide) (hts (.fieldLink RX6 65 "UndoCellarModel" "moment" "I") (by decide +kernel)) (fun _ h9 => h9) rfl dX6_begin_32 ?_
      refine kk_iast hx hb hE hW hM.a2 hv6 dX6_begin_35 (fun H12 locs w10 e11 hW => ?_)
      have hM := hM.t2 e11
      refine lv_aload_n hx hb dX6_begin_36 rfl (lv_at hl 0 rfl) ?_
      refine lv_dup hx hb dX6_begin_37 rfl ?_
      refine kk_get hx hb hts hown hE hW (show w10 2000 = some (.inr (7, [.ref (ad 2001), .int ((sS S 17 (bgK S)) 10 0), .int ((sS S 17 (bgK S)) 11 0), .int ((sS S 17 (bgK S)) 12 0), .ref (ad 2002), .ref (ad 2003), .ref (ad 2004), .int ((sS S 17 (bgK S)) 13 0), .ref (ad 2005), .ref (ad 2006), .ref (ad 2007), .ref (ad 2008), .int ((sS S 17 (bgK S)) 14 0), .ref (ad 2009), .ref (ad 2010), .int ((sS S 17 (bgK S)) 15 0), .int ((sS S 17 (bgK S)) 16 0), .int ((sS S 17 (bgK S)) 17 0)])) from hM.o) rfl hiRX6 3 (by decide) (hts (.fieldLink RX6 52 "UndoCellarModel" "transactions" "I") (by decide +kernel)) (fun _ h9 => h9) rfl dX6_begin_38 ?_
      refine lv_iconst (v := 1) hx hb dX6_begin_41 (by decide) ?_
      refine lv_iadd hx hb dX6_begin_42 ?_
      refine kk_put hx hb hts hown hE hW (show w10 2000 = some (.inr (7, [.ref (ad 2001), .int ((sS S 17 (bgK S)) 10 0), .int ((sS S 17 (bgK S)) 11 0), .int ((sS S 17 (bgK S)) 12 0), .ref (ad 2002), .ref (ad 2003), .ref (ad 2004), .int ((sS S 17 (bgK S)) 13 0), .ref (ad 2005), .ref (ad 2006), .ref (ad 2007), .ref (ad 2008), .int ((sS S 17 (bgK S)) 14 0), .ref (ad 2009), .ref (ad 2010), .int ((sS S 17 (bgK S)) 15 0), .int ((sS S 17 (bgK S)) 16 0), .int ((sS S 17 (bgK S)) 17 0)])) from hM.o) rfl hiRX6 tyX6 tyX6_ok nmX6 3 (by decide) (hts (.fieldLink RX6 52 "UndoCellarModel" "transactions" "I") (by decide +kernel)) (fun _ h9 => h9) rfl (ty := tyX6 3) (tyX6_ok 3 (by decide)) rfl rfl (Nat.le_of_ble_eq_true rfl) dX6_begin_43 (fun H15 locs w13 e14 hW => ?_)
      have hM := hM.s12 e14
      refine lv_aload_n hx hb dX6_begin_46 rfl (lv_at hl 0 rfl) ?_
      refine kk_get hx hb hts hown hE hW (show w13 2000 = some (.inr (7, [.ref (ad 2001), .int ((sS S 17 (bgK S)) 10 0), .int ((sS S 17 (bgK S)) 11 0), .int ((((sS S 17 (bgK S)) 12 0) + 1)), .ref (ad 2002), .ref (ad 2003), .ref (ad 2004), .int ((sS S 17 (bgK S)) 13 0), .ref (ad 2005), .ref (ad 2006), .ref (ad 2007), .ref (ad 2008), .int ((sS S 17 (bgK S)) 14 0), .ref (ad 2009), .ref (ad 2010), .int ((sS S 17 (bgK S)) 15 0), .int ((sS S 17 (bgK S)) 16 0), .int ((sS S 17 (bgK S)) 17 0)])) from hM.o) rfl hiRX6 3 (by decide) (hts (.fieldLink RX6 52 "UndoCellarModel" "transactions" "I") (by decide +kernel)) (fun _ h9 => h9) rfl dX6_begin_47 ?_
      refine lv_iconst (v := 1) hx hb dX6_begin_50 (by decide) ?_
      refine lv_isub hx hb dX6_begin_51 ?_
      exact ke_i hx hb hr hlocks (Nat.le_of_ble_eq_true rfl) (Nat.le_of_ble_eq_true rfl) dX6_begin_52 hW (⟨(if_pos (bI_t c9)).symm, rfl, by rw [show bgN S = _ from if_pos (bI_t c9)]; exact hM⟩)
    · refine lv_iconst (v := 0) hx hb dX6_begin_21 (by decide) ?_
      exact ke_i hx hb hr hlocks (Nat.le_of_ble_eq_true rfl) (Nat.le_of_ble_eq_true rfl) dX6_begin_22 hW (⟨(if_neg (bI_f c9)).symm, rfl, by rw [show bgN S = _ from if_neg (bI_f c9)]; exact hM⟩)
  · refine lv_aload_n hx hb dX6_begin_0 rfl (lv_at hl 0 rfl) ?_
    refine lv_aload_n hx hb dX6_begin_1 rfl (lv_at hl 0 rfl) ?_
    refine kk_get hx hb hts hown hE hW hM.o rfl hiRX6 3 (by decide) (hts (.fieldLink RX6 52 "UndoCellarModel" "transactions" "I") (by decide +kernel)) (fun _ h9 => h9) rfl dX6_begin_2 ?_
    refine lv_bipush (v := 60) hx hb dX6_begin_5 (by decide) ?_
    refine lv_icmp_ne (tgt := 14) hx hb dX6_begin_7 (by decide) (fun c16 => ?_) (fun c16 => ?_)
    · refine lv_iconst (v := 0) hx hb dX6_begin_14 (by decide) ?_
      exact J15 _ ((if_neg c16).symm)
    · refine lv_iconst (v := 1) hx hb dX6_begin_10 (by decide) ?_
      refine lv_goto (tgt := 15) hx hb dX6_begin_11 (by decide) ?_
      exact J15 _ ((if_pos c16).symm)

set_option maxHeartbeats 4000000 in
set_option maxRecDepth 100000 in
/-- c_save -/
theorem c_save (l : Launch) (D : va_G) (A : Nat → Prop) (ad : Nat → Nat) (w : kWd) (S : St) (hM : MW D S ad w w) (t : Int32) (nT : Nat) (hT : S 12 0 = nI nT) (hT6 : nT ≤ 60) (nC : Nat) (hC : S 13 0 = nI nC) (hn : nC ≤ 2000)  : Met l yX6_save wsX6_save ({ frames := 3, cells := 0, slots := 0, locals := 64 }) (kPc D A [.ref (ad 2000), .int t] ad w) (kQi D A (fun v ad' w' => v = saR S t ∧ ad' = ad ∧ MW D (sS S 17 (opK S t)) ad w w')) 0 0 A := by
  refine Met.ofW (cc := cX6_save) (maxL := 2) (ret := (some (.int))) (by decide) rfl ?_
  intro p e s m args below meth c s₁ B hml hv
  obtain ⟨rfl, hE, hW0, hI0, hA⟩ := hv
  have hx := B.exec
  have hb := B.bytes
  have hr := B.returns
  have hts := atoms_spec (ws := wsX6_save) B.pre
  have hown : s.vm.findClass RX6 = some m.cls := findClass_of_methodNamed B.named
  have hlocks := B.notSynchronized
  have hW : kS D A s.heap ad w s.heap [] := ⟨hW0, hI0, va_S.rf, hA⟩
  have hl := lv_entry ([.ref (ad 2000), .int t]) (n := 2) (Nat.le_of_ble_eq_true rfl)
  rw [lg_entry_eq]
  generalize (lg_sl ([.ref (ad 2000), .int t]) ++ List.replicate (2 - (lg_sl ([.ref (ad 2000), .int t])).length) Slot.unset).toArray = ls at hl ⊢
  have hl : lv_has ls 2 [(0, .ref (ad 2000)), (1, .int t)] := hl
  refine lv_aload_n hx hb dX6_save_0 rfl (lv_at hl 0 rfl) ?_
  refine lv_iload_n hx hb dX6_save_1 rfl (lv_at hl 1 rfl) ?_
  refine kk_i (va_runV (As := [.int t]) (rest := []) ⟨hx, hb, hml, hown, hts⟩ (c_isOpen l D A ad w (S) hM.re t nT hT hT6) (cwV 1 hts gX6_save_X6_isOpen rfl rfl rfl (by decide +kernel) ⟨Nat.le_of_ble_eq_true rfl, Nat.le_of_ble_eq_true rfl⟩) (kV hE hW hM.o rfl _) rfl rfl hl.1 rfl (lv_room (Nat.le_of_ble_eq_true rfl)) dX6_save_2 ⟨Nat.le_of_ble_eq_true rfl, Nat.le_of_ble_eq_true rfl⟩) hW (fun r4 ad1 w2 H5 locs hp3 hW => ?_)
  obtain ⟨e6, e7, e8⟩ := hp3
  rw [e7] at hW
  have hM := hM.tr e8
  subst e6
  refine lv_if_eq (tgt := 16) hx hb dX6_save_5 (by decide) (fun c9 => ?_) (fun c9 => ?_)
  · refine lv_iconst (v := 0) hx hb dX6_save_16 (by decide) ?_
    exact ke_i hx hb hr hlocks (Nat.le_of_ble_eq_true rfl) (Nat.le_of_ble_eq_true rfl) dX6_save_17 hW (⟨(if_neg (bI_f c9)).symm, rfl, hM⟩)
  · refine lv_aload_n hx hb dX6_save_8 rfl (lv_at hl 0 rfl) ?_
    refine lv_iload_n hx hb dX6_save_9 rfl (lv_at hl 1 rfl) ?_
    refine kk_i (va_runV (As := [.int t]) (rest := []) ⟨hx, hb, hml, hown, hts⟩ (c_standing l D A ad w2 ((sS S 17 (opK S t))) hM.re t nC hC hn) (cwV 1 hts gX6_save_X6_standing rfl rfl rfl (by decide +kernel) ⟨Nat.le_of_ble_eq_true rfl, Nat.le_of_ble_eq_true rfl⟩) (kV hE hW hM.o rfl _) rfl rfl hl.1 rfl (lv_room (Nat.le_of_ble_eq_true rfl)) dX6_save_10 ⟨Nat.le_of_ble_eq_true rfl, Nat.le_of_ble_eq_true rfl⟩) hW (fun r13 ad10 w11 H14 locs hp12 hW => ?_)
    obtain ⟨e15, e16, e17⟩ := hp12
    rw [e16, e17] at hW
    subst e15
    refine lv_goto (tgt := 17) hx hb dX6_save_13 (by decide) ?_
    exact ke_i hx hb hr hlocks (Nat.le_of_ble_eq_true rfl) (Nat.le_of_ble_eq_true rfl) dX6_save_17 hW (⟨(if_pos (bI_t c9)).symm, rfl, hM⟩)

set_option maxHeartbeats 4000000 in
set_option maxRecDepth 100000 in
/-- c_undoTo -/
theorem c_undoTo (l : Launch) (D : va_G) (A : Nat → Prop) (ad : Nat → Nat) (w : kWd) (S : St) (hM : MW D S ad w w) (t k : Int32) (nT : Nat) (hT : S 12 0 = nI nT) (hT6 : nT ≤ 60) (nC : Nat) (hC : S 13 0 = nI nC) (hn : nC ≤ 2000) (hro : ∀ k, k < nC → vp_in (S 5 k) 12)  : Met l yX6_undoTo wsX6_undoTo ({ frames := 3, cells := 0, slots := 0, locals := 64 }) (kPc D A [.ref (ad 2000), .int t, .int k] ad w) (kQi D A (fun v ad' w' => v = utR S t k ∧ ad' = ad ∧ MW D (utN S t k) ad w w')) 0 0 A := by
  refine Met.ofW (cc := cX6_undoTo) (maxL := 4) (ret := (some (.int))) (by decide) rfl ?_
  intro p e s m args below meth c s₁ B hml hv
  obtain ⟨rfl, hE, hW0, hI0, hA⟩ := hv
  have hx := B.exec
  have hb := B.bytes
  have hr := B.returns
  have hts := atoms_spec (ws := wsX6_undoTo) B.pre
  have hown : s.vm.findClass RX6 = some m.cls := findClass_of_methodNamed B.named
  have hlocks := B.notSynchronized
  have hW : kS D A s.heap ad w s.heap [] := ⟨hW0, hI0, va_S.rf, hA⟩
  have hl := lv_entry ([.ref (ad 2000), .int t, .int k]) (n := 4) (Nat.le_of_ble_eq_true rfl)
  rw [lg_entry_eq]
  generalize (lg_sl ([.ref (ad 2000), .int t, .int k]) ++ List.replicate (4 - (lg_sl ([.ref (ad 2000), .int t, .int k])).length) Slot.unset).toArray = ls at hl ⊢
  have hl : lv_has ls 4 [(0, .ref (ad 2000)), (1, .int t), (2, .int k)] := hl
  refine lv_aload_n hx hb dX6_undoTo_0 rfl (lv_at hl 0 rfl) ?_
  refine lv_iload_n hx hb dX6_undoTo_1 rfl (lv_at hl 1 rfl) ?_
  refine kk_i (va_runV (As := [.int t]) (rest := []) ⟨hx, hb, hml, hown, hts⟩ (c_isOpen l D A ad w (S) hM.re t nT hT hT6) (cwV 1 hts gX6_undoTo_X6_isOpen rfl rfl rfl (by decide +kernel) ⟨Nat.le_of_ble_eq_true rfl, Nat.le_of_ble_eq_true rfl⟩) (kV hE hW hM.o rfl _) rfl rfl hl.1 rfl (lv_room (Nat.le_of_ble_eq_true rfl)) dX6_undoTo_2 ⟨Nat.le_of_ble_eq_true rfl, Nat.le_of_ble_eq_true rfl⟩) hW (fun r4 ad1 w2 H5 locs hp3 hW => ?_)
  obtain ⟨e6, e7, e8⟩ := hp3
  rw [e7] at hW
  have hM := hM.tr e8
  subst e6
  refine lv_if_ne (tgt := 10) hx hb dX6_undoTo_5 (by decide) (fun c9 => ?_) (fun c9 => ?_)
  · have ho := bI_t c9
    refine lv_aload_n hx hb dX6_undoTo_10 rfl (lv_at hl 0 rfl) ?_
    refine lv_iload_n hx hb dX6_undoTo_11 rfl (lv_at hl 1 rfl) ?_
    refine kk_i (va_runV (As := [.int t]) (rest := []) ⟨hx, hb, hml, hown, hts⟩ (c_standing l D A ad w2 ((sS S 17 (opK S t))) hM.re t nC hC hn) (cwV 1 hts gX6_undoTo_X6_standing rfl rfl rfl (by decide +kernel) ⟨Nat.le_of_ble_eq_true rfl, Nat.le_of_ble_eq_true rfl⟩) (kV hE hW hM.o rfl _) rfl rfl hl.1 rfl (lv_room (Nat.le_of_ble_eq_true rfl)) dX6_undoTo_12 ⟨Nat.le_of_ble_eq_true rfl, Nat.le_of_ble_eq_true rfl⟩) hW (fun r13 ad10 w11 H14 locs hp12 hW => ?_)
    obtain ⟨e15, e16, e17⟩ := hp12
    rw [e16, e17] at hW
    subst e15
    refine lv_istore_n (lv' := [(3, .int (utA S t)), (0, .ref (ad 2000)), (1, .int t), (2, .int k)]) hx hb dX6_undoTo_15 rfl hl (by decide) rfl (fun ls hl => ?_)
    refine lv_aload_n hx hb dX6_undoTo_16 rfl (lv_at hl 1 rfl) ?_
    refine lv_iload_n hx hb dX6_undoTo_17 rfl (lv_at hl 3 rfl) ?_
    refine lv_iconst (v := 0) hx hb dX6_undoTo_18 (by decide) ?_
    refine lv_iload_n hx hb dX6_undoTo_19 rfl (lv_at hl 0 rfl) ?_
    refine W_joinH (D := D) (A := A) (w := w2) (ad := ad) (P := fun v => v = utK S t k) (pj := 31) (rj := [.ref (ad 2000)]) (lj := ls) (fun v H18 locs hv hW => ?_) (fun J31 => ?_)
    · subst hv
      refine kk_i (va_runV (As := [.int (utK S t k)]) (rest := []) ⟨hx, hb, hml, hown, hts⟩ (c_can l D A ad w2 ((sS S 17 (opK S t))) hM.re (utK S t k)) (cwV 1 hts gX6_undoTo_X6_can rfl rfl rfl (by decide +kernel) ⟨Nat.le_of_ble_eq_true rfl, Nat.le_of_ble_eq_true rfl⟩) (kV hE hW hM.o rfl _) rfl rfl hl.1 rfl (lv_room (Nat.le_of_ble_eq_true rfl)) dX6_undoTo_31 ⟨Nat.le_of_ble_eq_true rfl, Nat.le_of_ble_eq_true rfl⟩) hW (fun r22 ad19 w20 H23 locs hp21 hW => ?_)
      obtain ⟨e24, e25, e26⟩ := hp21
      rw [e25] at hW
      have hM := hM.tr e26
      subst e24
      rw [sS_sS] at hM
      refine lv_if_ne (tgt := 39) hx hb dX6_undoTo_34 (by decide) (fun c27 => ?_) (fun c27 => ?_)
      · refine lv_aload_n hx hb dX6_undoTo_39 rfl (lv_at hl 1 rfl) ?_
        refine lv_iload_n hx hb dX6_undoTo_40 rfl (lv_at hl 2 rfl) ?_
        refine lv_iload_n hx hb dX6_undoTo_41 rfl (lv_at hl 0 rfl) ?_
        refine lv_iload_n hx hb dX6_undoTo_42 rfl (lv_at hl 3 rfl) ?_
        refine lv_isub hx hb dX6_undoTo_43 ?_
        refine kk_v (va_runV (As := [.int t, .int ((utA S t) - k)]) (rest := []) ⟨hx, hb, hml, hown, hts⟩ (c_undoes l D A ad w20 ((sS S 17 (utK S t k))) hM.re t (utA S t - k) nC hC hn hro) (cwV 2 hts gX6_undoTo_X6_undoes rfl rfl rfl (by decide +kernel) ⟨Nat.le_of_ble_eq_true rfl, Nat.le_of_ble_eq_true rfl⟩) (kV hE hW hM.o rfl _) rfl rfl hl.1 rfl (lv_room (Nat.le_of_ble_eq_true rfl)) dX6_undoTo_44 ⟨Nat.le_of_ble_eq_true rfl, Nat.le_of_ble_eq_true rfl⟩) hW (fun ad28 w29 H32 locs hp30 hW => ?_)
        obtain ⟨e34, e35⟩ := hp30
        rw [e34] at hW
        have hM := hM.tr e35
        refine lv_iload_n hx hb dX6_undoTo_47 rfl (lv_at hl 0 rfl) ?_
        refine lv_iload_n hx hb dX6_undoTo_48 rfl (lv_at hl 3 rfl) ?_
        refine lv_isub hx hb dX6_undoTo_49 ?_
        exact ke_i hx hb hr hlocks (Nat.le_of_ble_eq_true rfl) (Nat.le_of_ble_eq_true rfl) dX6_undoTo_50 hW (⟨(if_pos (bI_t c27)).symm, rfl, by rw [show utN S t k = _ from if_pos (bI_t c27)]; exact hM⟩)
      · refine lv_iconst (v := 0) hx hb dX6_undoTo_37 (by decide) ?_
        exact ke_i hx hb hr hlocks (Nat.le_of_ble_eq_true rfl) (Nat.le_of_ble_eq_true rfl) dX6_undoTo_38 hW (⟨(if_neg (bI_f c27)).symm, rfl, by rw [show utN S t k = _ from if_neg (bI_f c27)]; exact hM⟩)
    · refine kk_i (va_runS (As := [.int k, .int 0, .int (utA S t)]) (rest := [.ref (ad 2000)]) ⟨hx, hb, hml, hown, hts⟩ (c_isIn l D A ad w2 k 0 (utA S t)) (cwS 3 hts gX6_undoTo_X6_isIn rfl rfl rfl (by decide +kernel) ⟨Nat.le_of_ble_eq_true rfl, Nat.le_of_ble_eq_true rfl⟩) (kSt hE hW _) rfl rfl hl.1 rfl (lv_room (Nat.le_of_ble_eq_true rfl)) dX6_undoTo_20 ⟨Nat.le_of_ble_eq_true rfl, Nat.le_of_ble_eq_true rfl⟩) hW (fun r39 ad36 w37 H40 locs hp38 hW => ?_)
      obtain ⟨e41, e42, e43⟩ := hp38
      rw [e42, e43] at hW
      subst e41
      refine lv_if_eq (tgt := 30) hx hb dX6_undoTo_23 (by decide) (fun c44 => ?_) (fun c44 => ?_)
      · refine lv_iconst (v := 3) hx hb dX6_undoTo_30 (by decide) ?_
        exact J31 _ _ _ (((if_pos ho).trans (if_neg (bI_f c44))).symm) hW
      · refine lv_iconst (v := 0) hx hb dX6_undoTo_26 (by decide) ?_
        refine lv_goto (tgt := 31) hx hb dX6_undoTo_27 (by decide) ?_
        exact J31 _ _ _ (((if_pos ho).trans (if_pos (bI_t c44))).symm) hW
  · have ho : ¬ opK S t = 0 := bI_f c9
    have hu : utK S t k = opK S t := if_neg ho
    refine lv_iconst (v := 0) hx hb dX6_undoTo_8 (by decide) ?_
    exact ke_i hx hb hr hlocks (Nat.le_of_ble_eq_true rfl) (Nat.le_of_ble_eq_true rfl) dX6_undoTo_9 hW (⟨(if_neg (by rw [hu]; exact ho)).symm, rfl, by rw [show utN S t k = _ from if_neg (by rw [hu]; exact ho), hu]; exact hM⟩)

set_option maxHeartbeats 4000000 in
set_option maxRecDepth 100000 in
/-- c_undo -/
theorem c_undo (l : Launch) (D : va_G) (A : Nat → Prop) (ad : Nat → Nat) (w : kWd) (S : St) (hM : MW D S ad w w) (t : Int32) (nT : Nat) (hT : S 12 0 = nI nT) (hT6 : nT ≤ 60) (nC : Nat) (hC : S 13 0 = nI nC) (hn : nC ≤ 2000) (hro : ∀ k, k < nC → vp_in (S 5 k) 12)  : Met l yX6_undo wsX6_undo ({ frames := 3, cells := 0, slots := 0, locals := 64 }) (kPc D A [.ref (ad 2000), .int t] ad w) (kQi D A (fun v ad' w' => v = udR S t ∧ ad' = ad ∧ MW D (udN S t) ad w w')) 0 0 A := by
  refine Met.ofW (cc := cX6_undo) (maxL := 3) (ret := (some (.int))) (by decide) rfl ?_
  intro p e s m args below meth c s₁ B hml hv
  obtain ⟨rfl, hE, hW0, hI0, hA⟩ := hv
  have hx := B.exec
  have hb := B.bytes
  have hr := B.returns
  have hts := atoms_spec (ws := wsX6_undo) B.pre
  have hown : s.vm.findClass RX6 = some m.cls := findClass_of_methodNamed B.named
  have hlocks := B.notSynchronized
  have hiRX6 : ∀ w ∈ wsX60, w ∈ wsX6_undo := by decide +kernel
  have hW : kS D A s.heap ad w s.heap [] := ⟨hW0, hI0, va_S.rf, hA⟩
  have hl := lv_entry ([.ref (ad 2000), .int t]) (n := 3) (Nat.le_of_ble_eq_true rfl)
  rw [lg_entry_eq]
  generalize (lg_sl ([.ref (ad 2000), .int t]) ++ List.replicate (3 - (lg_sl ([.ref (ad 2000), .int t])).length) Slot.unset).toArray = ls at hl ⊢
  have hl : lv_has ls 3 [(0, .ref (ad 2000)), (1, .int t)] := hl
  refine lv_aload_n hx hb dX6_undo_0 rfl (lv_at hl 0 rfl) ?_
  refine lv_iload_n hx hb dX6_undo_1 rfl (lv_at hl 1 rfl) ?_
  refine kk_i (va_runV (As := [.int t]) (rest := []) ⟨hx, hb, hml, hown, hts⟩ (c_isOpen l D A ad w (S) hM.re t nT hT hT6) (cwV 1 hts gX6_undo_X6_isOpen rfl rfl rfl (by decide +kernel) ⟨Nat.le_of_ble_eq_true rfl, Nat.le_of_ble_eq_true rfl⟩) (kV hE hW hM.o rfl _) rfl rfl hl.1 rfl (lv_room (Nat.le_of_ble_eq_true rfl)) dX6_undo_2 ⟨Nat.le_of_ble_eq_true rfl, Nat.le_of_ble_eq_true rfl⟩) hW (fun r4 ad1 w2 H5 locs hp3 hW => ?_)
  obtain ⟨e6, e7, e8⟩ := hp3
  rw [e7] at hW
  have hM := hM.tr e8
  subst e6
  refine lv_if_ne (tgt := 10) hx hb dX6_undo_5 (by decide) (fun c9 => ?_) (fun c9 => ?_)
  · have ho := bI_t c9
    have htr : trP S t := by
      refine Decidable.byContradiction fun q => ?_
      rw [show opK S t = 1 from if_neg q] at ho
      exact absurd ho (by decide)
    have hv6 : vp_in t 60 := by
      obtain ⟨j, h1, rfl⟩ := inP_T hT6 (by rw [← hT]; exact htr)
      exact vp_in_nI (by omega) (by omega)
    refine lv_aload_n hx hb dX6_undo_10 rfl (lv_at hl 0 rfl) ?_
    refine lv_iload_n hx hb dX6_undo_11 rfl (lv_at hl 1 rfl) ?_
    refine kk_i (va_runV (As := [.int t]) (rest := []) ⟨hx, hb, hml, hown, hts⟩ (c_standing l D A ad w2 ((sS S 17 (opK S t))) hM.re t nC hC hn) (cwV 1 hts gX6_undo_X6_standing rfl rfl rfl (by decide +kernel) ⟨Nat.le_of_ble_eq_true rfl, Nat.le_of_ble_eq_true rfl⟩) (kV hE hW hM.o rfl _) rfl rfl hl.1 rfl (lv_room (Nat.le_of_ble_eq_true rfl)) dX6_undo_12 ⟨Nat.le_of_ble_eq_true rfl, Nat.le_of_ble_eq_true rfl⟩) hW (fun r13 ad10 w11 H14 locs hp12 hW => ?_)
    obtain ⟨e15, e16, e17⟩ := hp12
    rw [e16, e17] at hW
    subst e15
    refine lv_istore_n (lv' := [(2, .int (utA S t)), (0, .ref (ad 2000)), (1, .int t)]) hx hb dX6_undo_15 rfl hl (by decide) rfl (fun ls hl => ?_)
    refine lv_aload_n hx hb dX6_undo_16 rfl (lv_at hl 1 rfl) ?_
    refine lv_iload_n hx hb dX6_undo_17 rfl (lv_at hl 2 rfl) ?_
    refine lv_iload_n hx hb dX6_undo_18 rfl (lv_at hl 0 rfl) ?_
    refine kk_v (va_runV (As := [.int t, .int (utA S t)]) (rest := []) ⟨hx, hb, hml, hown, hts⟩ (c_undoes l D A ad w2 ((sS S 17 (opK S t))) hM.re t (utA S t) nC hC hn hro) (cwV 2 hts gX6_undo_X6_undoes rfl rfl rfl (by decide +kernel) ⟨Nat.le_of_ble_eq_true rfl, Nat.le_of_ble_eq_true rfl⟩) (kV hE hW hM.o rfl _) rfl rfl hl.1 rfl (lv_room (Nat.le_of_ble_eq_true rfl)) dX6_undo_19 ⟨Nat.le_of_ble_eq_true rfl, Nat.le_of_ble_eq_true rfl⟩) hW (fun ad18 w19 H22 locs hp20 hW => ?_)
    obtain ⟨e24, e25⟩ := hp20
    rw [e24] at hW
    have hM := hM.tr e25
    refine lv_aload_n hx hb dX6_undo_22 rfl (lv_at hl 1 rfl) ?_
    refine kk_get hx hb hts hown hE hW hM.o rfl hiRX6 4 (by decide) (hts (.fieldLink RX6 17 "UndoCellarModel" "state" "[I") (by decide +kernel)) (fun _ h9 => h9) rfl dX6_undo_23 ?_
    refine lv_iload_n hx hb dX6_undo_26 rfl (lv_at hl 2 rfl) ?_
    refine lv_iconst (v := 2) hx hb dX6_undo_27 (by decide) ?_
    refine kk_iast hx hb hE hW hM.a1 hv6 dX6_undo_28 (fun H28 locs w26 e27 hW => ?_)
    have hM := hM.t1 e27
    refine lv_iload_n hx hb dX6_undo_29 rfl (lv_at hl 0 rfl) ?_
    exact ke_i hx hb hr hlocks (Nat.le_of_ble_eq_true rfl) (Nat.le_of_ble_eq_true rfl) dX6_undo_30 hW (⟨(if_pos ho).symm, rfl, by rw [show udN S t = _ from if_pos ho]; exact hM⟩)
  · refine lv_iconst (v := 0) hx hb dX6_undo_8 (by decide) ?_
    exact ke_i hx hb hr hlocks (Nat.le_of_ble_eq_true rfl) (Nat.le_of_ble_eq_true rfl) dX6_undo_9 hW (⟨(if_neg (bI_f c9)).symm, rfl, by rw [show udN S t = _ from if_neg (bI_f c9)]; exact hM⟩)

set_option maxHeartbeats 4000000 in
set_option maxRecDepth 100000 in
/-- c_commit -/
theorem c_commit (l : Launch) (D : va_G) (A : Nat → Prop) (ad : Nat → Nat) (w : kWd) (S : St) (hM : MW D S ad w w) (t : Int32) (nT : Nat) (hT : S 12 0 = nI nT) (hT6 : nT ≤ 60)  : Met l yX6_commit wsX6_commit ({ frames := 3, cells := 0, slots := 0, locals := 64 }) (kPc D A [.ref (ad 2000), .int t] ad w) (kQi D A (fun v ad' w' => v = cmR S t ∧ ad' = ad ∧ MW D (cmN S t) ad w w')) 0 0 A := by
  refine Met.ofW (cc := cX6_commit) (maxL := 2) (ret := (some (.int))) (by decide) rfl ?_
  intro p e s m args below meth c s₁ B hml hv
  obtain ⟨rfl, hE, hW0, hI0, hA⟩ := hv
  have hx := B.exec
  have hb := B.bytes
  have hr := B.returns
  have hts := atoms_spec (ws := wsX6_commit) B.pre
  have hown : s.vm.findClass RX6 = some m.cls := findClass_of_methodNamed B.named
  have hlocks := B.notSynchronized
  have hiRX6 : ∀ w ∈ wsX60, w ∈ wsX6_commit := by decide +kernel
  have hW : kS D A s.heap ad w s.heap [] := ⟨hW0, hI0, va_S.rf, hA⟩
  have hl := lv_entry ([.ref (ad 2000), .int t]) (n := 2) (Nat.le_of_ble_eq_true rfl)
  rw [lg_entry_eq]
  generalize (lg_sl ([.ref (ad 2000), .int t]) ++ List.replicate (2 - (lg_sl ([.ref (ad 2000), .int t])).length) Slot.unset).toArray = ls at hl ⊢
  have hl : lv_has ls 2 [(0, .ref (ad 2000)), (1, .int t)] := hl
  refine lv_aload_n hx hb dX6_commit_0 rfl (lv_at hl 0 rfl) ?_
  refine lv_iload_n hx hb dX6_commit_1 rfl (lv_at hl 1 rfl) ?_
  refine kk_i (va_runV (As := [.int t]) (rest := []) ⟨hx, hb, hml, hown, hts⟩ (c_isOpen l D A ad w (S) hM.re t nT hT hT6) (cwV 1 hts gX6_commit_X6_isOpen rfl rfl rfl (by decide +kernel) ⟨Nat.le_of_ble_eq_true rfl, Nat.le_of_ble_eq_true rfl⟩) (kV hE hW hM.o rfl _) rfl rfl hl.1 rfl (lv_room (Nat.le_of_ble_eq_true rfl)) dX6_commit_2 ⟨Nat.le_of_ble_eq_true rfl, Nat.le_of_ble_eq_true rfl⟩) hW (fun r4 ad1 w2 H5 locs hp3 hW => ?_)
  obtain ⟨e6, e7, e8⟩ := hp3
  rw [e7] at hW
  have hM := hM.tr e8
  subst e6
  refine lv_if_ne (tgt := 10) hx hb dX6_commit_5 (by decide) (fun c9 => ?_) (fun c9 => ?_)
  · have ho := bI_t c9
    have htr : trP S t := by
      refine Decidable.byContradiction fun q => ?_
      rw [show opK S t = 1 from if_neg q] at ho
      exact absurd ho (by decide)
    have hv6 : vp_in t 60 := by
      obtain ⟨j, h1, rfl⟩ := inP_T hT6 (by rw [← hT]; exact htr)
      exact vp_in_nI (by omega) (by omega)
    refine lv_aload_n hx hb dX6_commit_10 rfl (lv_at hl 0 rfl) ?_
    refine lv_dup hx hb dX6_commit_11 rfl ?_
    refine kk_get hx hb hts hown hE hW hM.o rfl hiRX6 2 (by decide) (hts (.fieldLink RX6 65 "UndoCellarModel" "moment" "I") (by decide +kernel)) (fun _ h9 => h9) rfl dX6_commit_12 ?_
    refine lv_iconst (v := 1) hx hb dX6_commit_15 (by decide) ?_
    refine lv_iadd hx hb dX6_commit_16 ?_
    refine kk_put hx hb hts hown hE hW hM.o rfl hiRX6 tyX6 tyX6_ok nmX6 2 (by decide) (hts (.fieldLink RX6 65 "UndoCellarModel" "moment" "I") (by decide +kernel)) (fun _ h9 => h9) rfl (ty := tyX6 2) (tyX6_ok 2 (by decide)) rfl rfl (Nat.le_of_ble_eq_true rfl) dX6_commit_17 (fun H12 locs w10 e11 hW => ?_)
    have hM := hM.s11 e11
    refine lv_aload_n hx hb dX6_commit_20 rfl (lv_at hl 0 rfl) ?_
    refine kk_get hx hb hts hown hE hW (show w10 2000 = some (.inr (7, [.ref (ad 2001), .int ((sS S 17 (opK S t)) 10 0), .int ((((sS S 17 (opK S t)) 11 0) + 1)), .int ((sS S 17 (opK S t)) 12 0), .ref (ad 2002), .ref (ad 2003), .ref (ad 2004), .int ((sS S 17 (opK S t)) 13 0), .ref (ad 2005), .ref (ad 2006), .ref (ad 2007), .ref (ad 2008), .int ((sS S 17 (opK S t)) 14 0), .ref (ad 2009), .ref (ad 2010), .int ((sS S 17 (opK S t)) 15 0), .int ((sS S 17 (opK S t)) 16 0), .int ((sS S 17 (opK S t)) 17 0)])) from hM.o) rfl hiRX6 4 (by decide) (hts (.fieldLink RX6 17 "UndoCellarModel" "state" "[I") (by decide +kernel)) (fun _ h9 => h9) rfl dX6_commit_21 ?_
    refine lv_iload_n hx hb dX6_commit_24 rfl (lv_at hl 1 rfl) ?_
    refine lv_iconst (v := 1) hx hb dX6_commit_25 (by decide) ?_
    refine kk_iast hx hb hE hW (show w10 2002 = some (.inl (D.1 100, 60, .inl ((sS S 17 (opK S t)) 1))) from hM.a1) hv6 dX6_commit_26 (fun H15 locs w13 e14 hW => ?_)
    have hM := hM.t1 e14
    refine lv_aload_n hx hb dX6_commit_27 rfl (lv_at hl 0 rfl) ?_
    refine kk_get hx hb hts hown hE hW (show w13 2000 = some (.inr (7, [.ref (ad 2001), .int ((sS S 17 (opK S t)) 10 0), .int ((((sS S 17 (opK S t)) 11 0) + 1)), .int ((sS S 17 (opK S t)) 12 0), .ref (ad 2002), .ref (ad 2003), .ref (ad 2004), .int ((sS S 17 (opK S t)) 13 0), .ref (ad 2005), .ref (ad 2006), .ref (ad 2007), .ref (ad 2008), .int ((sS S 17 (opK S t)) 14 0), .ref (ad 2009), .ref (ad 2010), .int ((sS S 17 (opK S t)) 15 0), .int ((sS S 17 (opK S t)) 16 0), .int ((sS S 17 (opK S t)) 17 0)])) from hM.o) rfl hiRX6 6 (by decide) (hts (.fieldLink RX6 23 "UndoCellarModel" "committedAt" "[I") (by decide +kernel)) (fun _ h9 => h9) rfl dX6_commit_28 ?_
    refine lv_iload_n hx hb dX6_commit_31 rfl (lv_at hl 1 rfl) ?_
    refine lv_aload_n hx hb dX6_commit_32 rfl (lv_at hl 0 rfl) ?_
    refine kk_get hx hb hts hown hE hW (show w13 2000 = some (.inr (7, [.ref (ad 2001), .int ((sS S 17 (opK S t)) 10 0), .int ((((sS S 17 (opK S t)) 11 0) + 1)), .int ((sS S 17 (opK S t)) 12 0), .ref (ad 2002), .ref (ad 2003), .ref (ad 2004), .int ((sS S 17 (opK S t)) 13 0), .ref (ad 2005), .ref (ad 2006), .ref (ad 2007), .ref (ad 2008), .int ((sS S 17 (opK S t)) 14 0), .ref (ad 2009), .ref (ad 2010), .int ((sS S 17 (opK S t)) 15 0), .int ((sS S 17 (opK S t)) 16 0), .int ((sS S 17 (opK S t)) 17 0)])) from hM.o) rfl hiRX6 2 (by decide) (hts (.fieldLink RX6 65 "UndoCellarModel" "moment" "I") (by decide +kernel)) (fun _ h9 => h9) rfl dX6_commit_33 ?_
    refine kk_iast hx hb hE hW (show w13 2004 = some (.inl (D.1 100, 60, .inl ((sS S 17 (opK S t)) 3))) from hM.a3) hv6 dX6_commit_36 (fun H18 locs w16 e17 hW => ?_)
    have hM := hM.t3 e17
    refine lv_aload_n hx hb dX6_commit_37 rfl (lv_at hl 0 rfl) ?_
    refine kk_get hx hb hts hown hE hW (show w16 2000 = some (.inr (7, [.ref (ad 2001), .int ((sS S 17 (opK S t)) 10 0), .int ((((sS S 17 (opK S t)) 11 0) + 1)), .int ((sS S 17 (opK S t)) 12 0), .ref (ad 2002), .ref (ad 2003), .ref (ad 2004), .int ((sS S 17 (opK S t)) 13 0), .ref (ad 2005), .ref (ad 2006), .ref (ad 2007), .ref (ad 2008), .int ((sS S 17 (opK S t)) 14 0), .ref (ad 2009), .ref (ad 2010), .int ((sS S 17 (opK S t)) 15 0), .int ((sS S 17 (opK S t)) 16 0), .int ((sS S 17 (opK S t)) 17 0)])) from hM.o) rfl hiRX6 2 (by decide) (hts (.fieldLink RX6 65 "UndoCellarModel" "moment" "I") (by decide +kernel)) (fun _ h9 => h9) rfl dX6_commit_38 ?_
    exact ke_i hx hb hr hlocks (Nat.le_of_ble_eq_true rfl) (Nat.le_of_ble_eq_true rfl) dX6_commit_41 hW (⟨(if_pos ho).symm, rfl, by rw [show cmN S t = _ from if_pos ho]; exact hM⟩)
  · refine lv_iconst (v := 0) hx hb dX6_commit_8 (by decide) ?_
    exact ke_i hx hb hr hlocks (Nat.le_of_ble_eq_true rfl) (Nat.le_of_ble_eq_true rfl) dX6_commit_9 hW (⟨(if_neg (bI_f c9)).symm, rfl, by rw [show cmN S t = _ from if_neg (bI_f c9)]; exact hM⟩)

set_option maxHeartbeats 4000000 in
set_option maxRecDepth 100000 in
/-- c_moment -/
theorem c_moment (l : Launch) (D : va_G) (A : Nat → Prop) (ad : Nat → Nat) (w : kWd) (S : St) (hM : MW D S ad w w)  : Met l yX6_moment wsX6_moment ({ frames := 0, cells := 0, slots := 0, locals := 0 }) (kPc D A [.ref (ad 2000)] ad w) (kQi D A (fun v ad' w' => v = S 11 0 ∧ ad' = ad ∧ MW D (sS S 17 0) ad w w')) 0 0 A := by
  refine Met.ofW (cc := cX6_moment) (maxL := 1) (ret := (some (.int))) (by decide) rfl ?_
  intro p e s m args below meth c s₁ B hml hv
  obtain ⟨rfl, hE, hW0, hI0, hA⟩ := hv
  have hx := B.exec
  have hb := B.bytes
  have hr := B.returns
  have hts := atoms_spec (ws := wsX6_moment) B.pre
  have hown : s.vm.findClass RX6 = some m.cls := findClass_of_methodNamed B.named
  have hlocks := B.notSynchronized
  have hiRX6 : ∀ w ∈ wsX60, w ∈ wsX6_moment := by decide +kernel
  have hW : kS D A s.heap ad w s.heap [] := ⟨hW0, hI0, va_S.rf, hA⟩
  have hl := lv_entry ([.ref (ad 2000)]) (n := 1) (Nat.le_of_ble_eq_true rfl)
  rw [lg_entry_eq]
  generalize (lg_sl ([.ref (ad 2000)]) ++ List.replicate (1 - (lg_sl ([.ref (ad 2000)])).length) Slot.unset).toArray = ls at hl ⊢
  have hl : lv_has ls 1 [(0, .ref (ad 2000))] := hl
  refine lv_aload_n hx hb dX6_moment_0 rfl (lv_at hl 0 rfl) ?_
  refine lv_iconst (v := 0) hx hb dX6_moment_1 (by decide) ?_
  refine kk_put hx hb hts hown hE hW hM.o rfl hiRX6 tyX6 tyX6_ok nmX6 17 (by decide) (hts (.fieldLink RX6 45 "UndoCellarModel" "thrown" "I") (by decide +kernel)) (fun _ h9 => h9) rfl (ty := tyX6 17) (tyX6_ok 17 (by decide)) rfl rfl (Nat.le_of_ble_eq_true rfl) dX6_moment_2 (fun H3 locs w1 e2 hW => ?_)
  have hM := hM.s17 e2
  refine lv_aload_n hx hb dX6_moment_5 rfl (lv_at hl 0 rfl) ?_
  refine kk_get hx hb hts hown hE hW (show w1 2000 = some (.inr (7, [.ref (ad 2001), .int (S 10 0), .int (S 11 0), .int (S 12 0), .ref (ad 2002), .ref (ad 2003), .ref (ad 2004), .int (S 13 0), .ref (ad 2005), .ref (ad 2006), .ref (ad 2007), .ref (ad 2008), .int (S 14 0), .ref (ad 2009), .ref (ad 2010), .int (S 15 0), .int (S 16 0), .int (0)])) from hM.o) rfl hiRX6 2 (by decide) (hts (.fieldLink RX6 65 "UndoCellarModel" "moment" "I") (by decide +kernel)) (fun _ h9 => h9) rfl dX6_moment_6 ?_
  exact ke_i hx hb hr hlocks (Nat.le_of_ble_eq_true rfl) (Nat.le_of_ble_eq_true rfl) dX6_moment_9 hW (⟨rfl, rfl, hM⟩)

set_option maxHeartbeats 4000000 in
set_option maxRecDepth 100000 in
/-- c_transactions -/
theorem c_transactions (l : Launch) (D : va_G) (A : Nat → Prop) (ad : Nat → Nat) (w : kWd) (S : St) (hM : MW D S ad w w)  : Met l yX6_transactions wsX6_transactions ({ frames := 0, cells := 0, slots := 0, locals := 0 }) (kPc D A [.ref (ad 2000)] ad w) (kQi D A (fun v ad' w' => v = S 12 0 ∧ ad' = ad ∧ MW D (sS S 17 0) ad w w')) 0 0 A := by
  refine Met.ofW (cc := cX6_transactions) (maxL := 1) (ret := (some (.int))) (by decide) rfl ?_
  intro p e s m args below meth c s₁ B hml hv
  obtain ⟨rfl, hE, hW0, hI0, hA⟩ := hv
  have hx := B.exec
  have hb := B.bytes
  have hr := B.returns
  have hts := atoms_spec (ws := wsX6_transactions) B.pre
  have hown : s.vm.findClass RX6 = some m.cls := findClass_of_methodNamed B.named
  have hlocks := B.notSynchronized
  have hiRX6 : ∀ w ∈ wsX60, w ∈ wsX6_transactions := by decide +kernel
  have hW : kS D A s.heap ad w s.heap [] := ⟨hW0, hI0, va_S.rf, hA⟩
  have hl := lv_entry ([.ref (ad 2000)]) (n := 1) (Nat.le_of_ble_eq_true rfl)
  rw [lg_entry_eq]
  generalize (lg_sl ([.ref (ad 2000)]) ++ List.replicate (1 - (lg_sl ([.ref (ad 2000)])).length) Slot.unset).toArray = ls at hl ⊢
  have hl : lv_has ls 1 [(0, .ref (ad 2000))] := hl
  refine lv_aload_n hx hb dX6_transactions_0 rfl (lv_at hl 0 rfl) ?_
  refine lv_iconst (v := 0) hx hb dX6_transactions_1 (by decide) ?_
  refine kk_put hx hb hts hown hE hW hM.o rfl hiRX6 tyX6 tyX6_ok nmX6 17 (by decide) (hts (.fieldLink RX6 45 "UndoCellarModel" "thrown" "I") (by decide +kernel)) (fun _ h9 => h9) rfl (ty := tyX6 17) (tyX6_ok 17 (by decide)) rfl rfl (Nat.le_of_ble_eq_true rfl) dX6_transactions_2 (fun H3 locs w1 e2 hW => ?_)
  have hM := hM.s17 e2
  refine lv_aload_n hx hb dX6_transactions_5 rfl (lv_at hl 0 rfl) ?_
  refine kk_get hx hb hts hown hE hW (show w1 2000 = some (.inr (7, [.ref (ad 2001), .int (S 10 0), .int (S 11 0), .int (S 12 0), .ref (ad 2002), .ref (ad 2003), .ref (ad 2004), .int (S 13 0), .ref (ad 2005), .ref (ad 2006), .ref (ad 2007), .ref (ad 2008), .int (S 14 0), .ref (ad 2009), .ref (ad 2010), .int (S 15 0), .int (S 16 0), .int (0)])) from hM.o) rfl hiRX6 3 (by decide) (hts (.fieldLink RX6 52 "UndoCellarModel" "transactions" "I") (by decide +kernel)) (fun _ h9 => h9) rfl dX6_transactions_6 ?_
  exact ke_i hx hb hr hlocks (Nat.le_of_ble_eq_true rfl) (Nat.le_of_ble_eq_true rfl) dX6_transactions_9 hW (⟨rfl, rfl, hM⟩)

set_option maxHeartbeats 4000000 in
set_option maxRecDepth 100000 in
/-- c_marked -/
theorem c_marked (l : Launch) (D : va_G) (A : Nat → Prop) (ad : Nat → Nat) (w : kWd) (S : St) (hM : MW D S ad w w)  : Met l yX6_marked wsX6_marked ({ frames := 0, cells := 0, slots := 0, locals := 0 }) (kPc D A [.ref (ad 2000)] ad w) (kQi D A (fun v ad' w' => v = S 15 0 ∧ ad' = ad ∧ MW D (sS S 17 0) ad w w')) 0 0 A := by
  refine Met.ofW (cc := cX6_marked) (maxL := 1) (ret := (some (.int))) (by decide) rfl ?_
  intro p e s m args below meth c s₁ B hml hv
  obtain ⟨rfl, hE, hW0, hI0, hA⟩ := hv
  have hx := B.exec
  have hb := B.bytes
  have hr := B.returns
  have hts := atoms_spec (ws := wsX6_marked) B.pre
  have hown : s.vm.findClass RX6 = some m.cls := findClass_of_methodNamed B.named
  have hlocks := B.notSynchronized
  have hiRX6 : ∀ w ∈ wsX60, w ∈ wsX6_marked := by decide +kernel
  have hW : kS D A s.heap ad w s.heap [] := ⟨hW0, hI0, va_S.rf, hA⟩
  have hl := lv_entry ([.ref (ad 2000)]) (n := 1) (Nat.le_of_ble_eq_true rfl)
  rw [lg_entry_eq]
  generalize (lg_sl ([.ref (ad 2000)]) ++ List.replicate (1 - (lg_sl ([.ref (ad 2000)])).length) Slot.unset).toArray = ls at hl ⊢
  have hl : lv_has ls 1 [(0, .ref (ad 2000))] := hl
  refine lv_aload_n hx hb dX6_marked_0 rfl (lv_at hl 0 rfl) ?_
  refine lv_iconst (v := 0) hx hb dX6_marked_1 (by decide) ?_
  refine kk_put hx hb hts hown hE hW hM.o rfl hiRX6 tyX6 tyX6_ok nmX6 17 (by decide) (hts (.fieldLink RX6 45 "UndoCellarModel" "thrown" "I") (by decide +kernel)) (fun _ h9 => h9) rfl (ty := tyX6 17) (tyX6_ok 17 (by decide)) rfl rfl (Nat.le_of_ble_eq_true rfl) dX6_marked_2 (fun H3 locs w1 e2 hW => ?_)
  have hM := hM.s17 e2
  refine lv_aload_n hx hb dX6_marked_5 rfl (lv_at hl 0 rfl) ?_
  refine kk_get hx hb hts hown hE hW (show w1 2000 = some (.inr (7, [.ref (ad 2001), .int (S 10 0), .int (S 11 0), .int (S 12 0), .ref (ad 2002), .ref (ad 2003), .ref (ad 2004), .int (S 13 0), .ref (ad 2005), .ref (ad 2006), .ref (ad 2007), .ref (ad 2008), .int (S 14 0), .ref (ad 2009), .ref (ad 2010), .int (S 15 0), .int (S 16 0), .int (0)])) from hM.o) rfl hiRX6 15 (by decide) (hts (.fieldLink RX6 71 "UndoCellarModel" "marks" "I") (by decide +kernel)) (fun _ h9 => h9) rfl dX6_marked_6 ?_
  exact ke_i hx hb hr hlocks (Nat.le_of_ble_eq_true rfl) (Nat.le_of_ble_eq_true rfl) dX6_marked_9 hW (⟨rfl, rfl, hM⟩)

set_option maxHeartbeats 4000000 in
set_option maxRecDepth 100000 in
/-- c_records -/
theorem c_records (l : Launch) (D : va_G) (A : Nat → Prop) (ad : Nat → Nat) (w : kWd) (S : St) (hM : MW D S ad w w)  : Met l yX6_records wsX6_records ({ frames := 0, cells := 0, slots := 0, locals := 0 }) (kPc D A [.ref (ad 2000)] ad w) (kQi D A (fun v ad' w' => v = S 13 0 - S 14 0 ∧ ad' = ad ∧ MW D (sS S 17 0) ad w w')) 0 0 A := by
  refine Met.ofW (cc := cX6_records) (maxL := 1) (ret := (some (.int))) (by decide) rfl ?_
  intro p e s m args below meth c s₁ B hml hv
  obtain ⟨rfl, hE, hW0, hI0, hA⟩ := hv
  have hx := B.exec
  have hb := B.bytes
  have hr := B.returns
  have hts := atoms_spec (ws := wsX6_records) B.pre
  have hown : s.vm.findClass RX6 = some m.cls := findClass_of_methodNamed B.named
  have hlocks := B.notSynchronized
  have hiRX6 : ∀ w ∈ wsX60, w ∈ wsX6_records := by decide +kernel
  have hW : kS D A s.heap ad w s.heap [] := ⟨hW0, hI0, va_S.rf, hA⟩
  have hl := lv_entry ([.ref (ad 2000)]) (n := 1) (Nat.le_of_ble_eq_true rfl)
  rw [lg_entry_eq]
  generalize (lg_sl ([.ref (ad 2000)]) ++ List.replicate (1 - (lg_sl ([.ref (ad 2000)])).length) Slot.unset).toArray = ls at hl ⊢
  have hl : lv_has ls 1 [(0, .ref (ad 2000))] := hl
  refine lv_aload_n hx hb dX6_records_0 rfl (lv_at hl 0 rfl) ?_
  refine lv_iconst (v := 0) hx hb dX6_records_1 (by decide) ?_
  refine kk_put hx hb hts hown hE hW hM.o rfl hiRX6 tyX6 tyX6_ok nmX6 17 (by decide) (hts (.fieldLink RX6 45 "UndoCellarModel" "thrown" "I") (by decide +kernel)) (fun _ h9 => h9) rfl (ty := tyX6 17) (tyX6_ok 17 (by decide)) rfl rfl (Nat.le_of_ble_eq_true rfl) dX6_records_2 (fun H3 locs w1 e2 hW => ?_)
  have hM := hM.s17 e2
  refine lv_aload_n hx hb dX6_records_5 rfl (lv_at hl 0 rfl) ?_
  refine kk_get hx hb hts hown hE hW (show w1 2000 = some (.inr (7, [.ref (ad 2001), .int (S 10 0), .int (S 11 0), .int (S 12 0), .ref (ad 2002), .ref (ad 2003), .ref (ad 2004), .int (S 13 0), .ref (ad 2005), .ref (ad 2006), .ref (ad 2007), .ref (ad 2008), .int (S 14 0), .ref (ad 2009), .ref (ad 2010), .int (S 15 0), .int (S 16 0), .int (0)])) from hM.o) rfl hiRX6 7 (by decide) (hts (.fieldLink RX6 55 "UndoCellarModel" "changes" "I") (by decide +kernel)) (fun _ h9 => h9) rfl dX6_records_6 ?_
  refine lv_aload_n hx hb dX6_records_9 rfl (lv_at hl 0 rfl) ?_
  refine kk_get hx hb hts hown hE hW (show w1 2000 = some (.inr (7, [.ref (ad 2001), .int (S 10 0), .int (S 11 0), .int (S 12 0), .ref (ad 2002), .ref (ad 2003), .ref (ad 2004), .int (S 13 0), .ref (ad 2005), .ref (ad 2006), .ref (ad 2007), .ref (ad 2008), .int (S 14 0), .ref (ad 2009), .ref (ad 2010), .int (S 15 0), .int (S 16 0), .int (0)])) from hM.o) rfl hiRX6 12 (by decide) (hts (.fieldLink RX6 58 "UndoCellarModel" "dropped" "I") (by decide +kernel)) (fun _ h9 => h9) rfl dX6_records_10 ?_
  refine lv_isub hx hb dX6_records_13 ?_
  exact ke_i hx hb hr hlocks (Nat.le_of_ble_eq_true rfl) (Nat.le_of_ble_eq_true rfl) dX6_records_14 hW (⟨rfl, rfl, hM⟩)

set_option maxHeartbeats 4000000 in
set_option maxRecDepth 100000 in
/-- c_dropped -/
theorem c_dropped (l : Launch) (D : va_G) (A : Nat → Prop) (ad : Nat → Nat) (w : kWd) (S : St) (hM : MW D S ad w w)  : Met l yX6_dropped wsX6_dropped ({ frames := 0, cells := 0, slots := 0, locals := 0 }) (kPc D A [.ref (ad 2000)] ad w) (kQi D A (fun v ad' w' => v = S 14 0 ∧ ad' = ad ∧ MW D (sS S 17 0) ad w w')) 0 0 A := by
  refine Met.ofW (cc := cX6_dropped) (maxL := 1) (ret := (some (.int))) (by decide) rfl ?_
  intro p e s m args below meth c s₁ B hml hv
  obtain ⟨rfl, hE, hW0, hI0, hA⟩ := hv
  have hx := B.exec
  have hb := B.bytes
  have hr := B.returns
  have hts := atoms_spec (ws := wsX6_dropped) B.pre
  have hown : s.vm.findClass RX6 = some m.cls := findClass_of_methodNamed B.named
  have hlocks := B.notSynchronized
  have hiRX6 : ∀ w ∈ wsX60, w ∈ wsX6_dropped := by decide +kernel
  have hW : kS D A s.heap ad w s.heap [] := ⟨hW0, hI0, va_S.rf, hA⟩
  have hl := lv_entry ([.ref (ad 2000)]) (n := 1) (Nat.le_of_ble_eq_true rfl)
  rw [lg_entry_eq]
  generalize (lg_sl ([.ref (ad 2000)]) ++ List.replicate (1 - (lg_sl ([.ref (ad 2000)])).length) Slot.unset).toArray = ls at hl ⊢
  have hl : lv_has ls 1 [(0, .ref (ad 2000))] := hl
  refine lv_aload_n hx hb dX6_dropped_0 rfl (lv_at hl 0 rfl) ?_
  refine lv_iconst (v := 0) hx hb dX6_dropped_1 (by decide) ?_
  refine kk_put hx hb hts hown hE hW hM.o rfl hiRX6 tyX6 tyX6_ok nmX6 17 (by decide) (hts (.fieldLink RX6 45 "UndoCellarModel" "thrown" "I") (by decide +kernel)) (fun _ h9 => h9) rfl (ty := tyX6 17) (tyX6_ok 17 (by decide)) rfl rfl (Nat.le_of_ble_eq_true rfl) dX6_dropped_2 (fun H3 locs w1 e2 hW => ?_)
  have hM := hM.s17 e2
  refine lv_aload_n hx hb dX6_dropped_5 rfl (lv_at hl 0 rfl) ?_
  refine kk_get hx hb hts hown hE hW (show w1 2000 = some (.inr (7, [.ref (ad 2001), .int (S 10 0), .int (S 11 0), .int (S 12 0), .ref (ad 2002), .ref (ad 2003), .ref (ad 2004), .int (S 13 0), .ref (ad 2005), .ref (ad 2006), .ref (ad 2007), .ref (ad 2008), .int (S 14 0), .ref (ad 2009), .ref (ad 2010), .int (S 15 0), .int (S 16 0), .int (0)])) from hM.o) rfl hiRX6 12 (by decide) (hts (.fieldLink RX6 58 "UndoCellarModel" "dropped" "I") (by decide +kernel)) (fun _ h9 => h9) rfl dX6_dropped_6 ?_
  exact ke_i hx hb hr hlocks (Nat.le_of_ble_eq_true rfl) (Nat.le_of_ble_eq_true rfl) dX6_dropped_9 hW (⟨rfl, rfl, hM⟩)

set_option maxHeartbeats 4000000 in
set_option maxRecDepth 100000 in
/-- c_now -/
theorem c_now (l : Launch) (D : va_G) (A : Nat → Prop) (ad : Nat → Nat) (w : kWd) (S : St) (hM : MW D S ad w w) (r : Int32) : Met l yX6_now wsX6_now ({ frames := 2, cells := 0, slots := 0, locals := 42 }) (kPc D A [.ref (ad 2000), .int r] ad w) (kQi D A (fun v ad' w' => v = noR S r ∧ ad' = ad ∧ MW D (sS S 17 (noK r)) ad w w')) 0 0 A := by
  refine Met.ofW (cc := cX6_now) (maxL := 2) (ret := (some (.int))) (by decide) rfl ?_
  intro p e s m args below meth c s₁ B hml hv
  obtain ⟨rfl, hE, hW0, hI0, hA⟩ := hv
  have hx := B.exec
  have hb := B.bytes
  have hr := B.returns
  have hts := atoms_spec (ws := wsX6_now) B.pre
  have hown : s.vm.findClass RX6 = some m.cls := findClass_of_methodNamed B.named
  have hlocks := B.notSynchronized
  have hiRX6 : ∀ w ∈ wsX60, w ∈ wsX6_now := by decide +kernel
  have hW : kS D A s.heap ad w s.heap [] := ⟨hW0, hI0, va_S.rf, hA⟩
  have hl := lv_entry ([.ref (ad 2000), .int r]) (n := 2) (Nat.le_of_ble_eq_true rfl)
  rw [lg_entry_eq]
  generalize (lg_sl ([.ref (ad 2000), .int r]) ++ List.replicate (2 - (lg_sl ([.ref (ad 2000), .int r])).length) Slot.unset).toArray = ls at hl ⊢
  have hl : lv_has ls 2 [(0, .ref (ad 2000)), (1, .int r)] := hl
  refine lv_aload_n hx hb dX6_now_0 rfl (lv_at hl 0 rfl) ?_
  refine lv_iload_n hx hb dX6_now_1 rfl (lv_at hl 1 rfl) ?_
  refine W_joinH (D := D) (A := A) (w := w) (ad := ad) (P := fun v => v = noK r) (pj := 13) (rj := [.ref (ad 2000)]) (lj := ls) (fun v H1 locs hv hW => ?_) (fun J13 => ?_)
  · subst hv
    refine kk_i (va_runV (As := [.int (noK r)]) (rest := []) ⟨hx, hb, hml, hown, hts⟩ (c_can l D A ad w (S) hM.re (noK r)) (cwV 1 hts gX6_now_X6_can rfl rfl rfl (by decide +kernel) ⟨Nat.le_of_ble_eq_true rfl, Nat.le_of_ble_eq_true rfl⟩) (kV hE hW hM.o rfl _) rfl rfl hl.1 rfl (lv_room (Nat.le_of_ble_eq_true rfl)) dX6_now_13 ⟨Nat.le_of_ble_eq_true rfl, Nat.le_of_ble_eq_true rfl⟩) hW (fun r5 ad2 w3 H6 locs hp4 hW => ?_)
    obtain ⟨e7, e8, e9⟩ := hp4
    rw [e8] at hW
    have hM := hM.tr e9
    subst e7
    refine lv_if_eq (tgt := 28) hx hb dX6_now_16 (by decide) (fun c10 => ?_) (fun c10 => ?_)
    · refine lv_iconst (v := 0) hx hb dX6_now_28 (by decide) ?_
      exact ke_i hx hb hr hlocks (Nat.le_of_ble_eq_true rfl) (Nat.le_of_ble_eq_true rfl) dX6_now_29 hW (⟨(if_neg (bI_f c10)).symm, rfl, hM⟩)
    · have ho := bI_t c10
      have hro9 : roP r := by
        refine Decidable.byContradiction fun q => ?_
        rw [show noK r = 1 from if_neg q] at ho
        exact absurd ho (by decide)
      have hv12 : vp_in r 12 := by
        obtain ⟨j, h1, rfl⟩ := inP_N (n := 11) (by decide) (hro9)
        exact vp_in_nI (by omega) (by decide)
      refine lv_aload_n hx hb dX6_now_19 rfl (lv_at hl 0 rfl) ?_
      refine kk_get hx hb hts hown hE hW hM.o rfl hiRX6 0 (by decide) (hts (.fieldLink RX6 7 "UndoCellarModel" "value" "[I") (by decide +kernel)) (fun _ h9 => h9) rfl dX6_now_20 ?_
      refine lv_iload_n hx hb dX6_now_23 rfl (lv_at hl 1 rfl) ?_
      refine kk_iald hx hb hE hW hM.a0 hv12 dX6_now_24 ?_
      refine lv_goto (tgt := 29) hx hb dX6_now_25 (by decide) ?_
      exact ke_i hx hb hr hlocks (Nat.le_of_ble_eq_true rfl) (Nat.le_of_ble_eq_true rfl) dX6_now_29 hW (⟨(if_pos ho).symm, rfl, hM⟩)
  · refine kk_i (va_runS (As := [.int r]) (rest := [.ref (ad 2000)]) ⟨hx, hb, hml, hown, hts⟩ (c_isRow l D A ad w r) (cwS 1 hts gX6_now_X6_isRow rfl rfl rfl (by decide +kernel) ⟨Nat.le_of_ble_eq_true rfl, Nat.le_of_ble_eq_true rfl⟩) (kSt hE hW _) rfl rfl hl.1 rfl (lv_room (Nat.le_of_ble_eq_true rfl)) dX6_now_2 ⟨Nat.le_of_ble_eq_true rfl, Nat.le_of_ble_eq_true rfl⟩) hW (fun r14 ad11 w12 H15 locs hp13 hW => ?_)
    obtain ⟨e16, e17, e18⟩ := hp13
    rw [e17, e18] at hW
    subst e16
    refine lv_if_eq (tgt := 12) hx hb dX6_now_5 (by decide) (fun c19 => ?_) (fun c19 => ?_)
    · refine lv_iconst (v := 1) hx hb dX6_now_12 (by decide) ?_
      exact J13 _ _ _ ((if_neg (bI_f c19)).symm) hW
    · refine lv_iconst (v := 0) hx hb dX6_now_8 (by decide) ?_
      refine lv_goto (tgt := 13) hx hb dX6_now_9 (by decide) ?_
      exact J13 _ _ _ ((if_pos (bI_t c19)).symm) hW

set_option maxHeartbeats 4000000 in
set_option maxRecDepth 100000 in
/-- c_lockOf -/
theorem c_lockOf (l : Launch) (D : va_G) (A : Nat → Prop) (ad : Nat → Nat) (w : kWd) (S : St) (hM : MW D S ad w w) (r : Int32) (nC : Nat) (hC : S 13 0 = nI nC) (hn : nC ≤ 2000) (hby : ∀ k, k < nC → vp_in (S 4 k) 60)  : Met l yX6_lockOf wsX6_lockOf ({ frames := 2, cells := 0, slots := 0, locals := 44 }) (kPc D A [.ref (ad 2000), .int r] ad w) (kQi D A (fun v ad' w' => v = loR S r ∧ ad' = ad ∧ MW D (sS S 17 (noK r)) ad w w')) 0 0 A := by
  refine Met.ofW (cc := cX6_lockOf) (maxL := 2) (ret := (some (.int))) (by decide) rfl ?_
  intro p e s m args below meth c s₁ B hml hv
  obtain ⟨rfl, hE, hW0, hI0, hA⟩ := hv
  have hx := B.exec
  have hb := B.bytes
  have hr := B.returns
  have hts := atoms_spec (ws := wsX6_lockOf) B.pre
  have hown : s.vm.findClass RX6 = some m.cls := findClass_of_methodNamed B.named
  have hlocks := B.notSynchronized
  have hW : kS D A s.heap ad w s.heap [] := ⟨hW0, hI0, va_S.rf, hA⟩
  have hl := lv_entry ([.ref (ad 2000), .int r]) (n := 2) (Nat.le_of_ble_eq_true rfl)
  rw [lg_entry_eq]
  generalize (lg_sl ([.ref (ad 2000), .int r]) ++ List.replicate (2 - (lg_sl ([.ref (ad 2000), .int r])).length) Slot.unset).toArray = ls at hl ⊢
  have hl : lv_has ls 2 [(0, .ref (ad 2000)), (1, .int r)] := hl
  refine lv_aload_n hx hb dX6_lockOf_0 rfl (lv_at hl 0 rfl) ?_
  refine lv_iload_n hx hb dX6_lockOf_1 rfl (lv_at hl 1 rfl) ?_
  refine W_joinH (D := D) (A := A) (w := w) (ad := ad) (P := fun v => v = noK r) (pj := 13) (rj := [.ref (ad 2000)]) (lj := ls) (fun v H1 locs hv hW => ?_) (fun J13 => ?_)
  · subst hv
    refine kk_i (va_runV (As := [.int (noK r)]) (rest := []) ⟨hx, hb, hml, hown, hts⟩ (c_can l D A ad w (S) hM.re (noK r)) (cwV 1 hts gX6_lockOf_X6_can rfl rfl rfl (by decide +kernel) ⟨Nat.le_of_ble_eq_true rfl, Nat.le_of_ble_eq_true rfl⟩) (kV hE hW hM.o rfl _) rfl rfl hl.1 rfl (lv_room (Nat.le_of_ble_eq_true rfl)) dX6_lockOf_13 ⟨Nat.le_of_ble_eq_true rfl, Nat.le_of_ble_eq_true rfl⟩) hW (fun r5 ad2 w3 H6 locs hp4 hW => ?_)
    obtain ⟨e7, e8, e9⟩ := hp4
    rw [e8] at hW
    have hM := hM.tr e9
    subst e7
    refine lv_if_eq (tgt := 27) hx hb dX6_lockOf_16 (by decide) (fun c10 => ?_) (fun c10 => ?_)
    · refine lv_iconst (v := 0) hx hb dX6_lockOf_27 (by decide) ?_
      exact ke_i hx hb hr hlocks (Nat.le_of_ble_eq_true rfl) (Nat.le_of_ble_eq_true rfl) dX6_lockOf_28 hW (⟨(if_neg (bI_f c10)).symm, rfl, hM⟩)
    · refine lv_aload_n hx hb dX6_lockOf_19 rfl (lv_at hl 0 rfl) ?_
      refine lv_iload_n hx hb dX6_lockOf_20 rfl (lv_at hl 1 rfl) ?_
      refine kk_i (va_runV (As := [.int r]) (rest := []) ⟨hx, hb, hml, hown, hts⟩ (c_lockOn l D A ad w3 ((sS S 17 (noK r))) hM.re r nC hC hn hby) (cwV 1 hts gX6_lockOf_X6_lockOn rfl rfl rfl (by decide +kernel) ⟨Nat.le_of_ble_eq_true rfl, Nat.le_of_ble_eq_true rfl⟩) (kV hE hW hM.o rfl _) rfl rfl hl.1 rfl (lv_room (Nat.le_of_ble_eq_true rfl)) dX6_lockOf_21 ⟨Nat.le_of_ble_eq_true rfl, Nat.le_of_ble_eq_true rfl⟩) hW (fun r14 ad11 w12 H15 locs hp13 hW => ?_)
      obtain ⟨e16, e17, e18⟩ := hp13
      rw [e17, e18] at hW
      subst e16
      refine lv_goto (tgt := 28) hx hb dX6_lockOf_24 (by decide) ?_
      exact ke_i hx hb hr hlocks (Nat.le_of_ble_eq_true rfl) (Nat.le_of_ble_eq_true rfl) dX6_lockOf_28 hW (⟨(if_pos (bI_t c10)).symm, rfl, hM⟩)
  · refine kk_i (va_runS (As := [.int r]) (rest := [.ref (ad 2000)]) ⟨hx, hb, hml, hown, hts⟩ (c_isRow l D A ad w r) (cwS 1 hts gX6_lockOf_X6_isRow rfl rfl rfl (by decide +kernel) ⟨Nat.le_of_ble_eq_true rfl, Nat.le_of_ble_eq_true rfl⟩) (kSt hE hW _) rfl rfl hl.1 rfl (lv_room (Nat.le_of_ble_eq_true rfl)) dX6_lockOf_2 ⟨Nat.le_of_ble_eq_true rfl, Nat.le_of_ble_eq_true rfl⟩) hW (fun r22 ad19 w20 H23 locs hp21 hW => ?_)
    obtain ⟨e24, e25, e26⟩ := hp21
    rw [e25, e26] at hW
    subst e24
    refine lv_if_eq (tgt := 12) hx hb dX6_lockOf_5 (by decide) (fun c27 => ?_) (fun c27 => ?_)
    · refine lv_iconst (v := 1) hx hb dX6_lockOf_12 (by decide) ?_
      exact J13 _ _ _ ((if_neg (bI_f c27)).symm) hW
    · refine lv_iconst (v := 0) hx hb dX6_lockOf_8 (by decide) ?_
      refine lv_goto (tgt := 13) hx hb dX6_lockOf_9 (by decide) ?_
      exact J13 _ _ _ ((if_pos (bI_t c27)).symm) hW

set_option maxHeartbeats 4000000 in
set_option maxRecDepth 100000 in
/-- c_versionAt -/
theorem c_versionAt (l : Launch) (D : va_G) (A : Nat → Prop) (ad : Nat → Nat) (w : kWd) (S : St) (hM : MW D S ad w w) (mm r : Int32) (nC : Nat) (hC : S 13 0 = nI nC) (hn : nC ≤ 2000) (hby : ∀ k, k < nC → vp_in (S 4 k) 60)  : Met l yX6_versionAt wsX6_versionAt ({ frames := 2, cells := 0, slots := 0, locals := 42 }) (kPc D A [.ref (ad 2000), .int mm, .int r] ad w) (kQi D A (fun v ad' w' => v = vrR S mm r ∧ ad' = ad ∧ MW D (vrN S mm r) ad w w')) 0 0 A := by
  refine Met.ofW (cc := cX6_versionAt) (maxL := 3) (ret := (some (.int))) (by decide) rfl ?_
  intro p e s m args below meth c s₁ B hml hv
  obtain ⟨rfl, hE, hW0, hI0, hA⟩ := hv
  have hx := B.exec
  have hb := B.bytes
  have hr := B.returns
  have hts := atoms_spec (ws := wsX6_versionAt) B.pre
  have hown : s.vm.findClass RX6 = some m.cls := findClass_of_methodNamed B.named
  have hlocks := B.notSynchronized
  have hiRX6 : ∀ w ∈ wsX60, w ∈ wsX6_versionAt := by decide +kernel
  have hW : kS D A s.heap ad w s.heap [] := ⟨hW0, hI0, va_S.rf, hA⟩
  have hl := lv_entry ([.ref (ad 2000), .int mm, .int r]) (n := 3) (Nat.le_of_ble_eq_true rfl)
  rw [lg_entry_eq]
  generalize (lg_sl ([.ref (ad 2000), .int mm, .int r]) ++ List.replicate (3 - (lg_sl ([.ref (ad 2000), .int mm, .int r])).length) Slot.unset).toArray = ls at hl ⊢
  have hl : lv_has ls 3 [(0, .ref (ad 2000)), (1, .int mm), (2, .int r)] := hl
  refine lv_aload_n hx hb dX6_versionAt_0 rfl (lv_at hl 0 rfl) ?_
  refine lv_iload_n hx hb dX6_versionAt_1 rfl (lv_at hl 2 rfl) ?_
  refine W_joinH (D := D) (A := A) (w := w) (ad := ad) (P := fun v => v = vrK S mm r) (pj := 29) (rj := [.ref (ad 2000)]) (lj := ls) (fun v H1 locs hv hW => ?_) (fun J29 => ?_)
  · subst hv
    refine kk_i (va_runV (As := [.int (vrK S mm r)]) (rest := []) ⟨hx, hb, hml, hown, hts⟩ (c_can l D A ad w (S) hM.re (vrK S mm r)) (cwV 1 hts gX6_versionAt_X6_can rfl rfl rfl (by decide +kernel) ⟨Nat.le_of_ble_eq_true rfl, Nat.le_of_ble_eq_true rfl⟩) (kV hE hW hM.o rfl _) rfl rfl hl.1 rfl (lv_room (Nat.le_of_ble_eq_true rfl)) dX6_versionAt_29 ⟨Nat.le_of_ble_eq_true rfl, Nat.le_of_ble_eq_true rfl⟩) hW (fun r5 ad2 w3 H6 locs hp4 hW => ?_)
    obtain ⟨e7, e8, e9⟩ := hp4
    rw [e8] at hW
    have hM := hM.tr e9
    subst e7
    refine lv_if_eq (tgt := 45) hx hb dX6_versionAt_32 (by decide) (fun c10 => ?_) (fun c10 => ?_)
    · refine lv_iconst (v := 0) hx hb dX6_versionAt_45 (by decide) ?_
      exact ke_i hx hb hr hlocks (Nat.le_of_ble_eq_true rfl) (Nat.le_of_ble_eq_true rfl) dX6_versionAt_46 hW (⟨(if_neg (bI_f c10)).symm, rfl, by rw [show vrN S mm r = _ from if_neg (bI_f c10)]; exact hM⟩)
    · have ho := bI_t c10
      have hro9 : roP r := by
        refine Decidable.byContradiction fun q => ?_
        rw [show vrK S mm r = 1 from if_neg q] at ho
        exact absurd ho (by decide)
      have hv12 : vp_in r 12 := by
        obtain ⟨j, h1, rfl⟩ := inP_N (n := 11) (by decide) (hro9)
        exact vp_in_nI (by omega) (by decide)
      refine lv_aload_n hx hb dX6_versionAt_35 rfl (lv_at hl 0 rfl) ?_
      refine lv_iload_n hx hb dX6_versionAt_36 rfl (lv_at hl 1 rfl) ?_
      refine lv_iload_n hx hb dX6_versionAt_37 rfl (lv_at hl 2 rfl) ?_
      refine lv_iconst (v := (-1)) hx hb dX6_versionAt_38 (by decide) ?_
      refine kk_i (va_runV (As := [.int mm, .int r, .int (-1)]) (rest := []) ⟨hx, hb, hml, hown, hts⟩ (c_valueAt l D A ad w3 ((sS S 17 (vrK S mm r))) hM.re mm r (-1) hv12 nC hC hn hby) (cwV 3 hts gX6_versionAt_X6_valueAt rfl rfl rfl (by decide +kernel) ⟨Nat.le_of_ble_eq_true rfl, Nat.le_of_ble_eq_true rfl⟩) (kV hE hW hM.o rfl _) rfl rfl hl.1 rfl (lv_room (Nat.le_of_ble_eq_true rfl)) dX6_versionAt_39 ⟨Nat.le_of_ble_eq_true rfl, Nat.le_of_ble_eq_true rfl⟩) hW (fun r14 ad11 w12 H15 locs hp13 hW => ?_)
      obtain ⟨e16, e17, e18⟩ := hp13
      rw [e17] at hW
      have hM := hM.tr e18
      subst e16
      refine lv_goto (tgt := 46) hx hb dX6_versionAt_42 (by decide) ?_
      exact ke_i hx hb hr hlocks (Nat.le_of_ble_eq_true rfl) (Nat.le_of_ble_eq_true rfl) dX6_versionAt_46 hW (⟨(if_pos ho).symm, rfl, by rw [show vrN S mm r = _ from if_pos ho]; exact hM⟩)
  · refine kk_i (va_runS (As := [.int r]) (rest := [.ref (ad 2000)]) ⟨hx, hb, hml, hown, hts⟩ (c_isRow l D A ad w r) (cwS 1 hts gX6_versionAt_X6_isRow rfl rfl rfl (by decide +kernel) ⟨Nat.le_of_ble_eq_true rfl, Nat.le_of_ble_eq_true rfl⟩) (kSt hE hW _) rfl rfl hl.1 rfl (lv_room (Nat.le_of_ble_eq_true rfl)) dX6_versionAt_2 ⟨Nat.le_of_ble_eq_true rfl, Nat.le_of_ble_eq_true rfl⟩) hW (fun r22 ad19 w20 H23 locs hp21 hW => ?_)
    obtain ⟨e24, e25, e26⟩ := hp21
    rw [e25, e26] at hW
    subst e24
    refine lv_if_ne (tgt := 12) hx hb dX6_versionAt_5 (by decide) (fun c27 => ?_) (fun c27 => ?_)
    · refine lv_iload_n hx hb dX6_versionAt_12 rfl (lv_at hl 1 rfl) ?_
      refine lv_iconst (v := 0) hx hb dX6_versionAt_13 (by decide) ?_
      refine lv_aload_n hx hb dX6_versionAt_14 rfl (lv_at hl 0 rfl) ?_
      refine kk_get hx hb hts hown hE hW hM.o rfl hiRX6 2 (by decide) (hts (.fieldLink RX6 65 "UndoCellarModel" "moment" "I") (by decide +kernel)) (fun _ h9 => h9) rfl dX6_versionAt_15 ?_
      refine kk_i (va_runS (As := [.int mm, .int 0, .int (S 11 0)]) (rest := [.ref (ad 2000)]) ⟨hx, hb, hml, hown, hts⟩ (c_isIn l D A ad w mm 0 (S 11 0)) (cwS 3 hts gX6_versionAt_X6_isIn rfl rfl rfl (by decide +kernel) ⟨Nat.le_of_ble_eq_true rfl, Nat.le_of_ble_eq_true rfl⟩) (kSt hE hW _) rfl rfl hl.1 rfl (lv_room (Nat.le_of_ble_eq_true rfl)) dX6_versionAt_18 ⟨Nat.le_of_ble_eq_true rfl, Nat.le_of_ble_eq_true rfl⟩) hW (fun r31 ad28 w29 H32 locs hp30 hW => ?_)
      obtain ⟨e33, e34, e35⟩ := hp30
      rw [e34, e35] at hW
      subst e33
      refine lv_if_eq (tgt := 28) hx hb dX6_versionAt_21 (by decide) (fun c36 => ?_) (fun c36 => ?_)
      · refine lv_iconst (v := 2) hx hb dX6_versionAt_28 (by decide) ?_
        exact J29 _ _ _ (((if_pos (bI_t c27)).trans (if_neg (bI_f c36))).symm) hW
      · refine lv_iconst (v := 0) hx hb dX6_versionAt_24 (by decide) ?_
        refine lv_goto (tgt := 29) hx hb dX6_versionAt_25 (by decide) ?_
        exact J29 _ _ _ (((if_pos (bI_t c27)).trans (if_pos (bI_t c36))).symm) hW
    · refine lv_iconst (v := 1) hx hb dX6_versionAt_8 (by decide) ?_
      refine lv_goto (tgt := 29) hx hb dX6_versionAt_9 (by decide) ?_
      exact J29 _ _ _ ((if_neg (bI_f c27)).symm) hW

set_option maxHeartbeats 4000000 in
set_option maxRecDepth 100000 in
/-- c_isSlot -/
theorem c_isSlot (l : Launch) (D : va_G) (A : Nat → Prop) (ad : Nat → Nat) (w : kWd) (b k : Int32) : Met l yX6_isSlot wsX6_isSlot ({ frames := 1, cells := 0, slots := 0, locals := 22 }) (kPc D A [.int b, .int k] ad w) (kQi D A (fun v ad' w' => v = bI (slP b k) ∧ ad' = ad ∧ w' = w)) 0 0 A := by
  refine Met.ofW (cc := cX6_isSlot) (maxL := 2) (ret := (some (.boolean))) (by decide) rfl ?_
  intro p e s m args below meth c s₁ B hml hv
  obtain ⟨rfl, hE, hW0, hI0, hA⟩ := hv
  have hx := B.exec
  have hb := B.bytes
  have hr := B.returns
  have hts := atoms_spec (ws := wsX6_isSlot) B.pre
  have hown : s.vm.findClass RX6 = some m.cls := findClass_of_methodNamed B.named
  have hlocks := B.notSynchronized
  have hW : kS D A s.heap ad w s.heap [] := ⟨hW0, hI0, va_S.rf, hA⟩
  have hl := lv_entry ([.int b, .int k]) (n := 2) (Nat.le_of_ble_eq_true rfl)
  rw [lg_entry_eq]
  generalize (lg_sl ([.int b, .int k]) ++ List.replicate (2 - (lg_sl ([.int b, .int k])).length) Slot.unset).toArray = ls at hl ⊢
  have hl : lv_has ls 2 [(0, .int b), (1, .int k)] := hl
  refine lv_iload_n hx hb dX6_isSlot_0 rfl (lv_at hl 0 rfl) ?_
  refine lv_iconst (v := 0) hx hb dX6_isSlot_1 (by decide) ?_
  refine lv_iconst (v := 2) hx hb dX6_isSlot_2 (by decide) ?_
  refine kk_i (va_runS (As := [.int b, .int 0, .int 2]) (rest := []) ⟨hx, hb, hml, hown, hts⟩ (c_isIn l D A ad w b 0 2) (cwS 3 hts gX6_isSlot_X6_isIn rfl rfl rfl (by decide +kernel) ⟨Nat.le_of_ble_eq_true rfl, Nat.le_of_ble_eq_true rfl⟩) (kSt hE hW _) rfl rfl hl.1 rfl (lv_room (Nat.le_of_ble_eq_true rfl)) dX6_isSlot_3 ⟨Nat.le_of_ble_eq_true rfl, Nat.le_of_ble_eq_true rfl⟩) hW (fun r4 ad1 w2 H5 locs hp3 hW => ?_)
  obtain ⟨e6, e7, e8⟩ := hp3
  rw [e7, e8] at hW
  subst e6
  refine lv_if_eq (tgt := 22) hx hb dX6_isSlot_6 (by decide) (fun c9 => ?_) (fun c9 => ?_)
  · refine lv_iconst (v := 0) hx hb dX6_isSlot_22 (by decide) ?_
    exact ke_z hx hb hr hlocks (Nat.le_of_ble_eq_true rfl) (Nat.le_of_ble_eq_true rfl) dX6_isSlot_23 (by first | exact Or.inl rfl | exact Or.inr rfl | assumption) hW (⟨(bI_0 (fun q => (bI_f c9) q.1)).symm, rfl, rfl⟩)
  · refine lv_iload_n hx hb dX6_isSlot_9 rfl (lv_at hl 1 rfl) ?_
    refine lv_iconst (v := 0) hx hb dX6_isSlot_10 (by decide) ?_
    refine lv_iconst (v := 1) hx hb dX6_isSlot_11 (by decide) ?_
    refine kk_i (va_runS (As := [.int k, .int 0, .int 1]) (rest := []) ⟨hx, hb, hml, hown, hts⟩ (c_isIn l D A ad w k 0 1) (cwS 3 hts gX6_isSlot_X6_isIn rfl rfl rfl (by decide +kernel) ⟨Nat.le_of_ble_eq_true rfl, Nat.le_of_ble_eq_true rfl⟩) (kSt hE hW _) rfl rfl hl.1 rfl (lv_room (Nat.le_of_ble_eq_true rfl)) dX6_isSlot_12 ⟨Nat.le_of_ble_eq_true rfl, Nat.le_of_ble_eq_true rfl⟩) hW (fun r13 ad10 w11 H14 locs hp12 hW => ?_)
    obtain ⟨e15, e16, e17⟩ := hp12
    rw [e16, e17] at hW
    subst e15
    refine lv_if_eq (tgt := 22) hx hb dX6_isSlot_15 (by decide) (fun c18 => ?_) (fun c18 => ?_)
    · refine lv_iconst (v := 0) hx hb dX6_isSlot_22 (by decide) ?_
      exact ke_z hx hb hr hlocks (Nat.le_of_ble_eq_true rfl) (Nat.le_of_ble_eq_true rfl) dX6_isSlot_23 (by first | exact Or.inl rfl | exact Or.inr rfl | assumption) hW (⟨(bI_0 (fun q => (bI_f c18) q.2)).symm, rfl, rfl⟩)
    · refine lv_iconst (v := 1) hx hb dX6_isSlot_18 (by decide) ?_
      refine lv_goto (tgt := 23) hx hb dX6_isSlot_19 (by decide) ?_
      exact ke_z hx hb hr hlocks (Nat.le_of_ble_eq_true rfl) (Nat.le_of_ble_eq_true rfl) dX6_isSlot_23 (by first | exact Or.inl rfl | exact Or.inr rfl | assumption) hW (⟨(bI_1 ⟨bI_t c9, bI_t c18⟩).symm, rfl, rfl⟩)

set_option maxHeartbeats 4000000 in
set_option maxRecDepth 100000 in
/-- c_slotOf -/
theorem c_slotOf (l : Launch) (D : va_G) (A : Nat → Prop) (ad : Nat → Nat) (w : kWd) (S : St) (hM : MW D S ad w w) (b k : Int32) : Met l yX6_slotOf wsX6_slotOf ({ frames := 2, cells := 0, slots := 0, locals := 43 }) (kPc D A [.ref (ad 2000), .int b, .int k] ad w) (kQi D A (fun v ad' w' => v = soR S b k ∧ ad' = ad ∧ MW D (sS S 17 (soK b k)) ad w w')) 0 0 A := by
  refine Met.ofW (cc := cX6_slotOf) (maxL := 3) (ret := (some (.int))) (by decide) rfl ?_
  intro p e s m args below meth c s₁ B hml hv
  obtain ⟨rfl, hE, hW0, hI0, hA⟩ := hv
  have hx := B.exec
  have hb := B.bytes
  have hr := B.returns
  have hts := atoms_spec (ws := wsX6_slotOf) B.pre
  have hown : s.vm.findClass RX6 = some m.cls := findClass_of_methodNamed B.named
  have hlocks := B.notSynchronized
  have hiRX6 : ∀ w ∈ wsX60, w ∈ wsX6_slotOf := by decide +kernel
  have hW : kS D A s.heap ad w s.heap [] := ⟨hW0, hI0, va_S.rf, hA⟩
  have hl := lv_entry ([.ref (ad 2000), .int b, .int k]) (n := 3) (Nat.le_of_ble_eq_true rfl)
  rw [lg_entry_eq]
  generalize (lg_sl ([.ref (ad 2000), .int b, .int k]) ++ List.replicate (3 - (lg_sl ([.ref (ad 2000), .int b, .int k])).length) Slot.unset).toArray = ls at hl ⊢
  have hl : lv_has ls 3 [(0, .ref (ad 2000)), (1, .int b), (2, .int k)] := hl
  refine lv_aload_n hx hb dX6_slotOf_0 rfl (lv_at hl 0 rfl) ?_
  refine lv_iload_n hx hb dX6_slotOf_1 rfl (lv_at hl 1 rfl) ?_
  refine lv_iload_n hx hb dX6_slotOf_2 rfl (lv_at hl 2 rfl) ?_
  refine W_joinH (D := D) (A := A) (w := w) (ad := ad) (P := fun v => v = soK b k) (pj := 14) (rj := [.ref (ad 2000)]) (lj := ls) (fun v H1 locs hv hW => ?_) (fun J14 => ?_)
  · subst hv
    refine kk_i (va_runV (As := [.int (soK b k)]) (rest := []) ⟨hx, hb, hml, hown, hts⟩ (c_can l D A ad w (S) hM.re (soK b k)) (cwV 1 hts gX6_slotOf_X6_can rfl rfl rfl (by decide +kernel) ⟨Nat.le_of_ble_eq_true rfl, Nat.le_of_ble_eq_true rfl⟩) (kV hE hW hM.o rfl _) rfl rfl hl.1 rfl (lv_room (Nat.le_of_ble_eq_true rfl)) dX6_slotOf_14 ⟨Nat.le_of_ble_eq_true rfl, Nat.le_of_ble_eq_true rfl⟩) hW (fun r5 ad2 w3 H6 locs hp4 hW => ?_)
    obtain ⟨e7, e8, e9⟩ := hp4
    rw [e8] at hW
    have hM := hM.tr e9
    subst e7
    refine lv_if_eq (tgt := 33) hx hb dX6_slotOf_17 (by decide) (fun c10 => ?_) (fun c10 => ?_)
    · refine lv_iconst (v := 0) hx hb dX6_slotOf_33 (by decide) ?_
      exact ke_i hx hb hr hlocks (Nat.le_of_ble_eq_true rfl) (Nat.le_of_ble_eq_true rfl) dX6_slotOf_34 hW (⟨(if_neg (bI_f c10)).symm, rfl, hM⟩)
    · have ho := bI_t c10
      have hs9 : slP b k := by
        refine Decidable.byContradiction fun q => ?_
        rw [show soK b k = 1 from if_neg q] at ho
        exact absurd ho (by decide)
      have hv6 : vp_in (2 * b + k) 6 := by
        obtain ⟨i, h1, rfl⟩ := inP_N (n := 2) (by decide) hs9.1
        obtain ⟨j, h2, rfl⟩ := inP_N (n := 1) (by decide) hs9.2
        rw [nI_2, nI_add]
        exact vp_in_nI (by omega) (by decide)
      refine lv_aload_n hx hb dX6_slotOf_20 rfl (lv_at hl 0 rfl) ?_
      refine kk_get hx hb hts hown hE hW hM.o rfl hiRX6 13 (by decide) (hts (.fieldLink RX6 39 "UndoCellarModel" "slot" "[I") (by decide +kernel)) (fun _ h9 => h9) rfl dX6_slotOf_21 ?_
      refine lv_iconst (v := 2) hx hb dX6_slotOf_24 (by decide) ?_
      refine lv_iload_n hx hb dX6_slotOf_25 rfl (lv_at hl 1 rfl) ?_
      refine lv_imul hx hb dX6_slotOf_26 ?_
      refine lv_iload_n hx hb dX6_slotOf_27 rfl (lv_at hl 2 rfl) ?_
      refine lv_iadd hx hb dX6_slotOf_28 ?_
      refine kk_iald hx hb hE hW hM.a8 hv6 dX6_slotOf_29 ?_
      refine lv_goto (tgt := 34) hx hb dX6_slotOf_30 (by decide) ?_
      exact ke_i hx hb hr hlocks (Nat.le_of_ble_eq_true rfl) (Nat.le_of_ble_eq_true rfl) dX6_slotOf_34 hW (⟨(if_pos ho).symm, rfl, hM⟩)
  · refine kk_i (va_runS (As := [.int b, .int k]) (rest := [.ref (ad 2000)]) ⟨hx, hb, hml, hown, hts⟩ (c_isSlot l D A ad w b k) (cwS 2 hts gX6_slotOf_X6_isSlot rfl rfl rfl (by decide +kernel) ⟨Nat.le_of_ble_eq_true rfl, Nat.le_of_ble_eq_true rfl⟩) (kSt hE hW _) rfl rfl hl.1 rfl (lv_room (Nat.le_of_ble_eq_true rfl)) dX6_slotOf_3 ⟨Nat.le_of_ble_eq_true rfl, Nat.le_of_ble_eq_true rfl⟩) hW (fun r14 ad11 w12 H15 locs hp13 hW => ?_)
    obtain ⟨e16, e17, e18⟩ := hp13
    rw [e17, e18] at hW
    subst e16
    refine lv_if_eq (tgt := 13) hx hb dX6_slotOf_6 (by decide) (fun c19 => ?_) (fun c19 => ?_)
    · refine lv_iconst (v := 1) hx hb dX6_slotOf_13 (by decide) ?_
      exact J14 _ _ _ ((if_neg (bI_f c19)).symm) hW
    · refine lv_iconst (v := 0) hx hb dX6_slotOf_9 (by decide) ?_
      refine lv_goto (tgt := 14) hx hb dX6_slotOf_10 (by decide) ?_
      exact J14 _ _ _ ((if_pos (bI_t c19)).symm) hW

set_option maxHeartbeats 4000000 in
set_option maxRecDepth 100000 in
/-- c_isMarked -/
theorem c_isMarked (l : Launch) (D : va_G) (A : Nat → Prop) (ad : Nat → Nat) (w : kWd) (S : St) (hM : MW D S ad w w) (b k : Int32) : Met l yX6_isMarked wsX6_isMarked ({ frames := 2, cells := 0, slots := 0, locals := 43 }) (kPc D A [.ref (ad 2000), .int b, .int k] ad w) (kQi D A (fun v ad' w' => v = imR S b k ∧ ad' = ad ∧ MW D (sS S 17 (soK b k)) ad w w')) 0 0 A := by
  refine Met.ofW (cc := cX6_isMarked) (maxL := 3) (ret := (some (.boolean))) (by decide) rfl ?_
  intro p e s m args below meth c s₁ B hml hv
  obtain ⟨rfl, hE, hW0, hI0, hA⟩ := hv
  have hx := B.exec
  have hb := B.bytes
  have hr := B.returns
  have hts := atoms_spec (ws := wsX6_isMarked) B.pre
  have hown : s.vm.findClass RX6 = some m.cls := findClass_of_methodNamed B.named
  have hlocks := B.notSynchronized
  have hiRX6 : ∀ w ∈ wsX60, w ∈ wsX6_isMarked := by decide +kernel
  have hW : kS D A s.heap ad w s.heap [] := ⟨hW0, hI0, va_S.rf, hA⟩
  have hl := lv_entry ([.ref (ad 2000), .int b, .int k]) (n := 3) (Nat.le_of_ble_eq_true rfl)
  rw [lg_entry_eq]
  generalize (lg_sl ([.ref (ad 2000), .int b, .int k]) ++ List.replicate (3 - (lg_sl ([.ref (ad 2000), .int b, .int k])).length) Slot.unset).toArray = ls at hl ⊢
  have hl : lv_has ls 3 [(0, .ref (ad 2000)), (1, .int b), (2, .int k)] := hl
  refine lv_aload_n hx hb dX6_isMarked_0 rfl (lv_at hl 0 rfl) ?_
  refine lv_iload_n hx hb dX6_isMarked_1 rfl (lv_at hl 1 rfl) ?_
  refine lv_iload_n hx hb dX6_isMarked_2 rfl (lv_at hl 2 rfl) ?_
  refine W_joinH (D := D) (A := A) (w := w) (ad := ad) (P := fun v => v = soK b k) (pj := 14) (rj := [.ref (ad 2000)]) (lj := ls) (fun v H1 locs hv hW => ?_) (fun J14 => ?_)
  · subst hv
    refine kk_i (va_runV (As := [.int (soK b k)]) (rest := []) ⟨hx, hb, hml, hown, hts⟩ (c_can l D A ad w (S) hM.re (soK b k)) (cwV 1 hts gX6_isMarked_X6_can rfl rfl rfl (by decide +kernel) ⟨Nat.le_of_ble_eq_true rfl, Nat.le_of_ble_eq_true rfl⟩) (kV hE hW hM.o rfl _) rfl rfl hl.1 rfl (lv_room (Nat.le_of_ble_eq_true rfl)) dX6_isMarked_14 ⟨Nat.le_of_ble_eq_true rfl, Nat.le_of_ble_eq_true rfl⟩) hW (fun r5 ad2 w3 H6 locs hp4 hW => ?_)
    obtain ⟨e7, e8, e9⟩ := hp4
    rw [e8] at hW
    have hM := hM.tr e9
    subst e7
    refine lv_if_eq (tgt := 37) hx hb dX6_isMarked_17 (by decide) (fun c10 => ?_) (fun c10 => ?_)
    · refine lv_iconst (v := 0) hx hb dX6_isMarked_37 (by decide) ?_
      exact ke_z hx hb hr hlocks (Nat.le_of_ble_eq_true rfl) (Nat.le_of_ble_eq_true rfl) dX6_isMarked_38 (by first | exact Or.inl rfl | exact Or.inr rfl | assumption) hW (⟨(bI_0 (fun q => (bI_f c10) q.1)).symm, rfl, hM⟩)
    · have ho := bI_t c10
      have hs9 : slP b k := by
        refine Decidable.byContradiction fun q => ?_
        rw [show soK b k = 1 from if_neg q] at ho
        exact absurd ho (by decide)
      have hv6 : vp_in (2 * b + k) 6 := by
        obtain ⟨i, h1, rfl⟩ := inP_N (n := 2) (by decide) hs9.1
        obtain ⟨j, h2, rfl⟩ := inP_N (n := 1) (by decide) hs9.2
        rw [nI_2, nI_add]
        exact vp_in_nI (by omega) (by decide)
      refine lv_aload_n hx hb dX6_isMarked_20 rfl (lv_at hl 0 rfl) ?_
      refine kk_get hx hb hts hown hE hW hM.o rfl hiRX6 14 (by decide) (hts (.fieldLink RX6 42 "UndoCellarModel" "isEnded" "[Z") (by decide +kernel)) (fun _ h9 => h9) rfl dX6_isMarked_21 ?_
      refine lv_iconst (v := 2) hx hb dX6_isMarked_24 (by decide) ?_
      refine lv_iload_n hx hb dX6_isMarked_25 rfl (lv_at hl 1 rfl) ?_
      refine lv_imul hx hb dX6_isMarked_26 ?_
      refine lv_iload_n hx hb dX6_isMarked_27 rfl (lv_at hl 2 rfl) ?_
      refine lv_iadd hx hb dX6_isMarked_28 ?_
      refine kk_zald hx hb hE hW hM.a9 hv6 dX6_isMarked_29 ?_
      refine lv_if_eq (tgt := 37) hx hb dX6_isMarked_30 (by decide) (fun c11 => ?_) (fun c11 => ?_)
      · refine lv_iconst (v := 0) hx hb dX6_isMarked_37 (by decide) ?_
        exact ke_z hx hb hr hlocks (Nat.le_of_ble_eq_true rfl) (Nat.le_of_ble_eq_true rfl) dX6_isMarked_38 (by first | exact Or.inl rfl | exact Or.inr rfl | assumption) hW (⟨(bI_0 (fun q => q.2 c11)).symm, rfl, hM⟩)
      · refine lv_iconst (v := 1) hx hb dX6_isMarked_33 (by decide) ?_
        refine lv_goto (tgt := 38) hx hb dX6_isMarked_34 (by decide) ?_
        exact ke_z hx hb hr hlocks (Nat.le_of_ble_eq_true rfl) (Nat.le_of_ble_eq_true rfl) dX6_isMarked_38 (by first | exact Or.inl rfl | exact Or.inr rfl | assumption) hW (⟨(bI_1 ⟨ho, c11⟩).symm, rfl, hM⟩)
  · refine kk_i (va_runS (As := [.int b, .int k]) (rest := [.ref (ad 2000)]) ⟨hx, hb, hml, hown, hts⟩ (c_isSlot l D A ad w b k) (cwS 2 hts gX6_isMarked_X6_isSlot rfl rfl rfl (by decide +kernel) ⟨Nat.le_of_ble_eq_true rfl, Nat.le_of_ble_eq_true rfl⟩) (kSt hE hW _) rfl rfl hl.1 rfl (lv_room (Nat.le_of_ble_eq_true rfl)) dX6_isMarked_3 ⟨Nat.le_of_ble_eq_true rfl, Nat.le_of_ble_eq_true rfl⟩) hW (fun r15 ad12 w13 H16 locs hp14 hW => ?_)
    obtain ⟨e17, e18, e19⟩ := hp14
    rw [e18, e19] at hW
    subst e17
    refine lv_if_eq (tgt := 13) hx hb dX6_isMarked_6 (by decide) (fun c20 => ?_) (fun c20 => ?_)
    · refine lv_iconst (v := 1) hx hb dX6_isMarked_13 (by decide) ?_
      exact J14 _ _ _ ((if_neg (bI_f c20)).symm) hW
    · refine lv_iconst (v := 0) hx hb dX6_isMarked_9 (by decide) ?_
      refine lv_goto (tgt := 14) hx hb dX6_isMarked_10 (by decide) ?_
      exact J14 _ _ _ ((if_pos (bI_t c20)).symm) hW
end
section
/-! the reference: its calls -/
set_option maxHeartbeats 4000000 in
set_option maxRecDepth 100000 in
/-- c_readAt -/
theorem c_readAt (l : Launch) (D : va_G) (A : Nat → Prop) (ad : Nat → Nat) (w : kWd) (S : St) (hM : MW D S ad w w) (mm r : Int32) (nC : Nat) (hC : S 13 0 = nI nC) (hn : nC ≤ 2000) (hby : ∀ k, k < nC → vp_in (S 4 k) 60) (hsl : ∀ k, k < 6 → S 8 k ≠ -1 → vp_in (S 8 k) 60)  : Met l yX6_readAt wsX6_readAt ({ frames := 2, cells := 0, slots := 0, locals := 43 }) (kPc D A [.ref (ad 2000), .int mm, .int r] ad w) (kQi D A (fun v ad' w' => v = rdR S mm r (-1) (vrK S mm r) ∧ ad' = ad ∧ MW D (rdN S mm r (-1) (vrK S mm r)) ad w w')) 0 0 A := by
  refine Met.ofW (cc := cX6_readAt) (maxL := 4) (ret := (some (.int))) (by decide) rfl ?_
  intro p e s m args below meth c s₁ B hml hv
  obtain ⟨rfl, hE, hW0, hI0, hA⟩ := hv
  have hx := B.exec
  have hb := B.bytes
  have hr := B.returns
  have hts := atoms_spec (ws := wsX6_readAt) B.pre
  have hown : s.vm.findClass RX6 = some m.cls := findClass_of_methodNamed B.named
  have hlocks := B.notSynchronized
  have hiRX6 : ∀ w ∈ wsX60, w ∈ wsX6_readAt := by decide +kernel
  have hW : kS D A s.heap ad w s.heap [] := ⟨hW0, hI0, va_S.rf, hA⟩
  have hl := lv_entry ([.ref (ad 2000), .int mm, .int r]) (n := 4) (Nat.le_of_ble_eq_true rfl)
  rw [lg_entry_eq]
  generalize (lg_sl ([.ref (ad 2000), .int mm, .int r]) ++ List.replicate (4 - (lg_sl ([.ref (ad 2000), .int mm, .int r])).length) Slot.unset).toArray = ls at hl ⊢
  have hl : lv_has ls 4 [(0, .ref (ad 2000)), (1, .int mm), (2, .int r)] := hl
  refine lv_aload_n hx hb dX6_readAt_0 rfl (lv_at hl 0 rfl) ?_
  refine lv_iload_n hx hb dX6_readAt_1 rfl (lv_at hl 2 rfl) ?_
  refine W_joinH (D := D) (A := A) (w := w) (ad := ad) (P := fun v => v = vrK S mm r) (pj := 29) (rj := [.ref (ad 2000)]) (lj := ls) (fun v H1 locs hv hW => ?_) (fun J29 => ?_)
  · subst hv
    refine kk_i (va_runV (As := [.int (vrK S mm r)]) (rest := []) ⟨hx, hb, hml, hown, hts⟩ (c_can l D A ad w (S) hM.re (vrK S mm r)) (cwV 1 hts gX6_readAt_X6_can rfl rfl rfl (by decide +kernel) ⟨Nat.le_of_ble_eq_true rfl, Nat.le_of_ble_eq_true rfl⟩) (kV hE hW hM.o rfl _) rfl rfl hl.1 rfl (lv_room (Nat.le_of_ble_eq_true rfl)) dX6_readAt_29 ⟨Nat.le_of_ble_eq_true rfl, Nat.le_of_ble_eq_true rfl⟩) hW (fun r5 ad2 w3 H6 locs hp4 hW => ?_)
    obtain ⟨e7, e8, e9⟩ := hp4
    rw [e8] at hW
    have hM := hM.tr e9
    subst e7
    refine lv_if_ne (tgt := 37) hx hb dX6_readAt_32 (by decide) (fun c10 => ?_) (fun c10 => ?_)
    · have ho := bI_t c10
      have hro9 : roP r := by
        refine Decidable.byContradiction fun q => ?_
        rw [show vrK S mm r = 1 from if_neg q] at ho
        exact absurd ho (by decide)
      have hv12 : vp_in r 12 := by
        obtain ⟨j, h1, rfl⟩ := inP_N (n := 11) (by decide) (hro9)
        exact vp_in_nI (by omega) (by decide)
      refine lv_aload_n hx hb dX6_readAt_37 rfl (lv_at hl 0 rfl) ?_
      refine lv_iload_n hx hb dX6_readAt_38 rfl (lv_at hl 1 rfl) ?_
      refine lv_iload_n hx hb dX6_readAt_39 rfl (lv_at hl 2 rfl) ?_
      refine lv_iconst (v := (-1)) hx hb dX6_readAt_40 (by decide) ?_
      refine kk_i (va_runV (As := [.int mm, .int r, .int (-1)]) (rest := []) ⟨hx, hb, hml, hown, hts⟩ (c_valueAt l D A ad w3 ((sS S 17 (vrK S mm r))) hM.re mm r (-1) hv12 nC hC hn hby) (cwV 3 hts gX6_readAt_X6_valueAt rfl rfl rfl (by decide +kernel) ⟨Nat.le_of_ble_eq_true rfl, Nat.le_of_ble_eq_true rfl⟩) (kV hE hW hM.o rfl _) rfl rfl hl.1 rfl (lv_room (Nat.le_of_ble_eq_true rfl)) dX6_readAt_41 ⟨Nat.le_of_ble_eq_true rfl, Nat.le_of_ble_eq_true rfl⟩) hW (fun r14 ad11 w12 H15 locs hp13 hW => ?_)
      obtain ⟨e16, e17, e18⟩ := hp13
      rw [e17] at hW
      have hM := hM.tr e18
      subst e16
      refine lv_istore_n (lv' := [(3, .int ((vrV S mm r (-1) (vrK S mm r)).1)), (0, .ref (ad 2000)), (1, .int mm), (2, .int r)]) hx hb dX6_readAt_44 rfl hl (by decide) rfl (fun ls hl => ?_)
      refine lv_aload_n hx hb dX6_readAt_45 rfl (lv_at hl 1 rfl) ?_
      refine lv_aload_n hx hb dX6_readAt_46 rfl (lv_at hl 1 rfl) ?_
      refine kk_get hx hb hts hown hE hW hM.o rfl hiRX6 16 (by decide) (hts (.fieldLink RX6 98 "UndoCellarModel" "isLate" "Z") (by decide +kernel)) (fun _ h9 => h9) rfl dX6_readAt_47 ?_
      refine W_join (P := fun v => v = (if rdL S mm r (-1) (vrK S mm r) = 0 then 0 else 3)) (pj := 58) (rj := [.ref (ad 2000)]) (lj := ls) (fun v9 hv9 => ?_) (fun J58 => ?_)
      · subst hv9
        refine kk_i (va_runV (As := [.int (if rdL S mm r (-1) (vrK S mm r) = 0 then 0 else 3)]) (rest := []) ⟨hx, hb, hml, hown, hts⟩ (c_can l D A ad w12 ((sS (sS S 17 (vrK S mm r)) 16 (rdL S mm r (-1) (vrK S mm r)))) hM.re (if rdL S mm r (-1) (vrK S mm r) = 0 then 0 else 3)) (cwV 1 hts gX6_readAt_X6_can rfl rfl rfl (by decide +kernel) ⟨Nat.le_of_ble_eq_true rfl, Nat.le_of_ble_eq_true rfl⟩) (kV hE hW hM.o rfl _) rfl rfl hl.1 rfl (lv_room (Nat.le_of_ble_eq_true rfl)) dX6_readAt_58 ⟨Nat.le_of_ble_eq_true rfl, Nat.le_of_ble_eq_true rfl⟩) hW (fun r22 ad19 w20 H23 locs hp21 hW => ?_)
        obtain ⟨e24, e25, e26⟩ := hp21
        rw [e25] at hW
        have hM := hM.tr e26
        subst e24
        refine lv_if_ne (tgt := 66) hx hb dX6_readAt_61 (by decide) (fun c27 => ?_) (fun c27 => ?_)
        · have hl0 : rdL S mm r (-1) (vrK S mm r) = 0 := by
            refine Decidable.byContradiction fun q => ?_
            have h9 := bI_t c27
            rw [if_neg q] at h9
            exact absurd h9 (by decide)
          rw [if_pos hl0] at hM
          refine lv_aload_n hx hb dX6_readAt_66 rfl (lv_at hl 1 rfl) ?_
          refine lv_iload_n hx hb dX6_readAt_67 rfl (lv_at hl 3 rfl) ?_
          refine lv_iconst (v := 4) hx hb dX6_readAt_68 (by decide) ?_
          refine lv_idiv hx hb dX6_readAt_69 (by decide) ?_
          obtain ⟨j9, hj9, ej9⟩ := inP_N (n := 11) (by decide) hro9
          have hdv : r / 4 = nI (nv r / 4) := by
            rw [ej9, nv_nI (by omega)]
            exact pk_div (d := 4) (by omega) (by decide) (by decide)
          have hb3 : nv r / 4 < 3 := by rw [ej9, nv_nI (by omega)]; omega
          rw [hdv]
          refine kk_v (va_runV (As := [.int (nI (nv r / 4))]) (rest := []) ⟨hx, hb, hml, hown, hts⟩ (c_cleans l D A ad w20 ((sS (sS (sS S 17 (vrK S mm r)) 16 (rdL S mm r (-1) (vrK S mm r))) 17 0)) hM.re (nv r / 4) hb3 hsl) (cwV 1 hts gX6_readAt_X6_cleans rfl rfl rfl (by decide +kernel) ⟨Nat.le_of_ble_eq_true rfl, Nat.le_of_ble_eq_true rfl⟩) (kV hE hW hM.o rfl _) rfl rfl hl.1 rfl (lv_room (Nat.le_of_ble_eq_true rfl)) dX6_readAt_70 ⟨Nat.le_of_ble_eq_true rfl, Nat.le_of_ble_eq_true rfl⟩) hW (fun ad28 w29 H32 locs hp30 hW => ?_)
          obtain ⟨e34, e35⟩ := hp30
          rw [e34] at hW
          have hM := hM.tr e35
          refine lv_iload_n hx hb dX6_readAt_73 rfl (lv_at hl 0 rfl) ?_
          exact ke_i hx hb hr hlocks (Nat.le_of_ble_eq_true rfl) (Nat.le_of_ble_eq_true rfl) dX6_readAt_74 hW (⟨((if_pos ho).trans (if_pos hl0)).symm, rfl, by rw [show rdN S mm r (-1) (vrK S mm r) = _ from (if_pos ho).trans (if_pos hl0)]; exact hM⟩)
        · have hl0 : ¬ rdL S mm r (-1) (vrK S mm r) = 0 := fun q => (bI_f c27) (if_pos q)
          rw [if_neg hl0] at hM
          refine lv_iconst (v := 0) hx hb dX6_readAt_64 (by decide) ?_
          exact ke_i hx hb hr hlocks (Nat.le_of_ble_eq_true rfl) (Nat.le_of_ble_eq_true rfl) dX6_readAt_65 hW (⟨((if_pos ho).trans (if_neg hl0)).symm, rfl, by rw [show rdN S mm r (-1) (vrK S mm r) = _ from (if_pos ho).trans (if_neg hl0)]; exact hM⟩)
      · refine lv_if_eq (tgt := 57) hx hb dX6_readAt_50 (by decide) (fun c36 => ?_) (fun c36 => ?_)
        · refine lv_iconst (v := 0) hx hb dX6_readAt_57 (by decide) ?_
          exact J58 _ ((if_pos c36).symm)
        · refine lv_iconst (v := 3) hx hb dX6_readAt_53 (by decide) ?_
          refine lv_goto (tgt := 58) hx hb dX6_readAt_54 (by decide) ?_
          exact J58 _ ((if_neg c36).symm)
    · refine lv_iconst (v := 0) hx hb dX6_readAt_35 (by decide) ?_
      exact ke_i hx hb hr hlocks (Nat.le_of_ble_eq_true rfl) (Nat.le_of_ble_eq_true rfl) dX6_readAt_36 hW (⟨(if_neg (bI_f c10)).symm, rfl, by rw [show rdN S mm r (-1) (vrK S mm r) = _ from if_neg (bI_f c10)]; exact hM⟩)
  · refine kk_i (va_runS (As := [.int r]) (rest := [.ref (ad 2000)]) ⟨hx, hb, hml, hown, hts⟩ (c_isRow l D A ad w r) (cwS 1 hts gX6_readAt_X6_isRow rfl rfl rfl (by decide +kernel) ⟨Nat.le_of_ble_eq_true rfl, Nat.le_of_ble_eq_true rfl⟩) (kSt hE hW _) rfl rfl hl.1 rfl (lv_room (Nat.le_of_ble_eq_true rfl)) dX6_readAt_2 ⟨Nat.le_of_ble_eq_true rfl, Nat.le_of_ble_eq_true rfl⟩) hW (fun r40 ad37 w38 H41 locs hp39 hW => ?_)
    obtain ⟨e42, e43, e44⟩ := hp39
    rw [e43, e44] at hW
    subst e42
    refine lv_if_ne (tgt := 12) hx hb dX6_readAt_5 (by decide) (fun c45 => ?_) (fun c45 => ?_)
    · refine lv_iload_n hx hb dX6_readAt_12 rfl (lv_at hl 1 rfl) ?_
      refine lv_iconst (v := 0) hx hb dX6_readAt_13 (by decide) ?_
      refine lv_aload_n hx hb dX6_readAt_14 rfl (lv_at hl 0 rfl) ?_
      refine kk_get hx hb hts hown hE hW hM.o rfl hiRX6 2 (by decide) (hts (.fieldLink RX6 65 "UndoCellarModel" "moment" "I") (by decide +kernel)) (fun _ h9 => h9) rfl dX6_readAt_15 ?_
      refine kk_i (va_runS (As := [.int mm, .int 0, .int (S 11 0)]) (rest := [.ref (ad 2000)]) ⟨hx, hb, hml, hown, hts⟩ (c_isIn l D A ad w mm 0 (S 11 0)) (cwS 3 hts gX6_readAt_X6_isIn rfl rfl rfl (by decide +kernel) ⟨Nat.le_of_ble_eq_true rfl, Nat.le_of_ble_eq_true rfl⟩) (kSt hE hW _) rfl rfl hl.1 rfl (lv_room (Nat.le_of_ble_eq_true rfl)) dX6_readAt_18 ⟨Nat.le_of_ble_eq_true rfl, Nat.le_of_ble_eq_true rfl⟩) hW (fun r49 ad46 w47 H50 locs hp48 hW => ?_)
      obtain ⟨e51, e52, e53⟩ := hp48
      rw [e52, e53] at hW
      subst e51
      refine lv_if_eq (tgt := 28) hx hb dX6_readAt_21 (by decide) (fun c54 => ?_) (fun c54 => ?_)
      · refine lv_iconst (v := 2) hx hb dX6_readAt_28 (by decide) ?_
        exact J29 _ _ _ (((if_pos (bI_t c45)).trans (if_neg (bI_f c54))).symm) hW
      · refine lv_iconst (v := 0) hx hb dX6_readAt_24 (by decide) ?_
        refine lv_goto (tgt := 29) hx hb dX6_readAt_25 (by decide) ?_
        exact J29 _ _ _ (((if_pos (bI_t c45)).trans (if_pos (bI_t c54))).symm) hW
    · refine lv_iconst (v := 1) hx hb dX6_readAt_8 (by decide) ?_
      refine lv_goto (tgt := 29) hx hb dX6_readAt_9 (by decide) ?_
      exact J29 _ _ _ ((if_neg (bI_f c45)).symm) hW

set_option maxHeartbeats 4000000 in
set_option maxRecDepth 100000 in
/-- c_read -/
theorem c_read (l : Launch) (D : va_G) (A : Nat → Prop) (ad : Nat → Nat) (w : kWd) (S : St) (hM : MW D S ad w w) (t r : Int32) (nT : Nat) (hT : S 12 0 = nI nT) (hT6 : nT ≤ 60) (nC : Nat) (hC : S 13 0 = nI nC) (hn : nC ≤ 2000) (hby : ∀ k, k < nC → vp_in (S 4 k) 60) (hsl : ∀ k, k < 6 → S 8 k ≠ -1 → vp_in (S 8 k) 60)  : Met l yX6_read wsX6_read ({ frames := 2, cells := 0, slots := 0, locals := 43 }) (kPc D A [.ref (ad 2000), .int t, .int r] ad w) (kQi D A (fun v ad' w' => v = rdR S (S 2 (nv t)) r t (r1K S t r) ∧ ad' = ad ∧ MW D (rdN S (S 2 (nv t)) r t (r1K S t r)) ad w w')) 0 0 A := by
  refine Met.ofW (cc := cX6_read) (maxL := 5) (ret := (some (.int))) (by decide) rfl ?_
  intro p e s m args below meth c s₁ B hml hv
  obtain ⟨rfl, hE, hW0, hI0, hA⟩ := hv
  have hx := B.exec
  have hb := B.bytes
  have hr := B.returns
  have hts := atoms_spec (ws := wsX6_read) B.pre
  have hown : s.vm.findClass RX6 = some m.cls := findClass_of_methodNamed B.named
  have hlocks := B.notSynchronized
  have hiRX6 : ∀ w ∈ wsX60, w ∈ wsX6_read := by decide +kernel
  have hW : kS D A s.heap ad w s.heap [] := ⟨hW0, hI0, va_S.rf, hA⟩
  have hl := lv_entry ([.ref (ad 2000), .int t, .int r]) (n := 5) (Nat.le_of_ble_eq_true rfl)
  rw [lg_entry_eq]
  generalize (lg_sl ([.ref (ad 2000), .int t, .int r]) ++ List.replicate (5 - (lg_sl ([.ref (ad 2000), .int t, .int r])).length) Slot.unset).toArray = ls at hl ⊢
  have hl : lv_has ls 5 [(0, .ref (ad 2000)), (1, .int t), (2, .int r)] := hl
  refine lv_aload_n hx hb dX6_read_0 rfl (lv_at hl 0 rfl) ?_
  refine lv_iload_n hx hb dX6_read_1 rfl (lv_at hl 1 rfl) ?_
  refine W_joinH (D := D) (A := A) (w := w) (ad := ad) (P := fun v => v = bI (trP S t ∧ roP r)) (pj := 20) (rj := []) (lj := ls) (fun v H1 locs hv hW => ?_) (fun J20 => ?_)
  · subst hv
    refine lv_istore_n (lv' := [(3, .int (bI (trP S t ∧ roP r))), (0, .ref (ad 2000)), (1, .int t), (2, .int r)]) hx hb dX6_read_20 rfl hl (by decide) rfl (fun ls hl => ?_)
    refine lv_aload_n hx hb dX6_read_21 rfl (lv_at hl 1 rfl) ?_
    refine lv_iload_n hx hb dX6_read_22 rfl (lv_at hl 0 rfl) ?_
    refine W_joinH (D := D) (A := A) (w := w) (ad := ad) (P := fun v => v = r1K S t r) (pj := 43) (rj := [.ref (ad 2000)]) (lj := ls) (fun v H2 locs hv hW => ?_) (fun J43 => ?_)
    · subst hv
      refine kk_i (va_runV (As := [.int (r1K S t r)]) (rest := []) ⟨hx, hb, hml, hown, hts⟩ (c_can l D A ad w (S) hM.re (r1K S t r)) (cwV 1 hts gX6_read_X6_can rfl rfl rfl (by decide +kernel) ⟨Nat.le_of_ble_eq_true rfl, Nat.le_of_ble_eq_true rfl⟩) (kV hE hW hM.o rfl _) rfl rfl hl.1 rfl (lv_room (Nat.le_of_ble_eq_true rfl)) dX6_read_43 ⟨Nat.le_of_ble_eq_true rfl, Nat.le_of_ble_eq_true rfl⟩) hW (fun r6 ad3 w4 H7 locs hp5 hW => ?_)
      obtain ⟨e8, e9, e10⟩ := hp5
      rw [e9] at hW
      have hM := hM.tr e10
      subst e8
      refine lv_if_ne (tgt := 51) hx hb dX6_read_46 (by decide) (fun c11 => ?_) (fun c11 => ?_)
      · have ho := bI_t c11
        have hth : trP S t ∧ roP r := by
          refine Decidable.byContradiction fun q => ?_
          rw [show r1K S t r = 1 from if_neg q] at ho
          exact absurd ho (by decide)
        have hro9 : roP r := hth.2
        have hv6 : vp_in t 60 := by
          obtain ⟨j, h1, rfl⟩ := inP_T hT6 (by rw [← hT]; exact hth.1)
          exact vp_in_nI (by omega) (by omega)
        have hv12 : vp_in r 12 := by
          obtain ⟨j, h1, rfl⟩ := inP_N (n := 11) (by decide) (hro9)
          exact vp_in_nI (by omega) (by decide)
        refine lv_aload_n hx hb dX6_read_51 rfl (lv_at hl 1 rfl) ?_
        refine lv_aload_n hx hb dX6_read_52 rfl (lv_at hl 1 rfl) ?_
        refine kk_get hx hb hts hown hE hW hM.o rfl hiRX6 5 (by decide) (hts (.fieldLink RX6 20 "UndoCellarModel" "asOf" "[I") (by decide +kernel)) (fun _ h9 => h9) rfl dX6_read_53 ?_
        refine lv_iload_n hx hb dX6_read_56 rfl (lv_at hl 2 rfl) ?_
        refine kk_iald hx hb hE hW hM.a2 hv6 dX6_read_57 ?_
        refine lv_iload_n hx hb dX6_read_58 rfl (lv_at hl 3 rfl) ?_
        refine lv_iload_n hx hb dX6_read_59 rfl (lv_at hl 2 rfl) ?_
        refine kk_i (va_runV (As := [.int ((sS S 17 (r1K S t r)) 2 (nv t)), .int r, .int t]) (rest := []) ⟨hx, hb, hml, hown, hts⟩ (c_valueAt l D A ad w4 ((sS S 17 (r1K S t r))) hM.re (S 2 (nv t)) r t hv12 nC hC hn hby) (cwV 3 hts gX6_read_X6_valueAt rfl rfl rfl (by decide +kernel) ⟨Nat.le_of_ble_eq_true rfl, Nat.le_of_ble_eq_true rfl⟩) (kV hE hW hM.o rfl _) rfl rfl hl.1 rfl (lv_room (Nat.le_of_ble_eq_true rfl)) dX6_read_60 ⟨Nat.le_of_ble_eq_true rfl, Nat.le_of_ble_eq_true rfl⟩) hW (fun r15 ad12 w13 H16 locs hp14 hW => ?_)
        obtain ⟨e17, e18, e19⟩ := hp14
        rw [e18] at hW
        have hM := hM.tr e19
        subst e17
        refine lv_istore (lv' := [(4, .int ((vrV S (S 2 (nv t)) r t (r1K S t r)).1)), (3, .int (bI (trP S t ∧ roP r))), (0, .ref (ad 2000)), (1, .int t), (2, .int r)]) hx hb dX6_read_63 hl (by decide) rfl (fun ls hl => ?_)
        refine lv_aload_n hx hb dX6_read_65 rfl (lv_at hl 2 rfl) ?_
        refine lv_aload_n hx hb dX6_read_66 rfl (lv_at hl 2 rfl) ?_
        refine kk_get hx hb hts hown hE hW hM.o rfl hiRX6 16 (by decide) (hts (.fieldLink RX6 98 "UndoCellarModel" "isLate" "Z") (by decide +kernel)) (fun _ h9 => h9) rfl dX6_read_67 ?_
        refine W_join (P := fun v => v = (if rdL S (S 2 (nv t)) r t (r1K S t r) = 0 then 0 else 3)) (pj := 78) (rj := [.ref (ad 2000)]) (lj := ls) (fun v9 hv9 => ?_) (fun J78 => ?_)
        · subst hv9
          refine kk_i (va_runV (As := [.int (if rdL S (S 2 (nv t)) r t (r1K S t r) = 0 then 0 else 3)]) (rest := []) ⟨hx, hb, hml, hown, hts⟩ (c_can l D A ad w13 ((sS (sS S 17 (r1K S t r)) 16 (rdL S (S 2 (nv t)) r t (r1K S t r)))) hM.re (if rdL S (S 2 (nv t)) r t (r1K S t r) = 0 then 0 else 3)) (cwV 1 hts gX6_read_X6_can rfl rfl rfl (by decide +kernel) ⟨Nat.le_of_ble_eq_true rfl, Nat.le_of_ble_eq_true rfl⟩) (kV hE hW hM.o rfl _) rfl rfl hl.1 rfl (lv_room (Nat.le_of_ble_eq_true rfl)) dX6_read_78 ⟨Nat.le_of_ble_eq_true rfl, Nat.le_of_ble_eq_true rfl⟩) hW (fun r23 ad20 w21 H24 locs hp22 hW => ?_)
          obtain ⟨e25, e26, e27⟩ := hp22
          rw [e26] at hW
          have hM := hM.tr e27
          subst e25
          refine lv_if_ne (tgt := 86) hx hb dX6_read_81 (by decide) (fun c28 => ?_) (fun c28 => ?_)
          · have hl0 : rdL S (S 2 (nv t)) r t (r1K S t r) = 0 := by
              refine Decidable.byContradiction fun q => ?_
              have h9 := bI_t c28
              rw [if_neg q] at h9
              exact absurd h9 (by decide)
            rw [if_pos hl0] at hM
            refine lv_aload_n hx hb dX6_read_86 rfl (lv_at hl 2 rfl) ?_
            refine lv_iload_n hx hb dX6_read_87 rfl (lv_at hl 4 rfl) ?_
            refine lv_iconst (v := 4) hx hb dX6_read_88 (by decide) ?_
            refine lv_idiv hx hb dX6_read_89 (by decide) ?_
            obtain ⟨j9, hj9, ej9⟩ := inP_N (n := 11) (by decide) hro9
            have hdv : r / 4 = nI (nv r / 4) := by
              rw [ej9, nv_nI (by omega)]
              exact pk_div (d := 4) (by omega) (by decide) (by decide)
            have hb3 : nv r / 4 < 3 := by rw [ej9, nv_nI (by omega)]; omega
            rw [hdv]
            refine kk_v (va_runV (As := [.int (nI (nv r / 4))]) (rest := []) ⟨hx, hb, hml, hown, hts⟩ (c_cleans l D A ad w21 ((sS (sS (sS S 17 (r1K S t r)) 16 (rdL S (S 2 (nv t)) r t (r1K S t r))) 17 0)) hM.re (nv r / 4) hb3 hsl) (cwV 1 hts gX6_read_X6_cleans rfl rfl rfl (by decide +kernel) ⟨Nat.le_of_ble_eq_true rfl, Nat.le_of_ble_eq_true rfl⟩) (kV hE hW hM.o rfl _) rfl rfl hl.1 rfl (lv_room (Nat.le_of_ble_eq_true rfl)) dX6_read_90 ⟨Nat.le_of_ble_eq_true rfl, Nat.le_of_ble_eq_true rfl⟩) hW (fun ad29 w30 H33 locs hp31 hW => ?_)
            obtain ⟨e35, e36⟩ := hp31
            rw [e35] at hW
            have hM := hM.tr e36
            refine lv_iload hx hb dX6_read_93 (lv_at hl 0 rfl) ?_
            exact ke_i hx hb hr hlocks (Nat.le_of_ble_eq_true rfl) (Nat.le_of_ble_eq_true rfl) dX6_read_95 hW (⟨((if_pos ho).trans (if_pos hl0)).symm, rfl, by rw [show rdN S (S 2 (nv t)) r t (r1K S t r) = _ from (if_pos ho).trans (if_pos hl0)]; exact hM⟩)
          · have hl0 : ¬ rdL S (S 2 (nv t)) r t (r1K S t r) = 0 := fun q => (bI_f c28) (if_pos q)
            rw [if_neg hl0] at hM
            refine lv_iconst (v := 0) hx hb dX6_read_84 (by decide) ?_
            exact ke_i hx hb hr hlocks (Nat.le_of_ble_eq_true rfl) (Nat.le_of_ble_eq_true rfl) dX6_read_85 hW (⟨((if_pos ho).trans (if_neg hl0)).symm, rfl, by rw [show rdN S (S 2 (nv t)) r t (r1K S t r) = _ from (if_pos ho).trans (if_neg hl0)]; exact hM⟩)
        · refine lv_if_eq (tgt := 77) hx hb dX6_read_70 (by decide) (fun c37 => ?_) (fun c37 => ?_)
          · refine lv_iconst (v := 0) hx hb dX6_read_77 (by decide) ?_
            exact J78 _ ((if_pos c37).symm)
          · refine lv_iconst (v := 3) hx hb dX6_read_73 (by decide) ?_
            refine lv_goto (tgt := 78) hx hb dX6_read_74 (by decide) ?_
            exact J78 _ ((if_neg c37).symm)
      · refine lv_iconst (v := 0) hx hb dX6_read_49 (by decide) ?_
        exact ke_i hx hb hr hlocks (Nat.le_of_ble_eq_true rfl) (Nat.le_of_ble_eq_true rfl) dX6_read_50 hW (⟨(if_neg (bI_f c11)).symm, rfl, by rw [show rdN S (S 2 (nv t)) r t (r1K S t r) = _ from if_neg (bI_f c11)]; exact hM⟩)
    · refine lv_if_ne (tgt := 30) hx hb dX6_read_23 (by decide) (fun c38 => ?_) (fun c38 => ?_)
      · have hth := bI_t c38
        have hv6 : vp_in t 60 := by
          obtain ⟨j, h1, rfl⟩ := inP_T hT6 (by rw [← hT]; exact hth.1)
          exact vp_in_nI (by omega) (by omega)
        refine lv_aload_n hx hb dX6_read_30 rfl (lv_at hl 1 rfl) ?_
        refine lv_iload_n hx hb dX6_read_31 rfl (lv_at hl 2 rfl) ?_
        refine kk_i (va_runV (As := [.int t]) (rest := [.ref (ad 2000)]) ⟨hx, hb, hml, hown, hts⟩ (c_isActive l D A ad w (S) hM.re t hv6) (cwV 1 hts gX6_read_X6_isActive rfl rfl rfl (by decide +kernel) ⟨Nat.le_of_ble_eq_true rfl, Nat.le_of_ble_eq_true rfl⟩) (kV hE hW hM.o rfl _) rfl rfl hl.1 rfl (lv_room (Nat.le_of_ble_eq_true rfl)) dX6_read_32 ⟨Nat.le_of_ble_eq_true rfl, Nat.le_of_ble_eq_true rfl⟩) hW (fun r42 ad39 w40 H43 locs hp41 hW => ?_)
        obtain ⟨e44, e45, e46⟩ := hp41
        rw [e45, e46] at hW
        subst e44
        refine lv_if_eq (tgt := 42) hx hb dX6_read_35 (by decide) (fun c47 => ?_) (fun c47 => ?_)
        · refine lv_iconst (v := 2) hx hb dX6_read_42 (by decide) ?_
          exact J43 _ _ _ (((if_pos hth).trans (if_neg (bI_f c47))).symm) hW
        · refine lv_iconst (v := 0) hx hb dX6_read_38 (by decide) ?_
          refine lv_goto (tgt := 43) hx hb dX6_read_39 (by decide) ?_
          exact J43 _ _ _ (((if_pos hth).trans (if_pos (bI_t c47))).symm) hW
      · refine lv_iconst (v := 1) hx hb dX6_read_26 (by decide) ?_
        refine lv_goto (tgt := 43) hx hb dX6_read_27 (by decide) ?_
        exact J43 _ _ _ ((if_neg (bI_f c38)).symm) hW
  · refine kk_i (va_runV (As := [.int t]) (rest := []) ⟨hx, hb, hml, hown, hts⟩ (c_isTransaction l D A ad w (S) hM.re t) (cwV 1 hts gX6_read_X6_isTransaction rfl rfl rfl (by decide +kernel) ⟨Nat.le_of_ble_eq_true rfl, Nat.le_of_ble_eq_true rfl⟩) (kV hE hW hM.o rfl _) rfl rfl hl.1 rfl (lv_room (Nat.le_of_ble_eq_true rfl)) dX6_read_2 ⟨Nat.le_of_ble_eq_true rfl, Nat.le_of_ble_eq_true rfl⟩) hW (fun r51 ad48 w49 H52 locs hp50 hW => ?_)
    obtain ⟨e53, e54, e55⟩ := hp50
    rw [e54, e55] at hW
    subst e53
    refine lv_if_eq (tgt := 19) hx hb dX6_read_5 (by decide) (fun c56 => ?_) (fun c56 => ?_)
    · refine lv_iconst (v := 0) hx hb dX6_read_19 (by decide) ?_
      exact J20 _ _ _ ((bI_0 (fun q => (bI_f c56) q.1)).symm) hW
    · refine lv_iload_n hx hb dX6_read_8 rfl (lv_at hl 2 rfl) ?_
      refine kk_i (va_runS (As := [.int r]) (rest := []) ⟨hx, hb, hml, hown, hts⟩ (c_isRow l D A ad w r) (cwS 1 hts gX6_read_X6_isRow rfl rfl rfl (by decide +kernel) ⟨Nat.le_of_ble_eq_true rfl, Nat.le_of_ble_eq_true rfl⟩) (kSt hE hW _) rfl rfl hl.1 rfl (lv_room (Nat.le_of_ble_eq_true rfl)) dX6_read_9 ⟨Nat.le_of_ble_eq_true rfl, Nat.le_of_ble_eq_true rfl⟩) hW (fun r60 ad57 w58 H61 locs hp59 hW => ?_)
      obtain ⟨e62, e63, e64⟩ := hp59
      rw [e63, e64] at hW
      subst e62
      refine lv_if_eq (tgt := 19) hx hb dX6_read_12 (by decide) (fun c65 => ?_) (fun c65 => ?_)
      · refine lv_iconst (v := 0) hx hb dX6_read_19 (by decide) ?_
        exact J20 _ _ _ ((bI_0 (fun q => (bI_f c65) q.2)).symm) hW
      · refine lv_iconst (v := 1) hx hb dX6_read_15 (by decide) ?_
        refine lv_goto (tgt := 20) hx hb dX6_read_16 (by decide) ?_
        exact J20 _ _ _ ((bI_1 ⟨bI_t c56, bI_t c65⟩).symm) hW
end
section
/-! ArrayList: rows of its own -/
theorem kS.ren {D : va_G} {A : Nat → Prop} {H0 : Heap} {ad : Nat → Nat} {w : kWd} {H : Heap} {locs : List Loc} (ka kn : Nat) (hne : ka ≠ kn) (h : kS D A H0 ad w H locs) : kS D A H0 (va_up ad ka (ad kn)) (va_up (va_up w ka (w kn)) kn none) H locs := by
  have key : ∀ (i : Nat) (x : va_E), va_up (va_up w ka (w kn)) kn none i = some x → ∃ j, w j = some x ∧ va_up ad ka (ad kn) i = ad j ∧ ((i = ka ∧ j = kn) ∨ (i ≠ ka ∧ i ≠ kn ∧ j = i)) := by
    intro i x hi
    by_cases c : i = kn
    · subst c
      rw [va_up_self] at hi
      cases hi
    · rw [va_up_ne _ _ c] at hi
      by_cases d : i = ka
      · subst d
        rw [va_up_self] at hi
        exact ⟨kn, hi, va_up_self _ _ _, Or.inl ⟨rfl, rfl⟩⟩
      · rw [va_up_ne _ _ d] at hi
        exact ⟨i, hi, va_up_ne _ _ d, Or.inr ⟨d, c, rfl⟩⟩
  refine ⟨fun i x hi => ?_, ⟨fun i j x y hi hj hij => ?_, fun i x hi => ?_⟩, h.2.2⟩
  · obtain ⟨j, h1, h2, -⟩ := key i x hi
    rw [h2]
    exact h.1 j x h1
  · obtain ⟨i', h1, h2, h3⟩ := key i x hi
    obtain ⟨j', g1, g2, g3⟩ := key j y hj
    rw [h2, g2] at hij
    have e := h.2.1.1 i' j' x y h1 g1 hij
    rcases h3 with ⟨a1, a2⟩ | ⟨a1, a2, a3⟩ <;> rcases g3 with ⟨b1, b2⟩ | ⟨b1, b2, b3⟩ <;> omega
  · obtain ⟨j, h1, h2, -⟩ := key i x hi
    rw [h2]
    exact h.2.1.2 j x h1
theorem kAsg {D : va_G} {A : Nat → Prop} {s : State} (hE : kE D A s) {ck : Nat} (hck : ck = 2 ∨ ck = 5) {r : vw_C} (hr : vwCl[ck]? = some r) : ∀ comp c0 : ClassId, s.vm.findClass "java/lang/Object" = some comp → s.vm.findClass r.1 = some c0 → s.vm.assignable c0 comp = true := by
  intro comp c0 h1 h2
  have key : ∀ C, va_Nw (.castable C "java/lang/Object") s → s.vm.findClass C = some c0 → s.vm.assignable c0 comp = true := by
    intro C hC hc
    obtain ⟨c1, t1, f1, f2, f3⟩ := Cond.castable_spec (va_Nw.use (A := #[]) rfl hC)
    cases f1.symm.trans hc
    cases f2.symm.trans h1
    exact f3
  rcases hck with rfl | rfl
  · cases hr
    exact key _ (hE.N 37 rfl) h2
  · cases hr
    exact key _ (hE.N 36 rfl) h2
section KL
variable {p : Program} {l : Launch} {e : Env} {R : Room} {s : State} {m : MethodId} {args : Array Value} {below : List Frame} {meth : Method} {c : Code} {H : Heap} {locs : List Loc} {cells slots : Nat} {Q : State → Prop}
variable {cc : ByteArray} {pc : Nat} {ls : Array Slot} {rest : List Value} {D : va_G} {A : Nat → Prop} {ad : Nat → Nat} {w : kWd}
theorem kk_copy (hexec : p.tables.exec = Jvm.exec) (hb : c.code = cc) (hml : c.maxLocals = ls.size) {own : String} {index : Nat} (hown : s.vm.findClass own = some m.cls) (hlink : (Cond.methodLink own index arraycopyName).before args s = true) (hnat : (Cond.native arraycopyName).before args s = true) (hstat : (Cond.static arraycopyName).before args s = true) (hini : (Cond.initialized "java/lang/System").before args s = true)
    (hE : kE D A s) (hW : kS D A s.heap ad w H locs) {k0 k1 n0 n1 : Nat} {f g : Nat → Option Nat} (ha0 : w k0 = some (.inl (D.1 106, n0, .inr (.inr (.inr (.inr f)))))) (ha1 : w k1 = some (.inl (D.1 106, n1, .inr (.inr (.inr (.inr g))))))
    {sp dp n : Int32} (h1 : ¬ sp < 0) (h2 : ¬ dp < 0) (h3 : ¬ n < 0) (h4 : sp.toNatClampNeg + n.toNatClampNeg ≤ n0) (h5 : dp.toNatClampNeg + n.toNatClampNeg ≤ n1) (hel : ∀ i : Nat, i < n.toNatClampNeg → ∀ y : Nat, f (sp.toNatClampNeg + i) = some y → va_Any "java/lang/Object" s H y)
    (hframes : 1 ≤ R.frames) (hlocals : (rest.map fun v => v.category).sum + (nativeFrameWords "java/lang/System" "arraycopy" 5 + 11) ≤ R.locals) (hdg : decode cc pc = .ok (.invokestatic index, 3))
    (kk : ∀ (H1 : Heap) (locs1 : List Loc) (w1 : kWd), w1 = va_up w k1 (some (.inl (D.1 106, n1, .inr (.inr (.inr (.inr (va_cpy f g sp.toNatClampNeg dp.toNatClampNeg n.toNatClampNeg))))))) → kS D A s.heap ad w1 H1 locs1 → W p l e R s m args below meth c H1 locs1 cells slots Q (F0 m (pc + 3) ls rest)) : W p l e R s m args below meth c H locs cells slots Q (F0 m pc ls (.int n :: .int dp :: .ref (ad k1) :: .int sp :: .ref (ad k0) :: rest)) := by
  have hK := hE.K
  have nn : ∀ z : Int32, ¬ z < 0 → z.toInt = (z.toNatClampNeg : Int) := by
    intro z hz
    have hz0 : (0 : Int) ≤ z.toInt := by
      have := Int32.not_lt.mp hz
      simpa using Int32.le_iff_toInt_le.mp this
    show z.toInt = ((z.toInt.toNat : Nat) : Int)
    omega
  intro T hT X
  have hc0 : H[ad k0]? = some (vp_cell (D.1 106) (n0, .inr (.inr (.inr (.inr f))))) := hW.1 k0 _ ha0
  have hc1 : H[ad k1]? = some (vp_cell (D.1 106) (n1, .inr (.inr (.inr (.inr g))))) := hW.1 k1 _ ha1
  obtain ⟨-, k9, hk0, cm0, hkk0⟩ := (hK.2 6 _ rfl).1 n0 (fun j => va_rf (f j))
  obtain ⟨-, k8, hk1, cm1, hkk1⟩ := (hK.2 6 _ rfl).1 n1 (fun j => va_rf (g j))
  obtain ⟨vm', X', step⟩ := X.arraycopy hexec hown hlink hnat hstat hini (src := ad k0) (dst := ad k1) (cs := vp_cell (D.1 106) (n0, .inr (.inr (.inr (.inr f))))) (cd := vp_cell (D.1 106) (n1, .inr (.inr (.inr (.inr g))))) (srcPos := sp) (destPos := dp) (n := n) (by rw [hT]; exact hc0) (by rw [hT]; exact hc1)
    (fun _ h => by cases h) (fun _ h => by cases h) (fun h => by cases h) (fun h => by cases h) hk0 hk1 hkk0 hkk1 rfl h1 h2 h3
    (by rw [nn sp h1, nn n h3]; show ¬ _ > ((arrV (D.1 106) n0 (fun j => va_rf (f j))).slots.size : Int); rw [arrV_size]; omega)
    (by rw [nn dp h2, nn n h3]; show ¬ _ > ((arrV (D.1 106) n1 (fun j => va_rf (g j))).slots.size : Int); rw [arrV_size]; omega)
    (fun vm₁ hal i hi => by
      have e : (vp_cell (D.1 106) (n0, .inr (.inr (.inr (.inr f))))).slots.getD (sp.toNatClampNeg + i) .null = va_rf (f (sp.toNatClampNeg + i)) := by
        show (arrV (D.1 106) n0 (fun j => va_rf (f j))).slots.getD _ _ = _
        rw [Array.getD_eq_getD_getElem?, arrV_read _ _ (by omega)]
        rfl
      rw [e]
      cases hy : f (sp.toNatClampNeg + i) with
      | none => exact ⟨rfl, trivial⟩
      | some y =>
        obtain ⟨cellV, g1, g2, ⟨kC, hkC⟩, hasg⟩ := hel i hi y hy
        obtain ⟨kA, comp, r1, r2, r3, -⟩ := (hK.2 6 _ rfl).2
        cases hk1.symm.trans r1
        cases hkk1.symm.trans r2
        obtain ⟨kE, hkE, -⟩ := Vm.findClass_spec r3
        obtain ⟨kC', hkC', -⟩ := hal.2.2 _ _ hkC
        obtain ⟨kE', hkE', -⟩ := hal.2.2 _ _ hkE
        refine ⟨rfl, cellV, (show T.heap[y]? = some cellV by rw [hT]; exact g1), (fun q h => by rw [h] at g2; cases g2), ⟨kC', hkC'⟩, ?_, ?_⟩
        · exact ⟨kE', hkE'⟩
        · show vm₁.assignable _ _ = true
          rw [hal.assignable]
          exact hasg _ r3)
    (g := F0 m pc ls (.int n :: .int dp :: .ref (ad k1) :: .int sp :: .ref (ad k0) :: rest)) rfl (by rw [hml]) (rest := rest) rfl (by rw [hb]; exact hdg) hframes (by show 2 * 0 + _ + _ ≤ _; omega)
  have e1 : copied (vp_cell (D.1 106) (n0, .inr (.inr (.inr (.inr f))))) (vp_cell (D.1 106) (n1, .inr (.inr (.inr (.inr g))))) sp dp n = vp_cell (D.1 106) (n1, .inr (.inr (.inr (.inr (va_cpy f g sp.toNatClampNeg dp.toNatClampNeg n.toNatClampNeg))))) := by
    rw [vp_cell_q, vp_cell_q, vp_cell_q]
    exact va_copied (fun z => va_rf z) (D.1 106) (D.1 106) f g h4
  rw [e1] at X' step
  have hl : ad k1 < H.size := (Array.getElem?_eq_some_iff.mp hc1).1
  have hheap : ((T.setVm vm').setCell (ad k1) (vp_cell (D.1 106) (n1, .inr (.inr (.inr (.inr (va_cpy f g sp.toNatClampNeg dp.toNatClampNeg n.toNatClampNeg))))))).heap = H.setIfInBounds (ad k1) (vp_cell (D.1 106) (n1, .inr (.inr (.inr (.inr (va_cpy f g sp.toNatClampNeg dp.toNatClampNeg n.toNatClampNeg)))))) := by rw [← hT]; rfl
  have oq : ∀ q : Nat, q ≠ ad k1 → (H.setIfInBounds (ad k1) (vp_cell (D.1 106) (n1, .inr (.inr (.inr (.inr (va_cpy f g sp.toNatClampNeg dp.toNatClampNeg n.toNatClampNeg)))))))[q]? = H[q]? := fun q hq => by simp [Array.getElem?_setIfInBounds, Ne.symm hq]
  obtain ⟨t, a1, b1⟩ := kk _ _ _ rfl ⟨hW.1.set hW.2.1 (e := .inl (D.1 106, n1, .inr (.inr (.inr (.inr (va_cpy f g sp.toNatClampNeg dp.toNatClampNeg n.toNatClampNeg)))))) ha1 (show (H.setIfInBounds (ad k1) _)[ad k1]? = some _ by simp [Array.getElem?_setIfInBounds, hl]) oq, hW.2.1.set ha1, ⟨by simp; exact hW.2.2.1.1, fun q g1 g2 => by
      rw [oq q (fun e => g2 (by rw [e]; exact hW.2.1.2 k1 _ ha1))]
      exact hW.2.2.1.2.1 q g1 g2, fun q hq => by
      rcases List.mem_append.mp hq with h | h
      · exact hW.2.2.1.2.2 q h
      · obtain ⟨z, -, hz⟩ := List.mem_map.mp h
        rw [← hz]
        exact hW.2.1.2 k1 _ ha1⟩, hW.2.2.2⟩ _ hheap X'
  exact ⟨t, step t a1, b1⟩
end KL
end
section
/-! ArrayList and what it calls -/
def LX (D : va_G) (kl ka n : Nat) (key : Nat → Nat) (ad : Nat → Nat) (w : kWd) (mc : Int32) (cap : Nat) (f : Nat → Option Nat) (e : Nat) : Prop := w kl = some (.inr (0, [.int mc, .ref e, .int (nI n)])) ∧ n ≤ cap ∧ cap ≤ 10 + 2 * n ∧ ((cap = 0 ∧ e = D.2 999 0) ∨ (2 ≤ cap ∧ e = ad ka ∧ w ka = some (.inl (D.1 106, cap, .inr (.inr (.inr (.inr f))))))) ∧ ∀ i, i < n → f i = some (ad (key i))
def AL (D : va_G) (kl ka n : Nat) (key : Nat → Nat) (ad : Nat → Nat) (w : kWd) : Prop := ∃ (mc : Int32) (cap : Nat) (f : Nat → Option Nat) (e : Nat), LX D kl ka n key ad w mc cap f e
def FrL (kl ka : Nat) (ad0 : Nat → Nat) (w0 : kWd) (ad : Nat → Nat) (w : kWd) : Prop := (∀ k, k ≠ kl → k ≠ ka → k ≠ 7 → w k = w0 k) ∧ ∀ k, k ≠ ka → k ≠ 7 → ad k = ad0 k
abbrev qA (D : va_G) (n : Nat) (f : Nat → Option Nat) : Option va_E := some (.inl (D.1 106, n, .inr (.inr (.inr (.inr f)))))
set_option maxHeartbeats 4000000 in
set_option maxRecDepth 100000 in
/-- c_chk3 -/
theorem c_chk3 (l : Launch) (D : va_G) (A : Nat → Prop) (ad : Nat → Nat) (w : kWd) (i n : Nat) (hi : i < n) (hn : n < 2 ^ 31) : Met l yJ3_checkIndex_8e157 wsJ3_checkIndex_8e157 ({ frames := 0, cells := 0, slots := 0, locals := 0 }) (kPc D A [.int (nI i), .int (nI n), .null] ad w) (kQi D A (fun v ad' w' => v = nI i ∧ ad' = ad ∧ w' = w)) 0 0 A := by
  refine Met.ofW (cc := cJ3_checkIndex_8e157) (maxL := 3) (ret := (some (.int))) (by decide) rfl ?_
  intro p e s m args below meth c s₁ B hml hv
  obtain ⟨rfl, hE, hW0, hI0, hA⟩ := hv
  have hx := B.exec
  have hb := B.bytes
  have hr := B.returns
  have hts := atoms_spec (ws := wsJ3_checkIndex_8e157) B.pre
  have hown : s.vm.findClass RJ3 = some m.cls := findClass_of_methodNamed B.named
  have hlocks := B.notSynchronized
  have hW : kS D A s.heap ad w s.heap [] := ⟨hW0, hI0, va_S.rf, hA⟩
  have hl := lv_entry ([.int (nI i), .int (nI n), .null]) (n := 3) (Nat.le_of_ble_eq_true rfl)
  rw [lg_entry_eq]
  generalize (lg_sl ([.int (nI i), .int (nI n), .null]) ++ List.replicate (3 - (lg_sl ([.int (nI i), .int (nI n), .null])).length) Slot.unset).toArray = ls at hl ⊢
  have hl : lv_has ls 3 [(0, .int (nI i)), (1, .int (nI n)), (2, .null)] := hl
  refine lv_iload_n hx hb dJ3_checkIndex_8e157_0 rfl (lv_at hl 0 rfl) ?_
  refine lv_if_lt (tgt := 9) hx hb dJ3_checkIndex_8e157_1 (by decide) (fun c9 => absurd c9 (nI_pos (by omega))) (fun _ => ?_)
  refine lv_iload_n hx hb dJ3_checkIndex_8e157_4 rfl (lv_at hl 0 rfl) ?_
  refine lv_iload_n hx hb dJ3_checkIndex_8e157_5 rfl (lv_at hl 1 rfl) ?_
  refine lv_icmp_lt (tgt := 16) hx hb dJ3_checkIndex_8e157_6 (by decide) (fun _ => ?_) (fun c9 => absurd (nI_lt hi hn) c9)
  refine lv_iload_n hx hb dJ3_checkIndex_8e157_16 rfl (lv_at hl 0 rfl) ?_
  exact ke_i hx hb hr hlocks (Nat.le_of_ble_eq_true rfl) (Nat.le_of_ble_eq_true rfl) dJ3_checkIndex_8e157_17 hW (⟨rfl, rfl, rfl⟩)

set_option maxHeartbeats 4000000 in
set_option maxRecDepth 100000 in
/-- c_chk -/
theorem c_chk (l : Launch) (D : va_G) (A : Nat → Prop) (ad : Nat → Nat) (w : kWd) (i n : Nat) (hi : i < n) (hn : n < 2 ^ 31) : Met l yJ15_checkIndex_7cf53 wsJ15_checkIndex_7cf53 ({ frames := 1, cells := 0, slots := 0, locals := 22 }) (kPc D A [.int (nI i), .int (nI n)] ad w) (kQi D A (fun v ad' w' => v = nI i ∧ ad' = ad ∧ w' = w)) 0 0 A := by
  refine Met.ofW (cc := cJ15_checkIndex_7cf53) (maxL := 2) (ret := (some (.int))) (by decide) rfl ?_
  intro p e s m args below meth c s₁ B hml hv
  obtain ⟨rfl, hE, hW0, hI0, hA⟩ := hv
  have hx := B.exec
  have hb := B.bytes
  have hr := B.returns
  have hts := atoms_spec (ws := wsJ15_checkIndex_7cf53) B.pre
  have hown : s.vm.findClass RJ15 = some m.cls := findClass_of_methodNamed B.named
  have hlocks := B.notSynchronized
  have hW : kS D A s.heap ad w s.heap [] := ⟨hW0, hI0, va_S.rf, hA⟩
  have hl := lv_entry ([.int (nI i), .int (nI n)]) (n := 2) (Nat.le_of_ble_eq_true rfl)
  rw [lg_entry_eq]
  generalize (lg_sl ([.int (nI i), .int (nI n)]) ++ List.replicate (2 - (lg_sl ([.int (nI i), .int (nI n)])).length) Slot.unset).toArray = ls at hl ⊢
  have hl : lv_has ls 2 [(0, .int (nI i)), (1, .int (nI n))] := hl
  refine lv_iload_n hx hb dJ15_checkIndex_7cf53_0 rfl (lv_at hl 0 rfl) ?_
  refine lv_iload_n hx hb dJ15_checkIndex_7cf53_1 rfl (lv_at hl 1 rfl) ?_
  refine lv_null hx hb dJ15_checkIndex_7cf53_2 ?_
  refine kk_i (va_runS (As := [.int (nI i), .int (nI n), .null]) (rest := []) ⟨hx, hb, hml, hown, hts⟩ (c_chk3 l D A ad w i n hi hn) (va_cwS 3 hts gJ15_checkIndex_7cf53_J3_checkIndex_8e157 rfl rfl rfl (by decide +kernel) ⟨Nat.le_of_ble_eq_true rfl, Nat.le_of_ble_eq_true rfl⟩) (kSt hE hW _) rfl rfl hl.1 rfl (lv_room (Nat.le_of_ble_eq_true rfl)) dJ15_checkIndex_7cf53_3 ⟨Nat.le_of_ble_eq_true rfl, Nat.le_of_ble_eq_true rfl⟩) hW (fun r4 ad1 w2 H5 locs hp3 hW => ?_)
  obtain ⟨e1, e2, e3⟩ := hp3
  rw [e2, e3] at hW
  subst e1
  exact ke_i hx hb hr hlocks (Nat.le_of_ble_eq_true rfl) (Nat.le_of_ble_eq_true rfl) dJ15_checkIndex_7cf53_6 hW (⟨rfl, rfl, rfl⟩)

set_option maxHeartbeats 4000000 in
set_option maxRecDepth 100000 in
/-- c_size -/
theorem c_size (l : Launch) (D : va_G) (A : Nat → Prop) (ad : Nat → Nat) (w : kWd) (kl ka n : Nat) (key : Nat → Nat) (hA9 : AL D kl ka n key ad w) : Met l yJx4a65c_size_8abf5 wsJx4a65c_size_8abf5 ({ frames := 0, cells := 0, slots := 0, locals := 0 }) (kPc D A [.ref (ad kl)] ad w) (kQi D A (fun v ad' w' => v = nI n ∧ ad' = ad ∧ w' = w)) 0 0 A := by
  refine Met.ofW (cc := cJx4a65c_size_8abf5) (maxL := 1) (ret := (some (.int))) (by decide) rfl ?_
  intro p e s m args below meth c s₁ B hml hv
  obtain ⟨rfl, hE, hW0, hI0, hA⟩ := hv
  have hx := B.exec
  have hb := B.bytes
  have hr := B.returns
  have hts := atoms_spec (ws := wsJx4a65c_size_8abf5) B.pre
  have hown : s.vm.findClass RJx4a65c = some m.cls := findClass_of_methodNamed B.named
  have hlocks := B.notSynchronized
  have hiRJx4a65c : ∀ w ∈ wsJx4a65c0, w ∈ wsJx4a65c_size_8abf5 := by decide +kernel
  have hW : kS D A s.heap ad w s.heap [] := ⟨hW0, hI0, va_S.rf, hA⟩
  have hl := lv_entry ([.ref (ad kl)]) (n := 1) (Nat.le_of_ble_eq_true rfl)
  rw [lg_entry_eq]
  generalize (lg_sl ([.ref (ad kl)]) ++ List.replicate (1 - (lg_sl ([.ref (ad kl)])).length) Slot.unset).toArray = ls at hl ⊢
  have hl : lv_has ls 1 [(0, .ref (ad kl))] := hl
  obtain ⟨mc, cap, f, e0, h1, -⟩ := hA9
  refine lv_aload_n hx hb dJx4a65c_size_8abf5_0 rfl (lv_at hl 0 rfl) ?_
  refine kk_get hx hb hts hown hE hW h1 rfl hiRJx4a65c 2 (by decide) (hts (.fieldLink RJx4a65c 48 "java/util/ArrayList" "size" "I") (by decide +kernel)) (fun _ h9 => h9) rfl dJx4a65c_size_8abf5_1 ?_
  exact ke_i hx hb hr hlocks (Nat.le_of_ble_eq_true rfl) (Nat.le_of_ble_eq_true rfl) dJx4a65c_size_8abf5_4 hW (⟨rfl, rfl, rfl⟩)

set_option maxHeartbeats 4000000 in
set_option maxRecDepth 100000 in
/-- c_elem -/
theorem c_elem (l : Launch) (D : va_G) (A : Nat → Prop) (ad : Nat → Nat) (w : kWd) (kl ka n : Nat) (key : Nat → Nat) (hA9 : AL D kl ka n key ad w) (hc9 : n ≤ 600) (i : Nat) (hi : i < n) : Met l yJx4a65c_elementData_915e3 wsJx4a65c_elementData_915e3 ({ frames := 0, cells := 0, slots := 0, locals := 0 }) (kPc D A [.ref (ad kl), .int (nI i)] ad w) (kQq D A (fun v ad' w' => v = some (ad (key i)) ∧ ad' = ad ∧ w' = w)) 0 0 A := by
  refine Met.ofW (cc := cJx4a65c_elementData_915e3) (maxL := 2) (ret := (some (.object "java/lang/Object"))) (by decide) rfl ?_
  intro p e s m args below meth c s₁ B hml hv
  obtain ⟨rfl, hE, hW0, hI0, hA⟩ := hv
  have hx := B.exec
  have hb := B.bytes
  have hr := B.returns
  have hts := atoms_spec (ws := wsJx4a65c_elementData_915e3) B.pre
  have hown : s.vm.findClass RJx4a65c = some m.cls := findClass_of_methodNamed B.named
  have hlocks := B.notSynchronized
  have hiRJx4a65c : ∀ w ∈ wsJx4a65c0, w ∈ wsJx4a65c_elementData_915e3 := by decide +kernel
  have hW : kS D A s.heap ad w s.heap [] := ⟨hW0, hI0, va_S.rf, hA⟩
  have hl := lv_entry ([.ref (ad kl), .int (nI i)]) (n := 2) (Nat.le_of_ble_eq_true rfl)
  rw [lg_entry_eq]
  generalize (lg_sl ([.ref (ad kl), .int (nI i)]) ++ List.replicate (2 - (lg_sl ([.ref (ad kl), .int (nI i)])).length) Slot.unset).toArray = ls at hl ⊢
  have hl : lv_has ls 2 [(0, .ref (ad kl)), (1, .int (nI i))] := hl
  obtain ⟨mc, cap, f, e0, h1, h2, h3, h4, h5⟩ := hA9
  rcases h4 with ⟨h4, -⟩ | ⟨h4, rfl, h6⟩
  · omega
  refine lv_aload_n hx hb dJx4a65c_elementData_915e3_0 rfl (lv_at hl 0 rfl) ?_
  refine kk_get hx hb hts hown hE hW h1 rfl hiRJx4a65c 1 (by decide) (hts (.fieldLink RJx4a65c 9 "java/util/ArrayList" "elementData" "[Ljava/lang/Object;") (by decide +kernel)) (fun _ h9 => h9) rfl dJx4a65c_elementData_915e3_1 ?_
  refine lv_iload_n hx hb dJx4a65c_elementData_915e3_4 rfl (lv_at hl 1 rfl) ?_
  refine kk_aald hx hb hE hW 6 rfl h6 (vp_in_nI (show i < cap by omega) (by omega)) (v := .ref (ad (key i))) (by rw [nI_clamp (by omega), h5 i hi]; rfl) dJx4a65c_elementData_915e3_5 ?_
  exact ke_q hx hb hr (Or.inl ⟨_, rfl⟩) hlocks (Nat.le_of_ble_eq_true rfl) (Nat.le_of_ble_eq_true rfl) dJx4a65c_elementData_915e3_6 rfl hW (⟨rfl, rfl, rfl⟩)

set_option maxHeartbeats 4000000 in
set_option maxRecDepth 100000 in
/-- c_get -/
theorem c_get (l : Launch) (D : va_G) (A : Nat → Prop) (ad : Nat → Nat) (w : kWd) (kl ka n : Nat) (key : Nat → Nat) (hA9 : AL D kl ka n key ad w) (hc9 : n ≤ 600) (i : Nat) (hi : i < n) : Met l yJx4a65c_get_915e3 wsJx4a65c_get_915e3 ({ frames := 2, cells := 0, slots := 0, locals := 43 }) (kPc D A [.ref (ad kl), .int (nI i)] ad w) (kQq D A (fun v ad' w' => v = some (ad (key i)) ∧ ad' = ad ∧ w' = w)) 0 0 A := by
  refine Met.ofW (cc := cJx4a65c_get_915e3) (maxL := 2) (ret := (some (.object "java/lang/Object"))) (by decide) rfl ?_
  intro p e s m args below meth c s₁ B hml hv
  obtain ⟨rfl, hE, hW0, hI0, hA⟩ := hv
  have hx := B.exec
  have hb := B.bytes
  have hr := B.returns
  have hts := atoms_spec (ws := wsJx4a65c_get_915e3) B.pre
  have hown : s.vm.findClass RJx4a65c = some m.cls := findClass_of_methodNamed B.named
  have hlocks := B.notSynchronized
  have hiRJx4a65c : ∀ w ∈ wsJx4a65c0, w ∈ wsJx4a65c_get_915e3 := by decide +kernel
  have hW : kS D A s.heap ad w s.heap [] := ⟨hW0, hI0, va_S.rf, hA⟩
  have hl := lv_entry ([.ref (ad kl), .int (nI i)]) (n := 2) (Nat.le_of_ble_eq_true rfl)
  rw [lg_entry_eq]
  generalize (lg_sl ([.ref (ad kl), .int (nI i)]) ++ List.replicate (2 - (lg_sl ([.ref (ad kl), .int (nI i)])).length) Slot.unset).toArray = ls at hl ⊢
  have hl : lv_has ls 2 [(0, .ref (ad kl)), (1, .int (nI i))] := hl
  obtain ⟨mc, cap, f, e0, h1, -⟩ := id hA9
  refine lv_iload_n hx hb dJx4a65c_get_915e3_0 rfl (lv_at hl 1 rfl) ?_
  refine lv_aload_n hx hb dJx4a65c_get_915e3_1 rfl (lv_at hl 0 rfl) ?_
  refine kk_get hx hb hts hown hE hW h1 rfl hiRJx4a65c 2 (by decide) (hts (.fieldLink RJx4a65c 48 "java/util/ArrayList" "size" "I") (by decide +kernel)) (fun _ h9 => h9) rfl dJx4a65c_get_915e3_2 ?_
  refine kk_i (va_runS (As := [.int (nI i), .int (nI n)]) (rest := []) ⟨hx, hb, hml, hown, hts⟩ (c_chk l D A ad w i n hi (by omega)) (va_cwS 2 hts gJx4a65c_get_915e3_J15_checkIndex_7cf53 rfl rfl rfl (by decide +kernel) ⟨Nat.le_of_ble_eq_true rfl, Nat.le_of_ble_eq_true rfl⟩) (kSt hE hW _) rfl rfl hl.1 rfl (lv_room (Nat.le_of_ble_eq_true rfl)) dJx4a65c_get_915e3_5 ⟨Nat.le_of_ble_eq_true rfl, Nat.le_of_ble_eq_true rfl⟩) hW (fun r4 ad1 w2 H5 locs hp3 hW => ?_)
  obtain ⟨e1, e2, e3⟩ := hp3
  rw [e2, e3] at hW
  subst e1
  refine lv_pop hx hb dJx4a65c_get_915e3_8 rfl ?_
  refine lv_aload_n hx hb dJx4a65c_get_915e3_9 rfl (lv_at hl 0 rfl) ?_
  refine lv_iload_n hx hb dJx4a65c_get_915e3_10 rfl (lv_at hl 1 rfl) ?_
  refine kk_q (va_runV (As := [.int (nI i)]) (rest := []) ⟨hx, hb, hml, hown, hts⟩ (c_elem l D A ad w kl ka n key hA9 hc9 i hi) (cwV 1 hts gJx4a65c_get_915e3_Jx4a65c_elementData_915e3 rfl rfl rfl (by decide +kernel) ⟨Nat.le_of_ble_eq_true rfl, Nat.le_of_ble_eq_true rfl⟩) (kV hE hW h1 rfl _) rfl rfl hl.1 rfl (lv_room (Nat.le_of_ble_eq_true rfl)) dJx4a65c_get_915e3_11 ⟨Nat.le_of_ble_eq_true rfl, Nat.le_of_ble_eq_true rfl⟩) hW (fun r9 ad6 w7 H10 locs hp8 hW => ?_)
  obtain ⟨e1, e2, e3⟩ := hp8
  rw [e2, e3] at hW
  exact ke_q hx hb hr (Or.inl ⟨_, rfl⟩) hlocks (Nat.le_of_ble_eq_true rfl) (Nat.le_of_ble_eq_true rfl) dJx4a65c_get_915e3_14 rfl hW (⟨e1, rfl, rfl⟩)

set_option maxHeartbeats 4000000 in
set_option maxRecDepth 100000 in
/-- c_newLength -/
theorem c_newLength (l : Launch) (D : va_G) (A : Nat → Prop) (ad : Nat → Nat) (w : kWd) (a b : Nat) (h1 : 1 ≤ b) (h2 : a + b ≤ 100000) : Met l yJ8_newLength_cabcc wsJ8_newLength_cabcc ({ frames := 1, cells := 0, slots := 0, locals := 100 }) (kPc D A [.int (nI a), .int (nI 1), .int (nI b)] ad w) (kQi D A (fun v ad' w' => v = nI (a + b) ∧ ad' = ad ∧ w' = w)) 0 0 A := by
  refine Met.ofW (cc := cJ8_newLength_cabcc) (maxL := 4) (ret := (some (.int))) (by decide) rfl ?_
  intro p e s m args below meth c s₁ B hml hv
  obtain ⟨rfl, hE, hW0, hI0, hA⟩ := hv
  have hx := B.exec
  have hb := B.bytes
  have hr := B.returns
  have hts := atoms_spec (ws := wsJ8_newLength_cabcc) B.pre
  have hown : s.vm.findClass RJ8 = some m.cls := findClass_of_methodNamed B.named
  have hlocks := B.notSynchronized
  have hW : kS D A s.heap ad w s.heap [] := ⟨hW0, hI0, va_S.rf, hA⟩
  have hl := lv_entry ([.int (nI a), .int (nI 1), .int (nI b)]) (n := 4) (Nat.le_of_ble_eq_true rfl)
  rw [lg_entry_eq]
  generalize (lg_sl ([.int (nI a), .int (nI 1), .int (nI b)]) ++ List.replicate (4 - (lg_sl ([.int (nI a), .int (nI 1), .int (nI b)])).length) Slot.unset).toArray = ls at hl ⊢
  have hl : lv_has ls 4 [(0, .int (nI a)), (1, .int (nI 1)), (2, .int (nI b))] := hl
  refine lv_iload_n hx hb dJ8_newLength_cabcc_0 rfl (lv_at hl 0 rfl) ?_
  refine lv_iload_n hx hb dJ8_newLength_cabcc_1 rfl (lv_at hl 1 rfl) ?_
  refine lv_iload_n hx hb dJ8_newLength_cabcc_2 rfl (lv_at hl 2 rfl) ?_
  refine va_mmax hx hb (by rw [hml]; exact hl.1.symm) hown (hts (.methodLink RJ8 194 Lib.Math.max.name) (by decide +kernel)) (hts (.static Lib.Math.max.name) (by decide +kernel)) (hts (.initialized "java/lang/Math") (by decide +kernel)) (hts (.code Lib.Math.max.name Lib.Math.max.code 2 (some .int)) (by decide +kernel)) (Nat.le_of_ble_eq_true rfl) (Nat.le_of_ble_eq_true rfl) (Nat.le_of_ble_eq_true rfl) (Nat.le_of_ble_eq_true rfl) dJ8_newLength_cabcc_3 ?_
  rw [show (if nI 1 < nI b then nI b else nI 1) = nI b from by
    by_cases q : 1 < b
    · exact if_pos (nI_lt q (by omega))
    · rw [show b = 1 by omega]; exact if_neg (nI_nlt (by omega) (by omega))]
  refine lv_iadd hx hb dJ8_newLength_cabcc_6 ?_
  rw [nI_add]
  refine lv_istore_n (lv' := [(3, .int (nI (a + b))), (0, .int (nI a)), (1, .int (nI 1)), (2, .int (nI b))]) hx hb dJ8_newLength_cabcc_7 rfl hl (by decide) rfl (fun ls hl => ?_)
  refine lv_iconst (v := 0) hx hb dJ8_newLength_cabcc_8 (by decide) ?_
  refine lv_iload_n hx hb dJ8_newLength_cabcc_9 rfl (lv_at hl 0 rfl) ?_
  refine lv_icmp_ge (tgt := 21) hx hb dJ8_newLength_cabcc_10 (by decide) (fun c9 => absurd c9 (nI_nle (by omega) (by omega))) (fun _ => ?_)
  refine lv_iload_n hx hb dJ8_newLength_cabcc_13 rfl (lv_at hl 0 rfl) ?_
  refine lv_ldc (v := 2147483639) hx hb hown (hts (.constant RJ8 200 (2147483639)) (by decide +kernel)) dJ8_newLength_cabcc_14 ?_
  refine lv_icmp_gt (tgt := 21) hx hb dJ8_newLength_cabcc_16 (by decide) (fun c9 => absurd c9 ((show ¬ nI 2147483639 < nI (a + b) from nI_nlt (by omega) (by decide)))) (fun _ => ?_)
  refine lv_iload_n hx hb dJ8_newLength_cabcc_19 rfl (lv_at hl 0 rfl) ?_
  exact ke_i hx hb hr hlocks (Nat.le_of_ble_eq_true rfl) (Nat.le_of_ble_eq_true rfl) dJ8_newLength_cabcc_20 hW (⟨rfl, rfl, rfl⟩)

set_option maxHeartbeats 4000000 in
set_option maxRecDepth 100000 in
/-- c_copyOf3 -/
theorem c_copyOf3 (l : Launch) (D : va_G) (A : Nat → Prop) (ad : Nat → Nat) (w : kWd) (ka ck cap n : Nat) (f : Nat → Option Nat) (hf : w ka = qA D cap f) (hka : ka ≠ 7) (hk2 : ck = 2 ∨ ck = 5) (hel : ∀ i, i < cap → ∃ k fs, w k = some (.inr (ck, fs)) ∧ f i = some (ad k) ∧ k ≠ 7) (hc : cap ≤ n) (hn : n ≤ 2000)  : Met l yJ7_copyOf_6403c wsJ7_copyOf_6403c ({ frames := 1, cells := 1, slots := 2000, locals := 100 }) (kPc D A [.ref (ad ka), .int (nI n), .ref (D.2 998 0)] ad w) (kQq D A (fun v ad' w' => ∃ g, v = some (ad' 7) ∧ w' 7 = qA D n g ∧ (∀ i, i < cap → g i = f i) ∧ (∀ k, k ≠ 7 → w' k = w k) ∧ ∀ k, k ≠ 7 → ad' k = ad k)) 1 2000 A := by
  refine Met.ofW (cc := cJ7_copyOf_6403c) (maxL := 4) (ret := (some (.array (.object "java/lang/Object")))) (by decide) rfl ?_
  intro p e s m args below meth c s₁ B hml hv
  obtain ⟨rfl, hE, hW0, hI0, hA⟩ := hv
  have hx := B.exec
  have hb := B.bytes
  have hr := B.returns
  have hts := atoms_spec (ws := wsJ7_copyOf_6403c) B.pre
  have hown : s.vm.findClass RJ7 = some m.cls := findClass_of_methodNamed B.named
  have hlocks := B.notSynchronized
  have hW : kS D A s.heap ad w s.heap [] := ⟨hW0, hI0, va_S.rf, hA⟩
  have hl := lv_entry ([.ref (ad ka), .int (nI n), .ref (D.2 998 0)]) (n := 4) (Nat.le_of_ble_eq_true rfl)
  rw [lg_entry_eq]
  generalize (lg_sl ([.ref (ad ka), .int (nI n), .ref (D.2 998 0)]) ++ List.replicate (4 - (lg_sl ([.ref (ad ka), .int (nI n), .ref (D.2 998 0)])).length) Slot.unset).toArray = ls at hl ⊢
  have hl : lv_has ls 4 [(0, .ref (ad ka)), (1, .int (nI n)), (2, .ref (D.2 998 0))] := hl
  refine lv_aload_n hx hb dJ7_copyOf_6403c_0 rfl (lv_at hl 2 rfl) ?_
  refine va_ldcM hx hb hown (hts (.classLink RJ7 110 "[Ljava/lang/Object;") (by decide +kernel)) hE.AO.2.2.2.2 dJ7_copyOf_6403c_1 ?_
  refine lv_acmp_ne (rx := some (D.2 998 0)) (ry := some (D.2 998 0)) (tgt := 13) hx hb dJ7_copyOf_6403c_3 (by decide) (fun c => absurd rfl c) (fun _ => ?_)
  refine lv_iload_n hx hb dJ7_copyOf_6403c_6 rfl (lv_at hl 1 rfl) ?_
  refine kk_newq hx hb hown (hts (.classLink RJ7 2 "java/lang/Object") (by decide +kernel)) hE.AO.2.2.2.1 hE hW 7 6 rfl (nI_pos (by omega)) (nv_nI (by omega)) (by omega) (Nat.le_of_ble_eq_true rfl) (show 0 + n ≤ 2000 by omega) dJ7_copyOf_6403c_7 (fun H ad1 w1 ea e1 hW => ?_)
  have a7 : ad1 ka = ad ka := up_n ea hka
  rw [← a7] at hl
  have f1 := (up_n e1 hka).trans hf
  have f7 := up_s e1
  refine lv_goto (tgt := 24) hx hb dJ7_copyOf_6403c_10 (by decide) ?_
  refine lv_astore_n (lv' := [(3, .ref (ad1 7)), (0, .ref (ad1 ka)), (1, .int (nI n)), (2, .ref (D.2 998 0))]) hx hb dJ7_copyOf_6403c_24 rfl hl (by decide) rfl (fun ls hl => ?_)
  refine lv_aload_n hx hb dJ7_copyOf_6403c_25 rfl (lv_at hl 1 rfl) ?_
  refine lv_iconst (v := 0) hx hb dJ7_copyOf_6403c_26 (by decide) ?_
  refine lv_aload_n hx hb dJ7_copyOf_6403c_27 rfl (lv_at hl 0 rfl) ?_
  refine lv_iconst (v := 0) hx hb dJ7_copyOf_6403c_28 (by decide) ?_
  refine lv_aload_n hx hb dJ7_copyOf_6403c_29 rfl (lv_at hl 1 rfl) ?_
  refine kk_alen hx hb hE hW 6 f1 rfl (v := nI (cap)) rfl dJ7_copyOf_6403c_30 ?_
  refine lv_iload_n hx hb dJ7_copyOf_6403c_31 rfl (lv_at hl 2 rfl) ?_
  refine va_mmin hx hb (by rw [hml]; exact hl.1.symm) hown (hts (.methodLink RJ7 304 Lib.Math.min.name) (by decide +kernel)) (hts (.static Lib.Math.min.name) (by decide +kernel)) (hts (.initialized "java/lang/Math") (by decide +kernel)) (hts (.code Lib.Math.min.name Lib.Math.min.code 2 (some .int)) (by decide +kernel)) (Nat.le_of_ble_eq_true rfl) (Nat.le_of_ble_eq_true rfl) (Nat.le_of_ble_eq_true rfl) (show 0 + n ≤ 2000 by omega) dJ7_copyOf_6403c_32 ?_
  rw [show (if nI n < nI cap then nI n else nI cap) = nI cap from if_neg (nI_nlt hc (by omega))]
  have hcn : (nI cap).toNatClampNeg = cap := nv_nI (by omega)
  have h00 : (0 : Int32).toNatClampNeg = 0 := by decide
  refine kk_copy hx hb (by rw [hml]; exact hl.1.symm) hown (hts (.methodLink RJ7 150 arraycopyName) (by decide +kernel)) (hts (.native arraycopyName) (by decide +kernel)) (hts (.static arraycopyName) (by decide +kernel)) (hts (.initialized "java/lang/System") (by decide +kernel)) hE hW f1 f7 (by decide) (by decide) (nI_pos (by omega)) (by rw [hcn, h00]; omega) (by rw [hcn, h00]; omega) (fun i hi y hy => ?_) (Nat.le_of_ble_eq_true rfl) (by decide +kernel) dJ7_copyOf_6403c_35 (fun H locs w2 e2 hW => ?_)
  · rw [hcn] at hi
    rw [h00, Nat.zero_add] at hy
    obtain ⟨k, fs, g1, g2, g3⟩ := hel i hi
    cases g2.symm.trans hy
    have g4 := (up_n e1 g3).trans g1
    rcases hk2 with rfl | rfl
    · have := va_rAny hE.K (hW.P1 g4) (q0 := 0) rfl rfl (kAsg hE (Or.inl rfl) rfl)
      rw [up_n ea g3] at this
      exact this
    · have := va_rAny hE.K (hW.P1 g4) (q0 := 0) rfl rfl (kAsg hE (Or.inr rfl) rfl)
      rw [up_n ea g3] at this
      exact this
  rw [hcn, h00] at e2
  refine lv_aload_n hx hb dJ7_copyOf_6403c_38 rfl (lv_at hl 0 rfl) ?_
  refine W.widen (k := 1) (n := 2000) (Nat.le_of_ble_eq_true rfl) (show 0 + n ≤ 2000 by omega) ?_
  exact ke_q hx hb hr (Or.inr ⟨_, rfl⟩) hlocks (Nat.le_of_ble_eq_true rfl) (Nat.le_of_ble_eq_true rfl) dJ7_copyOf_6403c_39 rfl hW (⟨_, rfl, up_s e2, fun i hi => (pk_cpy_in (Nat.zero_le i) (by omega)).trans (by rw [Nat.zero_add, Nat.sub_zero]), fun k hk => (up_n e2 hk).trans (up_n e1 hk), fun k hk => up_n ea hk⟩)

set_option maxHeartbeats 4000000 in
set_option maxRecDepth 100000 in
/-- c_copyOf2 -/
theorem c_copyOf2 (l : Launch) (D : va_G) (A : Nat → Prop) (ad : Nat → Nat) (w : kWd) (ka ck cap n : Nat) (f : Nat → Option Nat) (hf : w ka = qA D cap f) (hka : ka ≠ 7) (hk2 : ck = 2 ∨ ck = 5) (hel : ∀ i, i < cap → ∃ k fs, w k = some (.inr (ck, fs)) ∧ f i = some (ad k) ∧ k ≠ 7) (hc : cap ≤ n) (hn : n ≤ 2000)  : Met l yJ7_copyOf_1904c wsJ7_copyOf_1904c ({ frames := 2, cells := 1, slots := 2000, locals := 123 }) (kPc D A [.ref (ad ka), .int (nI n)] ad w) (kQq D A (fun v ad' w' => ∃ g, v = some (ad' 7) ∧ w' 7 = qA D n g ∧ (∀ i, i < cap → g i = f i) ∧ (∀ k, k ≠ 7 → w' k = w k) ∧ ∀ k, k ≠ 7 → ad' k = ad k)) 1 2000 A := by
  refine Met.ofW (cc := cJ7_copyOf_1904c) (maxL := 2) (ret := (some (.array (.object "java/lang/Object")))) (by decide) rfl ?_
  intro p e s m args below meth c s₁ B hml hv
  obtain ⟨rfl, hE, hW0, hI0, hA⟩ := hv
  have hx := B.exec
  have hb := B.bytes
  have hr := B.returns
  have hts := atoms_spec (ws := wsJ7_copyOf_1904c) B.pre
  have hown : s.vm.findClass RJ7 = some m.cls := findClass_of_methodNamed B.named
  have hlocks := B.notSynchronized
  have hW : kS D A s.heap ad w s.heap [] := ⟨hW0, hI0, va_S.rf, hA⟩
  have hl := lv_entry ([.ref (ad ka), .int (nI n)]) (n := 2) (Nat.le_of_ble_eq_true rfl)
  rw [lg_entry_eq]
  generalize (lg_sl ([.ref (ad ka), .int (nI n)]) ++ List.replicate (2 - (lg_sl ([.ref (ad ka), .int (nI n)])).length) Slot.unset).toArray = ls at hl ⊢
  have hl : lv_has ls 2 [(0, .ref (ad ka)), (1, .int (nI n))] := hl
  refine lv_aload_n hx hb dJ7_copyOf_1904c_0 rfl (lv_at hl 0 rfl) ?_
  refine lv_iload_n hx hb dJ7_copyOf_1904c_1 rfl (lv_at hl 1 rfl) ?_
  refine lv_aload_n hx hb dJ7_copyOf_1904c_2 rfl (lv_at hl 0 rfl) ?_
  refine va_getC hx hb (by rw [hml]; exact hl.1.symm) hown (hts (.methodLink RJ7 86 ⟨"java/lang/Object", "getClass", "()Ljava/lang/Class;"⟩) (by decide +kernel)) (va_Nw.use rfl (hE.N 38 rfl)) (hts (.selects "[Ljava/lang/Object;" ⟨"java/lang/Object", "getClass", "()Ljava/lang/Class;"⟩ ⟨"java/lang/Object", "getClass", "()Ljava/lang/Class;"⟩) (by decide +kernel)) (hts (.instanceMethod ⟨"java/lang/Object", "getClass", "()Ljava/lang/Class;"⟩) (by decide +kernel)) (hts (.native ⟨"java/lang/Object", "getClass", "()Ljava/lang/Class;"⟩) (by decide +kernel)) hE.AO.2.2.2.2 ⟨_, hW.1 ka _ hf, rfl, va_nmO (hE.K.2 6 _ rfl).2 rfl⟩ (Nat.le_of_ble_eq_true rfl) (Nat.le_of_ble_eq_true rfl) dJ7_copyOf_1904c_3 ?_
  refine kk_q (va_runS (As := [.ref (ad ka), .int (nI n), .ref (D.2 998 0)]) (rest := []) ⟨hx, hb, hml, hown, hts⟩ (c_copyOf3 l D A ad w ka ck cap n f hf hka hk2 hel hc hn) (va_cwS 3 hts gJ7_copyOf_1904c_J7_copyOf_6403c rfl rfl rfl (by decide +kernel) ⟨Nat.le_of_ble_eq_true rfl, Nat.le_of_ble_eq_true rfl⟩) (kSt hE hW _) rfl rfl hl.1 rfl (lv_room (Nat.le_of_ble_eq_true rfl)) dJ7_copyOf_1904c_6 ⟨Nat.le_of_ble_eq_true rfl, Nat.le_of_ble_eq_true rfl⟩) hW (fun r4 ad1 w2 H5 locs hp3 hW => ?_)
  exact ke_q hx hb hr (Or.inr ⟨_, rfl⟩) hlocks (Nat.le_of_ble_eq_true rfl) (Nat.le_of_ble_eq_true rfl) dJ7_copyOf_1904c_9 rfl hW (hp3)

set_option maxHeartbeats 4000000 in
set_option maxRecDepth 100000 in
/-- c_growI -/
theorem c_growI (l : Launch) (D : va_G) (A : Nat → Prop) (ad : Nat → Nat) (w : kWd) (kl ka ck n : Nat) (key : Nat → Nat) (mc : Int32) (f : Nat → Option Nat) (e0 : Nat) (hA9 : LX D kl ka n key ad w mc n f e0) (hn : n ≤ 600) (hka : ka ≠ 7) (hkl : kl ≠ 7) (hlk : kl ≠ ka) (hk2 : ck = 2 ∨ ck = 5) (hel : ∀ i, i < n → (∃ fs, w (key i) = some (.inr (ck, fs))) ∧ key i ≠ 7 ∧ key i ≠ ka)  : Met l yJx4a65c_grow_92f84 wsJx4a65c_grow_92f84 ({ frames := 3, cells := 1, slots := 2000, locals := 144 }) (kPc D A [.ref (ad kl), .int (nI (n + 1))] ad w) (kQq D A (fun v ad' w' => ∃ cap g, v = some (ad' ka) ∧ n + 1 ≤ cap ∧ LX D kl ka n key ad' w' mc cap g (ad' ka) ∧ w' ka = qA D cap g ∧ cap ≤ 10 + 2 * n ∧ 2 ≤ cap ∧ FrL kl ka ad w ad' w')) 1 2000 A := by
  refine Met.ofW (cc := cJx4a65c_grow_92f84) (maxL := 4) (ret := (some (.array (.object "java/lang/Object")))) (by decide) rfl ?_
  intro p e s m args below meth c s₁ B hml hv
  obtain ⟨rfl, hE, hW0, hI0, hA⟩ := hv
  have hx := B.exec
  have hb := B.bytes
  have hr := B.returns
  have hts := atoms_spec (ws := wsJx4a65c_grow_92f84) B.pre
  have hown : s.vm.findClass RJx4a65c = some m.cls := findClass_of_methodNamed B.named
  have hlocks := B.notSynchronized
  have hiRJx4a65c : ∀ w ∈ wsJx4a65c0, w ∈ wsJx4a65c_grow_92f84 := by decide +kernel
  have hW : kS D A s.heap ad w s.heap [] := ⟨hW0, hI0, va_S.rf, hA⟩
  have hl := lv_entry ([.ref (ad kl), .int (nI (n + 1))]) (n := 4) (Nat.le_of_ble_eq_true rfl)
  rw [lg_entry_eq]
  generalize (lg_sl ([.ref (ad kl), .int (nI (n + 1))]) ++ List.replicate (4 - (lg_sl ([.ref (ad kl), .int (nI (n + 1))])).length) Slot.unset).toArray = ls at hl ⊢
  have hl : lv_has ls 4 [(0, .ref (ad kl)), (1, .int (nI (n + 1)))] := hl
  obtain ⟨h1, h2, h3, h4, h5⟩ := hA9
  rcases h4 with ⟨rfl, rfl⟩ | ⟨h4, rfl, h6⟩
  · refine lv_aload_n hx hb dJx4a65c_grow_92f84_0 rfl (lv_at hl 0 rfl) ?_
    refine kk_get hx hb hts hown hE hW h1 rfl hiRJx4a65c 1 (by decide) (hts (.fieldLink RJx4a65c 9 "java/util/ArrayList" "elementData" "[Ljava/lang/Object;") (by decide +kernel)) (fun _ h9 => h9) rfl dJx4a65c_grow_92f84_1 ?_
    refine va_tlen hx hb hE.2.2.2.2.1 hW.2.2.1 (v := 0) rfl dJx4a65c_grow_92f84_4 ?_
    refine lv_istore_n (lv' := [(2, .int 0), (0, .ref (ad kl)), (1, .int (nI (0 + 1)))]) hx hb dJx4a65c_grow_92f84_5 rfl hl (by decide) rfl (fun ls hl => ?_)
    refine lv_iload_n hx hb dJx4a65c_grow_92f84_6 rfl (lv_at hl 0 rfl) ?_
    refine lv_if_gt (tgt := 20) hx hb dJx4a65c_grow_92f84_7 (by decide) (fun c9 => absurd c9 (by decide)) (fun _ => ?_)
    refine lv_aload_n hx hb dJx4a65c_grow_92f84_10 rfl (lv_at hl 1 rfl) ?_
    refine kk_get hx hb hts hown hE hW h1 rfl hiRJx4a65c 1 (by decide) (hts (.fieldLink RJx4a65c 9 "java/util/ArrayList" "elementData" "[Ljava/lang/Object;") (by decide +kernel)) (fun _ h9 => h9) rfl dJx4a65c_grow_92f84_11 ?_
    refine va_gets hx hb hE.2.2.2.1 hW.2.2.1 hown (hts (.fieldLink RJx4a65c 39 "java/util/ArrayList" "DEFAULTCAPACITY_EMPTY_ELEMENTDATA" "[Ljava/lang/Object;") (by decide +kernel)) (fun _ h9 => h9) dJx4a65c_grow_92f84_14 ?_
    refine lv_acmp_eq (rx := some (D.2 999 0)) (ry := some (D.2 999 0)) (tgt := 45) hx hb dJx4a65c_grow_92f84_17 (by decide) (fun _ => ?_) (fun c => absurd rfl c)
    refine lv_aload_n hx hb dJx4a65c_grow_92f84_45 rfl (lv_at hl 1 rfl) ?_
    refine lv_bipush (v := 10) hx hb dJx4a65c_grow_92f84_46 (by decide) ?_
    refine lv_iload_n hx hb dJx4a65c_grow_92f84_48 rfl (lv_at hl 2 rfl) ?_
    refine va_mmax hx hb (by rw [hml]; exact hl.1.symm) hown (hts (.methodLink RJx4a65c 79 Lib.Math.max.name) (by decide +kernel)) (hts (.static Lib.Math.max.name) (by decide +kernel)) (hts (.initialized "java/lang/Math") (by decide +kernel)) (hts (.code Lib.Math.max.name Lib.Math.max.code 2 (some .int)) (by decide +kernel)) (Nat.le_of_ble_eq_true rfl) (Nat.le_of_ble_eq_true rfl) (Nat.le_of_ble_eq_true rfl) (Nat.le_of_ble_eq_true rfl) dJx4a65c_grow_92f84_49 ?_
    rw [show (if (10 : Int32) < nI (0 + 1) then nI (0 + 1) else 10) = 10 from by decide]
    refine kk_newq hx hb hown (hts (.classLink RJx4a65c 7 "java/lang/Object") (by decide +kernel)) hE.AO.2.2.2.1 hE hW ka 6 rfl (by decide) (N' := 10) (by decide) (by decide) (Nat.le_of_ble_eq_true rfl) (Nat.le_of_ble_eq_true rfl) dJx4a65c_grow_92f84_52 (fun H ad1 w1 ea e1 hW => ?_)
    have a7 : ad1 kl = ad kl := up_n ea hlk
    rw [← a7] at hl
    have f1 := (up_n e1 hlk).trans h1
    have f7 := up_s e1
    refine W.eq (g2 := F0 m 55 ls [.ref (ad1 ka), .ref (ad1 kl)]) (by rw [a7]) ?_
    refine lv_dup_x1 hx hb dJx4a65c_grow_92f84_55 rfl rfl ?_
    refine kk_put hx hb hts hown hE hW f1 rfl hiRJx4a65c tyJx4a65c tyJx4a65c_ok nmJx4a65c 1 (by decide) (hts (.fieldLink RJx4a65c 9 "java/util/ArrayList" "elementData" "[Ljava/lang/Object;") (by decide +kernel)) (fun _ h9 => h9) rfl (ty := tyJx4a65c 1) (tyJx4a65c_ok 1 (by decide)) rfl rfl (Nat.le_of_ble_eq_true rfl) dJx4a65c_grow_92f84_56 (fun H3 locs w1 e2 hW => ?_)
    have f4 := (up_n e2 (Ne.symm hlk)).trans f7
    have f5 := up_s e2
    exact ke_q hx hb hr (Or.inr ⟨_, rfl⟩) hlocks (Nat.le_of_ble_eq_true rfl) (Nat.le_of_ble_eq_true rfl) dJx4a65c_grow_92f84_59 rfl hW (⟨10, (fun _ => none), rfl, by omega, ⟨f5, by omega, by omega, Or.inr ⟨by omega, rfl, f4⟩, fun i hi => absurd hi (Nat.not_lt_zero i)⟩, f4, by omega, by omega, fun k q1 q2 q3 => (up_n e2 q1).trans (up_n e1 q2), fun k q2 q3 => up_n ea q2⟩)
  · refine lv_aload_n hx hb dJx4a65c_grow_92f84_0 rfl (lv_at hl 0 rfl) ?_
    refine kk_get hx hb hts hown hE hW h1 rfl hiRJx4a65c 1 (by decide) (hts (.fieldLink RJx4a65c 9 "java/util/ArrayList" "elementData" "[Ljava/lang/Object;") (by decide +kernel)) (fun _ h9 => h9) rfl dJx4a65c_grow_92f84_1 ?_
    refine kk_alen hx hb hE hW 6 h6 rfl (v := nI (n)) rfl dJx4a65c_grow_92f84_4 ?_
    refine lv_istore_n (lv' := [(2, .int (nI (n))), (0, .ref (ad kl)), (1, .int (nI (n + 1)))]) hx hb dJx4a65c_grow_92f84_5 rfl hl (by decide) rfl (fun ls hl => ?_)
    refine lv_iload_n hx hb dJx4a65c_grow_92f84_6 rfl (lv_at hl 0 rfl) ?_
    refine lv_if_gt (tgt := 20) hx hb dJx4a65c_grow_92f84_7 (by decide) (fun _ => ?_) (fun c9 => absurd (nI_lt (show 0 < n by omega) (by omega)) c9)
    refine lv_iload_n hx hb dJx4a65c_grow_92f84_20 rfl (lv_at hl 0 rfl) ?_
    refine lv_iload_n hx hb dJx4a65c_grow_92f84_21 rfl (lv_at hl 2 rfl) ?_
    refine lv_iload_n hx hb dJx4a65c_grow_92f84_22 rfl (lv_at hl 0 rfl) ?_
    refine lv_isub hx hb dJx4a65c_grow_92f84_23 ?_
    rw [show nI (n + 1) - nI n = nI 1 from by rw [pk_sub (by omega), Nat.add_sub_cancel_left]]
    refine lv_iload_n hx hb dJx4a65c_grow_92f84_24 rfl (lv_at hl 0 rfl) ?_
    refine lv_iconst (v := 1) hx hb dJx4a65c_grow_92f84_25 (by decide) ?_
    refine lv_ishr hx hb dJx4a65c_grow_92f84_26 ?_
    rw [show nI n >>> ((1 : Int32) &&& 31) = nI (n / 2) from pk_shrN (by omega) ((1 : Int32) &&& 31) 1 (by decide)]
    refine kk_i (va_runS (As := [.int (nI (n)), .int (nI 1), .int (nI (n / 2))]) (rest := []) ⟨hx, hb, hml, hown, hts⟩ (c_newLength l D A ad w n (n / 2) (by omega) (by omega)) (va_cwS 3 hts gJx4a65c_grow_92f84_J8_newLength_cabcc rfl rfl rfl (by decide +kernel) ⟨Nat.le_of_ble_eq_true rfl, Nat.le_of_ble_eq_true rfl⟩) (kSt hE hW _) rfl rfl hl.1 rfl (lv_room (Nat.le_of_ble_eq_true rfl)) dJx4a65c_grow_92f84_27 ⟨Nat.le_of_ble_eq_true rfl, Nat.le_of_ble_eq_true rfl⟩) hW (fun r9 ad6 w7 H10 locs hp8 hW => ?_)
    obtain ⟨e1, e2, e3⟩ := hp8
    rw [e2, e3] at hW
    subst e1
    refine lv_istore_n (lv' := [(3, .int (nI (n + n / 2))), (2, .int (nI (n))), (0, .ref (ad kl)), (1, .int (nI (n + 1)))]) hx hb dJx4a65c_grow_92f84_30 rfl hl (by decide) rfl (fun ls hl => ?_)
    refine lv_aload_n hx hb dJx4a65c_grow_92f84_31 rfl (lv_at hl 2 rfl) ?_
    refine lv_aload_n hx hb dJx4a65c_grow_92f84_32 rfl (lv_at hl 2 rfl) ?_
    refine kk_get hx hb hts hown hE hW h1 rfl hiRJx4a65c 1 (by decide) (hts (.fieldLink RJx4a65c 9 "java/util/ArrayList" "elementData" "[Ljava/lang/Object;") (by decide +kernel)) (fun _ h9 => h9) rfl dJx4a65c_grow_92f84_33 ?_
    refine lv_iload_n hx hb dJx4a65c_grow_92f84_36 rfl (lv_at hl 0 rfl) ?_
    refine kk_q (va_runS (As := [.ref (ad ka), .int (nI (n + n / 2))]) (rest := [.ref (ad kl)]) ⟨hx, hb, hml, hown, hts⟩ (c_copyOf2 l D A ad w ka ck n (n + n / 2) f h6 hka hk2 (fun i hi => by obtain ⟨⟨fs, g1⟩, g2, g3⟩ := hel i hi; exact ⟨key i, fs, g1, h5 i hi, g2⟩) (by omega) (by omega)) (va_cwS 2 hts gJx4a65c_grow_92f84_J7_copyOf_1904c rfl rfl rfl (by decide +kernel) ⟨Nat.le_of_ble_eq_true rfl, Nat.le_of_ble_eq_true rfl⟩) (kSt hE hW _) rfl rfl hl.1 rfl (lv_room (Nat.le_of_ble_eq_true rfl)) dJx4a65c_grow_92f84_37 ⟨Nat.le_of_ble_eq_true rfl, Nat.le_of_ble_eq_true rfl⟩) hW (fun r14 ad11 w12 H15 locs hp13 hW => ?_)
    obtain ⟨g, rfl, g1, g2, g3, g4⟩ := hp13
    have hW := hW.ren ka 7 hka
    obtain ⟨ad9, ea⟩ : ∃ z, z = va_up ad11 ka (ad11 7) := ⟨_, rfl⟩
    obtain ⟨w9, ew⟩ : ∃ z, z = va_up (va_up w12 ka (w12 7)) 7 none := ⟨_, rfl⟩
    rw [← ea, ← ew] at hW
    have a1 : ad9 kl = ad kl := (up_n ea hlk).trans (g4 kl hkl)
    have a2 : ad11 7 = ad9 ka := (up_s ea).symm
    have w7 : ∀ k, k ≠ ka → k ≠ 7 → w9 k = w k := fun k q1 q2 => (up_n ew q2).trans ((va_up_ne _ _ q1).trans (g3 k q2))
    have f1 := (w7 kl hlk hkl).trans h1
    have f2 : w9 ka = qA D (n + n / 2) g := (up_n ew hka).trans ((va_up_self _ _ _).trans g1)
    rw [← a1] at hl
    refine W.eq (g2 := F0 m 40 ls [.ref (ad9 ka), .ref (ad9 kl)]) (by rw [a1, ← a2]; rfl) ?_
    refine lv_dup_x1 hx hb dJx4a65c_grow_92f84_40 rfl rfl ?_
    refine kk_put hx hb hts hown hE hW f1 rfl hiRJx4a65c tyJx4a65c tyJx4a65c_ok nmJx4a65c 1 (by decide) (hts (.fieldLink RJx4a65c 9 "java/util/ArrayList" "elementData" "[Ljava/lang/Object;") (by decide +kernel)) (fun _ h9 => h9) rfl (ty := tyJx4a65c 1) (tyJx4a65c_ok 1 (by decide)) rfl rfl (Nat.le_of_ble_eq_true rfl) dJx4a65c_grow_92f84_41 (fun H18 locs w16 e17 hW => ?_)
    have f19 := (up_n e17 (Ne.symm hlk)).trans f2
    have f20 := up_s e17
    exact ke_q hx hb hr (Or.inr ⟨_, rfl⟩) hlocks (Nat.le_of_ble_eq_true rfl) (Nat.le_of_ble_eq_true rfl) dJx4a65c_grow_92f84_44 rfl hW (⟨n + n / 2, g, rfl, by omega, ⟨f20, by omega, by omega, Or.inr ⟨by omega, rfl, f19⟩, fun i hi => by rw [g2 i hi, h5 i hi, show ad9 (key i) = ad (key i) from (up_n ea (hel i hi).2.2).trans (g4 _ (hel i hi).2.1)]⟩, f19, by omega, by omega, fun k q1 q2 q3 => (up_n e17 q1).trans (w7 k q2 q3), fun k q2 q3 => (up_n ea q2).trans (g4 k q3)⟩)

set_option maxHeartbeats 4000000 in
set_option maxRecDepth 100000 in
/-- c_grow0 -/
theorem c_grow0 (l : Launch) (D : va_G) (A : Nat → Prop) (ad : Nat → Nat) (w : kWd) (kl ka ck n : Nat) (key : Nat → Nat) (mc : Int32) (f : Nat → Option Nat) (e0 : Nat) (hA9 : LX D kl ka n key ad w mc n f e0) (hn : n ≤ 600) (hka : ka ≠ 7) (hkl : kl ≠ 7) (hlk : kl ≠ ka) (hk2 : ck = 2 ∨ ck = 5) (hel : ∀ i, i < n → (∃ fs, w (key i) = some (.inr (ck, fs))) ∧ key i ≠ 7 ∧ key i ≠ ka)  : Met l yJx4a65c_grow_d5877 wsJx4a65c_grow_d5877 ({ frames := 4, cells := 1, slots := 2000, locals := 167 }) (kPc D A [.ref (ad kl)] ad w) (kQq D A (fun v ad' w' => ∃ cap g, v = some (ad' ka) ∧ n + 1 ≤ cap ∧ LX D kl ka n key ad' w' mc cap g (ad' ka) ∧ w' ka = qA D cap g ∧ cap ≤ 10 + 2 * n ∧ 2 ≤ cap ∧ FrL kl ka ad w ad' w')) 1 2000 A := by
  refine Met.ofW (cc := cJx4a65c_grow_d5877) (maxL := 1) (ret := (some (.array (.object "java/lang/Object")))) (by decide) rfl ?_
  intro p e s m args below meth c s₁ B hml hv
  obtain ⟨rfl, hE, hW0, hI0, hA⟩ := hv
  have hx := B.exec
  have hb := B.bytes
  have hr := B.returns
  have hts := atoms_spec (ws := wsJx4a65c_grow_d5877) B.pre
  have hown : s.vm.findClass RJx4a65c = some m.cls := findClass_of_methodNamed B.named
  have hlocks := B.notSynchronized
  have hiRJx4a65c : ∀ w ∈ wsJx4a65c0, w ∈ wsJx4a65c_grow_d5877 := by decide +kernel
  have hW : kS D A s.heap ad w s.heap [] := ⟨hW0, hI0, va_S.rf, hA⟩
  have hl := lv_entry ([.ref (ad kl)]) (n := 1) (Nat.le_of_ble_eq_true rfl)
  rw [lg_entry_eq]
  generalize (lg_sl ([.ref (ad kl)]) ++ List.replicate (1 - (lg_sl ([.ref (ad kl)])).length) Slot.unset).toArray = ls at hl ⊢
  have hl : lv_has ls 1 [(0, .ref (ad kl))] := hl
  refine lv_aload_n hx hb dJx4a65c_grow_d5877_0 rfl (lv_at hl 0 rfl) ?_
  refine lv_aload_n hx hb dJx4a65c_grow_d5877_1 rfl (lv_at hl 0 rfl) ?_
  refine kk_get hx hb hts hown hE hW hA9.1 rfl hiRJx4a65c 2 (by decide) (hts (.fieldLink RJx4a65c 48 "java/util/ArrayList" "size" "I") (by decide +kernel)) (fun _ h9 => h9) rfl dJx4a65c_grow_d5877_2 ?_
  refine lv_iconst (v := 1) hx hb dJx4a65c_grow_d5877_5 (by decide) ?_
  refine lv_iadd hx hb dJx4a65c_grow_d5877_6 ?_
  rw [nI_1]
  refine kk_q (va_runV (As := [.int (nI (n + 1))]) (rest := []) ⟨hx, hb, hml, hown, hts⟩ (c_growI l D A ad w kl ka ck n key mc f e0 hA9 hn hka hkl hlk hk2 hel) (cwV 1 hts gJx4a65c_grow_d5877_Jx4a65c_grow_92f84 rfl rfl rfl (by decide +kernel) ⟨Nat.le_of_ble_eq_true rfl, Nat.le_of_ble_eq_true rfl⟩) (kV hE hW hA9.1 rfl _) rfl rfl hl.1 rfl (lv_room (Nat.le_of_ble_eq_true rfl)) dJx4a65c_grow_d5877_7 ⟨Nat.le_of_ble_eq_true rfl, Nat.le_of_ble_eq_true rfl⟩) hW (fun r4 ad1 w2 H5 locs hp3 hW => ?_)
  exact ke_q hx hb hr (Or.inr ⟨_, rfl⟩) hlocks (Nat.le_of_ble_eq_true rfl) (Nat.le_of_ble_eq_true rfl) dJx4a65c_grow_d5877_10 rfl hW (hp3)

set_option maxHeartbeats 4000000 in
set_option maxRecDepth 100000 in
/-- c_add3 -/
theorem c_add3 (l : Launch) (D : va_G) (A : Nat → Prop) (ad : Nat → Nat) (w : kWd) (kl ka ck n ke : Nat) (key : Nat → Nat) (mc : Int32) (cap : Nat) (f : Nat → Option Nat) (e0 : Nat) (fe : List Value) (hA9 : LX D kl ka n key ad w mc cap f e0) (hn : n ≤ 600) (hka : ka ≠ 7) (hkl : kl ≠ 7) (hlk : kl ≠ ka) (hk2 : ck = 2 ∨ ck = 5) (hel : ∀ i, i < n → (∃ fs, w (key i) = some (.inr (ck, fs))) ∧ key i ≠ 7 ∧ key i ≠ ka) (hke : w ke = some (.inr (ck, fe))) (hkn : key n = ke) (hk7 : ke ≠ 7 ∧ ke ≠ ka ∧ ke ≠ kl) : Met l yJx4a65c_add_72be8 wsJx4a65c_add_72be8 ({ frames := 5, cells := 1, slots := 2000, locals := 187 }) (kPc D A [.ref (ad kl), .ref (ad ke), .ref e0, .int (nI n)] ad w) (kQv D A (fun ad' w' => AL D kl ka (n + 1) key ad' w' ∧ FrL kl ka ad w ad' w')) 1 2000 A := by
  refine Met.ofW (cc := cJx4a65c_add_72be8) (maxL := 4) (ret := none) (by decide) rfl ?_
  intro p e s m args below meth c s₁ B hml hv
  obtain ⟨rfl, hE, hW0, hI0, hA⟩ := hv
  have hx := B.exec
  have hb := B.bytes
  have hr := B.returns
  have hts := atoms_spec (ws := wsJx4a65c_add_72be8) B.pre
  have hown : s.vm.findClass RJx4a65c = some m.cls := findClass_of_methodNamed B.named
  have hlocks := B.notSynchronized
  have hiRJx4a65c : ∀ w ∈ wsJx4a65c0, w ∈ wsJx4a65c_add_72be8 := by decide +kernel
  have hW : kS D A s.heap ad w s.heap [] := ⟨hW0, hI0, va_S.rf, hA⟩
  have hl := lv_entry ([.ref (ad kl), .ref (ad ke), .ref e0, .int (nI n)]) (n := 4) (Nat.le_of_ble_eq_true rfl)
  rw [lg_entry_eq]
  generalize (lg_sl ([.ref (ad kl), .ref (ad ke), .ref e0, .int (nI n)]) ++ List.replicate (4 - (lg_sl ([.ref (ad kl), .ref (ad ke), .ref e0, .int (nI n)])).length) Slot.unset).toArray = ls at hl ⊢
  have hl : lv_has ls 4 [(0, .ref (ad kl)), (1, .ref (ad ke)), (2, .ref e0), (3, .int (nI n))] := hl
  obtain ⟨h1, h2, h3, h4, h5⟩ := id hA9
  refine lv_iload_n hx hb dJx4a65c_add_72be8_0 rfl (lv_at hl 3 rfl) ?_
  refine lv_aload_n hx hb dJx4a65c_add_72be8_1 rfl (lv_at hl 2 rfl) ?_
  refine W_join0 (P := True) (pj := 3) (rj := [.int (nI cap), .int (nI n)]) (lj := ls) (fun _ => ?_) (fun J3 => ?_)
  · by_cases hcn : n = cap
    · subst hcn
      refine lv_icmp_ne (tgt := 11) hx hb dJx4a65c_add_72be8_3 (by decide) (fun c9 => absurd c9 (fun q => q rfl)) (fun _ => ?_)
      refine lv_aload_n hx hb dJx4a65c_add_72be8_6 rfl (lv_at hl 0 rfl) ?_
      refine kk_q (va_runV (As := []) (rest := []) ⟨hx, hb, hml, hown, hts⟩ (c_grow0 l D A ad w kl ka ck n key mc f e0 hA9 hn hka hkl hlk hk2 hel) (cwV 0 hts gJx4a65c_add_72be8_Jx4a65c_grow_d5877 rfl rfl rfl (by decide +kernel) ⟨Nat.le_of_ble_eq_true rfl, Nat.le_of_ble_eq_true rfl⟩) (kV hE hW h1 rfl _) rfl rfl hl.1 rfl (lv_room (Nat.le_of_ble_eq_true rfl)) dJx4a65c_add_72be8_7 ⟨Nat.le_of_ble_eq_true rfl, Nat.le_of_ble_eq_true rfl⟩) hW (fun r4 ad1 w2 H5 locs hp3 hW => ?_)
      obtain ⟨cap, g, rfl, g1, g2, g3, g4, g5, g6⟩ := hp3
      have a1 : ad1 kl = ad kl := g6.2 kl hlk hkl
      have a2 : ad1 ke = ad ke := g6.2 ke hk7.2.1 hk7.1
      have g7 := (g6.1 ke hk7.2.2 hk7.2.1 hk7.1).trans hke
      rw [← a1, ← a2] at hl
      refine lv_astore_n (lv' := [(2, .ref (ad1 ka)), (0, .ref (ad1 kl)), (1, .ref (ad1 ke)), (3, .int (nI n))]) hx hb dJx4a65c_add_72be8_10 rfl hl (by decide) rfl (fun ls hl => ?_)
      refine lv_aload_n hx hb dJx4a65c_add_72be8_11 rfl (lv_at hl 0 rfl) ?_
      refine lv_iload_n hx hb dJx4a65c_add_72be8_12 rfl (lv_at hl 3 rfl) ?_
      refine lv_aload_n hx hb dJx4a65c_add_72be8_13 rfl (lv_at hl 2 rfl) ?_
      refine kk_aast hx hb hE hW 6 rfl g3 (kv := ke) g7 (r := vwCl.getD ck (RX1, TX1, 4)) (by rcases hk2 with rfl | rfl <;> rfl) (kAsg hE hk2 (by rcases hk2 with rfl | rfl <;> rfl)) (vp_in_nI (show n < cap by omega) (by omega)) dJx4a65c_add_72be8_14 (fun H locs w5 e5 hW => ?_)
      rw [show (nI n).toNatClampNeg = n from nv_nI (by omega)] at e5
      have k1 := (up_n e5 hlk).trans g2.1
      have k2 := up_s e5
      refine lv_aload_n hx hb dJx4a65c_add_72be8_15 rfl (lv_at hl 1 rfl) ?_
      refine lv_iload_n hx hb dJx4a65c_add_72be8_16 rfl (lv_at hl 3 rfl) ?_
      refine lv_iconst (v := 1) hx hb dJx4a65c_add_72be8_17 (by decide) ?_
      refine lv_iadd hx hb dJx4a65c_add_72be8_18 ?_
      rw [nI_1]
      refine kk_put hx hb hts hown hE hW k1 rfl hiRJx4a65c tyJx4a65c tyJx4a65c_ok nmJx4a65c 2 (by decide) (hts (.fieldLink RJx4a65c 48 "java/util/ArrayList" "size" "I") (by decide +kernel)) (fun _ h9 => h9) rfl (ty := tyJx4a65c 2) (tyJx4a65c_ok 2 (by decide)) rfl rfl (Nat.le_of_ble_eq_true rfl) dJx4a65c_add_72be8_19 (fun H8 locs w6 e7 hW => ?_)
      have f9 := (up_n e7 (Ne.symm hlk)).trans k2
      have f10 := up_s e7
      refine ke_v hx hb hr hlocks (Nat.le_of_ble_eq_true rfl) (Nat.le_of_ble_eq_true rfl) dJx4a65c_add_72be8_22 hW (⟨⟨_, _, _, _, f10, by omega, by omega, Or.inr ⟨by omega, rfl, f9⟩, fun i hi => ?_⟩, fun k q1 q2 q3 => (up_n e7 q1).trans ((up_n e5 q2).trans (g6.1 k q1 q2 q3)), fun k q2 q3 => g6.2 k q2 q3⟩)
      by_cases c : i = n
      · subst c
        rw [va_up_self, hkn]
      · rw [va_up_ne _ _ c]
        exact g2.2.2.2.2 i (by omega)
    · rcases h4 with ⟨h4, -⟩ | ⟨h4, rfl, h6⟩
      · omega
      refine lv_icmp_ne (tgt := 11) hx hb dJx4a65c_add_72be8_3 (by decide) (fun _ => ?_) (fun c9 => absurd c9 (fun q => hcn ((nI_eq (a := n) (b := cap) (by omega) (by omega)).mp q)))
      refine lv_aload_n hx hb dJx4a65c_add_72be8_11 rfl (lv_at hl 2 rfl) ?_
      refine lv_iload_n hx hb dJx4a65c_add_72be8_12 rfl (lv_at hl 3 rfl) ?_
      refine lv_aload_n hx hb dJx4a65c_add_72be8_13 rfl (lv_at hl 1 rfl) ?_
      refine kk_aast hx hb hE hW 6 rfl h6 (kv := ke) hke (r := vwCl.getD ck (RX1, TX1, 4)) (by rcases hk2 with rfl | rfl <;> rfl) (kAsg hE hk2 (by rcases hk2 with rfl | rfl <;> rfl)) (vp_in_nI (show n < cap by omega) (by omega)) dJx4a65c_add_72be8_14 (fun H locs w5 e5 hW => ?_)
      rw [show (nI n).toNatClampNeg = n from nv_nI (by omega)] at e5
      have k1 := (up_n e5 hlk).trans h1
      have k2 := up_s e5
      refine lv_aload_n hx hb dJx4a65c_add_72be8_15 rfl (lv_at hl 0 rfl) ?_
      refine lv_iload_n hx hb dJx4a65c_add_72be8_16 rfl (lv_at hl 3 rfl) ?_
      refine lv_iconst (v := 1) hx hb dJx4a65c_add_72be8_17 (by decide) ?_
      refine lv_iadd hx hb dJx4a65c_add_72be8_18 ?_
      rw [nI_1]
      refine kk_put hx hb hts hown hE hW k1 rfl hiRJx4a65c tyJx4a65c tyJx4a65c_ok nmJx4a65c 2 (by decide) (hts (.fieldLink RJx4a65c 48 "java/util/ArrayList" "size" "I") (by decide +kernel)) (fun _ h9 => h9) rfl (ty := tyJx4a65c 2) (tyJx4a65c_ok 2 (by decide)) rfl rfl (Nat.le_of_ble_eq_true rfl) dJx4a65c_add_72be8_19 (fun H13 locs w11 e12 hW => ?_)
      have f14 := (up_n e12 (Ne.symm hlk)).trans k2
      have f15 := up_s e12
      refine ke_v hx hb hr hlocks (Nat.le_of_ble_eq_true rfl) (Nat.le_of_ble_eq_true rfl) dJx4a65c_add_72be8_22 hW (⟨⟨_, _, _, _, f15, by omega, by omega, Or.inr ⟨by omega, rfl, f14⟩, fun i hi => ?_⟩, fun k q1 q2 q3 => (up_n e12 q1).trans ((up_n e5 q2).trans (rfl)), fun k q2 q3 => rfl⟩)
      by_cases c : i = n
      · subst c
        rw [va_up_self, hkn]
      · rw [va_up_ne _ _ c]
        exact h5 i (by omega)
  · rcases h4 with ⟨rfl, rfl⟩ | ⟨h4, rfl, h6⟩
    · refine va_tlen hx hb hE.2.2.2.2.1 hW.2.2.1 (v := nI 0) rfl dJx4a65c_add_72be8_2 ?_
      exact J3 trivial
    · refine kk_alen hx hb hE hW 6 h6 rfl (v := nI cap) rfl dJx4a65c_add_72be8_2 ?_
      exact J3 trivial

set_option maxHeartbeats 4000000 in
set_option maxRecDepth 100000 in
/-- c_add -/
theorem c_add (l : Launch) (D : va_G) (A : Nat → Prop) (ad : Nat → Nat) (w : kWd) (kl ka ck n ke : Nat) (key : Nat → Nat) (fe : List Value) (hA9 : AL D kl ka n key ad w) (hn : n ≤ 600) (hka : ka ≠ 7) (hkl : kl ≠ 7) (hlk : kl ≠ ka) (hk2 : ck = 2 ∨ ck = 5) (hel : ∀ i, i < n → (∃ fs, w (key i) = some (.inr (ck, fs))) ∧ key i ≠ 7 ∧ key i ≠ ka ∧ key i ≠ kl) (hke : w ke = some (.inr (ck, fe))) (hkn : key n = ke) (hk7 : ke ≠ 7 ∧ ke ≠ ka ∧ ke ≠ kl) : Met l yJx4a65c_add_9ea2d wsJx4a65c_add_9ea2d ({ frames := 6, cells := 1, slots := 2000, locals := 210 }) (kPc D A [.ref (ad kl), .ref (ad ke)] ad w) (kQi D A (fun v ad' w' => v = 1 ∧ AL D kl ka (n + 1) key ad' w' ∧ FrL kl ka ad w ad' w')) 1 2000 A := by
  refine Met.ofW (cc := cJx4a65c_add_9ea2d) (maxL := 2) (ret := (some (.boolean))) (by decide) rfl ?_
  intro p e s m args below meth c s₁ B hml hv
  obtain ⟨rfl, hE, hW0, hI0, hA⟩ := hv
  have hx := B.exec
  have hb := B.bytes
  have hr := B.returns
  have hts := atoms_spec (ws := wsJx4a65c_add_9ea2d) B.pre
  have hown : s.vm.findClass RJx4a65c = some m.cls := findClass_of_methodNamed B.named
  have hlocks := B.notSynchronized
  have hiRJx4a65c : ∀ w ∈ wsJx4a65c0, w ∈ wsJx4a65c_add_9ea2d := by decide +kernel
  have hW : kS D A s.heap ad w s.heap [] := ⟨hW0, hI0, va_S.rf, hA⟩
  have hl := lv_entry ([.ref (ad kl), .ref (ad ke)]) (n := 2) (Nat.le_of_ble_eq_true rfl)
  rw [lg_entry_eq]
  generalize (lg_sl ([.ref (ad kl), .ref (ad ke)]) ++ List.replicate (2 - (lg_sl ([.ref (ad kl), .ref (ad ke)])).length) Slot.unset).toArray = ls at hl ⊢
  have hl : lv_has ls 2 [(0, .ref (ad kl)), (1, .ref (ad ke))] := hl
  obtain ⟨mc, cap, f, e0, h1, h2, h3, h4, h5⟩ := hA9
  refine lv_aload_n hx hb dJx4a65c_add_9ea2d_0 rfl (lv_at hl 0 rfl) ?_
  refine lv_dup hx hb dJx4a65c_add_9ea2d_1 rfl ?_
  refine kk_get hx hb hts hown hE hW h1 rfl hiRJx4a65c 0 (by decide) (hts (.fieldLink RJx4a65c 63 "java/util/ArrayList" "modCount" "I") (by decide +kernel)) (fun x9 h9 => u_same (hts (.sameField "java/util/ArrayList" "java/util/AbstractList" "modCount" "I") (by decide +kernel)) x9 h9) rfl dJx4a65c_add_9ea2d_2 ?_
  refine lv_iconst (v := 1) hx hb dJx4a65c_add_9ea2d_5 (by decide) ?_
  refine lv_iadd hx hb dJx4a65c_add_9ea2d_6 ?_
  refine kk_put hx hb hts hown hE hW h1 rfl hiRJx4a65c tyJx4a65c tyJx4a65c_ok nmJx4a65c 0 (by decide) (hts (.fieldLink RJx4a65c 63 "java/util/ArrayList" "modCount" "I") (by decide +kernel)) (fun x9 h9 => u_same (hts (.sameField "java/util/ArrayList" "java/util/AbstractList" "modCount" "I") (by decide +kernel)) x9 h9) rfl (ty := tyJx4a65c 0) (tyJx4a65c_ok 0 (by decide)) rfl rfl (Nat.le_of_ble_eq_true rfl) dJx4a65c_add_9ea2d_7 (fun H3 locs w1 e2 hW => ?_)
  have f4 := up_s e2
  have hA9 : LX D kl ka n key ad w1 (mc + 1) cap f e0 := ⟨f4, h2, h3, h4.imp id (fun q => ⟨q.1, q.2.1, (up_n e2 (Ne.symm hlk)).trans q.2.2⟩), h5⟩
  have hel9 : ∀ i, i < n → (∃ fs, w1 (key i) = some (.inr (ck, fs))) ∧ key i ≠ 7 ∧ key i ≠ ka := fun i hi => ⟨by obtain ⟨⟨fs, q⟩, q1, q2, q3⟩ := hel i hi; exact ⟨fs, (up_n e2 q3).trans q⟩, (hel i hi).2.1, (hel i hi).2.2.1⟩
  refine lv_aload_n hx hb dJx4a65c_add_9ea2d_10 rfl (lv_at hl 0 rfl) ?_
  refine lv_aload_n hx hb dJx4a65c_add_9ea2d_11 rfl (lv_at hl 1 rfl) ?_
  refine lv_aload_n hx hb dJx4a65c_add_9ea2d_12 rfl (lv_at hl 0 rfl) ?_
  refine kk_get hx hb hts hown hE hW f4 rfl hiRJx4a65c 1 (by decide) (hts (.fieldLink RJx4a65c 9 "java/util/ArrayList" "elementData" "[Ljava/lang/Object;") (by decide +kernel)) (fun _ h9 => h9) rfl dJx4a65c_add_9ea2d_13 ?_
  refine lv_aload_n hx hb dJx4a65c_add_9ea2d_16 rfl (lv_at hl 0 rfl) ?_
  refine kk_get hx hb hts hown hE hW f4 rfl hiRJx4a65c 2 (by decide) (hts (.fieldLink RJx4a65c 48 "java/util/ArrayList" "size" "I") (by decide +kernel)) (fun _ h9 => h9) rfl dJx4a65c_add_9ea2d_17 ?_
  refine kk_v (va_runV (As := [.ref (ad ke), .ref e0, .int (nI n)]) (rest := []) ⟨hx, hb, hml, hown, hts⟩ (c_add3 l D A ad w1 kl ka ck n ke key (mc + 1) cap f e0 fe hA9 hn hka hkl hlk hk2 hel9 ((up_n e2 hk7.2.2).trans hke) hkn hk7) (cwV 3 hts gJx4a65c_add_9ea2d_Jx4a65c_add_72be8 rfl rfl rfl (by decide +kernel) ⟨Nat.le_of_ble_eq_true rfl, Nat.le_of_ble_eq_true rfl⟩) (kV hE hW f4 rfl _) rfl rfl hl.1 rfl (lv_room (Nat.le_of_ble_eq_true rfl)) dJx4a65c_add_9ea2d_20 ⟨Nat.le_of_ble_eq_true rfl, Nat.le_of_ble_eq_true rfl⟩) hW (fun ad5 w6 H9 locs hp7 hW => ?_)
  refine lv_iconst (v := 1) hx hb dJx4a65c_add_9ea2d_23 (by decide) ?_
  exact ke_z hx hb hr hlocks (Nat.le_of_ble_eq_true rfl) (Nat.le_of_ble_eq_true rfl) dJx4a65c_add_9ea2d_24 (Or.inr rfl) hW (⟨rfl, hp7.1, fun k q1 q2 q3 => (hp7.2.1 k q1 q2 q3).trans (up_n e2 q1), fun k q2 q3 => hp7.2.2 k q2 q3⟩)
end
section
/-! what the class throws -/
abbrev xNM : List String := ["java/lang/RuntimeException", "java/lang/Exception"]
abbrev xIO : String := "java/lang/IndexOutOfBoundsException"
abbrev xIA : String := "java/lang/IllegalArgumentException"
abbrev xIS : String := "java/lang/IllegalStateException"
abbrev xNS : String := "java/util/NoSuchElementException"
/-- an exception's words: those that aren't good are of kN -/
def kFit (ik ic : Nat) (X : String) : Prop := Bundle.fit X = true ∧ (∀ n ∈ xNM, Bundle.fit n = true) ∧ (∀ w ∈ (vx_atS RX5 ic X xNM).filter (fun w => !goodWord w), w ∈ kN) ∧ ∀ w ∈ Cond.classLink RX5 ik X :: Cond.initialized X :: vx_atS RX5 ic X xNM, vx_ot w = true
theorem kf_IO : kFit 189 193 xIO := ⟨by decide +kernel, by decide +kernel, by decide +kernel, by decide +kernel⟩
theorem kf_IA : kFit 48 52 xIA := ⟨by decide +kernel, by decide +kernel, by decide +kernel, by decide +kernel⟩
theorem kf_IS : kFit 59 63 xIS := ⟨by decide +kernel, by decide +kernel, by decide +kernel, by decide +kernel⟩
theorem kf_NS : kFit 231 235 xNS := ⟨by decide +kernel, by decide +kernel, by decide +kernel, by decide +kernel⟩
theorem kN_tab : ∀ w ∈ kN, w.onTables = true := by decide +kernel
section KTH
variable {p : Program} {l : Launch} {e : Env} {R : Room} {s : State} {m : MethodId} {args : Array Value} {below : List Frame} {meth : Method} {c : Code} {H : Heap} {locs : List Loc} {cells slots : Nat}
variable {cc : ByteArray} {pc : Nat} {ls : Array Slot} {rest : List Value} {D : va_G} {A : Nat → Prop} {ad : Nat → Nat} {w : kWd} {mc ms : Nat} {Qc : Array Value → State → Outcome → State → Prop}
theorem kk_throw {ik ic is : Nat} {X tx : String} {px : String → Prop} (hf : kFit ik ic X) (hx : p.tables.exec = Jvm.exec) (hb : c.code = cc) (hnt : l.stackTraces = false) (hown : s.vm.findClass RX5 = some m.cls)
    (hg : ∀ w ∈ (vx_atS RX5 ic X xNM).filter goodWord, w.before args s = true) (hk : (Cond.classLink RX5 ik X).before args s = true) (hini : (Cond.initialized X).before args s = true) (hE : kE D A s) (hW : kS D A s.heap ad w H locs) (hsize : ls.size = c.maxLocals) (hstr : ∃ sa, vk_R RX5 is tx sa s)
    (d0 : decode cc pc = .ok (.new ik, 3)) (d3 : decode cc (pc + 3) = .ok (.dup, 1)) (d4 : decode cc (pc + 4) = .ok (.ldc is, 2)) (d6 : decode cc (pc + 6) = .ok (.invokespecial ic, 3)) (d9 : decode cc (pc + 9) = .ok (.athrow, 1))
    (hout : ∀ x ∈ c.exceptionTable.toList, False) (hR : 5 < R.frames ∧ (rest.map fun v => v.category).sum + 82 ≤ R.locals ∧ cells + 1 ≤ R.cells ∧ slots + 6 ≤ R.slots) (hlocks : meth.locks = false) (hp : px X) (hc : cells + 1 ≤ mc) (hs : slots + 6 ≤ ms) :
    W p l e R s m args below meth c H locs cells slots (vx_MQ below Qc (kX D A px ad w) args s mc ms A) (F0 m pc ls rest) := by
  obtain ⟨sa, hsa⟩ := hstr
  refine vx_throwS (A := A) hx hb hnt hown hf.1 hf.2.1 hk hini hsa (vx_hat hg hf.2.2.1 (fun w hw => va_Nw.use (kN_tab w hw) (hE.2.2.2.2.2.1 w hw))) hf.2.2.2 hE.2.1 hE.2.2.1 hW.2.2.1 hsize d0 d3 d4 d6 d9 (fun x hx => (hout x hx).elim) hR.1 hR.2.1 hR.2.2.1 hR.2.2.2 hlocks (fun t _ hz hq => ⟨(), trivial, ⟨hp, fun k x hk => (hW.1 k x hk).kept (hq _ (hW.1 k x hk).lt)⟩, ?_⟩) hW.2.2.1.2.2 hc hs
  exact ⟨Nat.le_trans hW.2.2.1.1 hz, fun q h1 h2 => (hq q (Nat.lt_of_lt_of_le h1 hW.2.2.1.1)).trans (hW.2.2.1.2.1 q h1 h2)⟩
theorem kk_cast (hx : p.tables.exec = Jvm.exec) (hb : c.code = cc) {own : String} {Q : State → Prop} {index k ci N : Nat} {nm : String} {T : u_T} {fs : List Value} (hown : s.vm.findClass own = some m.cls) (hlink : (Cond.classLink own index nm).before args s = true) (hE : kE D A s) (hW : kS D A s.heap ad w H locs) (he : w k = some (.inr (ci, fs))) (hc : vwCl[ci]? = some (nm, T, N)) (hdg : decode cc pc = .ok (.checkcast index, 3))
    (kk : W p l e R s m args below meth c H locs cells slots Q (F0 m (pc + 3) ls (.ref (ad k) :: rest))) : W p l e R s m args below meth c H locs cells slots Q (F0 m pc ls (.ref (ad k) :: rest)) :=
  va_castS hx hb hown hlink (hE.K.1 ci _ hc).2 (va_recv hE.K (hW.P1 he) (q0 := 0) hc rfl) hdg kk
end KTH
end
section
/-! the class's world by the reference's state. Keys: 0 the cellar, 1 blocks, 2 rows, 3, 4 the lists, 5, 6 their arrays, 10.. blocks, 13.. their slots' arrays, 16.. slots, 24.. rows, 100 + 2t transactions, 101 + 2k changes -/
abbrev tkey (t : Nat) : Nat := 100 + 2 * t
abbrev ckey (k : Nat) : Nat := 101 + 2 * k
def hold (ad : Nat → Nat) (S : St) (i : Nat) : Option Nat := if S 8 i = -1 then none else some (ad (tkey (nv (S 8 i))))
abbrev tCell (S : St) (nC t : Nat) : va_E := .inr (5, [.int (nI t), .int (S 2 t), .int (bI (S 1 t = 0)), .int (if S 1 t = 1 then S 3 t else -1), .int (stL S (nI t) nC)])
abbrev cCell (ad : Nat → Nat) (S : St) (k : Nat) : va_E := .inr (2, [.ref (ad (tkey (nv (S 4 k)))), .ref (ad (24 + nv (S 5 k))), .int (S 6 k), .int (S 7 k)])
abbrev sCell (ad : Nat → Nat) (S : St) (i : Nat) : va_E := .inr (4, [va_rf (hold ad S i), .int (S 9 i)])
abbrev rCell (ad : Nat → Nat) (S : St) (r : Nat) : va_E := .inr (3, [.ref (ad (10 + r / 4)), .int (S 0 r)])
abbrev uCell (ad : Nat → Nat) (S : St) : va_E := .inr (6, [.ref (ad 1), .ref (ad 2), .ref (ad 3), .ref (ad 4), .int (S 10 0), .int (S 11 0), .int (S 15 0), .int (S 14 0)])
abbrev qR (c n : Nat) (f : Nat → Option Nat) : va_E := .inl (c, n, .inr (.inr (.inr (.inr f))))
def CW (D : va_G) (S : St) (ad : Nat → Nat) (w : kWd) (nT nC : Nat) : Prop :=
  w 0 = some (uCell ad S) ∧ (∃ f, w 1 = some (qR (D.1 103) 3 f) ∧ ∀ i, i < 3 → f i = some (ad (10 + i))) ∧ (∃ f, w 2 = some (qR (D.1 104) 12 f) ∧ ∀ i, i < 12 → f i = some (ad (24 + i))) ∧
  AL D 3 5 nT tkey ad w ∧ AL D 4 6 nC ckey ad w ∧ (∀ b, b < 3 → w (10 + b) = some (.inr (1, [.ref (ad (13 + b))])) ∧ ∃ f, w (13 + b) = some (qR (D.1 105) 2 f) ∧ ∀ j, j < 2 → f j = some (ad (16 + (2 * b + j)))) ∧
  (∀ i, i < 6 → w (16 + i) = some (sCell ad S i)) ∧ (∀ r, r < 12 → w (24 + r) = some (rCell ad S r)) ∧ (∀ t, t < nT → w (tkey t) = some (tCell S nC t)) ∧ ∀ k, k < nC → w (ckey k) = some (cCell ad S k)
/-- what the state's numbers are -/
def SN (S : St) (nT nC nD nM nZ : Nat) : Prop := S 12 0 = nI nT ∧ S 13 0 = nI nC ∧ S 14 0 = nI nD ∧ S 11 0 = nI nM ∧ S 10 0 = nI nZ ∧ nT ≤ 60 ∧ nC ≤ 512 ∧ nD ≤ nC ∧ nM ≤ 512 ∧ 1 ≤ nZ ∧ nZ ≤ 30 ∧ nC - nD ≤ nZ ∧
  (∀ k, k < nC → (∃ t, t < nT ∧ S 4 k = nI t) ∧ (∃ r, r < 12 ∧ S 5 k = nI r) ∧ (S 7 k = 0 ∨ S 7 k = 1)) ∧ (∀ k, nC ≤ k → S 7 k = 0) ∧
  (∀ i, i < 6 → (S 8 i = -1 ∨ ∃ t, t < nT ∧ S 8 i = nI t) ∧ (S 9 i = 0 ∨ S 9 i = 1)) ∧ (∀ t, t < 60 → S 1 t = 0 ∨ S 1 t = 1 ∨ S 1 t = 2) ∧ (∀ t, nT ≤ t → S 1 t = 0) ∧ (∀ t, t < nT → S 1 t = 1 → ∃ j, 1 ≤ j ∧ j ≤ nM ∧ S 3 t = nI j) ∧ (∀ t, t < nT → ∃ j, j ≤ nM ∧ S 2 t = nI j)
section CWs
variable {D : va_G} {S : St} {ad : Nat → Nat} {w : kWd} {nT nC nD nM nZ : Nat}
theorem CW.u (h : CW D S ad w nT nC) : w 0 = some (uCell ad S) := h.1
theorem CW.bs (h : CW D S ad w nT nC) : ∃ f, w 1 = some (qR (D.1 103) 3 f) ∧ ∀ i, i < 3 → f i = some (ad (10 + i)) := h.2.1
theorem CW.rs (h : CW D S ad w nT nC) : ∃ f, w 2 = some (qR (D.1 104) 12 f) ∧ ∀ i, i < 12 → f i = some (ad (24 + i)) := h.2.2.1
theorem CW.lt (h : CW D S ad w nT nC) : AL D 3 5 nT tkey ad w := h.2.2.2.1
theorem CW.lc (h : CW D S ad w nT nC) : AL D 4 6 nC ckey ad w := h.2.2.2.2.1
theorem CW.b (h : CW D S ad w nT nC) {b : Nat} (hb : b < 3) : w (10 + b) = some (.inr (1, [.ref (ad (13 + b))])) := (h.2.2.2.2.2.1 b hb).1
theorem CW.sa (h : CW D S ad w nT nC) {b : Nat} (hb : b < 3) : ∃ f, w (13 + b) = some (qR (D.1 105) 2 f) ∧ ∀ j, j < 2 → f j = some (ad (16 + (2 * b + j))) := (h.2.2.2.2.2.1 b hb).2
theorem CW.s (h : CW D S ad w nT nC) {i : Nat} (hi : i < 6) : w (16 + i) = some (sCell ad S i) := h.2.2.2.2.2.2.1 i hi
theorem CW.r (h : CW D S ad w nT nC) {r : Nat} (hr : r < 12) : w (24 + r) = some (rCell ad S r) := h.2.2.2.2.2.2.2.1 r hr
theorem CW.t (h : CW D S ad w nT nC) {t : Nat} (ht : t < nT) : w (tkey t) = some (tCell S nC t) := h.2.2.2.2.2.2.2.2.1 t ht
theorem CW.c (h : CW D S ad w nT nC) {k : Nat} (hk : k < nC) : w (ckey k) = some (cCell ad S k) := h.2.2.2.2.2.2.2.2.2 k hk
theorem SN.by (h : SN S nT nC nD nM nZ) {k : Nat} (hk : k < nC) : ∃ t, t < nT ∧ S 4 k = nI t := (h.2.2.2.2.2.2.2.2.2.2.2.2.1 k hk).1
theorem SN.ro (h : SN S nT nC nD nM nZ) {k : Nat} (hk : k < nC) : ∃ r, r < 12 ∧ S 5 k = nI r := (h.2.2.2.2.2.2.2.2.2.2.2.2.1 k hk).2.1
theorem SN.vo (h : SN S nT nC nD nM nZ) {k : Nat} (hk : k < nC) : S 7 k = 0 ∨ S 7 k = 1 := (h.2.2.2.2.2.2.2.2.2.2.2.2.1 k hk).2.2
theorem SN.vn (h : SN S nT nC nD nM nZ) {k : Nat} (hk : nC ≤ k) : S 7 k = 0 := h.2.2.2.2.2.2.2.2.2.2.2.2.2.1 k hk
theorem SN.sl (h : SN S nT nC nD nM nZ) {i : Nat} (hi : i < 6) : S 8 i = -1 ∨ ∃ t, t < nT ∧ S 8 i = nI t := (h.2.2.2.2.2.2.2.2.2.2.2.2.2.2.1 i hi).1
theorem SN.en (h : SN S nT nC nD nM nZ) {i : Nat} (hi : i < 6) : S 9 i = 0 ∨ S 9 i = 1 := (h.2.2.2.2.2.2.2.2.2.2.2.2.2.2.1 i hi).2
theorem SN.st (h : SN S nT nC nD nM nZ) {t : Nat} (ht : t < 60) : S 1 t = 0 ∨ S 1 t = 1 ∨ S 1 t = 2 := h.2.2.2.2.2.2.2.2.2.2.2.2.2.2.2.1 t ht
theorem SN.s0 (h : SN S nT nC nD nM nZ) {t : Nat} (ht : nT ≤ t) : S 1 t = 0 := h.2.2.2.2.2.2.2.2.2.2.2.2.2.2.2.2.1 t ht
theorem SN.ca (h : SN S nT nC nD nM nZ) {t : Nat} (ht : t < nT) (h1 : S 1 t = 1) : ∃ j, 1 ≤ j ∧ j ≤ nM ∧ S 3 t = nI j := h.2.2.2.2.2.2.2.2.2.2.2.2.2.2.2.2.2.1 t ht h1
theorem SN.be (h : SN S nT nC nD nM nZ) {t : Nat} (ht : t < nT) : ∃ j, j ≤ nM ∧ S 2 t = nI j := h.2.2.2.2.2.2.2.2.2.2.2.2.2.2.2.2.2.2 t ht
end CWs
end
section
theorem zz_last : True := trivial
end
